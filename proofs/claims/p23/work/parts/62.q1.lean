/-! THE CLASS: out of the rows of whole -/
set_option maxRecDepth 20000 in
set_option maxHeartbeats 2000000 in
theorem gapDetail_1 {p : Nat} {v : Int32} {σ : Sg} (hp : p < 160) (hv : σ 61 p = v) : CM mX6_gapDetail [ar 33, ai (nI p), ai (nI 1)] σ (Ret v σ) := by
  refine CM_in (ls := [some (ar 33), some (ai (nI p)), some (ai (nI 1))]) rfl ?_
  refine g_iload_n (p0 := 1) (i := 2) dX6_gapDetail_0 rfl rfl rfl ?_
  refine g_look (tgt := 28) (off := 27) dX6_gapDetail_1 (by decide +kernel) (by decide +kernel) rfl ?_
  refine g_aload_n (p0 := 29) (i := 0) dX6_gapDetail_28 rfl rfl rfl ?_
  refine g_getR (p0 := 32) dX6_gapDetail_29 fX6_30 (by first | rfl | assumption | exact RW.s (by assumption) | exact TW.s (by assumption)) rfl rfl ?_
  refine g_iload_n (p0 := 33) (i := 1) dX6_gapDetail_32 rfl rfl rfl ?_
  refine g_cV1R (p0 := 36) (r1 := mX7_at) dX6_gapDetail_33 lX6_68 vX7_at (by first | rfl | assumption | exact RW.s (by assumption) | exact TW.s (by assumption)) ⟨_, _, rfl⟩ (FITi rfl rfl) (Nat.le_of_ble_eq_true rfl) (at_N (by first | exact ⟨rfl, rfl, by decide⟩ | assumption) hp hv) rfl ?_
  refine g_ireturn dX6_gapDetail_36 rfl rfl (?_)
  exact ⟨rfl, rfl⟩
set_option maxRecDepth 20000 in
set_option maxHeartbeats 2000000 in
theorem gapDetail_2 {p : Nat} {v : Int32} {σ : Sg} (hp : p < 160) (hv : σ 63 p = v) : CM mX6_gapDetail [ar 33, ai (nI p), ai (nI 2)] σ (Ret v σ) := by
  refine CM_in (ls := [some (ar 33), some (ai (nI p)), some (ai (nI 2))]) rfl ?_
  refine g_iload_n (p0 := 1) (i := 2) dX6_gapDetail_0 rfl rfl rfl ?_
  refine g_look (tgt := 37) (off := 36) dX6_gapDetail_1 (by decide +kernel) (by decide +kernel) rfl ?_
  refine g_aload_n (p0 := 38) (i := 0) dX6_gapDetail_37 rfl rfl rfl ?_
  refine g_getR (p0 := 41) dX6_gapDetail_38 fX6_34 (by first | rfl | assumption | exact RW.s (by assumption) | exact TW.s (by assumption)) rfl rfl ?_
  refine g_iload_n (p0 := 42) (i := 1) dX6_gapDetail_41 rfl rfl rfl ?_
  refine g_cV1R (p0 := 45) (r1 := mX7_at) dX6_gapDetail_42 lX6_68 vX7_at (by first | rfl | assumption | exact RW.s (by assumption) | exact TW.s (by assumption)) ⟨_, _, rfl⟩ (FITi rfl rfl) (Nat.le_of_ble_eq_true rfl) (at_N (by first | exact ⟨rfl, rfl, by decide⟩ | assumption) hp hv) rfl ?_
  refine g_ireturn dX6_gapDetail_45 rfl rfl (?_)
  exact ⟨rfl, rfl⟩
set_option maxRecDepth 20000 in
set_option maxHeartbeats 2000000 in
theorem gapDetail_3 {p : Nat} {v : Int32} {σ : Sg} (hp : p < 160) (hv : σ 65 p = v) : CM mX6_gapDetail [ar 33, ai (nI p), ai (nI 3)] σ (Ret v σ) := by
  refine CM_in (ls := [some (ar 33), some (ai (nI p)), some (ai (nI 3))]) rfl ?_
  refine g_iload_n (p0 := 1) (i := 2) dX6_gapDetail_0 rfl rfl rfl ?_
  refine g_look (tgt := 46) (off := 45) dX6_gapDetail_1 (by decide +kernel) (by decide +kernel) rfl ?_
  refine g_aload_n (p0 := 47) (i := 0) dX6_gapDetail_46 rfl rfl rfl ?_
  refine g_getR (p0 := 50) dX6_gapDetail_47 fX6_37 (by first | rfl | assumption | exact RW.s (by assumption) | exact TW.s (by assumption)) rfl rfl ?_
  refine g_iload_n (p0 := 51) (i := 1) dX6_gapDetail_50 rfl rfl rfl ?_
  refine g_cV1R (p0 := 54) (r1 := mX7_at) dX6_gapDetail_51 lX6_68 vX7_at (by first | rfl | assumption | exact RW.s (by assumption) | exact TW.s (by assumption)) ⟨_, _, rfl⟩ (FITi rfl rfl) (Nat.le_of_ble_eq_true rfl) (at_N (by first | exact ⟨rfl, rfl, by decide⟩ | assumption) hp hv) rfl ?_
  refine g_ireturn dX6_gapDetail_54 rfl rfl (?_)
  exact ⟨rfl, rfl⟩
set_option maxRecDepth 20000 in
set_option maxHeartbeats 2000000 in
theorem placeDetail_4 {p : Nat} {v : Int32} {σ : Sg} (hp : p < 160) (hv : σ 67 p = v) : CM mX6_placeDetail [ar 33, ai (nI p), ai (nI 4)] σ (Ret v σ) := by
  refine CM_in (ls := [some (ar 33), some (ai (nI p)), some (ai (nI 4))]) rfl ?_
  refine g_iload_n (p0 := 1) (i := 2) dX6_placeDetail_0 rfl rfl rfl ?_
  refine g_look (tgt := 28) (off := 27) dX6_placeDetail_1 (by decide +kernel) (by decide +kernel) rfl ?_
  refine g_aload_n (p0 := 29) (i := 0) dX6_placeDetail_28 rfl rfl rfl ?_
  refine g_getR (p0 := 32) dX6_placeDetail_29 fX6_40 (by first | rfl | assumption | exact RW.s (by assumption) | exact TW.s (by assumption)) rfl rfl ?_
  refine g_iload_n (p0 := 33) (i := 1) dX6_placeDetail_32 rfl rfl rfl ?_
  refine g_cV1R (p0 := 36) (r1 := mX7_at) dX6_placeDetail_33 lX6_68 vX7_at (by first | rfl | assumption | exact RW.s (by assumption) | exact TW.s (by assumption)) ⟨_, _, rfl⟩ (FITi rfl rfl) (Nat.le_of_ble_eq_true rfl) (at_N (by first | exact ⟨rfl, rfl, by decide⟩ | assumption) hp hv) rfl ?_
  refine g_ireturn dX6_placeDetail_36 rfl rfl (?_)
  exact ⟨rfl, rfl⟩
set_option maxRecDepth 20000 in
set_option maxHeartbeats 2000000 in
theorem placeDetail_5 {p : Nat} {v : Int32} {σ : Sg} (hp : p < 160) (hv : σ 69 p = v) : CM mX6_placeDetail [ar 33, ai (nI p), ai (nI 5)] σ (Ret v σ) := by
  refine CM_in (ls := [some (ar 33), some (ai (nI p)), some (ai (nI 5))]) rfl ?_
  refine g_iload_n (p0 := 1) (i := 2) dX6_placeDetail_0 rfl rfl rfl ?_
  refine g_look (tgt := 37) (off := 36) dX6_placeDetail_1 (by decide +kernel) (by decide +kernel) rfl ?_
  refine g_aload_n (p0 := 38) (i := 0) dX6_placeDetail_37 rfl rfl rfl ?_
  refine g_getR (p0 := 41) dX6_placeDetail_38 fX6_43 (by first | rfl | assumption | exact RW.s (by assumption) | exact TW.s (by assumption)) rfl rfl ?_
  refine g_iload_n (p0 := 42) (i := 1) dX6_placeDetail_41 rfl rfl rfl ?_
  refine g_cV1R (p0 := 45) (r1 := mX7_at) dX6_placeDetail_42 lX6_68 vX7_at (by first | rfl | assumption | exact RW.s (by assumption) | exact TW.s (by assumption)) ⟨_, _, rfl⟩ (FITi rfl rfl) (Nat.le_of_ble_eq_true rfl) (at_N (by first | exact ⟨rfl, rfl, by decide⟩ | assumption) hp hv) rfl ?_
  refine g_ireturn dX6_placeDetail_45 rfl rfl (?_)
  exact ⟨rfl, rfl⟩
set_option maxRecDepth 20000 in
set_option maxHeartbeats 2000000 in
theorem placeDetail_6 {p : Nat} {v : Int32} {σ : Sg} (hp : p < 160) (hv : σ 71 p = v) : CM mX6_placeDetail [ar 33, ai (nI p), ai (nI 6)] σ (Ret v σ) := by
  refine CM_in (ls := [some (ar 33), some (ai (nI p)), some (ai (nI 6))]) rfl ?_
  refine g_iload_n (p0 := 1) (i := 2) dX6_placeDetail_0 rfl rfl rfl ?_
  refine g_look (tgt := 46) (off := 45) dX6_placeDetail_1 (by decide +kernel) (by decide +kernel) rfl ?_
  refine g_aload_n (p0 := 47) (i := 0) dX6_placeDetail_46 rfl rfl rfl ?_
  refine g_getR (p0 := 50) dX6_placeDetail_47 fX6_46 (by first | rfl | assumption | exact RW.s (by assumption) | exact TW.s (by assumption)) rfl rfl ?_
  refine g_iload_n (p0 := 51) (i := 1) dX6_placeDetail_50 rfl rfl rfl ?_
  refine g_cV1R (p0 := 54) (r1 := mX7_at) dX6_placeDetail_51 lX6_68 vX7_at (by first | rfl | assumption | exact RW.s (by assumption) | exact TW.s (by assumption)) ⟨_, _, rfl⟩ (FITi rfl rfl) (Nat.le_of_ble_eq_true rfl) (at_N (by first | exact ⟨rfl, rfl, by decide⟩ | assumption) hp hv) rfl ?_
  refine g_ireturn dX6_placeDetail_54 rfl rfl (?_)
  exact ⟨rfl, rfl⟩
set_option maxRecDepth 20000 in
set_option maxHeartbeats 2000000 in
theorem sO_ca {x y : Int32} {σ : Sg} (h : CM mX8_hasStroke [ar 1, ai x] σ (Ret (nI 0) σ)) : CM mX9_strokeOf [ar 0, ai x, ai y] σ (Ret (-1000001) σ) := by
  refine CM_in (ls := [some (ar 0), some (ai x), some (ai y)]) rfl ?_
  refine g_aload_n (p0 := 1) (i := 0) dX9_strokeOf_0 rfl rfl rfl ?_
  refine g_getR (p0 := 4) dX9_strokeOf_1 fX9_10 (by first | rfl | assumption | exact RW.s (by assumption) | exact TW.s (by assumption)) rfl rfl ?_
  refine g_iload_n (p0 := 5) (i := 1) dX9_strokeOf_4 rfl rfl rfl ?_
  refine g_cV1R (p0 := 8) (r1 := mX8_hasStroke) dX9_strokeOf_5 lX9_107 vX8_hasStroke (by first | rfl | assumption | exact RW.s (by assumption) | exact TW.s (by assumption)) ⟨_, _, rfl⟩ (FITi rfl rfl) (Nat.le_of_ble_eq_true rfl) (h) rfl ?_
  first | ((with_reducible refine isN1 ?_); refine g_ifN_eq (tgt := 21) (p1 := 11) dX9_strokeOf_8 rfl (by omega) rfl (fun c_8 => ?_) (fun c_8 => by exfalso; first | omega | contradiction | exact absurd (by assumption) c_8 | (simp_all; done))) | refine g_if_eq (tgt := 21) (p1 := 11) dX9_strokeOf_8 rfl rfl (fun c_8 => ?_) (fun c_8 => by exfalso; first | omega | contradiction | exact absurd (by assumption) c_8 | (simp_all; done))
  refine g_ldc (p0 := 23) dX9_strokeOf_21 qX9_68 rfl ?_
  refine g_ireturn dX9_strokeOf_23 rfl rfl (?_)
  exact ⟨rfl, rfl⟩
set_option maxRecDepth 20000 in
set_option maxHeartbeats 2000000 in
theorem sO_cc {p s : Nat} {σ : Sg} (hs : σ 1 2 = nI s) (hs1 : s ≤ 160) (hp : p < s) {j : Nat} (h : 6 < j) (hj : j < 2147483648) : CM mX9_strokeOf [ar 0, ai (nI p), ai (nI j)] σ (Ret (-1000001) σ) := by
  refine CM_in (ls := [some (ar 0), some (ai (nI p)), some (ai (nI j))]) rfl ?_
  refine g_aload_n (p0 := 1) (i := 0) dX9_strokeOf_0 rfl rfl rfl ?_
  refine g_getR (p0 := 4) dX9_strokeOf_1 fX9_10 (by first | rfl | assumption | exact RW.s (by assumption) | exact TW.s (by assumption)) rfl rfl ?_
  refine g_iload_n (p0 := 5) (i := 1) dX9_strokeOf_4 rfl rfl rfl ?_
  refine g_cV1R (p0 := 8) (r1 := mX8_hasStroke) dX9_strokeOf_5 lX9_107 vX8_hasStroke (by first | rfl | assumption | exact RW.s (by assumption) | exact TW.s (by assumption)) ⟨_, _, rfl⟩ (FITi rfl rfl) (Nat.le_of_ble_eq_true rfl) (hasStroke_T TW1 hs hs1 hp) rfl ?_
  first | ((with_reducible refine isN1 ?_); refine g_ifN_eq (tgt := 21) (p1 := 11) dX9_strokeOf_8 rfl (by omega) rfl (fun c_8 => by exfalso; first | omega | contradiction | exact absurd (by assumption) c_8 | (simp_all; done)) (fun c_8 => ?_)) | refine g_if_eq (tgt := 21) (p1 := 11) dX9_strokeOf_8 rfl rfl (fun c_8 => by exfalso; first | omega | contradiction | exact absurd (by assumption) c_8 | (simp_all; done)) (fun c_8 => ?_)
  refine g_iload_n (p0 := 12) (i := 2) dX9_strokeOf_11 rfl rfl rfl ?_
  first | ((with_reducible refine isN1 ?_); refine g_ifN_lt (tgt := 21) (p1 := 15) dX9_strokeOf_12 rfl (by omega) rfl (fun c_12 => by exfalso; first | omega | contradiction | exact absurd (by assumption) c_12 | (simp_all; done)) (fun c_12 => ?_)) | refine g_if_lt (tgt := 21) (p1 := 15) dX9_strokeOf_12 rfl rfl (fun c_12 => by exfalso; first | omega | contradiction | exact absurd (by assumption) c_12 | (simp_all; done)) (fun c_12 => ?_)
  refine g_iload_n (p0 := 16) (i := 2) dX9_strokeOf_15 rfl rfl rfl ?_
  refine g_bipush (p0 := 18) (v := nI 6) dX9_strokeOf_16 (by decide) rfl ?_
  first | ((with_reducible refine isN2 ?_); refine g_icmpN_le (tgt := 24) (p1 := 21) dX9_strokeOf_18 rfl (by omega) (by omega) rfl (fun c_18 => by exfalso; first | omega | contradiction | exact absurd (by assumption) c_18 | (simp_all; done)) (fun c_18 => ?_)) | refine g_icmp_le (tgt := 24) (p1 := 21) dX9_strokeOf_18 rfl rfl (fun c_18 => by exfalso; first | omega | contradiction | exact absurd (by assumption) c_18 | (simp_all; done)) (fun c_18 => ?_)
  refine g_ldc (p0 := 23) dX9_strokeOf_21 qX9_68 rfl ?_
  refine g_ireturn dX9_strokeOf_23 rfl rfl (?_)
  exact ⟨rfl, rfl⟩
set_option maxRecDepth 20000 in
set_option maxHeartbeats 2000000 in
theorem sO_c0 {p s : Nat} {σ : Sg} (hs : σ 1 2 = nI s) (hs1 : s ≤ 160) (hp : p < s) {v : Int32} (hv : σ 3 p = v) : CM mX9_strokeOf [ar 0, ai (nI p), ai (nI 0)] σ (Ret v σ) := by
  refine CM_in (ls := [some (ar 0), some (ai (nI p)), some (ai (nI 0))]) rfl ?_
  refine g_aload_n (p0 := 1) (i := 0) dX9_strokeOf_0 rfl rfl rfl ?_
  refine g_getR (p0 := 4) dX9_strokeOf_1 fX9_10 (by first | rfl | assumption | exact RW.s (by assumption) | exact TW.s (by assumption)) rfl rfl ?_
  refine g_iload_n (p0 := 5) (i := 1) dX9_strokeOf_4 rfl rfl rfl ?_
  refine g_cV1R (p0 := 8) (r1 := mX8_hasStroke) dX9_strokeOf_5 lX9_107 vX8_hasStroke (by first | rfl | assumption | exact RW.s (by assumption) | exact TW.s (by assumption)) ⟨_, _, rfl⟩ (FITi rfl rfl) (Nat.le_of_ble_eq_true rfl) (hasStroke_T TW1 hs hs1 hp) rfl ?_
  first | ((with_reducible refine isN1 ?_); refine g_ifN_eq (tgt := 21) (p1 := 11) dX9_strokeOf_8 rfl (by omega) rfl (fun c_8 => by exfalso; first | omega | contradiction | exact absurd (by assumption) c_8 | (simp_all; done)) (fun c_8 => ?_)) | refine g_if_eq (tgt := 21) (p1 := 11) dX9_strokeOf_8 rfl rfl (fun c_8 => by exfalso; first | omega | contradiction | exact absurd (by assumption) c_8 | (simp_all; done)) (fun c_8 => ?_)
  refine g_iload_n (p0 := 12) (i := 2) dX9_strokeOf_11 rfl rfl rfl ?_
  first | ((with_reducible refine isN1 ?_); refine g_ifN_lt (tgt := 21) (p1 := 15) dX9_strokeOf_12 rfl (by omega) rfl (fun c_12 => by exfalso; first | omega | contradiction | exact absurd (by assumption) c_12 | (simp_all; done)) (fun c_12 => ?_)) | refine g_if_lt (tgt := 21) (p1 := 15) dX9_strokeOf_12 rfl rfl (fun c_12 => by exfalso; first | omega | contradiction | exact absurd (by assumption) c_12 | (simp_all; done)) (fun c_12 => ?_)
  refine g_iload_n (p0 := 16) (i := 2) dX9_strokeOf_15 rfl rfl rfl ?_
  refine g_bipush (p0 := 18) (v := nI 6) dX9_strokeOf_16 (by decide) rfl ?_
  first | ((with_reducible refine isN2 ?_); refine g_icmpN_le (tgt := 24) (p1 := 21) dX9_strokeOf_18 rfl (by omega) (by omega) rfl (fun c_18 => ?_) (fun c_18 => by exfalso; first | omega | contradiction | exact absurd (by assumption) c_18 | (simp_all; done))) | refine g_icmp_le (tgt := 24) (p1 := 21) dX9_strokeOf_18 rfl rfl (fun c_18 => ?_) (fun c_18 => by exfalso; first | omega | contradiction | exact absurd (by assumption) c_18 | (simp_all; done))
  refine g_iload_n (p0 := 25) (i := 2) dX9_strokeOf_24 rfl rfl rfl ?_
  first | ((with_reducible refine isN1 ?_); refine g_ifN_ne (tgt := 40) (p1 := 28) dX9_strokeOf_25 rfl (by omega) rfl (fun c_25 => by exfalso; first | omega | contradiction | exact absurd (by assumption) c_25 | (simp_all; done)) (fun c_25 => ?_)) | refine g_if_ne (tgt := 40) (p1 := 28) dX9_strokeOf_25 rfl rfl (fun c_25 => by exfalso; first | omega | contradiction | exact absurd (by assumption) c_25 | (simp_all; done)) (fun c_25 => ?_)
  refine g_aload_n (p0 := 29) (i := 0) dX9_strokeOf_28 rfl rfl rfl ?_
  refine g_getR (p0 := 32) dX9_strokeOf_29 fX9_10 (by first | rfl | assumption | exact RW.s (by assumption) | exact TW.s (by assumption)) rfl rfl ?_
  refine g_getR (p0 := 35) dX9_strokeOf_32 fX9_110 (by first | rfl | assumption | exact RW.s (by assumption) | exact TW.s (by assumption)) rfl rfl ?_
  refine g_iload_n (p0 := 36) (i := 1) dX9_strokeOf_35 rfl rfl rfl ?_
  refine g_cV1R (p0 := 39) (r1 := mX7_at) dX9_strokeOf_36 lX9_114 vX7_at (by first | rfl | assumption | exact RW.s (by assumption) | exact TW.s (by assumption)) ⟨_, _, rfl⟩ (FITi rfl rfl) (Nat.le_of_ble_eq_true rfl) (at_N (by first | exact ⟨rfl, rfl, by decide⟩ | assumption) (by omega) hv) rfl ?_
  refine g_ireturn dX9_strokeOf_39 rfl rfl (?_)
  exact ⟨rfl, rfl⟩
set_option maxRecDepth 20000 in
set_option maxHeartbeats 2000000 in
theorem sO_c1z {p s : Nat} {σ : Sg} (hs : σ 1 2 = nI s) (hs1 : s ≤ 160) (hp : p < s) (h0 : p = 0) : CM mX9_strokeOf [ar 0, ai (nI p), ai (nI 1)] σ (Ret (-1000004) σ) := by
  refine CM_in (ls := [some (ar 0), some (ai (nI p)), some (ai (nI 1))]) rfl ?_
  refine g_aload_n (p0 := 1) (i := 0) dX9_strokeOf_0 rfl rfl rfl ?_
  refine g_getR (p0 := 4) dX9_strokeOf_1 fX9_10 (by first | rfl | assumption | exact RW.s (by assumption) | exact TW.s (by assumption)) rfl rfl ?_
  refine g_iload_n (p0 := 5) (i := 1) dX9_strokeOf_4 rfl rfl rfl ?_
  refine g_cV1R (p0 := 8) (r1 := mX8_hasStroke) dX9_strokeOf_5 lX9_107 vX8_hasStroke (by first | rfl | assumption | exact RW.s (by assumption) | exact TW.s (by assumption)) ⟨_, _, rfl⟩ (FITi rfl rfl) (Nat.le_of_ble_eq_true rfl) (hasStroke_T TW1 hs hs1 hp) rfl ?_
  first | ((with_reducible refine isN1 ?_); refine g_ifN_eq (tgt := 21) (p1 := 11) dX9_strokeOf_8 rfl (by omega) rfl (fun c_8 => by exfalso; first | omega | contradiction | exact absurd (by assumption) c_8 | (simp_all; done)) (fun c_8 => ?_)) | refine g_if_eq (tgt := 21) (p1 := 11) dX9_strokeOf_8 rfl rfl (fun c_8 => by exfalso; first | omega | contradiction | exact absurd (by assumption) c_8 | (simp_all; done)) (fun c_8 => ?_)
  refine g_iload_n (p0 := 12) (i := 2) dX9_strokeOf_11 rfl rfl rfl ?_
  first | ((with_reducible refine isN1 ?_); refine g_ifN_lt (tgt := 21) (p1 := 15) dX9_strokeOf_12 rfl (by omega) rfl (fun c_12 => by exfalso; first | omega | contradiction | exact absurd (by assumption) c_12 | (simp_all; done)) (fun c_12 => ?_)) | refine g_if_lt (tgt := 21) (p1 := 15) dX9_strokeOf_12 rfl rfl (fun c_12 => by exfalso; first | omega | contradiction | exact absurd (by assumption) c_12 | (simp_all; done)) (fun c_12 => ?_)
  refine g_iload_n (p0 := 16) (i := 2) dX9_strokeOf_15 rfl rfl rfl ?_
  refine g_bipush (p0 := 18) (v := nI 6) dX9_strokeOf_16 (by decide) rfl ?_
  first | ((with_reducible refine isN2 ?_); refine g_icmpN_le (tgt := 24) (p1 := 21) dX9_strokeOf_18 rfl (by omega) (by omega) rfl (fun c_18 => ?_) (fun c_18 => by exfalso; first | omega | contradiction | exact absurd (by assumption) c_18 | (simp_all; done))) | refine g_icmp_le (tgt := 24) (p1 := 21) dX9_strokeOf_18 rfl rfl (fun c_18 => ?_) (fun c_18 => by exfalso; first | omega | contradiction | exact absurd (by assumption) c_18 | (simp_all; done))
  refine g_iload_n (p0 := 25) (i := 2) dX9_strokeOf_24 rfl rfl rfl ?_
  first | ((with_reducible refine isN1 ?_); refine g_ifN_ne (tgt := 40) (p1 := 28) dX9_strokeOf_25 rfl (by omega) rfl (fun c_25 => ?_) (fun c_25 => by exfalso; first | omega | contradiction | exact absurd (by assumption) c_25 | (simp_all; done))) | refine g_if_ne (tgt := 40) (p1 := 28) dX9_strokeOf_25 rfl rfl (fun c_25 => ?_) (fun c_25 => by exfalso; first | omega | contradiction | exact absurd (by assumption) c_25 | (simp_all; done))
  refine g_iload_n (p0 := 41) (i := 2) dX9_strokeOf_40 rfl rfl rfl ?_
  refine g_iconst (p0 := 42) (v := nI 3) dX9_strokeOf_41 rfl rfl ?_
  first | ((with_reducible refine isN2 ?_); refine g_icmpN_gt (tgt := 64) (p1 := 45) dX9_strokeOf_42 rfl (by omega) (by omega) rfl (fun c_42 => by exfalso; first | omega | contradiction | exact absurd (by assumption) c_42 | (simp_all; done)) (fun c_42 => ?_)) | refine g_icmp_gt (tgt := 64) (p1 := 45) dX9_strokeOf_42 rfl rfl (fun c_42 => by exfalso; first | omega | contradiction | exact absurd (by assumption) c_42 | (simp_all; done)) (fun c_42 => ?_)
  refine g_iload_n (p0 := 46) (i := 1) dX9_strokeOf_45 rfl rfl rfl ?_
  first | ((with_reducible refine isN1 ?_); refine g_ifN_ne (tgt := 54) (p1 := 49) dX9_strokeOf_46 rfl (by omega) rfl (fun c_46 => by exfalso; first | omega | contradiction | exact absurd (by assumption) c_46 | (simp_all; done)) (fun c_46 => ?_)) | refine g_if_ne (tgt := 54) (p1 := 49) dX9_strokeOf_46 rfl rfl (fun c_46 => by exfalso; first | omega | contradiction | exact absurd (by assumption) c_46 | (simp_all; done)) (fun c_46 => ?_)
  refine g_ldc (p0 := 51) dX9_strokeOf_49 qX9_122 rfl ?_
  refine g_goto (tgt := 63) dX9_strokeOf_51 rfl ?_
  refine g_ireturn dX9_strokeOf_63 rfl rfl (?_)
  exact ⟨rfl, rfl⟩
set_option maxRecDepth 20000 in
set_option maxHeartbeats 2000000 in
theorem sO_c1 {p s : Nat} {σ : Sg} (hs : σ 1 2 = nI s) (hs1 : s ≤ 160) (hp : p < s) {v : Int32} (h0 : ¬ p = 0) (hv : σ 61 p = v) : CM mX9_strokeOf [ar 0, ai (nI p), ai (nI 1)] σ (Ret v σ) := by
  refine CM_in (ls := [some (ar 0), some (ai (nI p)), some (ai (nI 1))]) rfl ?_
  refine g_aload_n (p0 := 1) (i := 0) dX9_strokeOf_0 rfl rfl rfl ?_
  refine g_getR (p0 := 4) dX9_strokeOf_1 fX9_10 (by first | rfl | assumption | exact RW.s (by assumption) | exact TW.s (by assumption)) rfl rfl ?_
  refine g_iload_n (p0 := 5) (i := 1) dX9_strokeOf_4 rfl rfl rfl ?_
  refine g_cV1R (p0 := 8) (r1 := mX8_hasStroke) dX9_strokeOf_5 lX9_107 vX8_hasStroke (by first | rfl | assumption | exact RW.s (by assumption) | exact TW.s (by assumption)) ⟨_, _, rfl⟩ (FITi rfl rfl) (Nat.le_of_ble_eq_true rfl) (hasStroke_T TW1 hs hs1 hp) rfl ?_
  first | ((with_reducible refine isN1 ?_); refine g_ifN_eq (tgt := 21) (p1 := 11) dX9_strokeOf_8 rfl (by omega) rfl (fun c_8 => by exfalso; first | omega | contradiction | exact absurd (by assumption) c_8 | (simp_all; done)) (fun c_8 => ?_)) | refine g_if_eq (tgt := 21) (p1 := 11) dX9_strokeOf_8 rfl rfl (fun c_8 => by exfalso; first | omega | contradiction | exact absurd (by assumption) c_8 | (simp_all; done)) (fun c_8 => ?_)
  refine g_iload_n (p0 := 12) (i := 2) dX9_strokeOf_11 rfl rfl rfl ?_
  first | ((with_reducible refine isN1 ?_); refine g_ifN_lt (tgt := 21) (p1 := 15) dX9_strokeOf_12 rfl (by omega) rfl (fun c_12 => by exfalso; first | omega | contradiction | exact absurd (by assumption) c_12 | (simp_all; done)) (fun c_12 => ?_)) | refine g_if_lt (tgt := 21) (p1 := 15) dX9_strokeOf_12 rfl rfl (fun c_12 => by exfalso; first | omega | contradiction | exact absurd (by assumption) c_12 | (simp_all; done)) (fun c_12 => ?_)
  refine g_iload_n (p0 := 16) (i := 2) dX9_strokeOf_15 rfl rfl rfl ?_
  refine g_bipush (p0 := 18) (v := nI 6) dX9_strokeOf_16 (by decide) rfl ?_
  first | ((with_reducible refine isN2 ?_); refine g_icmpN_le (tgt := 24) (p1 := 21) dX9_strokeOf_18 rfl (by omega) (by omega) rfl (fun c_18 => ?_) (fun c_18 => by exfalso; first | omega | contradiction | exact absurd (by assumption) c_18 | (simp_all; done))) | refine g_icmp_le (tgt := 24) (p1 := 21) dX9_strokeOf_18 rfl rfl (fun c_18 => ?_) (fun c_18 => by exfalso; first | omega | contradiction | exact absurd (by assumption) c_18 | (simp_all; done))
  refine g_iload_n (p0 := 25) (i := 2) dX9_strokeOf_24 rfl rfl rfl ?_
  first | ((with_reducible refine isN1 ?_); refine g_ifN_ne (tgt := 40) (p1 := 28) dX9_strokeOf_25 rfl (by omega) rfl (fun c_25 => ?_) (fun c_25 => by exfalso; first | omega | contradiction | exact absurd (by assumption) c_25 | (simp_all; done))) | refine g_if_ne (tgt := 40) (p1 := 28) dX9_strokeOf_25 rfl rfl (fun c_25 => ?_) (fun c_25 => by exfalso; first | omega | contradiction | exact absurd (by assumption) c_25 | (simp_all; done))
  refine g_iload_n (p0 := 41) (i := 2) dX9_strokeOf_40 rfl rfl rfl ?_
  refine g_iconst (p0 := 42) (v := nI 3) dX9_strokeOf_41 rfl rfl ?_
  first | ((with_reducible refine isN2 ?_); refine g_icmpN_gt (tgt := 64) (p1 := 45) dX9_strokeOf_42 rfl (by omega) (by omega) rfl (fun c_42 => by exfalso; first | omega | contradiction | exact absurd (by assumption) c_42 | (simp_all; done)) (fun c_42 => ?_)) | refine g_icmp_gt (tgt := 64) (p1 := 45) dX9_strokeOf_42 rfl rfl (fun c_42 => by exfalso; first | omega | contradiction | exact absurd (by assumption) c_42 | (simp_all; done)) (fun c_42 => ?_)
  refine g_iload_n (p0 := 46) (i := 1) dX9_strokeOf_45 rfl rfl rfl ?_
  first | ((with_reducible refine isN1 ?_); refine g_ifN_ne (tgt := 54) (p1 := 49) dX9_strokeOf_46 rfl (by omega) rfl (fun c_46 => ?_) (fun c_46 => by exfalso; first | omega | contradiction | exact absurd (by assumption) c_46 | (simp_all; done))) | refine g_if_ne (tgt := 54) (p1 := 49) dX9_strokeOf_46 rfl rfl (fun c_46 => ?_) (fun c_46 => by exfalso; first | omega | contradiction | exact absurd (by assumption) c_46 | (simp_all; done))
  refine g_aload_n (p0 := 55) (i := 0) dX9_strokeOf_54 rfl rfl rfl ?_
  refine g_getR (p0 := 58) dX9_strokeOf_55 fX9_29 (by first | rfl | assumption | exact RW.s (by assumption) | exact TW.s (by assumption)) rfl rfl ?_
  refine g_iload_n (p0 := 59) (i := 1) dX9_strokeOf_58 rfl rfl rfl ?_
  refine g_iload_n (p0 := 60) (i := 2) dX9_strokeOf_59 rfl rfl rfl ?_
  refine g_cV2R (p0 := 63) (r1 := mX6_gapDetail) dX9_strokeOf_60 lX9_123 vX6_gapDetail (by first | rfl | assumption | exact RW.s (by assumption) | exact TW.s (by assumption)) ⟨_, _, rfl⟩ (FITi rfl rfl) (Nat.le_of_ble_eq_true rfl) (gapDetail_1 (by omega) hv) rfl ?_
  refine g_ireturn dX9_strokeOf_63 rfl rfl (?_)
  exact ⟨rfl, rfl⟩
set_option maxRecDepth 20000 in
set_option maxHeartbeats 2000000 in
theorem sO_c2z {p s : Nat} {σ : Sg} (hs : σ 1 2 = nI s) (hs1 : s ≤ 160) (hp : p < s) (h0 : p = 0) : CM mX9_strokeOf [ar 0, ai (nI p), ai (nI 2)] σ (Ret (-1000004) σ) := by
  refine CM_in (ls := [some (ar 0), some (ai (nI p)), some (ai (nI 2))]) rfl ?_
  refine g_aload_n (p0 := 1) (i := 0) dX9_strokeOf_0 rfl rfl rfl ?_
  refine g_getR (p0 := 4) dX9_strokeOf_1 fX9_10 (by first | rfl | assumption | exact RW.s (by assumption) | exact TW.s (by assumption)) rfl rfl ?_
  refine g_iload_n (p0 := 5) (i := 1) dX9_strokeOf_4 rfl rfl rfl ?_
  refine g_cV1R (p0 := 8) (r1 := mX8_hasStroke) dX9_strokeOf_5 lX9_107 vX8_hasStroke (by first | rfl | assumption | exact RW.s (by assumption) | exact TW.s (by assumption)) ⟨_, _, rfl⟩ (FITi rfl rfl) (Nat.le_of_ble_eq_true rfl) (hasStroke_T TW1 hs hs1 hp) rfl ?_
  first | ((with_reducible refine isN1 ?_); refine g_ifN_eq (tgt := 21) (p1 := 11) dX9_strokeOf_8 rfl (by omega) rfl (fun c_8 => by exfalso; first | omega | contradiction | exact absurd (by assumption) c_8 | (simp_all; done)) (fun c_8 => ?_)) | refine g_if_eq (tgt := 21) (p1 := 11) dX9_strokeOf_8 rfl rfl (fun c_8 => by exfalso; first | omega | contradiction | exact absurd (by assumption) c_8 | (simp_all; done)) (fun c_8 => ?_)
  refine g_iload_n (p0 := 12) (i := 2) dX9_strokeOf_11 rfl rfl rfl ?_
  first | ((with_reducible refine isN1 ?_); refine g_ifN_lt (tgt := 21) (p1 := 15) dX9_strokeOf_12 rfl (by omega) rfl (fun c_12 => by exfalso; first | omega | contradiction | exact absurd (by assumption) c_12 | (simp_all; done)) (fun c_12 => ?_)) | refine g_if_lt (tgt := 21) (p1 := 15) dX9_strokeOf_12 rfl rfl (fun c_12 => by exfalso; first | omega | contradiction | exact absurd (by assumption) c_12 | (simp_all; done)) (fun c_12 => ?_)
  refine g_iload_n (p0 := 16) (i := 2) dX9_strokeOf_15 rfl rfl rfl ?_
  refine g_bipush (p0 := 18) (v := nI 6) dX9_strokeOf_16 (by decide) rfl ?_
  first | ((with_reducible refine isN2 ?_); refine g_icmpN_le (tgt := 24) (p1 := 21) dX9_strokeOf_18 rfl (by omega) (by omega) rfl (fun c_18 => ?_) (fun c_18 => by exfalso; first | omega | contradiction | exact absurd (by assumption) c_18 | (simp_all; done))) | refine g_icmp_le (tgt := 24) (p1 := 21) dX9_strokeOf_18 rfl rfl (fun c_18 => ?_) (fun c_18 => by exfalso; first | omega | contradiction | exact absurd (by assumption) c_18 | (simp_all; done))
  refine g_iload_n (p0 := 25) (i := 2) dX9_strokeOf_24 rfl rfl rfl ?_
  first | ((with_reducible refine isN1 ?_); refine g_ifN_ne (tgt := 40) (p1 := 28) dX9_strokeOf_25 rfl (by omega) rfl (fun c_25 => ?_) (fun c_25 => by exfalso; first | omega | contradiction | exact absurd (by assumption) c_25 | (simp_all; done))) | refine g_if_ne (tgt := 40) (p1 := 28) dX9_strokeOf_25 rfl rfl (fun c_25 => ?_) (fun c_25 => by exfalso; first | omega | contradiction | exact absurd (by assumption) c_25 | (simp_all; done))
  refine g_iload_n (p0 := 41) (i := 2) dX9_strokeOf_40 rfl rfl rfl ?_
  refine g_iconst (p0 := 42) (v := nI 3) dX9_strokeOf_41 rfl rfl ?_
  first | ((with_reducible refine isN2 ?_); refine g_icmpN_gt (tgt := 64) (p1 := 45) dX9_strokeOf_42 rfl (by omega) (by omega) rfl (fun c_42 => by exfalso; first | omega | contradiction | exact absurd (by assumption) c_42 | (simp_all; done)) (fun c_42 => ?_)) | refine g_icmp_gt (tgt := 64) (p1 := 45) dX9_strokeOf_42 rfl rfl (fun c_42 => by exfalso; first | omega | contradiction | exact absurd (by assumption) c_42 | (simp_all; done)) (fun c_42 => ?_)
  refine g_iload_n (p0 := 46) (i := 1) dX9_strokeOf_45 rfl rfl rfl ?_
  first | ((with_reducible refine isN1 ?_); refine g_ifN_ne (tgt := 54) (p1 := 49) dX9_strokeOf_46 rfl (by omega) rfl (fun c_46 => by exfalso; first | omega | contradiction | exact absurd (by assumption) c_46 | (simp_all; done)) (fun c_46 => ?_)) | refine g_if_ne (tgt := 54) (p1 := 49) dX9_strokeOf_46 rfl rfl (fun c_46 => by exfalso; first | omega | contradiction | exact absurd (by assumption) c_46 | (simp_all; done)) (fun c_46 => ?_)
  refine g_ldc (p0 := 51) dX9_strokeOf_49 qX9_122 rfl ?_
  refine g_goto (tgt := 63) dX9_strokeOf_51 rfl ?_
  refine g_ireturn dX9_strokeOf_63 rfl rfl (?_)
  exact ⟨rfl, rfl⟩
set_option maxRecDepth 20000 in
set_option maxHeartbeats 2000000 in
theorem sO_c2 {p s : Nat} {σ : Sg} (hs : σ 1 2 = nI s) (hs1 : s ≤ 160) (hp : p < s) {v : Int32} (h0 : ¬ p = 0) (hv : σ 63 p = v) : CM mX9_strokeOf [ar 0, ai (nI p), ai (nI 2)] σ (Ret v σ) := by
  refine CM_in (ls := [some (ar 0), some (ai (nI p)), some (ai (nI 2))]) rfl ?_
  refine g_aload_n (p0 := 1) (i := 0) dX9_strokeOf_0 rfl rfl rfl ?_
  refine g_getR (p0 := 4) dX9_strokeOf_1 fX9_10 (by first | rfl | assumption | exact RW.s (by assumption) | exact TW.s (by assumption)) rfl rfl ?_
  refine g_iload_n (p0 := 5) (i := 1) dX9_strokeOf_4 rfl rfl rfl ?_
  refine g_cV1R (p0 := 8) (r1 := mX8_hasStroke) dX9_strokeOf_5 lX9_107 vX8_hasStroke (by first | rfl | assumption | exact RW.s (by assumption) | exact TW.s (by assumption)) ⟨_, _, rfl⟩ (FITi rfl rfl) (Nat.le_of_ble_eq_true rfl) (hasStroke_T TW1 hs hs1 hp) rfl ?_
  first | ((with_reducible refine isN1 ?_); refine g_ifN_eq (tgt := 21) (p1 := 11) dX9_strokeOf_8 rfl (by omega) rfl (fun c_8 => by exfalso; first | omega | contradiction | exact absurd (by assumption) c_8 | (simp_all; done)) (fun c_8 => ?_)) | refine g_if_eq (tgt := 21) (p1 := 11) dX9_strokeOf_8 rfl rfl (fun c_8 => by exfalso; first | omega | contradiction | exact absurd (by assumption) c_8 | (simp_all; done)) (fun c_8 => ?_)
  refine g_iload_n (p0 := 12) (i := 2) dX9_strokeOf_11 rfl rfl rfl ?_
  first | ((with_reducible refine isN1 ?_); refine g_ifN_lt (tgt := 21) (p1 := 15) dX9_strokeOf_12 rfl (by omega) rfl (fun c_12 => by exfalso; first | omega | contradiction | exact absurd (by assumption) c_12 | (simp_all; done)) (fun c_12 => ?_)) | refine g_if_lt (tgt := 21) (p1 := 15) dX9_strokeOf_12 rfl rfl (fun c_12 => by exfalso; first | omega | contradiction | exact absurd (by assumption) c_12 | (simp_all; done)) (fun c_12 => ?_)
  refine g_iload_n (p0 := 16) (i := 2) dX9_strokeOf_15 rfl rfl rfl ?_
  refine g_bipush (p0 := 18) (v := nI 6) dX9_strokeOf_16 (by decide) rfl ?_
  first | ((with_reducible refine isN2 ?_); refine g_icmpN_le (tgt := 24) (p1 := 21) dX9_strokeOf_18 rfl (by omega) (by omega) rfl (fun c_18 => ?_) (fun c_18 => by exfalso; first | omega | contradiction | exact absurd (by assumption) c_18 | (simp_all; done))) | refine g_icmp_le (tgt := 24) (p1 := 21) dX9_strokeOf_18 rfl rfl (fun c_18 => ?_) (fun c_18 => by exfalso; first | omega | contradiction | exact absurd (by assumption) c_18 | (simp_all; done))
  refine g_iload_n (p0 := 25) (i := 2) dX9_strokeOf_24 rfl rfl rfl ?_
  first | ((with_reducible refine isN1 ?_); refine g_ifN_ne (tgt := 40) (p1 := 28) dX9_strokeOf_25 rfl (by omega) rfl (fun c_25 => ?_) (fun c_25 => by exfalso; first | omega | contradiction | exact absurd (by assumption) c_25 | (simp_all; done))) | refine g_if_ne (tgt := 40) (p1 := 28) dX9_strokeOf_25 rfl rfl (fun c_25 => ?_) (fun c_25 => by exfalso; first | omega | contradiction | exact absurd (by assumption) c_25 | (simp_all; done))
  refine g_iload_n (p0 := 41) (i := 2) dX9_strokeOf_40 rfl rfl rfl ?_
  refine g_iconst (p0 := 42) (v := nI 3) dX9_strokeOf_41 rfl rfl ?_
  first | ((with_reducible refine isN2 ?_); refine g_icmpN_gt (tgt := 64) (p1 := 45) dX9_strokeOf_42 rfl (by omega) (by omega) rfl (fun c_42 => by exfalso; first | omega | contradiction | exact absurd (by assumption) c_42 | (simp_all; done)) (fun c_42 => ?_)) | refine g_icmp_gt (tgt := 64) (p1 := 45) dX9_strokeOf_42 rfl rfl (fun c_42 => by exfalso; first | omega | contradiction | exact absurd (by assumption) c_42 | (simp_all; done)) (fun c_42 => ?_)
  refine g_iload_n (p0 := 46) (i := 1) dX9_strokeOf_45 rfl rfl rfl ?_
  first | ((with_reducible refine isN1 ?_); refine g_ifN_ne (tgt := 54) (p1 := 49) dX9_strokeOf_46 rfl (by omega) rfl (fun c_46 => ?_) (fun c_46 => by exfalso; first | omega | contradiction | exact absurd (by assumption) c_46 | (simp_all; done))) | refine g_if_ne (tgt := 54) (p1 := 49) dX9_strokeOf_46 rfl rfl (fun c_46 => ?_) (fun c_46 => by exfalso; first | omega | contradiction | exact absurd (by assumption) c_46 | (simp_all; done))
  refine g_aload_n (p0 := 55) (i := 0) dX9_strokeOf_54 rfl rfl rfl ?_
  refine g_getR (p0 := 58) dX9_strokeOf_55 fX9_29 (by first | rfl | assumption | exact RW.s (by assumption) | exact TW.s (by assumption)) rfl rfl ?_
  refine g_iload_n (p0 := 59) (i := 1) dX9_strokeOf_58 rfl rfl rfl ?_
  refine g_iload_n (p0 := 60) (i := 2) dX9_strokeOf_59 rfl rfl rfl ?_
  refine g_cV2R (p0 := 63) (r1 := mX6_gapDetail) dX9_strokeOf_60 lX9_123 vX6_gapDetail (by first | rfl | assumption | exact RW.s (by assumption) | exact TW.s (by assumption)) ⟨_, _, rfl⟩ (FITi rfl rfl) (Nat.le_of_ble_eq_true rfl) (gapDetail_2 (by omega) hv) rfl ?_
  refine g_ireturn dX9_strokeOf_63 rfl rfl (?_)
  exact ⟨rfl, rfl⟩
set_option maxRecDepth 20000 in
set_option maxHeartbeats 2000000 in
theorem sO_c3z {p s : Nat} {σ : Sg} (hs : σ 1 2 = nI s) (hs1 : s ≤ 160) (hp : p < s) (h0 : p = 0) : CM mX9_strokeOf [ar 0, ai (nI p), ai (nI 3)] σ (Ret (-1000004) σ) := by
  refine CM_in (ls := [some (ar 0), some (ai (nI p)), some (ai (nI 3))]) rfl ?_
  refine g_aload_n (p0 := 1) (i := 0) dX9_strokeOf_0 rfl rfl rfl ?_
  refine g_getR (p0 := 4) dX9_strokeOf_1 fX9_10 (by first | rfl | assumption | exact RW.s (by assumption) | exact TW.s (by assumption)) rfl rfl ?_
  refine g_iload_n (p0 := 5) (i := 1) dX9_strokeOf_4 rfl rfl rfl ?_
  refine g_cV1R (p0 := 8) (r1 := mX8_hasStroke) dX9_strokeOf_5 lX9_107 vX8_hasStroke (by first | rfl | assumption | exact RW.s (by assumption) | exact TW.s (by assumption)) ⟨_, _, rfl⟩ (FITi rfl rfl) (Nat.le_of_ble_eq_true rfl) (hasStroke_T TW1 hs hs1 hp) rfl ?_
  first | ((with_reducible refine isN1 ?_); refine g_ifN_eq (tgt := 21) (p1 := 11) dX9_strokeOf_8 rfl (by omega) rfl (fun c_8 => by exfalso; first | omega | contradiction | exact absurd (by assumption) c_8 | (simp_all; done)) (fun c_8 => ?_)) | refine g_if_eq (tgt := 21) (p1 := 11) dX9_strokeOf_8 rfl rfl (fun c_8 => by exfalso; first | omega | contradiction | exact absurd (by assumption) c_8 | (simp_all; done)) (fun c_8 => ?_)
  refine g_iload_n (p0 := 12) (i := 2) dX9_strokeOf_11 rfl rfl rfl ?_
  first | ((with_reducible refine isN1 ?_); refine g_ifN_lt (tgt := 21) (p1 := 15) dX9_strokeOf_12 rfl (by omega) rfl (fun c_12 => by exfalso; first | omega | contradiction | exact absurd (by assumption) c_12 | (simp_all; done)) (fun c_12 => ?_)) | refine g_if_lt (tgt := 21) (p1 := 15) dX9_strokeOf_12 rfl rfl (fun c_12 => by exfalso; first | omega | contradiction | exact absurd (by assumption) c_12 | (simp_all; done)) (fun c_12 => ?_)
  refine g_iload_n (p0 := 16) (i := 2) dX9_strokeOf_15 rfl rfl rfl ?_
  refine g_bipush (p0 := 18) (v := nI 6) dX9_strokeOf_16 (by decide) rfl ?_
  first | ((with_reducible refine isN2 ?_); refine g_icmpN_le (tgt := 24) (p1 := 21) dX9_strokeOf_18 rfl (by omega) (by omega) rfl (fun c_18 => ?_) (fun c_18 => by exfalso; first | omega | contradiction | exact absurd (by assumption) c_18 | (simp_all; done))) | refine g_icmp_le (tgt := 24) (p1 := 21) dX9_strokeOf_18 rfl rfl (fun c_18 => ?_) (fun c_18 => by exfalso; first | omega | contradiction | exact absurd (by assumption) c_18 | (simp_all; done))
  refine g_iload_n (p0 := 25) (i := 2) dX9_strokeOf_24 rfl rfl rfl ?_
  first | ((with_reducible refine isN1 ?_); refine g_ifN_ne (tgt := 40) (p1 := 28) dX9_strokeOf_25 rfl (by omega) rfl (fun c_25 => ?_) (fun c_25 => by exfalso; first | omega | contradiction | exact absurd (by assumption) c_25 | (simp_all; done))) | refine g_if_ne (tgt := 40) (p1 := 28) dX9_strokeOf_25 rfl rfl (fun c_25 => ?_) (fun c_25 => by exfalso; first | omega | contradiction | exact absurd (by assumption) c_25 | (simp_all; done))
  refine g_iload_n (p0 := 41) (i := 2) dX9_strokeOf_40 rfl rfl rfl ?_
  refine g_iconst (p0 := 42) (v := nI 3) dX9_strokeOf_41 rfl rfl ?_
  first | ((with_reducible refine isN2 ?_); refine g_icmpN_gt (tgt := 64) (p1 := 45) dX9_strokeOf_42 rfl (by omega) (by omega) rfl (fun c_42 => by exfalso; first | omega | contradiction | exact absurd (by assumption) c_42 | (simp_all; done)) (fun c_42 => ?_)) | refine g_icmp_gt (tgt := 64) (p1 := 45) dX9_strokeOf_42 rfl rfl (fun c_42 => by exfalso; first | omega | contradiction | exact absurd (by assumption) c_42 | (simp_all; done)) (fun c_42 => ?_)
  refine g_iload_n (p0 := 46) (i := 1) dX9_strokeOf_45 rfl rfl rfl ?_
  first | ((with_reducible refine isN1 ?_); refine g_ifN_ne (tgt := 54) (p1 := 49) dX9_strokeOf_46 rfl (by omega) rfl (fun c_46 => by exfalso; first | omega | contradiction | exact absurd (by assumption) c_46 | (simp_all; done)) (fun c_46 => ?_)) | refine g_if_ne (tgt := 54) (p1 := 49) dX9_strokeOf_46 rfl rfl (fun c_46 => by exfalso; first | omega | contradiction | exact absurd (by assumption) c_46 | (simp_all; done)) (fun c_46 => ?_)
  refine g_ldc (p0 := 51) dX9_strokeOf_49 qX9_122 rfl ?_
  refine g_goto (tgt := 63) dX9_strokeOf_51 rfl ?_
  refine g_ireturn dX9_strokeOf_63 rfl rfl (?_)
  exact ⟨rfl, rfl⟩
set_option maxRecDepth 20000 in
set_option maxHeartbeats 2000000 in
theorem sO_c3 {p s : Nat} {σ : Sg} (hs : σ 1 2 = nI s) (hs1 : s ≤ 160) (hp : p < s) {v : Int32} (h0 : ¬ p = 0) (hv : σ 65 p = v) : CM mX9_strokeOf [ar 0, ai (nI p), ai (nI 3)] σ (Ret v σ) := by
  refine CM_in (ls := [some (ar 0), some (ai (nI p)), some (ai (nI 3))]) rfl ?_
  refine g_aload_n (p0 := 1) (i := 0) dX9_strokeOf_0 rfl rfl rfl ?_
  refine g_getR (p0 := 4) dX9_strokeOf_1 fX9_10 (by first | rfl | assumption | exact RW.s (by assumption) | exact TW.s (by assumption)) rfl rfl ?_
  refine g_iload_n (p0 := 5) (i := 1) dX9_strokeOf_4 rfl rfl rfl ?_
  refine g_cV1R (p0 := 8) (r1 := mX8_hasStroke) dX9_strokeOf_5 lX9_107 vX8_hasStroke (by first | rfl | assumption | exact RW.s (by assumption) | exact TW.s (by assumption)) ⟨_, _, rfl⟩ (FITi rfl rfl) (Nat.le_of_ble_eq_true rfl) (hasStroke_T TW1 hs hs1 hp) rfl ?_
  first | ((with_reducible refine isN1 ?_); refine g_ifN_eq (tgt := 21) (p1 := 11) dX9_strokeOf_8 rfl (by omega) rfl (fun c_8 => by exfalso; first | omega | contradiction | exact absurd (by assumption) c_8 | (simp_all; done)) (fun c_8 => ?_)) | refine g_if_eq (tgt := 21) (p1 := 11) dX9_strokeOf_8 rfl rfl (fun c_8 => by exfalso; first | omega | contradiction | exact absurd (by assumption) c_8 | (simp_all; done)) (fun c_8 => ?_)
  refine g_iload_n (p0 := 12) (i := 2) dX9_strokeOf_11 rfl rfl rfl ?_
  first | ((with_reducible refine isN1 ?_); refine g_ifN_lt (tgt := 21) (p1 := 15) dX9_strokeOf_12 rfl (by omega) rfl (fun c_12 => by exfalso; first | omega | contradiction | exact absurd (by assumption) c_12 | (simp_all; done)) (fun c_12 => ?_)) | refine g_if_lt (tgt := 21) (p1 := 15) dX9_strokeOf_12 rfl rfl (fun c_12 => by exfalso; first | omega | contradiction | exact absurd (by assumption) c_12 | (simp_all; done)) (fun c_12 => ?_)
  refine g_iload_n (p0 := 16) (i := 2) dX9_strokeOf_15 rfl rfl rfl ?_
  refine g_bipush (p0 := 18) (v := nI 6) dX9_strokeOf_16 (by decide) rfl ?_
  first | ((with_reducible refine isN2 ?_); refine g_icmpN_le (tgt := 24) (p1 := 21) dX9_strokeOf_18 rfl (by omega) (by omega) rfl (fun c_18 => ?_) (fun c_18 => by exfalso; first | omega | contradiction | exact absurd (by assumption) c_18 | (simp_all; done))) | refine g_icmp_le (tgt := 24) (p1 := 21) dX9_strokeOf_18 rfl rfl (fun c_18 => ?_) (fun c_18 => by exfalso; first | omega | contradiction | exact absurd (by assumption) c_18 | (simp_all; done))
  refine g_iload_n (p0 := 25) (i := 2) dX9_strokeOf_24 rfl rfl rfl ?_
  first | ((with_reducible refine isN1 ?_); refine g_ifN_ne (tgt := 40) (p1 := 28) dX9_strokeOf_25 rfl (by omega) rfl (fun c_25 => ?_) (fun c_25 => by exfalso; first | omega | contradiction | exact absurd (by assumption) c_25 | (simp_all; done))) | refine g_if_ne (tgt := 40) (p1 := 28) dX9_strokeOf_25 rfl rfl (fun c_25 => ?_) (fun c_25 => by exfalso; first | omega | contradiction | exact absurd (by assumption) c_25 | (simp_all; done))
  refine g_iload_n (p0 := 41) (i := 2) dX9_strokeOf_40 rfl rfl rfl ?_
  refine g_iconst (p0 := 42) (v := nI 3) dX9_strokeOf_41 rfl rfl ?_
  first | ((with_reducible refine isN2 ?_); refine g_icmpN_gt (tgt := 64) (p1 := 45) dX9_strokeOf_42 rfl (by omega) (by omega) rfl (fun c_42 => by exfalso; first | omega | contradiction | exact absurd (by assumption) c_42 | (simp_all; done)) (fun c_42 => ?_)) | refine g_icmp_gt (tgt := 64) (p1 := 45) dX9_strokeOf_42 rfl rfl (fun c_42 => by exfalso; first | omega | contradiction | exact absurd (by assumption) c_42 | (simp_all; done)) (fun c_42 => ?_)
  refine g_iload_n (p0 := 46) (i := 1) dX9_strokeOf_45 rfl rfl rfl ?_
  first | ((with_reducible refine isN1 ?_); refine g_ifN_ne (tgt := 54) (p1 := 49) dX9_strokeOf_46 rfl (by omega) rfl (fun c_46 => ?_) (fun c_46 => by exfalso; first | omega | contradiction | exact absurd (by assumption) c_46 | (simp_all; done))) | refine g_if_ne (tgt := 54) (p1 := 49) dX9_strokeOf_46 rfl rfl (fun c_46 => ?_) (fun c_46 => by exfalso; first | omega | contradiction | exact absurd (by assumption) c_46 | (simp_all; done))
  refine g_aload_n (p0 := 55) (i := 0) dX9_strokeOf_54 rfl rfl rfl ?_
  refine g_getR (p0 := 58) dX9_strokeOf_55 fX9_29 (by first | rfl | assumption | exact RW.s (by assumption) | exact TW.s (by assumption)) rfl rfl ?_
  refine g_iload_n (p0 := 59) (i := 1) dX9_strokeOf_58 rfl rfl rfl ?_
  refine g_iload_n (p0 := 60) (i := 2) dX9_strokeOf_59 rfl rfl rfl ?_
  refine g_cV2R (p0 := 63) (r1 := mX6_gapDetail) dX9_strokeOf_60 lX9_123 vX6_gapDetail (by first | rfl | assumption | exact RW.s (by assumption) | exact TW.s (by assumption)) ⟨_, _, rfl⟩ (FITi rfl rfl) (Nat.le_of_ble_eq_true rfl) (gapDetail_3 (by omega) hv) rfl ?_
  refine g_ireturn dX9_strokeOf_63 rfl rfl (?_)
  exact ⟨rfl, rfl⟩
set_option maxRecDepth 20000 in
set_option maxHeartbeats 2000000 in
theorem sO_c4z {p s : Nat} {σ : Sg} (hs : σ 1 2 = nI s) (hs1 : s ≤ 160) (hp : p < s) (h0 : σ 63 p = nI 0) : CM mX9_strokeOf [ar 0, ai (nI p), ai (nI 4)] σ (Ret (-1000004) σ) := by
  refine CM_in (ls := [some (ar 0), some (ai (nI p)), some (ai (nI 4))]) rfl ?_
  refine g_aload_n (p0 := 1) (i := 0) dX9_strokeOf_0 rfl rfl rfl ?_
  refine g_getR (p0 := 4) dX9_strokeOf_1 fX9_10 (by first | rfl | assumption | exact RW.s (by assumption) | exact TW.s (by assumption)) rfl rfl ?_
  refine g_iload_n (p0 := 5) (i := 1) dX9_strokeOf_4 rfl rfl rfl ?_
  refine g_cV1R (p0 := 8) (r1 := mX8_hasStroke) dX9_strokeOf_5 lX9_107 vX8_hasStroke (by first | rfl | assumption | exact RW.s (by assumption) | exact TW.s (by assumption)) ⟨_, _, rfl⟩ (FITi rfl rfl) (Nat.le_of_ble_eq_true rfl) (hasStroke_T TW1 hs hs1 hp) rfl ?_
  first | ((with_reducible refine isN1 ?_); refine g_ifN_eq (tgt := 21) (p1 := 11) dX9_strokeOf_8 rfl (by omega) rfl (fun c_8 => by exfalso; first | omega | contradiction | exact absurd (by assumption) c_8 | (simp_all; done)) (fun c_8 => ?_)) | refine g_if_eq (tgt := 21) (p1 := 11) dX9_strokeOf_8 rfl rfl (fun c_8 => by exfalso; first | omega | contradiction | exact absurd (by assumption) c_8 | (simp_all; done)) (fun c_8 => ?_)
  refine g_iload_n (p0 := 12) (i := 2) dX9_strokeOf_11 rfl rfl rfl ?_
  first | ((with_reducible refine isN1 ?_); refine g_ifN_lt (tgt := 21) (p1 := 15) dX9_strokeOf_12 rfl (by omega) rfl (fun c_12 => by exfalso; first | omega | contradiction | exact absurd (by assumption) c_12 | (simp_all; done)) (fun c_12 => ?_)) | refine g_if_lt (tgt := 21) (p1 := 15) dX9_strokeOf_12 rfl rfl (fun c_12 => by exfalso; first | omega | contradiction | exact absurd (by assumption) c_12 | (simp_all; done)) (fun c_12 => ?_)
  refine g_iload_n (p0 := 16) (i := 2) dX9_strokeOf_15 rfl rfl rfl ?_
  refine g_bipush (p0 := 18) (v := nI 6) dX9_strokeOf_16 (by decide) rfl ?_
  first | ((with_reducible refine isN2 ?_); refine g_icmpN_le (tgt := 24) (p1 := 21) dX9_strokeOf_18 rfl (by omega) (by omega) rfl (fun c_18 => ?_) (fun c_18 => by exfalso; first | omega | contradiction | exact absurd (by assumption) c_18 | (simp_all; done))) | refine g_icmp_le (tgt := 24) (p1 := 21) dX9_strokeOf_18 rfl rfl (fun c_18 => ?_) (fun c_18 => by exfalso; first | omega | contradiction | exact absurd (by assumption) c_18 | (simp_all; done))
  refine g_iload_n (p0 := 25) (i := 2) dX9_strokeOf_24 rfl rfl rfl ?_
  first | ((with_reducible refine isN1 ?_); refine g_ifN_ne (tgt := 40) (p1 := 28) dX9_strokeOf_25 rfl (by omega) rfl (fun c_25 => ?_) (fun c_25 => by exfalso; first | omega | contradiction | exact absurd (by assumption) c_25 | (simp_all; done))) | refine g_if_ne (tgt := 40) (p1 := 28) dX9_strokeOf_25 rfl rfl (fun c_25 => ?_) (fun c_25 => by exfalso; first | omega | contradiction | exact absurd (by assumption) c_25 | (simp_all; done))
  refine g_iload_n (p0 := 41) (i := 2) dX9_strokeOf_40 rfl rfl rfl ?_
  refine g_iconst (p0 := 42) (v := nI 3) dX9_strokeOf_41 rfl rfl ?_
  first | ((with_reducible refine isN2 ?_); refine g_icmpN_gt (tgt := 64) (p1 := 45) dX9_strokeOf_42 rfl (by omega) (by omega) rfl (fun c_42 => ?_) (fun c_42 => by exfalso; first | omega | contradiction | exact absurd (by assumption) c_42 | (simp_all; done))) | refine g_icmp_gt (tgt := 64) (p1 := 45) dX9_strokeOf_42 rfl rfl (fun c_42 => ?_) (fun c_42 => by exfalso; first | omega | contradiction | exact absurd (by assumption) c_42 | (simp_all; done))
  refine g_aload_n (p0 := 65) (i := 0) dX9_strokeOf_64 rfl rfl rfl ?_
  refine g_getR (p0 := 68) dX9_strokeOf_65 fX9_29 (by first | rfl | assumption | exact RW.s (by assumption) | exact TW.s (by assumption)) rfl rfl ?_
  refine g_iload_n (p0 := 69) (i := 1) dX9_strokeOf_68 rfl rfl rfl ?_
  refine g_cV1R (p0 := 72) (r1 := mX6_isLeftOut) dX9_strokeOf_69 lX9_127 vX6_isLeftOut (by first | rfl | assumption | exact RW.s (by assumption) | exact TW.s (by assumption)) ⟨_, _, rfl⟩ (FITi rfl rfl) (Nat.le_of_ble_eq_true rfl) (isLeftOut_T (by omega) h0) rfl ?_
  first | ((with_reducible refine isN1 ?_); refine g_ifN_eq (tgt := 80) (p1 := 75) dX9_strokeOf_72 rfl (by omega) rfl (fun c_72 => by exfalso; first | omega | contradiction | exact absurd (by assumption) c_72 | (simp_all; done)) (fun c_72 => ?_)) | refine g_if_eq (tgt := 80) (p1 := 75) dX9_strokeOf_72 rfl rfl (fun c_72 => by exfalso; first | omega | contradiction | exact absurd (by assumption) c_72 | (simp_all; done)) (fun c_72 => ?_)
  refine g_ldc (p0 := 77) dX9_strokeOf_75 qX9_122 rfl ?_
  refine g_goto (tgt := 89) dX9_strokeOf_77 rfl ?_
  refine g_ireturn dX9_strokeOf_89 rfl rfl (?_)
  exact ⟨rfl, rfl⟩
set_option maxRecDepth 20000 in
set_option maxHeartbeats 2000000 in
theorem sO_c4 {p s : Nat} {σ : Sg} (hs : σ 1 2 = nI s) (hs1 : s ≤ 160) (hp : p < s) {v : Int32} {k : Nat} (hk : σ 63 p = nI k) (h0 : 0 < k) (h5 : k ≤ 5) (hv : σ 67 p = v) : CM mX9_strokeOf [ar 0, ai (nI p), ai (nI 4)] σ (Ret v σ) := by
  refine CM_in (ls := [some (ar 0), some (ai (nI p)), some (ai (nI 4))]) rfl ?_
  refine g_aload_n (p0 := 1) (i := 0) dX9_strokeOf_0 rfl rfl rfl ?_
  refine g_getR (p0 := 4) dX9_strokeOf_1 fX9_10 (by first | rfl | assumption | exact RW.s (by assumption) | exact TW.s (by assumption)) rfl rfl ?_
  refine g_iload_n (p0 := 5) (i := 1) dX9_strokeOf_4 rfl rfl rfl ?_
  refine g_cV1R (p0 := 8) (r1 := mX8_hasStroke) dX9_strokeOf_5 lX9_107 vX8_hasStroke (by first | rfl | assumption | exact RW.s (by assumption) | exact TW.s (by assumption)) ⟨_, _, rfl⟩ (FITi rfl rfl) (Nat.le_of_ble_eq_true rfl) (hasStroke_T TW1 hs hs1 hp) rfl ?_
  first | ((with_reducible refine isN1 ?_); refine g_ifN_eq (tgt := 21) (p1 := 11) dX9_strokeOf_8 rfl (by omega) rfl (fun c_8 => by exfalso; first | omega | contradiction | exact absurd (by assumption) c_8 | (simp_all; done)) (fun c_8 => ?_)) | refine g_if_eq (tgt := 21) (p1 := 11) dX9_strokeOf_8 rfl rfl (fun c_8 => by exfalso; first | omega | contradiction | exact absurd (by assumption) c_8 | (simp_all; done)) (fun c_8 => ?_)
  refine g_iload_n (p0 := 12) (i := 2) dX9_strokeOf_11 rfl rfl rfl ?_
  first | ((with_reducible refine isN1 ?_); refine g_ifN_lt (tgt := 21) (p1 := 15) dX9_strokeOf_12 rfl (by omega) rfl (fun c_12 => by exfalso; first | omega | contradiction | exact absurd (by assumption) c_12 | (simp_all; done)) (fun c_12 => ?_)) | refine g_if_lt (tgt := 21) (p1 := 15) dX9_strokeOf_12 rfl rfl (fun c_12 => by exfalso; first | omega | contradiction | exact absurd (by assumption) c_12 | (simp_all; done)) (fun c_12 => ?_)
  refine g_iload_n (p0 := 16) (i := 2) dX9_strokeOf_15 rfl rfl rfl ?_
  refine g_bipush (p0 := 18) (v := nI 6) dX9_strokeOf_16 (by decide) rfl ?_
  first | ((with_reducible refine isN2 ?_); refine g_icmpN_le (tgt := 24) (p1 := 21) dX9_strokeOf_18 rfl (by omega) (by omega) rfl (fun c_18 => ?_) (fun c_18 => by exfalso; first | omega | contradiction | exact absurd (by assumption) c_18 | (simp_all; done))) | refine g_icmp_le (tgt := 24) (p1 := 21) dX9_strokeOf_18 rfl rfl (fun c_18 => ?_) (fun c_18 => by exfalso; first | omega | contradiction | exact absurd (by assumption) c_18 | (simp_all; done))
  refine g_iload_n (p0 := 25) (i := 2) dX9_strokeOf_24 rfl rfl rfl ?_
  first | ((with_reducible refine isN1 ?_); refine g_ifN_ne (tgt := 40) (p1 := 28) dX9_strokeOf_25 rfl (by omega) rfl (fun c_25 => ?_) (fun c_25 => by exfalso; first | omega | contradiction | exact absurd (by assumption) c_25 | (simp_all; done))) | refine g_if_ne (tgt := 40) (p1 := 28) dX9_strokeOf_25 rfl rfl (fun c_25 => ?_) (fun c_25 => by exfalso; first | omega | contradiction | exact absurd (by assumption) c_25 | (simp_all; done))
  refine g_iload_n (p0 := 41) (i := 2) dX9_strokeOf_40 rfl rfl rfl ?_
  refine g_iconst (p0 := 42) (v := nI 3) dX9_strokeOf_41 rfl rfl ?_
  first | ((with_reducible refine isN2 ?_); refine g_icmpN_gt (tgt := 64) (p1 := 45) dX9_strokeOf_42 rfl (by omega) (by omega) rfl (fun c_42 => ?_) (fun c_42 => by exfalso; first | omega | contradiction | exact absurd (by assumption) c_42 | (simp_all; done))) | refine g_icmp_gt (tgt := 64) (p1 := 45) dX9_strokeOf_42 rfl rfl (fun c_42 => ?_) (fun c_42 => by exfalso; first | omega | contradiction | exact absurd (by assumption) c_42 | (simp_all; done))
  refine g_aload_n (p0 := 65) (i := 0) dX9_strokeOf_64 rfl rfl rfl ?_
  refine g_getR (p0 := 68) dX9_strokeOf_65 fX9_29 (by first | rfl | assumption | exact RW.s (by assumption) | exact TW.s (by assumption)) rfl rfl ?_
  refine g_iload_n (p0 := 69) (i := 1) dX9_strokeOf_68 rfl rfl rfl ?_
  refine g_cV1R (p0 := 72) (r1 := mX6_isLeftOut) dX9_strokeOf_69 lX9_127 vX6_isLeftOut (by first | rfl | assumption | exact RW.s (by assumption) | exact TW.s (by assumption)) ⟨_, _, rfl⟩ (FITi rfl rfl) (Nat.le_of_ble_eq_true rfl) (isLeftOut_F (by omega) hk h0 h5) rfl ?_
  first | ((with_reducible refine isN1 ?_); refine g_ifN_eq (tgt := 80) (p1 := 75) dX9_strokeOf_72 rfl (by omega) rfl (fun c_72 => ?_) (fun c_72 => by exfalso; first | omega | contradiction | exact absurd (by assumption) c_72 | (simp_all; done))) | refine g_if_eq (tgt := 80) (p1 := 75) dX9_strokeOf_72 rfl rfl (fun c_72 => ?_) (fun c_72 => by exfalso; first | omega | contradiction | exact absurd (by assumption) c_72 | (simp_all; done))
  refine g_aload_n (p0 := 81) (i := 0) dX9_strokeOf_80 rfl rfl rfl ?_
  refine g_getR (p0 := 84) dX9_strokeOf_81 fX9_29 (by first | rfl | assumption | exact RW.s (by assumption) | exact TW.s (by assumption)) rfl rfl ?_
  refine g_iload_n (p0 := 85) (i := 1) dX9_strokeOf_84 rfl rfl rfl ?_
  refine g_iload_n (p0 := 86) (i := 2) dX9_strokeOf_85 rfl rfl rfl ?_
  refine g_cV2R (p0 := 89) (r1 := mX6_placeDetail) dX9_strokeOf_86 lX9_130 vX6_placeDetail (by first | rfl | assumption | exact RW.s (by assumption) | exact TW.s (by assumption)) ⟨_, _, rfl⟩ (FITi rfl rfl) (Nat.le_of_ble_eq_true rfl) (placeDetail_4 (by omega) hv) rfl ?_
  refine g_ireturn dX9_strokeOf_89 rfl rfl (?_)
  exact ⟨rfl, rfl⟩
set_option maxRecDepth 20000 in
set_option maxHeartbeats 2000000 in
theorem sO_c5z {p s : Nat} {σ : Sg} (hs : σ 1 2 = nI s) (hs1 : s ≤ 160) (hp : p < s) (h0 : σ 63 p = nI 0) : CM mX9_strokeOf [ar 0, ai (nI p), ai (nI 5)] σ (Ret (-1000004) σ) := by
  refine CM_in (ls := [some (ar 0), some (ai (nI p)), some (ai (nI 5))]) rfl ?_
  refine g_aload_n (p0 := 1) (i := 0) dX9_strokeOf_0 rfl rfl rfl ?_
  refine g_getR (p0 := 4) dX9_strokeOf_1 fX9_10 (by first | rfl | assumption | exact RW.s (by assumption) | exact TW.s (by assumption)) rfl rfl ?_
  refine g_iload_n (p0 := 5) (i := 1) dX9_strokeOf_4 rfl rfl rfl ?_
  refine g_cV1R (p0 := 8) (r1 := mX8_hasStroke) dX9_strokeOf_5 lX9_107 vX8_hasStroke (by first | rfl | assumption | exact RW.s (by assumption) | exact TW.s (by assumption)) ⟨_, _, rfl⟩ (FITi rfl rfl) (Nat.le_of_ble_eq_true rfl) (hasStroke_T TW1 hs hs1 hp) rfl ?_
  first | ((with_reducible refine isN1 ?_); refine g_ifN_eq (tgt := 21) (p1 := 11) dX9_strokeOf_8 rfl (by omega) rfl (fun c_8 => by exfalso; first | omega | contradiction | exact absurd (by assumption) c_8 | (simp_all; done)) (fun c_8 => ?_)) | refine g_if_eq (tgt := 21) (p1 := 11) dX9_strokeOf_8 rfl rfl (fun c_8 => by exfalso; first | omega | contradiction | exact absurd (by assumption) c_8 | (simp_all; done)) (fun c_8 => ?_)
  refine g_iload_n (p0 := 12) (i := 2) dX9_strokeOf_11 rfl rfl rfl ?_
  first | ((with_reducible refine isN1 ?_); refine g_ifN_lt (tgt := 21) (p1 := 15) dX9_strokeOf_12 rfl (by omega) rfl (fun c_12 => by exfalso; first | omega | contradiction | exact absurd (by assumption) c_12 | (simp_all; done)) (fun c_12 => ?_)) | refine g_if_lt (tgt := 21) (p1 := 15) dX9_strokeOf_12 rfl rfl (fun c_12 => by exfalso; first | omega | contradiction | exact absurd (by assumption) c_12 | (simp_all; done)) (fun c_12 => ?_)
  refine g_iload_n (p0 := 16) (i := 2) dX9_strokeOf_15 rfl rfl rfl ?_
  refine g_bipush (p0 := 18) (v := nI 6) dX9_strokeOf_16 (by decide) rfl ?_
  first | ((with_reducible refine isN2 ?_); refine g_icmpN_le (tgt := 24) (p1 := 21) dX9_strokeOf_18 rfl (by omega) (by omega) rfl (fun c_18 => ?_) (fun c_18 => by exfalso; first | omega | contradiction | exact absurd (by assumption) c_18 | (simp_all; done))) | refine g_icmp_le (tgt := 24) (p1 := 21) dX9_strokeOf_18 rfl rfl (fun c_18 => ?_) (fun c_18 => by exfalso; first | omega | contradiction | exact absurd (by assumption) c_18 | (simp_all; done))
  refine g_iload_n (p0 := 25) (i := 2) dX9_strokeOf_24 rfl rfl rfl ?_
  first | ((with_reducible refine isN1 ?_); refine g_ifN_ne (tgt := 40) (p1 := 28) dX9_strokeOf_25 rfl (by omega) rfl (fun c_25 => ?_) (fun c_25 => by exfalso; first | omega | contradiction | exact absurd (by assumption) c_25 | (simp_all; done))) | refine g_if_ne (tgt := 40) (p1 := 28) dX9_strokeOf_25 rfl rfl (fun c_25 => ?_) (fun c_25 => by exfalso; first | omega | contradiction | exact absurd (by assumption) c_25 | (simp_all; done))
  refine g_iload_n (p0 := 41) (i := 2) dX9_strokeOf_40 rfl rfl rfl ?_
  refine g_iconst (p0 := 42) (v := nI 3) dX9_strokeOf_41 rfl rfl ?_
  first | ((with_reducible refine isN2 ?_); refine g_icmpN_gt (tgt := 64) (p1 := 45) dX9_strokeOf_42 rfl (by omega) (by omega) rfl (fun c_42 => ?_) (fun c_42 => by exfalso; first | omega | contradiction | exact absurd (by assumption) c_42 | (simp_all; done))) | refine g_icmp_gt (tgt := 64) (p1 := 45) dX9_strokeOf_42 rfl rfl (fun c_42 => ?_) (fun c_42 => by exfalso; first | omega | contradiction | exact absurd (by assumption) c_42 | (simp_all; done))
  refine g_aload_n (p0 := 65) (i := 0) dX9_strokeOf_64 rfl rfl rfl ?_
  refine g_getR (p0 := 68) dX9_strokeOf_65 fX9_29 (by first | rfl | assumption | exact RW.s (by assumption) | exact TW.s (by assumption)) rfl rfl ?_
  refine g_iload_n (p0 := 69) (i := 1) dX9_strokeOf_68 rfl rfl rfl ?_
  refine g_cV1R (p0 := 72) (r1 := mX6_isLeftOut) dX9_strokeOf_69 lX9_127 vX6_isLeftOut (by first | rfl | assumption | exact RW.s (by assumption) | exact TW.s (by assumption)) ⟨_, _, rfl⟩ (FITi rfl rfl) (Nat.le_of_ble_eq_true rfl) (isLeftOut_T (by omega) h0) rfl ?_
  first | ((with_reducible refine isN1 ?_); refine g_ifN_eq (tgt := 80) (p1 := 75) dX9_strokeOf_72 rfl (by omega) rfl (fun c_72 => by exfalso; first | omega | contradiction | exact absurd (by assumption) c_72 | (simp_all; done)) (fun c_72 => ?_)) | refine g_if_eq (tgt := 80) (p1 := 75) dX9_strokeOf_72 rfl rfl (fun c_72 => by exfalso; first | omega | contradiction | exact absurd (by assumption) c_72 | (simp_all; done)) (fun c_72 => ?_)
  refine g_ldc (p0 := 77) dX9_strokeOf_75 qX9_122 rfl ?_
  refine g_goto (tgt := 89) dX9_strokeOf_77 rfl ?_
  refine g_ireturn dX9_strokeOf_89 rfl rfl (?_)
  exact ⟨rfl, rfl⟩
set_option maxRecDepth 20000 in
set_option maxHeartbeats 2000000 in
theorem sO_c5 {p s : Nat} {σ : Sg} (hs : σ 1 2 = nI s) (hs1 : s ≤ 160) (hp : p < s) {v : Int32} {k : Nat} (hk : σ 63 p = nI k) (h0 : 0 < k) (h5 : k ≤ 5) (hv : σ 69 p = v) : CM mX9_strokeOf [ar 0, ai (nI p), ai (nI 5)] σ (Ret v σ) := by
  refine CM_in (ls := [some (ar 0), some (ai (nI p)), some (ai (nI 5))]) rfl ?_
  refine g_aload_n (p0 := 1) (i := 0) dX9_strokeOf_0 rfl rfl rfl ?_
  refine g_getR (p0 := 4) dX9_strokeOf_1 fX9_10 (by first | rfl | assumption | exact RW.s (by assumption) | exact TW.s (by assumption)) rfl rfl ?_
  refine g_iload_n (p0 := 5) (i := 1) dX9_strokeOf_4 rfl rfl rfl ?_
  refine g_cV1R (p0 := 8) (r1 := mX8_hasStroke) dX9_strokeOf_5 lX9_107 vX8_hasStroke (by first | rfl | assumption | exact RW.s (by assumption) | exact TW.s (by assumption)) ⟨_, _, rfl⟩ (FITi rfl rfl) (Nat.le_of_ble_eq_true rfl) (hasStroke_T TW1 hs hs1 hp) rfl ?_
  first | ((with_reducible refine isN1 ?_); refine g_ifN_eq (tgt := 21) (p1 := 11) dX9_strokeOf_8 rfl (by omega) rfl (fun c_8 => by exfalso; first | omega | contradiction | exact absurd (by assumption) c_8 | (simp_all; done)) (fun c_8 => ?_)) | refine g_if_eq (tgt := 21) (p1 := 11) dX9_strokeOf_8 rfl rfl (fun c_8 => by exfalso; first | omega | contradiction | exact absurd (by assumption) c_8 | (simp_all; done)) (fun c_8 => ?_)
  refine g_iload_n (p0 := 12) (i := 2) dX9_strokeOf_11 rfl rfl rfl ?_
  first | ((with_reducible refine isN1 ?_); refine g_ifN_lt (tgt := 21) (p1 := 15) dX9_strokeOf_12 rfl (by omega) rfl (fun c_12 => by exfalso; first | omega | contradiction | exact absurd (by assumption) c_12 | (simp_all; done)) (fun c_12 => ?_)) | refine g_if_lt (tgt := 21) (p1 := 15) dX9_strokeOf_12 rfl rfl (fun c_12 => by exfalso; first | omega | contradiction | exact absurd (by assumption) c_12 | (simp_all; done)) (fun c_12 => ?_)
  refine g_iload_n (p0 := 16) (i := 2) dX9_strokeOf_15 rfl rfl rfl ?_
  refine g_bipush (p0 := 18) (v := nI 6) dX9_strokeOf_16 (by decide) rfl ?_
  first | ((with_reducible refine isN2 ?_); refine g_icmpN_le (tgt := 24) (p1 := 21) dX9_strokeOf_18 rfl (by omega) (by omega) rfl (fun c_18 => ?_) (fun c_18 => by exfalso; first | omega | contradiction | exact absurd (by assumption) c_18 | (simp_all; done))) | refine g_icmp_le (tgt := 24) (p1 := 21) dX9_strokeOf_18 rfl rfl (fun c_18 => ?_) (fun c_18 => by exfalso; first | omega | contradiction | exact absurd (by assumption) c_18 | (simp_all; done))
  refine g_iload_n (p0 := 25) (i := 2) dX9_strokeOf_24 rfl rfl rfl ?_
  first | ((with_reducible refine isN1 ?_); refine g_ifN_ne (tgt := 40) (p1 := 28) dX9_strokeOf_25 rfl (by omega) rfl (fun c_25 => ?_) (fun c_25 => by exfalso; first | omega | contradiction | exact absurd (by assumption) c_25 | (simp_all; done))) | refine g_if_ne (tgt := 40) (p1 := 28) dX9_strokeOf_25 rfl rfl (fun c_25 => ?_) (fun c_25 => by exfalso; first | omega | contradiction | exact absurd (by assumption) c_25 | (simp_all; done))
  refine g_iload_n (p0 := 41) (i := 2) dX9_strokeOf_40 rfl rfl rfl ?_
  refine g_iconst (p0 := 42) (v := nI 3) dX9_strokeOf_41 rfl rfl ?_
  first | ((with_reducible refine isN2 ?_); refine g_icmpN_gt (tgt := 64) (p1 := 45) dX9_strokeOf_42 rfl (by omega) (by omega) rfl (fun c_42 => ?_) (fun c_42 => by exfalso; first | omega | contradiction | exact absurd (by assumption) c_42 | (simp_all; done))) | refine g_icmp_gt (tgt := 64) (p1 := 45) dX9_strokeOf_42 rfl rfl (fun c_42 => ?_) (fun c_42 => by exfalso; first | omega | contradiction | exact absurd (by assumption) c_42 | (simp_all; done))
  refine g_aload_n (p0 := 65) (i := 0) dX9_strokeOf_64 rfl rfl rfl ?_
  refine g_getR (p0 := 68) dX9_strokeOf_65 fX9_29 (by first | rfl | assumption | exact RW.s (by assumption) | exact TW.s (by assumption)) rfl rfl ?_
  refine g_iload_n (p0 := 69) (i := 1) dX9_strokeOf_68 rfl rfl rfl ?_
  refine g_cV1R (p0 := 72) (r1 := mX6_isLeftOut) dX9_strokeOf_69 lX9_127 vX6_isLeftOut (by first | rfl | assumption | exact RW.s (by assumption) | exact TW.s (by assumption)) ⟨_, _, rfl⟩ (FITi rfl rfl) (Nat.le_of_ble_eq_true rfl) (isLeftOut_F (by omega) hk h0 h5) rfl ?_
  first | ((with_reducible refine isN1 ?_); refine g_ifN_eq (tgt := 80) (p1 := 75) dX9_strokeOf_72 rfl (by omega) rfl (fun c_72 => ?_) (fun c_72 => by exfalso; first | omega | contradiction | exact absurd (by assumption) c_72 | (simp_all; done))) | refine g_if_eq (tgt := 80) (p1 := 75) dX9_strokeOf_72 rfl rfl (fun c_72 => ?_) (fun c_72 => by exfalso; first | omega | contradiction | exact absurd (by assumption) c_72 | (simp_all; done))
  refine g_aload_n (p0 := 81) (i := 0) dX9_strokeOf_80 rfl rfl rfl ?_
  refine g_getR (p0 := 84) dX9_strokeOf_81 fX9_29 (by first | rfl | assumption | exact RW.s (by assumption) | exact TW.s (by assumption)) rfl rfl ?_
  refine g_iload_n (p0 := 85) (i := 1) dX9_strokeOf_84 rfl rfl rfl ?_
  refine g_iload_n (p0 := 86) (i := 2) dX9_strokeOf_85 rfl rfl rfl ?_
  refine g_cV2R (p0 := 89) (r1 := mX6_placeDetail) dX9_strokeOf_86 lX9_130 vX6_placeDetail (by first | rfl | assumption | exact RW.s (by assumption) | exact TW.s (by assumption)) ⟨_, _, rfl⟩ (FITi rfl rfl) (Nat.le_of_ble_eq_true rfl) (placeDetail_5 (by omega) hv) rfl ?_
  refine g_ireturn dX9_strokeOf_89 rfl rfl (?_)
  exact ⟨rfl, rfl⟩
set_option maxRecDepth 20000 in
set_option maxHeartbeats 2000000 in
theorem sO_c6z {p s : Nat} {σ : Sg} (hs : σ 1 2 = nI s) (hs1 : s ≤ 160) (hp : p < s) (h0 : σ 63 p = nI 0) : CM mX9_strokeOf [ar 0, ai (nI p), ai (nI 6)] σ (Ret (-1000004) σ) := by
  refine CM_in (ls := [some (ar 0), some (ai (nI p)), some (ai (nI 6))]) rfl ?_
  refine g_aload_n (p0 := 1) (i := 0) dX9_strokeOf_0 rfl rfl rfl ?_
  refine g_getR (p0 := 4) dX9_strokeOf_1 fX9_10 (by first | rfl | assumption | exact RW.s (by assumption) | exact TW.s (by assumption)) rfl rfl ?_
  refine g_iload_n (p0 := 5) (i := 1) dX9_strokeOf_4 rfl rfl rfl ?_
  refine g_cV1R (p0 := 8) (r1 := mX8_hasStroke) dX9_strokeOf_5 lX9_107 vX8_hasStroke (by first | rfl | assumption | exact RW.s (by assumption) | exact TW.s (by assumption)) ⟨_, _, rfl⟩ (FITi rfl rfl) (Nat.le_of_ble_eq_true rfl) (hasStroke_T TW1 hs hs1 hp) rfl ?_
  first | ((with_reducible refine isN1 ?_); refine g_ifN_eq (tgt := 21) (p1 := 11) dX9_strokeOf_8 rfl (by omega) rfl (fun c_8 => by exfalso; first | omega | contradiction | exact absurd (by assumption) c_8 | (simp_all; done)) (fun c_8 => ?_)) | refine g_if_eq (tgt := 21) (p1 := 11) dX9_strokeOf_8 rfl rfl (fun c_8 => by exfalso; first | omega | contradiction | exact absurd (by assumption) c_8 | (simp_all; done)) (fun c_8 => ?_)
  refine g_iload_n (p0 := 12) (i := 2) dX9_strokeOf_11 rfl rfl rfl ?_
  first | ((with_reducible refine isN1 ?_); refine g_ifN_lt (tgt := 21) (p1 := 15) dX9_strokeOf_12 rfl (by omega) rfl (fun c_12 => by exfalso; first | omega | contradiction | exact absurd (by assumption) c_12 | (simp_all; done)) (fun c_12 => ?_)) | refine g_if_lt (tgt := 21) (p1 := 15) dX9_strokeOf_12 rfl rfl (fun c_12 => by exfalso; first | omega | contradiction | exact absurd (by assumption) c_12 | (simp_all; done)) (fun c_12 => ?_)
  refine g_iload_n (p0 := 16) (i := 2) dX9_strokeOf_15 rfl rfl rfl ?_
  refine g_bipush (p0 := 18) (v := nI 6) dX9_strokeOf_16 (by decide) rfl ?_
  first | ((with_reducible refine isN2 ?_); refine g_icmpN_le (tgt := 24) (p1 := 21) dX9_strokeOf_18 rfl (by omega) (by omega) rfl (fun c_18 => ?_) (fun c_18 => by exfalso; first | omega | contradiction | exact absurd (by assumption) c_18 | (simp_all; done))) | refine g_icmp_le (tgt := 24) (p1 := 21) dX9_strokeOf_18 rfl rfl (fun c_18 => ?_) (fun c_18 => by exfalso; first | omega | contradiction | exact absurd (by assumption) c_18 | (simp_all; done))
  refine g_iload_n (p0 := 25) (i := 2) dX9_strokeOf_24 rfl rfl rfl ?_
  first | ((with_reducible refine isN1 ?_); refine g_ifN_ne (tgt := 40) (p1 := 28) dX9_strokeOf_25 rfl (by omega) rfl (fun c_25 => ?_) (fun c_25 => by exfalso; first | omega | contradiction | exact absurd (by assumption) c_25 | (simp_all; done))) | refine g_if_ne (tgt := 40) (p1 := 28) dX9_strokeOf_25 rfl rfl (fun c_25 => ?_) (fun c_25 => by exfalso; first | omega | contradiction | exact absurd (by assumption) c_25 | (simp_all; done))
  refine g_iload_n (p0 := 41) (i := 2) dX9_strokeOf_40 rfl rfl rfl ?_
  refine g_iconst (p0 := 42) (v := nI 3) dX9_strokeOf_41 rfl rfl ?_
  first | ((with_reducible refine isN2 ?_); refine g_icmpN_gt (tgt := 64) (p1 := 45) dX9_strokeOf_42 rfl (by omega) (by omega) rfl (fun c_42 => ?_) (fun c_42 => by exfalso; first | omega | contradiction | exact absurd (by assumption) c_42 | (simp_all; done))) | refine g_icmp_gt (tgt := 64) (p1 := 45) dX9_strokeOf_42 rfl rfl (fun c_42 => ?_) (fun c_42 => by exfalso; first | omega | contradiction | exact absurd (by assumption) c_42 | (simp_all; done))
  refine g_aload_n (p0 := 65) (i := 0) dX9_strokeOf_64 rfl rfl rfl ?_
  refine g_getR (p0 := 68) dX9_strokeOf_65 fX9_29 (by first | rfl | assumption | exact RW.s (by assumption) | exact TW.s (by assumption)) rfl rfl ?_
  refine g_iload_n (p0 := 69) (i := 1) dX9_strokeOf_68 rfl rfl rfl ?_
  refine g_cV1R (p0 := 72) (r1 := mX6_isLeftOut) dX9_strokeOf_69 lX9_127 vX6_isLeftOut (by first | rfl | assumption | exact RW.s (by assumption) | exact TW.s (by assumption)) ⟨_, _, rfl⟩ (FITi rfl rfl) (Nat.le_of_ble_eq_true rfl) (isLeftOut_T (by omega) h0) rfl ?_
  first | ((with_reducible refine isN1 ?_); refine g_ifN_eq (tgt := 80) (p1 := 75) dX9_strokeOf_72 rfl (by omega) rfl (fun c_72 => by exfalso; first | omega | contradiction | exact absurd (by assumption) c_72 | (simp_all; done)) (fun c_72 => ?_)) | refine g_if_eq (tgt := 80) (p1 := 75) dX9_strokeOf_72 rfl rfl (fun c_72 => by exfalso; first | omega | contradiction | exact absurd (by assumption) c_72 | (simp_all; done)) (fun c_72 => ?_)
  refine g_ldc (p0 := 77) dX9_strokeOf_75 qX9_122 rfl ?_
  refine g_goto (tgt := 89) dX9_strokeOf_77 rfl ?_
  refine g_ireturn dX9_strokeOf_89 rfl rfl (?_)
  exact ⟨rfl, rfl⟩
set_option maxRecDepth 20000 in
set_option maxHeartbeats 2000000 in
theorem sO_c6 {p s : Nat} {σ : Sg} (hs : σ 1 2 = nI s) (hs1 : s ≤ 160) (hp : p < s) {v : Int32} {k : Nat} (hk : σ 63 p = nI k) (h0 : 0 < k) (h5 : k ≤ 5) (hv : σ 71 p = v) : CM mX9_strokeOf [ar 0, ai (nI p), ai (nI 6)] σ (Ret v σ) := by
  refine CM_in (ls := [some (ar 0), some (ai (nI p)), some (ai (nI 6))]) rfl ?_
  refine g_aload_n (p0 := 1) (i := 0) dX9_strokeOf_0 rfl rfl rfl ?_
  refine g_getR (p0 := 4) dX9_strokeOf_1 fX9_10 (by first | rfl | assumption | exact RW.s (by assumption) | exact TW.s (by assumption)) rfl rfl ?_
  refine g_iload_n (p0 := 5) (i := 1) dX9_strokeOf_4 rfl rfl rfl ?_
  refine g_cV1R (p0 := 8) (r1 := mX8_hasStroke) dX9_strokeOf_5 lX9_107 vX8_hasStroke (by first | rfl | assumption | exact RW.s (by assumption) | exact TW.s (by assumption)) ⟨_, _, rfl⟩ (FITi rfl rfl) (Nat.le_of_ble_eq_true rfl) (hasStroke_T TW1 hs hs1 hp) rfl ?_
  first | ((with_reducible refine isN1 ?_); refine g_ifN_eq (tgt := 21) (p1 := 11) dX9_strokeOf_8 rfl (by omega) rfl (fun c_8 => by exfalso; first | omega | contradiction | exact absurd (by assumption) c_8 | (simp_all; done)) (fun c_8 => ?_)) | refine g_if_eq (tgt := 21) (p1 := 11) dX9_strokeOf_8 rfl rfl (fun c_8 => by exfalso; first | omega | contradiction | exact absurd (by assumption) c_8 | (simp_all; done)) (fun c_8 => ?_)
  refine g_iload_n (p0 := 12) (i := 2) dX9_strokeOf_11 rfl rfl rfl ?_
  first | ((with_reducible refine isN1 ?_); refine g_ifN_lt (tgt := 21) (p1 := 15) dX9_strokeOf_12 rfl (by omega) rfl (fun c_12 => by exfalso; first | omega | contradiction | exact absurd (by assumption) c_12 | (simp_all; done)) (fun c_12 => ?_)) | refine g_if_lt (tgt := 21) (p1 := 15) dX9_strokeOf_12 rfl rfl (fun c_12 => by exfalso; first | omega | contradiction | exact absurd (by assumption) c_12 | (simp_all; done)) (fun c_12 => ?_)
  refine g_iload_n (p0 := 16) (i := 2) dX9_strokeOf_15 rfl rfl rfl ?_
  refine g_bipush (p0 := 18) (v := nI 6) dX9_strokeOf_16 (by decide) rfl ?_
  first | ((with_reducible refine isN2 ?_); refine g_icmpN_le (tgt := 24) (p1 := 21) dX9_strokeOf_18 rfl (by omega) (by omega) rfl (fun c_18 => ?_) (fun c_18 => by exfalso; first | omega | contradiction | exact absurd (by assumption) c_18 | (simp_all; done))) | refine g_icmp_le (tgt := 24) (p1 := 21) dX9_strokeOf_18 rfl rfl (fun c_18 => ?_) (fun c_18 => by exfalso; first | omega | contradiction | exact absurd (by assumption) c_18 | (simp_all; done))
  refine g_iload_n (p0 := 25) (i := 2) dX9_strokeOf_24 rfl rfl rfl ?_
  first | ((with_reducible refine isN1 ?_); refine g_ifN_ne (tgt := 40) (p1 := 28) dX9_strokeOf_25 rfl (by omega) rfl (fun c_25 => ?_) (fun c_25 => by exfalso; first | omega | contradiction | exact absurd (by assumption) c_25 | (simp_all; done))) | refine g_if_ne (tgt := 40) (p1 := 28) dX9_strokeOf_25 rfl rfl (fun c_25 => ?_) (fun c_25 => by exfalso; first | omega | contradiction | exact absurd (by assumption) c_25 | (simp_all; done))
  refine g_iload_n (p0 := 41) (i := 2) dX9_strokeOf_40 rfl rfl rfl ?_
  refine g_iconst (p0 := 42) (v := nI 3) dX9_strokeOf_41 rfl rfl ?_
  first | ((with_reducible refine isN2 ?_); refine g_icmpN_gt (tgt := 64) (p1 := 45) dX9_strokeOf_42 rfl (by omega) (by omega) rfl (fun c_42 => ?_) (fun c_42 => by exfalso; first | omega | contradiction | exact absurd (by assumption) c_42 | (simp_all; done))) | refine g_icmp_gt (tgt := 64) (p1 := 45) dX9_strokeOf_42 rfl rfl (fun c_42 => ?_) (fun c_42 => by exfalso; first | omega | contradiction | exact absurd (by assumption) c_42 | (simp_all; done))
  refine g_aload_n (p0 := 65) (i := 0) dX9_strokeOf_64 rfl rfl rfl ?_
  refine g_getR (p0 := 68) dX9_strokeOf_65 fX9_29 (by first | rfl | assumption | exact RW.s (by assumption) | exact TW.s (by assumption)) rfl rfl ?_
  refine g_iload_n (p0 := 69) (i := 1) dX9_strokeOf_68 rfl rfl rfl ?_
  refine g_cV1R (p0 := 72) (r1 := mX6_isLeftOut) dX9_strokeOf_69 lX9_127 vX6_isLeftOut (by first | rfl | assumption | exact RW.s (by assumption) | exact TW.s (by assumption)) ⟨_, _, rfl⟩ (FITi rfl rfl) (Nat.le_of_ble_eq_true rfl) (isLeftOut_F (by omega) hk h0 h5) rfl ?_
  first | ((with_reducible refine isN1 ?_); refine g_ifN_eq (tgt := 80) (p1 := 75) dX9_strokeOf_72 rfl (by omega) rfl (fun c_72 => ?_) (fun c_72 => by exfalso; first | omega | contradiction | exact absurd (by assumption) c_72 | (simp_all; done))) | refine g_if_eq (tgt := 80) (p1 := 75) dX9_strokeOf_72 rfl rfl (fun c_72 => ?_) (fun c_72 => by exfalso; first | omega | contradiction | exact absurd (by assumption) c_72 | (simp_all; done))
  refine g_aload_n (p0 := 81) (i := 0) dX9_strokeOf_80 rfl rfl rfl ?_
  refine g_getR (p0 := 84) dX9_strokeOf_81 fX9_29 (by first | rfl | assumption | exact RW.s (by assumption) | exact TW.s (by assumption)) rfl rfl ?_
  refine g_iload_n (p0 := 85) (i := 1) dX9_strokeOf_84 rfl rfl rfl ?_
  refine g_iload_n (p0 := 86) (i := 2) dX9_strokeOf_85 rfl rfl rfl ?_
  refine g_cV2R (p0 := 89) (r1 := mX6_placeDetail) dX9_strokeOf_86 lX9_130 vX6_placeDetail (by first | rfl | assumption | exact RW.s (by assumption) | exact TW.s (by assumption)) ⟨_, _, rfl⟩ (FITi rfl rfl) (Nat.le_of_ble_eq_true rfl) (placeDetail_6 (by omega) hv) rfl ?_
  refine g_ireturn dX9_strokeOf_89 rfl rfl (?_)
  exact ⟨rfl, rfl⟩
theorem place_eq (c : Nat → Nat) (hc5 : ∀ k, c k ≤ 5) (k : Nat) (h : 1 ≤ Mc c k) : ln c k (Mc c k - 1) - 1 = Lc c k - 1 - fl c k (Mc c k - 1) := by
  have h1 := flln c hc5 k (Mc c k - 1) (by omega)
  rw [if_neg (by omega)] at h1
  omega
