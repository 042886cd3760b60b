/-! THE CLASS: out of the rows of whole -/
set_option maxRecDepth 20000 in
set_option maxHeartbeats 2000000 in
theorem shift_ca {x y : Int32} {σ : Sg} (h : CM mX8_hasStroke [ar 1, ai x] σ (Ret (nI 0) σ)) : CM mX9_shift [ar 0, ai x, ai y] σ (Ret (-1000001) σ) := by
  refine CM_in (ls := [some (ar 0), some (ai x), some (ai y), none, none]) rfl ?_
  refine g_aload_n (p0 := 1) (i := 0) dX9_shift_0 rfl rfl rfl ?_
  refine g_getR (p0 := 4) dX9_shift_1 fX9_10 (by first | rfl | assumption | exact RW.s (by assumption) | exact TW.s (by assumption)) rfl rfl ?_
  refine g_iload_n (p0 := 5) (i := 1) dX9_shift_4 rfl rfl rfl ?_
  refine g_cV1R (p0 := 8) (r1 := mX8_hasStroke) dX9_shift_5 lX9_107 vX8_hasStroke (by first | rfl | assumption | exact RW.s (by assumption) | exact TW.s (by assumption)) ⟨_, _, rfl⟩ (FITi rfl rfl) (Nat.le_of_ble_eq_true rfl) (h) rfl ?_
  first | ((with_reducible refine isN1 ?_); refine g_ifN_eq (tgt := 27) (p1 := 11) dX9_shift_8 rfl (by omega) rfl (fun c_8 => ?_) (fun c_8 => by exfalso; first | omega | contradiction | exact h0 c_8 | exact c_8 (Int32.not_lt.mp h3) | exact absurd h (Int32.not_lt.mpr c_8))) | refine g_if_eq (tgt := 27) (p1 := 11) dX9_shift_8 rfl rfl (fun c_8 => ?_) (fun c_8 => by exfalso; first | omega | contradiction | exact h0 c_8 | exact c_8 (Int32.not_lt.mp h3) | exact absurd h (Int32.not_lt.mpr c_8))
  refine g_ldc (p0 := 29) dX9_shift_27 qX9_68 rfl ?_
  refine g_ireturn dX9_shift_29 rfl rfl (?_)
  exact ⟨rfl, rfl⟩
set_option maxRecDepth 20000 in
set_option maxHeartbeats 2000000 in
theorem shift_cb {p s : Nat} {σ : Sg} (hs : σ 1 2 = nI s) (hs1 : s ≤ 160) (hp : p < s)  : CM mX9_shift [ar 0, ai (nI p), ai (nI 0)] σ (Ret (-1000001) σ) := by
  refine CM_in (ls := [some (ar 0), some (ai (nI p)), some (ai (nI 0)), none, none]) rfl ?_
  refine g_aload_n (p0 := 1) (i := 0) dX9_shift_0 rfl rfl rfl ?_
  refine g_getR (p0 := 4) dX9_shift_1 fX9_10 (by first | rfl | assumption | exact RW.s (by assumption) | exact TW.s (by assumption)) rfl rfl ?_
  refine g_iload_n (p0 := 5) (i := 1) dX9_shift_4 rfl rfl rfl ?_
  refine g_cV1R (p0 := 8) (r1 := mX8_hasStroke) dX9_shift_5 lX9_107 vX8_hasStroke (by first | rfl | assumption | exact RW.s (by assumption) | exact TW.s (by assumption)) ⟨_, _, rfl⟩ (FITi rfl rfl) (Nat.le_of_ble_eq_true rfl) (hasStroke_T TW1 hs hs1 hp) rfl ?_
  first | ((with_reducible refine isN1 ?_); refine g_ifN_eq (tgt := 27) (p1 := 11) dX9_shift_8 rfl (by omega) rfl (fun c_8 => by exfalso; first | omega | contradiction | exact h0 c_8 | exact c_8 (Int32.not_lt.mp h3) | exact absurd h (Int32.not_lt.mpr c_8)) (fun c_8 => ?_)) | refine g_if_eq (tgt := 27) (p1 := 11) dX9_shift_8 rfl rfl (fun c_8 => by exfalso; first | omega | contradiction | exact h0 c_8 | exact c_8 (Int32.not_lt.mp h3) | exact absurd h (Int32.not_lt.mpr c_8)) (fun c_8 => ?_)
  refine g_iload_n (p0 := 12) (i := 2) dX9_shift_11 rfl rfl rfl ?_
  first | ((with_reducible refine isN1 ?_); refine g_ifN_eq (tgt := 27) (p1 := 15) dX9_shift_12 rfl (by omega) rfl (fun c_12 => ?_) (fun c_12 => by exfalso; first | omega | contradiction | exact h0 c_12 | exact c_12 (Int32.not_lt.mp h3) | exact absurd h (Int32.not_lt.mpr c_12))) | refine g_if_eq (tgt := 27) (p1 := 15) dX9_shift_12 rfl rfl (fun c_12 => ?_) (fun c_12 => by exfalso; first | omega | contradiction | exact h0 c_12 | exact c_12 (Int32.not_lt.mp h3) | exact absurd h (Int32.not_lt.mpr c_12))
  refine g_ldc (p0 := 29) dX9_shift_27 qX9_68 rfl ?_
  refine g_ireturn dX9_shift_29 rfl rfl (?_)
  exact ⟨rfl, rfl⟩
set_option maxRecDepth 20000 in
set_option maxHeartbeats 2000000 in
theorem shift_ce {p s : Nat} {x : Int32} {σ : Sg} (hs : σ 1 2 = nI s) (hs1 : s ≤ 160) (hp : p < s) {a : Int32} (h0 : ¬ x = 0) (h2 : ¬ x < -99) (h3 : ¬ nI 99 < x) (va : σ 3 p = a) (ht : a + x < 0) : CM mX9_shift [ar 0, ai (nI p), ai x] σ (Ret (-1000002) σ) := by
  refine CM_in (ls := [some (ar 0), some (ai (nI p)), some (ai x), none, none]) rfl ?_
  refine g_aload_n (p0 := 1) (i := 0) dX9_shift_0 rfl rfl rfl ?_
  refine g_getR (p0 := 4) dX9_shift_1 fX9_10 (by first | rfl | assumption | exact RW.s (by assumption) | exact TW.s (by assumption)) rfl rfl ?_
  refine g_iload_n (p0 := 5) (i := 1) dX9_shift_4 rfl rfl rfl ?_
  refine g_cV1R (p0 := 8) (r1 := mX8_hasStroke) dX9_shift_5 lX9_107 vX8_hasStroke (by first | rfl | assumption | exact RW.s (by assumption) | exact TW.s (by assumption)) ⟨_, _, rfl⟩ (FITi rfl rfl) (Nat.le_of_ble_eq_true rfl) (hasStroke_T TW1 hs hs1 hp) rfl ?_
  first | ((with_reducible refine isN1 ?_); refine g_ifN_eq (tgt := 27) (p1 := 11) dX9_shift_8 rfl (by omega) rfl (fun c_8 => by exfalso; first | omega | contradiction | exact h0 c_8 | exact c_8 (Int32.not_lt.mp h3) | exact absurd h (Int32.not_lt.mpr c_8)) (fun c_8 => ?_)) | refine g_if_eq (tgt := 27) (p1 := 11) dX9_shift_8 rfl rfl (fun c_8 => by exfalso; first | omega | contradiction | exact h0 c_8 | exact c_8 (Int32.not_lt.mp h3) | exact absurd h (Int32.not_lt.mpr c_8)) (fun c_8 => ?_)
  refine g_iload_n (p0 := 12) (i := 2) dX9_shift_11 rfl rfl rfl ?_
  first | ((with_reducible refine isN1 ?_); refine g_ifN_eq (tgt := 27) (p1 := 15) dX9_shift_12 rfl (by omega) rfl (fun c_12 => by exfalso; first | omega | contradiction | exact h0 c_12 | exact c_12 (Int32.not_lt.mp h3) | exact absurd h (Int32.not_lt.mpr c_12)) (fun c_12 => ?_)) | refine g_if_eq (tgt := 27) (p1 := 15) dX9_shift_12 rfl rfl (fun c_12 => by exfalso; first | omega | contradiction | exact h0 c_12 | exact c_12 (Int32.not_lt.mp h3) | exact absurd h (Int32.not_lt.mpr c_12)) (fun c_12 => ?_)
  refine g_iload_n (p0 := 16) (i := 2) dX9_shift_15 rfl rfl rfl ?_
  refine g_bipush (p0 := 18) (v := -99) dX9_shift_16 (by decide) rfl ?_
  first | ((with_reducible refine isN2 ?_); refine g_icmpN_lt (tgt := 27) (p1 := 21) dX9_shift_18 rfl (by omega) (by omega) rfl (fun c_18 => by exfalso; first | omega | contradiction | exact h0 c_18 | exact c_18 (Int32.not_lt.mp h3) | exact absurd h (Int32.not_lt.mpr c_18)) (fun c_18 => ?_)) | refine g_icmp_lt (tgt := 27) (p1 := 21) dX9_shift_18 rfl rfl (fun c_18 => by exfalso; first | omega | contradiction | exact h0 c_18 | exact c_18 (Int32.not_lt.mp h3) | exact absurd h (Int32.not_lt.mpr c_18)) (fun c_18 => ?_)
  refine g_iload_n (p0 := 22) (i := 2) dX9_shift_21 rfl rfl rfl ?_
  refine g_bipush (p0 := 24) (v := nI 99) dX9_shift_22 (by decide) rfl ?_
  first | ((with_reducible refine isN2 ?_); refine g_icmpN_le (tgt := 30) (p1 := 27) dX9_shift_24 rfl (by omega) (by omega) rfl (fun c_24 => ?_) (fun c_24 => by exfalso; first | omega | contradiction | exact h0 c_24 | exact c_24 (Int32.not_lt.mp h3) | exact absurd h (Int32.not_lt.mpr c_24))) | refine g_icmp_le (tgt := 30) (p1 := 27) dX9_shift_24 rfl rfl (fun c_24 => ?_) (fun c_24 => by exfalso; first | omega | contradiction | exact h0 c_24 | exact c_24 (Int32.not_lt.mp h3) | exact absurd h (Int32.not_lt.mpr c_24))
  refine g_aload_n (p0 := 31) (i := 0) dX9_shift_30 rfl rfl rfl ?_
  refine g_getR (p0 := 34) dX9_shift_31 fX9_10 (by first | rfl | assumption | exact RW.s (by assumption) | exact TW.s (by assumption)) rfl rfl ?_
  refine g_getR (p0 := 37) dX9_shift_34 fX9_110 (by first | rfl | assumption | exact RW.s (by assumption) | exact TW.s (by assumption)) rfl rfl ?_
  refine g_iload_n (p0 := 38) (i := 1) dX9_shift_37 rfl rfl rfl ?_
  refine g_cV1R (p0 := 41) (r1 := mX7_at) dX9_shift_38 lX9_114 vX7_at (by first | rfl | assumption | exact RW.s (by assumption) | exact TW.s (by assumption)) ⟨_, _, rfl⟩ (FITi rfl rfl) (Nat.le_of_ble_eq_true rfl) (at_N (by first | exact ⟨rfl, rfl, by decide⟩ | assumption) (by omega) va) rfl ?_
  refine g_iload_n (p0 := 42) (i := 2) dX9_shift_41 rfl rfl rfl ?_
  first | ((with_reducible refine isN2 ?_); refine g_iaddN (p0 := 43) dX9_shift_42 rfl ?_) | refine g_iadd (p0 := 43) dX9_shift_42 rfl ?_
  refine g_istore_n (p0 := 44) (i := 3) (ls2 := [_, _, _, _, _]) dX9_shift_43 rfl (Nat.le_of_ble_eq_true rfl) rfl rfl ?_
  refine g_iload_n (p0 := 45) (i := 3) dX9_shift_44 rfl rfl rfl ?_
  first | ((with_reducible refine isN1 ?_); refine g_ifN_lt (tgt := 66) (p1 := 48) dX9_shift_45 rfl (by omega) rfl (fun c_45 => ?_) (fun c_45 => by exfalso; first | omega | contradiction | exact h0 c_45 | exact c_45 (Int32.not_lt.mp h3) | exact absurd h (Int32.not_lt.mpr c_45))) | refine g_if_lt (tgt := 66) (p1 := 48) dX9_shift_45 rfl rfl (fun c_45 => ?_) (fun c_45 => by exfalso; first | omega | contradiction | exact h0 c_45 | exact c_45 (Int32.not_lt.mp h3) | exact absurd h (Int32.not_lt.mpr c_45))
  refine g_ldc (p0 := 68) dX9_shift_66 qX9_96 rfl ?_
  refine g_ireturn dX9_shift_68 rfl rfl (?_)
  exact ⟨rfl, rfl⟩
set_option maxRecDepth 20000 in
set_option maxHeartbeats 2000000 in
theorem shift_cf {p s : Nat} {x : Int32} {σ : Sg} (hs : σ 1 2 = nI s) (hs1 : s ≤ 160) (hp : p < s) {a : Int32} (h0 : ¬ x = 0) (h2 : ¬ x < -99) (h3 : ¬ nI 99 < x) (va : σ 3 p = a) {j : Nat} (ht : a + x = nI j) (hj : j < 2147483648) (hb : 9999 < j) : CM mX9_shift [ar 0, ai (nI p), ai x] σ (Ret (-1000002) σ) := by
  refine CM_in (ls := [some (ar 0), some (ai (nI p)), some (ai x), none, none]) rfl ?_
  refine g_aload_n (p0 := 1) (i := 0) dX9_shift_0 rfl rfl rfl ?_
  refine g_getR (p0 := 4) dX9_shift_1 fX9_10 (by first | rfl | assumption | exact RW.s (by assumption) | exact TW.s (by assumption)) rfl rfl ?_
  refine g_iload_n (p0 := 5) (i := 1) dX9_shift_4 rfl rfl rfl ?_
  refine g_cV1R (p0 := 8) (r1 := mX8_hasStroke) dX9_shift_5 lX9_107 vX8_hasStroke (by first | rfl | assumption | exact RW.s (by assumption) | exact TW.s (by assumption)) ⟨_, _, rfl⟩ (FITi rfl rfl) (Nat.le_of_ble_eq_true rfl) (hasStroke_T TW1 hs hs1 hp) rfl ?_
  first | ((with_reducible refine isN1 ?_); refine g_ifN_eq (tgt := 27) (p1 := 11) dX9_shift_8 rfl (by omega) rfl (fun c_8 => by exfalso; first | omega | contradiction | exact h0 c_8 | exact c_8 (Int32.not_lt.mp h3) | exact absurd h (Int32.not_lt.mpr c_8)) (fun c_8 => ?_)) | refine g_if_eq (tgt := 27) (p1 := 11) dX9_shift_8 rfl rfl (fun c_8 => by exfalso; first | omega | contradiction | exact h0 c_8 | exact c_8 (Int32.not_lt.mp h3) | exact absurd h (Int32.not_lt.mpr c_8)) (fun c_8 => ?_)
  refine g_iload_n (p0 := 12) (i := 2) dX9_shift_11 rfl rfl rfl ?_
  first | ((with_reducible refine isN1 ?_); refine g_ifN_eq (tgt := 27) (p1 := 15) dX9_shift_12 rfl (by omega) rfl (fun c_12 => by exfalso; first | omega | contradiction | exact h0 c_12 | exact c_12 (Int32.not_lt.mp h3) | exact absurd h (Int32.not_lt.mpr c_12)) (fun c_12 => ?_)) | refine g_if_eq (tgt := 27) (p1 := 15) dX9_shift_12 rfl rfl (fun c_12 => by exfalso; first | omega | contradiction | exact h0 c_12 | exact c_12 (Int32.not_lt.mp h3) | exact absurd h (Int32.not_lt.mpr c_12)) (fun c_12 => ?_)
  refine g_iload_n (p0 := 16) (i := 2) dX9_shift_15 rfl rfl rfl ?_
  refine g_bipush (p0 := 18) (v := -99) dX9_shift_16 (by decide) rfl ?_
  first | ((with_reducible refine isN2 ?_); refine g_icmpN_lt (tgt := 27) (p1 := 21) dX9_shift_18 rfl (by omega) (by omega) rfl (fun c_18 => by exfalso; first | omega | contradiction | exact h0 c_18 | exact c_18 (Int32.not_lt.mp h3) | exact absurd h (Int32.not_lt.mpr c_18)) (fun c_18 => ?_)) | refine g_icmp_lt (tgt := 27) (p1 := 21) dX9_shift_18 rfl rfl (fun c_18 => by exfalso; first | omega | contradiction | exact h0 c_18 | exact c_18 (Int32.not_lt.mp h3) | exact absurd h (Int32.not_lt.mpr c_18)) (fun c_18 => ?_)
  refine g_iload_n (p0 := 22) (i := 2) dX9_shift_21 rfl rfl rfl ?_
  refine g_bipush (p0 := 24) (v := nI 99) dX9_shift_22 (by decide) rfl ?_
  first | ((with_reducible refine isN2 ?_); refine g_icmpN_le (tgt := 30) (p1 := 27) dX9_shift_24 rfl (by omega) (by omega) rfl (fun c_24 => ?_) (fun c_24 => by exfalso; first | omega | contradiction | exact h0 c_24 | exact c_24 (Int32.not_lt.mp h3) | exact absurd h (Int32.not_lt.mpr c_24))) | refine g_icmp_le (tgt := 30) (p1 := 27) dX9_shift_24 rfl rfl (fun c_24 => ?_) (fun c_24 => by exfalso; first | omega | contradiction | exact h0 c_24 | exact c_24 (Int32.not_lt.mp h3) | exact absurd h (Int32.not_lt.mpr c_24))
  refine g_aload_n (p0 := 31) (i := 0) dX9_shift_30 rfl rfl rfl ?_
  refine g_getR (p0 := 34) dX9_shift_31 fX9_10 (by first | rfl | assumption | exact RW.s (by assumption) | exact TW.s (by assumption)) rfl rfl ?_
  refine g_getR (p0 := 37) dX9_shift_34 fX9_110 (by first | rfl | assumption | exact RW.s (by assumption) | exact TW.s (by assumption)) rfl rfl ?_
  refine g_iload_n (p0 := 38) (i := 1) dX9_shift_37 rfl rfl rfl ?_
  refine g_cV1R (p0 := 41) (r1 := mX7_at) dX9_shift_38 lX9_114 vX7_at (by first | rfl | assumption | exact RW.s (by assumption) | exact TW.s (by assumption)) ⟨_, _, rfl⟩ (FITi rfl rfl) (Nat.le_of_ble_eq_true rfl) (at_N (by first | exact ⟨rfl, rfl, by decide⟩ | assumption) (by omega) va) rfl ?_
  refine g_iload_n (p0 := 42) (i := 2) dX9_shift_41 rfl rfl rfl ?_
  first | ((with_reducible refine isN2 ?_); refine g_iaddN (p0 := 43) dX9_shift_42 rfl ?_) | refine g_iadd (p0 := 43) dX9_shift_42 rfl ?_
  rw [ht]
  refine g_istore_n (p0 := 44) (i := 3) (ls2 := [_, _, _, _, _]) dX9_shift_43 rfl (Nat.le_of_ble_eq_true rfl) rfl rfl ?_
  refine g_iload_n (p0 := 45) (i := 3) dX9_shift_44 rfl rfl rfl ?_
  first | ((with_reducible refine isN1 ?_); refine g_ifN_lt (tgt := 66) (p1 := 48) dX9_shift_45 rfl (by omega) rfl (fun c_45 => by exfalso; first | omega | contradiction | exact h0 c_45 | exact c_45 (Int32.not_lt.mp h3) | exact absurd h (Int32.not_lt.mpr c_45)) (fun c_45 => ?_)) | refine g_if_lt (tgt := 66) (p1 := 48) dX9_shift_45 rfl rfl (fun c_45 => by exfalso; first | omega | contradiction | exact h0 c_45 | exact c_45 (Int32.not_lt.mp h3) | exact absurd h (Int32.not_lt.mpr c_45)) (fun c_45 => ?_)
  refine g_iload_n (p0 := 49) (i := 3) dX9_shift_48 rfl rfl rfl ?_
  refine g_sipush (p0 := 52) (v := nI 9999) dX9_shift_49 (by decide) rfl ?_
  first | ((with_reducible refine isN2 ?_); refine g_icmpN_gt (tgt := 66) (p1 := 55) dX9_shift_52 rfl (by omega) (by omega) rfl (fun c_52 => ?_) (fun c_52 => by exfalso; first | omega | contradiction | exact h0 c_52 | exact c_52 (Int32.not_lt.mp h3) | exact absurd h (Int32.not_lt.mpr c_52))) | refine g_icmp_gt (tgt := 66) (p1 := 55) dX9_shift_52 rfl rfl (fun c_52 => ?_) (fun c_52 => by exfalso; first | omega | contradiction | exact h0 c_52 | exact c_52 (Int32.not_lt.mp h3) | exact absurd h (Int32.not_lt.mpr c_52))
  refine g_ldc (p0 := 68) dX9_shift_66 qX9_96 rfl ?_
  refine g_ireturn dX9_shift_68 rfl rfl (?_)
  exact ⟨rfl, rfl⟩
set_option maxRecDepth 20000 in
set_option maxHeartbeats 2000000 in
theorem shift_cg {p s : Nat} {x : Int32} {σ : Sg} (hs : σ 1 2 = nI s) (hs1 : s ≤ 160) (hp : p < s) {a : Int32} (h0 : ¬ x = 0) (h2 : ¬ x < -99) (h3 : ¬ nI 99 < x) (va : σ 3 p = a) {j : Nat} (ht : a + x = nI j) (hj : j < 2147483648) (hb : j ≤ 9999) (hth : CM mX8_hasStrokeAt [ar 1, ai (nI j)] σ (Ret (nI 1) σ)) : CM mX9_shift [ar 0, ai (nI p), ai x] σ (Ret (-1000002) σ) := by
  refine CM_in (ls := [some (ar 0), some (ai (nI p)), some (ai x), none, none]) rfl ?_
  refine g_aload_n (p0 := 1) (i := 0) dX9_shift_0 rfl rfl rfl ?_
  refine g_getR (p0 := 4) dX9_shift_1 fX9_10 (by first | rfl | assumption | exact RW.s (by assumption) | exact TW.s (by assumption)) rfl rfl ?_
  refine g_iload_n (p0 := 5) (i := 1) dX9_shift_4 rfl rfl rfl ?_
  refine g_cV1R (p0 := 8) (r1 := mX8_hasStroke) dX9_shift_5 lX9_107 vX8_hasStroke (by first | rfl | assumption | exact RW.s (by assumption) | exact TW.s (by assumption)) ⟨_, _, rfl⟩ (FITi rfl rfl) (Nat.le_of_ble_eq_true rfl) (hasStroke_T TW1 hs hs1 hp) rfl ?_
  first | ((with_reducible refine isN1 ?_); refine g_ifN_eq (tgt := 27) (p1 := 11) dX9_shift_8 rfl (by omega) rfl (fun c_8 => by exfalso; first | omega | contradiction | exact h0 c_8 | exact c_8 (Int32.not_lt.mp h3) | exact absurd h (Int32.not_lt.mpr c_8)) (fun c_8 => ?_)) | refine g_if_eq (tgt := 27) (p1 := 11) dX9_shift_8 rfl rfl (fun c_8 => by exfalso; first | omega | contradiction | exact h0 c_8 | exact c_8 (Int32.not_lt.mp h3) | exact absurd h (Int32.not_lt.mpr c_8)) (fun c_8 => ?_)
  refine g_iload_n (p0 := 12) (i := 2) dX9_shift_11 rfl rfl rfl ?_
  first | ((with_reducible refine isN1 ?_); refine g_ifN_eq (tgt := 27) (p1 := 15) dX9_shift_12 rfl (by omega) rfl (fun c_12 => by exfalso; first | omega | contradiction | exact h0 c_12 | exact c_12 (Int32.not_lt.mp h3) | exact absurd h (Int32.not_lt.mpr c_12)) (fun c_12 => ?_)) | refine g_if_eq (tgt := 27) (p1 := 15) dX9_shift_12 rfl rfl (fun c_12 => by exfalso; first | omega | contradiction | exact h0 c_12 | exact c_12 (Int32.not_lt.mp h3) | exact absurd h (Int32.not_lt.mpr c_12)) (fun c_12 => ?_)
  refine g_iload_n (p0 := 16) (i := 2) dX9_shift_15 rfl rfl rfl ?_
  refine g_bipush (p0 := 18) (v := -99) dX9_shift_16 (by decide) rfl ?_
  first | ((with_reducible refine isN2 ?_); refine g_icmpN_lt (tgt := 27) (p1 := 21) dX9_shift_18 rfl (by omega) (by omega) rfl (fun c_18 => by exfalso; first | omega | contradiction | exact h0 c_18 | exact c_18 (Int32.not_lt.mp h3) | exact absurd h (Int32.not_lt.mpr c_18)) (fun c_18 => ?_)) | refine g_icmp_lt (tgt := 27) (p1 := 21) dX9_shift_18 rfl rfl (fun c_18 => by exfalso; first | omega | contradiction | exact h0 c_18 | exact c_18 (Int32.not_lt.mp h3) | exact absurd h (Int32.not_lt.mpr c_18)) (fun c_18 => ?_)
  refine g_iload_n (p0 := 22) (i := 2) dX9_shift_21 rfl rfl rfl ?_
  refine g_bipush (p0 := 24) (v := nI 99) dX9_shift_22 (by decide) rfl ?_
  first | ((with_reducible refine isN2 ?_); refine g_icmpN_le (tgt := 30) (p1 := 27) dX9_shift_24 rfl (by omega) (by omega) rfl (fun c_24 => ?_) (fun c_24 => by exfalso; first | omega | contradiction | exact h0 c_24 | exact c_24 (Int32.not_lt.mp h3) | exact absurd h (Int32.not_lt.mpr c_24))) | refine g_icmp_le (tgt := 30) (p1 := 27) dX9_shift_24 rfl rfl (fun c_24 => ?_) (fun c_24 => by exfalso; first | omega | contradiction | exact h0 c_24 | exact c_24 (Int32.not_lt.mp h3) | exact absurd h (Int32.not_lt.mpr c_24))
  refine g_aload_n (p0 := 31) (i := 0) dX9_shift_30 rfl rfl rfl ?_
  refine g_getR (p0 := 34) dX9_shift_31 fX9_10 (by first | rfl | assumption | exact RW.s (by assumption) | exact TW.s (by assumption)) rfl rfl ?_
  refine g_getR (p0 := 37) dX9_shift_34 fX9_110 (by first | rfl | assumption | exact RW.s (by assumption) | exact TW.s (by assumption)) rfl rfl ?_
  refine g_iload_n (p0 := 38) (i := 1) dX9_shift_37 rfl rfl rfl ?_
  refine g_cV1R (p0 := 41) (r1 := mX7_at) dX9_shift_38 lX9_114 vX7_at (by first | rfl | assumption | exact RW.s (by assumption) | exact TW.s (by assumption)) ⟨_, _, rfl⟩ (FITi rfl rfl) (Nat.le_of_ble_eq_true rfl) (at_N (by first | exact ⟨rfl, rfl, by decide⟩ | assumption) (by omega) va) rfl ?_
  refine g_iload_n (p0 := 42) (i := 2) dX9_shift_41 rfl rfl rfl ?_
  first | ((with_reducible refine isN2 ?_); refine g_iaddN (p0 := 43) dX9_shift_42 rfl ?_) | refine g_iadd (p0 := 43) dX9_shift_42 rfl ?_
  rw [ht]
  refine g_istore_n (p0 := 44) (i := 3) (ls2 := [_, _, _, _, _]) dX9_shift_43 rfl (Nat.le_of_ble_eq_true rfl) rfl rfl ?_
  refine g_iload_n (p0 := 45) (i := 3) dX9_shift_44 rfl rfl rfl ?_
  first | ((with_reducible refine isN1 ?_); refine g_ifN_lt (tgt := 66) (p1 := 48) dX9_shift_45 rfl (by omega) rfl (fun c_45 => by exfalso; first | omega | contradiction | exact h0 c_45 | exact c_45 (Int32.not_lt.mp h3) | exact absurd h (Int32.not_lt.mpr c_45)) (fun c_45 => ?_)) | refine g_if_lt (tgt := 66) (p1 := 48) dX9_shift_45 rfl rfl (fun c_45 => by exfalso; first | omega | contradiction | exact h0 c_45 | exact c_45 (Int32.not_lt.mp h3) | exact absurd h (Int32.not_lt.mpr c_45)) (fun c_45 => ?_)
  refine g_iload_n (p0 := 49) (i := 3) dX9_shift_48 rfl rfl rfl ?_
  refine g_sipush (p0 := 52) (v := nI 9999) dX9_shift_49 (by decide) rfl ?_
  first | ((with_reducible refine isN2 ?_); refine g_icmpN_gt (tgt := 66) (p1 := 55) dX9_shift_52 rfl (by omega) (by omega) rfl (fun c_52 => by exfalso; first | omega | contradiction | exact h0 c_52 | exact c_52 (Int32.not_lt.mp h3) | exact absurd h (Int32.not_lt.mpr c_52)) (fun c_52 => ?_)) | refine g_icmp_gt (tgt := 66) (p1 := 55) dX9_shift_52 rfl rfl (fun c_52 => by exfalso; first | omega | contradiction | exact h0 c_52 | exact c_52 (Int32.not_lt.mp h3) | exact absurd h (Int32.not_lt.mpr c_52)) (fun c_52 => ?_)
  refine g_aload_n (p0 := 56) (i := 0) dX9_shift_55 rfl rfl rfl ?_
  refine g_getR (p0 := 59) dX9_shift_56 fX9_10 (by first | rfl | assumption | exact RW.s (by assumption) | exact TW.s (by assumption)) rfl rfl ?_
  refine g_iload_n (p0 := 60) (i := 3) dX9_shift_59 rfl rfl rfl ?_
  refine g_cV1R (p0 := 63) (r1 := mX8_hasStrokeAt) dX9_shift_60 lX9_97 vX8_hasStrokeAt (by first | rfl | assumption | exact RW.s (by assumption) | exact TW.s (by assumption)) ⟨_, _, rfl⟩ (FITi rfl rfl) (Nat.le_of_ble_eq_true rfl) (hth) rfl ?_
  first | ((with_reducible refine isN1 ?_); refine g_ifN_eq (tgt := 69) (p1 := 66) dX9_shift_63 rfl (by omega) rfl (fun c_63 => by exfalso; first | omega | contradiction | exact h0 c_63 | exact c_63 (Int32.not_lt.mp h3) | exact absurd h (Int32.not_lt.mpr c_63)) (fun c_63 => ?_)) | refine g_if_eq (tgt := 69) (p1 := 66) dX9_shift_63 rfl rfl (fun c_63 => by exfalso; first | omega | contradiction | exact h0 c_63 | exact c_63 (Int32.not_lt.mp h3) | exact absurd h (Int32.not_lt.mpr c_63)) (fun c_63 => ?_)
  refine g_ldc (p0 := 68) dX9_shift_66 qX9_96 rfl ?_
  refine g_ireturn dX9_shift_68 rfl rfl (?_)
  exact ⟨rfl, rfl⟩
set_option maxRecDepth 20000 in
set_option maxHeartbeats 2000000 in
theorem shift_c {ρ : Nat → Int32} {s n : Nat} {H : Nat → (Nat → Int32) × Nat} {σ : Sg} (hR : RowOK ρ s) (hRep : Rep σ 1 ρ s) (hHC : HC σ n H) (h65 : σ 65 0 = nI 0) {p j : Nat} {x : Int32} (hp : p < s) (h0 : ¬ x = 0) (h2 : ¬ x < -99) (h3 : ¬ nI 99 < x) (ht : ρ (29 + p) + x = nI j) (hb : j ≤ 9999) (hth : CM mX8_hasStrokeAt [ar 1, ai (nI j)] σ (Ret (nI 0) σ)) : CM mX9_shift [ar 0, ai (nI p), ai x] σ (CPost ρ σ n H s (INS (REM ρ s p) (s - 1) (nI j)) (s - 1 + 1) (nI (ah (tm (REM ρ s p)) (s - 1) (nI j)))) := by
  have hs1 := hR.2.1
  have hs := hRep.1
  have va : σ 3 p = ρ (29 + p) := hRep.2.2.2.2.2 p hp
  refine CM_in (ls := [some (ar 0), some (ai (nI p)), some (ai x), none, none]) rfl ?_
  refine g_aload_n (p0 := 1) (i := 0) dX9_shift_0 rfl rfl rfl ?_
  refine g_getR (p0 := 4) dX9_shift_1 fX9_10 (by first | rfl | assumption | exact RW.s (by assumption) | exact TW.s (by assumption)) rfl rfl ?_
  refine g_iload_n (p0 := 5) (i := 1) dX9_shift_4 rfl rfl rfl ?_
  refine g_cV1R (p0 := 8) (r1 := mX8_hasStroke) dX9_shift_5 lX9_107 vX8_hasStroke (by first | rfl | assumption | exact RW.s (by assumption) | exact TW.s (by assumption)) ⟨_, _, rfl⟩ (FITi rfl rfl) (Nat.le_of_ble_eq_true rfl) (hasStroke_T TW1 hs hs1 hp) rfl ?_
  first | ((with_reducible refine isN1 ?_); refine g_ifN_eq (tgt := 27) (p1 := 11) dX9_shift_8 rfl (by omega) rfl (fun c_8 => by exfalso; first | omega | contradiction | exact h0 c_8 | exact c_8 (Int32.not_lt.mp h3) | exact absurd h (Int32.not_lt.mpr c_8)) (fun c_8 => ?_)) | refine g_if_eq (tgt := 27) (p1 := 11) dX9_shift_8 rfl rfl (fun c_8 => by exfalso; first | omega | contradiction | exact h0 c_8 | exact c_8 (Int32.not_lt.mp h3) | exact absurd h (Int32.not_lt.mpr c_8)) (fun c_8 => ?_)
  refine g_iload_n (p0 := 12) (i := 2) dX9_shift_11 rfl rfl rfl ?_
  first | ((with_reducible refine isN1 ?_); refine g_ifN_eq (tgt := 27) (p1 := 15) dX9_shift_12 rfl (by omega) rfl (fun c_12 => by exfalso; first | omega | contradiction | exact h0 c_12 | exact c_12 (Int32.not_lt.mp h3) | exact absurd h (Int32.not_lt.mpr c_12)) (fun c_12 => ?_)) | refine g_if_eq (tgt := 27) (p1 := 15) dX9_shift_12 rfl rfl (fun c_12 => by exfalso; first | omega | contradiction | exact h0 c_12 | exact c_12 (Int32.not_lt.mp h3) | exact absurd h (Int32.not_lt.mpr c_12)) (fun c_12 => ?_)
  refine g_iload_n (p0 := 16) (i := 2) dX9_shift_15 rfl rfl rfl ?_
  refine g_bipush (p0 := 18) (v := -99) dX9_shift_16 (by decide) rfl ?_
  first | ((with_reducible refine isN2 ?_); refine g_icmpN_lt (tgt := 27) (p1 := 21) dX9_shift_18 rfl (by omega) (by omega) rfl (fun c_18 => by exfalso; first | omega | contradiction | exact h0 c_18 | exact c_18 (Int32.not_lt.mp h3) | exact absurd h (Int32.not_lt.mpr c_18)) (fun c_18 => ?_)) | refine g_icmp_lt (tgt := 27) (p1 := 21) dX9_shift_18 rfl rfl (fun c_18 => by exfalso; first | omega | contradiction | exact h0 c_18 | exact c_18 (Int32.not_lt.mp h3) | exact absurd h (Int32.not_lt.mpr c_18)) (fun c_18 => ?_)
  refine g_iload_n (p0 := 22) (i := 2) dX9_shift_21 rfl rfl rfl ?_
  refine g_bipush (p0 := 24) (v := nI 99) dX9_shift_22 (by decide) rfl ?_
  first | ((with_reducible refine isN2 ?_); refine g_icmpN_le (tgt := 30) (p1 := 27) dX9_shift_24 rfl (by omega) (by omega) rfl (fun c_24 => ?_) (fun c_24 => by exfalso; first | omega | contradiction | exact h0 c_24 | exact c_24 (Int32.not_lt.mp h3) | exact absurd h (Int32.not_lt.mpr c_24))) | refine g_icmp_le (tgt := 30) (p1 := 27) dX9_shift_24 rfl rfl (fun c_24 => ?_) (fun c_24 => by exfalso; first | omega | contradiction | exact h0 c_24 | exact c_24 (Int32.not_lt.mp h3) | exact absurd h (Int32.not_lt.mpr c_24))
  refine g_aload_n (p0 := 31) (i := 0) dX9_shift_30 rfl rfl rfl ?_
  refine g_getR (p0 := 34) dX9_shift_31 fX9_10 (by first | rfl | assumption | exact RW.s (by assumption) | exact TW.s (by assumption)) rfl rfl ?_
  refine g_getR (p0 := 37) dX9_shift_34 fX9_110 (by first | rfl | assumption | exact RW.s (by assumption) | exact TW.s (by assumption)) rfl rfl ?_
  refine g_iload_n (p0 := 38) (i := 1) dX9_shift_37 rfl rfl rfl ?_
  refine g_cV1R (p0 := 41) (r1 := mX7_at) dX9_shift_38 lX9_114 vX7_at (by first | rfl | assumption | exact RW.s (by assumption) | exact TW.s (by assumption)) ⟨_, _, rfl⟩ (FITi rfl rfl) (Nat.le_of_ble_eq_true rfl) (at_N (by first | exact ⟨rfl, rfl, by decide⟩ | assumption) (by omega) va) rfl ?_
  refine g_iload_n (p0 := 42) (i := 2) dX9_shift_41 rfl rfl rfl ?_
  first | ((with_reducible refine isN2 ?_); refine g_iaddN (p0 := 43) dX9_shift_42 rfl ?_) | refine g_iadd (p0 := 43) dX9_shift_42 rfl ?_
  rw [ht]
  refine g_istore_n (p0 := 44) (i := 3) (ls2 := [_, _, _, _, _]) dX9_shift_43 rfl (Nat.le_of_ble_eq_true rfl) rfl rfl ?_
  refine g_iload_n (p0 := 45) (i := 3) dX9_shift_44 rfl rfl rfl ?_
  first | ((with_reducible refine isN1 ?_); refine g_ifN_lt (tgt := 66) (p1 := 48) dX9_shift_45 rfl (by omega) rfl (fun c_45 => by exfalso; first | omega | contradiction | exact h0 c_45 | exact c_45 (Int32.not_lt.mp h3) | exact absurd h (Int32.not_lt.mpr c_45)) (fun c_45 => ?_)) | refine g_if_lt (tgt := 66) (p1 := 48) dX9_shift_45 rfl rfl (fun c_45 => by exfalso; first | omega | contradiction | exact h0 c_45 | exact c_45 (Int32.not_lt.mp h3) | exact absurd h (Int32.not_lt.mpr c_45)) (fun c_45 => ?_)
  refine g_iload_n (p0 := 49) (i := 3) dX9_shift_48 rfl rfl rfl ?_
  refine g_sipush (p0 := 52) (v := nI 9999) dX9_shift_49 (by decide) rfl ?_
  first | ((with_reducible refine isN2 ?_); refine g_icmpN_gt (tgt := 66) (p1 := 55) dX9_shift_52 rfl (by omega) (by omega) rfl (fun c_52 => by exfalso; first | omega | contradiction | exact h0 c_52 | exact c_52 (Int32.not_lt.mp h3) | exact absurd h (Int32.not_lt.mpr c_52)) (fun c_52 => ?_)) | refine g_icmp_gt (tgt := 66) (p1 := 55) dX9_shift_52 rfl rfl (fun c_52 => by exfalso; first | omega | contradiction | exact h0 c_52 | exact c_52 (Int32.not_lt.mp h3) | exact absurd h (Int32.not_lt.mpr c_52)) (fun c_52 => ?_)
  refine g_aload_n (p0 := 56) (i := 0) dX9_shift_55 rfl rfl rfl ?_
  refine g_getR (p0 := 59) dX9_shift_56 fX9_10 (by first | rfl | assumption | exact RW.s (by assumption) | exact TW.s (by assumption)) rfl rfl ?_
  refine g_iload_n (p0 := 60) (i := 3) dX9_shift_59 rfl rfl rfl ?_
  refine g_cV1R (p0 := 63) (r1 := mX8_hasStrokeAt) dX9_shift_60 lX9_97 vX8_hasStrokeAt (by first | rfl | assumption | exact RW.s (by assumption) | exact TW.s (by assumption)) ⟨_, _, rfl⟩ (FITi rfl rfl) (Nat.le_of_ble_eq_true rfl) (hth) rfl ?_
  first | ((with_reducible refine isN1 ?_); refine g_ifN_eq (tgt := 69) (p1 := 66) dX9_shift_63 rfl (by omega) rfl (fun c_63 => ?_) (fun c_63 => by exfalso; first | omega | contradiction | exact h0 c_63 | exact c_63 (Int32.not_lt.mp h3) | exact absurd h (Int32.not_lt.mpr c_63))) | refine g_if_eq (tgt := 69) (p1 := 66) dX9_shift_63 rfl rfl (fun c_63 => ?_) (fun c_63 => by exfalso; first | omega | contradiction | exact h0 c_63 | exact c_63 (Int32.not_lt.mp h3) | exact absurd h (Int32.not_lt.mpr c_63))
  refine g_aload_n (p0 := 70) (i := 0) dX9_shift_69 rfl rfl rfl ?_
  refine g_getR (p0 := 73) dX9_shift_70 fX9_22 (by first | rfl | assumption | exact RW.s (by assumption) | exact TW.s (by assumption)) rfl rfl ?_
  refine g_aload_n (p0 := 74) (i := 0) dX9_shift_73 rfl rfl rfl ?_
  refine g_getR (p0 := 77) dX9_shift_74 fX9_10 (by first | rfl | assumption | exact RW.s (by assumption) | exact TW.s (by assumption)) rfl rfl ?_
  refine g_cV1P (p0 := 80) (r1 := mX2_record) dX9_shift_77 lX9_58 vX2_record (by first | rfl | assumption | exact RW.s (by assumption) | exact TW.s (by assumption)) ⟨_, _, rfl⟩ (FITi rfl rfl) (Nat.le_of_ble_eq_true rfl) (record_rel hHC hR hRep) rfl ?_
  rintro σ1 ⟨fr1, hHC1⟩
  have hRep1 : Rep σ1 1 ρ s := hRep.of_eq (fr1 _ (by decide) (by decide)) (fr1 _ (by decide) (by decide)) (fr1 _ (by decide) (by decide))
  have hrm : CM mX8_removeStroke [ar 1, ai (nI p)] σ1 (RetV (remS σ1 s p)) := removeStroke_sp TW1 hRep1.1 hs1 hp
  have hRep2 := Rep_rem hRep1 hp
  have hRow3 : RowOK (INS (REM ρ s p) (s - 1) (nI j)) (s - 1 + 1) := RowOK_ins (RowOK_rem hR) (by omega) ⟨j, hb, rfl⟩
  have hRep3 : Rep (insS (remS σ1 s p) (s - 1) (nI j)) 1 (INS (REM ρ s p) (s - 1) (nI j)) (s - 1 + 1) := Rep_ins hRep2
  have b6 : ∀ q, q < s - 1 → remS σ1 s p 3 q = tm (REM ρ s p) q := hRep2.2.2.2.2.2
  have ea : ah (remS σ1 s p 3) (s - 1) (nI j) = ah (tm (REM ρ s p)) (s - 1) (nI j) := ah_congr b6
  have had : CM mX8_addStroke [ar 1, ai (nI j)] (remS σ1 s p) (Ret (nI (ah (tm (REM ρ s p)) (s - 1) (nI j))) (insS (remS σ1 s p) (s - 1) (nI j))) := by
    rw [← ea]
    exact addStroke_sp TW1 hRep2.1 (by omega)
  have h652 : (insS (remS σ1 s p) (s - 1) (nI j)) 65 0 = nI 0 := by rw [insS_ne (by decide) (by decide), remS_ne (by decide) (by decide), fr1 _ (by decide) (by decide)]; exact h65
  refine g_aload_n (p0 := 81) (i := 0) dX9_shift_80 rfl rfl rfl ?_
  refine g_getR (p0 := 84) dX9_shift_81 fX9_10 (by first | rfl | assumption | exact RW.s (by assumption) | exact TW.s (by assumption)) rfl rfl ?_
  refine g_iload_n (p0 := 85) (i := 1) dX9_shift_84 rfl rfl rfl ?_
  refine g_cV1V (p0 := 88) (r1 := mX8_removeStroke) dX9_shift_85 lX9_119 vX8_removeStroke (by first | rfl | assumption | exact RW.s (by assumption) | exact TW.s (by assumption)) ⟨_, _, rfl⟩ (FITi rfl rfl) (Nat.le_of_ble_eq_true rfl) (hrm) rfl ?_
  refine g_aload_n (p0 := 89) (i := 0) dX9_shift_88 rfl rfl rfl ?_
  refine g_getR (p0 := 92) dX9_shift_89 fX9_10 (by first | rfl | assumption | exact RW.s (by assumption) | exact TW.s (by assumption)) rfl rfl ?_
  refine g_iload_n (p0 := 93) (i := 3) dX9_shift_92 rfl rfl rfl ?_
  refine g_cV1R (p0 := 96) (r1 := mX8_addStroke) dX9_shift_93 lX9_104 vX8_addStroke (by first | rfl | assumption | exact RW.s (by assumption) | exact TW.s (by assumption)) ⟨_, _, rfl⟩ (FITi rfl rfl) (Nat.le_of_ble_eq_true rfl) (had) rfl ?_
  refine g_istore (p0 := 98) (i := 4) (ls2 := [_, _, _, _, _]) dX9_shift_96 (Nat.le_of_ble_eq_true rfl) rfl rfl ?_
  refine g_aload_n (p0 := 99) (i := 0) dX9_shift_98 rfl rfl rfl ?_
  refine g_getR (p0 := 102) dX9_shift_99 fX9_29 (by first | rfl | assumption | exact RW.s (by assumption) | exact TW.s (by assumption)) rfl rfl ?_
  refine g_aload_n (p0 := 103) (i := 0) dX9_shift_102 rfl rfl rfl ?_
  refine g_getR (p0 := 106) dX9_shift_103 fX9_10 (by first | rfl | assumption | exact RW.s (by assumption) | exact TW.s (by assumption)) rfl rfl ?_
  refine g_cV1P (p0 := 109) (r1 := mX6_refresh) dX9_shift_106 lX9_62 vX6_refresh (by first | rfl | assumption | exact RW.s (by assumption) | exact TW.s (by assumption)) ⟨_, _, rfl⟩ (FITi rfl rfl) (Nat.le_of_ble_eq_true rfl) (refresh_sp hRep3 hRow3 h652) rfl ?_
  rintro σ2 ⟨hRD2, fr2⟩
  refine g_iload (p0 := 111) dX9_shift_109 rfl rfl ?_
  refine g_ireturn dX9_shift_111 rfl rfl (?_)
  exact cchg fr1 hHC1 (fun z hz => (insS_ne (by omega) (by omega)).trans (remS_ne (by omega) (by omega))) hRep3 hRD2 fr2
