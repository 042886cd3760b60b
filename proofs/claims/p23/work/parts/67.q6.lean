/-! THE CLASS: out of the rows of whole -/
theorem uF_zero {v : Nat → Int32} {f : Nat} : ∀ n, uF v f n = 0 → ∀ i, i < n → v (f + i) ≠ -1
  | 0, _, i, hi => absurd hi (Nat.not_lt_zero i)
  | n + 1, h, i, hi => by
    rw [uF] at h
    by_cases e : v (f + n) = -1
    · rw [if_pos e] at h
      omega
    · rw [if_neg e] at h
      by_cases hin : i = n
      · rw [hin]; exact e
      · exact uF_zero n h i (by omega)
/-- a message of n letters from f on is right -/
def RGT (v : Nat → Int32) (f n : Nat) : Prop := 2 ≤ n ∧ uF v f n = 0 ∧ sF v f n - v (f + (n - 1)) - (sF v f n - v (f + (n - 1))) / nI 25 * nI 25 = v (f + (n - 1))
set_option maxRecDepth 20000 in
set_option maxHeartbeats 2000000 in
theorem cRW_u {m f n u : Nat} {x lv sm : Int32} {σ : Sg} (hm : m < 160) (hn : 1 ≤ n) (hn1 : n ≤ 160) (hu1 : u ≤ 160) (hf : σ 49 m = nI f) (hfn : f + n ≤ 160) (hl : σ 51 m = nI n) (hu : σ 57 m = nI u) (hs : σ 59 m = sm) (hx0 : σ 42 (f + 0) = x) (hx : ¬ x = -1) (hlv : σ 42 (f + (n - 1)) = lv) (h0 : 0 < u) : CM mX6_isRightWith [ar 33, ai (nI m), ai (nI 0), ai x] σ (Ret (nI 0) σ) := by
  refine CM_in (ls := [some (ar 33), some (ai (nI m)), some (ai (nI 0)), some (ai x), none, none, none, none, none]) rfl ?_
  refine g_aload_n (p0 := 1) (i := 0) dX6_isRightWith_0 rfl rfl rfl ?_
  refine g_iload_n (p0 := 2) (i := 1) dX6_isRightWith_1 rfl rfl rfl ?_
  refine g_iload_n (p0 := 3) (i := 2) dX6_isRightWith_2 rfl rfl rfl ?_
  refine g_cV2R (p0 := 6) (r1 := mX6_letterIn) dX6_isRightWith_3 lX6_140 vX6_letterIn (by first | rfl | assumption | exact RW.s (by assumption) | exact TW.s (by assumption)) ⟨_, _, rfl⟩ (FITi rfl rfl) (Nat.le_of_ble_eq_true rfl) (letterIn_sp hm hf (by omega) hx0) rfl ?_
  refine g_istore (p0 := 8) (i := 4) (ls2 := [_, _, _, _, _, _, _, _, _]) dX6_isRightWith_6 (Nat.le_of_ble_eq_true rfl) rfl rfl ?_
  refine g_aload_n (p0 := 9) (i := 0) dX6_isRightWith_8 rfl rfl rfl ?_
  refine g_getR (p0 := 12) dX6_isRightWith_9 fX6_21 (by first | rfl | assumption | exact RW.s (by assumption) | exact TW.s (by assumption)) rfl rfl ?_
  refine g_getR (p0 := 15) dX6_isRightWith_12 fX6_143 (by first | rfl | assumption | exact RW.s (by assumption) | exact TW.s (by assumption)) rfl rfl ?_
  refine g_iload_n (p0 := 16) (i := 1) dX6_isRightWith_15 rfl rfl rfl ?_
  refine g_cV1R (p0 := 19) (r1 := mX7_at) dX6_isRightWith_16 lX6_68 vX7_at (by first | rfl | assumption | exact RW.s (by assumption) | exact TW.s (by assumption)) ⟨_, _, rfl⟩ (FITi rfl rfl) (Nat.le_of_ble_eq_true rfl) (at_N (by first | exact ⟨rfl, rfl, by decide⟩ | assumption) hm hu) rfl ?_
  refine g_iload (p0 := 21) dX6_isRightWith_19 rfl rfl ?_
  refine g_iconst (p0 := 22) (v := -1) dX6_isRightWith_21 rfl rfl ?_
  first | ((with_reducible refine isN2 ?_); refine g_icmpN_ne (tgt := 29) (p1 := 25) dX6_isRightWith_22 rfl (by omega) (by omega) rfl (fun c_22 => ?_) (fun c_22 => by exfalso; first | omega | contradiction | exact hx c_22 | exact c_22 hx | exact absurd h c_22 | exact h c_22 | exact c_22 h)) | refine g_icmp_ne (tgt := 29) (p1 := 25) dX6_isRightWith_22 rfl rfl (fun c_22 => ?_) (fun c_22 => by exfalso; first | omega | contradiction | exact hx c_22 | exact c_22 hx | exact absurd h c_22 | exact h c_22 | exact c_22 h)
  refine g_iconst (p0 := 30) (v := nI 0) dX6_isRightWith_29 rfl rfl ?_
  first | ((with_reducible refine isN2 ?_); refine g_isubN (p0 := 31) dX6_isRightWith_30 (by omega) rfl ?_) | refine g_isub (p0 := 31) dX6_isRightWith_30 rfl ?_
  refine g_istore (p0 := 33) (i := 5) (ls2 := [_, _, _, _, _, _, _, _, _]) dX6_isRightWith_31 (Nat.le_of_ble_eq_true rfl) rfl rfl ?_
  refine g_aload_n (p0 := 34) (i := 0) dX6_isRightWith_33 rfl rfl rfl ?_
  refine g_iload_n (p0 := 35) (i := 1) dX6_isRightWith_34 rfl rfl rfl ?_
  refine g_cV1R (p0 := 38) (r1 := mX6_lengthOf) dX6_isRightWith_35 lX6_131 vX6_lengthOf (by first | rfl | assumption | exact RW.s (by assumption) | exact TW.s (by assumption)) ⟨_, _, rfl⟩ (FITi rfl rfl) (Nat.le_of_ble_eq_true rfl) (lengthOf_sp hm hl) rfl ?_
  refine g_iconst (p0 := 39) (v := nI 1) dX6_isRightWith_38 rfl rfl ?_
  first | ((with_reducible refine isN2 ?_); refine g_isubN (p0 := 40) dX6_isRightWith_39 (by omega) rfl ?_) | refine g_isub (p0 := 40) dX6_isRightWith_39 rfl ?_
  refine g_istore (p0 := 42) (i := 6) (ls2 := [_, _, _, _, _, _, _, _, _]) dX6_isRightWith_40 (Nat.le_of_ble_eq_true rfl) rfl rfl ?_
  refine g_iload (p0 := 44) dX6_isRightWith_42 rfl rfl ?_
  first | ((with_reducible refine isN1 ?_); refine g_ifN_gt (tgt := 53) (p1 := 47) dX6_isRightWith_44 rfl (by omega) rfl (fun c_44 => ?_) (fun c_44 => by exfalso; first | omega | contradiction | exact hx c_44 | exact c_44 hx | exact absurd h c_44 | exact h c_44 | exact c_44 h)) | refine g_if_gt (tgt := 53) (p1 := 47) dX6_isRightWith_44 rfl rfl (fun c_44 => ?_) (fun c_44 => by exfalso; first | omega | contradiction | exact hx c_44 | exact c_44 hx | exact absurd h c_44 | exact h c_44 | exact c_44 h)
  refine g_iconst (p0 := 54) (v := nI 0) dX6_isRightWith_53 rfl rfl ?_
  refine g_ireturn dX6_isRightWith_54 rfl (by first | rfl | exact bool_narrow (by first | exact Or.inl rfl | exact Or.inr rfl | assumption | (split <;> first | exact Or.inl rfl | exact Or.inr rfl))) (?_)
  exact ⟨rfl, rfl⟩
set_option maxRecDepth 20000 in
set_option maxHeartbeats 2000000 in
theorem cRW_n {m f n u : Nat} {x lv sm : Int32} {σ : Sg} (hm : m < 160) (hn : 1 ≤ n) (hn1 : n ≤ 160) (hu1 : u ≤ 160) (hf : σ 49 m = nI f) (hfn : f + n ≤ 160) (hl : σ 51 m = nI n) (hu : σ 57 m = nI u) (hs : σ 59 m = sm) (hx0 : σ 42 (f + 0) = x) (hx : ¬ x = -1) (hlv : σ 42 (f + (n - 1)) = lv) (h0 : u = 0) (h1 : n = 1) : CM mX6_isRightWith [ar 33, ai (nI m), ai (nI 0), ai x] σ (Ret (nI 0) σ) := by
  refine CM_in (ls := [some (ar 33), some (ai (nI m)), some (ai (nI 0)), some (ai x), none, none, none, none, none]) rfl ?_
  refine g_aload_n (p0 := 1) (i := 0) dX6_isRightWith_0 rfl rfl rfl ?_
  refine g_iload_n (p0 := 2) (i := 1) dX6_isRightWith_1 rfl rfl rfl ?_
  refine g_iload_n (p0 := 3) (i := 2) dX6_isRightWith_2 rfl rfl rfl ?_
  refine g_cV2R (p0 := 6) (r1 := mX6_letterIn) dX6_isRightWith_3 lX6_140 vX6_letterIn (by first | rfl | assumption | exact RW.s (by assumption) | exact TW.s (by assumption)) ⟨_, _, rfl⟩ (FITi rfl rfl) (Nat.le_of_ble_eq_true rfl) (letterIn_sp hm hf (by omega) hx0) rfl ?_
  refine g_istore (p0 := 8) (i := 4) (ls2 := [_, _, _, _, _, _, _, _, _]) dX6_isRightWith_6 (Nat.le_of_ble_eq_true rfl) rfl rfl ?_
  refine g_aload_n (p0 := 9) (i := 0) dX6_isRightWith_8 rfl rfl rfl ?_
  refine g_getR (p0 := 12) dX6_isRightWith_9 fX6_21 (by first | rfl | assumption | exact RW.s (by assumption) | exact TW.s (by assumption)) rfl rfl ?_
  refine g_getR (p0 := 15) dX6_isRightWith_12 fX6_143 (by first | rfl | assumption | exact RW.s (by assumption) | exact TW.s (by assumption)) rfl rfl ?_
  refine g_iload_n (p0 := 16) (i := 1) dX6_isRightWith_15 rfl rfl rfl ?_
  refine g_cV1R (p0 := 19) (r1 := mX7_at) dX6_isRightWith_16 lX6_68 vX7_at (by first | rfl | assumption | exact RW.s (by assumption) | exact TW.s (by assumption)) ⟨_, _, rfl⟩ (FITi rfl rfl) (Nat.le_of_ble_eq_true rfl) (at_N (by first | exact ⟨rfl, rfl, by decide⟩ | assumption) hm hu) rfl ?_
  refine g_iload (p0 := 21) dX6_isRightWith_19 rfl rfl ?_
  refine g_iconst (p0 := 22) (v := -1) dX6_isRightWith_21 rfl rfl ?_
  first | ((with_reducible refine isN2 ?_); refine g_icmpN_ne (tgt := 29) (p1 := 25) dX6_isRightWith_22 rfl (by omega) (by omega) rfl (fun c_22 => ?_) (fun c_22 => by exfalso; first | omega | contradiction | exact hx c_22 | exact c_22 hx | exact absurd h c_22 | exact h c_22 | exact c_22 h)) | refine g_icmp_ne (tgt := 29) (p1 := 25) dX6_isRightWith_22 rfl rfl (fun c_22 => ?_) (fun c_22 => by exfalso; first | omega | contradiction | exact hx c_22 | exact c_22 hx | exact absurd h c_22 | exact h c_22 | exact c_22 h)
  refine g_iconst (p0 := 30) (v := nI 0) dX6_isRightWith_29 rfl rfl ?_
  first | ((with_reducible refine isN2 ?_); refine g_isubN (p0 := 31) dX6_isRightWith_30 (by omega) rfl ?_) | refine g_isub (p0 := 31) dX6_isRightWith_30 rfl ?_
  refine g_istore (p0 := 33) (i := 5) (ls2 := [_, _, _, _, _, _, _, _, _]) dX6_isRightWith_31 (Nat.le_of_ble_eq_true rfl) rfl rfl ?_
  refine g_aload_n (p0 := 34) (i := 0) dX6_isRightWith_33 rfl rfl rfl ?_
  refine g_iload_n (p0 := 35) (i := 1) dX6_isRightWith_34 rfl rfl rfl ?_
  refine g_cV1R (p0 := 38) (r1 := mX6_lengthOf) dX6_isRightWith_35 lX6_131 vX6_lengthOf (by first | rfl | assumption | exact RW.s (by assumption) | exact TW.s (by assumption)) ⟨_, _, rfl⟩ (FITi rfl rfl) (Nat.le_of_ble_eq_true rfl) (lengthOf_sp hm hl) rfl ?_
  refine g_iconst (p0 := 39) (v := nI 1) dX6_isRightWith_38 rfl rfl ?_
  first | ((with_reducible refine isN2 ?_); refine g_isubN (p0 := 40) dX6_isRightWith_39 (by omega) rfl ?_) | refine g_isub (p0 := 40) dX6_isRightWith_39 rfl ?_
  refine g_istore (p0 := 42) (i := 6) (ls2 := [_, _, _, _, _, _, _, _, _]) dX6_isRightWith_40 (Nat.le_of_ble_eq_true rfl) rfl rfl ?_
  refine g_iload (p0 := 44) dX6_isRightWith_42 rfl rfl ?_
  first | ((with_reducible refine isN1 ?_); refine g_ifN_gt (tgt := 53) (p1 := 47) dX6_isRightWith_44 rfl (by omega) rfl (fun c_44 => by exfalso; first | omega | contradiction | exact hx c_44 | exact c_44 hx | exact absurd h c_44 | exact h c_44 | exact c_44 h) (fun c_44 => ?_)) | refine g_if_gt (tgt := 53) (p1 := 47) dX6_isRightWith_44 rfl rfl (fun c_44 => by exfalso; first | omega | contradiction | exact hx c_44 | exact c_44 hx | exact absurd h c_44 | exact h c_44 | exact c_44 h) (fun c_44 => ?_)
  refine g_iload (p0 := 49) dX6_isRightWith_47 rfl rfl ?_
  refine g_iconst (p0 := 50) (v := nI 1) dX6_isRightWith_49 rfl rfl ?_
  first | ((with_reducible refine isN2 ?_); refine g_icmpN_ge (tgt := 55) (p1 := 53) dX6_isRightWith_50 rfl (by omega) (by omega) rfl (fun c_50 => by exfalso; first | omega | contradiction | exact hx c_50 | exact c_50 hx | exact absurd h c_50 | exact h c_50 | exact c_50 h) (fun c_50 => ?_)) | refine g_icmp_ge (tgt := 55) (p1 := 53) dX6_isRightWith_50 rfl rfl (fun c_50 => by exfalso; first | omega | contradiction | exact hx c_50 | exact c_50 hx | exact absurd h c_50 | exact h c_50 | exact c_50 h) (fun c_50 => ?_)
  refine g_iconst (p0 := 54) (v := nI 0) dX6_isRightWith_53 rfl rfl ?_
  refine g_ireturn dX6_isRightWith_54 rfl (by first | rfl | exact bool_narrow (by first | exact Or.inl rfl | exact Or.inr rfl | assumption | (split <;> first | exact Or.inl rfl | exact Or.inr rfl))) (?_)
  exact ⟨rfl, rfl⟩
set_option maxRecDepth 20000 in
set_option maxHeartbeats 2000000 in
theorem cRW_1 {m f n u : Nat} {x lv sm : Int32} {σ : Sg} (hm : m < 160) (hn : 1 ≤ n) (hn1 : n ≤ 160) (hu1 : u ≤ 160) (hf : σ 49 m = nI f) (hfn : f + n ≤ 160) (hl : σ 51 m = nI n) (hu : σ 57 m = nI u) (hs : σ 59 m = sm) (hx0 : σ 42 (f + 0) = x) (hx : ¬ x = -1) (hlv : σ 42 (f + (n - 1)) = lv) (h0 : u = 0) (h1 : 2 ≤ n) (h : sm - lv - (sm - lv) / nI 25 * nI 25 = lv) : CM mX6_isRightWith [ar 33, ai (nI m), ai (nI 0), ai x] σ (Ret (nI 1) σ) := by
  refine CM_in (ls := [some (ar 33), some (ai (nI m)), some (ai (nI 0)), some (ai x), none, none, none, none, none]) rfl ?_
  refine g_aload_n (p0 := 1) (i := 0) dX6_isRightWith_0 rfl rfl rfl ?_
  refine g_iload_n (p0 := 2) (i := 1) dX6_isRightWith_1 rfl rfl rfl ?_
  refine g_iload_n (p0 := 3) (i := 2) dX6_isRightWith_2 rfl rfl rfl ?_
  refine g_cV2R (p0 := 6) (r1 := mX6_letterIn) dX6_isRightWith_3 lX6_140 vX6_letterIn (by first | rfl | assumption | exact RW.s (by assumption) | exact TW.s (by assumption)) ⟨_, _, rfl⟩ (FITi rfl rfl) (Nat.le_of_ble_eq_true rfl) (letterIn_sp hm hf (by omega) hx0) rfl ?_
  refine g_istore (p0 := 8) (i := 4) (ls2 := [_, _, _, _, _, _, _, _, _]) dX6_isRightWith_6 (Nat.le_of_ble_eq_true rfl) rfl rfl ?_
  refine g_aload_n (p0 := 9) (i := 0) dX6_isRightWith_8 rfl rfl rfl ?_
  refine g_getR (p0 := 12) dX6_isRightWith_9 fX6_21 (by first | rfl | assumption | exact RW.s (by assumption) | exact TW.s (by assumption)) rfl rfl ?_
  refine g_getR (p0 := 15) dX6_isRightWith_12 fX6_143 (by first | rfl | assumption | exact RW.s (by assumption) | exact TW.s (by assumption)) rfl rfl ?_
  refine g_iload_n (p0 := 16) (i := 1) dX6_isRightWith_15 rfl rfl rfl ?_
  refine g_cV1R (p0 := 19) (r1 := mX7_at) dX6_isRightWith_16 lX6_68 vX7_at (by first | rfl | assumption | exact RW.s (by assumption) | exact TW.s (by assumption)) ⟨_, _, rfl⟩ (FITi rfl rfl) (Nat.le_of_ble_eq_true rfl) (at_N (by first | exact ⟨rfl, rfl, by decide⟩ | assumption) hm hu) rfl ?_
  refine g_iload (p0 := 21) dX6_isRightWith_19 rfl rfl ?_
  refine g_iconst (p0 := 22) (v := -1) dX6_isRightWith_21 rfl rfl ?_
  first | ((with_reducible refine isN2 ?_); refine g_icmpN_ne (tgt := 29) (p1 := 25) dX6_isRightWith_22 rfl (by omega) (by omega) rfl (fun c_22 => ?_) (fun c_22 => by exfalso; first | omega | contradiction | exact hx c_22 | exact c_22 hx | exact absurd h c_22 | exact h c_22 | exact c_22 h)) | refine g_icmp_ne (tgt := 29) (p1 := 25) dX6_isRightWith_22 rfl rfl (fun c_22 => ?_) (fun c_22 => by exfalso; first | omega | contradiction | exact hx c_22 | exact c_22 hx | exact absurd h c_22 | exact h c_22 | exact c_22 h)
  refine g_iconst (p0 := 30) (v := nI 0) dX6_isRightWith_29 rfl rfl ?_
  first | ((with_reducible refine isN2 ?_); refine g_isubN (p0 := 31) dX6_isRightWith_30 (by omega) rfl ?_) | refine g_isub (p0 := 31) dX6_isRightWith_30 rfl ?_
  refine g_istore (p0 := 33) (i := 5) (ls2 := [_, _, _, _, _, _, _, _, _]) dX6_isRightWith_31 (Nat.le_of_ble_eq_true rfl) rfl rfl ?_
  refine g_aload_n (p0 := 34) (i := 0) dX6_isRightWith_33 rfl rfl rfl ?_
  refine g_iload_n (p0 := 35) (i := 1) dX6_isRightWith_34 rfl rfl rfl ?_
  refine g_cV1R (p0 := 38) (r1 := mX6_lengthOf) dX6_isRightWith_35 lX6_131 vX6_lengthOf (by first | rfl | assumption | exact RW.s (by assumption) | exact TW.s (by assumption)) ⟨_, _, rfl⟩ (FITi rfl rfl) (Nat.le_of_ble_eq_true rfl) (lengthOf_sp hm hl) rfl ?_
  refine g_iconst (p0 := 39) (v := nI 1) dX6_isRightWith_38 rfl rfl ?_
  first | ((with_reducible refine isN2 ?_); refine g_isubN (p0 := 40) dX6_isRightWith_39 (by omega) rfl ?_) | refine g_isub (p0 := 40) dX6_isRightWith_39 rfl ?_
  refine g_istore (p0 := 42) (i := 6) (ls2 := [_, _, _, _, _, _, _, _, _]) dX6_isRightWith_40 (Nat.le_of_ble_eq_true rfl) rfl rfl ?_
  refine g_iload (p0 := 44) dX6_isRightWith_42 rfl rfl ?_
  first | ((with_reducible refine isN1 ?_); refine g_ifN_gt (tgt := 53) (p1 := 47) dX6_isRightWith_44 rfl (by omega) rfl (fun c_44 => by exfalso; first | omega | contradiction | exact hx c_44 | exact c_44 hx | exact absurd h c_44 | exact h c_44 | exact c_44 h) (fun c_44 => ?_)) | refine g_if_gt (tgt := 53) (p1 := 47) dX6_isRightWith_44 rfl rfl (fun c_44 => by exfalso; first | omega | contradiction | exact hx c_44 | exact c_44 hx | exact absurd h c_44 | exact h c_44 | exact c_44 h) (fun c_44 => ?_)
  refine g_iload (p0 := 49) dX6_isRightWith_47 rfl rfl ?_
  refine g_iconst (p0 := 50) (v := nI 1) dX6_isRightWith_49 rfl rfl ?_
  first | ((with_reducible refine isN2 ?_); refine g_icmpN_ge (tgt := 55) (p1 := 53) dX6_isRightWith_50 rfl (by omega) (by omega) rfl (fun c_50 => ?_) (fun c_50 => by exfalso; first | omega | contradiction | exact hx c_50 | exact c_50 hx | exact absurd h c_50 | exact h c_50 | exact c_50 h)) | refine g_icmp_ge (tgt := 55) (p1 := 53) dX6_isRightWith_50 rfl rfl (fun c_50 => ?_) (fun c_50 => by exfalso; first | omega | contradiction | exact hx c_50 | exact c_50 hx | exact absurd h c_50 | exact h c_50 | exact c_50 h)
  refine g_iload_n (p0 := 56) (i := 2) dX6_isRightWith_55 rfl rfl rfl ?_
  refine g_iload (p0 := 58) dX6_isRightWith_56 rfl rfl ?_
  first | ((with_reducible refine isN2 ?_); refine g_icmpN_ne (tgt := 65) (p1 := 61) dX6_isRightWith_58 rfl (by omega) (by omega) rfl (fun c_58 => ?_) (fun c_58 => by exfalso; first | omega | contradiction | exact hx c_58 | exact c_58 hx | exact absurd h c_58 | exact h c_58 | exact c_58 h)) | refine g_icmp_ne (tgt := 65) (p1 := 61) dX6_isRightWith_58 rfl rfl (fun c_58 => ?_) (fun c_58 => by exfalso; first | omega | contradiction | exact hx c_58 | exact c_58 hx | exact absurd h c_58 | exact h c_58 | exact c_58 h)
  refine g_aload_n (p0 := 66) (i := 0) dX6_isRightWith_65 rfl rfl rfl ?_
  refine g_iload_n (p0 := 67) (i := 1) dX6_isRightWith_66 rfl rfl rfl ?_
  refine g_iload (p0 := 69) dX6_isRightWith_67 rfl rfl ?_
  refine g_cV2R (p0 := 72) (r1 := mX6_letterIn) dX6_isRightWith_69 lX6_140 vX6_letterIn (by first | rfl | assumption | exact RW.s (by assumption) | exact TW.s (by assumption)) ⟨_, _, rfl⟩ (FITi rfl rfl) (Nat.le_of_ble_eq_true rfl) (letterIn_sp hm hf (by omega) hlv) rfl ?_
  refine g_istore (p0 := 74) (i := 7) (ls2 := [_, _, _, _, _, _, _, _, _]) dX6_isRightWith_72 (Nat.le_of_ble_eq_true rfl) rfl rfl ?_
  refine g_aload_n (p0 := 75) (i := 0) dX6_isRightWith_74 rfl rfl rfl ?_
  refine g_getR (p0 := 78) dX6_isRightWith_75 fX6_21 (by first | rfl | assumption | exact RW.s (by assumption) | exact TW.s (by assumption)) rfl rfl ?_
  refine g_getR (p0 := 81) dX6_isRightWith_78 fX6_149 (by first | rfl | assumption | exact RW.s (by assumption) | exact TW.s (by assumption)) rfl rfl ?_
  refine g_iload_n (p0 := 82) (i := 1) dX6_isRightWith_81 rfl rfl rfl ?_
  refine g_cV1R (p0 := 85) (r1 := mX7_at) dX6_isRightWith_82 lX6_68 vX7_at (by first | rfl | assumption | exact RW.s (by assumption) | exact TW.s (by assumption)) ⟨_, _, rfl⟩ (FITi rfl rfl) (Nat.le_of_ble_eq_true rfl) (at_N (by first | exact ⟨rfl, rfl, by decide⟩ | assumption) hm hs) rfl ?_
  refine g_iload (p0 := 87) dX6_isRightWith_85 rfl rfl ?_
  refine g_iconst (p0 := 88) (v := -1) dX6_isRightWith_87 rfl rfl ?_
  first | ((with_reducible refine isN2 ?_); refine g_icmpN_ne (tgt := 95) (p1 := 91) dX6_isRightWith_88 rfl (by omega) (by omega) rfl (fun c_88 => ?_) (fun c_88 => by exfalso; first | omega | contradiction | exact hx c_88 | exact c_88 hx | exact absurd h c_88 | exact h c_88 | exact c_88 h)) | refine g_icmp_ne (tgt := 95) (p1 := 91) dX6_isRightWith_88 rfl rfl (fun c_88 => ?_) (fun c_88 => by exfalso; first | omega | contradiction | exact hx c_88 | exact c_88 hx | exact absurd h c_88 | exact h c_88 | exact c_88 h)
  refine g_iload (p0 := 97) dX6_isRightWith_95 rfl rfl ?_
  first | ((with_reducible refine isN2 ?_); refine g_isubN (p0 := 98) dX6_isRightWith_97 (by omega) rfl ?_) | refine g_isub (p0 := 98) dX6_isRightWith_97 rfl ?_
  refine g_iload_n (p0 := 99) (i := 3) dX6_isRightWith_98 rfl rfl rfl ?_
  first | ((with_reducible refine isN2 ?_); refine g_iaddN (p0 := 100) dX6_isRightWith_99 rfl ?_) | refine g_iadd (p0 := 100) dX6_isRightWith_99 rfl ?_
  rw [Int32.sub_add_cancel]
  refine g_istore (p0 := 102) (i := 8) (ls2 := [_, _, _, _, _, _, _, _, _]) dX6_isRightWith_100 (Nat.le_of_ble_eq_true rfl) rfl rfl ?_
  refine g_iload (p0 := 104) dX6_isRightWith_102 rfl rfl ?_
  refine g_iload (p0 := 106) dX6_isRightWith_104 rfl rfl ?_
  first | ((with_reducible refine isN2 ?_); refine g_isubN (p0 := 107) dX6_isRightWith_106 (by omega) rfl ?_) | refine g_isub (p0 := 107) dX6_isRightWith_106 rfl ?_
  refine g_bipush (p0 := 109) (v := nI 25) dX6_isRightWith_107 (by decide) rfl ?_
  first | ((with_reducible refine isN2 ?_); refine g_iremN (p0 := 110) dX6_isRightWith_109 (by omega) (by omega) (by omega) rfl ?_) | refine g_irem (p0 := 110) dX6_isRightWith_109 (by decide) rfl ?_
  refine g_iload (p0 := 112) dX6_isRightWith_110 rfl rfl ?_
  first | ((with_reducible refine isN2 ?_); refine g_icmpN_ne (tgt := 119) (p1 := 115) dX6_isRightWith_112 rfl (by omega) (by omega) rfl (fun c_112 => by exfalso; first | omega | contradiction | exact hx c_112 | exact c_112 hx | exact absurd h c_112 | exact h c_112 | exact c_112 h) (fun c_112 => ?_)) | refine g_icmp_ne (tgt := 119) (p1 := 115) dX6_isRightWith_112 rfl rfl (fun c_112 => by exfalso; first | omega | contradiction | exact hx c_112 | exact c_112 hx | exact absurd h c_112 | exact h c_112 | exact c_112 h) (fun c_112 => ?_)
  refine g_iconst (p0 := 116) (v := nI 1) dX6_isRightWith_115 rfl rfl ?_
  refine g_goto (tgt := 120) dX6_isRightWith_116 rfl ?_
  refine g_ireturn dX6_isRightWith_120 rfl (by first | rfl | exact bool_narrow (by first | exact Or.inl rfl | exact Or.inr rfl | assumption | (split <;> first | exact Or.inl rfl | exact Or.inr rfl))) (?_)
  exact ⟨rfl, rfl⟩
set_option maxRecDepth 20000 in
set_option maxHeartbeats 2000000 in
theorem cRW_0 {m f n u : Nat} {x lv sm : Int32} {σ : Sg} (hm : m < 160) (hn : 1 ≤ n) (hn1 : n ≤ 160) (hu1 : u ≤ 160) (hf : σ 49 m = nI f) (hfn : f + n ≤ 160) (hl : σ 51 m = nI n) (hu : σ 57 m = nI u) (hs : σ 59 m = sm) (hx0 : σ 42 (f + 0) = x) (hx : ¬ x = -1) (hlv : σ 42 (f + (n - 1)) = lv) (h0 : u = 0) (h1 : 2 ≤ n) (h : ¬ sm - lv - (sm - lv) / nI 25 * nI 25 = lv) : CM mX6_isRightWith [ar 33, ai (nI m), ai (nI 0), ai x] σ (Ret (nI 0) σ) := by
  refine CM_in (ls := [some (ar 33), some (ai (nI m)), some (ai (nI 0)), some (ai x), none, none, none, none, none]) rfl ?_
  refine g_aload_n (p0 := 1) (i := 0) dX6_isRightWith_0 rfl rfl rfl ?_
  refine g_iload_n (p0 := 2) (i := 1) dX6_isRightWith_1 rfl rfl rfl ?_
  refine g_iload_n (p0 := 3) (i := 2) dX6_isRightWith_2 rfl rfl rfl ?_
  refine g_cV2R (p0 := 6) (r1 := mX6_letterIn) dX6_isRightWith_3 lX6_140 vX6_letterIn (by first | rfl | assumption | exact RW.s (by assumption) | exact TW.s (by assumption)) ⟨_, _, rfl⟩ (FITi rfl rfl) (Nat.le_of_ble_eq_true rfl) (letterIn_sp hm hf (by omega) hx0) rfl ?_
  refine g_istore (p0 := 8) (i := 4) (ls2 := [_, _, _, _, _, _, _, _, _]) dX6_isRightWith_6 (Nat.le_of_ble_eq_true rfl) rfl rfl ?_
  refine g_aload_n (p0 := 9) (i := 0) dX6_isRightWith_8 rfl rfl rfl ?_
  refine g_getR (p0 := 12) dX6_isRightWith_9 fX6_21 (by first | rfl | assumption | exact RW.s (by assumption) | exact TW.s (by assumption)) rfl rfl ?_
  refine g_getR (p0 := 15) dX6_isRightWith_12 fX6_143 (by first | rfl | assumption | exact RW.s (by assumption) | exact TW.s (by assumption)) rfl rfl ?_
  refine g_iload_n (p0 := 16) (i := 1) dX6_isRightWith_15 rfl rfl rfl ?_
  refine g_cV1R (p0 := 19) (r1 := mX7_at) dX6_isRightWith_16 lX6_68 vX7_at (by first | rfl | assumption | exact RW.s (by assumption) | exact TW.s (by assumption)) ⟨_, _, rfl⟩ (FITi rfl rfl) (Nat.le_of_ble_eq_true rfl) (at_N (by first | exact ⟨rfl, rfl, by decide⟩ | assumption) hm hu) rfl ?_
  refine g_iload (p0 := 21) dX6_isRightWith_19 rfl rfl ?_
  refine g_iconst (p0 := 22) (v := -1) dX6_isRightWith_21 rfl rfl ?_
  first | ((with_reducible refine isN2 ?_); refine g_icmpN_ne (tgt := 29) (p1 := 25) dX6_isRightWith_22 rfl (by omega) (by omega) rfl (fun c_22 => ?_) (fun c_22 => by exfalso; first | omega | contradiction | exact hx c_22 | exact c_22 hx | exact absurd h c_22 | exact h c_22 | exact c_22 h)) | refine g_icmp_ne (tgt := 29) (p1 := 25) dX6_isRightWith_22 rfl rfl (fun c_22 => ?_) (fun c_22 => by exfalso; first | omega | contradiction | exact hx c_22 | exact c_22 hx | exact absurd h c_22 | exact h c_22 | exact c_22 h)
  refine g_iconst (p0 := 30) (v := nI 0) dX6_isRightWith_29 rfl rfl ?_
  first | ((with_reducible refine isN2 ?_); refine g_isubN (p0 := 31) dX6_isRightWith_30 (by omega) rfl ?_) | refine g_isub (p0 := 31) dX6_isRightWith_30 rfl ?_
  refine g_istore (p0 := 33) (i := 5) (ls2 := [_, _, _, _, _, _, _, _, _]) dX6_isRightWith_31 (Nat.le_of_ble_eq_true rfl) rfl rfl ?_
  refine g_aload_n (p0 := 34) (i := 0) dX6_isRightWith_33 rfl rfl rfl ?_
  refine g_iload_n (p0 := 35) (i := 1) dX6_isRightWith_34 rfl rfl rfl ?_
  refine g_cV1R (p0 := 38) (r1 := mX6_lengthOf) dX6_isRightWith_35 lX6_131 vX6_lengthOf (by first | rfl | assumption | exact RW.s (by assumption) | exact TW.s (by assumption)) ⟨_, _, rfl⟩ (FITi rfl rfl) (Nat.le_of_ble_eq_true rfl) (lengthOf_sp hm hl) rfl ?_
  refine g_iconst (p0 := 39) (v := nI 1) dX6_isRightWith_38 rfl rfl ?_
  first | ((with_reducible refine isN2 ?_); refine g_isubN (p0 := 40) dX6_isRightWith_39 (by omega) rfl ?_) | refine g_isub (p0 := 40) dX6_isRightWith_39 rfl ?_
  refine g_istore (p0 := 42) (i := 6) (ls2 := [_, _, _, _, _, _, _, _, _]) dX6_isRightWith_40 (Nat.le_of_ble_eq_true rfl) rfl rfl ?_
  refine g_iload (p0 := 44) dX6_isRightWith_42 rfl rfl ?_
  first | ((with_reducible refine isN1 ?_); refine g_ifN_gt (tgt := 53) (p1 := 47) dX6_isRightWith_44 rfl (by omega) rfl (fun c_44 => by exfalso; first | omega | contradiction | exact hx c_44 | exact c_44 hx | exact absurd h c_44 | exact h c_44 | exact c_44 h) (fun c_44 => ?_)) | refine g_if_gt (tgt := 53) (p1 := 47) dX6_isRightWith_44 rfl rfl (fun c_44 => by exfalso; first | omega | contradiction | exact hx c_44 | exact c_44 hx | exact absurd h c_44 | exact h c_44 | exact c_44 h) (fun c_44 => ?_)
  refine g_iload (p0 := 49) dX6_isRightWith_47 rfl rfl ?_
  refine g_iconst (p0 := 50) (v := nI 1) dX6_isRightWith_49 rfl rfl ?_
  first | ((with_reducible refine isN2 ?_); refine g_icmpN_ge (tgt := 55) (p1 := 53) dX6_isRightWith_50 rfl (by omega) (by omega) rfl (fun c_50 => ?_) (fun c_50 => by exfalso; first | omega | contradiction | exact hx c_50 | exact c_50 hx | exact absurd h c_50 | exact h c_50 | exact c_50 h)) | refine g_icmp_ge (tgt := 55) (p1 := 53) dX6_isRightWith_50 rfl rfl (fun c_50 => ?_) (fun c_50 => by exfalso; first | omega | contradiction | exact hx c_50 | exact c_50 hx | exact absurd h c_50 | exact h c_50 | exact c_50 h)
  refine g_iload_n (p0 := 56) (i := 2) dX6_isRightWith_55 rfl rfl rfl ?_
  refine g_iload (p0 := 58) dX6_isRightWith_56 rfl rfl ?_
  first | ((with_reducible refine isN2 ?_); refine g_icmpN_ne (tgt := 65) (p1 := 61) dX6_isRightWith_58 rfl (by omega) (by omega) rfl (fun c_58 => ?_) (fun c_58 => by exfalso; first | omega | contradiction | exact hx c_58 | exact c_58 hx | exact absurd h c_58 | exact h c_58 | exact c_58 h)) | refine g_icmp_ne (tgt := 65) (p1 := 61) dX6_isRightWith_58 rfl rfl (fun c_58 => ?_) (fun c_58 => by exfalso; first | omega | contradiction | exact hx c_58 | exact c_58 hx | exact absurd h c_58 | exact h c_58 | exact c_58 h)
  refine g_aload_n (p0 := 66) (i := 0) dX6_isRightWith_65 rfl rfl rfl ?_
  refine g_iload_n (p0 := 67) (i := 1) dX6_isRightWith_66 rfl rfl rfl ?_
  refine g_iload (p0 := 69) dX6_isRightWith_67 rfl rfl ?_
  refine g_cV2R (p0 := 72) (r1 := mX6_letterIn) dX6_isRightWith_69 lX6_140 vX6_letterIn (by first | rfl | assumption | exact RW.s (by assumption) | exact TW.s (by assumption)) ⟨_, _, rfl⟩ (FITi rfl rfl) (Nat.le_of_ble_eq_true rfl) (letterIn_sp hm hf (by omega) hlv) rfl ?_
  refine g_istore (p0 := 74) (i := 7) (ls2 := [_, _, _, _, _, _, _, _, _]) dX6_isRightWith_72 (Nat.le_of_ble_eq_true rfl) rfl rfl ?_
  refine g_aload_n (p0 := 75) (i := 0) dX6_isRightWith_74 rfl rfl rfl ?_
  refine g_getR (p0 := 78) dX6_isRightWith_75 fX6_21 (by first | rfl | assumption | exact RW.s (by assumption) | exact TW.s (by assumption)) rfl rfl ?_
  refine g_getR (p0 := 81) dX6_isRightWith_78 fX6_149 (by first | rfl | assumption | exact RW.s (by assumption) | exact TW.s (by assumption)) rfl rfl ?_
  refine g_iload_n (p0 := 82) (i := 1) dX6_isRightWith_81 rfl rfl rfl ?_
  refine g_cV1R (p0 := 85) (r1 := mX7_at) dX6_isRightWith_82 lX6_68 vX7_at (by first | rfl | assumption | exact RW.s (by assumption) | exact TW.s (by assumption)) ⟨_, _, rfl⟩ (FITi rfl rfl) (Nat.le_of_ble_eq_true rfl) (at_N (by first | exact ⟨rfl, rfl, by decide⟩ | assumption) hm hs) rfl ?_
  refine g_iload (p0 := 87) dX6_isRightWith_85 rfl rfl ?_
  refine g_iconst (p0 := 88) (v := -1) dX6_isRightWith_87 rfl rfl ?_
  first | ((with_reducible refine isN2 ?_); refine g_icmpN_ne (tgt := 95) (p1 := 91) dX6_isRightWith_88 rfl (by omega) (by omega) rfl (fun c_88 => ?_) (fun c_88 => by exfalso; first | omega | contradiction | exact hx c_88 | exact c_88 hx | exact absurd h c_88 | exact h c_88 | exact c_88 h)) | refine g_icmp_ne (tgt := 95) (p1 := 91) dX6_isRightWith_88 rfl rfl (fun c_88 => ?_) (fun c_88 => by exfalso; first | omega | contradiction | exact hx c_88 | exact c_88 hx | exact absurd h c_88 | exact h c_88 | exact c_88 h)
  refine g_iload (p0 := 97) dX6_isRightWith_95 rfl rfl ?_
  first | ((with_reducible refine isN2 ?_); refine g_isubN (p0 := 98) dX6_isRightWith_97 (by omega) rfl ?_) | refine g_isub (p0 := 98) dX6_isRightWith_97 rfl ?_
  refine g_iload_n (p0 := 99) (i := 3) dX6_isRightWith_98 rfl rfl rfl ?_
  first | ((with_reducible refine isN2 ?_); refine g_iaddN (p0 := 100) dX6_isRightWith_99 rfl ?_) | refine g_iadd (p0 := 100) dX6_isRightWith_99 rfl ?_
  rw [Int32.sub_add_cancel]
  refine g_istore (p0 := 102) (i := 8) (ls2 := [_, _, _, _, _, _, _, _, _]) dX6_isRightWith_100 (Nat.le_of_ble_eq_true rfl) rfl rfl ?_
  refine g_iload (p0 := 104) dX6_isRightWith_102 rfl rfl ?_
  refine g_iload (p0 := 106) dX6_isRightWith_104 rfl rfl ?_
  first | ((with_reducible refine isN2 ?_); refine g_isubN (p0 := 107) dX6_isRightWith_106 (by omega) rfl ?_) | refine g_isub (p0 := 107) dX6_isRightWith_106 rfl ?_
  refine g_bipush (p0 := 109) (v := nI 25) dX6_isRightWith_107 (by decide) rfl ?_
  first | ((with_reducible refine isN2 ?_); refine g_iremN (p0 := 110) dX6_isRightWith_109 (by omega) (by omega) (by omega) rfl ?_) | refine g_irem (p0 := 110) dX6_isRightWith_109 (by decide) rfl ?_
  refine g_iload (p0 := 112) dX6_isRightWith_110 rfl rfl ?_
  first | ((with_reducible refine isN2 ?_); refine g_icmpN_ne (tgt := 119) (p1 := 115) dX6_isRightWith_112 rfl (by omega) (by omega) rfl (fun c_112 => ?_) (fun c_112 => by exfalso; first | omega | contradiction | exact hx c_112 | exact c_112 hx | exact absurd h c_112 | exact h c_112 | exact c_112 h)) | refine g_icmp_ne (tgt := 119) (p1 := 115) dX6_isRightWith_112 rfl rfl (fun c_112 => ?_) (fun c_112 => by exfalso; first | omega | contradiction | exact hx c_112 | exact c_112 hx | exact absurd h c_112 | exact h c_112 | exact c_112 h)
  refine g_iconst (p0 := 120) (v := nI 0) dX6_isRightWith_119 rfl rfl ?_
  refine g_ireturn dX6_isRightWith_120 rfl (by first | rfl | exact bool_narrow (by first | exact Or.inl rfl | exact Or.inr rfl | assumption | (split <;> first | exact Or.inl rfl | exact Or.inr rfl))) (?_)
  exact ⟨rfl, rfl⟩
set_option maxRecDepth 20000 in
set_option maxHeartbeats 2000000 in
theorem cR_m {m f : Nat} {x : Int32} {σ : Sg} (hm : m < 160) (hf : σ 49 m = nI f) (hf1 : f < 160) (hx0 : σ 42 (f + 0) = x) (hx : x = -1) : CM mX6_isRight [ar 33, ai (nI m)] σ (Ret (nI 0) σ) := by
  refine CM_in (ls := [some (ar 33), some (ai (nI m)), none]) rfl ?_
  refine g_aload_n (p0 := 1) (i := 0) dX6_isRight_0 rfl rfl rfl ?_
  refine g_iload_n (p0 := 2) (i := 1) dX6_isRight_1 rfl rfl rfl ?_
  refine g_iconst (p0 := 3) (v := nI 0) dX6_isRight_2 rfl rfl ?_
  refine g_cV2R (p0 := 6) (r1 := mX6_letterIn) dX6_isRight_3 lX6_140 vX6_letterIn (by first | rfl | assumption | exact RW.s (by assumption) | exact TW.s (by assumption)) ⟨_, _, rfl⟩ (FITi rfl rfl) (Nat.le_of_ble_eq_true rfl) (letterIn_sp hm hf (by omega) hx0) rfl ?_
  refine g_istore_n (p0 := 7) (i := 2) (ls2 := [_, _, _]) dX6_isRight_6 rfl (Nat.le_of_ble_eq_true rfl) rfl rfl ?_
  refine g_iload_n (p0 := 8) (i := 2) dX6_isRight_7 rfl rfl rfl ?_
  refine g_iconst (p0 := 9) (v := -1) dX6_isRight_8 rfl rfl ?_
  first | ((with_reducible refine isN2 ?_); refine g_icmpN_eq (tgt := 26) (p1 := 12) dX6_isRight_9 rfl (by omega) (by omega) rfl (fun c_9 => ?_) (fun c_9 => by exfalso; first | omega | contradiction | exact hx c_9 | exact c_9 hx | exact absurd h c_9 | exact h c_9 | exact c_9 h)) | refine g_icmp_eq (tgt := 26) (p1 := 12) dX6_isRight_9 rfl rfl (fun c_9 => ?_) (fun c_9 => by exfalso; first | omega | contradiction | exact hx c_9 | exact c_9 hx | exact absurd h c_9 | exact h c_9 | exact c_9 h)
  refine g_iconst (p0 := 27) (v := nI 0) dX6_isRight_26 rfl rfl ?_
  refine g_ireturn dX6_isRight_27 rfl (by first | rfl | exact bool_narrow (by first | exact Or.inl rfl | exact Or.inr rfl | assumption | (split <;> first | exact Or.inl rfl | exact Or.inr rfl))) (?_)
  exact ⟨rfl, rfl⟩
set_option maxRecDepth 20000 in
set_option maxHeartbeats 2000000 in
theorem cR_0 {m f : Nat} {x : Int32} {σ : Sg} (hm : m < 160) (hf : σ 49 m = nI f) (hf1 : f < 160) (hx0 : σ 42 (f + 0) = x) (hx : ¬ x = -1) (hw : CM mX6_isRightWith [ar 33, ai (nI m), ai (nI 0), ai x] σ (Ret (nI 0) σ)) : CM mX6_isRight [ar 33, ai (nI m)] σ (Ret (nI 0) σ) := by
  refine CM_in (ls := [some (ar 33), some (ai (nI m)), none]) rfl ?_
  refine g_aload_n (p0 := 1) (i := 0) dX6_isRight_0 rfl rfl rfl ?_
  refine g_iload_n (p0 := 2) (i := 1) dX6_isRight_1 rfl rfl rfl ?_
  refine g_iconst (p0 := 3) (v := nI 0) dX6_isRight_2 rfl rfl ?_
  refine g_cV2R (p0 := 6) (r1 := mX6_letterIn) dX6_isRight_3 lX6_140 vX6_letterIn (by first | rfl | assumption | exact RW.s (by assumption) | exact TW.s (by assumption)) ⟨_, _, rfl⟩ (FITi rfl rfl) (Nat.le_of_ble_eq_true rfl) (letterIn_sp hm hf (by omega) hx0) rfl ?_
  refine g_istore_n (p0 := 7) (i := 2) (ls2 := [_, _, _]) dX6_isRight_6 rfl (Nat.le_of_ble_eq_true rfl) rfl rfl ?_
  refine g_iload_n (p0 := 8) (i := 2) dX6_isRight_7 rfl rfl rfl ?_
  refine g_iconst (p0 := 9) (v := -1) dX6_isRight_8 rfl rfl ?_
  first | ((with_reducible refine isN2 ?_); refine g_icmpN_eq (tgt := 26) (p1 := 12) dX6_isRight_9 rfl (by omega) (by omega) rfl (fun c_9 => by exfalso; first | omega | contradiction | exact hx c_9 | exact c_9 hx | exact absurd h c_9 | exact h c_9 | exact c_9 h) (fun c_9 => ?_)) | refine g_icmp_eq (tgt := 26) (p1 := 12) dX6_isRight_9 rfl rfl (fun c_9 => by exfalso; first | omega | contradiction | exact hx c_9 | exact c_9 hx | exact absurd h c_9 | exact h c_9 | exact c_9 h) (fun c_9 => ?_)
  refine g_aload_n (p0 := 13) (i := 0) dX6_isRight_12 rfl rfl rfl ?_
  refine g_iload_n (p0 := 14) (i := 1) dX6_isRight_13 rfl rfl rfl ?_
  refine g_iconst (p0 := 15) (v := nI 0) dX6_isRight_14 rfl rfl ?_
  refine g_iload_n (p0 := 16) (i := 2) dX6_isRight_15 rfl rfl rfl ?_
  refine g_cV3R (p0 := 19) (r1 := mX6_isRightWith) dX6_isRight_16 lX6_161 vX6_isRightWith (by first | rfl | assumption | exact RW.s (by assumption) | exact TW.s (by assumption)) ⟨_, _, rfl⟩ (FITi rfl rfl) (Nat.le_of_ble_eq_true rfl) (hw) rfl ?_
  first | ((with_reducible refine isN1 ?_); refine g_ifN_eq (tgt := 26) (p1 := 22) dX6_isRight_19 rfl (by omega) rfl (fun c_19 => ?_) (fun c_19 => by exfalso; first | omega | contradiction | exact hx c_19 | exact c_19 hx | exact absurd h c_19 | exact h c_19 | exact c_19 h)) | refine g_if_eq (tgt := 26) (p1 := 22) dX6_isRight_19 rfl rfl (fun c_19 => ?_) (fun c_19 => by exfalso; first | omega | contradiction | exact hx c_19 | exact c_19 hx | exact absurd h c_19 | exact h c_19 | exact c_19 h)
  refine g_iconst (p0 := 27) (v := nI 0) dX6_isRight_26 rfl rfl ?_
  refine g_ireturn dX6_isRight_27 rfl (by first | rfl | exact bool_narrow (by first | exact Or.inl rfl | exact Or.inr rfl | assumption | (split <;> first | exact Or.inl rfl | exact Or.inr rfl))) (?_)
  exact ⟨rfl, rfl⟩
set_option maxRecDepth 20000 in
set_option maxHeartbeats 2000000 in
theorem cR_1 {m f : Nat} {x : Int32} {σ : Sg} (hm : m < 160) (hf : σ 49 m = nI f) (hf1 : f < 160) (hx0 : σ 42 (f + 0) = x) (hx : ¬ x = -1) (hw : CM mX6_isRightWith [ar 33, ai (nI m), ai (nI 0), ai x] σ (Ret (nI 1) σ)) : CM mX6_isRight [ar 33, ai (nI m)] σ (Ret (nI 1) σ) := by
  refine CM_in (ls := [some (ar 33), some (ai (nI m)), none]) rfl ?_
  refine g_aload_n (p0 := 1) (i := 0) dX6_isRight_0 rfl rfl rfl ?_
  refine g_iload_n (p0 := 2) (i := 1) dX6_isRight_1 rfl rfl rfl ?_
  refine g_iconst (p0 := 3) (v := nI 0) dX6_isRight_2 rfl rfl ?_
  refine g_cV2R (p0 := 6) (r1 := mX6_letterIn) dX6_isRight_3 lX6_140 vX6_letterIn (by first | rfl | assumption | exact RW.s (by assumption) | exact TW.s (by assumption)) ⟨_, _, rfl⟩ (FITi rfl rfl) (Nat.le_of_ble_eq_true rfl) (letterIn_sp hm hf (by omega) hx0) rfl ?_
  refine g_istore_n (p0 := 7) (i := 2) (ls2 := [_, _, _]) dX6_isRight_6 rfl (Nat.le_of_ble_eq_true rfl) rfl rfl ?_
  refine g_iload_n (p0 := 8) (i := 2) dX6_isRight_7 rfl rfl rfl ?_
  refine g_iconst (p0 := 9) (v := -1) dX6_isRight_8 rfl rfl ?_
  first | ((with_reducible refine isN2 ?_); refine g_icmpN_eq (tgt := 26) (p1 := 12) dX6_isRight_9 rfl (by omega) (by omega) rfl (fun c_9 => by exfalso; first | omega | contradiction | exact hx c_9 | exact c_9 hx | exact absurd h c_9 | exact h c_9 | exact c_9 h) (fun c_9 => ?_)) | refine g_icmp_eq (tgt := 26) (p1 := 12) dX6_isRight_9 rfl rfl (fun c_9 => by exfalso; first | omega | contradiction | exact hx c_9 | exact c_9 hx | exact absurd h c_9 | exact h c_9 | exact c_9 h) (fun c_9 => ?_)
  refine g_aload_n (p0 := 13) (i := 0) dX6_isRight_12 rfl rfl rfl ?_
  refine g_iload_n (p0 := 14) (i := 1) dX6_isRight_13 rfl rfl rfl ?_
  refine g_iconst (p0 := 15) (v := nI 0) dX6_isRight_14 rfl rfl ?_
  refine g_iload_n (p0 := 16) (i := 2) dX6_isRight_15 rfl rfl rfl ?_
  refine g_cV3R (p0 := 19) (r1 := mX6_isRightWith) dX6_isRight_16 lX6_161 vX6_isRightWith (by first | rfl | assumption | exact RW.s (by assumption) | exact TW.s (by assumption)) ⟨_, _, rfl⟩ (FITi rfl rfl) (Nat.le_of_ble_eq_true rfl) (hw) rfl ?_
  first | ((with_reducible refine isN1 ?_); refine g_ifN_eq (tgt := 26) (p1 := 22) dX6_isRight_19 rfl (by omega) rfl (fun c_19 => by exfalso; first | omega | contradiction | exact hx c_19 | exact c_19 hx | exact absurd h c_19 | exact h c_19 | exact c_19 h) (fun c_19 => ?_)) | refine g_if_eq (tgt := 26) (p1 := 22) dX6_isRight_19 rfl rfl (fun c_19 => by exfalso; first | omega | contradiction | exact hx c_19 | exact c_19 hx | exact absurd h c_19 | exact h c_19 | exact c_19 h) (fun c_19 => ?_)
  refine g_iconst (p0 := 23) (v := nI 1) dX6_isRight_22 rfl rfl ?_
  refine g_goto (tgt := 27) dX6_isRight_23 rfl ?_
  refine g_ireturn dX6_isRight_27 rfl (by first | rfl | exact bool_narrow (by first | exact Or.inl rfl | exact Or.inr rfl | assumption | (split <;> first | exact Or.inl rfl | exact Or.inr rfl))) (?_)
  exact ⟨rfl, rfl⟩

theorem cRight_sp {m f n : Nat} {σ : Sg} (hm : m < 160) (hn : 1 ≤ n) (hf : σ 49 m = nI f) (hfn : f + n ≤ 160) (hl : σ 51 m = nI n) (hu : σ 57 m = nI (uF (σ 42) f n)) (hs : σ 59 m = sF (σ 42) f n) : (RGT (σ 42) f n ∧ CM mX6_isRight [ar 33, ai (nI m)] σ (Ret (nI 1) σ)) ∨ (¬ RGT (σ 42) f n ∧ CM mX6_isRight [ar 33, ai (nI m)] σ (Ret (nI 0) σ)) := by
  have hul := uF_le (σ 42) f n
  by_cases hx : σ 42 (f + 0) = -1
  · refine Or.inr ⟨fun q => uF_zero n q.2.1 0 (by omega) hx, cR_m hm hf (by omega) rfl hx⟩
  · by_cases h0 : uF (σ 42) f n = 0
    · by_cases h1 : n = 1
      · refine Or.inr ⟨fun q => by have := q.1; omega, cR_0 hm hf (by omega) rfl hx (cRW_n hm hn (by omega) (by omega) hf hfn hl hu hs rfl hx rfl h0 h1)⟩
      · by_cases h : sF (σ 42) f n - σ 42 (f + (n - 1)) - (sF (σ 42) f n - σ 42 (f + (n - 1))) / nI 25 * nI 25 = σ 42 (f + (n - 1))
        · exact Or.inl ⟨⟨by omega, h0, h⟩, cR_1 hm hf (by omega) rfl hx (cRW_1 hm hn (by omega) (by omega) hf hfn hl hu hs rfl hx rfl h0 (by omega) h)⟩
        · exact Or.inr ⟨fun q => h q.2.2, cR_0 hm hf (by omega) rfl hx (cRW_0 hm hn (by omega) (by omega) hf hfn hl hu hs rfl hx rfl h0 (by omega) h)⟩
    · refine Or.inr ⟨fun q => h0 q.2.1, cR_0 hm hf (by omega) rfl hx (cRW_u hm hn (by omega) (by omega) hf hfn hl hu hs rfl hx rfl (by omega))⟩

