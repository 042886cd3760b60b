/-! CORRECTIONS, the class -/
theorem uF_congr {v v' : Nat → Int32} {f : Nat} : ∀ n, (∀ i, i < n → v (f + i) = v' (f + i)) → uF v f n = uF v' f n
  | 0, _ => rfl
  | n + 1, h => by rw [uF, uF, uF_congr n (fun i hi => h i (by omega)), h n (by omega)]
theorem sF_congr {v v' : Nat → Int32} {f : Nat} : ∀ n, (∀ i, i < n → v (f + i) = v' (f + i)) → sF v f n = sF v' f n
  | 0, _ => rfl
  | n + 1, h => by rw [sF, sF, sF_congr n (fun i hi => h i (by omega)), h n (by omega)]
theorem uF_upd {v : Nat → Int32} {f : Nat} {x : Int32} (hx : ¬ x = -1) : ∀ n p, p < n → uF v f n = uF (upd v (f + p) x) f n + (if v (f + p) = -1 then 1 else 0)
  | 0, p, h => absurd h (Nat.not_lt_zero p)
  | n + 1, p, h => by
    rw [uF, uF]
    by_cases e : p = n
    · subst e
      have e1 : uF v f p = uF (upd v (f + p) x) f p := uF_congr p (fun i hi => (upd_ne (by omega)).symm)
      rw [upd_hit, if_neg hx, ← e1]
      split <;> rfl
    · rw [upd_ne (by omega), uF_upd hx n p (by omega)]
      split <;> split <;> omega
theorem sF_upd {v : Nat → Int32} {f : Nat} {x : Int32} (hx : ¬ x = -1) : ∀ n p, p < n → sF (upd v (f + p) x) f n = sF v f n - (if v (f + p) = -1 then nI 0 else v (f + p)) + x
  | 0, p, h => absurd h (Nat.not_lt_zero p)
  | n + 1, p, h => by
    rw [sF, sF]
    by_cases e : p = n
    · subst e
      have e1 : sF (upd v (f + p) x) f p = sF v f p := sF_congr p (fun i hi => upd_ne (by omega))
      rw [upd_hit, if_neg hx, e1]
      by_cases h1 : v (f + p) = -1
      · rw [if_pos h1, if_pos h1, nI_0, Int32.sub_zero]
      · rw [if_neg h1, if_neg h1, Int32.add_sub_cancel]
    · rw [upd_ne (by omega), sF_upd hx n p (by omega)]
      by_cases h2 : v (f + n) = -1
      · rw [if_pos h2, if_pos h2]
      · rw [if_neg h2, if_neg h2]
        generalize (if v (f + p) = -1 then nI 0 else v (f + p)) = w
        simp only [Int32.sub_eq_add_neg, Int32.add_assoc]
        congr 1
        rw [Int32.add_comm x, ← Int32.add_assoc, ← Int32.add_assoc, Int32.add_comm (-w)]
set_option maxRecDepth 20000 in
set_option maxHeartbeats 2000000 in
theorem cW0_u {m f n u q p : Nat} {x w0 lv sm : Int32} {σ : Sg} (hm : m < 160) (hn1 : n ≤ 160) (hp : p < n) (hu1 : u ≤ 160) (hf : σ 49 m = nI f) (hfn : f + n ≤ 160) (hl : σ 51 m = nI n) (hu : σ 57 m = nI u) (hs : σ 59 m = sm) (hw : σ 42 (f + p) = w0) (hlv : σ 42 (f + (n - 1)) = lv) (hz : w0 = -1) (hq : u = q + 1) (h0 : 0 < q) : CM mX6_isRightWith [ar 33, ai (nI m), ai (nI p), ai x] σ (Ret (nI 0) σ) := by
  refine CM_in (ls := [some (ar 33), some (ai (nI m)), some (ai (nI p)), some (ai x), none, none, none, none, none]) rfl ?_
  refine g_aload_n (p0 := 1) (i := 0) dX6_isRightWith_0 rfl rfl rfl ?_
  refine g_iload_n (p0 := 2) (i := 1) dX6_isRightWith_1 rfl rfl rfl ?_
  refine g_iload_n (p0 := 3) (i := 2) dX6_isRightWith_2 rfl rfl rfl ?_
  refine g_cV2R (p0 := 6) (r1 := mX6_letterIn) dX6_isRightWith_3 lX6_140 vX6_letterIn (by first | rfl | assumption | exact RW.s (by assumption) | exact TW.s (by assumption)) ⟨_, _, rfl⟩ (FITi rfl rfl) (Nat.le_of_ble_eq_true rfl) (letterIn_sp hm hf (by omega) hw) rfl ?_
  refine g_istore (p0 := 8) (i := 4) (ls2 := [_, _, _, _, _, _, _, _, _]) dX6_isRightWith_6 (Nat.le_of_ble_eq_true rfl) rfl rfl ?_
  refine g_aload_n (p0 := 9) (i := 0) dX6_isRightWith_8 rfl rfl rfl ?_
  refine g_getR (p0 := 12) dX6_isRightWith_9 fX6_21 (by first | rfl | assumption | exact RW.s (by assumption) | exact TW.s (by assumption)) rfl rfl ?_
  refine g_getR (p0 := 15) dX6_isRightWith_12 fX6_143 (by first | rfl | assumption | exact RW.s (by assumption) | exact TW.s (by assumption)) rfl rfl ?_
  refine g_iload_n (p0 := 16) (i := 1) dX6_isRightWith_15 rfl rfl rfl ?_
  refine g_cV1R (p0 := 19) (r1 := mX7_at) dX6_isRightWith_16 lX6_68 vX7_at (by first | rfl | assumption | exact RW.s (by assumption) | exact TW.s (by assumption)) ⟨_, _, rfl⟩ (FITi rfl rfl) (Nat.le_of_ble_eq_true rfl) (at_N (by first | exact ⟨rfl, rfl, by decide⟩ | assumption) hm hu) rfl ?_
  refine g_iload (p0 := 21) dX6_isRightWith_19 rfl rfl ?_
  refine g_iconst (p0 := 22) (v := -1) dX6_isRightWith_21 rfl rfl ?_
  first | ((with_reducible refine isN2 ?_); refine g_icmpN_ne (tgt := 29) (p1 := 25) dX6_isRightWith_22 rfl (by omega) (by omega) rfl (fun c_22 => by exfalso; first | omega | contradiction | exact hx c_22 | exact c_22 hx | exact absurd h c_22 | exact h c_22 | exact c_22 h | exact hz c_22 | exact c_22 hz) (fun c_22 => ?_)) | refine g_icmp_ne (tgt := 29) (p1 := 25) dX6_isRightWith_22 rfl rfl (fun c_22 => by exfalso; first | omega | contradiction | exact hx c_22 | exact c_22 hx | exact absurd h c_22 | exact h c_22 | exact c_22 h | exact hz c_22 | exact c_22 hz) (fun c_22 => ?_)
  refine g_iconst (p0 := 26) (v := nI 1) dX6_isRightWith_25 rfl rfl ?_
  refine g_goto (tgt := 30) dX6_isRightWith_26 rfl ?_
  first | ((with_reducible refine isN2 ?_); refine g_isubN (p0 := 31) dX6_isRightWith_30 (by omega) rfl ?_) | refine g_isub (p0 := 31) dX6_isRightWith_30 rfl ?_
  refine g_istore (p0 := 33) (i := 5) (ls2 := [_, _, _, _, _, _, _, _, _]) dX6_isRightWith_31 (Nat.le_of_ble_eq_true rfl) rfl rfl ?_
  refine g_aload_n (p0 := 34) (i := 0) dX6_isRightWith_33 rfl rfl rfl ?_
  refine g_iload_n (p0 := 35) (i := 1) dX6_isRightWith_34 rfl rfl rfl ?_
  refine g_cV1R (p0 := 38) (r1 := mX6_lengthOf) dX6_isRightWith_35 lX6_131 vX6_lengthOf (by first | rfl | assumption | exact RW.s (by assumption) | exact TW.s (by assumption)) ⟨_, _, rfl⟩ (FITi rfl rfl) (Nat.le_of_ble_eq_true rfl) (lengthOf_sp hm hl) rfl ?_
  refine g_iconst (p0 := 39) (v := nI 1) dX6_isRightWith_38 rfl rfl ?_
  first | ((with_reducible refine isN2 ?_); refine g_isubN (p0 := 40) dX6_isRightWith_39 (by omega) rfl ?_) | refine g_isub (p0 := 40) dX6_isRightWith_39 rfl ?_
  refine g_istore (p0 := 42) (i := 6) (ls2 := [_, _, _, _, _, _, _, _, _]) dX6_isRightWith_40 (Nat.le_of_ble_eq_true rfl) rfl rfl ?_
  refine g_iload (p0 := 44) dX6_isRightWith_42 rfl rfl ?_
  first | ((with_reducible refine isN1 ?_); refine g_ifN_gt (tgt := 53) (p1 := 47) dX6_isRightWith_44 rfl (by omega) rfl (fun c_44 => ?_) (fun c_44 => by exfalso; first | omega | contradiction | exact hx c_44 | exact c_44 hx | exact absurd h c_44 | exact h c_44 | exact c_44 h | exact hz c_44 | exact c_44 hz)) | refine g_if_gt (tgt := 53) (p1 := 47) dX6_isRightWith_44 rfl rfl (fun c_44 => ?_) (fun c_44 => by exfalso; first | omega | contradiction | exact hx c_44 | exact c_44 hx | exact absurd h c_44 | exact h c_44 | exact c_44 h | exact hz c_44 | exact c_44 hz)
  refine g_iconst (p0 := 54) (v := nI 0) dX6_isRightWith_53 rfl rfl ?_
  refine g_ireturn dX6_isRightWith_54 rfl (by first | rfl | exact bool_narrow (by first | exact Or.inl rfl | exact Or.inr rfl | assumption | (split <;> first | exact Or.inl rfl | exact Or.inr rfl))) (?_)
  exact ⟨rfl, rfl⟩
set_option maxRecDepth 20000 in
set_option maxHeartbeats 2000000 in
theorem cW0_n {m f n u q p : Nat} {x w0 lv sm : Int32} {σ : Sg} (hm : m < 160) (hn1 : n ≤ 160) (hp : p < n) (hu1 : u ≤ 160) (hf : σ 49 m = nI f) (hfn : f + n ≤ 160) (hl : σ 51 m = nI n) (hu : σ 57 m = nI u) (hs : σ 59 m = sm) (hw : σ 42 (f + p) = w0) (hlv : σ 42 (f + (n - 1)) = lv) (hz : w0 = -1) (hq : u = q + 1) (h0 : q = 0) (h1 : n = 1) : CM mX6_isRightWith [ar 33, ai (nI m), ai (nI p), ai x] σ (Ret (nI 0) σ) := by
  refine CM_in (ls := [some (ar 33), some (ai (nI m)), some (ai (nI p)), some (ai x), none, none, none, none, none]) rfl ?_
  refine g_aload_n (p0 := 1) (i := 0) dX6_isRightWith_0 rfl rfl rfl ?_
  refine g_iload_n (p0 := 2) (i := 1) dX6_isRightWith_1 rfl rfl rfl ?_
  refine g_iload_n (p0 := 3) (i := 2) dX6_isRightWith_2 rfl rfl rfl ?_
  refine g_cV2R (p0 := 6) (r1 := mX6_letterIn) dX6_isRightWith_3 lX6_140 vX6_letterIn (by first | rfl | assumption | exact RW.s (by assumption) | exact TW.s (by assumption)) ⟨_, _, rfl⟩ (FITi rfl rfl) (Nat.le_of_ble_eq_true rfl) (letterIn_sp hm hf (by omega) hw) rfl ?_
  refine g_istore (p0 := 8) (i := 4) (ls2 := [_, _, _, _, _, _, _, _, _]) dX6_isRightWith_6 (Nat.le_of_ble_eq_true rfl) rfl rfl ?_
  refine g_aload_n (p0 := 9) (i := 0) dX6_isRightWith_8 rfl rfl rfl ?_
  refine g_getR (p0 := 12) dX6_isRightWith_9 fX6_21 (by first | rfl | assumption | exact RW.s (by assumption) | exact TW.s (by assumption)) rfl rfl ?_
  refine g_getR (p0 := 15) dX6_isRightWith_12 fX6_143 (by first | rfl | assumption | exact RW.s (by assumption) | exact TW.s (by assumption)) rfl rfl ?_
  refine g_iload_n (p0 := 16) (i := 1) dX6_isRightWith_15 rfl rfl rfl ?_
  refine g_cV1R (p0 := 19) (r1 := mX7_at) dX6_isRightWith_16 lX6_68 vX7_at (by first | rfl | assumption | exact RW.s (by assumption) | exact TW.s (by assumption)) ⟨_, _, rfl⟩ (FITi rfl rfl) (Nat.le_of_ble_eq_true rfl) (at_N (by first | exact ⟨rfl, rfl, by decide⟩ | assumption) hm hu) rfl ?_
  refine g_iload (p0 := 21) dX6_isRightWith_19 rfl rfl ?_
  refine g_iconst (p0 := 22) (v := -1) dX6_isRightWith_21 rfl rfl ?_
  first | ((with_reducible refine isN2 ?_); refine g_icmpN_ne (tgt := 29) (p1 := 25) dX6_isRightWith_22 rfl (by omega) (by omega) rfl (fun c_22 => by exfalso; first | omega | contradiction | exact hx c_22 | exact c_22 hx | exact absurd h c_22 | exact h c_22 | exact c_22 h | exact hz c_22 | exact c_22 hz) (fun c_22 => ?_)) | refine g_icmp_ne (tgt := 29) (p1 := 25) dX6_isRightWith_22 rfl rfl (fun c_22 => by exfalso; first | omega | contradiction | exact hx c_22 | exact c_22 hx | exact absurd h c_22 | exact h c_22 | exact c_22 h | exact hz c_22 | exact c_22 hz) (fun c_22 => ?_)
  refine g_iconst (p0 := 26) (v := nI 1) dX6_isRightWith_25 rfl rfl ?_
  refine g_goto (tgt := 30) dX6_isRightWith_26 rfl ?_
  first | ((with_reducible refine isN2 ?_); refine g_isubN (p0 := 31) dX6_isRightWith_30 (by omega) rfl ?_) | refine g_isub (p0 := 31) dX6_isRightWith_30 rfl ?_
  refine g_istore (p0 := 33) (i := 5) (ls2 := [_, _, _, _, _, _, _, _, _]) dX6_isRightWith_31 (Nat.le_of_ble_eq_true rfl) rfl rfl ?_
  refine g_aload_n (p0 := 34) (i := 0) dX6_isRightWith_33 rfl rfl rfl ?_
  refine g_iload_n (p0 := 35) (i := 1) dX6_isRightWith_34 rfl rfl rfl ?_
  refine g_cV1R (p0 := 38) (r1 := mX6_lengthOf) dX6_isRightWith_35 lX6_131 vX6_lengthOf (by first | rfl | assumption | exact RW.s (by assumption) | exact TW.s (by assumption)) ⟨_, _, rfl⟩ (FITi rfl rfl) (Nat.le_of_ble_eq_true rfl) (lengthOf_sp hm hl) rfl ?_
  refine g_iconst (p0 := 39) (v := nI 1) dX6_isRightWith_38 rfl rfl ?_
  first | ((with_reducible refine isN2 ?_); refine g_isubN (p0 := 40) dX6_isRightWith_39 (by omega) rfl ?_) | refine g_isub (p0 := 40) dX6_isRightWith_39 rfl ?_
  refine g_istore (p0 := 42) (i := 6) (ls2 := [_, _, _, _, _, _, _, _, _]) dX6_isRightWith_40 (Nat.le_of_ble_eq_true rfl) rfl rfl ?_
  refine g_iload (p0 := 44) dX6_isRightWith_42 rfl rfl ?_
  first | ((with_reducible refine isN1 ?_); refine g_ifN_gt (tgt := 53) (p1 := 47) dX6_isRightWith_44 rfl (by omega) rfl (fun c_44 => by exfalso; first | omega | contradiction | exact hx c_44 | exact c_44 hx | exact absurd h c_44 | exact h c_44 | exact c_44 h | exact hz c_44 | exact c_44 hz) (fun c_44 => ?_)) | refine g_if_gt (tgt := 53) (p1 := 47) dX6_isRightWith_44 rfl rfl (fun c_44 => by exfalso; first | omega | contradiction | exact hx c_44 | exact c_44 hx | exact absurd h c_44 | exact h c_44 | exact c_44 h | exact hz c_44 | exact c_44 hz) (fun c_44 => ?_)
  refine g_iload (p0 := 49) dX6_isRightWith_47 rfl rfl ?_
  refine g_iconst (p0 := 50) (v := nI 1) dX6_isRightWith_49 rfl rfl ?_
  first | ((with_reducible refine isN2 ?_); refine g_icmpN_ge (tgt := 55) (p1 := 53) dX6_isRightWith_50 rfl (by omega) (by omega) rfl (fun c_50 => by exfalso; first | omega | contradiction | exact hx c_50 | exact c_50 hx | exact absurd h c_50 | exact h c_50 | exact c_50 h | exact hz c_50 | exact c_50 hz) (fun c_50 => ?_)) | refine g_icmp_ge (tgt := 55) (p1 := 53) dX6_isRightWith_50 rfl rfl (fun c_50 => by exfalso; first | omega | contradiction | exact hx c_50 | exact c_50 hx | exact absurd h c_50 | exact h c_50 | exact c_50 h | exact hz c_50 | exact c_50 hz) (fun c_50 => ?_)
  refine g_iconst (p0 := 54) (v := nI 0) dX6_isRightWith_53 rfl rfl ?_
  refine g_ireturn dX6_isRightWith_54 rfl (by first | rfl | exact bool_narrow (by first | exact Or.inl rfl | exact Or.inr rfl | assumption | (split <;> first | exact Or.inl rfl | exact Or.inr rfl))) (?_)
  exact ⟨rfl, rfl⟩
set_option maxRecDepth 20000 in
set_option maxHeartbeats 2000000 in
theorem cW00_0 {m f n u q p : Nat} {x w0 lv sm S : Int32} {σ : Sg} (hm : m < 160) (hn1 : n ≤ 160) (hp : p < n) (hu1 : u ≤ 160) (hf : σ 49 m = nI f) (hfn : f + n ≤ 160) (hl : σ 51 m = nI n) (hu : σ 57 m = nI u) (hs : σ 59 m = sm) (hw : σ 42 (f + p) = w0) (hlv : σ 42 (f + (n - 1)) = lv) (hz : w0 = -1) (hq : u = q + 1) (hpl : p = n - 1) (h0 : q = 0) (h1 : 2 ≤ n) (hS : sm - nI 0 + x = S) (h : ¬ S - x - (S - x) / nI 25 * nI 25 = x) : CM mX6_isRightWith [ar 33, ai (nI m), ai (nI p), ai x] σ (Ret (nI 0) σ) := by
  refine CM_in (ls := [some (ar 33), some (ai (nI m)), some (ai (nI p)), some (ai x), none, none, none, none, none]) rfl ?_
  refine g_aload_n (p0 := 1) (i := 0) dX6_isRightWith_0 rfl rfl rfl ?_
  refine g_iload_n (p0 := 2) (i := 1) dX6_isRightWith_1 rfl rfl rfl ?_
  refine g_iload_n (p0 := 3) (i := 2) dX6_isRightWith_2 rfl rfl rfl ?_
  refine g_cV2R (p0 := 6) (r1 := mX6_letterIn) dX6_isRightWith_3 lX6_140 vX6_letterIn (by first | rfl | assumption | exact RW.s (by assumption) | exact TW.s (by assumption)) ⟨_, _, rfl⟩ (FITi rfl rfl) (Nat.le_of_ble_eq_true rfl) (letterIn_sp hm hf (by omega) hw) rfl ?_
  refine g_istore (p0 := 8) (i := 4) (ls2 := [_, _, _, _, _, _, _, _, _]) dX6_isRightWith_6 (Nat.le_of_ble_eq_true rfl) rfl rfl ?_
  refine g_aload_n (p0 := 9) (i := 0) dX6_isRightWith_8 rfl rfl rfl ?_
  refine g_getR (p0 := 12) dX6_isRightWith_9 fX6_21 (by first | rfl | assumption | exact RW.s (by assumption) | exact TW.s (by assumption)) rfl rfl ?_
  refine g_getR (p0 := 15) dX6_isRightWith_12 fX6_143 (by first | rfl | assumption | exact RW.s (by assumption) | exact TW.s (by assumption)) rfl rfl ?_
  refine g_iload_n (p0 := 16) (i := 1) dX6_isRightWith_15 rfl rfl rfl ?_
  refine g_cV1R (p0 := 19) (r1 := mX7_at) dX6_isRightWith_16 lX6_68 vX7_at (by first | rfl | assumption | exact RW.s (by assumption) | exact TW.s (by assumption)) ⟨_, _, rfl⟩ (FITi rfl rfl) (Nat.le_of_ble_eq_true rfl) (at_N (by first | exact ⟨rfl, rfl, by decide⟩ | assumption) hm hu) rfl ?_
  refine g_iload (p0 := 21) dX6_isRightWith_19 rfl rfl ?_
  refine g_iconst (p0 := 22) (v := -1) dX6_isRightWith_21 rfl rfl ?_
  first | ((with_reducible refine isN2 ?_); refine g_icmpN_ne (tgt := 29) (p1 := 25) dX6_isRightWith_22 rfl (by omega) (by omega) rfl (fun c_22 => by exfalso; first | omega | contradiction | exact hx c_22 | exact c_22 hx | exact absurd h c_22 | exact h c_22 | exact c_22 h | exact hz c_22 | exact c_22 hz) (fun c_22 => ?_)) | refine g_icmp_ne (tgt := 29) (p1 := 25) dX6_isRightWith_22 rfl rfl (fun c_22 => by exfalso; first | omega | contradiction | exact hx c_22 | exact c_22 hx | exact absurd h c_22 | exact h c_22 | exact c_22 h | exact hz c_22 | exact c_22 hz) (fun c_22 => ?_)
  refine g_iconst (p0 := 26) (v := nI 1) dX6_isRightWith_25 rfl rfl ?_
  refine g_goto (tgt := 30) dX6_isRightWith_26 rfl ?_
  first | ((with_reducible refine isN2 ?_); refine g_isubN (p0 := 31) dX6_isRightWith_30 (by omega) rfl ?_) | refine g_isub (p0 := 31) dX6_isRightWith_30 rfl ?_
  refine g_istore (p0 := 33) (i := 5) (ls2 := [_, _, _, _, _, _, _, _, _]) dX6_isRightWith_31 (Nat.le_of_ble_eq_true rfl) rfl rfl ?_
  refine g_aload_n (p0 := 34) (i := 0) dX6_isRightWith_33 rfl rfl rfl ?_
  refine g_iload_n (p0 := 35) (i := 1) dX6_isRightWith_34 rfl rfl rfl ?_
  refine g_cV1R (p0 := 38) (r1 := mX6_lengthOf) dX6_isRightWith_35 lX6_131 vX6_lengthOf (by first | rfl | assumption | exact RW.s (by assumption) | exact TW.s (by assumption)) ⟨_, _, rfl⟩ (FITi rfl rfl) (Nat.le_of_ble_eq_true rfl) (lengthOf_sp hm hl) rfl ?_
  refine g_iconst (p0 := 39) (v := nI 1) dX6_isRightWith_38 rfl rfl ?_
  first | ((with_reducible refine isN2 ?_); refine g_isubN (p0 := 40) dX6_isRightWith_39 (by omega) rfl ?_) | refine g_isub (p0 := 40) dX6_isRightWith_39 rfl ?_
  refine g_istore (p0 := 42) (i := 6) (ls2 := [_, _, _, _, _, _, _, _, _]) dX6_isRightWith_40 (Nat.le_of_ble_eq_true rfl) rfl rfl ?_
  refine g_iload (p0 := 44) dX6_isRightWith_42 rfl rfl ?_
  first | ((with_reducible refine isN1 ?_); refine g_ifN_gt (tgt := 53) (p1 := 47) dX6_isRightWith_44 rfl (by omega) rfl (fun c_44 => by exfalso; first | omega | contradiction | exact hx c_44 | exact c_44 hx | exact absurd h c_44 | exact h c_44 | exact c_44 h | exact hz c_44 | exact c_44 hz) (fun c_44 => ?_)) | refine g_if_gt (tgt := 53) (p1 := 47) dX6_isRightWith_44 rfl rfl (fun c_44 => by exfalso; first | omega | contradiction | exact hx c_44 | exact c_44 hx | exact absurd h c_44 | exact h c_44 | exact c_44 h | exact hz c_44 | exact c_44 hz) (fun c_44 => ?_)
  refine g_iload (p0 := 49) dX6_isRightWith_47 rfl rfl ?_
  refine g_iconst (p0 := 50) (v := nI 1) dX6_isRightWith_49 rfl rfl ?_
  first | ((with_reducible refine isN2 ?_); refine g_icmpN_ge (tgt := 55) (p1 := 53) dX6_isRightWith_50 rfl (by omega) (by omega) rfl (fun c_50 => ?_) (fun c_50 => by exfalso; first | omega | contradiction | exact hx c_50 | exact c_50 hx | exact absurd h c_50 | exact h c_50 | exact c_50 h | exact hz c_50 | exact c_50 hz)) | refine g_icmp_ge (tgt := 55) (p1 := 53) dX6_isRightWith_50 rfl rfl (fun c_50 => ?_) (fun c_50 => by exfalso; first | omega | contradiction | exact hx c_50 | exact c_50 hx | exact absurd h c_50 | exact h c_50 | exact c_50 h | exact hz c_50 | exact c_50 hz)
  refine g_iload_n (p0 := 56) (i := 2) dX6_isRightWith_55 rfl rfl rfl ?_
  refine g_iload (p0 := 58) dX6_isRightWith_56 rfl rfl ?_
  first | ((with_reducible refine isN2 ?_); refine g_icmpN_ne (tgt := 65) (p1 := 61) dX6_isRightWith_58 rfl (by omega) (by omega) rfl (fun c_58 => by exfalso; first | omega | contradiction | exact hx c_58 | exact c_58 hx | exact absurd h c_58 | exact h c_58 | exact c_58 h | exact hz c_58 | exact c_58 hz) (fun c_58 => ?_)) | refine g_icmp_ne (tgt := 65) (p1 := 61) dX6_isRightWith_58 rfl rfl (fun c_58 => by exfalso; first | omega | contradiction | exact hx c_58 | exact c_58 hx | exact absurd h c_58 | exact h c_58 | exact c_58 h | exact hz c_58 | exact c_58 hz) (fun c_58 => ?_)
  refine g_iload_n (p0 := 62) (i := 3) dX6_isRightWith_61 rfl rfl rfl ?_
  refine g_goto (tgt := 72) dX6_isRightWith_62 rfl ?_
  refine g_istore (p0 := 74) (i := 7) (ls2 := [_, _, _, _, _, _, _, _, _]) dX6_isRightWith_72 (Nat.le_of_ble_eq_true rfl) rfl rfl ?_
  refine g_aload_n (p0 := 75) (i := 0) dX6_isRightWith_74 rfl rfl rfl ?_
  refine g_getR (p0 := 78) dX6_isRightWith_75 fX6_21 (by first | rfl | assumption | exact RW.s (by assumption) | exact TW.s (by assumption)) rfl rfl ?_
  refine g_getR (p0 := 81) dX6_isRightWith_78 fX6_149 (by first | rfl | assumption | exact RW.s (by assumption) | exact TW.s (by assumption)) rfl rfl ?_
  refine g_iload_n (p0 := 82) (i := 1) dX6_isRightWith_81 rfl rfl rfl ?_
  refine g_cV1R (p0 := 85) (r1 := mX7_at) dX6_isRightWith_82 lX6_68 vX7_at (by first | rfl | assumption | exact RW.s (by assumption) | exact TW.s (by assumption)) ⟨_, _, rfl⟩ (FITi rfl rfl) (Nat.le_of_ble_eq_true rfl) (at_N (by first | exact ⟨rfl, rfl, by decide⟩ | assumption) hm hs) rfl ?_
  refine g_iload (p0 := 87) dX6_isRightWith_85 rfl rfl ?_
  refine g_iconst (p0 := 88) (v := -1) dX6_isRightWith_87 rfl rfl ?_
  first | ((with_reducible refine isN2 ?_); refine g_icmpN_ne (tgt := 95) (p1 := 91) dX6_isRightWith_88 rfl (by omega) (by omega) rfl (fun c_88 => by exfalso; first | omega | contradiction | exact hx c_88 | exact c_88 hx | exact absurd h c_88 | exact h c_88 | exact c_88 h | exact hz c_88 | exact c_88 hz) (fun c_88 => ?_)) | refine g_icmp_ne (tgt := 95) (p1 := 91) dX6_isRightWith_88 rfl rfl (fun c_88 => by exfalso; first | omega | contradiction | exact hx c_88 | exact c_88 hx | exact absurd h c_88 | exact h c_88 | exact c_88 h | exact hz c_88 | exact c_88 hz) (fun c_88 => ?_)
  refine g_iconst (p0 := 92) (v := nI 0) dX6_isRightWith_91 rfl rfl ?_
  refine g_goto (tgt := 97) dX6_isRightWith_92 rfl ?_
  first | ((with_reducible refine isN2 ?_); refine g_isubN (p0 := 98) dX6_isRightWith_97 (by omega) rfl ?_) | refine g_isub (p0 := 98) dX6_isRightWith_97 rfl ?_
  refine g_iload_n (p0 := 99) (i := 3) dX6_isRightWith_98 rfl rfl rfl ?_
  first | ((with_reducible refine isN2 ?_); refine g_iaddN (p0 := 100) dX6_isRightWith_99 rfl ?_) | refine g_iadd (p0 := 100) dX6_isRightWith_99 rfl ?_
  rw [hS]
  refine g_istore (p0 := 102) (i := 8) (ls2 := [_, _, _, _, _, _, _, _, _]) dX6_isRightWith_100 (Nat.le_of_ble_eq_true rfl) rfl rfl ?_
  refine g_iload (p0 := 104) dX6_isRightWith_102 rfl rfl ?_
  refine g_iload (p0 := 106) dX6_isRightWith_104 rfl rfl ?_
  first | ((with_reducible refine isN2 ?_); refine g_isubN (p0 := 107) dX6_isRightWith_106 (by omega) rfl ?_) | refine g_isub (p0 := 107) dX6_isRightWith_106 rfl ?_
  refine g_bipush (p0 := 109) (v := nI 25) dX6_isRightWith_107 (by decide) rfl ?_
  first | ((with_reducible refine isN2 ?_); refine g_iremN (p0 := 110) dX6_isRightWith_109 (by omega) (by omega) (by omega) rfl ?_) | refine g_irem (p0 := 110) dX6_isRightWith_109 (by decide) rfl ?_
  refine g_iload (p0 := 112) dX6_isRightWith_110 rfl rfl ?_
  first | ((with_reducible refine isN2 ?_); refine g_icmpN_ne (tgt := 119) (p1 := 115) dX6_isRightWith_112 rfl (by omega) (by omega) rfl (fun c_112 => ?_) (fun c_112 => by exfalso; first | omega | contradiction | exact hx c_112 | exact c_112 hx | exact absurd h c_112 | exact h c_112 | exact c_112 h | exact hz c_112 | exact c_112 hz)) | refine g_icmp_ne (tgt := 119) (p1 := 115) dX6_isRightWith_112 rfl rfl (fun c_112 => ?_) (fun c_112 => by exfalso; first | omega | contradiction | exact hx c_112 | exact c_112 hx | exact absurd h c_112 | exact h c_112 | exact c_112 h | exact hz c_112 | exact c_112 hz)
  refine g_iconst (p0 := 120) (v := nI 0) dX6_isRightWith_119 rfl rfl ?_
  refine g_ireturn dX6_isRightWith_120 rfl (by first | rfl | exact bool_narrow (by first | exact Or.inl rfl | exact Or.inr rfl | assumption | (split <;> first | exact Or.inl rfl | exact Or.inr rfl))) (?_)
  exact ⟨rfl, rfl⟩
set_option maxRecDepth 20000 in
set_option maxHeartbeats 2000000 in
theorem cW00_1 {m f n u q p : Nat} {x w0 lv sm S : Int32} {σ : Sg} (hm : m < 160) (hn1 : n ≤ 160) (hp : p < n) (hu1 : u ≤ 160) (hf : σ 49 m = nI f) (hfn : f + n ≤ 160) (hl : σ 51 m = nI n) (hu : σ 57 m = nI u) (hs : σ 59 m = sm) (hw : σ 42 (f + p) = w0) (hlv : σ 42 (f + (n - 1)) = lv) (hz : w0 = -1) (hq : u = q + 1) (hpl : p = n - 1) (h0 : q = 0) (h1 : 2 ≤ n) (hS : sm - nI 0 + x = S) (h : S - x - (S - x) / nI 25 * nI 25 = x) : CM mX6_isRightWith [ar 33, ai (nI m), ai (nI p), ai x] σ (Ret (nI 1) σ) := by
  refine CM_in (ls := [some (ar 33), some (ai (nI m)), some (ai (nI p)), some (ai x), none, none, none, none, none]) rfl ?_
  refine g_aload_n (p0 := 1) (i := 0) dX6_isRightWith_0 rfl rfl rfl ?_
  refine g_iload_n (p0 := 2) (i := 1) dX6_isRightWith_1 rfl rfl rfl ?_
  refine g_iload_n (p0 := 3) (i := 2) dX6_isRightWith_2 rfl rfl rfl ?_
  refine g_cV2R (p0 := 6) (r1 := mX6_letterIn) dX6_isRightWith_3 lX6_140 vX6_letterIn (by first | rfl | assumption | exact RW.s (by assumption) | exact TW.s (by assumption)) ⟨_, _, rfl⟩ (FITi rfl rfl) (Nat.le_of_ble_eq_true rfl) (letterIn_sp hm hf (by omega) hw) rfl ?_
  refine g_istore (p0 := 8) (i := 4) (ls2 := [_, _, _, _, _, _, _, _, _]) dX6_isRightWith_6 (Nat.le_of_ble_eq_true rfl) rfl rfl ?_
  refine g_aload_n (p0 := 9) (i := 0) dX6_isRightWith_8 rfl rfl rfl ?_
  refine g_getR (p0 := 12) dX6_isRightWith_9 fX6_21 (by first | rfl | assumption | exact RW.s (by assumption) | exact TW.s (by assumption)) rfl rfl ?_
  refine g_getR (p0 := 15) dX6_isRightWith_12 fX6_143 (by first | rfl | assumption | exact RW.s (by assumption) | exact TW.s (by assumption)) rfl rfl ?_
  refine g_iload_n (p0 := 16) (i := 1) dX6_isRightWith_15 rfl rfl rfl ?_
  refine g_cV1R (p0 := 19) (r1 := mX7_at) dX6_isRightWith_16 lX6_68 vX7_at (by first | rfl | assumption | exact RW.s (by assumption) | exact TW.s (by assumption)) ⟨_, _, rfl⟩ (FITi rfl rfl) (Nat.le_of_ble_eq_true rfl) (at_N (by first | exact ⟨rfl, rfl, by decide⟩ | assumption) hm hu) rfl ?_
  refine g_iload (p0 := 21) dX6_isRightWith_19 rfl rfl ?_
  refine g_iconst (p0 := 22) (v := -1) dX6_isRightWith_21 rfl rfl ?_
  first | ((with_reducible refine isN2 ?_); refine g_icmpN_ne (tgt := 29) (p1 := 25) dX6_isRightWith_22 rfl (by omega) (by omega) rfl (fun c_22 => by exfalso; first | omega | contradiction | exact hx c_22 | exact c_22 hx | exact absurd h c_22 | exact h c_22 | exact c_22 h | exact hz c_22 | exact c_22 hz) (fun c_22 => ?_)) | refine g_icmp_ne (tgt := 29) (p1 := 25) dX6_isRightWith_22 rfl rfl (fun c_22 => by exfalso; first | omega | contradiction | exact hx c_22 | exact c_22 hx | exact absurd h c_22 | exact h c_22 | exact c_22 h | exact hz c_22 | exact c_22 hz) (fun c_22 => ?_)
  refine g_iconst (p0 := 26) (v := nI 1) dX6_isRightWith_25 rfl rfl ?_
  refine g_goto (tgt := 30) dX6_isRightWith_26 rfl ?_
  first | ((with_reducible refine isN2 ?_); refine g_isubN (p0 := 31) dX6_isRightWith_30 (by omega) rfl ?_) | refine g_isub (p0 := 31) dX6_isRightWith_30 rfl ?_
  refine g_istore (p0 := 33) (i := 5) (ls2 := [_, _, _, _, _, _, _, _, _]) dX6_isRightWith_31 (Nat.le_of_ble_eq_true rfl) rfl rfl ?_
  refine g_aload_n (p0 := 34) (i := 0) dX6_isRightWith_33 rfl rfl rfl ?_
  refine g_iload_n (p0 := 35) (i := 1) dX6_isRightWith_34 rfl rfl rfl ?_
  refine g_cV1R (p0 := 38) (r1 := mX6_lengthOf) dX6_isRightWith_35 lX6_131 vX6_lengthOf (by first | rfl | assumption | exact RW.s (by assumption) | exact TW.s (by assumption)) ⟨_, _, rfl⟩ (FITi rfl rfl) (Nat.le_of_ble_eq_true rfl) (lengthOf_sp hm hl) rfl ?_
  refine g_iconst (p0 := 39) (v := nI 1) dX6_isRightWith_38 rfl rfl ?_
  first | ((with_reducible refine isN2 ?_); refine g_isubN (p0 := 40) dX6_isRightWith_39 (by omega) rfl ?_) | refine g_isub (p0 := 40) dX6_isRightWith_39 rfl ?_
  refine g_istore (p0 := 42) (i := 6) (ls2 := [_, _, _, _, _, _, _, _, _]) dX6_isRightWith_40 (Nat.le_of_ble_eq_true rfl) rfl rfl ?_
  refine g_iload (p0 := 44) dX6_isRightWith_42 rfl rfl ?_
  first | ((with_reducible refine isN1 ?_); refine g_ifN_gt (tgt := 53) (p1 := 47) dX6_isRightWith_44 rfl (by omega) rfl (fun c_44 => by exfalso; first | omega | contradiction | exact hx c_44 | exact c_44 hx | exact absurd h c_44 | exact h c_44 | exact c_44 h | exact hz c_44 | exact c_44 hz) (fun c_44 => ?_)) | refine g_if_gt (tgt := 53) (p1 := 47) dX6_isRightWith_44 rfl rfl (fun c_44 => by exfalso; first | omega | contradiction | exact hx c_44 | exact c_44 hx | exact absurd h c_44 | exact h c_44 | exact c_44 h | exact hz c_44 | exact c_44 hz) (fun c_44 => ?_)
  refine g_iload (p0 := 49) dX6_isRightWith_47 rfl rfl ?_
  refine g_iconst (p0 := 50) (v := nI 1) dX6_isRightWith_49 rfl rfl ?_
  first | ((with_reducible refine isN2 ?_); refine g_icmpN_ge (tgt := 55) (p1 := 53) dX6_isRightWith_50 rfl (by omega) (by omega) rfl (fun c_50 => ?_) (fun c_50 => by exfalso; first | omega | contradiction | exact hx c_50 | exact c_50 hx | exact absurd h c_50 | exact h c_50 | exact c_50 h | exact hz c_50 | exact c_50 hz)) | refine g_icmp_ge (tgt := 55) (p1 := 53) dX6_isRightWith_50 rfl rfl (fun c_50 => ?_) (fun c_50 => by exfalso; first | omega | contradiction | exact hx c_50 | exact c_50 hx | exact absurd h c_50 | exact h c_50 | exact c_50 h | exact hz c_50 | exact c_50 hz)
  refine g_iload_n (p0 := 56) (i := 2) dX6_isRightWith_55 rfl rfl rfl ?_
  refine g_iload (p0 := 58) dX6_isRightWith_56 rfl rfl ?_
  first | ((with_reducible refine isN2 ?_); refine g_icmpN_ne (tgt := 65) (p1 := 61) dX6_isRightWith_58 rfl (by omega) (by omega) rfl (fun c_58 => by exfalso; first | omega | contradiction | exact hx c_58 | exact c_58 hx | exact absurd h c_58 | exact h c_58 | exact c_58 h | exact hz c_58 | exact c_58 hz) (fun c_58 => ?_)) | refine g_icmp_ne (tgt := 65) (p1 := 61) dX6_isRightWith_58 rfl rfl (fun c_58 => by exfalso; first | omega | contradiction | exact hx c_58 | exact c_58 hx | exact absurd h c_58 | exact h c_58 | exact c_58 h | exact hz c_58 | exact c_58 hz) (fun c_58 => ?_)
  refine g_iload_n (p0 := 62) (i := 3) dX6_isRightWith_61 rfl rfl rfl ?_
  refine g_goto (tgt := 72) dX6_isRightWith_62 rfl ?_
  refine g_istore (p0 := 74) (i := 7) (ls2 := [_, _, _, _, _, _, _, _, _]) dX6_isRightWith_72 (Nat.le_of_ble_eq_true rfl) rfl rfl ?_
  refine g_aload_n (p0 := 75) (i := 0) dX6_isRightWith_74 rfl rfl rfl ?_
  refine g_getR (p0 := 78) dX6_isRightWith_75 fX6_21 (by first | rfl | assumption | exact RW.s (by assumption) | exact TW.s (by assumption)) rfl rfl ?_
  refine g_getR (p0 := 81) dX6_isRightWith_78 fX6_149 (by first | rfl | assumption | exact RW.s (by assumption) | exact TW.s (by assumption)) rfl rfl ?_
  refine g_iload_n (p0 := 82) (i := 1) dX6_isRightWith_81 rfl rfl rfl ?_
  refine g_cV1R (p0 := 85) (r1 := mX7_at) dX6_isRightWith_82 lX6_68 vX7_at (by first | rfl | assumption | exact RW.s (by assumption) | exact TW.s (by assumption)) ⟨_, _, rfl⟩ (FITi rfl rfl) (Nat.le_of_ble_eq_true rfl) (at_N (by first | exact ⟨rfl, rfl, by decide⟩ | assumption) hm hs) rfl ?_
  refine g_iload (p0 := 87) dX6_isRightWith_85 rfl rfl ?_
  refine g_iconst (p0 := 88) (v := -1) dX6_isRightWith_87 rfl rfl ?_
  first | ((with_reducible refine isN2 ?_); refine g_icmpN_ne (tgt := 95) (p1 := 91) dX6_isRightWith_88 rfl (by omega) (by omega) rfl (fun c_88 => by exfalso; first | omega | contradiction | exact hx c_88 | exact c_88 hx | exact absurd h c_88 | exact h c_88 | exact c_88 h | exact hz c_88 | exact c_88 hz) (fun c_88 => ?_)) | refine g_icmp_ne (tgt := 95) (p1 := 91) dX6_isRightWith_88 rfl rfl (fun c_88 => by exfalso; first | omega | contradiction | exact hx c_88 | exact c_88 hx | exact absurd h c_88 | exact h c_88 | exact c_88 h | exact hz c_88 | exact c_88 hz) (fun c_88 => ?_)
  refine g_iconst (p0 := 92) (v := nI 0) dX6_isRightWith_91 rfl rfl ?_
  refine g_goto (tgt := 97) dX6_isRightWith_92 rfl ?_
  first | ((with_reducible refine isN2 ?_); refine g_isubN (p0 := 98) dX6_isRightWith_97 (by omega) rfl ?_) | refine g_isub (p0 := 98) dX6_isRightWith_97 rfl ?_
  refine g_iload_n (p0 := 99) (i := 3) dX6_isRightWith_98 rfl rfl rfl ?_
  first | ((with_reducible refine isN2 ?_); refine g_iaddN (p0 := 100) dX6_isRightWith_99 rfl ?_) | refine g_iadd (p0 := 100) dX6_isRightWith_99 rfl ?_
  rw [hS]
  refine g_istore (p0 := 102) (i := 8) (ls2 := [_, _, _, _, _, _, _, _, _]) dX6_isRightWith_100 (Nat.le_of_ble_eq_true rfl) rfl rfl ?_
  refine g_iload (p0 := 104) dX6_isRightWith_102 rfl rfl ?_
  refine g_iload (p0 := 106) dX6_isRightWith_104 rfl rfl ?_
  first | ((with_reducible refine isN2 ?_); refine g_isubN (p0 := 107) dX6_isRightWith_106 (by omega) rfl ?_) | refine g_isub (p0 := 107) dX6_isRightWith_106 rfl ?_
  refine g_bipush (p0 := 109) (v := nI 25) dX6_isRightWith_107 (by decide) rfl ?_
  first | ((with_reducible refine isN2 ?_); refine g_iremN (p0 := 110) dX6_isRightWith_109 (by omega) (by omega) (by omega) rfl ?_) | refine g_irem (p0 := 110) dX6_isRightWith_109 (by decide) rfl ?_
  refine g_iload (p0 := 112) dX6_isRightWith_110 rfl rfl ?_
  first | ((with_reducible refine isN2 ?_); refine g_icmpN_ne (tgt := 119) (p1 := 115) dX6_isRightWith_112 rfl (by omega) (by omega) rfl (fun c_112 => by exfalso; first | omega | contradiction | exact hx c_112 | exact c_112 hx | exact absurd h c_112 | exact h c_112 | exact c_112 h | exact hz c_112 | exact c_112 hz) (fun c_112 => ?_)) | refine g_icmp_ne (tgt := 119) (p1 := 115) dX6_isRightWith_112 rfl rfl (fun c_112 => by exfalso; first | omega | contradiction | exact hx c_112 | exact c_112 hx | exact absurd h c_112 | exact h c_112 | exact c_112 h | exact hz c_112 | exact c_112 hz) (fun c_112 => ?_)
  refine g_iconst (p0 := 116) (v := nI 1) dX6_isRightWith_115 rfl rfl ?_
  refine g_goto (tgt := 120) dX6_isRightWith_116 rfl ?_
  refine g_ireturn dX6_isRightWith_120 rfl (by first | rfl | exact bool_narrow (by first | exact Or.inl rfl | exact Or.inr rfl | assumption | (split <;> first | exact Or.inl rfl | exact Or.inr rfl))) (?_)
  exact ⟨rfl, rfl⟩
set_option maxRecDepth 20000 in
set_option maxHeartbeats 2000000 in
theorem cW01_0 {m f n u q p : Nat} {x w0 lv sm S : Int32} {σ : Sg} (hm : m < 160) (hn1 : n ≤ 160) (hp : p < n) (hu1 : u ≤ 160) (hf : σ 49 m = nI f) (hfn : f + n ≤ 160) (hl : σ 51 m = nI n) (hu : σ 57 m = nI u) (hs : σ 59 m = sm) (hw : σ 42 (f + p) = w0) (hlv : σ 42 (f + (n - 1)) = lv) (hz : w0 = -1) (hq : u = q + 1) (hpl : ¬ p = n - 1) (h0 : q = 0) (h1 : 2 ≤ n) (hS : sm - nI 0 + x = S) (h : ¬ S - lv - (S - lv) / nI 25 * nI 25 = lv) : CM mX6_isRightWith [ar 33, ai (nI m), ai (nI p), ai x] σ (Ret (nI 0) σ) := by
  refine CM_in (ls := [some (ar 33), some (ai (nI m)), some (ai (nI p)), some (ai x), none, none, none, none, none]) rfl ?_
  refine g_aload_n (p0 := 1) (i := 0) dX6_isRightWith_0 rfl rfl rfl ?_
  refine g_iload_n (p0 := 2) (i := 1) dX6_isRightWith_1 rfl rfl rfl ?_
  refine g_iload_n (p0 := 3) (i := 2) dX6_isRightWith_2 rfl rfl rfl ?_
  refine g_cV2R (p0 := 6) (r1 := mX6_letterIn) dX6_isRightWith_3 lX6_140 vX6_letterIn (by first | rfl | assumption | exact RW.s (by assumption) | exact TW.s (by assumption)) ⟨_, _, rfl⟩ (FITi rfl rfl) (Nat.le_of_ble_eq_true rfl) (letterIn_sp hm hf (by omega) hw) rfl ?_
  refine g_istore (p0 := 8) (i := 4) (ls2 := [_, _, _, _, _, _, _, _, _]) dX6_isRightWith_6 (Nat.le_of_ble_eq_true rfl) rfl rfl ?_
  refine g_aload_n (p0 := 9) (i := 0) dX6_isRightWith_8 rfl rfl rfl ?_
  refine g_getR (p0 := 12) dX6_isRightWith_9 fX6_21 (by first | rfl | assumption | exact RW.s (by assumption) | exact TW.s (by assumption)) rfl rfl ?_
  refine g_getR (p0 := 15) dX6_isRightWith_12 fX6_143 (by first | rfl | assumption | exact RW.s (by assumption) | exact TW.s (by assumption)) rfl rfl ?_
  refine g_iload_n (p0 := 16) (i := 1) dX6_isRightWith_15 rfl rfl rfl ?_
  refine g_cV1R (p0 := 19) (r1 := mX7_at) dX6_isRightWith_16 lX6_68 vX7_at (by first | rfl | assumption | exact RW.s (by assumption) | exact TW.s (by assumption)) ⟨_, _, rfl⟩ (FITi rfl rfl) (Nat.le_of_ble_eq_true rfl) (at_N (by first | exact ⟨rfl, rfl, by decide⟩ | assumption) hm hu) rfl ?_
  refine g_iload (p0 := 21) dX6_isRightWith_19 rfl rfl ?_
  refine g_iconst (p0 := 22) (v := -1) dX6_isRightWith_21 rfl rfl ?_
  first | ((with_reducible refine isN2 ?_); refine g_icmpN_ne (tgt := 29) (p1 := 25) dX6_isRightWith_22 rfl (by omega) (by omega) rfl (fun c_22 => by exfalso; first | omega | contradiction | exact hx c_22 | exact c_22 hx | exact absurd h c_22 | exact h c_22 | exact c_22 h | exact hz c_22 | exact c_22 hz) (fun c_22 => ?_)) | refine g_icmp_ne (tgt := 29) (p1 := 25) dX6_isRightWith_22 rfl rfl (fun c_22 => by exfalso; first | omega | contradiction | exact hx c_22 | exact c_22 hx | exact absurd h c_22 | exact h c_22 | exact c_22 h | exact hz c_22 | exact c_22 hz) (fun c_22 => ?_)
  refine g_iconst (p0 := 26) (v := nI 1) dX6_isRightWith_25 rfl rfl ?_
  refine g_goto (tgt := 30) dX6_isRightWith_26 rfl ?_
  first | ((with_reducible refine isN2 ?_); refine g_isubN (p0 := 31) dX6_isRightWith_30 (by omega) rfl ?_) | refine g_isub (p0 := 31) dX6_isRightWith_30 rfl ?_
  refine g_istore (p0 := 33) (i := 5) (ls2 := [_, _, _, _, _, _, _, _, _]) dX6_isRightWith_31 (Nat.le_of_ble_eq_true rfl) rfl rfl ?_
  refine g_aload_n (p0 := 34) (i := 0) dX6_isRightWith_33 rfl rfl rfl ?_
  refine g_iload_n (p0 := 35) (i := 1) dX6_isRightWith_34 rfl rfl rfl ?_
  refine g_cV1R (p0 := 38) (r1 := mX6_lengthOf) dX6_isRightWith_35 lX6_131 vX6_lengthOf (by first | rfl | assumption | exact RW.s (by assumption) | exact TW.s (by assumption)) ⟨_, _, rfl⟩ (FITi rfl rfl) (Nat.le_of_ble_eq_true rfl) (lengthOf_sp hm hl) rfl ?_
  refine g_iconst (p0 := 39) (v := nI 1) dX6_isRightWith_38 rfl rfl ?_
  first | ((with_reducible refine isN2 ?_); refine g_isubN (p0 := 40) dX6_isRightWith_39 (by omega) rfl ?_) | refine g_isub (p0 := 40) dX6_isRightWith_39 rfl ?_
  refine g_istore (p0 := 42) (i := 6) (ls2 := [_, _, _, _, _, _, _, _, _]) dX6_isRightWith_40 (Nat.le_of_ble_eq_true rfl) rfl rfl ?_
  refine g_iload (p0 := 44) dX6_isRightWith_42 rfl rfl ?_
  first | ((with_reducible refine isN1 ?_); refine g_ifN_gt (tgt := 53) (p1 := 47) dX6_isRightWith_44 rfl (by omega) rfl (fun c_44 => by exfalso; first | omega | contradiction | exact hx c_44 | exact c_44 hx | exact absurd h c_44 | exact h c_44 | exact c_44 h | exact hz c_44 | exact c_44 hz) (fun c_44 => ?_)) | refine g_if_gt (tgt := 53) (p1 := 47) dX6_isRightWith_44 rfl rfl (fun c_44 => by exfalso; first | omega | contradiction | exact hx c_44 | exact c_44 hx | exact absurd h c_44 | exact h c_44 | exact c_44 h | exact hz c_44 | exact c_44 hz) (fun c_44 => ?_)
  refine g_iload (p0 := 49) dX6_isRightWith_47 rfl rfl ?_
  refine g_iconst (p0 := 50) (v := nI 1) dX6_isRightWith_49 rfl rfl ?_
  first | ((with_reducible refine isN2 ?_); refine g_icmpN_ge (tgt := 55) (p1 := 53) dX6_isRightWith_50 rfl (by omega) (by omega) rfl (fun c_50 => ?_) (fun c_50 => by exfalso; first | omega | contradiction | exact hx c_50 | exact c_50 hx | exact absurd h c_50 | exact h c_50 | exact c_50 h | exact hz c_50 | exact c_50 hz)) | refine g_icmp_ge (tgt := 55) (p1 := 53) dX6_isRightWith_50 rfl rfl (fun c_50 => ?_) (fun c_50 => by exfalso; first | omega | contradiction | exact hx c_50 | exact c_50 hx | exact absurd h c_50 | exact h c_50 | exact c_50 h | exact hz c_50 | exact c_50 hz)
  refine g_iload_n (p0 := 56) (i := 2) dX6_isRightWith_55 rfl rfl rfl ?_
  refine g_iload (p0 := 58) dX6_isRightWith_56 rfl rfl ?_
  first | ((with_reducible refine isN2 ?_); refine g_icmpN_ne (tgt := 65) (p1 := 61) dX6_isRightWith_58 rfl (by omega) (by omega) rfl (fun c_58 => ?_) (fun c_58 => by exfalso; first | omega | contradiction | exact hx c_58 | exact c_58 hx | exact absurd h c_58 | exact h c_58 | exact c_58 h | exact hz c_58 | exact c_58 hz)) | refine g_icmp_ne (tgt := 65) (p1 := 61) dX6_isRightWith_58 rfl rfl (fun c_58 => ?_) (fun c_58 => by exfalso; first | omega | contradiction | exact hx c_58 | exact c_58 hx | exact absurd h c_58 | exact h c_58 | exact c_58 h | exact hz c_58 | exact c_58 hz)
  refine g_aload_n (p0 := 66) (i := 0) dX6_isRightWith_65 rfl rfl rfl ?_
  refine g_iload_n (p0 := 67) (i := 1) dX6_isRightWith_66 rfl rfl rfl ?_
  refine g_iload (p0 := 69) dX6_isRightWith_67 rfl rfl ?_
  refine g_cV2R (p0 := 72) (r1 := mX6_letterIn) dX6_isRightWith_69 lX6_140 vX6_letterIn (by first | rfl | assumption | exact RW.s (by assumption) | exact TW.s (by assumption)) ⟨_, _, rfl⟩ (FITi rfl rfl) (Nat.le_of_ble_eq_true rfl) (letterIn_sp hm hf (by omega) hlv) rfl ?_
  refine g_istore (p0 := 74) (i := 7) (ls2 := [_, _, _, _, _, _, _, _, _]) dX6_isRightWith_72 (Nat.le_of_ble_eq_true rfl) rfl rfl ?_
  refine g_aload_n (p0 := 75) (i := 0) dX6_isRightWith_74 rfl rfl rfl ?_
  refine g_getR (p0 := 78) dX6_isRightWith_75 fX6_21 (by first | rfl | assumption | exact RW.s (by assumption) | exact TW.s (by assumption)) rfl rfl ?_
  refine g_getR (p0 := 81) dX6_isRightWith_78 fX6_149 (by first | rfl | assumption | exact RW.s (by assumption) | exact TW.s (by assumption)) rfl rfl ?_
  refine g_iload_n (p0 := 82) (i := 1) dX6_isRightWith_81 rfl rfl rfl ?_
  refine g_cV1R (p0 := 85) (r1 := mX7_at) dX6_isRightWith_82 lX6_68 vX7_at (by first | rfl | assumption | exact RW.s (by assumption) | exact TW.s (by assumption)) ⟨_, _, rfl⟩ (FITi rfl rfl) (Nat.le_of_ble_eq_true rfl) (at_N (by first | exact ⟨rfl, rfl, by decide⟩ | assumption) hm hs) rfl ?_
  refine g_iload (p0 := 87) dX6_isRightWith_85 rfl rfl ?_
  refine g_iconst (p0 := 88) (v := -1) dX6_isRightWith_87 rfl rfl ?_
  first | ((with_reducible refine isN2 ?_); refine g_icmpN_ne (tgt := 95) (p1 := 91) dX6_isRightWith_88 rfl (by omega) (by omega) rfl (fun c_88 => by exfalso; first | omega | contradiction | exact hx c_88 | exact c_88 hx | exact absurd h c_88 | exact h c_88 | exact c_88 h | exact hz c_88 | exact c_88 hz) (fun c_88 => ?_)) | refine g_icmp_ne (tgt := 95) (p1 := 91) dX6_isRightWith_88 rfl rfl (fun c_88 => by exfalso; first | omega | contradiction | exact hx c_88 | exact c_88 hx | exact absurd h c_88 | exact h c_88 | exact c_88 h | exact hz c_88 | exact c_88 hz) (fun c_88 => ?_)
  refine g_iconst (p0 := 92) (v := nI 0) dX6_isRightWith_91 rfl rfl ?_
  refine g_goto (tgt := 97) dX6_isRightWith_92 rfl ?_
  first | ((with_reducible refine isN2 ?_); refine g_isubN (p0 := 98) dX6_isRightWith_97 (by omega) rfl ?_) | refine g_isub (p0 := 98) dX6_isRightWith_97 rfl ?_
  refine g_iload_n (p0 := 99) (i := 3) dX6_isRightWith_98 rfl rfl rfl ?_
  first | ((with_reducible refine isN2 ?_); refine g_iaddN (p0 := 100) dX6_isRightWith_99 rfl ?_) | refine g_iadd (p0 := 100) dX6_isRightWith_99 rfl ?_
  rw [hS]
  refine g_istore (p0 := 102) (i := 8) (ls2 := [_, _, _, _, _, _, _, _, _]) dX6_isRightWith_100 (Nat.le_of_ble_eq_true rfl) rfl rfl ?_
  refine g_iload (p0 := 104) dX6_isRightWith_102 rfl rfl ?_
  refine g_iload (p0 := 106) dX6_isRightWith_104 rfl rfl ?_
  first | ((with_reducible refine isN2 ?_); refine g_isubN (p0 := 107) dX6_isRightWith_106 (by omega) rfl ?_) | refine g_isub (p0 := 107) dX6_isRightWith_106 rfl ?_
  refine g_bipush (p0 := 109) (v := nI 25) dX6_isRightWith_107 (by decide) rfl ?_
  first | ((with_reducible refine isN2 ?_); refine g_iremN (p0 := 110) dX6_isRightWith_109 (by omega) (by omega) (by omega) rfl ?_) | refine g_irem (p0 := 110) dX6_isRightWith_109 (by decide) rfl ?_
  refine g_iload (p0 := 112) dX6_isRightWith_110 rfl rfl ?_
  first | ((with_reducible refine isN2 ?_); refine g_icmpN_ne (tgt := 119) (p1 := 115) dX6_isRightWith_112 rfl (by omega) (by omega) rfl (fun c_112 => ?_) (fun c_112 => by exfalso; first | omega | contradiction | exact hx c_112 | exact c_112 hx | exact absurd h c_112 | exact h c_112 | exact c_112 h | exact hz c_112 | exact c_112 hz)) | refine g_icmp_ne (tgt := 119) (p1 := 115) dX6_isRightWith_112 rfl rfl (fun c_112 => ?_) (fun c_112 => by exfalso; first | omega | contradiction | exact hx c_112 | exact c_112 hx | exact absurd h c_112 | exact h c_112 | exact c_112 h | exact hz c_112 | exact c_112 hz)
  refine g_iconst (p0 := 120) (v := nI 0) dX6_isRightWith_119 rfl rfl ?_
  refine g_ireturn dX6_isRightWith_120 rfl (by first | rfl | exact bool_narrow (by first | exact Or.inl rfl | exact Or.inr rfl | assumption | (split <;> first | exact Or.inl rfl | exact Or.inr rfl))) (?_)
  exact ⟨rfl, rfl⟩
set_option maxRecDepth 20000 in
set_option maxHeartbeats 2000000 in
theorem cW01_1 {m f n u q p : Nat} {x w0 lv sm S : Int32} {σ : Sg} (hm : m < 160) (hn1 : n ≤ 160) (hp : p < n) (hu1 : u ≤ 160) (hf : σ 49 m = nI f) (hfn : f + n ≤ 160) (hl : σ 51 m = nI n) (hu : σ 57 m = nI u) (hs : σ 59 m = sm) (hw : σ 42 (f + p) = w0) (hlv : σ 42 (f + (n - 1)) = lv) (hz : w0 = -1) (hq : u = q + 1) (hpl : ¬ p = n - 1) (h0 : q = 0) (h1 : 2 ≤ n) (hS : sm - nI 0 + x = S) (h : S - lv - (S - lv) / nI 25 * nI 25 = lv) : CM mX6_isRightWith [ar 33, ai (nI m), ai (nI p), ai x] σ (Ret (nI 1) σ) := by
  refine CM_in (ls := [some (ar 33), some (ai (nI m)), some (ai (nI p)), some (ai x), none, none, none, none, none]) rfl ?_
  refine g_aload_n (p0 := 1) (i := 0) dX6_isRightWith_0 rfl rfl rfl ?_
  refine g_iload_n (p0 := 2) (i := 1) dX6_isRightWith_1 rfl rfl rfl ?_
  refine g_iload_n (p0 := 3) (i := 2) dX6_isRightWith_2 rfl rfl rfl ?_
  refine g_cV2R (p0 := 6) (r1 := mX6_letterIn) dX6_isRightWith_3 lX6_140 vX6_letterIn (by first | rfl | assumption | exact RW.s (by assumption) | exact TW.s (by assumption)) ⟨_, _, rfl⟩ (FITi rfl rfl) (Nat.le_of_ble_eq_true rfl) (letterIn_sp hm hf (by omega) hw) rfl ?_
  refine g_istore (p0 := 8) (i := 4) (ls2 := [_, _, _, _, _, _, _, _, _]) dX6_isRightWith_6 (Nat.le_of_ble_eq_true rfl) rfl rfl ?_
  refine g_aload_n (p0 := 9) (i := 0) dX6_isRightWith_8 rfl rfl rfl ?_
  refine g_getR (p0 := 12) dX6_isRightWith_9 fX6_21 (by first | rfl | assumption | exact RW.s (by assumption) | exact TW.s (by assumption)) rfl rfl ?_
  refine g_getR (p0 := 15) dX6_isRightWith_12 fX6_143 (by first | rfl | assumption | exact RW.s (by assumption) | exact TW.s (by assumption)) rfl rfl ?_
  refine g_iload_n (p0 := 16) (i := 1) dX6_isRightWith_15 rfl rfl rfl ?_
  refine g_cV1R (p0 := 19) (r1 := mX7_at) dX6_isRightWith_16 lX6_68 vX7_at (by first | rfl | assumption | exact RW.s (by assumption) | exact TW.s (by assumption)) ⟨_, _, rfl⟩ (FITi rfl rfl) (Nat.le_of_ble_eq_true rfl) (at_N (by first | exact ⟨rfl, rfl, by decide⟩ | assumption) hm hu) rfl ?_
  refine g_iload (p0 := 21) dX6_isRightWith_19 rfl rfl ?_
  refine g_iconst (p0 := 22) (v := -1) dX6_isRightWith_21 rfl rfl ?_
  first | ((with_reducible refine isN2 ?_); refine g_icmpN_ne (tgt := 29) (p1 := 25) dX6_isRightWith_22 rfl (by omega) (by omega) rfl (fun c_22 => by exfalso; first | omega | contradiction | exact hx c_22 | exact c_22 hx | exact absurd h c_22 | exact h c_22 | exact c_22 h | exact hz c_22 | exact c_22 hz) (fun c_22 => ?_)) | refine g_icmp_ne (tgt := 29) (p1 := 25) dX6_isRightWith_22 rfl rfl (fun c_22 => by exfalso; first | omega | contradiction | exact hx c_22 | exact c_22 hx | exact absurd h c_22 | exact h c_22 | exact c_22 h | exact hz c_22 | exact c_22 hz) (fun c_22 => ?_)
  refine g_iconst (p0 := 26) (v := nI 1) dX6_isRightWith_25 rfl rfl ?_
  refine g_goto (tgt := 30) dX6_isRightWith_26 rfl ?_
  first | ((with_reducible refine isN2 ?_); refine g_isubN (p0 := 31) dX6_isRightWith_30 (by omega) rfl ?_) | refine g_isub (p0 := 31) dX6_isRightWith_30 rfl ?_
  refine g_istore (p0 := 33) (i := 5) (ls2 := [_, _, _, _, _, _, _, _, _]) dX6_isRightWith_31 (Nat.le_of_ble_eq_true rfl) rfl rfl ?_
  refine g_aload_n (p0 := 34) (i := 0) dX6_isRightWith_33 rfl rfl rfl ?_
  refine g_iload_n (p0 := 35) (i := 1) dX6_isRightWith_34 rfl rfl rfl ?_
  refine g_cV1R (p0 := 38) (r1 := mX6_lengthOf) dX6_isRightWith_35 lX6_131 vX6_lengthOf (by first | rfl | assumption | exact RW.s (by assumption) | exact TW.s (by assumption)) ⟨_, _, rfl⟩ (FITi rfl rfl) (Nat.le_of_ble_eq_true rfl) (lengthOf_sp hm hl) rfl ?_
  refine g_iconst (p0 := 39) (v := nI 1) dX6_isRightWith_38 rfl rfl ?_
  first | ((with_reducible refine isN2 ?_); refine g_isubN (p0 := 40) dX6_isRightWith_39 (by omega) rfl ?_) | refine g_isub (p0 := 40) dX6_isRightWith_39 rfl ?_
  refine g_istore (p0 := 42) (i := 6) (ls2 := [_, _, _, _, _, _, _, _, _]) dX6_isRightWith_40 (Nat.le_of_ble_eq_true rfl) rfl rfl ?_
  refine g_iload (p0 := 44) dX6_isRightWith_42 rfl rfl ?_
  first | ((with_reducible refine isN1 ?_); refine g_ifN_gt (tgt := 53) (p1 := 47) dX6_isRightWith_44 rfl (by omega) rfl (fun c_44 => by exfalso; first | omega | contradiction | exact hx c_44 | exact c_44 hx | exact absurd h c_44 | exact h c_44 | exact c_44 h | exact hz c_44 | exact c_44 hz) (fun c_44 => ?_)) | refine g_if_gt (tgt := 53) (p1 := 47) dX6_isRightWith_44 rfl rfl (fun c_44 => by exfalso; first | omega | contradiction | exact hx c_44 | exact c_44 hx | exact absurd h c_44 | exact h c_44 | exact c_44 h | exact hz c_44 | exact c_44 hz) (fun c_44 => ?_)
  refine g_iload (p0 := 49) dX6_isRightWith_47 rfl rfl ?_
  refine g_iconst (p0 := 50) (v := nI 1) dX6_isRightWith_49 rfl rfl ?_
  first | ((with_reducible refine isN2 ?_); refine g_icmpN_ge (tgt := 55) (p1 := 53) dX6_isRightWith_50 rfl (by omega) (by omega) rfl (fun c_50 => ?_) (fun c_50 => by exfalso; first | omega | contradiction | exact hx c_50 | exact c_50 hx | exact absurd h c_50 | exact h c_50 | exact c_50 h | exact hz c_50 | exact c_50 hz)) | refine g_icmp_ge (tgt := 55) (p1 := 53) dX6_isRightWith_50 rfl rfl (fun c_50 => ?_) (fun c_50 => by exfalso; first | omega | contradiction | exact hx c_50 | exact c_50 hx | exact absurd h c_50 | exact h c_50 | exact c_50 h | exact hz c_50 | exact c_50 hz)
  refine g_iload_n (p0 := 56) (i := 2) dX6_isRightWith_55 rfl rfl rfl ?_
  refine g_iload (p0 := 58) dX6_isRightWith_56 rfl rfl ?_
  first | ((with_reducible refine isN2 ?_); refine g_icmpN_ne (tgt := 65) (p1 := 61) dX6_isRightWith_58 rfl (by omega) (by omega) rfl (fun c_58 => ?_) (fun c_58 => by exfalso; first | omega | contradiction | exact hx c_58 | exact c_58 hx | exact absurd h c_58 | exact h c_58 | exact c_58 h | exact hz c_58 | exact c_58 hz)) | refine g_icmp_ne (tgt := 65) (p1 := 61) dX6_isRightWith_58 rfl rfl (fun c_58 => ?_) (fun c_58 => by exfalso; first | omega | contradiction | exact hx c_58 | exact c_58 hx | exact absurd h c_58 | exact h c_58 | exact c_58 h | exact hz c_58 | exact c_58 hz)
  refine g_aload_n (p0 := 66) (i := 0) dX6_isRightWith_65 rfl rfl rfl ?_
  refine g_iload_n (p0 := 67) (i := 1) dX6_isRightWith_66 rfl rfl rfl ?_
  refine g_iload (p0 := 69) dX6_isRightWith_67 rfl rfl ?_
  refine g_cV2R (p0 := 72) (r1 := mX6_letterIn) dX6_isRightWith_69 lX6_140 vX6_letterIn (by first | rfl | assumption | exact RW.s (by assumption) | exact TW.s (by assumption)) ⟨_, _, rfl⟩ (FITi rfl rfl) (Nat.le_of_ble_eq_true rfl) (letterIn_sp hm hf (by omega) hlv) rfl ?_
  refine g_istore (p0 := 74) (i := 7) (ls2 := [_, _, _, _, _, _, _, _, _]) dX6_isRightWith_72 (Nat.le_of_ble_eq_true rfl) rfl rfl ?_
  refine g_aload_n (p0 := 75) (i := 0) dX6_isRightWith_74 rfl rfl rfl ?_
  refine g_getR (p0 := 78) dX6_isRightWith_75 fX6_21 (by first | rfl | assumption | exact RW.s (by assumption) | exact TW.s (by assumption)) rfl rfl ?_
  refine g_getR (p0 := 81) dX6_isRightWith_78 fX6_149 (by first | rfl | assumption | exact RW.s (by assumption) | exact TW.s (by assumption)) rfl rfl ?_
  refine g_iload_n (p0 := 82) (i := 1) dX6_isRightWith_81 rfl rfl rfl ?_
  refine g_cV1R (p0 := 85) (r1 := mX7_at) dX6_isRightWith_82 lX6_68 vX7_at (by first | rfl | assumption | exact RW.s (by assumption) | exact TW.s (by assumption)) ⟨_, _, rfl⟩ (FITi rfl rfl) (Nat.le_of_ble_eq_true rfl) (at_N (by first | exact ⟨rfl, rfl, by decide⟩ | assumption) hm hs) rfl ?_
  refine g_iload (p0 := 87) dX6_isRightWith_85 rfl rfl ?_
  refine g_iconst (p0 := 88) (v := -1) dX6_isRightWith_87 rfl rfl ?_
  first | ((with_reducible refine isN2 ?_); refine g_icmpN_ne (tgt := 95) (p1 := 91) dX6_isRightWith_88 rfl (by omega) (by omega) rfl (fun c_88 => by exfalso; first | omega | contradiction | exact hx c_88 | exact c_88 hx | exact absurd h c_88 | exact h c_88 | exact c_88 h | exact hz c_88 | exact c_88 hz) (fun c_88 => ?_)) | refine g_icmp_ne (tgt := 95) (p1 := 91) dX6_isRightWith_88 rfl rfl (fun c_88 => by exfalso; first | omega | contradiction | exact hx c_88 | exact c_88 hx | exact absurd h c_88 | exact h c_88 | exact c_88 h | exact hz c_88 | exact c_88 hz) (fun c_88 => ?_)
  refine g_iconst (p0 := 92) (v := nI 0) dX6_isRightWith_91 rfl rfl ?_
  refine g_goto (tgt := 97) dX6_isRightWith_92 rfl ?_
  first | ((with_reducible refine isN2 ?_); refine g_isubN (p0 := 98) dX6_isRightWith_97 (by omega) rfl ?_) | refine g_isub (p0 := 98) dX6_isRightWith_97 rfl ?_
  refine g_iload_n (p0 := 99) (i := 3) dX6_isRightWith_98 rfl rfl rfl ?_
  first | ((with_reducible refine isN2 ?_); refine g_iaddN (p0 := 100) dX6_isRightWith_99 rfl ?_) | refine g_iadd (p0 := 100) dX6_isRightWith_99 rfl ?_
  rw [hS]
  refine g_istore (p0 := 102) (i := 8) (ls2 := [_, _, _, _, _, _, _, _, _]) dX6_isRightWith_100 (Nat.le_of_ble_eq_true rfl) rfl rfl ?_
  refine g_iload (p0 := 104) dX6_isRightWith_102 rfl rfl ?_
  refine g_iload (p0 := 106) dX6_isRightWith_104 rfl rfl ?_
  first | ((with_reducible refine isN2 ?_); refine g_isubN (p0 := 107) dX6_isRightWith_106 (by omega) rfl ?_) | refine g_isub (p0 := 107) dX6_isRightWith_106 rfl ?_
  refine g_bipush (p0 := 109) (v := nI 25) dX6_isRightWith_107 (by decide) rfl ?_
  first | ((with_reducible refine isN2 ?_); refine g_iremN (p0 := 110) dX6_isRightWith_109 (by omega) (by omega) (by omega) rfl ?_) | refine g_irem (p0 := 110) dX6_isRightWith_109 (by decide) rfl ?_
  refine g_iload (p0 := 112) dX6_isRightWith_110 rfl rfl ?_
  first | ((with_reducible refine isN2 ?_); refine g_icmpN_ne (tgt := 119) (p1 := 115) dX6_isRightWith_112 rfl (by omega) (by omega) rfl (fun c_112 => by exfalso; first | omega | contradiction | exact hx c_112 | exact c_112 hx | exact absurd h c_112 | exact h c_112 | exact c_112 h | exact hz c_112 | exact c_112 hz) (fun c_112 => ?_)) | refine g_icmp_ne (tgt := 119) (p1 := 115) dX6_isRightWith_112 rfl rfl (fun c_112 => by exfalso; first | omega | contradiction | exact hx c_112 | exact c_112 hx | exact absurd h c_112 | exact h c_112 | exact c_112 h | exact hz c_112 | exact c_112 hz) (fun c_112 => ?_)
  refine g_iconst (p0 := 116) (v := nI 1) dX6_isRightWith_115 rfl rfl ?_
  refine g_goto (tgt := 120) dX6_isRightWith_116 rfl ?_
  refine g_ireturn dX6_isRightWith_120 rfl (by first | rfl | exact bool_narrow (by first | exact Or.inl rfl | exact Or.inr rfl | assumption | (split <;> first | exact Or.inl rfl | exact Or.inr rfl))) (?_)
  exact ⟨rfl, rfl⟩
set_option maxRecDepth 20000 in
set_option maxHeartbeats 2000000 in
theorem cW1_u {m f n u q p : Nat} {x w0 lv sm : Int32} {σ : Sg} (hm : m < 160) (hn1 : n ≤ 160) (hp : p < n) (hu1 : u ≤ 160) (hf : σ 49 m = nI f) (hfn : f + n ≤ 160) (hl : σ 51 m = nI n) (hu : σ 57 m = nI u) (hs : σ 59 m = sm) (hw : σ 42 (f + p) = w0) (hlv : σ 42 (f + (n - 1)) = lv) (hz : ¬ w0 = -1) (hq : u = q) (h0 : 0 < q) : CM mX6_isRightWith [ar 33, ai (nI m), ai (nI p), ai x] σ (Ret (nI 0) σ) := by
  refine CM_in (ls := [some (ar 33), some (ai (nI m)), some (ai (nI p)), some (ai x), none, none, none, none, none]) rfl ?_
  refine g_aload_n (p0 := 1) (i := 0) dX6_isRightWith_0 rfl rfl rfl ?_
  refine g_iload_n (p0 := 2) (i := 1) dX6_isRightWith_1 rfl rfl rfl ?_
  refine g_iload_n (p0 := 3) (i := 2) dX6_isRightWith_2 rfl rfl rfl ?_
  refine g_cV2R (p0 := 6) (r1 := mX6_letterIn) dX6_isRightWith_3 lX6_140 vX6_letterIn (by first | rfl | assumption | exact RW.s (by assumption) | exact TW.s (by assumption)) ⟨_, _, rfl⟩ (FITi rfl rfl) (Nat.le_of_ble_eq_true rfl) (letterIn_sp hm hf (by omega) hw) rfl ?_
  refine g_istore (p0 := 8) (i := 4) (ls2 := [_, _, _, _, _, _, _, _, _]) dX6_isRightWith_6 (Nat.le_of_ble_eq_true rfl) rfl rfl ?_
  refine g_aload_n (p0 := 9) (i := 0) dX6_isRightWith_8 rfl rfl rfl ?_
  refine g_getR (p0 := 12) dX6_isRightWith_9 fX6_21 (by first | rfl | assumption | exact RW.s (by assumption) | exact TW.s (by assumption)) rfl rfl ?_
  refine g_getR (p0 := 15) dX6_isRightWith_12 fX6_143 (by first | rfl | assumption | exact RW.s (by assumption) | exact TW.s (by assumption)) rfl rfl ?_
  refine g_iload_n (p0 := 16) (i := 1) dX6_isRightWith_15 rfl rfl rfl ?_
  refine g_cV1R (p0 := 19) (r1 := mX7_at) dX6_isRightWith_16 lX6_68 vX7_at (by first | rfl | assumption | exact RW.s (by assumption) | exact TW.s (by assumption)) ⟨_, _, rfl⟩ (FITi rfl rfl) (Nat.le_of_ble_eq_true rfl) (at_N (by first | exact ⟨rfl, rfl, by decide⟩ | assumption) hm hu) rfl ?_
  refine g_iload (p0 := 21) dX6_isRightWith_19 rfl rfl ?_
  refine g_iconst (p0 := 22) (v := -1) dX6_isRightWith_21 rfl rfl ?_
  first | ((with_reducible refine isN2 ?_); refine g_icmpN_ne (tgt := 29) (p1 := 25) dX6_isRightWith_22 rfl (by omega) (by omega) rfl (fun c_22 => ?_) (fun c_22 => by exfalso; first | omega | contradiction | exact hx c_22 | exact c_22 hx | exact absurd h c_22 | exact h c_22 | exact c_22 h | exact hz c_22 | exact c_22 hz)) | refine g_icmp_ne (tgt := 29) (p1 := 25) dX6_isRightWith_22 rfl rfl (fun c_22 => ?_) (fun c_22 => by exfalso; first | omega | contradiction | exact hx c_22 | exact c_22 hx | exact absurd h c_22 | exact h c_22 | exact c_22 h | exact hz c_22 | exact c_22 hz)
  refine g_iconst (p0 := 30) (v := nI 0) dX6_isRightWith_29 rfl rfl ?_
  first | ((with_reducible refine isN2 ?_); refine g_isubN (p0 := 31) dX6_isRightWith_30 (by omega) rfl ?_) | refine g_isub (p0 := 31) dX6_isRightWith_30 rfl ?_
  refine g_istore (p0 := 33) (i := 5) (ls2 := [_, _, _, _, _, _, _, _, _]) dX6_isRightWith_31 (Nat.le_of_ble_eq_true rfl) rfl rfl ?_
  refine g_aload_n (p0 := 34) (i := 0) dX6_isRightWith_33 rfl rfl rfl ?_
  refine g_iload_n (p0 := 35) (i := 1) dX6_isRightWith_34 rfl rfl rfl ?_
  refine g_cV1R (p0 := 38) (r1 := mX6_lengthOf) dX6_isRightWith_35 lX6_131 vX6_lengthOf (by first | rfl | assumption | exact RW.s (by assumption) | exact TW.s (by assumption)) ⟨_, _, rfl⟩ (FITi rfl rfl) (Nat.le_of_ble_eq_true rfl) (lengthOf_sp hm hl) rfl ?_
  refine g_iconst (p0 := 39) (v := nI 1) dX6_isRightWith_38 rfl rfl ?_
  first | ((with_reducible refine isN2 ?_); refine g_isubN (p0 := 40) dX6_isRightWith_39 (by omega) rfl ?_) | refine g_isub (p0 := 40) dX6_isRightWith_39 rfl ?_
  refine g_istore (p0 := 42) (i := 6) (ls2 := [_, _, _, _, _, _, _, _, _]) dX6_isRightWith_40 (Nat.le_of_ble_eq_true rfl) rfl rfl ?_
  refine g_iload (p0 := 44) dX6_isRightWith_42 rfl rfl ?_
  first | ((with_reducible refine isN1 ?_); refine g_ifN_gt (tgt := 53) (p1 := 47) dX6_isRightWith_44 rfl (by omega) rfl (fun c_44 => ?_) (fun c_44 => by exfalso; first | omega | contradiction | exact hx c_44 | exact c_44 hx | exact absurd h c_44 | exact h c_44 | exact c_44 h | exact hz c_44 | exact c_44 hz)) | refine g_if_gt (tgt := 53) (p1 := 47) dX6_isRightWith_44 rfl rfl (fun c_44 => ?_) (fun c_44 => by exfalso; first | omega | contradiction | exact hx c_44 | exact c_44 hx | exact absurd h c_44 | exact h c_44 | exact c_44 h | exact hz c_44 | exact c_44 hz)
  refine g_iconst (p0 := 54) (v := nI 0) dX6_isRightWith_53 rfl rfl ?_
  refine g_ireturn dX6_isRightWith_54 rfl (by first | rfl | exact bool_narrow (by first | exact Or.inl rfl | exact Or.inr rfl | assumption | (split <;> first | exact Or.inl rfl | exact Or.inr rfl))) (?_)
  exact ⟨rfl, rfl⟩
set_option maxRecDepth 20000 in
set_option maxHeartbeats 2000000 in
theorem cW1_n {m f n u q p : Nat} {x w0 lv sm : Int32} {σ : Sg} (hm : m < 160) (hn1 : n ≤ 160) (hp : p < n) (hu1 : u ≤ 160) (hf : σ 49 m = nI f) (hfn : f + n ≤ 160) (hl : σ 51 m = nI n) (hu : σ 57 m = nI u) (hs : σ 59 m = sm) (hw : σ 42 (f + p) = w0) (hlv : σ 42 (f + (n - 1)) = lv) (hz : ¬ w0 = -1) (hq : u = q) (h0 : q = 0) (h1 : n = 1) : CM mX6_isRightWith [ar 33, ai (nI m), ai (nI p), ai x] σ (Ret (nI 0) σ) := by
  refine CM_in (ls := [some (ar 33), some (ai (nI m)), some (ai (nI p)), some (ai x), none, none, none, none, none]) rfl ?_
  refine g_aload_n (p0 := 1) (i := 0) dX6_isRightWith_0 rfl rfl rfl ?_
  refine g_iload_n (p0 := 2) (i := 1) dX6_isRightWith_1 rfl rfl rfl ?_
  refine g_iload_n (p0 := 3) (i := 2) dX6_isRightWith_2 rfl rfl rfl ?_
  refine g_cV2R (p0 := 6) (r1 := mX6_letterIn) dX6_isRightWith_3 lX6_140 vX6_letterIn (by first | rfl | assumption | exact RW.s (by assumption) | exact TW.s (by assumption)) ⟨_, _, rfl⟩ (FITi rfl rfl) (Nat.le_of_ble_eq_true rfl) (letterIn_sp hm hf (by omega) hw) rfl ?_
  refine g_istore (p0 := 8) (i := 4) (ls2 := [_, _, _, _, _, _, _, _, _]) dX6_isRightWith_6 (Nat.le_of_ble_eq_true rfl) rfl rfl ?_
  refine g_aload_n (p0 := 9) (i := 0) dX6_isRightWith_8 rfl rfl rfl ?_
  refine g_getR (p0 := 12) dX6_isRightWith_9 fX6_21 (by first | rfl | assumption | exact RW.s (by assumption) | exact TW.s (by assumption)) rfl rfl ?_
  refine g_getR (p0 := 15) dX6_isRightWith_12 fX6_143 (by first | rfl | assumption | exact RW.s (by assumption) | exact TW.s (by assumption)) rfl rfl ?_
  refine g_iload_n (p0 := 16) (i := 1) dX6_isRightWith_15 rfl rfl rfl ?_
  refine g_cV1R (p0 := 19) (r1 := mX7_at) dX6_isRightWith_16 lX6_68 vX7_at (by first | rfl | assumption | exact RW.s (by assumption) | exact TW.s (by assumption)) ⟨_, _, rfl⟩ (FITi rfl rfl) (Nat.le_of_ble_eq_true rfl) (at_N (by first | exact ⟨rfl, rfl, by decide⟩ | assumption) hm hu) rfl ?_
  refine g_iload (p0 := 21) dX6_isRightWith_19 rfl rfl ?_
  refine g_iconst (p0 := 22) (v := -1) dX6_isRightWith_21 rfl rfl ?_
  first | ((with_reducible refine isN2 ?_); refine g_icmpN_ne (tgt := 29) (p1 := 25) dX6_isRightWith_22 rfl (by omega) (by omega) rfl (fun c_22 => ?_) (fun c_22 => by exfalso; first | omega | contradiction | exact hx c_22 | exact c_22 hx | exact absurd h c_22 | exact h c_22 | exact c_22 h | exact hz c_22 | exact c_22 hz)) | refine g_icmp_ne (tgt := 29) (p1 := 25) dX6_isRightWith_22 rfl rfl (fun c_22 => ?_) (fun c_22 => by exfalso; first | omega | contradiction | exact hx c_22 | exact c_22 hx | exact absurd h c_22 | exact h c_22 | exact c_22 h | exact hz c_22 | exact c_22 hz)
  refine g_iconst (p0 := 30) (v := nI 0) dX6_isRightWith_29 rfl rfl ?_
  first | ((with_reducible refine isN2 ?_); refine g_isubN (p0 := 31) dX6_isRightWith_30 (by omega) rfl ?_) | refine g_isub (p0 := 31) dX6_isRightWith_30 rfl ?_
  refine g_istore (p0 := 33) (i := 5) (ls2 := [_, _, _, _, _, _, _, _, _]) dX6_isRightWith_31 (Nat.le_of_ble_eq_true rfl) rfl rfl ?_
  refine g_aload_n (p0 := 34) (i := 0) dX6_isRightWith_33 rfl rfl rfl ?_
  refine g_iload_n (p0 := 35) (i := 1) dX6_isRightWith_34 rfl rfl rfl ?_
  refine g_cV1R (p0 := 38) (r1 := mX6_lengthOf) dX6_isRightWith_35 lX6_131 vX6_lengthOf (by first | rfl | assumption | exact RW.s (by assumption) | exact TW.s (by assumption)) ⟨_, _, rfl⟩ (FITi rfl rfl) (Nat.le_of_ble_eq_true rfl) (lengthOf_sp hm hl) rfl ?_
  refine g_iconst (p0 := 39) (v := nI 1) dX6_isRightWith_38 rfl rfl ?_
  first | ((with_reducible refine isN2 ?_); refine g_isubN (p0 := 40) dX6_isRightWith_39 (by omega) rfl ?_) | refine g_isub (p0 := 40) dX6_isRightWith_39 rfl ?_
  refine g_istore (p0 := 42) (i := 6) (ls2 := [_, _, _, _, _, _, _, _, _]) dX6_isRightWith_40 (Nat.le_of_ble_eq_true rfl) rfl rfl ?_
  refine g_iload (p0 := 44) dX6_isRightWith_42 rfl rfl ?_
  first | ((with_reducible refine isN1 ?_); refine g_ifN_gt (tgt := 53) (p1 := 47) dX6_isRightWith_44 rfl (by omega) rfl (fun c_44 => by exfalso; first | omega | contradiction | exact hx c_44 | exact c_44 hx | exact absurd h c_44 | exact h c_44 | exact c_44 h | exact hz c_44 | exact c_44 hz) (fun c_44 => ?_)) | refine g_if_gt (tgt := 53) (p1 := 47) dX6_isRightWith_44 rfl rfl (fun c_44 => by exfalso; first | omega | contradiction | exact hx c_44 | exact c_44 hx | exact absurd h c_44 | exact h c_44 | exact c_44 h | exact hz c_44 | exact c_44 hz) (fun c_44 => ?_)
  refine g_iload (p0 := 49) dX6_isRightWith_47 rfl rfl ?_
  refine g_iconst (p0 := 50) (v := nI 1) dX6_isRightWith_49 rfl rfl ?_
  first | ((with_reducible refine isN2 ?_); refine g_icmpN_ge (tgt := 55) (p1 := 53) dX6_isRightWith_50 rfl (by omega) (by omega) rfl (fun c_50 => by exfalso; first | omega | contradiction | exact hx c_50 | exact c_50 hx | exact absurd h c_50 | exact h c_50 | exact c_50 h | exact hz c_50 | exact c_50 hz) (fun c_50 => ?_)) | refine g_icmp_ge (tgt := 55) (p1 := 53) dX6_isRightWith_50 rfl rfl (fun c_50 => by exfalso; first | omega | contradiction | exact hx c_50 | exact c_50 hx | exact absurd h c_50 | exact h c_50 | exact c_50 h | exact hz c_50 | exact c_50 hz) (fun c_50 => ?_)
  refine g_iconst (p0 := 54) (v := nI 0) dX6_isRightWith_53 rfl rfl ?_
  refine g_ireturn dX6_isRightWith_54 rfl (by first | rfl | exact bool_narrow (by first | exact Or.inl rfl | exact Or.inr rfl | assumption | (split <;> first | exact Or.inl rfl | exact Or.inr rfl))) (?_)
  exact ⟨rfl, rfl⟩
set_option maxRecDepth 20000 in
set_option maxHeartbeats 2000000 in
theorem cW10_0 {m f n u q p : Nat} {x w0 lv sm S : Int32} {σ : Sg} (hm : m < 160) (hn1 : n ≤ 160) (hp : p < n) (hu1 : u ≤ 160) (hf : σ 49 m = nI f) (hfn : f + n ≤ 160) (hl : σ 51 m = nI n) (hu : σ 57 m = nI u) (hs : σ 59 m = sm) (hw : σ 42 (f + p) = w0) (hlv : σ 42 (f + (n - 1)) = lv) (hz : ¬ w0 = -1) (hq : u = q) (hpl : p = n - 1) (h0 : q = 0) (h1 : 2 ≤ n) (hS : sm - w0 + x = S) (h : ¬ S - x - (S - x) / nI 25 * nI 25 = x) : CM mX6_isRightWith [ar 33, ai (nI m), ai (nI p), ai x] σ (Ret (nI 0) σ) := by
  refine CM_in (ls := [some (ar 33), some (ai (nI m)), some (ai (nI p)), some (ai x), none, none, none, none, none]) rfl ?_
  refine g_aload_n (p0 := 1) (i := 0) dX6_isRightWith_0 rfl rfl rfl ?_
  refine g_iload_n (p0 := 2) (i := 1) dX6_isRightWith_1 rfl rfl rfl ?_
  refine g_iload_n (p0 := 3) (i := 2) dX6_isRightWith_2 rfl rfl rfl ?_
  refine g_cV2R (p0 := 6) (r1 := mX6_letterIn) dX6_isRightWith_3 lX6_140 vX6_letterIn (by first | rfl | assumption | exact RW.s (by assumption) | exact TW.s (by assumption)) ⟨_, _, rfl⟩ (FITi rfl rfl) (Nat.le_of_ble_eq_true rfl) (letterIn_sp hm hf (by omega) hw) rfl ?_
  refine g_istore (p0 := 8) (i := 4) (ls2 := [_, _, _, _, _, _, _, _, _]) dX6_isRightWith_6 (Nat.le_of_ble_eq_true rfl) rfl rfl ?_
  refine g_aload_n (p0 := 9) (i := 0) dX6_isRightWith_8 rfl rfl rfl ?_
  refine g_getR (p0 := 12) dX6_isRightWith_9 fX6_21 (by first | rfl | assumption | exact RW.s (by assumption) | exact TW.s (by assumption)) rfl rfl ?_
  refine g_getR (p0 := 15) dX6_isRightWith_12 fX6_143 (by first | rfl | assumption | exact RW.s (by assumption) | exact TW.s (by assumption)) rfl rfl ?_
  refine g_iload_n (p0 := 16) (i := 1) dX6_isRightWith_15 rfl rfl rfl ?_
  refine g_cV1R (p0 := 19) (r1 := mX7_at) dX6_isRightWith_16 lX6_68 vX7_at (by first | rfl | assumption | exact RW.s (by assumption) | exact TW.s (by assumption)) ⟨_, _, rfl⟩ (FITi rfl rfl) (Nat.le_of_ble_eq_true rfl) (at_N (by first | exact ⟨rfl, rfl, by decide⟩ | assumption) hm hu) rfl ?_
  refine g_iload (p0 := 21) dX6_isRightWith_19 rfl rfl ?_
  refine g_iconst (p0 := 22) (v := -1) dX6_isRightWith_21 rfl rfl ?_
  first | ((with_reducible refine isN2 ?_); refine g_icmpN_ne (tgt := 29) (p1 := 25) dX6_isRightWith_22 rfl (by omega) (by omega) rfl (fun c_22 => ?_) (fun c_22 => by exfalso; first | omega | contradiction | exact hx c_22 | exact c_22 hx | exact absurd h c_22 | exact h c_22 | exact c_22 h | exact hz c_22 | exact c_22 hz)) | refine g_icmp_ne (tgt := 29) (p1 := 25) dX6_isRightWith_22 rfl rfl (fun c_22 => ?_) (fun c_22 => by exfalso; first | omega | contradiction | exact hx c_22 | exact c_22 hx | exact absurd h c_22 | exact h c_22 | exact c_22 h | exact hz c_22 | exact c_22 hz)
  refine g_iconst (p0 := 30) (v := nI 0) dX6_isRightWith_29 rfl rfl ?_
  first | ((with_reducible refine isN2 ?_); refine g_isubN (p0 := 31) dX6_isRightWith_30 (by omega) rfl ?_) | refine g_isub (p0 := 31) dX6_isRightWith_30 rfl ?_
  refine g_istore (p0 := 33) (i := 5) (ls2 := [_, _, _, _, _, _, _, _, _]) dX6_isRightWith_31 (Nat.le_of_ble_eq_true rfl) rfl rfl ?_
  refine g_aload_n (p0 := 34) (i := 0) dX6_isRightWith_33 rfl rfl rfl ?_
  refine g_iload_n (p0 := 35) (i := 1) dX6_isRightWith_34 rfl rfl rfl ?_
  refine g_cV1R (p0 := 38) (r1 := mX6_lengthOf) dX6_isRightWith_35 lX6_131 vX6_lengthOf (by first | rfl | assumption | exact RW.s (by assumption) | exact TW.s (by assumption)) ⟨_, _, rfl⟩ (FITi rfl rfl) (Nat.le_of_ble_eq_true rfl) (lengthOf_sp hm hl) rfl ?_
  refine g_iconst (p0 := 39) (v := nI 1) dX6_isRightWith_38 rfl rfl ?_
  first | ((with_reducible refine isN2 ?_); refine g_isubN (p0 := 40) dX6_isRightWith_39 (by omega) rfl ?_) | refine g_isub (p0 := 40) dX6_isRightWith_39 rfl ?_
  refine g_istore (p0 := 42) (i := 6) (ls2 := [_, _, _, _, _, _, _, _, _]) dX6_isRightWith_40 (Nat.le_of_ble_eq_true rfl) rfl rfl ?_
  refine g_iload (p0 := 44) dX6_isRightWith_42 rfl rfl ?_
  first | ((with_reducible refine isN1 ?_); refine g_ifN_gt (tgt := 53) (p1 := 47) dX6_isRightWith_44 rfl (by omega) rfl (fun c_44 => by exfalso; first | omega | contradiction | exact hx c_44 | exact c_44 hx | exact absurd h c_44 | exact h c_44 | exact c_44 h | exact hz c_44 | exact c_44 hz) (fun c_44 => ?_)) | refine g_if_gt (tgt := 53) (p1 := 47) dX6_isRightWith_44 rfl rfl (fun c_44 => by exfalso; first | omega | contradiction | exact hx c_44 | exact c_44 hx | exact absurd h c_44 | exact h c_44 | exact c_44 h | exact hz c_44 | exact c_44 hz) (fun c_44 => ?_)
  refine g_iload (p0 := 49) dX6_isRightWith_47 rfl rfl ?_
  refine g_iconst (p0 := 50) (v := nI 1) dX6_isRightWith_49 rfl rfl ?_
  first | ((with_reducible refine isN2 ?_); refine g_icmpN_ge (tgt := 55) (p1 := 53) dX6_isRightWith_50 rfl (by omega) (by omega) rfl (fun c_50 => ?_) (fun c_50 => by exfalso; first | omega | contradiction | exact hx c_50 | exact c_50 hx | exact absurd h c_50 | exact h c_50 | exact c_50 h | exact hz c_50 | exact c_50 hz)) | refine g_icmp_ge (tgt := 55) (p1 := 53) dX6_isRightWith_50 rfl rfl (fun c_50 => ?_) (fun c_50 => by exfalso; first | omega | contradiction | exact hx c_50 | exact c_50 hx | exact absurd h c_50 | exact h c_50 | exact c_50 h | exact hz c_50 | exact c_50 hz)
  refine g_iload_n (p0 := 56) (i := 2) dX6_isRightWith_55 rfl rfl rfl ?_
  refine g_iload (p0 := 58) dX6_isRightWith_56 rfl rfl ?_
  first | ((with_reducible refine isN2 ?_); refine g_icmpN_ne (tgt := 65) (p1 := 61) dX6_isRightWith_58 rfl (by omega) (by omega) rfl (fun c_58 => by exfalso; first | omega | contradiction | exact hx c_58 | exact c_58 hx | exact absurd h c_58 | exact h c_58 | exact c_58 h | exact hz c_58 | exact c_58 hz) (fun c_58 => ?_)) | refine g_icmp_ne (tgt := 65) (p1 := 61) dX6_isRightWith_58 rfl rfl (fun c_58 => by exfalso; first | omega | contradiction | exact hx c_58 | exact c_58 hx | exact absurd h c_58 | exact h c_58 | exact c_58 h | exact hz c_58 | exact c_58 hz) (fun c_58 => ?_)
  refine g_iload_n (p0 := 62) (i := 3) dX6_isRightWith_61 rfl rfl rfl ?_
  refine g_goto (tgt := 72) dX6_isRightWith_62 rfl ?_
  refine g_istore (p0 := 74) (i := 7) (ls2 := [_, _, _, _, _, _, _, _, _]) dX6_isRightWith_72 (Nat.le_of_ble_eq_true rfl) rfl rfl ?_
  refine g_aload_n (p0 := 75) (i := 0) dX6_isRightWith_74 rfl rfl rfl ?_
  refine g_getR (p0 := 78) dX6_isRightWith_75 fX6_21 (by first | rfl | assumption | exact RW.s (by assumption) | exact TW.s (by assumption)) rfl rfl ?_
  refine g_getR (p0 := 81) dX6_isRightWith_78 fX6_149 (by first | rfl | assumption | exact RW.s (by assumption) | exact TW.s (by assumption)) rfl rfl ?_
  refine g_iload_n (p0 := 82) (i := 1) dX6_isRightWith_81 rfl rfl rfl ?_
  refine g_cV1R (p0 := 85) (r1 := mX7_at) dX6_isRightWith_82 lX6_68 vX7_at (by first | rfl | assumption | exact RW.s (by assumption) | exact TW.s (by assumption)) ⟨_, _, rfl⟩ (FITi rfl rfl) (Nat.le_of_ble_eq_true rfl) (at_N (by first | exact ⟨rfl, rfl, by decide⟩ | assumption) hm hs) rfl ?_
  refine g_iload (p0 := 87) dX6_isRightWith_85 rfl rfl ?_
  refine g_iconst (p0 := 88) (v := -1) dX6_isRightWith_87 rfl rfl ?_
  first | ((with_reducible refine isN2 ?_); refine g_icmpN_ne (tgt := 95) (p1 := 91) dX6_isRightWith_88 rfl (by omega) (by omega) rfl (fun c_88 => ?_) (fun c_88 => by exfalso; first | omega | contradiction | exact hx c_88 | exact c_88 hx | exact absurd h c_88 | exact h c_88 | exact c_88 h | exact hz c_88 | exact c_88 hz)) | refine g_icmp_ne (tgt := 95) (p1 := 91) dX6_isRightWith_88 rfl rfl (fun c_88 => ?_) (fun c_88 => by exfalso; first | omega | contradiction | exact hx c_88 | exact c_88 hx | exact absurd h c_88 | exact h c_88 | exact c_88 h | exact hz c_88 | exact c_88 hz)
  refine g_iload (p0 := 97) dX6_isRightWith_95 rfl rfl ?_
  first | ((with_reducible refine isN2 ?_); refine g_isubN (p0 := 98) dX6_isRightWith_97 (by omega) rfl ?_) | refine g_isub (p0 := 98) dX6_isRightWith_97 rfl ?_
  refine g_iload_n (p0 := 99) (i := 3) dX6_isRightWith_98 rfl rfl rfl ?_
  first | ((with_reducible refine isN2 ?_); refine g_iaddN (p0 := 100) dX6_isRightWith_99 rfl ?_) | refine g_iadd (p0 := 100) dX6_isRightWith_99 rfl ?_
  rw [hS]
  refine g_istore (p0 := 102) (i := 8) (ls2 := [_, _, _, _, _, _, _, _, _]) dX6_isRightWith_100 (Nat.le_of_ble_eq_true rfl) rfl rfl ?_
  refine g_iload (p0 := 104) dX6_isRightWith_102 rfl rfl ?_
  refine g_iload (p0 := 106) dX6_isRightWith_104 rfl rfl ?_
  first | ((with_reducible refine isN2 ?_); refine g_isubN (p0 := 107) dX6_isRightWith_106 (by omega) rfl ?_) | refine g_isub (p0 := 107) dX6_isRightWith_106 rfl ?_
  refine g_bipush (p0 := 109) (v := nI 25) dX6_isRightWith_107 (by decide) rfl ?_
  first | ((with_reducible refine isN2 ?_); refine g_iremN (p0 := 110) dX6_isRightWith_109 (by omega) (by omega) (by omega) rfl ?_) | refine g_irem (p0 := 110) dX6_isRightWith_109 (by decide) rfl ?_
  refine g_iload (p0 := 112) dX6_isRightWith_110 rfl rfl ?_
  first | ((with_reducible refine isN2 ?_); refine g_icmpN_ne (tgt := 119) (p1 := 115) dX6_isRightWith_112 rfl (by omega) (by omega) rfl (fun c_112 => ?_) (fun c_112 => by exfalso; first | omega | contradiction | exact hx c_112 | exact c_112 hx | exact absurd h c_112 | exact h c_112 | exact c_112 h | exact hz c_112 | exact c_112 hz)) | refine g_icmp_ne (tgt := 119) (p1 := 115) dX6_isRightWith_112 rfl rfl (fun c_112 => ?_) (fun c_112 => by exfalso; first | omega | contradiction | exact hx c_112 | exact c_112 hx | exact absurd h c_112 | exact h c_112 | exact c_112 h | exact hz c_112 | exact c_112 hz)
  refine g_iconst (p0 := 120) (v := nI 0) dX6_isRightWith_119 rfl rfl ?_
  refine g_ireturn dX6_isRightWith_120 rfl (by first | rfl | exact bool_narrow (by first | exact Or.inl rfl | exact Or.inr rfl | assumption | (split <;> first | exact Or.inl rfl | exact Or.inr rfl))) (?_)
  exact ⟨rfl, rfl⟩
set_option maxRecDepth 20000 in
set_option maxHeartbeats 2000000 in
theorem cW10_1 {m f n u q p : Nat} {x w0 lv sm S : Int32} {σ : Sg} (hm : m < 160) (hn1 : n ≤ 160) (hp : p < n) (hu1 : u ≤ 160) (hf : σ 49 m = nI f) (hfn : f + n ≤ 160) (hl : σ 51 m = nI n) (hu : σ 57 m = nI u) (hs : σ 59 m = sm) (hw : σ 42 (f + p) = w0) (hlv : σ 42 (f + (n - 1)) = lv) (hz : ¬ w0 = -1) (hq : u = q) (hpl : p = n - 1) (h0 : q = 0) (h1 : 2 ≤ n) (hS : sm - w0 + x = S) (h : S - x - (S - x) / nI 25 * nI 25 = x) : CM mX6_isRightWith [ar 33, ai (nI m), ai (nI p), ai x] σ (Ret (nI 1) σ) := by
  refine CM_in (ls := [some (ar 33), some (ai (nI m)), some (ai (nI p)), some (ai x), none, none, none, none, none]) rfl ?_
  refine g_aload_n (p0 := 1) (i := 0) dX6_isRightWith_0 rfl rfl rfl ?_
  refine g_iload_n (p0 := 2) (i := 1) dX6_isRightWith_1 rfl rfl rfl ?_
  refine g_iload_n (p0 := 3) (i := 2) dX6_isRightWith_2 rfl rfl rfl ?_
  refine g_cV2R (p0 := 6) (r1 := mX6_letterIn) dX6_isRightWith_3 lX6_140 vX6_letterIn (by first | rfl | assumption | exact RW.s (by assumption) | exact TW.s (by assumption)) ⟨_, _, rfl⟩ (FITi rfl rfl) (Nat.le_of_ble_eq_true rfl) (letterIn_sp hm hf (by omega) hw) rfl ?_
  refine g_istore (p0 := 8) (i := 4) (ls2 := [_, _, _, _, _, _, _, _, _]) dX6_isRightWith_6 (Nat.le_of_ble_eq_true rfl) rfl rfl ?_
  refine g_aload_n (p0 := 9) (i := 0) dX6_isRightWith_8 rfl rfl rfl ?_
  refine g_getR (p0 := 12) dX6_isRightWith_9 fX6_21 (by first | rfl | assumption | exact RW.s (by assumption) | exact TW.s (by assumption)) rfl rfl ?_
  refine g_getR (p0 := 15) dX6_isRightWith_12 fX6_143 (by first | rfl | assumption | exact RW.s (by assumption) | exact TW.s (by assumption)) rfl rfl ?_
  refine g_iload_n (p0 := 16) (i := 1) dX6_isRightWith_15 rfl rfl rfl ?_
  refine g_cV1R (p0 := 19) (r1 := mX7_at) dX6_isRightWith_16 lX6_68 vX7_at (by first | rfl | assumption | exact RW.s (by assumption) | exact TW.s (by assumption)) ⟨_, _, rfl⟩ (FITi rfl rfl) (Nat.le_of_ble_eq_true rfl) (at_N (by first | exact ⟨rfl, rfl, by decide⟩ | assumption) hm hu) rfl ?_
  refine g_iload (p0 := 21) dX6_isRightWith_19 rfl rfl ?_
  refine g_iconst (p0 := 22) (v := -1) dX6_isRightWith_21 rfl rfl ?_
  first | ((with_reducible refine isN2 ?_); refine g_icmpN_ne (tgt := 29) (p1 := 25) dX6_isRightWith_22 rfl (by omega) (by omega) rfl (fun c_22 => ?_) (fun c_22 => by exfalso; first | omega | contradiction | exact hx c_22 | exact c_22 hx | exact absurd h c_22 | exact h c_22 | exact c_22 h | exact hz c_22 | exact c_22 hz)) | refine g_icmp_ne (tgt := 29) (p1 := 25) dX6_isRightWith_22 rfl rfl (fun c_22 => ?_) (fun c_22 => by exfalso; first | omega | contradiction | exact hx c_22 | exact c_22 hx | exact absurd h c_22 | exact h c_22 | exact c_22 h | exact hz c_22 | exact c_22 hz)
  refine g_iconst (p0 := 30) (v := nI 0) dX6_isRightWith_29 rfl rfl ?_
  first | ((with_reducible refine isN2 ?_); refine g_isubN (p0 := 31) dX6_isRightWith_30 (by omega) rfl ?_) | refine g_isub (p0 := 31) dX6_isRightWith_30 rfl ?_
  refine g_istore (p0 := 33) (i := 5) (ls2 := [_, _, _, _, _, _, _, _, _]) dX6_isRightWith_31 (Nat.le_of_ble_eq_true rfl) rfl rfl ?_
  refine g_aload_n (p0 := 34) (i := 0) dX6_isRightWith_33 rfl rfl rfl ?_
  refine g_iload_n (p0 := 35) (i := 1) dX6_isRightWith_34 rfl rfl rfl ?_
  refine g_cV1R (p0 := 38) (r1 := mX6_lengthOf) dX6_isRightWith_35 lX6_131 vX6_lengthOf (by first | rfl | assumption | exact RW.s (by assumption) | exact TW.s (by assumption)) ⟨_, _, rfl⟩ (FITi rfl rfl) (Nat.le_of_ble_eq_true rfl) (lengthOf_sp hm hl) rfl ?_
  refine g_iconst (p0 := 39) (v := nI 1) dX6_isRightWith_38 rfl rfl ?_
  first | ((with_reducible refine isN2 ?_); refine g_isubN (p0 := 40) dX6_isRightWith_39 (by omega) rfl ?_) | refine g_isub (p0 := 40) dX6_isRightWith_39 rfl ?_
  refine g_istore (p0 := 42) (i := 6) (ls2 := [_, _, _, _, _, _, _, _, _]) dX6_isRightWith_40 (Nat.le_of_ble_eq_true rfl) rfl rfl ?_
  refine g_iload (p0 := 44) dX6_isRightWith_42 rfl rfl ?_
  first | ((with_reducible refine isN1 ?_); refine g_ifN_gt (tgt := 53) (p1 := 47) dX6_isRightWith_44 rfl (by omega) rfl (fun c_44 => by exfalso; first | omega | contradiction | exact hx c_44 | exact c_44 hx | exact absurd h c_44 | exact h c_44 | exact c_44 h | exact hz c_44 | exact c_44 hz) (fun c_44 => ?_)) | refine g_if_gt (tgt := 53) (p1 := 47) dX6_isRightWith_44 rfl rfl (fun c_44 => by exfalso; first | omega | contradiction | exact hx c_44 | exact c_44 hx | exact absurd h c_44 | exact h c_44 | exact c_44 h | exact hz c_44 | exact c_44 hz) (fun c_44 => ?_)
  refine g_iload (p0 := 49) dX6_isRightWith_47 rfl rfl ?_
  refine g_iconst (p0 := 50) (v := nI 1) dX6_isRightWith_49 rfl rfl ?_
  first | ((with_reducible refine isN2 ?_); refine g_icmpN_ge (tgt := 55) (p1 := 53) dX6_isRightWith_50 rfl (by omega) (by omega) rfl (fun c_50 => ?_) (fun c_50 => by exfalso; first | omega | contradiction | exact hx c_50 | exact c_50 hx | exact absurd h c_50 | exact h c_50 | exact c_50 h | exact hz c_50 | exact c_50 hz)) | refine g_icmp_ge (tgt := 55) (p1 := 53) dX6_isRightWith_50 rfl rfl (fun c_50 => ?_) (fun c_50 => by exfalso; first | omega | contradiction | exact hx c_50 | exact c_50 hx | exact absurd h c_50 | exact h c_50 | exact c_50 h | exact hz c_50 | exact c_50 hz)
  refine g_iload_n (p0 := 56) (i := 2) dX6_isRightWith_55 rfl rfl rfl ?_
  refine g_iload (p0 := 58) dX6_isRightWith_56 rfl rfl ?_
  first | ((with_reducible refine isN2 ?_); refine g_icmpN_ne (tgt := 65) (p1 := 61) dX6_isRightWith_58 rfl (by omega) (by omega) rfl (fun c_58 => by exfalso; first | omega | contradiction | exact hx c_58 | exact c_58 hx | exact absurd h c_58 | exact h c_58 | exact c_58 h | exact hz c_58 | exact c_58 hz) (fun c_58 => ?_)) | refine g_icmp_ne (tgt := 65) (p1 := 61) dX6_isRightWith_58 rfl rfl (fun c_58 => by exfalso; first | omega | contradiction | exact hx c_58 | exact c_58 hx | exact absurd h c_58 | exact h c_58 | exact c_58 h | exact hz c_58 | exact c_58 hz) (fun c_58 => ?_)
  refine g_iload_n (p0 := 62) (i := 3) dX6_isRightWith_61 rfl rfl rfl ?_
  refine g_goto (tgt := 72) dX6_isRightWith_62 rfl ?_
  refine g_istore (p0 := 74) (i := 7) (ls2 := [_, _, _, _, _, _, _, _, _]) dX6_isRightWith_72 (Nat.le_of_ble_eq_true rfl) rfl rfl ?_
  refine g_aload_n (p0 := 75) (i := 0) dX6_isRightWith_74 rfl rfl rfl ?_
  refine g_getR (p0 := 78) dX6_isRightWith_75 fX6_21 (by first | rfl | assumption | exact RW.s (by assumption) | exact TW.s (by assumption)) rfl rfl ?_
  refine g_getR (p0 := 81) dX6_isRightWith_78 fX6_149 (by first | rfl | assumption | exact RW.s (by assumption) | exact TW.s (by assumption)) rfl rfl ?_
  refine g_iload_n (p0 := 82) (i := 1) dX6_isRightWith_81 rfl rfl rfl ?_
  refine g_cV1R (p0 := 85) (r1 := mX7_at) dX6_isRightWith_82 lX6_68 vX7_at (by first | rfl | assumption | exact RW.s (by assumption) | exact TW.s (by assumption)) ⟨_, _, rfl⟩ (FITi rfl rfl) (Nat.le_of_ble_eq_true rfl) (at_N (by first | exact ⟨rfl, rfl, by decide⟩ | assumption) hm hs) rfl ?_
  refine g_iload (p0 := 87) dX6_isRightWith_85 rfl rfl ?_
  refine g_iconst (p0 := 88) (v := -1) dX6_isRightWith_87 rfl rfl ?_
  first | ((with_reducible refine isN2 ?_); refine g_icmpN_ne (tgt := 95) (p1 := 91) dX6_isRightWith_88 rfl (by omega) (by omega) rfl (fun c_88 => ?_) (fun c_88 => by exfalso; first | omega | contradiction | exact hx c_88 | exact c_88 hx | exact absurd h c_88 | exact h c_88 | exact c_88 h | exact hz c_88 | exact c_88 hz)) | refine g_icmp_ne (tgt := 95) (p1 := 91) dX6_isRightWith_88 rfl rfl (fun c_88 => ?_) (fun c_88 => by exfalso; first | omega | contradiction | exact hx c_88 | exact c_88 hx | exact absurd h c_88 | exact h c_88 | exact c_88 h | exact hz c_88 | exact c_88 hz)
  refine g_iload (p0 := 97) dX6_isRightWith_95 rfl rfl ?_
  first | ((with_reducible refine isN2 ?_); refine g_isubN (p0 := 98) dX6_isRightWith_97 (by omega) rfl ?_) | refine g_isub (p0 := 98) dX6_isRightWith_97 rfl ?_
  refine g_iload_n (p0 := 99) (i := 3) dX6_isRightWith_98 rfl rfl rfl ?_
  first | ((with_reducible refine isN2 ?_); refine g_iaddN (p0 := 100) dX6_isRightWith_99 rfl ?_) | refine g_iadd (p0 := 100) dX6_isRightWith_99 rfl ?_
  rw [hS]
  refine g_istore (p0 := 102) (i := 8) (ls2 := [_, _, _, _, _, _, _, _, _]) dX6_isRightWith_100 (Nat.le_of_ble_eq_true rfl) rfl rfl ?_
  refine g_iload (p0 := 104) dX6_isRightWith_102 rfl rfl ?_
  refine g_iload (p0 := 106) dX6_isRightWith_104 rfl rfl ?_
  first | ((with_reducible refine isN2 ?_); refine g_isubN (p0 := 107) dX6_isRightWith_106 (by omega) rfl ?_) | refine g_isub (p0 := 107) dX6_isRightWith_106 rfl ?_
  refine g_bipush (p0 := 109) (v := nI 25) dX6_isRightWith_107 (by decide) rfl ?_
  first | ((with_reducible refine isN2 ?_); refine g_iremN (p0 := 110) dX6_isRightWith_109 (by omega) (by omega) (by omega) rfl ?_) | refine g_irem (p0 := 110) dX6_isRightWith_109 (by decide) rfl ?_
  refine g_iload (p0 := 112) dX6_isRightWith_110 rfl rfl ?_
  first | ((with_reducible refine isN2 ?_); refine g_icmpN_ne (tgt := 119) (p1 := 115) dX6_isRightWith_112 rfl (by omega) (by omega) rfl (fun c_112 => by exfalso; first | omega | contradiction | exact hx c_112 | exact c_112 hx | exact absurd h c_112 | exact h c_112 | exact c_112 h | exact hz c_112 | exact c_112 hz) (fun c_112 => ?_)) | refine g_icmp_ne (tgt := 119) (p1 := 115) dX6_isRightWith_112 rfl rfl (fun c_112 => by exfalso; first | omega | contradiction | exact hx c_112 | exact c_112 hx | exact absurd h c_112 | exact h c_112 | exact c_112 h | exact hz c_112 | exact c_112 hz) (fun c_112 => ?_)
  refine g_iconst (p0 := 116) (v := nI 1) dX6_isRightWith_115 rfl rfl ?_
  refine g_goto (tgt := 120) dX6_isRightWith_116 rfl ?_
  refine g_ireturn dX6_isRightWith_120 rfl (by first | rfl | exact bool_narrow (by first | exact Or.inl rfl | exact Or.inr rfl | assumption | (split <;> first | exact Or.inl rfl | exact Or.inr rfl))) (?_)
  exact ⟨rfl, rfl⟩
set_option maxRecDepth 20000 in
set_option maxHeartbeats 2000000 in
theorem cW11_0 {m f n u q p : Nat} {x w0 lv sm S : Int32} {σ : Sg} (hm : m < 160) (hn1 : n ≤ 160) (hp : p < n) (hu1 : u ≤ 160) (hf : σ 49 m = nI f) (hfn : f + n ≤ 160) (hl : σ 51 m = nI n) (hu : σ 57 m = nI u) (hs : σ 59 m = sm) (hw : σ 42 (f + p) = w0) (hlv : σ 42 (f + (n - 1)) = lv) (hz : ¬ w0 = -1) (hq : u = q) (hpl : ¬ p = n - 1) (h0 : q = 0) (h1 : 2 ≤ n) (hS : sm - w0 + x = S) (h : ¬ S - lv - (S - lv) / nI 25 * nI 25 = lv) : CM mX6_isRightWith [ar 33, ai (nI m), ai (nI p), ai x] σ (Ret (nI 0) σ) := by
  refine CM_in (ls := [some (ar 33), some (ai (nI m)), some (ai (nI p)), some (ai x), none, none, none, none, none]) rfl ?_
  refine g_aload_n (p0 := 1) (i := 0) dX6_isRightWith_0 rfl rfl rfl ?_
  refine g_iload_n (p0 := 2) (i := 1) dX6_isRightWith_1 rfl rfl rfl ?_
  refine g_iload_n (p0 := 3) (i := 2) dX6_isRightWith_2 rfl rfl rfl ?_
  refine g_cV2R (p0 := 6) (r1 := mX6_letterIn) dX6_isRightWith_3 lX6_140 vX6_letterIn (by first | rfl | assumption | exact RW.s (by assumption) | exact TW.s (by assumption)) ⟨_, _, rfl⟩ (FITi rfl rfl) (Nat.le_of_ble_eq_true rfl) (letterIn_sp hm hf (by omega) hw) rfl ?_
  refine g_istore (p0 := 8) (i := 4) (ls2 := [_, _, _, _, _, _, _, _, _]) dX6_isRightWith_6 (Nat.le_of_ble_eq_true rfl) rfl rfl ?_
  refine g_aload_n (p0 := 9) (i := 0) dX6_isRightWith_8 rfl rfl rfl ?_
  refine g_getR (p0 := 12) dX6_isRightWith_9 fX6_21 (by first | rfl | assumption | exact RW.s (by assumption) | exact TW.s (by assumption)) rfl rfl ?_
  refine g_getR (p0 := 15) dX6_isRightWith_12 fX6_143 (by first | rfl | assumption | exact RW.s (by assumption) | exact TW.s (by assumption)) rfl rfl ?_
  refine g_iload_n (p0 := 16) (i := 1) dX6_isRightWith_15 rfl rfl rfl ?_
  refine g_cV1R (p0 := 19) (r1 := mX7_at) dX6_isRightWith_16 lX6_68 vX7_at (by first | rfl | assumption | exact RW.s (by assumption) | exact TW.s (by assumption)) ⟨_, _, rfl⟩ (FITi rfl rfl) (Nat.le_of_ble_eq_true rfl) (at_N (by first | exact ⟨rfl, rfl, by decide⟩ | assumption) hm hu) rfl ?_
  refine g_iload (p0 := 21) dX6_isRightWith_19 rfl rfl ?_
  refine g_iconst (p0 := 22) (v := -1) dX6_isRightWith_21 rfl rfl ?_
  first | ((with_reducible refine isN2 ?_); refine g_icmpN_ne (tgt := 29) (p1 := 25) dX6_isRightWith_22 rfl (by omega) (by omega) rfl (fun c_22 => ?_) (fun c_22 => by exfalso; first | omega | contradiction | exact hx c_22 | exact c_22 hx | exact absurd h c_22 | exact h c_22 | exact c_22 h | exact hz c_22 | exact c_22 hz)) | refine g_icmp_ne (tgt := 29) (p1 := 25) dX6_isRightWith_22 rfl rfl (fun c_22 => ?_) (fun c_22 => by exfalso; first | omega | contradiction | exact hx c_22 | exact c_22 hx | exact absurd h c_22 | exact h c_22 | exact c_22 h | exact hz c_22 | exact c_22 hz)
  refine g_iconst (p0 := 30) (v := nI 0) dX6_isRightWith_29 rfl rfl ?_
  first | ((with_reducible refine isN2 ?_); refine g_isubN (p0 := 31) dX6_isRightWith_30 (by omega) rfl ?_) | refine g_isub (p0 := 31) dX6_isRightWith_30 rfl ?_
  refine g_istore (p0 := 33) (i := 5) (ls2 := [_, _, _, _, _, _, _, _, _]) dX6_isRightWith_31 (Nat.le_of_ble_eq_true rfl) rfl rfl ?_
  refine g_aload_n (p0 := 34) (i := 0) dX6_isRightWith_33 rfl rfl rfl ?_
  refine g_iload_n (p0 := 35) (i := 1) dX6_isRightWith_34 rfl rfl rfl ?_
  refine g_cV1R (p0 := 38) (r1 := mX6_lengthOf) dX6_isRightWith_35 lX6_131 vX6_lengthOf (by first | rfl | assumption | exact RW.s (by assumption) | exact TW.s (by assumption)) ⟨_, _, rfl⟩ (FITi rfl rfl) (Nat.le_of_ble_eq_true rfl) (lengthOf_sp hm hl) rfl ?_
  refine g_iconst (p0 := 39) (v := nI 1) dX6_isRightWith_38 rfl rfl ?_
  first | ((with_reducible refine isN2 ?_); refine g_isubN (p0 := 40) dX6_isRightWith_39 (by omega) rfl ?_) | refine g_isub (p0 := 40) dX6_isRightWith_39 rfl ?_
  refine g_istore (p0 := 42) (i := 6) (ls2 := [_, _, _, _, _, _, _, _, _]) dX6_isRightWith_40 (Nat.le_of_ble_eq_true rfl) rfl rfl ?_
  refine g_iload (p0 := 44) dX6_isRightWith_42 rfl rfl ?_
  first | ((with_reducible refine isN1 ?_); refine g_ifN_gt (tgt := 53) (p1 := 47) dX6_isRightWith_44 rfl (by omega) rfl (fun c_44 => by exfalso; first | omega | contradiction | exact hx c_44 | exact c_44 hx | exact absurd h c_44 | exact h c_44 | exact c_44 h | exact hz c_44 | exact c_44 hz) (fun c_44 => ?_)) | refine g_if_gt (tgt := 53) (p1 := 47) dX6_isRightWith_44 rfl rfl (fun c_44 => by exfalso; first | omega | contradiction | exact hx c_44 | exact c_44 hx | exact absurd h c_44 | exact h c_44 | exact c_44 h | exact hz c_44 | exact c_44 hz) (fun c_44 => ?_)
  refine g_iload (p0 := 49) dX6_isRightWith_47 rfl rfl ?_
  refine g_iconst (p0 := 50) (v := nI 1) dX6_isRightWith_49 rfl rfl ?_
  first | ((with_reducible refine isN2 ?_); refine g_icmpN_ge (tgt := 55) (p1 := 53) dX6_isRightWith_50 rfl (by omega) (by omega) rfl (fun c_50 => ?_) (fun c_50 => by exfalso; first | omega | contradiction | exact hx c_50 | exact c_50 hx | exact absurd h c_50 | exact h c_50 | exact c_50 h | exact hz c_50 | exact c_50 hz)) | refine g_icmp_ge (tgt := 55) (p1 := 53) dX6_isRightWith_50 rfl rfl (fun c_50 => ?_) (fun c_50 => by exfalso; first | omega | contradiction | exact hx c_50 | exact c_50 hx | exact absurd h c_50 | exact h c_50 | exact c_50 h | exact hz c_50 | exact c_50 hz)
  refine g_iload_n (p0 := 56) (i := 2) dX6_isRightWith_55 rfl rfl rfl ?_
  refine g_iload (p0 := 58) dX6_isRightWith_56 rfl rfl ?_
  first | ((with_reducible refine isN2 ?_); refine g_icmpN_ne (tgt := 65) (p1 := 61) dX6_isRightWith_58 rfl (by omega) (by omega) rfl (fun c_58 => ?_) (fun c_58 => by exfalso; first | omega | contradiction | exact hx c_58 | exact c_58 hx | exact absurd h c_58 | exact h c_58 | exact c_58 h | exact hz c_58 | exact c_58 hz)) | refine g_icmp_ne (tgt := 65) (p1 := 61) dX6_isRightWith_58 rfl rfl (fun c_58 => ?_) (fun c_58 => by exfalso; first | omega | contradiction | exact hx c_58 | exact c_58 hx | exact absurd h c_58 | exact h c_58 | exact c_58 h | exact hz c_58 | exact c_58 hz)
  refine g_aload_n (p0 := 66) (i := 0) dX6_isRightWith_65 rfl rfl rfl ?_
  refine g_iload_n (p0 := 67) (i := 1) dX6_isRightWith_66 rfl rfl rfl ?_
  refine g_iload (p0 := 69) dX6_isRightWith_67 rfl rfl ?_
  refine g_cV2R (p0 := 72) (r1 := mX6_letterIn) dX6_isRightWith_69 lX6_140 vX6_letterIn (by first | rfl | assumption | exact RW.s (by assumption) | exact TW.s (by assumption)) ⟨_, _, rfl⟩ (FITi rfl rfl) (Nat.le_of_ble_eq_true rfl) (letterIn_sp hm hf (by omega) hlv) rfl ?_
  refine g_istore (p0 := 74) (i := 7) (ls2 := [_, _, _, _, _, _, _, _, _]) dX6_isRightWith_72 (Nat.le_of_ble_eq_true rfl) rfl rfl ?_
  refine g_aload_n (p0 := 75) (i := 0) dX6_isRightWith_74 rfl rfl rfl ?_
  refine g_getR (p0 := 78) dX6_isRightWith_75 fX6_21 (by first | rfl | assumption | exact RW.s (by assumption) | exact TW.s (by assumption)) rfl rfl ?_
  refine g_getR (p0 := 81) dX6_isRightWith_78 fX6_149 (by first | rfl | assumption | exact RW.s (by assumption) | exact TW.s (by assumption)) rfl rfl ?_
  refine g_iload_n (p0 := 82) (i := 1) dX6_isRightWith_81 rfl rfl rfl ?_
  refine g_cV1R (p0 := 85) (r1 := mX7_at) dX6_isRightWith_82 lX6_68 vX7_at (by first | rfl | assumption | exact RW.s (by assumption) | exact TW.s (by assumption)) ⟨_, _, rfl⟩ (FITi rfl rfl) (Nat.le_of_ble_eq_true rfl) (at_N (by first | exact ⟨rfl, rfl, by decide⟩ | assumption) hm hs) rfl ?_
  refine g_iload (p0 := 87) dX6_isRightWith_85 rfl rfl ?_
  refine g_iconst (p0 := 88) (v := -1) dX6_isRightWith_87 rfl rfl ?_
  first | ((with_reducible refine isN2 ?_); refine g_icmpN_ne (tgt := 95) (p1 := 91) dX6_isRightWith_88 rfl (by omega) (by omega) rfl (fun c_88 => ?_) (fun c_88 => by exfalso; first | omega | contradiction | exact hx c_88 | exact c_88 hx | exact absurd h c_88 | exact h c_88 | exact c_88 h | exact hz c_88 | exact c_88 hz)) | refine g_icmp_ne (tgt := 95) (p1 := 91) dX6_isRightWith_88 rfl rfl (fun c_88 => ?_) (fun c_88 => by exfalso; first | omega | contradiction | exact hx c_88 | exact c_88 hx | exact absurd h c_88 | exact h c_88 | exact c_88 h | exact hz c_88 | exact c_88 hz)
  refine g_iload (p0 := 97) dX6_isRightWith_95 rfl rfl ?_
  first | ((with_reducible refine isN2 ?_); refine g_isubN (p0 := 98) dX6_isRightWith_97 (by omega) rfl ?_) | refine g_isub (p0 := 98) dX6_isRightWith_97 rfl ?_
  refine g_iload_n (p0 := 99) (i := 3) dX6_isRightWith_98 rfl rfl rfl ?_
  first | ((with_reducible refine isN2 ?_); refine g_iaddN (p0 := 100) dX6_isRightWith_99 rfl ?_) | refine g_iadd (p0 := 100) dX6_isRightWith_99 rfl ?_
  rw [hS]
  refine g_istore (p0 := 102) (i := 8) (ls2 := [_, _, _, _, _, _, _, _, _]) dX6_isRightWith_100 (Nat.le_of_ble_eq_true rfl) rfl rfl ?_
  refine g_iload (p0 := 104) dX6_isRightWith_102 rfl rfl ?_
  refine g_iload (p0 := 106) dX6_isRightWith_104 rfl rfl ?_
  first | ((with_reducible refine isN2 ?_); refine g_isubN (p0 := 107) dX6_isRightWith_106 (by omega) rfl ?_) | refine g_isub (p0 := 107) dX6_isRightWith_106 rfl ?_
  refine g_bipush (p0 := 109) (v := nI 25) dX6_isRightWith_107 (by decide) rfl ?_
  first | ((with_reducible refine isN2 ?_); refine g_iremN (p0 := 110) dX6_isRightWith_109 (by omega) (by omega) (by omega) rfl ?_) | refine g_irem (p0 := 110) dX6_isRightWith_109 (by decide) rfl ?_
  refine g_iload (p0 := 112) dX6_isRightWith_110 rfl rfl ?_
  first | ((with_reducible refine isN2 ?_); refine g_icmpN_ne (tgt := 119) (p1 := 115) dX6_isRightWith_112 rfl (by omega) (by omega) rfl (fun c_112 => ?_) (fun c_112 => by exfalso; first | omega | contradiction | exact hx c_112 | exact c_112 hx | exact absurd h c_112 | exact h c_112 | exact c_112 h | exact hz c_112 | exact c_112 hz)) | refine g_icmp_ne (tgt := 119) (p1 := 115) dX6_isRightWith_112 rfl rfl (fun c_112 => ?_) (fun c_112 => by exfalso; first | omega | contradiction | exact hx c_112 | exact c_112 hx | exact absurd h c_112 | exact h c_112 | exact c_112 h | exact hz c_112 | exact c_112 hz)
  refine g_iconst (p0 := 120) (v := nI 0) dX6_isRightWith_119 rfl rfl ?_
  refine g_ireturn dX6_isRightWith_120 rfl (by first | rfl | exact bool_narrow (by first | exact Or.inl rfl | exact Or.inr rfl | assumption | (split <;> first | exact Or.inl rfl | exact Or.inr rfl))) (?_)
  exact ⟨rfl, rfl⟩
set_option maxRecDepth 20000 in
set_option maxHeartbeats 2000000 in
theorem cW11_1 {m f n u q p : Nat} {x w0 lv sm S : Int32} {σ : Sg} (hm : m < 160) (hn1 : n ≤ 160) (hp : p < n) (hu1 : u ≤ 160) (hf : σ 49 m = nI f) (hfn : f + n ≤ 160) (hl : σ 51 m = nI n) (hu : σ 57 m = nI u) (hs : σ 59 m = sm) (hw : σ 42 (f + p) = w0) (hlv : σ 42 (f + (n - 1)) = lv) (hz : ¬ w0 = -1) (hq : u = q) (hpl : ¬ p = n - 1) (h0 : q = 0) (h1 : 2 ≤ n) (hS : sm - w0 + x = S) (h : S - lv - (S - lv) / nI 25 * nI 25 = lv) : CM mX6_isRightWith [ar 33, ai (nI m), ai (nI p), ai x] σ (Ret (nI 1) σ) := by
  refine CM_in (ls := [some (ar 33), some (ai (nI m)), some (ai (nI p)), some (ai x), none, none, none, none, none]) rfl ?_
  refine g_aload_n (p0 := 1) (i := 0) dX6_isRightWith_0 rfl rfl rfl ?_
  refine g_iload_n (p0 := 2) (i := 1) dX6_isRightWith_1 rfl rfl rfl ?_
  refine g_iload_n (p0 := 3) (i := 2) dX6_isRightWith_2 rfl rfl rfl ?_
  refine g_cV2R (p0 := 6) (r1 := mX6_letterIn) dX6_isRightWith_3 lX6_140 vX6_letterIn (by first | rfl | assumption | exact RW.s (by assumption) | exact TW.s (by assumption)) ⟨_, _, rfl⟩ (FITi rfl rfl) (Nat.le_of_ble_eq_true rfl) (letterIn_sp hm hf (by omega) hw) rfl ?_
  refine g_istore (p0 := 8) (i := 4) (ls2 := [_, _, _, _, _, _, _, _, _]) dX6_isRightWith_6 (Nat.le_of_ble_eq_true rfl) rfl rfl ?_
  refine g_aload_n (p0 := 9) (i := 0) dX6_isRightWith_8 rfl rfl rfl ?_
  refine g_getR (p0 := 12) dX6_isRightWith_9 fX6_21 (by first | rfl | assumption | exact RW.s (by assumption) | exact TW.s (by assumption)) rfl rfl ?_
  refine g_getR (p0 := 15) dX6_isRightWith_12 fX6_143 (by first | rfl | assumption | exact RW.s (by assumption) | exact TW.s (by assumption)) rfl rfl ?_
  refine g_iload_n (p0 := 16) (i := 1) dX6_isRightWith_15 rfl rfl rfl ?_
  refine g_cV1R (p0 := 19) (r1 := mX7_at) dX6_isRightWith_16 lX6_68 vX7_at (by first | rfl | assumption | exact RW.s (by assumption) | exact TW.s (by assumption)) ⟨_, _, rfl⟩ (FITi rfl rfl) (Nat.le_of_ble_eq_true rfl) (at_N (by first | exact ⟨rfl, rfl, by decide⟩ | assumption) hm hu) rfl ?_
  refine g_iload (p0 := 21) dX6_isRightWith_19 rfl rfl ?_
  refine g_iconst (p0 := 22) (v := -1) dX6_isRightWith_21 rfl rfl ?_
  first | ((with_reducible refine isN2 ?_); refine g_icmpN_ne (tgt := 29) (p1 := 25) dX6_isRightWith_22 rfl (by omega) (by omega) rfl (fun c_22 => ?_) (fun c_22 => by exfalso; first | omega | contradiction | exact hx c_22 | exact c_22 hx | exact absurd h c_22 | exact h c_22 | exact c_22 h | exact hz c_22 | exact c_22 hz)) | refine g_icmp_ne (tgt := 29) (p1 := 25) dX6_isRightWith_22 rfl rfl (fun c_22 => ?_) (fun c_22 => by exfalso; first | omega | contradiction | exact hx c_22 | exact c_22 hx | exact absurd h c_22 | exact h c_22 | exact c_22 h | exact hz c_22 | exact c_22 hz)
  refine g_iconst (p0 := 30) (v := nI 0) dX6_isRightWith_29 rfl rfl ?_
  first | ((with_reducible refine isN2 ?_); refine g_isubN (p0 := 31) dX6_isRightWith_30 (by omega) rfl ?_) | refine g_isub (p0 := 31) dX6_isRightWith_30 rfl ?_
  refine g_istore (p0 := 33) (i := 5) (ls2 := [_, _, _, _, _, _, _, _, _]) dX6_isRightWith_31 (Nat.le_of_ble_eq_true rfl) rfl rfl ?_
  refine g_aload_n (p0 := 34) (i := 0) dX6_isRightWith_33 rfl rfl rfl ?_
  refine g_iload_n (p0 := 35) (i := 1) dX6_isRightWith_34 rfl rfl rfl ?_
  refine g_cV1R (p0 := 38) (r1 := mX6_lengthOf) dX6_isRightWith_35 lX6_131 vX6_lengthOf (by first | rfl | assumption | exact RW.s (by assumption) | exact TW.s (by assumption)) ⟨_, _, rfl⟩ (FITi rfl rfl) (Nat.le_of_ble_eq_true rfl) (lengthOf_sp hm hl) rfl ?_
  refine g_iconst (p0 := 39) (v := nI 1) dX6_isRightWith_38 rfl rfl ?_
  first | ((with_reducible refine isN2 ?_); refine g_isubN (p0 := 40) dX6_isRightWith_39 (by omega) rfl ?_) | refine g_isub (p0 := 40) dX6_isRightWith_39 rfl ?_
  refine g_istore (p0 := 42) (i := 6) (ls2 := [_, _, _, _, _, _, _, _, _]) dX6_isRightWith_40 (Nat.le_of_ble_eq_true rfl) rfl rfl ?_
  refine g_iload (p0 := 44) dX6_isRightWith_42 rfl rfl ?_
  first | ((with_reducible refine isN1 ?_); refine g_ifN_gt (tgt := 53) (p1 := 47) dX6_isRightWith_44 rfl (by omega) rfl (fun c_44 => by exfalso; first | omega | contradiction | exact hx c_44 | exact c_44 hx | exact absurd h c_44 | exact h c_44 | exact c_44 h | exact hz c_44 | exact c_44 hz) (fun c_44 => ?_)) | refine g_if_gt (tgt := 53) (p1 := 47) dX6_isRightWith_44 rfl rfl (fun c_44 => by exfalso; first | omega | contradiction | exact hx c_44 | exact c_44 hx | exact absurd h c_44 | exact h c_44 | exact c_44 h | exact hz c_44 | exact c_44 hz) (fun c_44 => ?_)
  refine g_iload (p0 := 49) dX6_isRightWith_47 rfl rfl ?_
  refine g_iconst (p0 := 50) (v := nI 1) dX6_isRightWith_49 rfl rfl ?_
  first | ((with_reducible refine isN2 ?_); refine g_icmpN_ge (tgt := 55) (p1 := 53) dX6_isRightWith_50 rfl (by omega) (by omega) rfl (fun c_50 => ?_) (fun c_50 => by exfalso; first | omega | contradiction | exact hx c_50 | exact c_50 hx | exact absurd h c_50 | exact h c_50 | exact c_50 h | exact hz c_50 | exact c_50 hz)) | refine g_icmp_ge (tgt := 55) (p1 := 53) dX6_isRightWith_50 rfl rfl (fun c_50 => ?_) (fun c_50 => by exfalso; first | omega | contradiction | exact hx c_50 | exact c_50 hx | exact absurd h c_50 | exact h c_50 | exact c_50 h | exact hz c_50 | exact c_50 hz)
  refine g_iload_n (p0 := 56) (i := 2) dX6_isRightWith_55 rfl rfl rfl ?_
  refine g_iload (p0 := 58) dX6_isRightWith_56 rfl rfl ?_
  first | ((with_reducible refine isN2 ?_); refine g_icmpN_ne (tgt := 65) (p1 := 61) dX6_isRightWith_58 rfl (by omega) (by omega) rfl (fun c_58 => ?_) (fun c_58 => by exfalso; first | omega | contradiction | exact hx c_58 | exact c_58 hx | exact absurd h c_58 | exact h c_58 | exact c_58 h | exact hz c_58 | exact c_58 hz)) | refine g_icmp_ne (tgt := 65) (p1 := 61) dX6_isRightWith_58 rfl rfl (fun c_58 => ?_) (fun c_58 => by exfalso; first | omega | contradiction | exact hx c_58 | exact c_58 hx | exact absurd h c_58 | exact h c_58 | exact c_58 h | exact hz c_58 | exact c_58 hz)
  refine g_aload_n (p0 := 66) (i := 0) dX6_isRightWith_65 rfl rfl rfl ?_
  refine g_iload_n (p0 := 67) (i := 1) dX6_isRightWith_66 rfl rfl rfl ?_
  refine g_iload (p0 := 69) dX6_isRightWith_67 rfl rfl ?_
  refine g_cV2R (p0 := 72) (r1 := mX6_letterIn) dX6_isRightWith_69 lX6_140 vX6_letterIn (by first | rfl | assumption | exact RW.s (by assumption) | exact TW.s (by assumption)) ⟨_, _, rfl⟩ (FITi rfl rfl) (Nat.le_of_ble_eq_true rfl) (letterIn_sp hm hf (by omega) hlv) rfl ?_
  refine g_istore (p0 := 74) (i := 7) (ls2 := [_, _, _, _, _, _, _, _, _]) dX6_isRightWith_72 (Nat.le_of_ble_eq_true rfl) rfl rfl ?_
  refine g_aload_n (p0 := 75) (i := 0) dX6_isRightWith_74 rfl rfl rfl ?_
  refine g_getR (p0 := 78) dX6_isRightWith_75 fX6_21 (by first | rfl | assumption | exact RW.s (by assumption) | exact TW.s (by assumption)) rfl rfl ?_
  refine g_getR (p0 := 81) dX6_isRightWith_78 fX6_149 (by first | rfl | assumption | exact RW.s (by assumption) | exact TW.s (by assumption)) rfl rfl ?_
  refine g_iload_n (p0 := 82) (i := 1) dX6_isRightWith_81 rfl rfl rfl ?_
  refine g_cV1R (p0 := 85) (r1 := mX7_at) dX6_isRightWith_82 lX6_68 vX7_at (by first | rfl | assumption | exact RW.s (by assumption) | exact TW.s (by assumption)) ⟨_, _, rfl⟩ (FITi rfl rfl) (Nat.le_of_ble_eq_true rfl) (at_N (by first | exact ⟨rfl, rfl, by decide⟩ | assumption) hm hs) rfl ?_
  refine g_iload (p0 := 87) dX6_isRightWith_85 rfl rfl ?_
  refine g_iconst (p0 := 88) (v := -1) dX6_isRightWith_87 rfl rfl ?_
  first | ((with_reducible refine isN2 ?_); refine g_icmpN_ne (tgt := 95) (p1 := 91) dX6_isRightWith_88 rfl (by omega) (by omega) rfl (fun c_88 => ?_) (fun c_88 => by exfalso; first | omega | contradiction | exact hx c_88 | exact c_88 hx | exact absurd h c_88 | exact h c_88 | exact c_88 h | exact hz c_88 | exact c_88 hz)) | refine g_icmp_ne (tgt := 95) (p1 := 91) dX6_isRightWith_88 rfl rfl (fun c_88 => ?_) (fun c_88 => by exfalso; first | omega | contradiction | exact hx c_88 | exact c_88 hx | exact absurd h c_88 | exact h c_88 | exact c_88 h | exact hz c_88 | exact c_88 hz)
  refine g_iload (p0 := 97) dX6_isRightWith_95 rfl rfl ?_
  first | ((with_reducible refine isN2 ?_); refine g_isubN (p0 := 98) dX6_isRightWith_97 (by omega) rfl ?_) | refine g_isub (p0 := 98) dX6_isRightWith_97 rfl ?_
  refine g_iload_n (p0 := 99) (i := 3) dX6_isRightWith_98 rfl rfl rfl ?_
  first | ((with_reducible refine isN2 ?_); refine g_iaddN (p0 := 100) dX6_isRightWith_99 rfl ?_) | refine g_iadd (p0 := 100) dX6_isRightWith_99 rfl ?_
  rw [hS]
  refine g_istore (p0 := 102) (i := 8) (ls2 := [_, _, _, _, _, _, _, _, _]) dX6_isRightWith_100 (Nat.le_of_ble_eq_true rfl) rfl rfl ?_
  refine g_iload (p0 := 104) dX6_isRightWith_102 rfl rfl ?_
  refine g_iload (p0 := 106) dX6_isRightWith_104 rfl rfl ?_
  first | ((with_reducible refine isN2 ?_); refine g_isubN (p0 := 107) dX6_isRightWith_106 (by omega) rfl ?_) | refine g_isub (p0 := 107) dX6_isRightWith_106 rfl ?_
  refine g_bipush (p0 := 109) (v := nI 25) dX6_isRightWith_107 (by decide) rfl ?_
  first | ((with_reducible refine isN2 ?_); refine g_iremN (p0 := 110) dX6_isRightWith_109 (by omega) (by omega) (by omega) rfl ?_) | refine g_irem (p0 := 110) dX6_isRightWith_109 (by decide) rfl ?_
  refine g_iload (p0 := 112) dX6_isRightWith_110 rfl rfl ?_
  first | ((with_reducible refine isN2 ?_); refine g_icmpN_ne (tgt := 119) (p1 := 115) dX6_isRightWith_112 rfl (by omega) (by omega) rfl (fun c_112 => by exfalso; first | omega | contradiction | exact hx c_112 | exact c_112 hx | exact absurd h c_112 | exact h c_112 | exact c_112 h | exact hz c_112 | exact c_112 hz) (fun c_112 => ?_)) | refine g_icmp_ne (tgt := 119) (p1 := 115) dX6_isRightWith_112 rfl rfl (fun c_112 => by exfalso; first | omega | contradiction | exact hx c_112 | exact c_112 hx | exact absurd h c_112 | exact h c_112 | exact c_112 h | exact hz c_112 | exact c_112 hz) (fun c_112 => ?_)
  refine g_iconst (p0 := 116) (v := nI 1) dX6_isRightWith_115 rfl rfl ?_
  refine g_goto (tgt := 120) dX6_isRightWith_116 rfl ?_
  refine g_ireturn dX6_isRightWith_120 rfl (by first | rfl | exact bool_narrow (by first | exact Or.inl rfl | exact Or.inr rfl | assumption | (split <;> first | exact Or.inl rfl | exact Or.inr rfl))) (?_)
  exact ⟨rfl, rfl⟩
theorem CLS.of {σ σ' : Sg} {s M L : Nat} {c fs f n p d g a b : Nat → Nat} (h : CLS σ s M L c fs f n p d g a b) (e : ∀ z, z < 72 → σ' z = σ z) : CLS σ' s M L c fs f n p d g a b := by
  obtain ⟨⟨c1, c2, c3, k⟩, hM, hL⟩ := h
  refine ⟨⟨by rw [e 45 (by decide)]; exact c1, by rw [e 34 (by decide)]; exact c2, by rw [e 33 (by decide)]; exact c3, k⟩, fun m hm => ?_, fun l hl => ?_⟩
  · rw [e 47 (by decide), e 49 (by decide), e 51 (by decide), e 53 (by decide), e 55 (by decide), e 57 (by decide), e 59 (by decide), e 42 (by decide)]; exact hM m hm
  · rw [e 36 (by decide), e 38 (by decide), e 40 (by decide), e 42 (by decide), e 44 (by decide)]; exact hL l hl
theorem cRW_sp {σ : Sg} {s M L : Nat} {c fs f n p d g a b : Nat → Nat} (hC : CLS σ s M L c fs f n p d g a b) {m t : Nat} {x : Int32} (hm : m < M) (ht : t < n m) (hx : ¬ x = -1) : (RGT (upd (σ 42) (f m + t) x) (f m) (n m) ∧ CM mX6_isRightWith [ar 33, ai (nI m), ai (nI t), ai x] σ (Ret (nI 1) σ)) ∨ (¬ RGT (upd (σ 42) (f m + t) x) (f m) (n m) ∧ CM mX6_isRightWith [ar 33, ai (nI m), ai (nI t), ai x] σ (Ret (nI 0) σ)) := by
  obtain ⟨⟨c1, c2, c3, k1, k2, k3⟩, hM, _⟩ := hC
  obtain ⟨⟨n1, n2⟩, a1, a2, a3, a4, a5, a6, a7⟩ := hM m hm
  have hul := uF_le (σ 42) (f m) (n m)
  have hu := uF_upd (v := σ 42) (f := f m) hx (n m) t ht
  have hs := sF_upd (v := σ 42) (f := f m) hx (n m) t ht
  have hlast : upd (σ 42) (f m + t) x (f m + (n m - 1)) = if t = n m - 1 then x else σ 42 (f m + (n m - 1)) := by
    by_cases e : t = n m - 1
    · rw [if_pos e, e, upd_hit]
    · rw [if_neg e, upd_ne (by omega)]
  have hm1 : m < 160 := by omega
  have hn1 : n m ≤ 160 := by omega
  have hfn : f m + n m ≤ 160 := by omega
  have hu1 : uF (σ 42) (f m) (n m) ≤ 160 := by omega
  by_cases h1 : n m = 1
  · refine Or.inr ⟨fun q => by have := q.1; omega, ?_⟩
    by_cases hz : σ 42 (f m + t) = -1
    · rw [if_pos hz] at hu
      by_cases h0 : uF (upd (σ 42) (f m + t) x) (f m) (n m) = 0
      · exact cW0_n hm1 hn1 ht hu1 a2 hfn a3 a6 a7 rfl rfl hz hu h0 h1
      · exact cW0_u hm1 hn1 ht hu1 a2 hfn a3 a6 a7 rfl rfl hz hu (by omega)
    · rw [if_neg hz] at hu
      by_cases h0 : uF (upd (σ 42) (f m + t) x) (f m) (n m) = 0
      · exact cW1_n hm1 hn1 ht hu1 a2 hfn a3 a6 a7 rfl rfl hz hu h0 h1
      · exact cW1_u hm1 hn1 ht hu1 a2 hfn a3 a6 a7 rfl rfl hz hu (by omega)
  · by_cases h0 : uF (upd (σ 42) (f m + t) x) (f m) (n m) = 0
    · by_cases hR : RGT (upd (σ 42) (f m + t) x) (f m) (n m)
      · refine Or.inl ⟨hR, ?_⟩
        have h := hR.2.2
        rw [hlast] at h
        by_cases hz : σ 42 (f m + t) = -1
        · rw [if_pos hz] at hu hs
          by_cases hl : t = n m - 1
          · rw [if_pos hl] at h
            exact cW00_1 hm1 hn1 ht hu1 a2 hfn a3 a6 a7 rfl rfl hz hu hl h0 (by omega) hs.symm h
          · rw [if_neg hl] at h
            exact cW01_1 hm1 hn1 ht hu1 a2 hfn a3 a6 a7 rfl rfl hz hu hl h0 (by omega) hs.symm h
        · rw [if_neg hz] at hu hs
          by_cases hl : t = n m - 1
          · rw [if_pos hl] at h
            exact cW10_1 hm1 hn1 ht hu1 a2 hfn a3 a6 a7 rfl rfl hz hu hl h0 (by omega) hs.symm h
          · rw [if_neg hl] at h
            exact cW11_1 hm1 hn1 ht hu1 a2 hfn a3 a6 a7 rfl rfl hz hu hl h0 (by omega) hs.symm h
      · refine Or.inr ⟨hR, ?_⟩
        have h : ¬ _ := fun q => hR ⟨by omega, h0, q⟩
        rw [hlast] at h
        by_cases hz : σ 42 (f m + t) = -1
        · rw [if_pos hz] at hu hs
          by_cases hl : t = n m - 1
          · rw [if_pos hl] at h
            exact cW00_0 hm1 hn1 ht hu1 a2 hfn a3 a6 a7 rfl rfl hz hu hl h0 (by omega) hs.symm h
          · rw [if_neg hl] at h
            exact cW01_0 hm1 hn1 ht hu1 a2 hfn a3 a6 a7 rfl rfl hz hu hl h0 (by omega) hs.symm h
        · rw [if_neg hz] at hu hs
          by_cases hl : t = n m - 1
          · rw [if_pos hl] at h
            exact cW10_0 hm1 hn1 ht hu1 a2 hfn a3 a6 a7 rfl rfl hz hu hl h0 (by omega) hs.symm h
          · rw [if_neg hl] at h
            exact cW11_0 hm1 hn1 ht hu1 a2 hfn a3 a6 a7 rfl rfl hz hu hl h0 (by omega) hs.symm h
    · refine Or.inr ⟨fun q => h0 q.2.1, ?_⟩
      by_cases hz : σ 42 (f m + t) = -1
      · rw [if_pos hz] at hu
        exact cW0_u hm1 hn1 ht hu1 a2 hfn a3 a6 a7 rfl rfl hz hu (by omega)
      · rw [if_neg hz] at hu
        exact cW1_u hm1 hn1 ht hu1 a2 hfn a3 a6 a7 rfl rfl hz hu (by omega)
/-! counting what fits -/
noncomputable def cnF (F : Nat → Prop) : Nat → Nat
  | 0 => 0
  | q + 1 => cnF F q + ind (F q)
theorem cnF_T {F : Nat → Prop} {q : Nat} (h : F q) : cnF F (q + 1) = cnF F q + 1 := by rw [cnF, ind_T h]
theorem cnF_F {F : Nat → Prop} {q : Nat} (h : ¬ F q) : cnF F (q + 1) = cnF F q := by rw [cnF, ind_F h, Nat.add_zero]
theorem cnF_le {F : Nat → Prop} : ∀ q, cnF F q ≤ q
  | 0 => Nat.le_refl 0
  | q + 1 => by
    have h1 := cnF_le (F := F) q
    have h2 := ind_le (F q)
    rw [cnF]
    omega
theorem cnF_mono {F : Nat → Prop} {q : Nat} : ∀ j, cnF F q ≤ cnF F (q + j)
  | 0 => Nat.le_refl _
  | j + 1 => Nat.le_trans (cnF_mono j) (by rw [← Nat.add_assoc, cnF]; exact Nat.le_add_right _ _)
theorem cnF_lt {F : Nat → Prop} {q Q : Nat} (h : q < Q) (hF : F q) : cnF F q < cnF F Q := by
  have h1 := cnF_mono (F := F) (q := q + 1) (Q - (q + 1))
  rw [show q + 1 + (Q - (q + 1)) = Q by omega, cnF_T hF] at h1
  omega
theorem cnF_hit {F : Nat → Prop} {w : Nat} : ∀ Q, w < cnF F Q → ∃ q, q < Q ∧ F q ∧ cnF F q = w
  | 0, h => absurd h (Nat.not_lt_zero w)
  | Q + 1, h => by
    by_cases hF : F Q
    · rw [cnF_T hF] at h
      by_cases e : w = cnF F Q
      · exact ⟨Q, Nat.lt_succ_self Q, hF, e.symm⟩
      · obtain ⟨q, h1, h2, h3⟩ := cnF_hit Q (show w < cnF F Q by omega)
        exact ⟨q, by omega, h2, h3⟩
    · rw [cnF_F hF] at h
      obtain ⟨q, h1, h2, h3⟩ := cnF_hit Q h
      exact ⟨q, by omega, h2, h3⟩
def CS (σ σ1 : Sg) (F : Nat → Prop) (cd : Nat → Int32) (Q : Nat) (w : Int32) : Prop := (∀ z, z ≠ 72 → σ1 z = σ z) ∧ σ1 72 4 = nI (cnF F Q) ∧ ∀ q, q < Q → F q → nI (cnF F q) = w → σ1 72 0 = nI (q / 4) ∧ σ1 72 1 = nI (q % 4 / 2) ∧ σ1 72 2 = (if q % 2 = 0 then nI 1 else -1) ∧ σ1 72 3 = cd q
theorem CS.skip {σ σ1 : Sg} {F : Nat → Prop} {cd : Nat → Int32} {Q : Nat} {w : Int32} (h : CS σ σ1 F cd Q w) (hF : ¬ F Q) : CS σ σ1 F cd (Q + 1) w := by
  refine ⟨h.1, by rw [cnF_F hF]; exact h.2.1, fun q hq hf hw => h.2.2 q ?_ hf hw⟩
  have : q ≠ Q := fun e => hF (e ▸ hf)
  omega
theorem CS.cnt {σ σ1 : Sg} {F : Nat → Prop} {cd : Nat → Int32} {Q : Nat} {w : Int32} (h : CS σ σ1 F cd Q w) (hF : F Q) (hw : ¬ nI (cnF F Q) = w) : CS σ (up σ1 72 4 (nI (cnF F Q + 1))) F cd (Q + 1) w := by
  refine ⟨fun z hz => by rw [up_ne hz]; exact h.1 z hz, by rw [cnF_T hF, up_hit], fun q hq hf hwq => ?_⟩
  have : q ≠ Q := fun e => hw (e ▸ hwq)
  rw [up_miss (by decide), up_miss (by decide), up_miss (by decide), up_miss (by decide)]
  exact h.2.2 q (by omega) hf hwq
theorem CS.take {σ σ1 : Sg} {F : Nat → Prop} {cd : Nat → Int32} {Q : Nat} {w : Int32} (h : CS σ σ1 F cd Q w) (hQ : Q < 1000) (hF : F Q) (hw : nI (cnF F Q) = w) {x0 x1 x2 x3 : Int32} (e0 : x0 = nI (Q / 4)) (e1 : x1 = nI (Q % 4 / 2)) (e2 : x2 = if Q % 2 = 0 then nI 1 else -1) (e3 : x3 = cd Q) : CS σ (up (up (up (up (up σ1 72 0 x0) 72 1 x1) 72 2 x2) 72 3 x3) 72 4 (nI (cnF F Q + 1))) F cd (Q + 1) w := by
  refine ⟨fun z hz => by rw [up_ne hz, up_ne hz, up_ne hz, up_ne hz, up_ne hz]; exact h.1 z hz, by rw [cnF_T hF, up_hit], fun q hq hf hwq => ?_⟩
  have hqQ : q = Q := by
    by_cases e : q = Q
    · exact e
    · have h1 := cnF_lt (F := F) (show q < Q by omega) hf
      have h2 := cnF_le (F := F) Q
      have h3 := (nI_inj (by omega) (by omega)).mp (hwq.trans hw.symm)
      omega
  subst hqQ
  rw [up_miss (by decide), up_miss (by decide), up_miss (by decide), up_miss (by decide), up_hit, up_miss (by decide), up_miss (by decide), up_miss (by decide), up_hit, up_miss (by decide), up_miss (by decide), up_hit, up_miss (by decide), up_hit]
  exact ⟨e0, e1, e2, e3⟩
set_option maxRecDepth 20000 in
set_option maxHeartbeats 2000000 in
theorem cons_1 {m t i f : Nat} {mo w y : Int32} {σ : Sg} (hm : m < 160) (hf : σ 49 m = nI f) (hlw : CM mX3_letterWith [ar 34, ai (nI (f + t)), ai (nI i), ai mo] σ (Ret y σ)) (hy : y = -1) : CM mX1_consider [ar 72, ar 33, ai (nI m), ai (nI t), ai (nI i), ai mo, ai w] σ (RetV σ) := by
  refine CM_in (ls := [some (ar 72), some (ar 33), some (ai (nI m)), some (ai (nI t)), some (ai (nI i)), some (ai mo), some (ai w), none]) rfl ?_
  refine g_aload_n (p0 := 1) (i := 1) dX1_consider_0 rfl rfl rfl ?_
  refine g_getR (p0 := 4) dX1_consider_1 fX1_50 (by first | rfl | assumption | exact RW.s (by assumption) | exact TW.s (by assumption)) rfl rfl ?_
  refine g_aload_n (p0 := 5) (i := 1) dX1_consider_4 rfl rfl rfl ?_
  refine g_iload_n (p0 := 6) (i := 2) dX1_consider_5 rfl rfl rfl ?_
  refine g_iload_n (p0 := 7) (i := 3) dX1_consider_6 rfl rfl rfl ?_
  refine g_cV2R (p0 := 10) (r1 := mX6_indexOf) dX1_consider_7 lX1_54 vX6_indexOf (by first | rfl | assumption | exact RW.s (by assumption) | exact TW.s (by assumption)) ⟨_, _, rfl⟩ (FITi rfl rfl) (Nat.le_of_ble_eq_true rfl) (indexOf_sp hm hf) rfl ?_
  refine g_iload (p0 := 12) dX1_consider_10 rfl rfl ?_
  refine g_iload (p0 := 14) dX1_consider_12 rfl rfl ?_
  refine g_cV3R (p0 := 17) (r1 := mX3_letterWith) dX1_consider_14 lX1_58 vX3_letterWith (by first | rfl | assumption | exact RW.s (by assumption) | exact TW.s (by assumption)) ⟨_, _, rfl⟩ (FITi rfl rfl) (Nat.le_of_ble_eq_true rfl) (hlw) rfl ?_
  refine g_istore (p0 := 19) (i := 7) (ls2 := [_, _, _, _, _, _, _, _]) dX1_consider_17 (Nat.le_of_ble_eq_true rfl) rfl rfl ?_
  refine g_iload (p0 := 21) dX1_consider_19 rfl rfl ?_
  refine g_iconst (p0 := 22) (v := -1) dX1_consider_21 rfl rfl ?_
  first | ((with_reducible refine isN2 ?_); refine g_icmpN_eq (tgt := 36) (p1 := 25) dX1_consider_22 rfl (by omega) (by omega) rfl (fun c_22 => ?_) (fun c_22 => by exfalso; first | omega | contradiction | exact hy c_22 | exact c_22 hy | exact hw c_22 | exact c_22 hw)) | refine g_icmp_eq (tgt := 36) (p1 := 25) dX1_consider_22 rfl rfl (fun c_22 => ?_) (fun c_22 => by exfalso; first | omega | contradiction | exact hy c_22 | exact c_22 hy | exact hw c_22 | exact c_22 hw)
  refine g_return dX1_consider_36 rfl ?_
  exact ⟨rfl, rfl⟩
set_option maxRecDepth 20000 in
set_option maxHeartbeats 2000000 in
theorem cons_2 {m t i f : Nat} {mo w y : Int32} {σ : Sg} (hm : m < 160) (hf : σ 49 m = nI f) (hlw : CM mX3_letterWith [ar 34, ai (nI (f + t)), ai (nI i), ai mo] σ (Ret y σ)) (hy : ¬ y = -1) (hrw : CM mX6_isRightWith [ar 33, ai (nI m), ai (nI t), ai y] σ (Ret (nI 0) σ))  : CM mX1_consider [ar 72, ar 33, ai (nI m), ai (nI t), ai (nI i), ai mo, ai w] σ (RetV σ) := by
  refine CM_in (ls := [some (ar 72), some (ar 33), some (ai (nI m)), some (ai (nI t)), some (ai (nI i)), some (ai mo), some (ai w), none]) rfl ?_
  refine g_aload_n (p0 := 1) (i := 1) dX1_consider_0 rfl rfl rfl ?_
  refine g_getR (p0 := 4) dX1_consider_1 fX1_50 (by first | rfl | assumption | exact RW.s (by assumption) | exact TW.s (by assumption)) rfl rfl ?_
  refine g_aload_n (p0 := 5) (i := 1) dX1_consider_4 rfl rfl rfl ?_
  refine g_iload_n (p0 := 6) (i := 2) dX1_consider_5 rfl rfl rfl ?_
  refine g_iload_n (p0 := 7) (i := 3) dX1_consider_6 rfl rfl rfl ?_
  refine g_cV2R (p0 := 10) (r1 := mX6_indexOf) dX1_consider_7 lX1_54 vX6_indexOf (by first | rfl | assumption | exact RW.s (by assumption) | exact TW.s (by assumption)) ⟨_, _, rfl⟩ (FITi rfl rfl) (Nat.le_of_ble_eq_true rfl) (indexOf_sp hm hf) rfl ?_
  refine g_iload (p0 := 12) dX1_consider_10 rfl rfl ?_
  refine g_iload (p0 := 14) dX1_consider_12 rfl rfl ?_
  refine g_cV3R (p0 := 17) (r1 := mX3_letterWith) dX1_consider_14 lX1_58 vX3_letterWith (by first | rfl | assumption | exact RW.s (by assumption) | exact TW.s (by assumption)) ⟨_, _, rfl⟩ (FITi rfl rfl) (Nat.le_of_ble_eq_true rfl) (hlw) rfl ?_
  refine g_istore (p0 := 19) (i := 7) (ls2 := [_, _, _, _, _, _, _, _]) dX1_consider_17 (Nat.le_of_ble_eq_true rfl) rfl rfl ?_
  refine g_iload (p0 := 21) dX1_consider_19 rfl rfl ?_
  refine g_iconst (p0 := 22) (v := -1) dX1_consider_21 rfl rfl ?_
  first | ((with_reducible refine isN2 ?_); refine g_icmpN_eq (tgt := 36) (p1 := 25) dX1_consider_22 rfl (by omega) (by omega) rfl (fun c_22 => by exfalso; first | omega | contradiction | exact hy c_22 | exact c_22 hy | exact hw c_22 | exact c_22 hw) (fun c_22 => ?_)) | refine g_icmp_eq (tgt := 36) (p1 := 25) dX1_consider_22 rfl rfl (fun c_22 => by exfalso; first | omega | contradiction | exact hy c_22 | exact c_22 hy | exact hw c_22 | exact c_22 hw) (fun c_22 => ?_)
  refine g_aload_n (p0 := 26) (i := 1) dX1_consider_25 rfl rfl rfl ?_
  refine g_iload_n (p0 := 27) (i := 2) dX1_consider_26 rfl rfl rfl ?_
  refine g_iload_n (p0 := 28) (i := 3) dX1_consider_27 rfl rfl rfl ?_
  refine g_iload (p0 := 30) dX1_consider_28 rfl rfl ?_
  refine g_cV3R (p0 := 33) (r1 := mX6_isRightWith) dX1_consider_30 lX1_64 vX6_isRightWith (by first | rfl | assumption | exact RW.s (by assumption) | exact TW.s (by assumption)) ⟨_, _, rfl⟩ (FITi rfl rfl) (Nat.le_of_ble_eq_true rfl) (hrw) rfl ?_
  first | ((with_reducible refine isN1 ?_); refine g_ifN_ne (tgt := 37) (p1 := 36) dX1_consider_33 rfl (by omega) rfl (fun c_33 => by exfalso; first | omega | contradiction | exact hy c_33 | exact c_33 hy | exact hw c_33 | exact c_33 hw) (fun c_33 => ?_)) | refine g_if_ne (tgt := 37) (p1 := 36) dX1_consider_33 rfl rfl (fun c_33 => by exfalso; first | omega | contradiction | exact hy c_33 | exact c_33 hy | exact hw c_33 | exact c_33 hw) (fun c_33 => ?_)
  refine g_return dX1_consider_36 rfl ?_
  exact ⟨rfl, rfl⟩
set_option maxRecDepth 20000 in
set_option maxHeartbeats 2000000 in
theorem cons_3 {m t i f cn : Nat} {mo w y : Int32} {σ : Sg} (hm : m < 160) (hf : σ 49 m = nI f) (hlw : CM mX3_letterWith [ar 34, ai (nI (f + t)), ai (nI i), ai mo] σ (Ret y σ)) (hy : ¬ y = -1) (hrw : CM mX6_isRightWith [ar 33, ai (nI m), ai (nI t), ai y] σ (Ret (nI 1) σ)) (hc : σ 72 4 = nI cn) (hw : ¬ nI cn = w) : CM mX1_consider [ar 72, ar 33, ai (nI m), ai (nI t), ai (nI i), ai mo, ai w] σ (RetV (up σ 72 4 (nI (cn + 1)))) := by
  refine CM_in (ls := [some (ar 72), some (ar 33), some (ai (nI m)), some (ai (nI t)), some (ai (nI i)), some (ai mo), some (ai w), none]) rfl ?_
  refine g_aload_n (p0 := 1) (i := 1) dX1_consider_0 rfl rfl rfl ?_
  refine g_getR (p0 := 4) dX1_consider_1 fX1_50 (by first | rfl | assumption | exact RW.s (by assumption) | exact TW.s (by assumption)) rfl rfl ?_
  refine g_aload_n (p0 := 5) (i := 1) dX1_consider_4 rfl rfl rfl ?_
  refine g_iload_n (p0 := 6) (i := 2) dX1_consider_5 rfl rfl rfl ?_
  refine g_iload_n (p0 := 7) (i := 3) dX1_consider_6 rfl rfl rfl ?_
  refine g_cV2R (p0 := 10) (r1 := mX6_indexOf) dX1_consider_7 lX1_54 vX6_indexOf (by first | rfl | assumption | exact RW.s (by assumption) | exact TW.s (by assumption)) ⟨_, _, rfl⟩ (FITi rfl rfl) (Nat.le_of_ble_eq_true rfl) (indexOf_sp hm hf) rfl ?_
  refine g_iload (p0 := 12) dX1_consider_10 rfl rfl ?_
  refine g_iload (p0 := 14) dX1_consider_12 rfl rfl ?_
  refine g_cV3R (p0 := 17) (r1 := mX3_letterWith) dX1_consider_14 lX1_58 vX3_letterWith (by first | rfl | assumption | exact RW.s (by assumption) | exact TW.s (by assumption)) ⟨_, _, rfl⟩ (FITi rfl rfl) (Nat.le_of_ble_eq_true rfl) (hlw) rfl ?_
  refine g_istore (p0 := 19) (i := 7) (ls2 := [_, _, _, _, _, _, _, _]) dX1_consider_17 (Nat.le_of_ble_eq_true rfl) rfl rfl ?_
  refine g_iload (p0 := 21) dX1_consider_19 rfl rfl ?_
  refine g_iconst (p0 := 22) (v := -1) dX1_consider_21 rfl rfl ?_
  first | ((with_reducible refine isN2 ?_); refine g_icmpN_eq (tgt := 36) (p1 := 25) dX1_consider_22 rfl (by omega) (by omega) rfl (fun c_22 => by exfalso; first | omega | contradiction | exact hy c_22 | exact c_22 hy | exact hw c_22 | exact c_22 hw) (fun c_22 => ?_)) | refine g_icmp_eq (tgt := 36) (p1 := 25) dX1_consider_22 rfl rfl (fun c_22 => by exfalso; first | omega | contradiction | exact hy c_22 | exact c_22 hy | exact hw c_22 | exact c_22 hw) (fun c_22 => ?_)
  refine g_aload_n (p0 := 26) (i := 1) dX1_consider_25 rfl rfl rfl ?_
  refine g_iload_n (p0 := 27) (i := 2) dX1_consider_26 rfl rfl rfl ?_
  refine g_iload_n (p0 := 28) (i := 3) dX1_consider_27 rfl rfl rfl ?_
  refine g_iload (p0 := 30) dX1_consider_28 rfl rfl ?_
  refine g_cV3R (p0 := 33) (r1 := mX6_isRightWith) dX1_consider_30 lX1_64 vX6_isRightWith (by first | rfl | assumption | exact RW.s (by assumption) | exact TW.s (by assumption)) ⟨_, _, rfl⟩ (FITi rfl rfl) (Nat.le_of_ble_eq_true rfl) (hrw) rfl ?_
  first | ((with_reducible refine isN1 ?_); refine g_ifN_ne (tgt := 37) (p1 := 36) dX1_consider_33 rfl (by omega) rfl (fun c_33 => ?_) (fun c_33 => by exfalso; first | omega | contradiction | exact hy c_33 | exact c_33 hy | exact hw c_33 | exact c_33 hw)) | refine g_if_ne (tgt := 37) (p1 := 36) dX1_consider_33 rfl rfl (fun c_33 => ?_) (fun c_33 => by exfalso; first | omega | contradiction | exact hy c_33 | exact c_33 hy | exact hw c_33 | exact c_33 hw)
  refine g_aload_n (p0 := 38) (i := 0) dX1_consider_37 rfl rfl rfl ?_
  refine g_getI (p0 := 41) dX1_consider_38 fX1_24 (by first | rfl | assumption | exact RW.s (by assumption) | exact TW.s (by assumption)) rfl (by first | assumption | ((repeat (first | exact up_hit | refine up_nv (by decide) ?_ | refine up_mv (by first | decide | omega) ?_)) <;> first | assumption | rfl)) rfl ?_
  refine g_iload (p0 := 43) dX1_consider_41 rfl rfl ?_
  first | ((with_reducible refine isN2 ?_); refine g_icmpN_ne (tgt := 69) (p1 := 46) dX1_consider_43 rfl (by omega) (by omega) rfl (fun c_43 => ?_) (fun c_43 => by exfalso; first | omega | contradiction | exact hy c_43 | exact c_43 hy | exact hw c_43 | exact c_43 hw)) | refine g_icmp_ne (tgt := 69) (p1 := 46) dX1_consider_43 rfl rfl (fun c_43 => ?_) (fun c_43 => by exfalso; first | omega | contradiction | exact hy c_43 | exact c_43 hy | exact hw c_43 | exact c_43 hw)
  refine g_aload_n (p0 := 70) (i := 0) dX1_consider_69 rfl rfl rfl ?_
  refine g_dup (p0 := 71) dX1_consider_70 rfl ?_
  refine g_getI (p0 := 74) dX1_consider_71 fX1_24 (by first | rfl | assumption | exact RW.s (by assumption) | exact TW.s (by assumption)) rfl (by first | assumption | ((repeat (first | exact up_hit | refine up_nv (by decide) ?_ | refine up_mv (by first | decide | omega) ?_)) <;> first | assumption | rfl)) rfl ?_
  refine g_iconst (p0 := 75) (v := nI 1) dX1_consider_74 rfl rfl ?_
  first | ((with_reducible refine isN2 ?_); refine g_iaddN (p0 := 76) dX1_consider_75 rfl ?_) | refine g_iadd (p0 := 76) dX1_consider_75 rfl ?_
  refine g_put (p0 := 79) dX1_consider_76 fX1_24 (by first | rfl | assumption | exact RW.s (by assumption) | exact TW.s (by assumption)) rfl nX1_4 (pX1_4 _) rfl ?_
  refine g_return dX1_consider_79 rfl ?_
  exact ⟨rfl, rfl⟩
set_option maxRecDepth 20000 in
set_option maxHeartbeats 2000000 in
theorem cons_4 {m t i f cn : Nat} {mo w y : Int32} {σ : Sg} (hm : m < 160) (hf : σ 49 m = nI f) (hlw : CM mX3_letterWith [ar 34, ai (nI (f + t)), ai (nI i), ai mo] σ (Ret y σ)) (hy : ¬ y = -1) (hrw : CM mX6_isRightWith [ar 33, ai (nI m), ai (nI t), ai y] σ (Ret (nI 1) σ)) (hc : σ 72 4 = nI cn) (hw : nI cn = w) : CM mX1_consider [ar 72, ar 33, ai (nI m), ai (nI t), ai (nI i), ai mo, ai w] σ (RetV (up (up (up (up (up σ 72 0 (nI t)) 72 1 (nI i)) 72 2 mo) 72 3 y) 72 4 (nI (cn + 1)))) := by
  refine CM_in (ls := [some (ar 72), some (ar 33), some (ai (nI m)), some (ai (nI t)), some (ai (nI i)), some (ai mo), some (ai w), none]) rfl ?_
  refine g_aload_n (p0 := 1) (i := 1) dX1_consider_0 rfl rfl rfl ?_
  refine g_getR (p0 := 4) dX1_consider_1 fX1_50 (by first | rfl | assumption | exact RW.s (by assumption) | exact TW.s (by assumption)) rfl rfl ?_
  refine g_aload_n (p0 := 5) (i := 1) dX1_consider_4 rfl rfl rfl ?_
  refine g_iload_n (p0 := 6) (i := 2) dX1_consider_5 rfl rfl rfl ?_
  refine g_iload_n (p0 := 7) (i := 3) dX1_consider_6 rfl rfl rfl ?_
  refine g_cV2R (p0 := 10) (r1 := mX6_indexOf) dX1_consider_7 lX1_54 vX6_indexOf (by first | rfl | assumption | exact RW.s (by assumption) | exact TW.s (by assumption)) ⟨_, _, rfl⟩ (FITi rfl rfl) (Nat.le_of_ble_eq_true rfl) (indexOf_sp hm hf) rfl ?_
  refine g_iload (p0 := 12) dX1_consider_10 rfl rfl ?_
  refine g_iload (p0 := 14) dX1_consider_12 rfl rfl ?_
  refine g_cV3R (p0 := 17) (r1 := mX3_letterWith) dX1_consider_14 lX1_58 vX3_letterWith (by first | rfl | assumption | exact RW.s (by assumption) | exact TW.s (by assumption)) ⟨_, _, rfl⟩ (FITi rfl rfl) (Nat.le_of_ble_eq_true rfl) (hlw) rfl ?_
  refine g_istore (p0 := 19) (i := 7) (ls2 := [_, _, _, _, _, _, _, _]) dX1_consider_17 (Nat.le_of_ble_eq_true rfl) rfl rfl ?_
  refine g_iload (p0 := 21) dX1_consider_19 rfl rfl ?_
  refine g_iconst (p0 := 22) (v := -1) dX1_consider_21 rfl rfl ?_
  first | ((with_reducible refine isN2 ?_); refine g_icmpN_eq (tgt := 36) (p1 := 25) dX1_consider_22 rfl (by omega) (by omega) rfl (fun c_22 => by exfalso; first | omega | contradiction | exact hy c_22 | exact c_22 hy | exact hw c_22 | exact c_22 hw) (fun c_22 => ?_)) | refine g_icmp_eq (tgt := 36) (p1 := 25) dX1_consider_22 rfl rfl (fun c_22 => by exfalso; first | omega | contradiction | exact hy c_22 | exact c_22 hy | exact hw c_22 | exact c_22 hw) (fun c_22 => ?_)
  refine g_aload_n (p0 := 26) (i := 1) dX1_consider_25 rfl rfl rfl ?_
  refine g_iload_n (p0 := 27) (i := 2) dX1_consider_26 rfl rfl rfl ?_
  refine g_iload_n (p0 := 28) (i := 3) dX1_consider_27 rfl rfl rfl ?_
  refine g_iload (p0 := 30) dX1_consider_28 rfl rfl ?_
  refine g_cV3R (p0 := 33) (r1 := mX6_isRightWith) dX1_consider_30 lX1_64 vX6_isRightWith (by first | rfl | assumption | exact RW.s (by assumption) | exact TW.s (by assumption)) ⟨_, _, rfl⟩ (FITi rfl rfl) (Nat.le_of_ble_eq_true rfl) (hrw) rfl ?_
  first | ((with_reducible refine isN1 ?_); refine g_ifN_ne (tgt := 37) (p1 := 36) dX1_consider_33 rfl (by omega) rfl (fun c_33 => ?_) (fun c_33 => by exfalso; first | omega | contradiction | exact hy c_33 | exact c_33 hy | exact hw c_33 | exact c_33 hw)) | refine g_if_ne (tgt := 37) (p1 := 36) dX1_consider_33 rfl rfl (fun c_33 => ?_) (fun c_33 => by exfalso; first | omega | contradiction | exact hy c_33 | exact c_33 hy | exact hw c_33 | exact c_33 hw)
  refine g_aload_n (p0 := 38) (i := 0) dX1_consider_37 rfl rfl rfl ?_
  refine g_getI (p0 := 41) dX1_consider_38 fX1_24 (by first | rfl | assumption | exact RW.s (by assumption) | exact TW.s (by assumption)) rfl (by first | assumption | ((repeat (first | exact up_hit | refine up_nv (by decide) ?_ | refine up_mv (by first | decide | omega) ?_)) <;> first | assumption | rfl)) rfl ?_
  refine g_iload (p0 := 43) dX1_consider_41 rfl rfl ?_
  first | ((with_reducible refine isN2 ?_); refine g_icmpN_ne (tgt := 69) (p1 := 46) dX1_consider_43 rfl (by omega) (by omega) rfl (fun c_43 => by exfalso; first | omega | contradiction | exact hy c_43 | exact c_43 hy | exact hw c_43 | exact c_43 hw) (fun c_43 => ?_)) | refine g_icmp_ne (tgt := 69) (p1 := 46) dX1_consider_43 rfl rfl (fun c_43 => by exfalso; first | omega | contradiction | exact hy c_43 | exact c_43 hy | exact hw c_43 | exact c_43 hw) (fun c_43 => ?_)
  refine g_aload_n (p0 := 47) (i := 0) dX1_consider_46 rfl rfl rfl ?_
  refine g_iload_n (p0 := 48) (i := 3) dX1_consider_47 rfl rfl rfl ?_
  refine g_put (p0 := 51) dX1_consider_48 fX1_9 (by first | rfl | assumption | exact RW.s (by assumption) | exact TW.s (by assumption)) rfl nX1_0 (pX1_0 _) rfl ?_
  refine g_aload_n (p0 := 52) (i := 0) dX1_consider_51 rfl rfl rfl ?_
  refine g_iload (p0 := 54) dX1_consider_52 rfl rfl ?_
  refine g_put (p0 := 57) dX1_consider_54 fX1_15 (by first | rfl | assumption | exact RW.s (by assumption) | exact TW.s (by assumption)) rfl nX1_1 (pX1_1 _) rfl ?_
  refine g_aload_n (p0 := 58) (i := 0) dX1_consider_57 rfl rfl rfl ?_
  refine g_iload (p0 := 60) dX1_consider_58 rfl rfl ?_
  refine g_put (p0 := 63) dX1_consider_60 fX1_18 (by first | rfl | assumption | exact RW.s (by assumption) | exact TW.s (by assumption)) rfl nX1_2 (pX1_2 _) rfl ?_
  refine g_aload_n (p0 := 64) (i := 0) dX1_consider_63 rfl rfl rfl ?_
  refine g_iload (p0 := 66) dX1_consider_64 rfl rfl ?_
  refine g_put (p0 := 69) dX1_consider_66 fX1_21 (by first | rfl | assumption | exact RW.s (by assumption) | exact TW.s (by assumption)) rfl nX1_3 (pX1_3 _) rfl ?_
  refine g_aload_n (p0 := 70) (i := 0) dX1_consider_69 rfl rfl rfl ?_
  refine g_dup (p0 := 71) dX1_consider_70 rfl ?_
  refine g_getI (p0 := 74) dX1_consider_71 fX1_24 (by first | rfl | assumption | exact RW.s (by assumption) | exact TW.s (by assumption)) rfl (by first | assumption | ((repeat (first | exact up_hit | refine up_nv (by decide) ?_ | refine up_mv (by first | decide | omega) ?_)) <;> first | assumption | rfl)) rfl ?_
  refine g_iconst (p0 := 75) (v := nI 1) dX1_consider_74 rfl rfl ?_
  first | ((with_reducible refine isN2 ?_); refine g_iaddN (p0 := 76) dX1_consider_75 rfl ?_) | refine g_iadd (p0 := 76) dX1_consider_75 rfl ?_
  refine g_put (p0 := 79) dX1_consider_76 fX1_24 (by first | rfl | assumption | exact RW.s (by assumption) | exact TW.s (by assumption)) rfl nX1_4 (pX1_4 _) rfl ?_
  refine g_return dX1_consider_79 rfl ?_
  exact ⟨rfl, rfl⟩
theorem RelV_of {r : MR} {as : List AV} {σ σ1 : Sg} {P : Sg → Prop} (h : CM r as σ (RetV σ1)) (hP : P σ1) : CM r as σ (RelV P) := by
  refine CM.mono h ?_
  rintro w σ2 ⟨rfl, rfl⟩
  exact ⟨rfl, hP⟩
theorem cons_r {σ σ1 : Sg} {F : Nat → Prop} {cd : Nat → Int32} {Q m t i f : Nat} {mo w : Int32} (hS : CS σ σ1 F cd Q w) (hm : m < 160) (hf : σ1 49 m = nI f) (hQ : Q < 1000) (e1 : t = Q / 4) (e2 : i = Q % 4 / 2) (e3 : mo = if Q % 2 = 0 then nI 1 else -1) (hlw : CM mX3_letterWith [ar 34, ai (nI (f + t)), ai (nI i), ai mo] σ1 (Ret (cd Q) σ1)) (hrw : ¬ cd Q = -1 → (F Q ∧ CM mX6_isRightWith [ar 33, ai (nI m), ai (nI t), ai (cd Q)] σ1 (Ret (nI 1) σ1)) ∨ (¬ F Q ∧ CM mX6_isRightWith [ar 33, ai (nI m), ai (nI t), ai (cd Q)] σ1 (Ret (nI 0) σ1))) (hF1 : cd Q = -1 → ¬ F Q) : CM mX1_consider [ar 72, ar 33, ai (nI m), ai (nI t), ai (nI i), ai mo, ai w] σ1 (RelV (fun σ2 => CS σ σ2 F cd (Q + 1) w)) := by
  by_cases hy : cd Q = -1
  · exact RelV_of (cons_1 hm hf hlw hy) (hS.skip (hF1 hy))
  · rcases hrw hy with ⟨hF, hr⟩ | ⟨hF, hr⟩
    · by_cases hw : nI (cnF F Q) = w
      · exact RelV_of (cons_4 hm hf hlw hy hr hS.2.1 hw) (hS.take hQ hF hw (by rw [e1]) (by rw [e2]) e3 rfl)
      · exact RelV_of (cons_3 hm hf hlw hy hr hS.2.1 hw) (hS.cnt hF hw)
    · exact RelV_of (cons_2 hm hf hlw hy hr) (hS.skip hF)
def ca (a k : Nat) : Nat := if k = 0 then a + 1 else if k = 1 then a - 1 else a
def cb (b k : Nat) : Nat := if k = 2 then b + 1 else if k = 3 then b - 1 else b
/-- the letter by the q-th correction of a message whose letters begin at f -/
def cdq (lc : Nat → Int32) (g a b : Nat → Nat) (f q : Nat) : Int32 := val lc (g (f + q / 4)) (ca (a (f + q / 4)) (q % 4)) (cb (b (f + q / 4)) (q % 4))
/-- it fits -/
def FIQ (v lc : Nat → Int32) (g a b : Nat → Nat) (f n q : Nat) : Prop := ¬ cdq lc g a b f q = -1 ∧ RGT (upd v (f + q / 4) (cdq lc g a b f q)) f n
theorem cdq_k {lc : Nat → Int32} {g a b : Nat → Nat} {f t k : Nat} (hk : k < 4) : cdq lc g a b f (4 * t + k) = val lc (g (f + t)) (ca (a (f + t)) k) (cb (b (f + t)) k) := by
  rw [cdq, show (4 * t + k) / 4 = t by omega, show (4 * t + k) % 4 = k by omega]
theorem cons_p {σ σ1 : Sg} {s M L : Nat} {c fs f n p d g a b : Nat → Nat} {m t i Q : Nat} {w : Int32} (hC : CLS σ s M L c fs f n p d g a b) (hm : m < M) (ht : t < n m) (hi : i < 2) (hS : CS σ σ1 (FIQ (σ 42) (σ 44) g a b (f m) (n m)) (cdq (σ 44) g a b (f m)) Q w) (hQ : Q = 4 * t + 2 * i) : CM mX1_consider [ar 72, ar 33, ai (nI m), ai (nI t), ai (nI i), ai (nI 1), ai w] σ1 (RelV (fun σ2 => CS σ σ2 (FIQ (σ 42) (σ 44) g a b (f m) (n m)) (cdq (σ 44) g a b (f m)) (Q + 1) w)) := by
  have e : ∀ z, z < 72 → σ1 z = σ z := fun z hz => hS.1 z (by omega)
  have hC1 := hC.of e
  obtain ⟨⟨c1, c2, c3, k1, k2, k3⟩, hM, hL⟩ := hC
  obtain ⟨⟨n1, n2⟩, a1, a2, a3, a4, a5, a6, a7⟩ := hM m hm
  obtain ⟨⟨q1, q2, q3, q4, q5, q6⟩, b1, b2, b3, b4⟩ := hL (f m + t) (by omega)
  have w1 : σ1 36 (f m + t) = nI (g (f m + t)) := by rw [e 36 (by decide)]; exact b1
  have w2 : σ1 38 (f m + t) = nI (a (f m + t)) := by rw [e 38 (by decide)]; exact b2
  have w3 : σ1 40 (f m + t) = nI (b (f m + t)) := by rw [e 40 (by decide)]; exact b3
  refine cons_r hS (by omega) (by rw [e 49 (by decide)]; exact a2) (by omega) (by omega) (by omega) (if_pos (by omega)).symm ?_ (fun hy => ?_) (fun hy hF => hF.1 hy)
  · have h01 : i = 0 ∨ i = 1 := by omega
    rcases h01 with rfl | rfl
    · rw [show Q = 4 * t + 0 by omega, cdq_k (by decide), ← e 44 (by decide)]
      exact letterWith_a1 (by omega) w1 w2 w3 q2 q4 q6
    · rw [show Q = 4 * t + 2 by omega, cdq_k (by decide), ← e 44 (by decide)]
      exact letterWith_b1 (by omega) w1 w2 w3 q2 q4 q6
  · have hq : Q / 4 = t := by omega
    rcases cRW_sp hC1 hm ht hy with ⟨h1, h2⟩ | ⟨h1, h2⟩
    · rw [e 42 (by decide)] at h1
      exact Or.inl ⟨⟨hy, by rw [hq]; exact h1⟩, h2⟩
    · rw [e 42 (by decide)] at h1
      exact Or.inr ⟨fun z => h1 (by have z2 := z.2; rw [hq] at z2; exact z2), h2⟩
theorem cons_m {σ σ1 : Sg} {s M L : Nat} {c fs f n p d g a b : Nat → Nat} {m t i Q : Nat} {w : Int32} (hC : CLS σ s M L c fs f n p d g a b) (hm : m < M) (ht : t < n m) (hi : i < 2) (hS : CS σ σ1 (FIQ (σ 42) (σ 44) g a b (f m) (n m)) (cdq (σ 44) g a b (f m)) Q w) (hQ : Q = 4 * t + 2 * i + 1) : CM mX1_consider [ar 72, ar 33, ai (nI m), ai (nI t), ai (nI i), ai (-1), ai w] σ1 (RelV (fun σ2 => CS σ σ2 (FIQ (σ 42) (σ 44) g a b (f m) (n m)) (cdq (σ 44) g a b (f m)) (Q + 1) w)) := by
  have e : ∀ z, z < 72 → σ1 z = σ z := fun z hz => hS.1 z (by omega)
  have hC1 := hC.of e
  obtain ⟨⟨c1, c2, c3, k1, k2, k3⟩, hM, hL⟩ := hC
  obtain ⟨⟨n1, n2⟩, a1, a2, a3, a4, a5, a6, a7⟩ := hM m hm
  obtain ⟨⟨q1, q2, q3, q4, q5, q6⟩, b1, b2, b3, b4⟩ := hL (f m + t) (by omega)
  have w1 : σ1 36 (f m + t) = nI (g (f m + t)) := by rw [e 36 (by decide)]; exact b1
  have w2 : σ1 38 (f m + t) = nI (a (f m + t)) := by rw [e 38 (by decide)]; exact b2
  have w3 : σ1 40 (f m + t) = nI (b (f m + t)) := by rw [e 40 (by decide)]; exact b3
  refine cons_r hS (by omega) (by rw [e 49 (by decide)]; exact a2) (by omega) (by omega) (by omega) (if_neg (by omega)).symm ?_ (fun hy => ?_) (fun hy hF => hF.1 hy)
  · have h01 : i = 0 ∨ i = 1 := by omega
    rcases h01 with rfl | rfl
    · rw [show Q = 4 * t + 1 by omega, cdq_k (by decide), ← e 44 (by decide)]
      exact letterWith_am (by omega) w1 w2 w3 q2 q4 q6 (fun _ => q3)
    · rw [show Q = 4 * t + 3 by omega, cdq_k (by decide), ← e 44 (by decide)]
      exact letterWith_bm (by omega) w1 w2 w3 q2 q4 q6 q5
  · have hq : Q / 4 = t := by omega
    rcases cRW_sp hC1 hm ht hy with ⟨h1, h2⟩ | ⟨h1, h2⟩
    · rw [e 42 (by decide)] at h1
      exact Or.inl ⟨⟨hy, by rw [hq]; exact h1⟩, h2⟩
    · rw [e 42 (by decide)] at h1
      exact Or.inr ⟨fun z => h1 (by have z2 := z.2; rw [hq] at z2; exact z2), h2⟩
theorem g_cV6P {r : MR} {Q : SP} {σ : Sg} {pc : Nat} {ls : List (Option AV)} {st : List AV} {i o ci p0 : Nat} {fl : List (Option Nat)} {r1 : MR} {a1 a2 a3 a4 a5 a6 : AV} {P : Sg → Prop} (h1 : decode (rc r) pc = .ok (.invokevirtual i, 3)) (h2 : Cond.methodLink (ro r) i (ry r1) ∈ Wl) (h3 : MV r1 6) (hs : SHl[o]? = some (.inl (ci, fl))) (hk : KC ci (ro r1)) (hf : FIT r1 r) (hl : st.length ≤ 8) (hc : CM r1 (ar o :: [a1, a2, a3, a4, a5, a6]) σ (RelV P)) (e1 : pc + 3 = p0) (k1 : ∀ σ1, P σ1 → WM r Q p0 ls st σ1) : WM r Q pc ls (a6 :: a5 :: a4 :: a3 :: a2 :: a1 :: ar o :: st) σ := g_cV0R_base (As := [a1, a2, a3, a4, a5, a6]) h1 h2 h3 hs hk hf hl rfl rfl (conP hc e1 k1)
set_option maxRecDepth 20000 in
set_option maxHeartbeats 2000000 in
theorem search_l {σ : Sg} {Q : SP} {s M L : Nat} {c fs f n p d g a b : Nat → Nat} {m : Nat} {w : Int32} (hC : CLS σ s M L c fs f n p d g a b) (hm : m < M) (k : ∀ σ1, CS σ σ1 (FIQ (σ 42) (σ 44) g a b (f m) (n m)) (cdq (σ 44) g a b (f m)) (4 * n m) w → Q none σ1) : ∀ j t, t + j = n m → ∀ σ1, CS σ σ1 (FIQ (σ 42) (σ 44) g a b (f m) (n m)) (cdq (σ 44) g a b (f m)) (4 * t) w → ∀ x, WM mX1_search Q 8 [some (ar 72), some (ar 33), some (ai (nI m)), some (ai w), some (ai (nI t)), x] [] σ1 := by
  obtain ⟨⟨c1, c2, c3, k1, k2, k3⟩, hM, hL⟩ := id hC
  obtain ⟨⟨n1, n2⟩, a1, a2, a3, a4, a5, a6, a7⟩ := hM m hm
  intro j
  induction j with
  | zero =>
    intro t ht σ1 hS x
    obtain rfl : t = n m := by omega
    have hl : σ1 51 m = nI (n m) := by rw [hS.1 51 (by decide)]; exact a3
    refine g_iload (p0 := 10) dX1_search_8 rfl rfl ?_
    refine g_aload_n (p0 := 11) (i := 1) dX1_search_10 rfl rfl rfl ?_
    refine g_iload_n (p0 := 12) (i := 2) dX1_search_11 rfl rfl rfl ?_
    refine g_cV1R (p0 := 15) (r1 := mX6_lengthOf) dX1_search_12 lX1_42 vX6_lengthOf (by first | rfl | assumption | exact RW.s (by assumption) | exact TW.s (by assumption)) ⟨_, _, rfl⟩ (FITi rfl rfl) (Nat.le_of_ble_eq_true rfl) (lengthOf_sp (by omega) hl) rfl ?_
    first | ((with_reducible refine isN2 ?_); refine g_icmpN_ge (tgt := 63) (p1 := 18) dX1_search_15 rfl (by omega) (by omega) rfl (fun c_15 => ?_) (fun c_15 => by exfalso; first | omega | contradiction | exact absurd (by assumption) c_15 | (simp_all; done))) | refine g_icmp_ge (tgt := 63) (p1 := 18) dX1_search_15 rfl rfl (fun c_15 => ?_) (fun c_15 => by exfalso; first | omega | contradiction | exact absurd (by assumption) c_15 | (simp_all; done))
    refine g_return dX1_search_63 rfl ?_
    exact k σ1 hS
  | succ j ih =>
    intro t ht σ1 hS x
    have hl : σ1 51 m = nI (n m) := by rw [hS.1 51 (by decide)]; exact a3
    refine g_iload (p0 := 10) dX1_search_8 rfl rfl ?_
    refine g_aload_n (p0 := 11) (i := 1) dX1_search_10 rfl rfl rfl ?_
    refine g_iload_n (p0 := 12) (i := 2) dX1_search_11 rfl rfl rfl ?_
    refine g_cV1R (p0 := 15) (r1 := mX6_lengthOf) dX1_search_12 lX1_42 vX6_lengthOf (by first | rfl | assumption | exact RW.s (by assumption) | exact TW.s (by assumption)) ⟨_, _, rfl⟩ (FITi rfl rfl) (Nat.le_of_ble_eq_true rfl) (lengthOf_sp (by omega) hl) rfl ?_
    first | ((with_reducible refine isN2 ?_); refine g_icmpN_ge (tgt := 63) (p1 := 18) dX1_search_15 rfl (by omega) (by omega) rfl (fun c_15 => by exfalso; first | omega | contradiction | exact absurd (by assumption) c_15 | (simp_all; done)) (fun c_15 => ?_)) | refine g_icmp_ge (tgt := 63) (p1 := 18) dX1_search_15 rfl rfl (fun c_15 => by exfalso; first | omega | contradiction | exact absurd (by assumption) c_15 | (simp_all; done)) (fun c_15 => ?_)
    refine g_iconst (p0 := 19) (v := nI 0) dX1_search_18 rfl rfl ?_
    refine g_istore (p0 := 21) (i := 5) (ls2 := [_, _, _, _, _, _]) dX1_search_19 (Nat.le_of_ble_eq_true rfl) rfl rfl ?_
    refine g_iload (p0 := 23) dX1_search_21 rfl rfl ?_
    refine g_iconst (p0 := 24) (v := nI 2) dX1_search_23 rfl rfl ?_
    first | ((with_reducible refine isN2 ?_); refine g_icmpN_ge (tgt := 57) (p1 := 27) dX1_search_24 rfl (by omega) (by omega) rfl (fun c_24 => by exfalso; first | omega | contradiction | exact absurd (by assumption) c_24 | (simp_all; done)) (fun c_24 => ?_)) | refine g_icmp_ge (tgt := 57) (p1 := 27) dX1_search_24 rfl rfl (fun c_24 => by exfalso; first | omega | contradiction | exact absurd (by assumption) c_24 | (simp_all; done)) (fun c_24 => ?_)
    refine g_aload_n (p0 := 28) (i := 0) dX1_search_27 rfl rfl rfl ?_
    refine g_aload_n (p0 := 29) (i := 1) dX1_search_28 rfl rfl rfl ?_
    refine g_iload_n (p0 := 30) (i := 2) dX1_search_29 rfl rfl rfl ?_
    refine g_iload (p0 := 32) dX1_search_30 rfl rfl ?_
    refine g_iload (p0 := 34) dX1_search_32 rfl rfl ?_
    refine g_iconst (p0 := 35) (v := nI 1) dX1_search_34 rfl rfl ?_
    refine g_iload_n (p0 := 36) (i := 3) dX1_search_35 rfl rfl rfl ?_
    refine g_cV6P (p0 := 39) (r1 := mX1_consider) dX1_search_36 lX1_46 vX1_consider (by first | rfl | assumption | exact RW.s (by assumption) | exact TW.s (by assumption)) ⟨_, _, rfl⟩ (FITi rfl rfl) (Nat.le_of_ble_eq_true rfl) (cons_p hC hm (by omega) (by omega) hS (by omega)) rfl ?_
    rintro σ1 hS
    refine g_aload_n (p0 := 40) (i := 0) dX1_search_39 rfl rfl rfl ?_
    refine g_aload_n (p0 := 41) (i := 1) dX1_search_40 rfl rfl rfl ?_
    refine g_iload_n (p0 := 42) (i := 2) dX1_search_41 rfl rfl rfl ?_
    refine g_iload (p0 := 44) dX1_search_42 rfl rfl ?_
    refine g_iload (p0 := 46) dX1_search_44 rfl rfl ?_
    refine g_iconst (p0 := 47) (v := -1) dX1_search_46 rfl rfl ?_
    refine g_iload_n (p0 := 48) (i := 3) dX1_search_47 rfl rfl rfl ?_
    refine g_cV6P (p0 := 51) (r1 := mX1_consider) dX1_search_48 lX1_46 vX1_consider (by first | rfl | assumption | exact RW.s (by assumption) | exact TW.s (by assumption)) ⟨_, _, rfl⟩ (FITi rfl rfl) (Nat.le_of_ble_eq_true rfl) (cons_m hC hm (by omega) (by omega) hS (by omega)) rfl ?_
    rintro σ1 hS
    first | refine g_iinc1 (p0 := 54) (ls2 := [_, _, _, _, _, _]) dX1_search_51 rfl rfl rfl ?_ | refine g_iinc (p0 := 54) (ls2 := [_, _, _, _, _, _]) dX1_search_51 rfl rfl rfl rfl ?_
    refine g_goto (tgt := 21) dX1_search_54 rfl ?_
    refine g_iload (p0 := 23) dX1_search_21 rfl rfl ?_
    refine g_iconst (p0 := 24) (v := nI 2) dX1_search_23 rfl rfl ?_
    first | ((with_reducible refine isN2 ?_); refine g_icmpN_ge (tgt := 57) (p1 := 27) dX1_search_24 rfl (by omega) (by omega) rfl (fun c_24 => by exfalso; first | omega | contradiction | exact absurd (by assumption) c_24 | (simp_all; done)) (fun c_24 => ?_)) | refine g_icmp_ge (tgt := 57) (p1 := 27) dX1_search_24 rfl rfl (fun c_24 => by exfalso; first | omega | contradiction | exact absurd (by assumption) c_24 | (simp_all; done)) (fun c_24 => ?_)
    refine g_aload_n (p0 := 28) (i := 0) dX1_search_27 rfl rfl rfl ?_
    refine g_aload_n (p0 := 29) (i := 1) dX1_search_28 rfl rfl rfl ?_
    refine g_iload_n (p0 := 30) (i := 2) dX1_search_29 rfl rfl rfl ?_
    refine g_iload (p0 := 32) dX1_search_30 rfl rfl ?_
    refine g_iload (p0 := 34) dX1_search_32 rfl rfl ?_
    refine g_iconst (p0 := 35) (v := nI 1) dX1_search_34 rfl rfl ?_
    refine g_iload_n (p0 := 36) (i := 3) dX1_search_35 rfl rfl rfl ?_
    refine g_cV6P (p0 := 39) (r1 := mX1_consider) dX1_search_36 lX1_46 vX1_consider (by first | rfl | assumption | exact RW.s (by assumption) | exact TW.s (by assumption)) ⟨_, _, rfl⟩ (FITi rfl rfl) (Nat.le_of_ble_eq_true rfl) (cons_p hC hm (by omega) (by omega) hS (by omega)) rfl ?_
    rintro σ1 hS
    refine g_aload_n (p0 := 40) (i := 0) dX1_search_39 rfl rfl rfl ?_
    refine g_aload_n (p0 := 41) (i := 1) dX1_search_40 rfl rfl rfl ?_
    refine g_iload_n (p0 := 42) (i := 2) dX1_search_41 rfl rfl rfl ?_
    refine g_iload (p0 := 44) dX1_search_42 rfl rfl ?_
    refine g_iload (p0 := 46) dX1_search_44 rfl rfl ?_
    refine g_iconst (p0 := 47) (v := -1) dX1_search_46 rfl rfl ?_
    refine g_iload_n (p0 := 48) (i := 3) dX1_search_47 rfl rfl rfl ?_
    refine g_cV6P (p0 := 51) (r1 := mX1_consider) dX1_search_48 lX1_46 vX1_consider (by first | rfl | assumption | exact RW.s (by assumption) | exact TW.s (by assumption)) ⟨_, _, rfl⟩ (FITi rfl rfl) (Nat.le_of_ble_eq_true rfl) (cons_m hC hm (by omega) (by omega) hS (by omega)) rfl ?_
    rintro σ1 hS
    first | refine g_iinc1 (p0 := 54) (ls2 := [_, _, _, _, _, _]) dX1_search_51 rfl rfl rfl ?_ | refine g_iinc (p0 := 54) (ls2 := [_, _, _, _, _, _]) dX1_search_51 rfl rfl rfl rfl ?_
    refine g_goto (tgt := 21) dX1_search_54 rfl ?_
    refine g_iload (p0 := 23) dX1_search_21 rfl rfl ?_
    refine g_iconst (p0 := 24) (v := nI 2) dX1_search_23 rfl rfl ?_
    first | ((with_reducible refine isN2 ?_); refine g_icmpN_ge (tgt := 57) (p1 := 27) dX1_search_24 rfl (by omega) (by omega) rfl (fun c_24 => ?_) (fun c_24 => by exfalso; first | omega | contradiction | exact absurd (by assumption) c_24 | (simp_all; done))) | refine g_icmp_ge (tgt := 57) (p1 := 27) dX1_search_24 rfl rfl (fun c_24 => ?_) (fun c_24 => by exfalso; first | omega | contradiction | exact absurd (by assumption) c_24 | (simp_all; done))
    first | refine g_iinc1 (p0 := 60) (ls2 := [_, _, _, _, _, _]) dX1_search_57 rfl rfl rfl ?_ | refine g_iinc (p0 := 60) (ls2 := [_, _, _, _, _, _]) dX1_search_57 rfl rfl rfl rfl ?_
    refine g_goto (tgt := 8) dX1_search_60 rfl ?_
    exact ih (t + 1) (by omega) σ1 hS _
set_option maxRecDepth 20000 in
set_option maxHeartbeats 2000000 in
theorem search_r {σ : Sg} {s M L : Nat} {c fs f n p d g a b : Nat → Nat} {m : Nat} {w : Int32} (hC : CLS σ s M L c fs f n p d g a b) (hm : m < M)  : CM mX1_search [ar 72, ar 33, ai (nI m), ai w] σ (RelV (fun σ1 => CS σ σ1 (FIQ (σ 42) (σ 44) g a b (f m) (n m)) (cdq (σ 44) g a b (f m)) (4 * n m) w)) := by
  refine CM_in (ls := [some (ar 72), some (ar 33), some (ai (nI m)), some (ai w), none, none]) rfl ?_
  refine g_aload_n (p0 := 1) (i := 0) dX1_search_0 rfl rfl rfl ?_
  refine g_iconst (p0 := 2) (v := nI 0) dX1_search_1 rfl rfl ?_
  refine g_put (p0 := 5) dX1_search_2 fX1_24 (by first | rfl | assumption | exact RW.s (by assumption) | exact TW.s (by assumption)) rfl nX1_4 (pX1_4 _) rfl ?_
  refine g_iconst (p0 := 6) (v := nI 0) dX1_search_5 rfl rfl ?_
  refine g_istore (p0 := 8) (i := 4) (ls2 := [_, _, _, _, _, _]) dX1_search_6 (Nat.le_of_ble_eq_true rfl) rfl rfl ?_
  refine search_l (Q := RelV (fun σ1 => CS σ σ1 (FIQ (σ 42) (σ 44) g a b (f m) (n m)) (cdq (σ 44) g a b (f m)) (4 * n m) w)) hC hm (fun σ1 hS => ⟨rfl, hS⟩) (n m) 0 (by omega) _ ⟨fun z hz => up_ne hz, ?_, fun q hq => absurd hq (Nat.not_lt_zero q)⟩ _
  rw [up_hit]
  rfl
