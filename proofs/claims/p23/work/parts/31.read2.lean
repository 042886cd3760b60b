/-! THE CLASS: out of the rows of whole -/
theorem LT.cong {σ : Sg} {L L' : Nat} {g a b g' a' b' : Nat → Nat} (h : LT σ L g a b) (e : L = L') (hg : ∀ l, l < L → g l = g' l) (ha : ∀ l, l < L → a l = a' l) (hb : ∀ l, l < L → b l = b' l) : LT σ L' g' a' b' := by
  subst e
  refine ⟨h.1, fun l hl => ?_⟩
  rw [← hg l hl, ← ha l hl, ← hb l hl]
  exact h.2 l hl
theorem MT.cong {σ : Sg} {M M' : Nat} {s f n p d s' f' n' p' d' : Nat → Nat} (h : MT σ M s f n p d) (e : M = M') (h1 : ∀ m, m < M → s m = s' m) (h2 : ∀ m, m < M → f m = f' m) (h3 : ∀ m, m < M → n m = n' m) (h4 : ∀ m, m < M → p m = p' m) (h5 : ∀ m, m < M → d m = d' m) : MT σ M' s' f' n' p' d' := by
  subst e
  refine ⟨h.1, fun m hm => ?_⟩
  rw [← h1 m hm, ← h2 m hm, ← h3 m hm, ← h4 m hm, ← h5 m hm]
  exact h.2 m hm
theorem gr_pos (c : Nat → Nat) : ∀ k l, l < Lc c k → 1 ≤ gr c k l
  | 0, l, h => absurd h (Nat.not_lt_zero l)
  | k + 1, l, h => by
    have ih := gr_pos c k l
    rw [Lc] at h
    rw [gr]
    split
    · next h4 =>
      rw [if_pos h4] at h
      split
      · exact Nat.le_refl 1
      · exact ih (by omega)
    · next h4 =>
      rw [if_neg h4] at h
      split
      · omega
      · exact ih h
theorem gr_le (c : Nat → Nat) : ∀ k l, gr c k l ≤ k
  | 0, l => Nat.le_refl 0
  | k + 1, l => by
    have ih := gr_le c k l
    rw [gr]
    split
    · split <;> omega
    · split <;> omega
theorem ln_pos (c : Nat → Nat) : ∀ k m, m < Mc c k → 1 ≤ ln c k m
  | 0, m, h => absurd h (Nat.not_lt_zero m)
  | k + 1, m, h => by
    have ih := ln_pos c k m
    rw [Mc] at h
    rw [ln]
    split
    · exact Nat.le_refl 1
    · next h5 =>
      have h2 : m < Mc c k := by
        split at h
        · next h6 =>
          have : ¬ m = Mc c k := fun e => h5 ⟨h6, e⟩
          omega
        · exact h
      split
      · omega
      · exact ih h2
def dbh (c d : Nat → Nat) (k m : Nat) : Nat := if c k = 5 ∧ m = Mc c k then 0 else db c d k m
set_option maxRecDepth 20000 in
set_option maxHeartbeats 2000000 in
theorem noteGap_0 {k : Nat} {g bt tl : Int32} {σ : Sg} (hk : k < 160) (hb : σ 1 3 = bt) (ht : σ 1 4 = tl) (h1 : cs bt g = cs bt (g - tl)) (h2 : cs bt g = cs bt (g + tl)) : CM mX6_noteGap [ar 33, ai (nI k), ai g, ar 1] σ (RetV (up (up (up σ 61 k g) 63 k (nI (cs bt g))) 65 k (nI 0))) := by
  have q1 := cs_le bt g
  have q2 := cs_le bt (g - tl)
  have q3 := cs_le bt (g + tl)
  refine CM_in (ls := [some (ar 33), some (ai (nI k)), some (ai g), some (ar 1), none, none]) rfl ?_
  refine g_aload_n (p0 := 1) (i := 0) dX6_noteGap_0 rfl rfl rfl ?_
  refine g_iload_n (p0 := 2) (i := 2) dX6_noteGap_1 rfl rfl rfl ?_
  refine g_aload_n (p0 := 3) (i := 3) dX6_noteGap_2 rfl rfl rfl ?_
  refine g_getI (p0 := 6) dX6_noteGap_3 fX6_96 (by first | rfl | assumption | exact RW.s (by assumption) | exact TW.s (by assumption)) rfl (by first | assumption | ((repeat (first | exact up_hit | refine up_nv (by decide) ?_ | refine up_mv (by first | decide | omega) ?_)) <;> first | assumption | rfl)) rfl ?_
  refine g_cV2R (p0 := 9) (r1 := mX6_caseOf) dX6_noteGap_6 lX6_99 vX6_caseOf (by first | rfl | assumption | exact RW.s (by assumption) | exact TW.s (by assumption)) ⟨_, _, rfl⟩ (FITi rfl rfl) (Nat.le_of_ble_eq_true rfl) (caseOf_sp) rfl ?_
  refine g_istore (p0 := 11) (i := 4) (ls2 := [_, _, _, _, _, _]) dX6_noteGap_9 (Nat.le_of_ble_eq_true rfl) rfl rfl ?_
  refine g_iload (p0 := 13) dX6_noteGap_11 rfl rfl ?_
  refine g_aload_n (p0 := 14) (i := 0) dX6_noteGap_13 rfl rfl rfl ?_
  refine g_iload_n (p0 := 15) (i := 2) dX6_noteGap_14 rfl rfl rfl ?_
  refine g_aload_n (p0 := 16) (i := 3) dX6_noteGap_15 rfl rfl rfl ?_
  refine g_getI (p0 := 19) dX6_noteGap_16 fX6_103 (by first | rfl | assumption | exact RW.s (by assumption) | exact TW.s (by assumption)) rfl (by first | assumption | ((repeat (first | exact up_hit | refine up_nv (by decide) ?_ | refine up_mv (by first | decide | omega) ?_)) <;> first | assumption | rfl)) rfl ?_
  first | ((with_reducible refine isN2 ?_); refine g_isubN (p0 := 20) dX6_noteGap_19 (by omega) rfl ?_) | refine g_isub (p0 := 20) dX6_noteGap_19 rfl ?_
  refine g_aload_n (p0 := 21) (i := 3) dX6_noteGap_20 rfl rfl rfl ?_
  refine g_getI (p0 := 24) dX6_noteGap_21 fX6_96 (by first | rfl | assumption | exact RW.s (by assumption) | exact TW.s (by assumption)) rfl (by first | assumption | ((repeat (first | exact up_hit | refine up_nv (by decide) ?_ | refine up_mv (by first | decide | omega) ?_)) <;> first | assumption | rfl)) rfl ?_
  refine g_cV2R (p0 := 27) (r1 := mX6_caseOf) dX6_noteGap_24 lX6_99 vX6_caseOf (by first | rfl | assumption | exact RW.s (by assumption) | exact TW.s (by assumption)) ⟨_, _, rfl⟩ (FITi rfl rfl) (Nat.le_of_ble_eq_true rfl) (caseOf_sp) rfl ?_
  first | ((with_reducible refine isN2 ?_); refine g_icmpN_ne (tgt := 49) (p1 := 30) dX6_noteGap_27 rfl (by omega) (by omega) rfl (fun c_27 => by exfalso; first | omega | contradiction | exact absurd (by assumption) c_27 | (simp_all; done)) (fun c_27 => ?_)) | refine g_icmp_ne (tgt := 49) (p1 := 30) dX6_noteGap_27 rfl rfl (fun c_27 => by exfalso; first | omega | contradiction | exact absurd (by assumption) c_27 | (simp_all; done)) (fun c_27 => ?_)
  refine g_iload (p0 := 32) dX6_noteGap_30 rfl rfl ?_
  refine g_aload_n (p0 := 33) (i := 0) dX6_noteGap_32 rfl rfl rfl ?_
  refine g_iload_n (p0 := 34) (i := 2) dX6_noteGap_33 rfl rfl rfl ?_
  refine g_aload_n (p0 := 35) (i := 3) dX6_noteGap_34 rfl rfl rfl ?_
  refine g_getI (p0 := 38) dX6_noteGap_35 fX6_103 (by first | rfl | assumption | exact RW.s (by assumption) | exact TW.s (by assumption)) rfl (by first | assumption | ((repeat (first | exact up_hit | refine up_nv (by decide) ?_ | refine up_mv (by first | decide | omega) ?_)) <;> first | assumption | rfl)) rfl ?_
  first | ((with_reducible refine isN2 ?_); refine g_iaddN (p0 := 39) dX6_noteGap_38 rfl ?_) | refine g_iadd (p0 := 39) dX6_noteGap_38 rfl ?_
  refine g_aload_n (p0 := 40) (i := 3) dX6_noteGap_39 rfl rfl rfl ?_
  refine g_getI (p0 := 43) dX6_noteGap_40 fX6_96 (by first | rfl | assumption | exact RW.s (by assumption) | exact TW.s (by assumption)) rfl (by first | assumption | ((repeat (first | exact up_hit | refine up_nv (by decide) ?_ | refine up_mv (by first | decide | omega) ?_)) <;> first | assumption | rfl)) rfl ?_
  refine g_cV2R (p0 := 46) (r1 := mX6_caseOf) dX6_noteGap_43 lX6_99 vX6_caseOf (by first | rfl | assumption | exact RW.s (by assumption) | exact TW.s (by assumption)) ⟨_, _, rfl⟩ (FITi rfl rfl) (Nat.le_of_ble_eq_true rfl) (caseOf_sp) rfl ?_
  first | ((with_reducible refine isN2 ?_); refine g_icmpN_eq (tgt := 53) (p1 := 49) dX6_noteGap_46 rfl (by omega) (by omega) rfl (fun c_46 => ?_) (fun c_46 => by exfalso; first | omega | contradiction | exact absurd (by assumption) c_46 | (simp_all; done))) | refine g_icmp_eq (tgt := 53) (p1 := 49) dX6_noteGap_46 rfl rfl (fun c_46 => ?_) (fun c_46 => by exfalso; first | omega | contradiction | exact absurd (by assumption) c_46 | (simp_all; done))
  refine g_iconst (p0 := 54) (v := nI 0) dX6_noteGap_53 rfl rfl ?_
  refine g_istore (p0 := 56) (i := 5) (ls2 := [_, _, _, _, _, _]) dX6_noteGap_54 (Nat.le_of_ble_eq_true rfl) rfl rfl ?_
  refine g_aload_n (p0 := 57) (i := 0) dX6_noteGap_56 rfl rfl rfl ?_
  refine g_getR (p0 := 60) dX6_noteGap_57 fX6_30 (by first | rfl | assumption | exact RW.s (by assumption) | exact TW.s (by assumption)) rfl rfl ?_
  refine g_iload_n (p0 := 61) (i := 1) dX6_noteGap_60 rfl rfl rfl ?_
  refine g_iload_n (p0 := 62) (i := 2) dX6_noteGap_61 rfl rfl rfl ?_
  refine g_cV2V (p0 := 65) (r1 := mX7_put) dX6_noteGap_62 lX6_72 vX7_put (by first | rfl | assumption | exact RW.s (by assumption) | exact TW.s (by assumption)) ⟨_, _, rfl⟩ (FITi rfl rfl) (Nat.le_of_ble_eq_true rfl) (put_N (by first | exact ⟨rfl, rfl, by decide⟩ | assumption) (by omega)) rfl ?_
  refine g_aload_n (p0 := 66) (i := 0) dX6_noteGap_65 rfl rfl rfl ?_
  refine g_getR (p0 := 69) dX6_noteGap_66 fX6_34 (by first | rfl | assumption | exact RW.s (by assumption) | exact TW.s (by assumption)) rfl rfl ?_
  refine g_iload_n (p0 := 70) (i := 1) dX6_noteGap_69 rfl rfl rfl ?_
  refine g_iload (p0 := 72) dX6_noteGap_70 rfl rfl ?_
  refine g_cV2V (p0 := 75) (r1 := mX7_put) dX6_noteGap_72 lX6_72 vX7_put (by first | rfl | assumption | exact RW.s (by assumption) | exact TW.s (by assumption)) ⟨_, _, rfl⟩ (FITi rfl rfl) (Nat.le_of_ble_eq_true rfl) (put_N (by first | exact ⟨rfl, rfl, by decide⟩ | assumption) (by omega)) rfl ?_
  refine g_aload_n (p0 := 76) (i := 0) dX6_noteGap_75 rfl rfl rfl ?_
  refine g_getR (p0 := 79) dX6_noteGap_76 fX6_37 (by first | rfl | assumption | exact RW.s (by assumption) | exact TW.s (by assumption)) rfl rfl ?_
  refine g_iload_n (p0 := 80) (i := 1) dX6_noteGap_79 rfl rfl rfl ?_
  refine g_iload (p0 := 82) dX6_noteGap_80 rfl rfl ?_
  first | ((with_reducible refine isN1 ?_); refine g_ifN_eq (tgt := 89) (p1 := 85) dX6_noteGap_82 rfl (by omega) rfl (fun c_82 => ?_) (fun c_82 => by exfalso; first | omega | contradiction | exact absurd (by assumption) c_82 | (simp_all; done))) | refine g_if_eq (tgt := 89) (p1 := 85) dX6_noteGap_82 rfl rfl (fun c_82 => ?_) (fun c_82 => by exfalso; first | omega | contradiction | exact absurd (by assumption) c_82 | (simp_all; done))
  refine g_iconst (p0 := 90) (v := nI 0) dX6_noteGap_89 rfl rfl ?_
  refine g_cV2V (p0 := 93) (r1 := mX7_put) dX6_noteGap_90 lX6_72 vX7_put (by first | rfl | assumption | exact RW.s (by assumption) | exact TW.s (by assumption)) ⟨_, _, rfl⟩ (FITi rfl rfl) (Nat.le_of_ble_eq_true rfl) (put_N (by first | exact ⟨rfl, rfl, by decide⟩ | assumption) (by omega)) rfl ?_
  refine g_return dX6_noteGap_93 rfl ?_
  exact ⟨rfl, rfl⟩
set_option maxRecDepth 20000 in
set_option maxHeartbeats 2000000 in
theorem noteGap_1a {k : Nat} {g bt tl : Int32} {σ : Sg} (hk : k < 160) (hb : σ 1 3 = bt) (ht : σ 1 4 = tl) (h1 : ¬ cs bt g = cs bt (g - tl)) : CM mX6_noteGap [ar 33, ai (nI k), ai g, ar 1] σ (RetV (up (up (up σ 61 k g) 63 k (nI (cs bt g))) 65 k (nI 1))) := by
  have q1 := cs_le bt g
  have q2 := cs_le bt (g - tl)
  have q3 := cs_le bt (g + tl)
  refine CM_in (ls := [some (ar 33), some (ai (nI k)), some (ai g), some (ar 1), none, none]) rfl ?_
  refine g_aload_n (p0 := 1) (i := 0) dX6_noteGap_0 rfl rfl rfl ?_
  refine g_iload_n (p0 := 2) (i := 2) dX6_noteGap_1 rfl rfl rfl ?_
  refine g_aload_n (p0 := 3) (i := 3) dX6_noteGap_2 rfl rfl rfl ?_
  refine g_getI (p0 := 6) dX6_noteGap_3 fX6_96 (by first | rfl | assumption | exact RW.s (by assumption) | exact TW.s (by assumption)) rfl (by first | assumption | ((repeat (first | exact up_hit | refine up_nv (by decide) ?_ | refine up_mv (by first | decide | omega) ?_)) <;> first | assumption | rfl)) rfl ?_
  refine g_cV2R (p0 := 9) (r1 := mX6_caseOf) dX6_noteGap_6 lX6_99 vX6_caseOf (by first | rfl | assumption | exact RW.s (by assumption) | exact TW.s (by assumption)) ⟨_, _, rfl⟩ (FITi rfl rfl) (Nat.le_of_ble_eq_true rfl) (caseOf_sp) rfl ?_
  refine g_istore (p0 := 11) (i := 4) (ls2 := [_, _, _, _, _, _]) dX6_noteGap_9 (Nat.le_of_ble_eq_true rfl) rfl rfl ?_
  refine g_iload (p0 := 13) dX6_noteGap_11 rfl rfl ?_
  refine g_aload_n (p0 := 14) (i := 0) dX6_noteGap_13 rfl rfl rfl ?_
  refine g_iload_n (p0 := 15) (i := 2) dX6_noteGap_14 rfl rfl rfl ?_
  refine g_aload_n (p0 := 16) (i := 3) dX6_noteGap_15 rfl rfl rfl ?_
  refine g_getI (p0 := 19) dX6_noteGap_16 fX6_103 (by first | rfl | assumption | exact RW.s (by assumption) | exact TW.s (by assumption)) rfl (by first | assumption | ((repeat (first | exact up_hit | refine up_nv (by decide) ?_ | refine up_mv (by first | decide | omega) ?_)) <;> first | assumption | rfl)) rfl ?_
  first | ((with_reducible refine isN2 ?_); refine g_isubN (p0 := 20) dX6_noteGap_19 (by omega) rfl ?_) | refine g_isub (p0 := 20) dX6_noteGap_19 rfl ?_
  refine g_aload_n (p0 := 21) (i := 3) dX6_noteGap_20 rfl rfl rfl ?_
  refine g_getI (p0 := 24) dX6_noteGap_21 fX6_96 (by first | rfl | assumption | exact RW.s (by assumption) | exact TW.s (by assumption)) rfl (by first | assumption | ((repeat (first | exact up_hit | refine up_nv (by decide) ?_ | refine up_mv (by first | decide | omega) ?_)) <;> first | assumption | rfl)) rfl ?_
  refine g_cV2R (p0 := 27) (r1 := mX6_caseOf) dX6_noteGap_24 lX6_99 vX6_caseOf (by first | rfl | assumption | exact RW.s (by assumption) | exact TW.s (by assumption)) ⟨_, _, rfl⟩ (FITi rfl rfl) (Nat.le_of_ble_eq_true rfl) (caseOf_sp) rfl ?_
  first | ((with_reducible refine isN2 ?_); refine g_icmpN_ne (tgt := 49) (p1 := 30) dX6_noteGap_27 rfl (by omega) (by omega) rfl (fun c_27 => ?_) (fun c_27 => by exfalso; first | omega | contradiction | exact absurd (by assumption) c_27 | (simp_all; done))) | refine g_icmp_ne (tgt := 49) (p1 := 30) dX6_noteGap_27 rfl rfl (fun c_27 => ?_) (fun c_27 => by exfalso; first | omega | contradiction | exact absurd (by assumption) c_27 | (simp_all; done))
  refine g_iconst (p0 := 50) (v := nI 1) dX6_noteGap_49 rfl rfl ?_
  refine g_goto (tgt := 54) dX6_noteGap_50 rfl ?_
  refine g_istore (p0 := 56) (i := 5) (ls2 := [_, _, _, _, _, _]) dX6_noteGap_54 (Nat.le_of_ble_eq_true rfl) rfl rfl ?_
  refine g_aload_n (p0 := 57) (i := 0) dX6_noteGap_56 rfl rfl rfl ?_
  refine g_getR (p0 := 60) dX6_noteGap_57 fX6_30 (by first | rfl | assumption | exact RW.s (by assumption) | exact TW.s (by assumption)) rfl rfl ?_
  refine g_iload_n (p0 := 61) (i := 1) dX6_noteGap_60 rfl rfl rfl ?_
  refine g_iload_n (p0 := 62) (i := 2) dX6_noteGap_61 rfl rfl rfl ?_
  refine g_cV2V (p0 := 65) (r1 := mX7_put) dX6_noteGap_62 lX6_72 vX7_put (by first | rfl | assumption | exact RW.s (by assumption) | exact TW.s (by assumption)) ⟨_, _, rfl⟩ (FITi rfl rfl) (Nat.le_of_ble_eq_true rfl) (put_N (by first | exact ⟨rfl, rfl, by decide⟩ | assumption) (by omega)) rfl ?_
  refine g_aload_n (p0 := 66) (i := 0) dX6_noteGap_65 rfl rfl rfl ?_
  refine g_getR (p0 := 69) dX6_noteGap_66 fX6_34 (by first | rfl | assumption | exact RW.s (by assumption) | exact TW.s (by assumption)) rfl rfl ?_
  refine g_iload_n (p0 := 70) (i := 1) dX6_noteGap_69 rfl rfl rfl ?_
  refine g_iload (p0 := 72) dX6_noteGap_70 rfl rfl ?_
  refine g_cV2V (p0 := 75) (r1 := mX7_put) dX6_noteGap_72 lX6_72 vX7_put (by first | rfl | assumption | exact RW.s (by assumption) | exact TW.s (by assumption)) ⟨_, _, rfl⟩ (FITi rfl rfl) (Nat.le_of_ble_eq_true rfl) (put_N (by first | exact ⟨rfl, rfl, by decide⟩ | assumption) (by omega)) rfl ?_
  refine g_aload_n (p0 := 76) (i := 0) dX6_noteGap_75 rfl rfl rfl ?_
  refine g_getR (p0 := 79) dX6_noteGap_76 fX6_37 (by first | rfl | assumption | exact RW.s (by assumption) | exact TW.s (by assumption)) rfl rfl ?_
  refine g_iload_n (p0 := 80) (i := 1) dX6_noteGap_79 rfl rfl rfl ?_
  refine g_iload (p0 := 82) dX6_noteGap_80 rfl rfl ?_
  first | ((with_reducible refine isN1 ?_); refine g_ifN_eq (tgt := 89) (p1 := 85) dX6_noteGap_82 rfl (by omega) rfl (fun c_82 => by exfalso; first | omega | contradiction | exact absurd (by assumption) c_82 | (simp_all; done)) (fun c_82 => ?_)) | refine g_if_eq (tgt := 89) (p1 := 85) dX6_noteGap_82 rfl rfl (fun c_82 => by exfalso; first | omega | contradiction | exact absurd (by assumption) c_82 | (simp_all; done)) (fun c_82 => ?_)
  refine g_iconst (p0 := 86) (v := nI 1) dX6_noteGap_85 rfl rfl ?_
  refine g_goto (tgt := 90) dX6_noteGap_86 rfl ?_
  refine g_cV2V (p0 := 93) (r1 := mX7_put) dX6_noteGap_90 lX6_72 vX7_put (by first | rfl | assumption | exact RW.s (by assumption) | exact TW.s (by assumption)) ⟨_, _, rfl⟩ (FITi rfl rfl) (Nat.le_of_ble_eq_true rfl) (put_N (by first | exact ⟨rfl, rfl, by decide⟩ | assumption) (by omega)) rfl ?_
  refine g_return dX6_noteGap_93 rfl ?_
  exact ⟨rfl, rfl⟩
set_option maxRecDepth 20000 in
set_option maxHeartbeats 2000000 in
theorem noteGap_1b {k : Nat} {g bt tl : Int32} {σ : Sg} (hk : k < 160) (hb : σ 1 3 = bt) (ht : σ 1 4 = tl) (h1 : cs bt g = cs bt (g - tl)) (h2 : ¬ cs bt g = cs bt (g + tl)) : CM mX6_noteGap [ar 33, ai (nI k), ai g, ar 1] σ (RetV (up (up (up σ 61 k g) 63 k (nI (cs bt g))) 65 k (nI 1))) := by
  have q1 := cs_le bt g
  have q2 := cs_le bt (g - tl)
  have q3 := cs_le bt (g + tl)
  refine CM_in (ls := [some (ar 33), some (ai (nI k)), some (ai g), some (ar 1), none, none]) rfl ?_
  refine g_aload_n (p0 := 1) (i := 0) dX6_noteGap_0 rfl rfl rfl ?_
  refine g_iload_n (p0 := 2) (i := 2) dX6_noteGap_1 rfl rfl rfl ?_
  refine g_aload_n (p0 := 3) (i := 3) dX6_noteGap_2 rfl rfl rfl ?_
  refine g_getI (p0 := 6) dX6_noteGap_3 fX6_96 (by first | rfl | assumption | exact RW.s (by assumption) | exact TW.s (by assumption)) rfl (by first | assumption | ((repeat (first | exact up_hit | refine up_nv (by decide) ?_ | refine up_mv (by first | decide | omega) ?_)) <;> first | assumption | rfl)) rfl ?_
  refine g_cV2R (p0 := 9) (r1 := mX6_caseOf) dX6_noteGap_6 lX6_99 vX6_caseOf (by first | rfl | assumption | exact RW.s (by assumption) | exact TW.s (by assumption)) ⟨_, _, rfl⟩ (FITi rfl rfl) (Nat.le_of_ble_eq_true rfl) (caseOf_sp) rfl ?_
  refine g_istore (p0 := 11) (i := 4) (ls2 := [_, _, _, _, _, _]) dX6_noteGap_9 (Nat.le_of_ble_eq_true rfl) rfl rfl ?_
  refine g_iload (p0 := 13) dX6_noteGap_11 rfl rfl ?_
  refine g_aload_n (p0 := 14) (i := 0) dX6_noteGap_13 rfl rfl rfl ?_
  refine g_iload_n (p0 := 15) (i := 2) dX6_noteGap_14 rfl rfl rfl ?_
  refine g_aload_n (p0 := 16) (i := 3) dX6_noteGap_15 rfl rfl rfl ?_
  refine g_getI (p0 := 19) dX6_noteGap_16 fX6_103 (by first | rfl | assumption | exact RW.s (by assumption) | exact TW.s (by assumption)) rfl (by first | assumption | ((repeat (first | exact up_hit | refine up_nv (by decide) ?_ | refine up_mv (by first | decide | omega) ?_)) <;> first | assumption | rfl)) rfl ?_
  first | ((with_reducible refine isN2 ?_); refine g_isubN (p0 := 20) dX6_noteGap_19 (by omega) rfl ?_) | refine g_isub (p0 := 20) dX6_noteGap_19 rfl ?_
  refine g_aload_n (p0 := 21) (i := 3) dX6_noteGap_20 rfl rfl rfl ?_
  refine g_getI (p0 := 24) dX6_noteGap_21 fX6_96 (by first | rfl | assumption | exact RW.s (by assumption) | exact TW.s (by assumption)) rfl (by first | assumption | ((repeat (first | exact up_hit | refine up_nv (by decide) ?_ | refine up_mv (by first | decide | omega) ?_)) <;> first | assumption | rfl)) rfl ?_
  refine g_cV2R (p0 := 27) (r1 := mX6_caseOf) dX6_noteGap_24 lX6_99 vX6_caseOf (by first | rfl | assumption | exact RW.s (by assumption) | exact TW.s (by assumption)) ⟨_, _, rfl⟩ (FITi rfl rfl) (Nat.le_of_ble_eq_true rfl) (caseOf_sp) rfl ?_
  first | ((with_reducible refine isN2 ?_); refine g_icmpN_ne (tgt := 49) (p1 := 30) dX6_noteGap_27 rfl (by omega) (by omega) rfl (fun c_27 => by exfalso; first | omega | contradiction | exact absurd (by assumption) c_27 | (simp_all; done)) (fun c_27 => ?_)) | refine g_icmp_ne (tgt := 49) (p1 := 30) dX6_noteGap_27 rfl rfl (fun c_27 => by exfalso; first | omega | contradiction | exact absurd (by assumption) c_27 | (simp_all; done)) (fun c_27 => ?_)
  refine g_iload (p0 := 32) dX6_noteGap_30 rfl rfl ?_
  refine g_aload_n (p0 := 33) (i := 0) dX6_noteGap_32 rfl rfl rfl ?_
  refine g_iload_n (p0 := 34) (i := 2) dX6_noteGap_33 rfl rfl rfl ?_
  refine g_aload_n (p0 := 35) (i := 3) dX6_noteGap_34 rfl rfl rfl ?_
  refine g_getI (p0 := 38) dX6_noteGap_35 fX6_103 (by first | rfl | assumption | exact RW.s (by assumption) | exact TW.s (by assumption)) rfl (by first | assumption | ((repeat (first | exact up_hit | refine up_nv (by decide) ?_ | refine up_mv (by first | decide | omega) ?_)) <;> first | assumption | rfl)) rfl ?_
  first | ((with_reducible refine isN2 ?_); refine g_iaddN (p0 := 39) dX6_noteGap_38 rfl ?_) | refine g_iadd (p0 := 39) dX6_noteGap_38 rfl ?_
  refine g_aload_n (p0 := 40) (i := 3) dX6_noteGap_39 rfl rfl rfl ?_
  refine g_getI (p0 := 43) dX6_noteGap_40 fX6_96 (by first | rfl | assumption | exact RW.s (by assumption) | exact TW.s (by assumption)) rfl (by first | assumption | ((repeat (first | exact up_hit | refine up_nv (by decide) ?_ | refine up_mv (by first | decide | omega) ?_)) <;> first | assumption | rfl)) rfl ?_
  refine g_cV2R (p0 := 46) (r1 := mX6_caseOf) dX6_noteGap_43 lX6_99 vX6_caseOf (by first | rfl | assumption | exact RW.s (by assumption) | exact TW.s (by assumption)) ⟨_, _, rfl⟩ (FITi rfl rfl) (Nat.le_of_ble_eq_true rfl) (caseOf_sp) rfl ?_
  first | ((with_reducible refine isN2 ?_); refine g_icmpN_eq (tgt := 53) (p1 := 49) dX6_noteGap_46 rfl (by omega) (by omega) rfl (fun c_46 => by exfalso; first | omega | contradiction | exact absurd (by assumption) c_46 | (simp_all; done)) (fun c_46 => ?_)) | refine g_icmp_eq (tgt := 53) (p1 := 49) dX6_noteGap_46 rfl rfl (fun c_46 => by exfalso; first | omega | contradiction | exact absurd (by assumption) c_46 | (simp_all; done)) (fun c_46 => ?_)
  refine g_iconst (p0 := 50) (v := nI 1) dX6_noteGap_49 rfl rfl ?_
  refine g_goto (tgt := 54) dX6_noteGap_50 rfl ?_
  refine g_istore (p0 := 56) (i := 5) (ls2 := [_, _, _, _, _, _]) dX6_noteGap_54 (Nat.le_of_ble_eq_true rfl) rfl rfl ?_
  refine g_aload_n (p0 := 57) (i := 0) dX6_noteGap_56 rfl rfl rfl ?_
  refine g_getR (p0 := 60) dX6_noteGap_57 fX6_30 (by first | rfl | assumption | exact RW.s (by assumption) | exact TW.s (by assumption)) rfl rfl ?_
  refine g_iload_n (p0 := 61) (i := 1) dX6_noteGap_60 rfl rfl rfl ?_
  refine g_iload_n (p0 := 62) (i := 2) dX6_noteGap_61 rfl rfl rfl ?_
  refine g_cV2V (p0 := 65) (r1 := mX7_put) dX6_noteGap_62 lX6_72 vX7_put (by first | rfl | assumption | exact RW.s (by assumption) | exact TW.s (by assumption)) ⟨_, _, rfl⟩ (FITi rfl rfl) (Nat.le_of_ble_eq_true rfl) (put_N (by first | exact ⟨rfl, rfl, by decide⟩ | assumption) (by omega)) rfl ?_
  refine g_aload_n (p0 := 66) (i := 0) dX6_noteGap_65 rfl rfl rfl ?_
  refine g_getR (p0 := 69) dX6_noteGap_66 fX6_34 (by first | rfl | assumption | exact RW.s (by assumption) | exact TW.s (by assumption)) rfl rfl ?_
  refine g_iload_n (p0 := 70) (i := 1) dX6_noteGap_69 rfl rfl rfl ?_
  refine g_iload (p0 := 72) dX6_noteGap_70 rfl rfl ?_
  refine g_cV2V (p0 := 75) (r1 := mX7_put) dX6_noteGap_72 lX6_72 vX7_put (by first | rfl | assumption | exact RW.s (by assumption) | exact TW.s (by assumption)) ⟨_, _, rfl⟩ (FITi rfl rfl) (Nat.le_of_ble_eq_true rfl) (put_N (by first | exact ⟨rfl, rfl, by decide⟩ | assumption) (by omega)) rfl ?_
  refine g_aload_n (p0 := 76) (i := 0) dX6_noteGap_75 rfl rfl rfl ?_
  refine g_getR (p0 := 79) dX6_noteGap_76 fX6_37 (by first | rfl | assumption | exact RW.s (by assumption) | exact TW.s (by assumption)) rfl rfl ?_
  refine g_iload_n (p0 := 80) (i := 1) dX6_noteGap_79 rfl rfl rfl ?_
  refine g_iload (p0 := 82) dX6_noteGap_80 rfl rfl ?_
  first | ((with_reducible refine isN1 ?_); refine g_ifN_eq (tgt := 89) (p1 := 85) dX6_noteGap_82 rfl (by omega) rfl (fun c_82 => by exfalso; first | omega | contradiction | exact absurd (by assumption) c_82 | (simp_all; done)) (fun c_82 => ?_)) | refine g_if_eq (tgt := 89) (p1 := 85) dX6_noteGap_82 rfl rfl (fun c_82 => by exfalso; first | omega | contradiction | exact absurd (by assumption) c_82 | (simp_all; done)) (fun c_82 => ?_)
  refine g_iconst (p0 := 86) (v := nI 1) dX6_noteGap_85 rfl rfl ?_
  refine g_goto (tgt := 90) dX6_noteGap_86 rfl ?_
  refine g_cV2V (p0 := 93) (r1 := mX7_put) dX6_noteGap_90 lX6_72 vX7_put (by first | rfl | assumption | exact RW.s (by assumption) | exact TW.s (by assumption)) ⟨_, _, rfl⟩ (FITi rfl rfl) (Nat.le_of_ble_eq_true rfl) (put_N (by first | exact ⟨rfl, rfl, by decide⟩ | assumption) (by omega)) rfl ?_
  refine g_return dX6_noteGap_93 rfl ?_
  exact ⟨rfl, rfl⟩
/-- whether a gap is doubtful -/
def dbt (bt tl g : Int32) : Nat := if cs bt g = cs bt (g - tl) ∧ cs bt g = cs bt (g + tl) then 0 else 1
theorem noteGap_sp {k : Nat} {g bt tl : Int32} {σ : Sg} (hk : k < 160) (hb : σ 1 3 = bt) (ht : σ 1 4 = tl) : CM mX6_noteGap [ar 33, ai (nI k), ai g, ar 1] σ (RetV (up (up (up σ 61 k g) 63 k (nI (cs bt g))) 65 k (nI (dbt bt tl g)))) := by
  by_cases h1 : cs bt g = cs bt (g - tl)
  · by_cases h2 : cs bt g = cs bt (g + tl)
    · rw [dbt, if_pos ⟨h1, h2⟩]
      exact noteGap_0 hk hb ht h1 h2
    · rw [dbt, if_neg (fun q => h2 q.2)]
      exact noteGap_1b hk hb ht h1 h2
  · rw [dbt, if_neg (fun q => h1 q.1)]
    exact noteGap_1a hk hb ht h1
set_option maxRecDepth 20000 in
set_option maxHeartbeats 2000000 in
theorem beginLetter_r {L M : Nat} {g a b s f n p d : Nat → Nat} {σ : Sg} (hL : LT σ L g a b) (hM : MT σ (M + 1) s f n p d) (hl : L < 160) (hm : M < 160) : CM mX6_beginLetter [ar 33] σ (RelV (fun σ' => LT σ' (L + 1) (nu g L 1) (nu a L 1) (nu b L 0) ∧ MT σ' (M + 1) s f (nu n M (n M + 1)) p d ∧ ∀ c, c ≠ 34 → c ≠ 36 → c ≠ 38 → c ≠ 40 → c ≠ 51 → σ' c = σ c)) := by
  refine CM_in (ls := [some (ar 33)]) rfl ?_
  refine g_aload_n (p0 := 1) (i := 0) dX6_beginLetter_0 rfl rfl rfl ?_
  refine g_getR (p0 := 4) dX6_beginLetter_1 fX6_12 (by first | rfl | assumption | exact RW.s (by assumption) | exact TW.s (by assumption)) rfl rfl ?_
  refine g_cV0P (p0 := 7) (r1 := mX3_begin) dX6_beginLetter_4 lX6_126 vX3_begin (by first | rfl | assumption | exact RW.s (by assumption) | exact TW.s (by assumption)) ⟨_, _, rfl⟩ (FITi rfl rfl) (Nat.le_of_ble_eq_true rfl) (begin_r hL hl) rfl ?_
  rintro σ1 ⟨hL1, fr1⟩
  have hM1 : MT σ1 (M + 1) s f n p d := hM.of_eq (fr1 _ (by decide) (by decide) (by decide) (by decide)) (fr1 _ (by decide) (by decide) (by decide) (by decide)) (fr1 _ (by decide) (by decide) (by decide) (by decide)) (fr1 _ (by decide) (by decide) (by decide) (by decide)) (fr1 _ (by decide) (by decide) (by decide) (by decide)) (fr1 _ (by decide) (by decide) (by decide) (by decide)) (fr1 _ (by decide) (by decide) (by decide) (by decide)) (fr1 _ (by decide) (by decide) (by decide) (by decide))
  refine g_aload_n (p0 := 8) (i := 0) dX6_beginLetter_7 rfl rfl rfl ?_
  refine g_getR (p0 := 11) dX6_beginLetter_8 fX6_21 (by first | rfl | assumption | exact RW.s (by assumption) | exact TW.s (by assumption)) rfl rfl ?_
  refine g_aload_n (p0 := 12) (i := 0) dX6_beginLetter_11 rfl rfl rfl ?_
  refine g_getR (p0 := 15) dX6_beginLetter_12 fX6_21 (by first | rfl | assumption | exact RW.s (by assumption) | exact TW.s (by assumption)) rfl rfl ?_
  refine g_getR (p0 := 18) dX6_beginLetter_15 fX6_128 (by first | rfl | assumption | exact RW.s (by assumption) | exact TW.s (by assumption)) rfl rfl ?_
  refine g_cV1P (p0 := 21) (r1 := mX4_addTo) dX6_beginLetter_18 lX6_112 vX4_addTo (by first | rfl | assumption | exact RW.s (by assumption) | exact TW.s (by assumption)) ⟨_, _, rfl⟩ (FITi rfl rfl) (Nat.le_of_ble_eq_true rfl) (addLn_r hM1 hm) rfl ?_
  rintro σ2 ⟨hM2, fr2⟩
  refine g_return dX6_beginLetter_21 rfl ?_
  exact ⟨rfl, hL1.of_eq (fr2 _ (by decide)) (fr2 _ (by decide)) (fr2 _ (by decide)) (fr2 _ (by decide)), hM2, fun c h1 h2 h3 h4 h5 => by rw [fr2 c h5, fr1 c h1 h2 h3 h4]⟩
set_option maxRecDepth 20000 in
set_option maxHeartbeats 2000000 in
theorem goOn_0 {k : Nat} {c d : Nat → Nat} {σ : Sg} (hL : LT σ (Lc c k) (gr c k) (o1 c k) (o2 c k)) (hM : MT σ (Mc c k) (fs c k) (fl c k) (ln c k) (pl c k) (db c d k)) (hlo : σ 33 8 = nI (lo c k)) (hk : k < 160) (hx : σ 63 k = nI (c k)) (hc : c k = 0)  : CM mX6_goOn [ar 33, ai (nI k)] σ (RelV (fun σ' => LT σ' (Lc c (k + 1)) (gr c (k + 1)) (o1 c (k + 1)) (o2 c (k + 1)) ∧ MT σ' (Mc c (k + 1)) (fs c (k + 1)) (fl c (k + 1)) (ln c (k + 1)) (pl c (k + 1)) (dbh c d k) ∧ σ' 33 8 = nI (lo c (k + 1)) ∧ ∀ z, z ≠ 34 → z ≠ 36 → z ≠ 38 → z ≠ 40 → z ≠ 33 → z ≠ 45 → (z < 47 ∨ 60 ≤ z) → σ' z = σ z)) := by
  rw [hc] at hx
  refine CM_in (ls := [some (ar 33), some (ai (nI k))]) rfl ?_
  refine g_aload_n (p0 := 1) (i := 0) dX6_goOn_0 rfl rfl rfl ?_
  refine g_getR (p0 := 4) dX6_goOn_1 fX6_34 (by first | rfl | assumption | exact RW.s (by assumption) | exact TW.s (by assumption)) rfl rfl ?_
  refine g_iload_n (p0 := 5) (i := 1) dX6_goOn_4 rfl rfl rfl ?_
  refine g_cV1R (p0 := 8) (r1 := mX7_at) dX6_goOn_5 lX6_68 vX7_at (by first | rfl | assumption | exact RW.s (by assumption) | exact TW.s (by assumption)) ⟨_, _, rfl⟩ (FITi rfl rfl) (Nat.le_of_ble_eq_true rfl) (at_N (by first | exact ⟨rfl, rfl, by decide⟩ | assumption) (by omega) (by first | assumption | exact up_hit | exact up_nv (by omega) (by assumption) | exact up_mv (by omega) (by assumption) | exact up_nv (by omega) (up_nv (by omega) (by assumption)) | exact up_nv (by omega) up_hit | rfl)) rfl ?_
  refine g_tabIn (tgt := 44) (off := 36) dX6_goOn_8 (by decide) (by decide) (by decide +kernel) rfl ?_
  refine g_aload_n (p0 := 45) (i := 0) dX6_goOn_44 rfl rfl rfl ?_
  refine g_dup (p0 := 46) dX6_goOn_45 rfl ?_
  refine g_getI (p0 := 49) dX6_goOn_46 fX6_49 (by first | rfl | assumption | exact RW.s (by assumption) | exact TW.s (by assumption)) rfl (by first | assumption | ((repeat (first | exact up_hit | refine up_nv (by decide) ?_ | refine up_mv (by first | decide | omega) ?_)) <;> first | assumption | rfl)) rfl ?_
  refine g_iconst (p0 := 50) (v := nI 1) dX6_goOn_49 rfl rfl ?_
  first | ((with_reducible refine isN2 ?_); refine g_iaddN (p0 := 51) dX6_goOn_50 rfl ?_) | refine g_iadd (p0 := 51) dX6_goOn_50 rfl ?_
  refine g_put (p0 := 54) dX6_goOn_51 fX6_49 (by first | rfl | assumption | exact RW.s (by assumption) | exact TW.s (by assumption)) rfl nX6_8 (pX6_8 _) rfl ?_
  refine g_goto (tgt := 129) dX6_goOn_54 rfl ?_
  refine g_return dX6_goOn_129 rfl ?_
  have s1 : ∀ z, z ≠ 33 → up σ 33 8 (nI (lo c k + 1)) z = σ z := fun z hz => up_ne hz
  refine ⟨rfl, (hL.of_eq (s1 _ (by decide)) (s1 _ (by decide)) (s1 _ (by decide)) (s1 _ (by decide))).cong (by simp [Lc, hc]) (fun l hl => by simp [gr, hc]) (fun l hl => by simp [o1, hc]) (fun l hl => by simp [o2, hc]), (hM.of_eq (s1 _ (by decide)) (s1 _ (by decide)) (s1 _ (by decide)) (s1 _ (by decide)) (s1 _ (by decide)) (s1 _ (by decide)) (s1 _ (by decide)) (s1 _ (by decide))).cong (by simp [Mc, hc]) (fun m hm => by simp [fs, hc]) (fun m hm => by simp [fl, hc]) (fun m hm => by simp [ln, hc]) (fun m hm => by simp [pl, hc]) (fun m hm => by simp [dbh, hc]), ?_, fun z h1 h2 h3 h4 h5 h6 h7 => s1 z h5⟩
  rw [up_hit, lo, if_pos hc]
set_option maxRecDepth 20000 in
set_option maxHeartbeats 2000000 in
theorem goOn_1 {k : Nat} {c d : Nat → Nat} {σ : Sg} (hL : LT σ (Lc c k) (gr c k) (o1 c k) (o2 c k)) (hM : MT σ (Mc c k) (fs c k) (fl c k) (ln c k) (pl c k) (db c d k)) (hlo : σ 33 8 = nI (lo c k)) (hk : k < 160) (hx : σ 63 k = nI (c k)) (hc : c k = 1) (hL0 : 1 ≤ Lc c k) : CM mX6_goOn [ar 33, ai (nI k)] σ (RelV (fun σ' => LT σ' (Lc c (k + 1)) (gr c (k + 1)) (o1 c (k + 1)) (o2 c (k + 1)) ∧ MT σ' (Mc c (k + 1)) (fs c (k + 1)) (fl c (k + 1)) (ln c (k + 1)) (pl c (k + 1)) (dbh c d k) ∧ σ' 33 8 = nI (lo c (k + 1)) ∧ ∀ z, z ≠ 34 → z ≠ 36 → z ≠ 38 → z ≠ 40 → z ≠ 33 → z ≠ 45 → (z < 47 ∨ 60 ≤ z) → σ' z = σ z)) := by
  rw [hc] at hx
  obtain ⟨L, eL⟩ : ∃ L, Lc c k = L + 1 := ⟨Lc c k - 1, by omega⟩
  have hLk := (Mc_le c k).2
  have g1 := gr_pos c k L (by omega)
  have g2 := gr_le c k L
  rw [eL] at hL
  refine CM_in (ls := [some (ar 33), some (ai (nI k))]) rfl ?_
  refine g_aload_n (p0 := 1) (i := 0) dX6_goOn_0 rfl rfl rfl ?_
  refine g_getR (p0 := 4) dX6_goOn_1 fX6_34 (by first | rfl | assumption | exact RW.s (by assumption) | exact TW.s (by assumption)) rfl rfl ?_
  refine g_iload_n (p0 := 5) (i := 1) dX6_goOn_4 rfl rfl rfl ?_
  refine g_cV1R (p0 := 8) (r1 := mX7_at) dX6_goOn_5 lX6_68 vX7_at (by first | rfl | assumption | exact RW.s (by assumption) | exact TW.s (by assumption)) ⟨_, _, rfl⟩ (FITi rfl rfl) (Nat.le_of_ble_eq_true rfl) (at_N (by first | exact ⟨rfl, rfl, by decide⟩ | assumption) (by omega) (by first | assumption | exact up_hit | exact up_nv (by omega) (by assumption) | exact up_mv (by omega) (by assumption) | exact up_nv (by omega) (up_nv (by omega) (by assumption)) | exact up_nv (by omega) up_hit | rfl)) rfl ?_
  refine g_tabIn (tgt := 57) (off := 49) dX6_goOn_8 (by decide) (by decide) (by decide +kernel) rfl ?_
  refine g_aload_n (p0 := 58) (i := 0) dX6_goOn_57 rfl rfl rfl ?_
  refine g_getR (p0 := 61) dX6_goOn_58 fX6_12 (by first | rfl | assumption | exact RW.s (by assumption) | exact TW.s (by assumption)) rfl rfl ?_
  refine g_iconst (p0 := 62) (v := nI 1) dX6_goOn_61 rfl rfl ?_
  refine g_cV1P (p0 := 65) (r1 := mX3_lengthen) dX6_goOn_62 lX6_106 vX3_lengthen (by first | rfl | assumption | exact RW.s (by assumption) | exact TW.s (by assumption)) ⟨_, _, rfl⟩ (FITi rfl rfl) (Nat.le_of_ble_eq_true rfl) (len_r hL (by omega) g1 (by omega)) rfl ?_
  rintro σ1 ⟨hL1, fr1⟩
  refine g_goto (tgt := 129) dX6_goOn_65 rfl ?_
  refine g_return dX6_goOn_129 rfl ?_
  refine ⟨rfl, hL1.cong (by simp [Lc, hc, eL]) (fun l hl => by simp [gr, hc]) (fun l hl => by simp only [o1, hc, nu, eL]; by_cases e : l = L <;> simp [e]) (fun l hl => by simp only [o2, hc, nu, eL]; by_cases e : l = L <;> simp [e]), (hM.of_eq (fr1 _ (by decide) (by decide)) (fr1 _ (by decide) (by decide)) (fr1 _ (by decide) (by decide)) (fr1 _ (by decide) (by decide)) (fr1 _ (by decide) (by decide)) (fr1 _ (by decide) (by decide)) (fr1 _ (by decide) (by decide)) (fr1 _ (by decide) (by decide))).cong (by simp [Mc, hc]) (fun m hm => by simp [fs, hc]) (fun m hm => by simp [fl, hc]) (fun m hm => by simp [ln, hc]) (fun m hm => by simp [pl, hc]) (fun m hm => by simp [dbh, hc]), ?_, fun z h1 h2 h3 h4 h5 h6 h7 => fr1 z h3 h4⟩
  rw [fr1 _ (by decide) (by decide), hlo, lo, if_neg (by omega)]
set_option maxRecDepth 20000 in
set_option maxHeartbeats 2000000 in
theorem goOn_2 {k : Nat} {c d : Nat → Nat} {σ : Sg} (hL : LT σ (Lc c k) (gr c k) (o1 c k) (o2 c k)) (hM : MT σ (Mc c k) (fs c k) (fl c k) (ln c k) (pl c k) (db c d k)) (hlo : σ 33 8 = nI (lo c k)) (hk : k < 160) (hx : σ 63 k = nI (c k)) (hc : c k = 2) (hL0 : 1 ≤ Lc c k) (hM0 : 1 ≤ Mc c k) : CM mX6_goOn [ar 33, ai (nI k)] σ (RelV (fun σ' => LT σ' (Lc c (k + 1)) (gr c (k + 1)) (o1 c (k + 1)) (o2 c (k + 1)) ∧ MT σ' (Mc c (k + 1)) (fs c (k + 1)) (fl c (k + 1)) (ln c (k + 1)) (pl c (k + 1)) (dbh c d k) ∧ σ' 33 8 = nI (lo c (k + 1)) ∧ ∀ z, z ≠ 34 → z ≠ 36 → z ≠ 38 → z ≠ 40 → z ≠ 33 → z ≠ 45 → (z < 47 ∨ 60 ≤ z) → σ' z = σ z)) := by
  rw [hc] at hx
  obtain ⟨L, eL⟩ : ∃ L, Lc c k = L + 1 := ⟨Lc c k - 1, by omega⟩
  have hLk := (Mc_le c k).2
  have g1 := gr_pos c k L (by omega)
  have g2 := gr_le c k L
  rw [eL] at hL
  obtain ⟨M, eM⟩ : ∃ M, Mc c k = M + 1 := ⟨Mc c k - 1, by omega⟩
  have hMk := (Mc_le c k).1
  refine CM_in (ls := [some (ar 33), some (ai (nI k))]) rfl ?_
  refine g_aload_n (p0 := 1) (i := 0) dX6_goOn_0 rfl rfl rfl ?_
  refine g_getR (p0 := 4) dX6_goOn_1 fX6_34 (by first | rfl | assumption | exact RW.s (by assumption) | exact TW.s (by assumption)) rfl rfl ?_
  refine g_iload_n (p0 := 5) (i := 1) dX6_goOn_4 rfl rfl rfl ?_
  refine g_cV1R (p0 := 8) (r1 := mX7_at) dX6_goOn_5 lX6_68 vX7_at (by first | rfl | assumption | exact RW.s (by assumption) | exact TW.s (by assumption)) ⟨_, _, rfl⟩ (FITi rfl rfl) (Nat.le_of_ble_eq_true rfl) (at_N (by first | exact ⟨rfl, rfl, by decide⟩ | assumption) (by omega) (by first | assumption | exact up_hit | exact up_nv (by omega) (by assumption) | exact up_mv (by omega) (by assumption) | exact up_nv (by omega) (up_nv (by omega) (by assumption)) | exact up_nv (by omega) up_hit | rfl)) rfl ?_
  refine g_tabIn (tgt := 68) (off := 60) dX6_goOn_8 (by decide) (by decide) (by decide +kernel) rfl ?_
  refine g_aload_n (p0 := 69) (i := 0) dX6_goOn_68 rfl rfl rfl ?_
  refine g_getR (p0 := 72) dX6_goOn_69 fX6_12 (by first | rfl | assumption | exact RW.s (by assumption) | exact TW.s (by assumption)) rfl rfl ?_
  refine g_iconst (p0 := 73) (v := nI 2) dX6_goOn_72 rfl rfl ?_
  refine g_cV1P (p0 := 76) (r1 := mX3_lengthen) dX6_goOn_73 lX6_106 vX3_lengthen (by first | rfl | assumption | exact RW.s (by assumption) | exact TW.s (by assumption)) ⟨_, _, rfl⟩ (FITi rfl rfl) (Nat.le_of_ble_eq_true rfl) (len_r hL (by omega) g1 (by omega)) rfl ?_
  rintro σ1 ⟨hL1, fr1⟩
  have hM1 := hM.of_eq (fr1 _ (by decide) (by decide)) (fr1 _ (by decide) (by decide)) (fr1 _ (by decide) (by decide)) (fr1 _ (by decide) (by decide)) (fr1 _ (by decide) (by decide)) (fr1 _ (by decide) (by decide)) (fr1 _ (by decide) (by decide)) (fr1 _ (by decide) (by decide))
  rw [eM] at hM1
  refine g_aload_n (p0 := 77) (i := 0) dX6_goOn_76 rfl rfl rfl ?_
  refine g_getR (p0 := 80) dX6_goOn_77 fX6_21 (by first | rfl | assumption | exact RW.s (by assumption) | exact TW.s (by assumption)) rfl rfl ?_
  refine g_aload_n (p0 := 81) (i := 0) dX6_goOn_80 rfl rfl rfl ?_
  refine g_getR (p0 := 84) dX6_goOn_81 fX6_21 (by first | rfl | assumption | exact RW.s (by assumption) | exact TW.s (by assumption)) rfl rfl ?_
  refine g_getR (p0 := 87) dX6_goOn_84 fX6_109 (by first | rfl | assumption | exact RW.s (by assumption) | exact TW.s (by assumption)) rfl rfl ?_
  refine g_cV1P (p0 := 90) (r1 := mX4_addTo) dX6_goOn_87 lX6_112 vX4_addTo (by first | rfl | assumption | exact RW.s (by assumption) | exact TW.s (by assumption)) ⟨_, _, rfl⟩ (FITi rfl rfl) (Nat.le_of_ble_eq_true rfl) (addPl_r hM1 (by omega)) rfl ?_
  rintro σ2 ⟨hM2, fr2⟩
  refine g_goto (tgt := 129) dX6_goOn_90 rfl ?_
  refine g_return dX6_goOn_129 rfl ?_
  refine ⟨rfl, (hL1.of_eq (fr2 _ (by decide)) (fr2 _ (by decide)) (fr2 _ (by decide)) (fr2 _ (by decide))).cong (by simp [Lc, hc, eL]) (fun l hl => by simp [gr, hc]) (fun l hl => by simp only [o1, hc, nu, eL]; by_cases e : l = L <;> simp [e]) (fun l hl => by simp only [o2, hc, nu, eL]; by_cases e : l = L <;> simp [e]), hM2.cong (by simp [Mc, hc, eM]) (fun m hm => by simp [fs, hc]) (fun m hm => by simp [fl, hc]) (fun m hm => by simp [ln, hc]) (fun m hm => by simp only [pl, hc, nu, eM]; by_cases e : m = M <;> simp [e]) (fun m hm => by simp [dbh, hc]), ?_, fun z h1 h2 h3 h4 h5 h6 h7 => by rw [fr2 z (by omega), fr1 z h3 h4]⟩
  rw [fr2 _ (by decide), fr1 _ (by decide) (by decide), hlo, lo, if_neg (by omega)]
set_option maxRecDepth 20000 in
set_option maxHeartbeats 2000000 in
theorem goOn_3 {k : Nat} {c d : Nat → Nat} {σ : Sg} (hL : LT σ (Lc c k) (gr c k) (o1 c k) (o2 c k)) (hM : MT σ (Mc c k) (fs c k) (fl c k) (ln c k) (pl c k) (db c d k)) (hlo : σ 33 8 = nI (lo c k)) (hk : k < 160) (hx : σ 63 k = nI (c k)) (hc : c k = 3) (hL0 : 1 ≤ Lc c k) : CM mX6_goOn [ar 33, ai (nI k)] σ (RelV (fun σ' => LT σ' (Lc c (k + 1)) (gr c (k + 1)) (o1 c (k + 1)) (o2 c (k + 1)) ∧ MT σ' (Mc c (k + 1)) (fs c (k + 1)) (fl c (k + 1)) (ln c (k + 1)) (pl c (k + 1)) (dbh c d k) ∧ σ' 33 8 = nI (lo c (k + 1)) ∧ ∀ z, z ≠ 34 → z ≠ 36 → z ≠ 38 → z ≠ 40 → z ≠ 33 → z ≠ 45 → (z < 47 ∨ 60 ≤ z) → σ' z = σ z)) := by
  rw [hc] at hx
  obtain ⟨L, eL⟩ : ∃ L, Lc c k = L + 1 := ⟨Lc c k - 1, by omega⟩
  have hLk := (Mc_le c k).2
  have g1 := gr_pos c k L (by omega)
  have g2 := gr_le c k L
  rw [eL] at hL
  refine CM_in (ls := [some (ar 33), some (ai (nI k))]) rfl ?_
  refine g_aload_n (p0 := 1) (i := 0) dX6_goOn_0 rfl rfl rfl ?_
  refine g_getR (p0 := 4) dX6_goOn_1 fX6_34 (by first | rfl | assumption | exact RW.s (by assumption) | exact TW.s (by assumption)) rfl rfl ?_
  refine g_iload_n (p0 := 5) (i := 1) dX6_goOn_4 rfl rfl rfl ?_
  refine g_cV1R (p0 := 8) (r1 := mX7_at) dX6_goOn_5 lX6_68 vX7_at (by first | rfl | assumption | exact RW.s (by assumption) | exact TW.s (by assumption)) ⟨_, _, rfl⟩ (FITi rfl rfl) (Nat.le_of_ble_eq_true rfl) (at_N (by first | exact ⟨rfl, rfl, by decide⟩ | assumption) (by omega) (by first | assumption | exact up_hit | exact up_nv (by omega) (by assumption) | exact up_mv (by omega) (by assumption) | exact up_nv (by omega) (up_nv (by omega) (by assumption)) | exact up_nv (by omega) up_hit | rfl)) rfl ?_
  refine g_tabIn (tgt := 93) (off := 85) dX6_goOn_8 (by decide) (by decide) (by decide +kernel) rfl ?_
  refine g_aload_n (p0 := 94) (i := 0) dX6_goOn_93 rfl rfl rfl ?_
  refine g_getR (p0 := 97) dX6_goOn_94 fX6_12 (by first | rfl | assumption | exact RW.s (by assumption) | exact TW.s (by assumption)) rfl rfl ?_
  refine g_cV0P (p0 := 100) (r1 := mX3_beginGroup) dX6_goOn_97 lX6_116 vX3_beginGroup (by first | rfl | assumption | exact RW.s (by assumption) | exact TW.s (by assumption)) ⟨_, _, rfl⟩ (FITi rfl rfl) (Nat.le_of_ble_eq_true rfl) (bg_r hL (by omega) g1 (by omega)) rfl ?_
  rintro σ1 ⟨hL1, fr1⟩
  refine g_goto (tgt := 129) dX6_goOn_100 rfl ?_
  refine g_return dX6_goOn_129 rfl ?_
  refine ⟨rfl, hL1.cong (by simp [Lc, hc, eL]) (fun l hl => by simp only [gr, hc, nu, eL]; by_cases e : l = L <;> simp [e]) (fun l hl => by simp [o1, hc]) (fun l hl => by simp only [o2, hc, nu, eL]; by_cases e : l = L <;> simp [e]), (hM.of_eq (fr1 _ (by decide) (by decide) (by decide)) (fr1 _ (by decide) (by decide) (by decide)) (fr1 _ (by decide) (by decide) (by decide)) (fr1 _ (by decide) (by decide) (by decide)) (fr1 _ (by decide) (by decide) (by decide)) (fr1 _ (by decide) (by decide) (by decide)) (fr1 _ (by decide) (by decide) (by decide)) (fr1 _ (by decide) (by decide) (by decide))).cong (by simp [Mc, hc]) (fun m hm => by simp [fs, hc]) (fun m hm => by simp [fl, hc]) (fun m hm => by simp [ln, hc]) (fun m hm => by simp [pl, hc]) (fun m hm => by simp [dbh, hc]), ?_, fun z h1 h2 h3 h4 h5 h6 h7 => fr1 z h2 h3 h4⟩
  rw [fr1 _ (by decide) (by decide) (by decide), hlo, lo, if_neg (by omega)]
set_option maxRecDepth 20000 in
set_option maxHeartbeats 2000000 in
theorem goOn_4 {k : Nat} {c d : Nat → Nat} {σ : Sg} (hL : LT σ (Lc c k) (gr c k) (o1 c k) (o2 c k)) (hM : MT σ (Mc c k) (fs c k) (fl c k) (ln c k) (pl c k) (db c d k)) (hlo : σ 33 8 = nI (lo c k)) (hk : k < 160) (hx : σ 63 k = nI (c k)) (hc : c k = 4) (hM0 : 1 ≤ Mc c k) : CM mX6_goOn [ar 33, ai (nI k)] σ (RelV (fun σ' => LT σ' (Lc c (k + 1)) (gr c (k + 1)) (o1 c (k + 1)) (o2 c (k + 1)) ∧ MT σ' (Mc c (k + 1)) (fs c (k + 1)) (fl c (k + 1)) (ln c (k + 1)) (pl c (k + 1)) (dbh c d k) ∧ σ' 33 8 = nI (lo c (k + 1)) ∧ ∀ z, z ≠ 34 → z ≠ 36 → z ≠ 38 → z ≠ 40 → z ≠ 33 → z ≠ 45 → (z < 47 ∨ 60 ≤ z) → σ' z = σ z)) := by
  rw [hc] at hx
  obtain ⟨M, eM⟩ : ∃ M, Mc c k = M + 1 := ⟨Mc c k - 1, by omega⟩
  have hMk := Mc_le c k
  rw [eM] at hM
  refine CM_in (ls := [some (ar 33), some (ai (nI k))]) rfl ?_
  refine g_aload_n (p0 := 1) (i := 0) dX6_goOn_0 rfl rfl rfl ?_
  refine g_getR (p0 := 4) dX6_goOn_1 fX6_34 (by first | rfl | assumption | exact RW.s (by assumption) | exact TW.s (by assumption)) rfl rfl ?_
  refine g_iload_n (p0 := 5) (i := 1) dX6_goOn_4 rfl rfl rfl ?_
  refine g_cV1R (p0 := 8) (r1 := mX7_at) dX6_goOn_5 lX6_68 vX7_at (by first | rfl | assumption | exact RW.s (by assumption) | exact TW.s (by assumption)) ⟨_, _, rfl⟩ (FITi rfl rfl) (Nat.le_of_ble_eq_true rfl) (at_N (by first | exact ⟨rfl, rfl, by decide⟩ | assumption) (by omega) (by first | assumption | exact up_hit | exact up_nv (by omega) (by assumption) | exact up_mv (by omega) (by assumption) | exact up_nv (by omega) (up_nv (by omega) (by assumption)) | exact up_nv (by omega) up_hit | rfl)) rfl ?_
  refine g_tabIn (tgt := 103) (off := 95) dX6_goOn_8 (by decide) (by decide) (by decide +kernel) rfl ?_
  refine g_aload_n (p0 := 104) (i := 0) dX6_goOn_103 rfl rfl rfl ?_
  refine g_cV0P (p0 := 107) (r1 := mX6_beginLetter) dX6_goOn_104 lX6_119 vX6_beginLetter (by first | rfl | assumption | exact RW.s (by assumption) | exact TW.s (by assumption)) ⟨_, _, rfl⟩ (FITi rfl rfl) (Nat.le_of_ble_eq_true rfl) (beginLetter_r hL hM (by omega) (by omega)) rfl ?_
  rintro σ1 ⟨hL1, hM1, fr1⟩
  refine g_goto (tgt := 129) dX6_goOn_107 rfl ?_
  refine g_return dX6_goOn_129 rfl ?_
  refine ⟨rfl, hL1.cong (by simp [Lc, hc]) (fun l hl => by simp only [gr, hc, nu]; by_cases e : l = Lc c k <;> simp [e]) (fun l hl => by simp only [o1, hc, nu]; by_cases e : l = Lc c k <;> simp [e]) (fun l hl => by simp only [o2, hc, nu]; by_cases e : l = Lc c k <;> simp [e]), hM1.cong (by simp [Mc, hc, eM]) (fun m hm => by simp [fs, hc]) (fun m hm => by simp [fl, hc]) (fun m hm => by simp only [ln, hc, nu, eM]; by_cases e : m = M <;> simp [e]) (fun m hm => by simp [pl, hc]) (fun m hm => by simp [dbh, hc]), ?_, fun z h1 h2 h3 h4 h5 h6 h7 => fr1 z h1 h2 h3 h4 (by omega)⟩
  rw [fr1 _ (by decide) (by decide) (by decide) (by decide) (by decide), hlo, lo, if_neg (by omega)]
set_option maxRecDepth 20000 in
set_option maxHeartbeats 2000000 in
theorem goOn_5 {k : Nat} {c d : Nat → Nat} {σ : Sg} (hL : LT σ (Lc c k) (gr c k) (o1 c k) (o2 c k)) (hM : MT σ (Mc c k) (fs c k) (fl c k) (ln c k) (pl c k) (db c d k)) (hlo : σ 33 8 = nI (lo c k)) (hk : k < 160) (hx : σ 63 k = nI (c k)) (hc : c k = 5)  : CM mX6_goOn [ar 33, ai (nI k)] σ (RelV (fun σ' => LT σ' (Lc c (k + 1)) (gr c (k + 1)) (o1 c (k + 1)) (o2 c (k + 1)) ∧ MT σ' (Mc c (k + 1)) (fs c (k + 1)) (fl c (k + 1)) (ln c (k + 1)) (pl c (k + 1)) (dbh c d k) ∧ σ' 33 8 = nI (lo c (k + 1)) ∧ ∀ z, z ≠ 34 → z ≠ 36 → z ≠ 38 → z ≠ 40 → z ≠ 33 → z ≠ 45 → (z < 47 ∨ 60 ≤ z) → σ' z = σ z)) := by
  rw [hc] at hx
  have hMk := Mc_le c k
  have hLv := hL.1
  refine CM_in (ls := [some (ar 33), some (ai (nI k))]) rfl ?_
  refine g_aload_n (p0 := 1) (i := 0) dX6_goOn_0 rfl rfl rfl ?_
  refine g_getR (p0 := 4) dX6_goOn_1 fX6_34 (by first | rfl | assumption | exact RW.s (by assumption) | exact TW.s (by assumption)) rfl rfl ?_
  refine g_iload_n (p0 := 5) (i := 1) dX6_goOn_4 rfl rfl rfl ?_
  refine g_cV1R (p0 := 8) (r1 := mX7_at) dX6_goOn_5 lX6_68 vX7_at (by first | rfl | assumption | exact RW.s (by assumption) | exact TW.s (by assumption)) ⟨_, _, rfl⟩ (FITi rfl rfl) (Nat.le_of_ble_eq_true rfl) (at_N (by first | exact ⟨rfl, rfl, by decide⟩ | assumption) (by omega) (by first | assumption | exact up_hit | exact up_nv (by omega) (by assumption) | exact up_mv (by omega) (by assumption) | exact up_nv (by omega) (up_nv (by omega) (by assumption)) | exact up_nv (by omega) up_hit | rfl)) rfl ?_
  refine g_tabOut (tgt := 110) dX6_goOn_8 (by decide) rfl ?_
  refine g_aload_n (p0 := 111) (i := 0) dX6_goOn_110 rfl rfl rfl ?_
  refine g_getR (p0 := 114) dX6_goOn_111 fX6_21 (by first | rfl | assumption | exact RW.s (by assumption) | exact TW.s (by assumption)) rfl rfl ?_
  refine g_iload_n (p0 := 115) (i := 1) dX6_goOn_114 rfl rfl rfl ?_
  refine g_aload_n (p0 := 116) (i := 0) dX6_goOn_115 rfl rfl rfl ?_
  refine g_getR (p0 := 119) dX6_goOn_116 fX6_12 (by first | rfl | assumption | exact RW.s (by assumption) | exact TW.s (by assumption)) rfl rfl ?_
  refine g_getI (p0 := 122) dX6_goOn_119 fX6_122 (by first | rfl | assumption | exact RW.s (by assumption) | exact TW.s (by assumption)) rfl (by first | assumption | ((repeat (first | exact up_hit | refine up_nv (by decide) ?_ | refine up_mv (by first | decide | omega) ?_)) <;> first | assumption | rfl)) rfl ?_
  refine g_cV2P (p0 := 125) (r1 := mX4_begin) dX6_goOn_122 lX6_123 vX4_begin (by first | rfl | assumption | exact RW.s (by assumption) | exact TW.s (by assumption)) ⟨_, _, rfl⟩ (FITi rfl rfl) (Nat.le_of_ble_eq_true rfl) (mbegin_r hM (by omega)) rfl ?_
  rintro σ1 ⟨hM1, fr1⟩
  have hL1 := hL.of_eq (fr1 _ (by decide) (by decide)) (fr1 _ (by decide) (by decide)) (fr1 _ (by decide) (by decide)) (fr1 _ (by decide) (by decide))
  refine g_aload_n (p0 := 126) (i := 0) dX6_goOn_125 rfl rfl rfl ?_
  refine g_cV0P (p0 := 129) (r1 := mX6_beginLetter) dX6_goOn_126 lX6_119 vX6_beginLetter (by first | rfl | assumption | exact RW.s (by assumption) | exact TW.s (by assumption)) ⟨_, _, rfl⟩ (FITi rfl rfl) (Nat.le_of_ble_eq_true rfl) (beginLetter_r hL1 hM1 (by omega) (by omega)) rfl ?_
  rintro σ2 ⟨hL2, hM2, fr2⟩
  refine g_return dX6_goOn_129 rfl ?_
  refine ⟨rfl, hL2.cong (by simp [Lc, hc]) (fun l hl => by simp only [gr, hc, nu]; by_cases e : l = Lc c k <;> simp [e]) (fun l hl => by simp only [o1, hc, nu]; by_cases e : l = Lc c k <;> simp [e]) (fun l hl => by simp only [o2, hc, nu]; by_cases e : l = Lc c k <;> simp [e]), hM2.cong (by simp [Mc, hc]) (fun m hm => by simp only [fs, hc, nu]; by_cases e : m = Mc c k <;> simp [e]) (fun m hm => by simp only [fl, hc, nu]; by_cases e : m = Mc c k <;> simp [e]) (fun m hm => by simp only [ln, hc, nu]; by_cases e : m = Mc c k <;> simp [e]) (fun m hm => by simp only [pl, hc, nu]; by_cases e : m = Mc c k <;> simp [e]) (fun m hm => by simp only [dbh, hc, nu]; by_cases e : m = Mc c k <;> simp [e]), ?_, fun z h1 h2 h3 h4 h5 h6 h7 => by rw [fr2 z h1 h2 h3 h4 (by omega), fr1 z h6 h7]⟩
  rw [fr2 _ (by decide) (by decide) (by decide) (by decide) (by decide), fr1 _ (by decide) (by decide), hlo, lo, if_neg (by omega)]
theorem goOn_r {k : Nat} {c d : Nat → Nat} {σ : Sg} (hL : LT σ (Lc c k) (gr c k) (o1 c k) (o2 c k)) (hM : MT σ (Mc c k) (fs c k) (fl c k) (ln c k) (pl c k) (db c d k)) (hlo : σ 33 8 = nI (lo c k)) (hk : k < 160) (hx : σ 63 k = nI (c k)) (h0 : c 0 = 5) (h5 : c k ≤ 5) : CM mX6_goOn [ar 33, ai (nI k)] σ (RelV (fun σ' => LT σ' (Lc c (k + 1)) (gr c (k + 1)) (o1 c (k + 1)) (o2 c (k + 1)) ∧ MT σ' (Mc c (k + 1)) (fs c (k + 1)) (fl c (k + 1)) (ln c (k + 1)) (pl c (k + 1)) (dbh c d k) ∧ σ' 33 8 = nI (lo c (k + 1)) ∧ ∀ z, z ≠ 34 → z ≠ 36 → z ≠ 38 → z ≠ 40 → z ≠ 33 → z ≠ 45 → (z < 47 ∨ 60 ≤ z) → σ' z = σ z)) := by
  have hp : k = 0 ∨ (1 ≤ Lc c k ∧ 1 ≤ Mc c k) := by
    rcases Nat.eq_zero_or_pos k with e | e
    · exact Or.inl e
    · obtain ⟨j, rfl⟩ : ∃ j, k = j + 1 := ⟨k - 1, by omega⟩
      exact Or.inr ⟨Lc_pos h0 j, Mc_pos h0 j⟩
  by_cases e5 : c k = 5
  · exact goOn_5 hL hM hlo hk hx e5
  · have hp2 : 1 ≤ Lc c k ∧ 1 ≤ Mc c k := hp.resolve_left (fun e => e5 (by rw [e]; exact h0))
    by_cases e0 : c k = 0
    · exact goOn_0 hL hM hlo hk hx e0
    · by_cases e1 : c k = 1
      · exact goOn_1 hL hM hlo hk hx e1 hp2.1
      · by_cases e2 : c k = 2
        · exact goOn_2 hL hM hlo hk hx e2 hp2.1 hp2.2
        · by_cases e3 : c k = 3
          · exact goOn_3 hL hM hlo hk hx e3 hp2.1
          · exact goOn_4 hL hM hlo hk hx (by omega) hp2.2

