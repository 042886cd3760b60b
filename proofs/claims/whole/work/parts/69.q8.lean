/-! QUESTIONS: how many are right -/
set_option maxRecDepth 20000 in
set_option maxHeartbeats 2000000 in
theorem rightOnes_l {M : Nat} {f : Nat → Nat} {σ : Sg} {Q : SP} (hM : σ 45 7 = nI M) (hM1 : M ≤ 160) (hf : ∀ i, i < M → f i ≤ 1 ∧ CM mX6_isRight [ar 33, ai (nI i)] σ (Ret (nI (f i)) σ)) (k : Q (some (ai (nI (tt f M)))) σ) : ∀ q i, i + q = M → WM mX6_rightOnes Q 4 [some (ar 33), some (ai (nI (tt f i))), some (ai (nI i))] [] σ := by
  intro q
  induction q with
  | zero =>
    intro i hi
    obtain rfl : i = M := by omega
    refine g_iload_n (p0 := 5) (i := 2) dX6_rightOnes_4 rfl rfl rfl ?_
    refine g_aload_n (p0 := 6) (i := 0) dX6_rightOnes_5 rfl rfl rfl ?_
    refine g_getR (p0 := 9) dX6_rightOnes_6 fX6_21 (by first | rfl | assumption | exact RW.s (by assumption) | exact TW.s (by assumption)) rfl rfl ?_
    refine g_getI (p0 := 12) dX6_rightOnes_9 fX6_57 (by first | rfl | assumption | exact RW.s (by assumption) | exact TW.s (by assumption)) rfl (by first | assumption | ((repeat (first | exact up_hit | refine up_nv (by decide) ?_ | refine up_mv (by first | decide | omega) ?_)) <;> first | assumption | rfl)) rfl ?_
    first | ((with_reducible refine isN2 ?_); refine g_icmpN_ge (tgt := 32) (p1 := 15) dX6_rightOnes_12 rfl (by omega) (by omega) rfl (fun c_12 => ?_) (fun c_12 => by exfalso; first | omega | contradiction | exact absurd (by assumption) c_12 | (simp_all; done))) | refine g_icmp_ge (tgt := 32) (p1 := 15) dX6_rightOnes_12 rfl rfl (fun c_12 => ?_) (fun c_12 => by exfalso; first | omega | contradiction | exact absurd (by assumption) c_12 | (simp_all; done))
    refine g_iload_n (p0 := 33) (i := 1) dX6_rightOnes_32 rfl rfl rfl ?_
    refine g_ireturn dX6_rightOnes_33 rfl rfl (?_)
    exact k
  | succ q ih =>
    intro i hi
    have h := ih (i + 1) (by omega)
    have hz : f i = 0 ∨ f i = 1 := by have := (hf i (by omega)).1; omega
    have hr := (hf i (by omega)).2
    have e : tt f (i + 1) = tt f i + f i := rfl
    rw [e] at h
    rcases hz with hz | hz
    · rw [hz] at hr h
      refine g_iload_n (p0 := 5) (i := 2) dX6_rightOnes_4 rfl rfl rfl ?_
      refine g_aload_n (p0 := 6) (i := 0) dX6_rightOnes_5 rfl rfl rfl ?_
      refine g_getR (p0 := 9) dX6_rightOnes_6 fX6_21 (by first | rfl | assumption | exact RW.s (by assumption) | exact TW.s (by assumption)) rfl rfl ?_
      refine g_getI (p0 := 12) dX6_rightOnes_9 fX6_57 (by first | rfl | assumption | exact RW.s (by assumption) | exact TW.s (by assumption)) rfl (by first | assumption | ((repeat (first | exact up_hit | refine up_nv (by decide) ?_ | refine up_mv (by first | decide | omega) ?_)) <;> first | assumption | rfl)) rfl ?_
      first | ((with_reducible refine isN2 ?_); refine g_icmpN_ge (tgt := 32) (p1 := 15) dX6_rightOnes_12 rfl (by omega) (by omega) rfl (fun c_12 => by exfalso; first | omega | contradiction | exact absurd (by assumption) c_12 | (simp_all; done)) (fun c_12 => ?_)) | refine g_icmp_ge (tgt := 32) (p1 := 15) dX6_rightOnes_12 rfl rfl (fun c_12 => by exfalso; first | omega | contradiction | exact absurd (by assumption) c_12 | (simp_all; done)) (fun c_12 => ?_)
      refine g_aload_n (p0 := 16) (i := 0) dX6_rightOnes_15 rfl rfl rfl ?_
      refine g_iload_n (p0 := 17) (i := 2) dX6_rightOnes_16 rfl rfl rfl ?_
      refine g_cV1R (p0 := 20) (r1 := mX6_isRight) dX6_rightOnes_17 lX6_165 vX6_isRight (by first | rfl | assumption | exact RW.s (by assumption) | exact TW.s (by assumption)) ⟨_, _, rfl⟩ (FITi rfl rfl) (Nat.le_of_ble_eq_true rfl) (hr) rfl ?_
      first | ((with_reducible refine isN1 ?_); refine g_ifN_eq (tgt := 26) (p1 := 23) dX6_rightOnes_20 rfl (by omega) rfl (fun c_20 => ?_) (fun c_20 => by exfalso; first | omega | contradiction | exact absurd (by assumption) c_20 | (simp_all; done))) | refine g_if_eq (tgt := 26) (p1 := 23) dX6_rightOnes_20 rfl rfl (fun c_20 => ?_) (fun c_20 => by exfalso; first | omega | contradiction | exact absurd (by assumption) c_20 | (simp_all; done))
      first | refine g_iinc1 (p0 := 29) (ls2 := [_, _, _]) dX6_rightOnes_26 rfl rfl rfl ?_ | refine g_iinc (p0 := 29) (ls2 := [_, _, _]) dX6_rightOnes_26 rfl rfl rfl rfl ?_
      refine g_goto (tgt := 4) dX6_rightOnes_29 rfl ?_
      exact h
    · rw [hz] at hr h
      refine g_iload_n (p0 := 5) (i := 2) dX6_rightOnes_4 rfl rfl rfl ?_
      refine g_aload_n (p0 := 6) (i := 0) dX6_rightOnes_5 rfl rfl rfl ?_
      refine g_getR (p0 := 9) dX6_rightOnes_6 fX6_21 (by first | rfl | assumption | exact RW.s (by assumption) | exact TW.s (by assumption)) rfl rfl ?_
      refine g_getI (p0 := 12) dX6_rightOnes_9 fX6_57 (by first | rfl | assumption | exact RW.s (by assumption) | exact TW.s (by assumption)) rfl (by first | assumption | ((repeat (first | exact up_hit | refine up_nv (by decide) ?_ | refine up_mv (by first | decide | omega) ?_)) <;> first | assumption | rfl)) rfl ?_
      first | ((with_reducible refine isN2 ?_); refine g_icmpN_ge (tgt := 32) (p1 := 15) dX6_rightOnes_12 rfl (by omega) (by omega) rfl (fun c_12 => by exfalso; first | omega | contradiction | exact absurd (by assumption) c_12 | (simp_all; done)) (fun c_12 => ?_)) | refine g_icmp_ge (tgt := 32) (p1 := 15) dX6_rightOnes_12 rfl rfl (fun c_12 => by exfalso; first | omega | contradiction | exact absurd (by assumption) c_12 | (simp_all; done)) (fun c_12 => ?_)
      refine g_aload_n (p0 := 16) (i := 0) dX6_rightOnes_15 rfl rfl rfl ?_
      refine g_iload_n (p0 := 17) (i := 2) dX6_rightOnes_16 rfl rfl rfl ?_
      refine g_cV1R (p0 := 20) (r1 := mX6_isRight) dX6_rightOnes_17 lX6_165 vX6_isRight (by first | rfl | assumption | exact RW.s (by assumption) | exact TW.s (by assumption)) ⟨_, _, rfl⟩ (FITi rfl rfl) (Nat.le_of_ble_eq_true rfl) (hr) rfl ?_
      first | ((with_reducible refine isN1 ?_); refine g_ifN_eq (tgt := 26) (p1 := 23) dX6_rightOnes_20 rfl (by omega) rfl (fun c_20 => by exfalso; first | omega | contradiction | exact absurd (by assumption) c_20 | (simp_all; done)) (fun c_20 => ?_)) | refine g_if_eq (tgt := 26) (p1 := 23) dX6_rightOnes_20 rfl rfl (fun c_20 => by exfalso; first | omega | contradiction | exact absurd (by assumption) c_20 | (simp_all; done)) (fun c_20 => ?_)
      first | refine g_iinc1 (p0 := 26) (ls2 := [_, _, _]) dX6_rightOnes_23 rfl rfl rfl ?_ | refine g_iinc (p0 := 26) (ls2 := [_, _, _]) dX6_rightOnes_23 rfl rfl rfl rfl ?_
      first | refine g_iinc1 (p0 := 29) (ls2 := [_, _, _]) dX6_rightOnes_26 rfl rfl rfl ?_ | refine g_iinc (p0 := 29) (ls2 := [_, _, _]) dX6_rightOnes_26 rfl rfl rfl rfl ?_
      refine g_goto (tgt := 4) dX6_rightOnes_29 rfl ?_
      exact h
theorem rightOnes_sp {M : Nat} {f : Nat → Nat} {σ : Sg} (hM : σ 45 7 = nI M) (hM1 : M ≤ 160) (hf : ∀ i, i < M → f i ≤ 1 ∧ CM mX6_isRight [ar 33, ai (nI i)] σ (Ret (nI (f i)) σ)) : CM mX6_rightOnes [ar 33] σ (Ret (nI (tt f M)) σ) := by
  refine CM_in (ls := [some (ar 33), none, none]) rfl ?_
  refine g_iconst (p0 := 1) (v := nI 0) dX6_rightOnes_0 rfl rfl ?_
  refine g_istore_n (p0 := 2) (i := 1) (ls2 := [_, _, _]) dX6_rightOnes_1 rfl (Nat.le_of_ble_eq_true rfl) rfl rfl ?_
  refine g_iconst (p0 := 3) (v := nI 0) dX6_rightOnes_2 rfl rfl ?_
  refine g_istore_n (p0 := 4) (i := 2) (ls2 := [_, _, _]) dX6_rightOnes_3 rfl (Nat.le_of_ble_eq_true rfl) rfl rfl ?_
  exact rightOnes_l hM hM1 hf ⟨rfl, rfl⟩ M 0 (by omega)
set_option maxRecDepth 20000 in
set_option maxHeartbeats 2000000 in
theorem sums_l7 {s : Nat} {M : Nat} {f : Nat → Nat} {σ : Sg} {Q : SP} (hs : σ 80 3 = nI s) (hs1 : s ≤ 160) (hM : σ 79 11 = nI M) (hM1 : M ≤ 160) (hf : ∀ i, i < M → f i ≤ 1 ∧ CM mX10_isRight [ar 79, ai (nI i), ai (-1000004), ai (nI 0)] σ (Ret (nI (f i)) σ)) (k : Q (some (ai (nI (tt f M)))) σ) : ∀ q i, i + q = M → WM mX10_sums Q 4 [some (ar 79), some (ai (nI 7)), some (ai (nI (tt f i))), some (ai (nI i))] [] σ := by
  intro q
  induction q with
  | zero =>
    intro i hi
    obtain rfl : i = M := by omega
    by_cases h0 : s = 0
    · subst h0
      refine g_iload_n (p0 := 5) (i := 3) dX10_sums_4 rfl rfl rfl ?_
      refine g_aload_n (p0 := 6) (i := 0) dX10_sums_5 rfl rfl rfl ?_
      refine g_getI (p0 := 9) dX10_sums_6 fX10_121 (by first | rfl | assumption | exact RW.s (by assumption) | exact TW.s (by assumption)) rfl (by first | assumption | ((repeat (first | exact up_hit | refine up_nv (by decide) ?_ | refine up_mv (by first | decide | omega) ?_)) <;> first | assumption | rfl)) rfl ?_
      first | ((with_reducible refine isN2 ?_); refine g_icmpN_ge (tgt := 85) (p1 := 12) dX10_sums_9 rfl (by omega) (by omega) rfl (fun c_9 => ?_) (fun c_9 => by exfalso; first | omega | contradiction | exact absurd (by assumption) c_9 | (simp_all; done))) | refine g_icmp_ge (tgt := 85) (p1 := 12) dX10_sums_9 rfl rfl (fun c_9 => ?_) (fun c_9 => by exfalso; first | omega | contradiction | exact absurd (by assumption) c_9 | (simp_all; done))
      refine g_iconst (p0 := 86) (v := nI 0) dX10_sums_85 rfl rfl ?_
      refine g_istore_n (p0 := 87) (i := 3) (ls2 := [_, _, _, _]) dX10_sums_86 rfl (Nat.le_of_ble_eq_true rfl) rfl rfl ?_
      refine g_iload_n (p0 := 88) (i := 3) dX10_sums_87 rfl rfl rfl ?_
      refine g_aload_n (p0 := 89) (i := 0) dX10_sums_88 rfl rfl rfl ?_
      refine g_getR (p0 := 92) dX10_sums_89 fX10_7 (by first | rfl | assumption | exact RW.s (by assumption) | exact TW.s (by assumption)) rfl rfl ?_
      refine g_iconst (p0 := 93) (v := nI 3) dX10_sums_92 rfl rfl ?_
      first | ((with_reducible refine isN1 ?_); refine g_aldN (p0 := 94) dX10_sums_93 (by first | rfl | assumption | exact RW.s (by assumption) | exact TW.s (by assumption)) (by first | decide | assumption) (by omega) (by first | assumption | ((repeat (first | exact up_hit | refine up_nv (by decide) ?_ | refine up_mv (by first | decide | omega) ?_)) <;> first | assumption | rfl)) rfl ?_) | refine g_ald (p0 := 94) dX10_sums_93 (by first | rfl | assumption | exact RW.s (by assumption) | exact TW.s (by assumption)) (by assumption) (by first | assumption | ((repeat (first | exact up_hit | refine up_nv (by decide) ?_ | refine up_mv (by first | decide | omega) ?_)) <;> first | assumption | rfl)) rfl ?_
      first | ((with_reducible refine isN2 ?_); refine g_icmpN_ge (tgt := 125) (p1 := 97) dX10_sums_94 rfl (by omega) (by omega) rfl (fun c_94 => ?_) (fun c_94 => by exfalso; first | omega | contradiction | exact absurd (by assumption) c_94 | (simp_all; done))) | refine g_icmp_ge (tgt := 125) (p1 := 97) dX10_sums_94 rfl rfl (fun c_94 => ?_) (fun c_94 => by exfalso; first | omega | contradiction | exact absurd (by assumption) c_94 | (simp_all; done))
      refine g_iload_n (p0 := 126) (i := 2) dX10_sums_125 rfl rfl rfl ?_
      refine g_ireturn dX10_sums_126 rfl rfl (?_)
      exact k
    · refine g_iload_n (p0 := 5) (i := 3) dX10_sums_4 rfl rfl rfl ?_
      refine g_aload_n (p0 := 6) (i := 0) dX10_sums_5 rfl rfl rfl ?_
      refine g_getI (p0 := 9) dX10_sums_6 fX10_121 (by first | rfl | assumption | exact RW.s (by assumption) | exact TW.s (by assumption)) rfl (by first | assumption | ((repeat (first | exact up_hit | refine up_nv (by decide) ?_ | refine up_mv (by first | decide | omega) ?_)) <;> first | assumption | rfl)) rfl ?_
      first | ((with_reducible refine isN2 ?_); refine g_icmpN_ge (tgt := 85) (p1 := 12) dX10_sums_9 rfl (by omega) (by omega) rfl (fun c_9 => ?_) (fun c_9 => by exfalso; first | omega | contradiction | exact absurd (by assumption) c_9 | (simp_all; done))) | refine g_icmp_ge (tgt := 85) (p1 := 12) dX10_sums_9 rfl rfl (fun c_9 => ?_) (fun c_9 => by exfalso; first | omega | contradiction | exact absurd (by assumption) c_9 | (simp_all; done))
      refine g_iconst (p0 := 86) (v := nI 0) dX10_sums_85 rfl rfl ?_
      refine g_istore_n (p0 := 87) (i := 3) (ls2 := [_, _, _, _]) dX10_sums_86 rfl (Nat.le_of_ble_eq_true rfl) rfl rfl ?_
      refine g_iload_n (p0 := 88) (i := 3) dX10_sums_87 rfl rfl rfl ?_
      refine g_aload_n (p0 := 89) (i := 0) dX10_sums_88 rfl rfl rfl ?_
      refine g_getR (p0 := 92) dX10_sums_89 fX10_7 (by first | rfl | assumption | exact RW.s (by assumption) | exact TW.s (by assumption)) rfl rfl ?_
      refine g_iconst (p0 := 93) (v := nI 3) dX10_sums_92 rfl rfl ?_
      first | ((with_reducible refine isN1 ?_); refine g_aldN (p0 := 94) dX10_sums_93 (by first | rfl | assumption | exact RW.s (by assumption) | exact TW.s (by assumption)) (by first | decide | assumption) (by omega) (by first | assumption | ((repeat (first | exact up_hit | refine up_nv (by decide) ?_ | refine up_mv (by first | decide | omega) ?_)) <;> first | assumption | rfl)) rfl ?_) | refine g_ald (p0 := 94) dX10_sums_93 (by first | rfl | assumption | exact RW.s (by assumption) | exact TW.s (by assumption)) (by assumption) (by first | assumption | ((repeat (first | exact up_hit | refine up_nv (by decide) ?_ | refine up_mv (by first | decide | omega) ?_)) <;> first | assumption | rfl)) rfl ?_
      first | ((with_reducible refine isN2 ?_); refine g_icmpN_ge (tgt := 125) (p1 := 97) dX10_sums_94 rfl (by omega) (by omega) rfl (fun c_94 => by exfalso; first | omega | contradiction | exact absurd (by assumption) c_94 | (simp_all; done)) (fun c_94 => ?_)) | refine g_icmp_ge (tgt := 125) (p1 := 97) dX10_sums_94 rfl rfl (fun c_94 => by exfalso; first | omega | contradiction | exact absurd (by assumption) c_94 | (simp_all; done)) (fun c_94 => ?_)
      refine g_iload_n (p0 := 98) (i := 1) dX10_sums_97 rfl rfl rfl ?_
      refine g_iconst (p0 := 99) (v := nI 4) dX10_sums_98 rfl rfl ?_
      first | ((with_reducible refine isN2 ?_); refine g_icmpN_ne (tgt := 125) (p1 := 102) dX10_sums_99 rfl (by omega) (by omega) rfl (fun c_99 => ?_) (fun c_99 => by exfalso; first | omega | contradiction | exact absurd (by assumption) c_99 | (simp_all; done))) | refine g_icmp_ne (tgt := 125) (p1 := 102) dX10_sums_99 rfl rfl (fun c_99 => ?_) (fun c_99 => by exfalso; first | omega | contradiction | exact absurd (by assumption) c_99 | (simp_all; done))
      refine g_iload_n (p0 := 126) (i := 2) dX10_sums_125 rfl rfl rfl ?_
      refine g_ireturn dX10_sums_126 rfl rfl (?_)
      exact k
  | succ q ih =>
    intro i hi
    have h := ih (i + 1) (by omega)
    have hz : f i = 0 ∨ f i = 1 := by have := (hf i (by omega)).1; omega
    have hr := (hf i (by omega)).2
    have e : tt f (i + 1) = tt f i + f i := rfl
    rw [e] at h
    rcases hz with hz | hz
    · rw [hz] at hr h
      refine g_iload_n (p0 := 5) (i := 3) dX10_sums_4 rfl rfl rfl ?_
      refine g_aload_n (p0 := 6) (i := 0) dX10_sums_5 rfl rfl rfl ?_
      refine g_getI (p0 := 9) dX10_sums_6 fX10_121 (by first | rfl | assumption | exact RW.s (by assumption) | exact TW.s (by assumption)) rfl (by first | assumption | ((repeat (first | exact up_hit | refine up_nv (by decide) ?_ | refine up_mv (by first | decide | omega) ?_)) <;> first | assumption | rfl)) rfl ?_
      first | ((with_reducible refine isN2 ?_); refine g_icmpN_ge (tgt := 85) (p1 := 12) dX10_sums_9 rfl (by omega) (by omega) rfl (fun c_9 => by exfalso; first | omega | contradiction | exact absurd (by assumption) c_9 | (simp_all; done)) (fun c_9 => ?_)) | refine g_icmp_ge (tgt := 85) (p1 := 12) dX10_sums_9 rfl rfl (fun c_9 => by exfalso; first | omega | contradiction | exact absurd (by assumption) c_9 | (simp_all; done)) (fun c_9 => ?_)
      refine g_iload_n (p0 := 13) (i := 2) dX10_sums_12 rfl rfl rfl ?_
      refine g_iload_n (p0 := 14) (i := 1) dX10_sums_13 rfl rfl rfl ?_
      refine g_iconst (p0 := 15) (v := nI 3) dX10_sums_14 rfl rfl ?_
      first | ((with_reducible refine isN2 ?_); refine g_icmpN_ne (tgt := 26) (p1 := 18) dX10_sums_15 rfl (by omega) (by omega) rfl (fun c_15 => ?_) (fun c_15 => by exfalso; first | omega | contradiction | exact absurd (by assumption) c_15 | (simp_all; done))) | refine g_icmp_ne (tgt := 26) (p1 := 18) dX10_sums_15 rfl rfl (fun c_15 => ?_) (fun c_15 => by exfalso; first | omega | contradiction | exact absurd (by assumption) c_15 | (simp_all; done))
      refine g_iload_n (p0 := 27) (i := 1) dX10_sums_26 rfl rfl rfl ?_
      refine g_iconst (p0 := 28) (v := nI 5) dX10_sums_27 rfl rfl ?_
      first | ((with_reducible refine isN2 ?_); refine g_icmpN_ne (tgt := 40) (p1 := 31) dX10_sums_28 rfl (by omega) (by omega) rfl (fun c_28 => ?_) (fun c_28 => by exfalso; first | omega | contradiction | exact absurd (by assumption) c_28 | (simp_all; done))) | refine g_icmp_ne (tgt := 40) (p1 := 31) dX10_sums_28 rfl rfl (fun c_28 => ?_) (fun c_28 => by exfalso; first | omega | contradiction | exact absurd (by assumption) c_28 | (simp_all; done))
      refine g_iload_n (p0 := 41) (i := 1) dX10_sums_40 rfl rfl rfl ?_
      refine g_bipush (p0 := 43) (v := nI 6) dX10_sums_41 (by decide) rfl ?_
      first | ((with_reducible refine isN2 ?_); refine g_icmpN_ne (tgt := 55) (p1 := 46) dX10_sums_43 rfl (by omega) (by omega) rfl (fun c_43 => ?_) (fun c_43 => by exfalso; first | omega | contradiction | exact absurd (by assumption) c_43 | (simp_all; done))) | refine g_icmp_ne (tgt := 55) (p1 := 46) dX10_sums_43 rfl rfl (fun c_43 => ?_) (fun c_43 => by exfalso; first | omega | contradiction | exact absurd (by assumption) c_43 | (simp_all; done))
      refine g_iload_n (p0 := 56) (i := 1) dX10_sums_55 rfl rfl rfl ?_
      refine g_bipush (p0 := 58) (v := nI 7) dX10_sums_56 (by decide) rfl ?_
      first | ((with_reducible refine isN2 ?_); refine g_icmpN_ne (tgt := 76) (p1 := 61) dX10_sums_58 rfl (by omega) (by omega) rfl (fun c_58 => by exfalso; first | omega | contradiction | exact absurd (by assumption) c_58 | (simp_all; done)) (fun c_58 => ?_)) | refine g_icmp_ne (tgt := 76) (p1 := 61) dX10_sums_58 rfl rfl (fun c_58 => by exfalso; first | omega | contradiction | exact absurd (by assumption) c_58 | (simp_all; done)) (fun c_58 => ?_)
      refine g_aload_n (p0 := 62) (i := 0) dX10_sums_61 rfl rfl rfl ?_
      refine g_iload_n (p0 := 63) (i := 3) dX10_sums_62 rfl rfl rfl ?_
      refine g_ldc (p0 := 65) dX10_sums_63 qX10_154 rfl ?_
      refine g_iconst (p0 := 66) (v := nI 0) dX10_sums_65 rfl rfl ?_
      refine g_cV3R (p0 := 69) (r1 := mX10_isRight) dX10_sums_66 lX10_155 vX10_isRight (by first | rfl | assumption | exact RW.s (by assumption) | exact TW.s (by assumption)) ⟨_, _, rfl⟩ (FITi rfl rfl) (Nat.le_of_ble_eq_true rfl) (hr) rfl ?_
      first | ((with_reducible refine isN1 ?_); refine g_ifN_eq (tgt := 76) (p1 := 72) dX10_sums_69 rfl (by omega) rfl (fun c_69 => ?_) (fun c_69 => by exfalso; first | omega | contradiction | exact absurd (by assumption) c_69 | (simp_all; done))) | refine g_if_eq (tgt := 76) (p1 := 72) dX10_sums_69 rfl rfl (fun c_69 => ?_) (fun c_69 => by exfalso; first | omega | contradiction | exact absurd (by assumption) c_69 | (simp_all; done))
      refine g_iconst (p0 := 77) (v := nI 0) dX10_sums_76 rfl rfl ?_
      first | ((with_reducible refine isN2 ?_); refine g_iaddN (p0 := 78) dX10_sums_77 rfl ?_) | refine g_iadd (p0 := 78) dX10_sums_77 rfl ?_
      refine g_istore_n (p0 := 79) (i := 2) (ls2 := [_, _, _, _]) dX10_sums_78 rfl (Nat.le_of_ble_eq_true rfl) rfl rfl ?_
      first | refine g_iinc1 (p0 := 82) (ls2 := [_, _, _, _]) dX10_sums_79 rfl rfl rfl ?_ | refine g_iinc (p0 := 82) (ls2 := [_, _, _, _]) dX10_sums_79 rfl rfl rfl rfl ?_
      refine g_goto (tgt := 4) dX10_sums_82 rfl ?_
      exact h
    · rw [hz] at hr h
      refine g_iload_n (p0 := 5) (i := 3) dX10_sums_4 rfl rfl rfl ?_
      refine g_aload_n (p0 := 6) (i := 0) dX10_sums_5 rfl rfl rfl ?_
      refine g_getI (p0 := 9) dX10_sums_6 fX10_121 (by first | rfl | assumption | exact RW.s (by assumption) | exact TW.s (by assumption)) rfl (by first | assumption | ((repeat (first | exact up_hit | refine up_nv (by decide) ?_ | refine up_mv (by first | decide | omega) ?_)) <;> first | assumption | rfl)) rfl ?_
      first | ((with_reducible refine isN2 ?_); refine g_icmpN_ge (tgt := 85) (p1 := 12) dX10_sums_9 rfl (by omega) (by omega) rfl (fun c_9 => by exfalso; first | omega | contradiction | exact absurd (by assumption) c_9 | (simp_all; done)) (fun c_9 => ?_)) | refine g_icmp_ge (tgt := 85) (p1 := 12) dX10_sums_9 rfl rfl (fun c_9 => by exfalso; first | omega | contradiction | exact absurd (by assumption) c_9 | (simp_all; done)) (fun c_9 => ?_)
      refine g_iload_n (p0 := 13) (i := 2) dX10_sums_12 rfl rfl rfl ?_
      refine g_iload_n (p0 := 14) (i := 1) dX10_sums_13 rfl rfl rfl ?_
      refine g_iconst (p0 := 15) (v := nI 3) dX10_sums_14 rfl rfl ?_
      first | ((with_reducible refine isN2 ?_); refine g_icmpN_ne (tgt := 26) (p1 := 18) dX10_sums_15 rfl (by omega) (by omega) rfl (fun c_15 => ?_) (fun c_15 => by exfalso; first | omega | contradiction | exact absurd (by assumption) c_15 | (simp_all; done))) | refine g_icmp_ne (tgt := 26) (p1 := 18) dX10_sums_15 rfl rfl (fun c_15 => ?_) (fun c_15 => by exfalso; first | omega | contradiction | exact absurd (by assumption) c_15 | (simp_all; done))
      refine g_iload_n (p0 := 27) (i := 1) dX10_sums_26 rfl rfl rfl ?_
      refine g_iconst (p0 := 28) (v := nI 5) dX10_sums_27 rfl rfl ?_
      first | ((with_reducible refine isN2 ?_); refine g_icmpN_ne (tgt := 40) (p1 := 31) dX10_sums_28 rfl (by omega) (by omega) rfl (fun c_28 => ?_) (fun c_28 => by exfalso; first | omega | contradiction | exact absurd (by assumption) c_28 | (simp_all; done))) | refine g_icmp_ne (tgt := 40) (p1 := 31) dX10_sums_28 rfl rfl (fun c_28 => ?_) (fun c_28 => by exfalso; first | omega | contradiction | exact absurd (by assumption) c_28 | (simp_all; done))
      refine g_iload_n (p0 := 41) (i := 1) dX10_sums_40 rfl rfl rfl ?_
      refine g_bipush (p0 := 43) (v := nI 6) dX10_sums_41 (by decide) rfl ?_
      first | ((with_reducible refine isN2 ?_); refine g_icmpN_ne (tgt := 55) (p1 := 46) dX10_sums_43 rfl (by omega) (by omega) rfl (fun c_43 => ?_) (fun c_43 => by exfalso; first | omega | contradiction | exact absurd (by assumption) c_43 | (simp_all; done))) | refine g_icmp_ne (tgt := 55) (p1 := 46) dX10_sums_43 rfl rfl (fun c_43 => ?_) (fun c_43 => by exfalso; first | omega | contradiction | exact absurd (by assumption) c_43 | (simp_all; done))
      refine g_iload_n (p0 := 56) (i := 1) dX10_sums_55 rfl rfl rfl ?_
      refine g_bipush (p0 := 58) (v := nI 7) dX10_sums_56 (by decide) rfl ?_
      first | ((with_reducible refine isN2 ?_); refine g_icmpN_ne (tgt := 76) (p1 := 61) dX10_sums_58 rfl (by omega) (by omega) rfl (fun c_58 => by exfalso; first | omega | contradiction | exact absurd (by assumption) c_58 | (simp_all; done)) (fun c_58 => ?_)) | refine g_icmp_ne (tgt := 76) (p1 := 61) dX10_sums_58 rfl rfl (fun c_58 => by exfalso; first | omega | contradiction | exact absurd (by assumption) c_58 | (simp_all; done)) (fun c_58 => ?_)
      refine g_aload_n (p0 := 62) (i := 0) dX10_sums_61 rfl rfl rfl ?_
      refine g_iload_n (p0 := 63) (i := 3) dX10_sums_62 rfl rfl rfl ?_
      refine g_ldc (p0 := 65) dX10_sums_63 qX10_154 rfl ?_
      refine g_iconst (p0 := 66) (v := nI 0) dX10_sums_65 rfl rfl ?_
      refine g_cV3R (p0 := 69) (r1 := mX10_isRight) dX10_sums_66 lX10_155 vX10_isRight (by first | rfl | assumption | exact RW.s (by assumption) | exact TW.s (by assumption)) ⟨_, _, rfl⟩ (FITi rfl rfl) (Nat.le_of_ble_eq_true rfl) (hr) rfl ?_
      first | ((with_reducible refine isN1 ?_); refine g_ifN_eq (tgt := 76) (p1 := 72) dX10_sums_69 rfl (by omega) rfl (fun c_69 => by exfalso; first | omega | contradiction | exact absurd (by assumption) c_69 | (simp_all; done)) (fun c_69 => ?_)) | refine g_if_eq (tgt := 76) (p1 := 72) dX10_sums_69 rfl rfl (fun c_69 => by exfalso; first | omega | contradiction | exact absurd (by assumption) c_69 | (simp_all; done)) (fun c_69 => ?_)
      refine g_iconst (p0 := 73) (v := nI 1) dX10_sums_72 rfl rfl ?_
      refine g_goto (tgt := 77) dX10_sums_73 rfl ?_
      first | ((with_reducible refine isN2 ?_); refine g_iaddN (p0 := 78) dX10_sums_77 rfl ?_) | refine g_iadd (p0 := 78) dX10_sums_77 rfl ?_
      refine g_istore_n (p0 := 79) (i := 2) (ls2 := [_, _, _, _]) dX10_sums_78 rfl (Nat.le_of_ble_eq_true rfl) rfl rfl ?_
      first | refine g_iinc1 (p0 := 82) (ls2 := [_, _, _, _]) dX10_sums_79 rfl rfl rfl ?_ | refine g_iinc (p0 := 82) (ls2 := [_, _, _, _]) dX10_sums_79 rfl rfl rfl rfl ?_
      refine g_goto (tgt := 4) dX10_sums_82 rfl ?_
      exact h
theorem sums_7 {s : Nat} {M : Nat} {f : Nat → Nat} {σ : Sg} (hs : σ 80 3 = nI s) (hs1 : s ≤ 160) (hM : σ 79 11 = nI M) (hM1 : M ≤ 160) (hf : ∀ i, i < M → f i ≤ 1 ∧ CM mX10_isRight [ar 79, ai (nI i), ai (-1000004), ai (nI 0)] σ (Ret (nI (f i)) σ)) : CM mX10_sums [ar 79, ai (nI 7)] σ (Ret (nI (tt f M)) σ) := by
  refine CM_in (ls := [some (ar 79), some (ai (nI 7)), none, none]) rfl ?_
  refine g_iconst (p0 := 1) (v := nI 0) dX10_sums_0 rfl rfl ?_
  refine g_istore_n (p0 := 2) (i := 2) (ls2 := [_, _, _, _]) dX10_sums_1 rfl (Nat.le_of_ble_eq_true rfl) rfl rfl ?_
  refine g_iconst (p0 := 3) (v := nI 0) dX10_sums_2 rfl rfl ?_
  refine g_istore_n (p0 := 4) (i := 3) (ls2 := [_, _, _, _]) dX10_sums_3 rfl (Nat.le_of_ble_eq_true rfl) rfl rfl ?_
  exact sums_l7 hs hs1 hM hM1 hf ⟨rfl, rfl⟩ M 0 (by omega)
