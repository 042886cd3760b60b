/-! THE CLASS: out of the rows of whole -/
set_option maxRecDepth 20000 in
set_option maxHeartbeats 2000000 in
theorem rightOnes_l {M : Nat} {f : Nat → Nat} {σ : Sg} {Q : SP} (hM : σ 45 7 = nI M) (hM1 : M ≤ 160) (hf : ∀ i, i < M → f i ≤ 1 ∧ CM mX6_isRight [ar 33, ai (nI i)] σ (Ret (nI (f i)) σ)) (k : Q (some (ai (nI (tt f M)))) σ) : ∀ q i, i + q = M → WM mX6_rightOnes Q 4 [some (ar 33), some (ai (nI (tt f i))), some (ai (nI i))] [] σ := by
  intro q
  induction q with
  | zero =>
    intro i hi
    obtain rfl : i = M := by omega
    refine g_iload_n (p0 := 5) (i := 2) dX6_rightOnes_4 rfl rfl rfl ?_
    refine g_aload_n (p0 := 6) (i := 0) dX6_rightOnes_5 rfl rfl rfl ?_
    refine g_getR (p0 := 9) dX6_rightOnes_6 fX6_21 (by first | rfl | assumption | exact RW.s (by assumption) | exact TW.s (by assumption)) rfl rfl ?_
    refine g_getI (p0 := 12) dX6_rightOnes_9 fX6_57 (by first | rfl | assumption | exact RW.s (by assumption) | exact TW.s (by assumption)) rfl (by first | assumption | ((repeat (first | exact up_hit | refine up_nv (by decide) ?_ | refine up_mv (by first | decide | omega) ?_)) <;> first | assumption | rfl)) rfl ?_
    first | ((with_reducible refine isN2 ?_); refine g_icmpN_ge (tgt := 32) (p1 := 15) dX6_rightOnes_12 rfl (by omega) (by omega) rfl (fun c_12 => ?_) (fun c_12 => by exfalso; first | omega | contradiction | exact absurd (by assumption) c_12 | (simp_all; done))) | refine g_icmp_ge (tgt := 32) (p1 := 15) dX6_rightOnes_12 rfl rfl (fun c_12 => ?_) (fun c_12 => by exfalso; first | omega | contradiction | exact absurd (by assumption) c_12 | (simp_all; done))
    refine g_iload_n (p0 := 33) (i := 1) dX6_rightOnes_32 rfl rfl rfl ?_
    refine g_ireturn dX6_rightOnes_33 rfl rfl (?_)
    exact k
  | succ q ih =>
    intro i hi
    have h := ih (i + 1) (by omega)
    have hz : f i = 0 ∨ f i = 1 := by have := (hf i (by omega)).1; omega
    have hr := (hf i (by omega)).2
    have e : tt f (i + 1) = tt f i + f i := rfl
    rw [e] at h
    rcases hz with hz | hz
    · rw [hz] at hr h
      refine g_iload_n (p0 := 5) (i := 2) dX6_rightOnes_4 rfl rfl rfl ?_
      refine g_aload_n (p0 := 6) (i := 0) dX6_rightOnes_5 rfl rfl rfl ?_
      refine g_getR (p0 := 9) dX6_rightOnes_6 fX6_21 (by first | rfl | assumption | exact RW.s (by assumption) | exact TW.s (by assumption)) rfl rfl ?_
      refine g_getI (p0 := 12) dX6_rightOnes_9 fX6_57 (by first | rfl | assumption | exact RW.s (by assumption) | exact TW.s (by assumption)) rfl (by first | assumption | ((repeat (first | exact up_hit | refine up_nv (by decide) ?_ | refine up_mv (by first | decide | omega) ?_)) <;> first | assumption | rfl)) rfl ?_
      first | ((with_reducible refine isN2 ?_); refine g_icmpN_ge (tgt := 32) (p1 := 15) dX6_rightOnes_12 rfl (by omega) (by omega) rfl (fun c_12 => by exfalso; first | omega | contradiction | exact absurd (by assumption) c_12 | (simp_all; done)) (fun c_12 => ?_)) | refine g_icmp_ge (tgt := 32) (p1 := 15) dX6_rightOnes_12 rfl rfl (fun c_12 => by exfalso; first | omega | contradiction | exact absurd (by assumption) c_12 | (simp_all; done)) (fun c_12 => ?_)
      refine g_aload_n (p0 := 16) (i := 0) dX6_rightOnes_15 rfl rfl rfl ?_
      refine g_iload_n (p0 := 17) (i := 2) dX6_rightOnes_16 rfl rfl rfl ?_
      refine g_cV1R (p0 := 20) (r1 := mX6_isRight) dX6_rightOnes_17 lX6_165 vX6_isRight (by first | rfl | assumption | exact RW.s (by assumption) | exact TW.s (by assumption)) ⟨_, _, rfl⟩ (FITi rfl rfl) (Nat.le_of_ble_eq_true rfl) (hr) rfl ?_
      first | ((with_reducible refine isN1 ?_); refine g_ifN_eq (tgt := 26) (p1 := 23) dX6_rightOnes_20 rfl (by omega) rfl (fun c_20 => ?_) (fun c_20 => by exfalso; first | omega | contradiction | exact absurd (by assumption) c_20 | (simp_all; done))) | refine g_if_eq (tgt := 26) (p1 := 23) dX6_rightOnes_20 rfl rfl (fun c_20 => ?_) (fun c_20 => by exfalso; first | omega | contradiction | exact absurd (by assumption) c_20 | (simp_all; done))
      first | refine g_iinc1 (p0 := 29) (ls2 := [_, _, _]) dX6_rightOnes_26 rfl rfl rfl ?_ | refine g_iinc (p0 := 29) (ls2 := [_, _, _]) dX6_rightOnes_26 rfl rfl rfl rfl ?_
      refine g_goto (tgt := 4) dX6_rightOnes_29 rfl ?_
      exact h
    · rw [hz] at hr h
      refine g_iload_n (p0 := 5) (i := 2) dX6_rightOnes_4 rfl rfl rfl ?_
      refine g_aload_n (p0 := 6) (i := 0) dX6_rightOnes_5 rfl rfl rfl ?_
      refine g_getR (p0 := 9) dX6_rightOnes_6 fX6_21 (by first | rfl | assumption | exact RW.s (by assumption) | exact TW.s (by assumption)) rfl rfl ?_
      refine g_getI (p0 := 12) dX6_rightOnes_9 fX6_57 (by first | rfl | assumption | exact RW.s (by assumption) | exact TW.s (by assumption)) rfl (by first | assumption | ((repeat (first | exact up_hit | refine up_nv (by decide) ?_ | refine up_mv (by first | decide | omega) ?_)) <;> first | assumption | rfl)) rfl ?_
      first | ((with_reducible refine isN2 ?_); refine g_icmpN_ge (tgt := 32) (p1 := 15) dX6_rightOnes_12 rfl (by omega) (by omega) rfl (fun c_12 => by exfalso; first | omega | contradiction | exact absurd (by assumption) c_12 | (simp_all; done)) (fun c_12 => ?_)) | refine g_icmp_ge (tgt := 32) (p1 := 15) dX6_rightOnes_12 rfl rfl (fun c_12 => by exfalso; first | omega | contradiction | exact absurd (by assumption) c_12 | (simp_all; done)) (fun c_12 => ?_)
      refine g_aload_n (p0 := 16) (i := 0) dX6_rightOnes_15 rfl rfl rfl ?_
      refine g_iload_n (p0 := 17) (i := 2) dX6_rightOnes_16 rfl rfl rfl ?_
      refine g_cV1R (p0 := 20) (r1 := mX6_isRight) dX6_rightOnes_17 lX6_165 vX6_isRight (by first | rfl | assumption | exact RW.s (by assumption) | exact TW.s (by assumption)) ⟨_, _, rfl⟩ (FITi rfl rfl) (Nat.le_of_ble_eq_true rfl) (hr) rfl ?_
      first | ((with_reducible refine isN1 ?_); refine g_ifN_eq (tgt := 26) (p1 := 23) dX6_rightOnes_20 rfl (by omega) rfl (fun c_20 => by exfalso; first | omega | contradiction | exact absurd (by assumption) c_20 | (simp_all; done)) (fun c_20 => ?_)) | refine g_if_eq (tgt := 26) (p1 := 23) dX6_rightOnes_20 rfl rfl (fun c_20 => by exfalso; first | omega | contradiction | exact absurd (by assumption) c_20 | (simp_all; done)) (fun c_20 => ?_)
      first | refine g_iinc1 (p0 := 26) (ls2 := [_, _, _]) dX6_rightOnes_23 rfl rfl rfl ?_ | refine g_iinc (p0 := 26) (ls2 := [_, _, _]) dX6_rightOnes_23 rfl rfl rfl rfl ?_
      first | refine g_iinc1 (p0 := 29) (ls2 := [_, _, _]) dX6_rightOnes_26 rfl rfl rfl ?_ | refine g_iinc (p0 := 29) (ls2 := [_, _, _]) dX6_rightOnes_26 rfl rfl rfl rfl ?_
      refine g_goto (tgt := 4) dX6_rightOnes_29 rfl ?_
      exact h
theorem rightOnes_sp {M : Nat} {f : Nat → Nat} {σ : Sg} (hM : σ 45 7 = nI M) (hM1 : M ≤ 160) (hf : ∀ i, i < M → f i ≤ 1 ∧ CM mX6_isRight [ar 33, ai (nI i)] σ (Ret (nI (f i)) σ)) : CM mX6_rightOnes [ar 33] σ (Ret (nI (tt f M)) σ) := by
  refine CM_in (ls := [some (ar 33), none, none]) rfl ?_
  refine g_iconst (p0 := 1) (v := nI 0) dX6_rightOnes_0 rfl rfl ?_
  refine g_istore_n (p0 := 2) (i := 1) (ls2 := [_, _, _]) dX6_rightOnes_1 rfl (Nat.le_of_ble_eq_true rfl) rfl rfl ?_
  refine g_iconst (p0 := 3) (v := nI 0) dX6_rightOnes_2 rfl rfl ?_
  refine g_istore_n (p0 := 4) (i := 2) (ls2 := [_, _, _]) dX6_rightOnes_3 rfl (Nat.le_of_ble_eq_true rfl) rfl rfl ?_
  exact rightOnes_l hM hM1 hf ⟨rfl, rfl⟩ M 0 (by omega)
