/-! THE CLASS: out of the rows of whole -/
def tt (f : Nat → Nat) : Nat → Nat
  | 0 => 0
  | n + 1 => tt f n + f n
set_option maxRecDepth 20000 in
set_option maxHeartbeats 2000000 in
theorem totalOf_loop {r a n M : Nat} {f : Nat → Nat} {σ : Sg} {Q : SP} (hr : RW r a n) (hM : σ 45 7 = nI M) (hMn : M ≤ n) (hM1 : M ≤ 160) (hf : ∀ i, i < M → σ a i = nI (f i)) (k : Q (some (ai (nI (tt f M)))) σ) : ∀ q i, i + q = M → WM mX4_totalOf Q 4 [some (ar 45), some (ar r), some (ai (nI (tt f i))), some (ai (nI i))] [] σ := by
  intro q
  induction q with
  | zero =>
    intro i hi
    obtain rfl : i = M := by omega
    refine g_iload_n (p0 := 5) (i := 3) dX4_totalOf_4 rfl rfl rfl ?_
    refine g_aload_n (p0 := 6) (i := 0) dX4_totalOf_5 rfl rfl rfl ?_
    refine g_getI (p0 := 9) dX4_totalOf_6 fX4_38 (by first | rfl | assumption | exact RW.s (by assumption) | exact TW.s (by assumption)) rfl (by first | assumption | ((repeat (first | exact up_hit | refine up_nv (by decide) ?_ | refine up_mv (by first | decide | omega) ?_)) <;> first | assumption | rfl)) rfl ?_
    first | ((with_reducible refine isN2 ?_); refine g_icmpN_ge (tgt := 26) (p1 := 12) dX4_totalOf_9 rfl (by omega) (by omega) rfl (fun c_9 => ?_) (fun c_9 => by exfalso; first | omega | contradiction | exact absurd (by assumption) c_9 | (simp_all; done))) | refine g_icmp_ge (tgt := 26) (p1 := 12) dX4_totalOf_9 rfl rfl (fun c_9 => ?_) (fun c_9 => by exfalso; first | omega | contradiction | exact absurd (by assumption) c_9 | (simp_all; done))
    refine g_iload_n (p0 := 27) (i := 2) dX4_totalOf_26 rfl rfl rfl ?_
    refine g_ireturn dX4_totalOf_27 rfl rfl (?_)
    exact k
  | succ q ih =>
    intro i hi
    have h := ih (i + 1) (by omega)
    refine g_iload_n (p0 := 5) (i := 3) dX4_totalOf_4 rfl rfl rfl ?_
    refine g_aload_n (p0 := 6) (i := 0) dX4_totalOf_5 rfl rfl rfl ?_
    refine g_getI (p0 := 9) dX4_totalOf_6 fX4_38 (by first | rfl | assumption | exact RW.s (by assumption) | exact TW.s (by assumption)) rfl (by first | assumption | ((repeat (first | exact up_hit | refine up_nv (by decide) ?_ | refine up_mv (by first | decide | omega) ?_)) <;> first | assumption | rfl)) rfl ?_
    first | ((with_reducible refine isN2 ?_); refine g_icmpN_ge (tgt := 26) (p1 := 12) dX4_totalOf_9 rfl (by omega) (by omega) rfl (fun c_9 => by exfalso; first | omega | contradiction | exact absurd (by assumption) c_9 | (simp_all; done)) (fun c_9 => ?_)) | refine g_icmp_ge (tgt := 26) (p1 := 12) dX4_totalOf_9 rfl rfl (fun c_9 => by exfalso; first | omega | contradiction | exact absurd (by assumption) c_9 | (simp_all; done)) (fun c_9 => ?_)
    refine g_iload_n (p0 := 13) (i := 2) dX4_totalOf_12 rfl rfl rfl ?_
    refine g_aload_n (p0 := 14) (i := 1) dX4_totalOf_13 rfl rfl rfl ?_
    refine g_iload_n (p0 := 15) (i := 3) dX4_totalOf_14 rfl rfl rfl ?_
    refine g_cV1R (p0 := 18) (r1 := mX7_at) dX4_totalOf_15 lX4_49 vX7_at (by first | rfl | assumption | exact RW.s (by assumption) | exact TW.s (by assumption)) ⟨_, _, rfl⟩ (FITi rfl rfl) (Nat.le_of_ble_eq_true rfl) (at_N hr (by omega) (hf i (by omega))) rfl ?_
    first | ((with_reducible refine isN2 ?_); refine g_iaddN (p0 := 19) dX4_totalOf_18 rfl ?_) | refine g_iadd (p0 := 19) dX4_totalOf_18 rfl ?_
    refine g_istore_n (p0 := 20) (i := 2) (ls2 := [_, _, _, _]) dX4_totalOf_19 rfl (Nat.le_of_ble_eq_true rfl) rfl rfl ?_
    first | refine g_iinc1 (p0 := 23) (ls2 := [_, _, _, _]) dX4_totalOf_20 rfl rfl rfl ?_ | refine g_iinc (p0 := 23) (ls2 := [_, _, _, _]) dX4_totalOf_20 rfl rfl rfl rfl ?_
    refine g_goto (tgt := 4) dX4_totalOf_23 rfl ?_
    exact h
theorem totalOf_sp {r a n M : Nat} {f : Nat → Nat} {σ : Sg} (hr : RW r a n) (hM : σ 45 7 = nI M) (hMn : M ≤ n) (hM1 : M ≤ 160) (hf : ∀ i, i < M → σ a i = nI (f i)) : CM mX4_totalOf [ar 45, ar r] σ (Ret (nI (tt f M)) σ) := by
  refine CM_in (ls := [some (ar 45), some (ar r), none, none]) rfl ?_
  refine g_iconst (p0 := 1) (v := nI 0) dX4_totalOf_0 rfl rfl ?_
  refine g_istore_n (p0 := 2) (i := 2) (ls2 := [_, _, _, _]) dX4_totalOf_1 rfl (Nat.le_of_ble_eq_true rfl) rfl rfl ?_
  refine g_iconst (p0 := 3) (v := nI 0) dX4_totalOf_2 rfl rfl ?_
  refine g_istore_n (p0 := 4) (i := 3) (ls2 := [_, _, _, _]) dX4_totalOf_3 rfl (Nat.le_of_ble_eq_true rfl) rfl rfl ?_
  exact totalOf_loop hr hM hMn hM1 hf ⟨rfl, rfl⟩ M 0 (by omega)

