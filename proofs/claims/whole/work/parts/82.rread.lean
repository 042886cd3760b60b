/-! QUESTIONS: read, the reference -/
set_option maxRecDepth 20000 in
set_option maxHeartbeats 2000000 in
theorem rb_0F {m j f n : Nat} {σ : Sg} (hm : m < 160) (hj : j < 2147483648) (hn : n ≤ 160) (h0 : σ 92 m = nI f) (h1 : σ 92 (m + 1) = nI (f + n)) (h : n ≤ j) : CM mX10_readBy [ar 79, ai (nI m), ai (nI j), ai (nI 0)] σ (Ret (-1000004) σ) := by
  have hlo := longOf_sp hm h0 h1 (by omega)
  rw [Nat.add_sub_cancel_left] at hlo
  refine CM_in (ls := [some (ar 79), some (ai (nI m)), some (ai (nI j)), some (ai (nI 0))]) rfl ?_
  refine g_iload_n (p0 := 1) (i := 2) dX10_readBy_0 rfl rfl rfl ?_
  refine g_aload_n (p0 := 2) (i := 0) dX10_readBy_1 rfl rfl rfl ?_
  refine g_iload_n (p0 := 3) (i := 1) dX10_readBy_2 rfl rfl rfl ?_
  refine g_cV1R (p0 := 6) (r1 := mX10_longOf) dX10_readBy_3 lX10_142 vX10_longOf (by first | rfl | assumption | exact RW.s (by assumption) | exact TW.s (by assumption)) ⟨_, _, rfl⟩ (FITi rfl rfl) (Nat.le_of_ble_eq_true rfl) (hlo) rfl ?_
  first | ((with_reducible refine isN2 ?_); refine g_icmpN_lt (tgt := 12) (p1 := 9) dX10_readBy_6 rfl (by omega) (by omega) rfl (fun c_6 => by exfalso; first | omega | contradiction | exact absurd (by assumption) c_6 | (simp_all; done)) (fun c_6 => ?_)) | refine g_icmp_lt (tgt := 12) (p1 := 9) dX10_readBy_6 rfl rfl (fun c_6 => by exfalso; first | omega | contradiction | exact absurd (by assumption) c_6 | (simp_all; done)) (fun c_6 => ?_)
  refine g_ldc (p0 := 11) dX10_readBy_9 qX10_154 rfl ?_
  refine g_ireturn dX10_readBy_11 rfl rfl (?_)
  exact ⟨rfl, rfl⟩
set_option maxRecDepth 20000 in
set_option maxHeartbeats 2000000 in
theorem rb_1F {m j f n : Nat} {σ : Sg} (hm : m < 160) (hj : j < 2147483648) (hn : n ≤ 160) (h0 : σ 92 m = nI f) (h1 : σ 92 (m + 1) = nI (f + n)) (h : n ≤ j) : CM mX10_readBy [ar 79, ai (nI m), ai (nI j), ai (nI 1)] σ (Ret (-1000004) σ) := by
  have hlo := longOf_sp hm h0 h1 (by omega)
  rw [Nat.add_sub_cancel_left] at hlo
  refine CM_in (ls := [some (ar 79), some (ai (nI m)), some (ai (nI j)), some (ai (nI 1))]) rfl ?_
  refine g_iload_n (p0 := 1) (i := 2) dX10_readBy_0 rfl rfl rfl ?_
  refine g_aload_n (p0 := 2) (i := 0) dX10_readBy_1 rfl rfl rfl ?_
  refine g_iload_n (p0 := 3) (i := 1) dX10_readBy_2 rfl rfl rfl ?_
  refine g_cV1R (p0 := 6) (r1 := mX10_longOf) dX10_readBy_3 lX10_142 vX10_longOf (by first | rfl | assumption | exact RW.s (by assumption) | exact TW.s (by assumption)) ⟨_, _, rfl⟩ (FITi rfl rfl) (Nat.le_of_ble_eq_true rfl) (hlo) rfl ?_
  first | ((with_reducible refine isN2 ?_); refine g_icmpN_lt (tgt := 12) (p1 := 9) dX10_readBy_6 rfl (by omega) (by omega) rfl (fun c_6 => by exfalso; first | omega | contradiction | exact absurd (by assumption) c_6 | (simp_all; done)) (fun c_6 => ?_)) | refine g_icmp_lt (tgt := 12) (p1 := 9) dX10_readBy_6 rfl rfl (fun c_6 => by exfalso; first | omega | contradiction | exact absurd (by assumption) c_6 | (simp_all; done)) (fun c_6 => ?_)
  refine g_ldc (p0 := 11) dX10_readBy_9 qX10_154 rfl ?_
  refine g_ireturn dX10_readBy_11 rfl rfl (?_)
  exact ⟨rfl, rfl⟩
set_option maxRecDepth 20000 in
set_option maxHeartbeats 2000000 in
theorem rb_0T {v : Int32} {m j f n : Nat} {σ : Sg} (hm : m < 160) (hj : j < 2147483648) (hn : n ≤ 160) (h0 : σ 92 m = nI f) (h1 : σ 92 (m + 1) = nI (f + n)) (h : j < n) (hv : CM mX10_read0 [ar 79, ai (nI (f + j))] σ (Ret v σ)) : CM mX10_readBy [ar 79, ai (nI m), ai (nI j), ai (nI 0)] σ (Ret v σ) := by
  have hlo := longOf_sp hm h0 h1 (by omega)
  rw [Nat.add_sub_cancel_left] at hlo
  refine CM_in (ls := [some (ar 79), some (ai (nI m)), some (ai (nI j)), some (ai (nI 0))]) rfl ?_
  refine g_iload_n (p0 := 1) (i := 2) dX10_readBy_0 rfl rfl rfl ?_
  refine g_aload_n (p0 := 2) (i := 0) dX10_readBy_1 rfl rfl rfl ?_
  refine g_iload_n (p0 := 3) (i := 1) dX10_readBy_2 rfl rfl rfl ?_
  refine g_cV1R (p0 := 6) (r1 := mX10_longOf) dX10_readBy_3 lX10_142 vX10_longOf (by first | rfl | assumption | exact RW.s (by assumption) | exact TW.s (by assumption)) ⟨_, _, rfl⟩ (FITi rfl rfl) (Nat.le_of_ble_eq_true rfl) (hlo) rfl ?_
  first | ((with_reducible refine isN2 ?_); refine g_icmpN_lt (tgt := 12) (p1 := 9) dX10_readBy_6 rfl (by omega) (by omega) rfl (fun c_6 => ?_) (fun c_6 => by exfalso; first | omega | contradiction | exact absurd (by assumption) c_6 | (simp_all; done))) | refine g_icmp_lt (tgt := 12) (p1 := 9) dX10_readBy_6 rfl rfl (fun c_6 => ?_) (fun c_6 => by exfalso; first | omega | contradiction | exact absurd (by assumption) c_6 | (simp_all; done))
  refine g_iload_n (p0 := 13) (i := 3) dX10_readBy_12 rfl rfl rfl ?_
  first | ((with_reducible refine isN1 ?_); refine g_ifN_eq (tgt := 35) (p1 := 16) dX10_readBy_13 rfl (by omega) rfl (fun c_13 => ?_) (fun c_13 => by exfalso; first | omega | contradiction | exact absurd (by assumption) c_13 | (simp_all; done))) | refine g_if_eq (tgt := 35) (p1 := 16) dX10_readBy_13 rfl rfl (fun c_13 => ?_) (fun c_13 => by exfalso; first | omega | contradiction | exact absurd (by assumption) c_13 | (simp_all; done))
  refine g_aload_n (p0 := 36) (i := 0) dX10_readBy_35 rfl rfl rfl ?_
  refine g_aload_n (p0 := 37) (i := 0) dX10_readBy_36 rfl rfl rfl ?_
  refine g_getR (p0 := 40) dX10_readBy_37 fX10_46 (by first | rfl | assumption | exact RW.s (by assumption) | exact TW.s (by assumption)) rfl rfl ?_
  refine g_iload_n (p0 := 41) (i := 1) dX10_readBy_40 rfl rfl rfl ?_
  first | ((with_reducible refine isN1 ?_); refine g_aldN (p0 := 42) dX10_readBy_41 (by first | rfl | assumption | exact RW.s (by assumption) | exact TW.s (by assumption)) (by first | decide | assumption) (by omega) (by first | assumption | ((repeat (first | exact up_hit | refine up_nv (by decide) ?_ | refine up_mv (by first | decide | omega) ?_)) <;> first | assumption | rfl)) rfl ?_) | refine g_ald (p0 := 42) dX10_readBy_41 (by first | rfl | assumption | exact RW.s (by assumption) | exact TW.s (by assumption)) (by assumption) (by first | assumption | ((repeat (first | exact up_hit | refine up_nv (by decide) ?_ | refine up_mv (by first | decide | omega) ?_)) <;> first | assumption | rfl)) rfl ?_
  refine g_iload_n (p0 := 43) (i := 2) dX10_readBy_42 rfl rfl rfl ?_
  first | ((with_reducible refine isN2 ?_); refine g_iaddN (p0 := 44) dX10_readBy_43 rfl ?_) | refine g_iadd (p0 := 44) dX10_readBy_43 rfl ?_
  refine g_cV1R (p0 := 47) (r1 := mX10_read0) dX10_readBy_44 lX10_148 vX10_read0 (by first | rfl | assumption | exact RW.s (by assumption) | exact TW.s (by assumption)) ⟨_, _, rfl⟩ (FITi rfl rfl) (Nat.le_of_ble_eq_true rfl) (hv) rfl ?_
  refine g_ireturn dX10_readBy_47 rfl rfl (?_)
  exact ⟨rfl, rfl⟩
set_option maxRecDepth 20000 in
set_option maxHeartbeats 2000000 in
theorem rb_1T {v : Int32} {m j f n : Nat} {σ : Sg} (hm : m < 160) (hj : j < 2147483648) (hn : n ≤ 160) (h0 : σ 92 m = nI f) (h1 : σ 92 (m + 1) = nI (f + n)) (h : j < n) (hp : σ 96 0 = nI j) (hv : σ 96 3 = v) : CM mX10_readBy [ar 79, ai (nI m), ai (nI j), ai (nI 1)] σ (Ret v σ) := by
  have hlo := longOf_sp hm h0 h1 (by omega)
  rw [Nat.add_sub_cancel_left] at hlo
  refine CM_in (ls := [some (ar 79), some (ai (nI m)), some (ai (nI j)), some (ai (nI 1))]) rfl ?_
  refine g_iload_n (p0 := 1) (i := 2) dX10_readBy_0 rfl rfl rfl ?_
  refine g_aload_n (p0 := 2) (i := 0) dX10_readBy_1 rfl rfl rfl ?_
  refine g_iload_n (p0 := 3) (i := 1) dX10_readBy_2 rfl rfl rfl ?_
  refine g_cV1R (p0 := 6) (r1 := mX10_longOf) dX10_readBy_3 lX10_142 vX10_longOf (by first | rfl | assumption | exact RW.s (by assumption) | exact TW.s (by assumption)) ⟨_, _, rfl⟩ (FITi rfl rfl) (Nat.le_of_ble_eq_true rfl) (hlo) rfl ?_
  first | ((with_reducible refine isN2 ?_); refine g_icmpN_lt (tgt := 12) (p1 := 9) dX10_readBy_6 rfl (by omega) (by omega) rfl (fun c_6 => ?_) (fun c_6 => by exfalso; first | omega | contradiction | exact absurd (by assumption) c_6 | (simp_all; done))) | refine g_icmp_lt (tgt := 12) (p1 := 9) dX10_readBy_6 rfl rfl (fun c_6 => ?_) (fun c_6 => by exfalso; first | omega | contradiction | exact absurd (by assumption) c_6 | (simp_all; done))
  refine g_iload_n (p0 := 13) (i := 3) dX10_readBy_12 rfl rfl rfl ?_
  first | ((with_reducible refine isN1 ?_); refine g_ifN_eq (tgt := 35) (p1 := 16) dX10_readBy_13 rfl (by omega) rfl (fun c_13 => by exfalso; first | omega | contradiction | exact absurd (by assumption) c_13 | (simp_all; done)) (fun c_13 => ?_)) | refine g_if_eq (tgt := 35) (p1 := 16) dX10_readBy_13 rfl rfl (fun c_13 => by exfalso; first | omega | contradiction | exact absurd (by assumption) c_13 | (simp_all; done)) (fun c_13 => ?_)
  refine g_aload_n (p0 := 17) (i := 0) dX10_readBy_16 rfl rfl rfl ?_
  refine g_getR (p0 := 20) dX10_readBy_17 fX10_58 (by first | rfl | assumption | exact RW.s (by assumption) | exact TW.s (by assumption)) rfl rfl ?_
  refine g_iconst (p0 := 21) (v := nI 0) dX10_readBy_20 rfl rfl ?_
  first | ((with_reducible refine isN1 ?_); refine g_aldN (p0 := 22) dX10_readBy_21 (by first | rfl | assumption | exact RW.s (by assumption) | exact TW.s (by assumption)) (by first | decide | assumption) (by omega) (by first | assumption | ((repeat (first | exact up_hit | refine up_nv (by decide) ?_ | refine up_mv (by first | decide | omega) ?_)) <;> first | assumption | rfl)) rfl ?_) | refine g_ald (p0 := 22) dX10_readBy_21 (by first | rfl | assumption | exact RW.s (by assumption) | exact TW.s (by assumption)) (by assumption) (by first | assumption | ((repeat (first | exact up_hit | refine up_nv (by decide) ?_ | refine up_mv (by first | decide | omega) ?_)) <;> first | assumption | rfl)) rfl ?_
  refine g_iload_n (p0 := 23) (i := 2) dX10_readBy_22 rfl rfl rfl ?_
  first | ((with_reducible refine isN2 ?_); refine g_icmpN_ne (tgt := 35) (p1 := 26) dX10_readBy_23 rfl (by omega) (by omega) rfl (fun c_23 => by exfalso; first | omega | contradiction | exact absurd (by assumption) c_23 | (simp_all; done)) (fun c_23 => ?_)) | refine g_icmp_ne (tgt := 35) (p1 := 26) dX10_readBy_23 rfl rfl (fun c_23 => by exfalso; first | omega | contradiction | exact absurd (by assumption) c_23 | (simp_all; done)) (fun c_23 => ?_)
  refine g_aload_n (p0 := 27) (i := 0) dX10_readBy_26 rfl rfl rfl ?_
  refine g_getR (p0 := 30) dX10_readBy_27 fX10_58 (by first | rfl | assumption | exact RW.s (by assumption) | exact TW.s (by assumption)) rfl rfl ?_
  refine g_iconst (p0 := 31) (v := nI 3) dX10_readBy_30 rfl rfl ?_
  first | ((with_reducible refine isN1 ?_); refine g_aldN (p0 := 32) dX10_readBy_31 (by first | rfl | assumption | exact RW.s (by assumption) | exact TW.s (by assumption)) (by first | decide | assumption) (by omega) (by first | assumption | ((repeat (first | exact up_hit | refine up_nv (by decide) ?_ | refine up_mv (by first | decide | omega) ?_)) <;> first | assumption | rfl)) rfl ?_) | refine g_ald (p0 := 32) dX10_readBy_31 (by first | rfl | assumption | exact RW.s (by assumption) | exact TW.s (by assumption)) (by assumption) (by first | assumption | ((repeat (first | exact up_hit | refine up_nv (by decide) ?_ | refine up_mv (by first | decide | omega) ?_)) <;> first | assumption | rfl)) rfl ?_
  refine g_goto (tgt := 47) dX10_readBy_32 rfl ?_
  refine g_ireturn dX10_readBy_47 rfl rfl (?_)
  exact ⟨rfl, rfl⟩
set_option maxRecDepth 20000 in
set_option maxHeartbeats 2000000 in
theorem rb_1N {t : Nat} {v : Int32} {m j f n : Nat} {σ : Sg} (hm : m < 160) (hj : j < 2147483648) (hn : n ≤ 160) (h0 : σ 92 m = nI f) (h1 : σ 92 (m + 1) = nI (f + n)) (h : j < n) (ht : t < 160) (hp : σ 96 0 = nI t) (htj : ¬ j = t) (hv : CM mX10_read0 [ar 79, ai (nI (f + j))] σ (Ret v σ)) : CM mX10_readBy [ar 79, ai (nI m), ai (nI j), ai (nI 1)] σ (Ret v σ) := by
  have hlo := longOf_sp hm h0 h1 (by omega)
  rw [Nat.add_sub_cancel_left] at hlo
  refine CM_in (ls := [some (ar 79), some (ai (nI m)), some (ai (nI j)), some (ai (nI 1))]) rfl ?_
  refine g_iload_n (p0 := 1) (i := 2) dX10_readBy_0 rfl rfl rfl ?_
  refine g_aload_n (p0 := 2) (i := 0) dX10_readBy_1 rfl rfl rfl ?_
  refine g_iload_n (p0 := 3) (i := 1) dX10_readBy_2 rfl rfl rfl ?_
  refine g_cV1R (p0 := 6) (r1 := mX10_longOf) dX10_readBy_3 lX10_142 vX10_longOf (by first | rfl | assumption | exact RW.s (by assumption) | exact TW.s (by assumption)) ⟨_, _, rfl⟩ (FITi rfl rfl) (Nat.le_of_ble_eq_true rfl) (hlo) rfl ?_
  first | ((with_reducible refine isN2 ?_); refine g_icmpN_lt (tgt := 12) (p1 := 9) dX10_readBy_6 rfl (by omega) (by omega) rfl (fun c_6 => ?_) (fun c_6 => by exfalso; first | omega | contradiction | exact absurd (by assumption) c_6 | (simp_all; done))) | refine g_icmp_lt (tgt := 12) (p1 := 9) dX10_readBy_6 rfl rfl (fun c_6 => ?_) (fun c_6 => by exfalso; first | omega | contradiction | exact absurd (by assumption) c_6 | (simp_all; done))
  refine g_iload_n (p0 := 13) (i := 3) dX10_readBy_12 rfl rfl rfl ?_
  first | ((with_reducible refine isN1 ?_); refine g_ifN_eq (tgt := 35) (p1 := 16) dX10_readBy_13 rfl (by omega) rfl (fun c_13 => by exfalso; first | omega | contradiction | exact absurd (by assumption) c_13 | (simp_all; done)) (fun c_13 => ?_)) | refine g_if_eq (tgt := 35) (p1 := 16) dX10_readBy_13 rfl rfl (fun c_13 => by exfalso; first | omega | contradiction | exact absurd (by assumption) c_13 | (simp_all; done)) (fun c_13 => ?_)
  refine g_aload_n (p0 := 17) (i := 0) dX10_readBy_16 rfl rfl rfl ?_
  refine g_getR (p0 := 20) dX10_readBy_17 fX10_58 (by first | rfl | assumption | exact RW.s (by assumption) | exact TW.s (by assumption)) rfl rfl ?_
  refine g_iconst (p0 := 21) (v := nI 0) dX10_readBy_20 rfl rfl ?_
  first | ((with_reducible refine isN1 ?_); refine g_aldN (p0 := 22) dX10_readBy_21 (by first | rfl | assumption | exact RW.s (by assumption) | exact TW.s (by assumption)) (by first | decide | assumption) (by omega) (by first | assumption | ((repeat (first | exact up_hit | refine up_nv (by decide) ?_ | refine up_mv (by first | decide | omega) ?_)) <;> first | assumption | rfl)) rfl ?_) | refine g_ald (p0 := 22) dX10_readBy_21 (by first | rfl | assumption | exact RW.s (by assumption) | exact TW.s (by assumption)) (by assumption) (by first | assumption | ((repeat (first | exact up_hit | refine up_nv (by decide) ?_ | refine up_mv (by first | decide | omega) ?_)) <;> first | assumption | rfl)) rfl ?_
  refine g_iload_n (p0 := 23) (i := 2) dX10_readBy_22 rfl rfl rfl ?_
  first | ((with_reducible refine isN2 ?_); refine g_icmpN_ne (tgt := 35) (p1 := 26) dX10_readBy_23 rfl (by omega) (by omega) rfl (fun c_23 => ?_) (fun c_23 => by exfalso; first | omega | contradiction | exact absurd (by assumption) c_23 | (simp_all; done))) | refine g_icmp_ne (tgt := 35) (p1 := 26) dX10_readBy_23 rfl rfl (fun c_23 => ?_) (fun c_23 => by exfalso; first | omega | contradiction | exact absurd (by assumption) c_23 | (simp_all; done))
  refine g_aload_n (p0 := 36) (i := 0) dX10_readBy_35 rfl rfl rfl ?_
  refine g_aload_n (p0 := 37) (i := 0) dX10_readBy_36 rfl rfl rfl ?_
  refine g_getR (p0 := 40) dX10_readBy_37 fX10_46 (by first | rfl | assumption | exact RW.s (by assumption) | exact TW.s (by assumption)) rfl rfl ?_
  refine g_iload_n (p0 := 41) (i := 1) dX10_readBy_40 rfl rfl rfl ?_
  first | ((with_reducible refine isN1 ?_); refine g_aldN (p0 := 42) dX10_readBy_41 (by first | rfl | assumption | exact RW.s (by assumption) | exact TW.s (by assumption)) (by first | decide | assumption) (by omega) (by first | assumption | ((repeat (first | exact up_hit | refine up_nv (by decide) ?_ | refine up_mv (by first | decide | omega) ?_)) <;> first | assumption | rfl)) rfl ?_) | refine g_ald (p0 := 42) dX10_readBy_41 (by first | rfl | assumption | exact RW.s (by assumption) | exact TW.s (by assumption)) (by assumption) (by first | assumption | ((repeat (first | exact up_hit | refine up_nv (by decide) ?_ | refine up_mv (by first | decide | omega) ?_)) <;> first | assumption | rfl)) rfl ?_
  refine g_iload_n (p0 := 43) (i := 2) dX10_readBy_42 rfl rfl rfl ?_
  first | ((with_reducible refine isN2 ?_); refine g_iaddN (p0 := 44) dX10_readBy_43 rfl ?_) | refine g_iadd (p0 := 44) dX10_readBy_43 rfl ?_
  refine g_cV1R (p0 := 47) (r1 := mX10_read0) dX10_readBy_44 lX10_148 vX10_read0 (by first | rfl | assumption | exact RW.s (by assumption) | exact TW.s (by assumption)) ⟨_, _, rfl⟩ (FITi rfl rfl) (Nat.le_of_ble_eq_true rfl) (hv) rfl ?_
  refine g_ireturn dX10_readBy_47 rfl rfl (?_)
  exact ⟨rfl, rfl⟩
set_option maxRecDepth 20000 in
set_option maxHeartbeats 2000000 in
theorem rd_1 {m : Nat} {M : Nat} {x : Int32} {l3 : Option AV} {R : Nat → Prop} {σ : Sg} {Q : SP} (hM : σ 79 11 = nI M) (hM1 : M ≤ 160) (hR : ∀ i, i < M → (R i ∧ CM mX10_isRight [ar 79, ai (nI i), ai (-1000004), ai (nI 0)] σ (Ret (nI 1) σ)) ∨ (¬ R i ∧ CM mX10_isRight [ar 79, ai (nI i), ai (-1000004), ai (nI 0)] σ (Ret (nI 0) σ))) (hm : m < M) (h1 : R m) (h0 : ∀ i, i < m → ¬ R i) (k : WM mX10_read Q 45 [some (ar 79), some (ai x), some (ai (nI m)), l3] [] σ) : ∀ q i, i + q = m → WM mX10_read Q 26 [some (ar 79), some (ai x), some (ai (nI i)), l3] [] σ := by
  intro q
  induction q with
  | zero =>
    intro i hi
    obtain rfl : i = m := by omega
    rcases hR i hm with ⟨_, hr⟩ | ⟨hn, _⟩
    · refine g_iload_n (p0 := 27) (i := 2) dX10_read_26 rfl rfl rfl ?_
      refine g_aload_n (p0 := 28) (i := 0) dX10_read_27 rfl rfl rfl ?_
      refine g_getI (p0 := 31) dX10_read_28 fX10_121 (by first | rfl | assumption | exact RW.s (by assumption) | exact TW.s (by assumption)) rfl (by first | assumption | ((repeat (first | exact up_hit | refine up_nv (by decide) ?_ | refine up_mv (by first | decide | omega) ?_)) <;> first | assumption | rfl)) rfl ?_
      first | ((with_reducible refine isN2 ?_); refine g_icmpN_ge (tgt := 67) (p1 := 34) dX10_read_31 rfl (by omega) (by omega) rfl (fun c_31 => by exfalso; first | omega | contradiction | exact absurd (by assumption) c_31 | (simp_all; done)) (fun c_31 => ?_)) | refine g_icmp_ge (tgt := 67) (p1 := 34) dX10_read_31 rfl rfl (fun c_31 => by exfalso; first | omega | contradiction | exact absurd (by assumption) c_31 | (simp_all; done)) (fun c_31 => ?_)
      refine g_aload_n (p0 := 35) (i := 0) dX10_read_34 rfl rfl rfl ?_
      refine g_iload_n (p0 := 36) (i := 2) dX10_read_35 rfl rfl rfl ?_
      refine g_ldc (p0 := 38) dX10_read_36 qX10_154 rfl ?_
      refine g_iconst (p0 := 39) (v := nI 0) dX10_read_38 rfl rfl ?_
      refine g_cV3R (p0 := 42) (r1 := mX10_isRight) dX10_read_39 lX10_155 vX10_isRight (by first | rfl | assumption | exact RW.s (by assumption) | exact TW.s (by assumption)) ⟨_, _, rfl⟩ (FITi rfl rfl) (Nat.le_of_ble_eq_true rfl) (hr) rfl ?_
      first | ((with_reducible refine isN1 ?_); refine g_ifN_eq (tgt := 61) (p1 := 45) dX10_read_42 rfl (by omega) rfl (fun c_42 => by exfalso; first | omega | contradiction | exact absurd (by assumption) c_42 | (simp_all; done)) (fun c_42 => ?_)) | refine g_if_eq (tgt := 61) (p1 := 45) dX10_read_42 rfl rfl (fun c_42 => by exfalso; first | omega | contradiction | exact absurd (by assumption) c_42 | (simp_all; done)) (fun c_42 => ?_)
      exact k
    · exact absurd h1 hn
  | succ q ih =>
    intro i hi
    rcases hR i (by omega) with ⟨hn, _⟩ | ⟨_, hr⟩
    · exact absurd hn (h0 i (by omega))
    · refine g_iload_n (p0 := 27) (i := 2) dX10_read_26 rfl rfl rfl ?_
      refine g_aload_n (p0 := 28) (i := 0) dX10_read_27 rfl rfl rfl ?_
      refine g_getI (p0 := 31) dX10_read_28 fX10_121 (by first | rfl | assumption | exact RW.s (by assumption) | exact TW.s (by assumption)) rfl (by first | assumption | ((repeat (first | exact up_hit | refine up_nv (by decide) ?_ | refine up_mv (by first | decide | omega) ?_)) <;> first | assumption | rfl)) rfl ?_
      first | ((with_reducible refine isN2 ?_); refine g_icmpN_ge (tgt := 67) (p1 := 34) dX10_read_31 rfl (by omega) (by omega) rfl (fun c_31 => by exfalso; first | omega | contradiction | exact absurd (by assumption) c_31 | (simp_all; done)) (fun c_31 => ?_)) | refine g_icmp_ge (tgt := 67) (p1 := 34) dX10_read_31 rfl rfl (fun c_31 => by exfalso; first | omega | contradiction | exact absurd (by assumption) c_31 | (simp_all; done)) (fun c_31 => ?_)
      refine g_aload_n (p0 := 35) (i := 0) dX10_read_34 rfl rfl rfl ?_
      refine g_iload_n (p0 := 36) (i := 2) dX10_read_35 rfl rfl rfl ?_
      refine g_ldc (p0 := 38) dX10_read_36 qX10_154 rfl ?_
      refine g_iconst (p0 := 39) (v := nI 0) dX10_read_38 rfl rfl ?_
      refine g_cV3R (p0 := 42) (r1 := mX10_isRight) dX10_read_39 lX10_155 vX10_isRight (by first | rfl | assumption | exact RW.s (by assumption) | exact TW.s (by assumption)) ⟨_, _, rfl⟩ (FITi rfl rfl) (Nat.le_of_ble_eq_true rfl) (hr) rfl ?_
      first | ((with_reducible refine isN1 ?_); refine g_ifN_eq (tgt := 61) (p1 := 45) dX10_read_42 rfl (by omega) rfl (fun c_42 => ?_) (fun c_42 => by exfalso; first | omega | contradiction | exact absurd (by assumption) c_42 | (simp_all; done))) | refine g_if_eq (tgt := 61) (p1 := 45) dX10_read_42 rfl rfl (fun c_42 => ?_) (fun c_42 => by exfalso; first | omega | contradiction | exact absurd (by assumption) c_42 | (simp_all; done))
      first | refine g_iinc1 (p0 := 64) (ls2 := [_, _, _, _]) dX10_read_61 rfl rfl rfl ?_ | refine g_iinc (p0 := 64) (ls2 := [_, _, _, _]) dX10_read_61 rfl rfl rfl rfl ?_
      refine g_goto (tgt := 26) dX10_read_64 rfl ?_
      exact ih (i + 1) (by omega)
set_option maxRecDepth 20000 in
set_option maxHeartbeats 2000000 in
theorem rd_2 {M : Nat} {x : Int32} {l3 : Option AV} {R : Nat → Prop} {σ : Sg} {Q : SP} (hM : σ 79 11 = nI M) (hM1 : M ≤ 160) (hR : ∀ i, i < M → (R i ∧ CM mX10_isRight [ar 79, ai (nI i), ai (-1000004), ai (nI 0)] σ (Ret (nI 1) σ)) ∨ (¬ R i ∧ CM mX10_isRight [ar 79, ai (nI i), ai (-1000004), ai (nI 0)] σ (Ret (nI 0) σ))) (h0 : ∀ i, i < M → ¬ R i) (k : WM mX10_read Q 69 [some (ar 79), some (ai x), some (ai (nI 0)), l3] [] σ) : ∀ q i, i + q = M → WM mX10_read Q 26 [some (ar 79), some (ai x), some (ai (nI i)), l3] [] σ := by
  intro q
  induction q with
  | zero =>
    intro i hi
    obtain rfl : i = M := by omega
    refine g_iload_n (p0 := 27) (i := 2) dX10_read_26 rfl rfl rfl ?_
    refine g_aload_n (p0 := 28) (i := 0) dX10_read_27 rfl rfl rfl ?_
    refine g_getI (p0 := 31) dX10_read_28 fX10_121 (by first | rfl | assumption | exact RW.s (by assumption) | exact TW.s (by assumption)) rfl (by first | assumption | ((repeat (first | exact up_hit | refine up_nv (by decide) ?_ | refine up_mv (by first | decide | omega) ?_)) <;> first | assumption | rfl)) rfl ?_
    first | ((with_reducible refine isN2 ?_); refine g_icmpN_ge (tgt := 67) (p1 := 34) dX10_read_31 rfl (by omega) (by omega) rfl (fun c_31 => ?_) (fun c_31 => by exfalso; first | omega | contradiction | exact absurd (by assumption) c_31 | (simp_all; done))) | refine g_icmp_ge (tgt := 67) (p1 := 34) dX10_read_31 rfl rfl (fun c_31 => ?_) (fun c_31 => by exfalso; first | omega | contradiction | exact absurd (by assumption) c_31 | (simp_all; done))
    refine g_iconst (p0 := 68) (v := nI 0) dX10_read_67 rfl rfl ?_
    refine g_istore_n (p0 := 69) (i := 2) (ls2 := [_, _, _, _]) dX10_read_68 rfl (Nat.le_of_ble_eq_true rfl) rfl rfl ?_
    exact k
  | succ q ih =>
    intro i hi
    rcases hR i (by omega) with ⟨hn, _⟩ | ⟨_, hr⟩
    · exact absurd hn (h0 i (by omega))
    · refine g_iload_n (p0 := 27) (i := 2) dX10_read_26 rfl rfl rfl ?_
      refine g_aload_n (p0 := 28) (i := 0) dX10_read_27 rfl rfl rfl ?_
      refine g_getI (p0 := 31) dX10_read_28 fX10_121 (by first | rfl | assumption | exact RW.s (by assumption) | exact TW.s (by assumption)) rfl (by first | assumption | ((repeat (first | exact up_hit | refine up_nv (by decide) ?_ | refine up_mv (by first | decide | omega) ?_)) <;> first | assumption | rfl)) rfl ?_
      first | ((with_reducible refine isN2 ?_); refine g_icmpN_ge (tgt := 67) (p1 := 34) dX10_read_31 rfl (by omega) (by omega) rfl (fun c_31 => by exfalso; first | omega | contradiction | exact absurd (by assumption) c_31 | (simp_all; done)) (fun c_31 => ?_)) | refine g_icmp_ge (tgt := 67) (p1 := 34) dX10_read_31 rfl rfl (fun c_31 => by exfalso; first | omega | contradiction | exact absurd (by assumption) c_31 | (simp_all; done)) (fun c_31 => ?_)
      refine g_aload_n (p0 := 35) (i := 0) dX10_read_34 rfl rfl rfl ?_
      refine g_iload_n (p0 := 36) (i := 2) dX10_read_35 rfl rfl rfl ?_
      refine g_ldc (p0 := 38) dX10_read_36 qX10_154 rfl ?_
      refine g_iconst (p0 := 39) (v := nI 0) dX10_read_38 rfl rfl ?_
      refine g_cV3R (p0 := 42) (r1 := mX10_isRight) dX10_read_39 lX10_155 vX10_isRight (by first | rfl | assumption | exact RW.s (by assumption) | exact TW.s (by assumption)) ⟨_, _, rfl⟩ (FITi rfl rfl) (Nat.le_of_ble_eq_true rfl) (hr) rfl ?_
      first | ((with_reducible refine isN1 ?_); refine g_ifN_eq (tgt := 61) (p1 := 45) dX10_read_42 rfl (by omega) rfl (fun c_42 => ?_) (fun c_42 => by exfalso; first | omega | contradiction | exact absurd (by assumption) c_42 | (simp_all; done))) | refine g_if_eq (tgt := 61) (p1 := 45) dX10_read_42 rfl rfl (fun c_42 => ?_) (fun c_42 => by exfalso; first | omega | contradiction | exact absurd (by assumption) c_42 | (simp_all; done))
      first | refine g_iinc1 (p0 := 64) (ls2 := [_, _, _, _]) dX10_read_61 rfl rfl rfl ?_ | refine g_iinc (p0 := 64) (ls2 := [_, _, _, _]) dX10_read_61 rfl rfl rfl rfl ?_
      refine g_goto (tgt := 26) dX10_read_64 rfl ?_
      exact ih (i + 1) (by omega)
theorem corrections_r2 {σ : Sg} {s M L : Nat} {c fs f n p d g a b : Nat → Nat} {v lc : Nat → Int32} {σ1 : Sg} {m : Nat} {w : Int32} (hP : REF σ s M L c fs f n p d g a b v lc) (hpos : ∀ l, l < L → 1 ≤ a l ∧ (g l = 2 → 1 ≤ b l) ∧ g l < 500 ∧ a l < 500 ∧ b l < 500) (hm : m < M) (e : ∀ z, z ≠ 96 → σ1 z = σ z) : CM mX10_corrections [ar 79, ai (nI m), ai w] σ1 (RelI (fun u σ2 => u = nI (cnF (FIQ v lc g a b (f m) (n m)) (4 * n m)) ∧ CR σ σ2 (FIQ v lc g a b (f m) (n m)) (cdq lc g a b (f m)) (4 * n m) w)) := by
  refine CM.mono (corrections_r (w := w) (hP.of e) hpos hm) ?_
  rintro w2 σ2 ⟨u, rfl, h1, h2, h3⟩
  exact ⟨u, rfl, h1, fun z hz => (h2 z hz).trans (e z hz), h3⟩
set_option maxRecDepth 20000 in
set_option maxHeartbeats 2000000 in
theorem rd_3 {σ : Sg} {s M L : Nat} {c fs f n p d g a b : Nat → Nat} {v lc : Nat → Int32} {x : Int32} {l3 : Option AV} {m : Nat} {Q : SP} (hP : REF σ s M L c fs f n p d g a b v lc) (hpos : ∀ l, l < L → 1 ≤ a l ∧ (g l = 2 → 1 ≤ b l) ∧ g l < 500 ∧ a l < 500 ∧ b l < 500) (hm : m < M) (h1 : cnF (FIQ v lc g a b (f m) (n m)) (4 * n m) = 1) (h0 : ∀ i, i < m → ¬ cnF (FIQ v lc g a b (f i) (n i)) (4 * n i) = 1) (k : ∀ σ1, CR σ σ1 (FIQ v lc g a b (f m) (n m)) (cdq lc g a b (f m)) (4 * n m) (nI 0) → WM mX10_read Q 87 [some (ar 79), some (ai x), some (ai (nI m)), l3] [] σ1) : ∀ q i, i + q = m → ∀ σ1, (∀ z, z ≠ 96 → σ1 z = σ z) → WM mX10_read Q 69 [some (ar 79), some (ai x), some (ai (nI i)), l3] [] σ1 := by
  intro q
  induction q with
  | zero =>
    intro i hi σ1 e
    obtain rfl : i = m := by omega
    have e79 : σ1 79 11 = nI M := by rw [e 79 (by decide)]; exact hP.1.2.2.1
    have hk := hP.1
    have hcr := corrections_r2 (w := nI 0) hP hpos (show i < M by omega) e
    have hb := cnF_le (F := (FIQ v lc g a b (f i) (n i))) (4 * n i)
    have hfn := (hP.2.1 i (by omega)).2.2.2.1
    rw [h1] at hcr
    refine g_iload_n (p0 := 70) (i := 2) dX10_read_69 rfl rfl rfl ?_
    refine g_aload_n (p0 := 71) (i := 0) dX10_read_70 rfl rfl rfl ?_
    refine g_getI (p0 := 74) dX10_read_71 fX10_121 (by first | rfl | assumption | exact RW.s (by assumption) | exact TW.s (by assumption)) rfl (by first | assumption | ((repeat (first | exact up_hit | refine up_nv (by decide) ?_ | refine up_mv (by first | decide | omega) ?_)) <;> first | assumption | rfl)) rfl ?_
    first | ((with_reducible refine isN2 ?_); refine g_icmpN_ge (tgt := 109) (p1 := 77) dX10_read_74 rfl (by omega) (by omega) rfl (fun c_74 => by exfalso; first | omega | contradiction | exact absurd (by assumption) c_74 | (simp_all; done)) (fun c_74 => ?_)) | refine g_icmp_ge (tgt := 109) (p1 := 77) dX10_read_74 rfl rfl (fun c_74 => by exfalso; first | omega | contradiction | exact absurd (by assumption) c_74 | (simp_all; done)) (fun c_74 => ?_)
    refine g_aload_n (p0 := 78) (i := 0) dX10_read_77 rfl rfl rfl ?_
    refine g_iload_n (p0 := 79) (i := 2) dX10_read_78 rfl rfl rfl ?_
    refine g_iconst (p0 := 80) (v := nI 0) dX10_read_79 rfl rfl ?_
    refine g_cV2I (p0 := 83) (r1 := mX10_corrections) dX10_read_80 lX10_164 vX10_corrections (by first | rfl | assumption | exact RW.s (by assumption) | exact TW.s (by assumption)) ⟨_, _, rfl⟩ (FITi rfl rfl) (Nat.le_of_ble_eq_true rfl) (hcr) rfl ?_
    rintro u σ2 ⟨rfl, hS⟩
    refine g_iconst (p0 := 84) (v := nI 1) dX10_read_83 rfl rfl ?_
    first | ((with_reducible refine isN2 ?_); refine g_icmpN_ne (tgt := 103) (p1 := 87) dX10_read_84 rfl (by omega) (by omega) rfl (fun c_84 => by exfalso; first | omega | contradiction | exact absurd (by assumption) c_84 | (simp_all; done)) (fun c_84 => ?_)) | refine g_icmp_ne (tgt := 103) (p1 := 87) dX10_read_84 rfl rfl (fun c_84 => by exfalso; first | omega | contradiction | exact absurd (by assumption) c_84 | (simp_all; done)) (fun c_84 => ?_)
    exact k _ hS
  | succ q ih =>
    intro i hi σ1 e
    have hn := h0 i (by omega)
    have e79 : σ1 79 11 = nI M := by rw [e 79 (by decide)]; exact hP.1.2.2.1
    have hk := hP.1
    have hcr := corrections_r2 (w := nI 0) hP hpos (show i < M by omega) e
    have hb := cnF_le (F := (FIQ v lc g a b (f i) (n i))) (4 * n i)
    have hfn := (hP.2.1 i (by omega)).2.2.2.1
    refine g_iload_n (p0 := 70) (i := 2) dX10_read_69 rfl rfl rfl ?_
    refine g_aload_n (p0 := 71) (i := 0) dX10_read_70 rfl rfl rfl ?_
    refine g_getI (p0 := 74) dX10_read_71 fX10_121 (by first | rfl | assumption | exact RW.s (by assumption) | exact TW.s (by assumption)) rfl (by first | assumption | ((repeat (first | exact up_hit | refine up_nv (by decide) ?_ | refine up_mv (by first | decide | omega) ?_)) <;> first | assumption | rfl)) rfl ?_
    first | ((with_reducible refine isN2 ?_); refine g_icmpN_ge (tgt := 109) (p1 := 77) dX10_read_74 rfl (by omega) (by omega) rfl (fun c_74 => by exfalso; first | omega | contradiction | exact absurd (by assumption) c_74 | (simp_all; done)) (fun c_74 => ?_)) | refine g_icmp_ge (tgt := 109) (p1 := 77) dX10_read_74 rfl rfl (fun c_74 => by exfalso; first | omega | contradiction | exact absurd (by assumption) c_74 | (simp_all; done)) (fun c_74 => ?_)
    refine g_aload_n (p0 := 78) (i := 0) dX10_read_77 rfl rfl rfl ?_
    refine g_iload_n (p0 := 79) (i := 2) dX10_read_78 rfl rfl rfl ?_
    refine g_iconst (p0 := 80) (v := nI 0) dX10_read_79 rfl rfl ?_
    refine g_cV2I (p0 := 83) (r1 := mX10_corrections) dX10_read_80 lX10_164 vX10_corrections (by first | rfl | assumption | exact RW.s (by assumption) | exact TW.s (by assumption)) ⟨_, _, rfl⟩ (FITi rfl rfl) (Nat.le_of_ble_eq_true rfl) (hcr) rfl ?_
    rintro u σ2 ⟨rfl, hS⟩
    refine g_iconst (p0 := 84) (v := nI 1) dX10_read_83 rfl rfl ?_
    first | ((with_reducible refine isN2 ?_); refine g_icmpN_ne (tgt := 103) (p1 := 87) dX10_read_84 rfl (by omega) (by omega) rfl (fun c_84 => ?_) (fun c_84 => by exfalso; first | omega | contradiction | exact absurd (by assumption) c_84 | (simp_all; done))) | refine g_icmp_ne (tgt := 103) (p1 := 87) dX10_read_84 rfl rfl (fun c_84 => ?_) (fun c_84 => by exfalso; first | omega | contradiction | exact absurd (by assumption) c_84 | (simp_all; done))
    first | refine g_iinc1 (p0 := 106) (ls2 := [_, _, _, _]) dX10_read_103 rfl rfl rfl ?_ | refine g_iinc (p0 := 106) (ls2 := [_, _, _, _]) dX10_read_103 rfl rfl rfl rfl ?_
    refine g_goto (tgt := 69) dX10_read_106 rfl ?_
    exact ih (i + 1) (by omega) _ hS.1
set_option maxRecDepth 20000 in
set_option maxHeartbeats 2000000 in
theorem rd_4 {σ : Sg} {s M L : Nat} {c fs f n p d g a b : Nat → Nat} {v lc : Nat → Int32} {x : Int32} {l3 : Option AV} {Q : SP} (hP : REF σ s M L c fs f n p d g a b v lc) (hpos : ∀ l, l < L → 1 ≤ a l ∧ (g l = 2 → 1 ≤ b l) ∧ g l < 500 ∧ a l < 500 ∧ b l < 500) (h0 : ∀ i, i < M → ¬ cnF (FIQ v lc g a b (f i) (n i)) (4 * n i) = 1) (k : ∀ σ1, (∀ z, z ≠ 96 → σ1 z = σ z) → WM mX10_read Q 113 [some (ar 79), some (ai x), some (ai (nI 2)), some (ai (nI 0))] [] σ1) : ∀ q i, i + q = M → ∀ σ1, (∀ z, z ≠ 96 → σ1 z = σ z) → WM mX10_read Q 69 [some (ar 79), some (ai x), some (ai (nI i)), l3] [] σ1 := by
  intro q
  induction q with
  | zero =>
    intro i hi σ1 e
    obtain rfl : i = M := by omega
    have e79 : σ1 79 11 = nI i := by rw [e 79 (by decide)]; exact hP.1.2.2.1
    have hk := hP.1
    refine g_iload_n (p0 := 70) (i := 2) dX10_read_69 rfl rfl rfl ?_
    refine g_aload_n (p0 := 71) (i := 0) dX10_read_70 rfl rfl rfl ?_
    refine g_getI (p0 := 74) dX10_read_71 fX10_121 (by first | rfl | assumption | exact RW.s (by assumption) | exact TW.s (by assumption)) rfl (by first | assumption | ((repeat (first | exact up_hit | refine up_nv (by decide) ?_ | refine up_mv (by first | decide | omega) ?_)) <;> first | assumption | rfl)) rfl ?_
    first | ((with_reducible refine isN2 ?_); refine g_icmpN_ge (tgt := 109) (p1 := 77) dX10_read_74 rfl (by omega) (by omega) rfl (fun c_74 => ?_) (fun c_74 => by exfalso; first | omega | contradiction | exact absurd (by assumption) c_74 | (simp_all; done))) | refine g_icmp_ge (tgt := 109) (p1 := 77) dX10_read_74 rfl rfl (fun c_74 => ?_) (fun c_74 => by exfalso; first | omega | contradiction | exact absurd (by assumption) c_74 | (simp_all; done))
    refine g_iconst (p0 := 110) (v := nI 2) dX10_read_109 rfl rfl ?_
    refine g_istore_n (p0 := 111) (i := 2) (ls2 := [_, _, _, _]) dX10_read_110 rfl (Nat.le_of_ble_eq_true rfl) rfl rfl ?_
    refine g_iconst (p0 := 112) (v := nI 0) dX10_read_111 rfl rfl ?_
    refine g_istore_n (p0 := 113) (i := 3) (ls2 := [_, _, _, _]) dX10_read_112 rfl (Nat.le_of_ble_eq_true rfl) rfl rfl ?_
    exact k _ e
  | succ q ih =>
    intro i hi σ1 e
    have hn := h0 i (by omega)
    have e79 : σ1 79 11 = nI M := by rw [e 79 (by decide)]; exact hP.1.2.2.1
    have hk := hP.1
    have hcr := corrections_r2 (w := nI 0) hP hpos (show i < M by omega) e
    have hb := cnF_le (F := (FIQ v lc g a b (f i) (n i))) (4 * n i)
    have hfn := (hP.2.1 i (by omega)).2.2.2.1
    refine g_iload_n (p0 := 70) (i := 2) dX10_read_69 rfl rfl rfl ?_
    refine g_aload_n (p0 := 71) (i := 0) dX10_read_70 rfl rfl rfl ?_
    refine g_getI (p0 := 74) dX10_read_71 fX10_121 (by first | rfl | assumption | exact RW.s (by assumption) | exact TW.s (by assumption)) rfl (by first | assumption | ((repeat (first | exact up_hit | refine up_nv (by decide) ?_ | refine up_mv (by first | decide | omega) ?_)) <;> first | assumption | rfl)) rfl ?_
    first | ((with_reducible refine isN2 ?_); refine g_icmpN_ge (tgt := 109) (p1 := 77) dX10_read_74 rfl (by omega) (by omega) rfl (fun c_74 => by exfalso; first | omega | contradiction | exact absurd (by assumption) c_74 | (simp_all; done)) (fun c_74 => ?_)) | refine g_icmp_ge (tgt := 109) (p1 := 77) dX10_read_74 rfl rfl (fun c_74 => by exfalso; first | omega | contradiction | exact absurd (by assumption) c_74 | (simp_all; done)) (fun c_74 => ?_)
    refine g_aload_n (p0 := 78) (i := 0) dX10_read_77 rfl rfl rfl ?_
    refine g_iload_n (p0 := 79) (i := 2) dX10_read_78 rfl rfl rfl ?_
    refine g_iconst (p0 := 80) (v := nI 0) dX10_read_79 rfl rfl ?_
    refine g_cV2I (p0 := 83) (r1 := mX10_corrections) dX10_read_80 lX10_164 vX10_corrections (by first | rfl | assumption | exact RW.s (by assumption) | exact TW.s (by assumption)) ⟨_, _, rfl⟩ (FITi rfl rfl) (Nat.le_of_ble_eq_true rfl) (hcr) rfl ?_
    rintro u σ2 ⟨rfl, hS⟩
    refine g_iconst (p0 := 84) (v := nI 1) dX10_read_83 rfl rfl ?_
    first | ((with_reducible refine isN2 ?_); refine g_icmpN_ne (tgt := 103) (p1 := 87) dX10_read_84 rfl (by omega) (by omega) rfl (fun c_84 => ?_) (fun c_84 => by exfalso; first | omega | contradiction | exact absurd (by assumption) c_84 | (simp_all; done))) | refine g_icmp_ne (tgt := 103) (p1 := 87) dX10_read_84 rfl rfl (fun c_84 => ?_) (fun c_84 => by exfalso; first | omega | contradiction | exact absurd (by assumption) c_84 | (simp_all; done))
    first | refine g_iinc1 (p0 := 106) (ls2 := [_, _, _, _]) dX10_read_103 rfl rfl rfl ?_ | refine g_iinc (p0 := 106) (ls2 := [_, _, _, _]) dX10_read_103 rfl rfl rfl rfl ?_
    refine g_goto (tgt := 69) dX10_read_106 rfl ?_
    exact ih (i + 1) (by omega) _ hS.1
def FRv (σ σ1 : Sg) : Prop := (∀ z, z ≠ 79 → z ≠ 96 → σ1 z = σ z) ∧ ∀ q, q ≠ 21 → q ≠ 22 → σ1 79 q = σ 79 q
theorem FRv.fq {σ σ1 : Sg} (h : FRv σ σ1) : FQ σ σ1 := ⟨fun z h1 h2 => h.1 z h1 (by omega), h.2 3 (by decide) (by decide), h.2 5 (by decide) (by decide)⟩
theorem voted_r3 {σ : Sg} {s M L : Nat} {c fs f n p d g a b : Nat → Nat} {v lc : Nat → Int32} {σ1 : Sg} {j : Nat} (hP : REF σ s M L c fs f n p d g a b v lc) (hj : j < 2147483648) (e : FRv σ σ1) : CM mX10_voted [ar 79, ai (nI j)] σ1 (RelI (fun u σ2 => u = wv (-1000004) (fun k => vc v f n j k M) 25 ∧ FRv σ σ2)) := by
  refine CM.mono (voted_r (hP.of2 e.1 (e.2 11 (by decide) (by decide)) (e.2 12 (by decide) (by decide))) hj) ?_
  rintro w σ2 ⟨u, rfl, rfl, h1, h2, _⟩
  exact ⟨_, rfl, rfl, fun z h79 h96 => (h1 z h79).trans (e.1 z h79 h96), fun q h21 h22 => (h2 q h21 h22).trans (e.2 q h21 h22)⟩
set_option maxRecDepth 20000 in
set_option maxHeartbeats 2000000 in
theorem rd_5T {σ : Sg} {s M L : Nat} {c fs f n p d g a b : Nat → Nat} {v lc : Nat → Int32} {j : Nat} {Q : SP} (hP : REF σ s M L c fs f n p d g a b v lc) (hj : j < 160) (hW : ∀ i, i ≤ j → ¬ moF (fun k => vc v f n i k M) 25 = 0) (k : ∀ σ1, FRv σ σ1 → Q (some (ai (nI (wiF (fun k => vc v f n j k M) 25)))) σ1) : ∀ q i, i + q = j + 1 → ∀ y, y < 1000 → (0 < i → y = wiF (fun k => vc v f n (i - 1) k M) 25) → ∀ σ1, FRv σ σ1 → WM mX10_read Q 113 [some (ar 79), some (ai (nI j)), some (ai (nI y)), some (ai (nI i))] [] σ1 := by
  intro q
  induction q with
  | zero =>
    intro i hi y hy hw σ1 e
    obtain rfl : i = j + 1 := by omega
    have hw := hw (by omega)
    rw [Nat.add_sub_cancel] at hw
    subst hw
    refine g_iload_n (p0 := 114) (i := 3) dX10_read_113 rfl rfl rfl ?_
    refine g_iload_n (p0 := 115) (i := 1) dX10_read_114 rfl rfl rfl ?_
    first | ((with_reducible refine isN2 ?_); refine g_icmpN_gt (tgt := 134) (p1 := 118) dX10_read_115 rfl (by omega) (by omega) rfl (fun c_115 => ?_) (fun c_115 => by exfalso; first | omega | contradiction | exact c_115 (by decide) | exact absurd c_115 (by decide))) | refine g_icmp_gt (tgt := 134) (p1 := 118) dX10_read_115 rfl rfl (fun c_115 => ?_) (fun c_115 => by exfalso; first | omega | contradiction | exact c_115 (by decide) | exact absurd c_115 (by decide))
    refine g_iload_n (p0 := 135) (i := 2) dX10_read_134 rfl rfl rfl ?_
    refine g_ireturn dX10_read_135 rfl rfl (?_)
    exact k _ e
  | succ q ih =>
    intro i hi y hy hw σ1 e
    have hw0 : wv (-1000004) (fun k => vc v f n i k M) 25 = nI (wiF (fun k => vc v f n i k M) 25) := by rw [wv, if_neg (hW i (by omega))]
    have hw1 := wiF_lt (c := (fun k => vc v f n i k M)) 25 (by decide)
    refine g_iload_n (p0 := 114) (i := 3) dX10_read_113 rfl rfl rfl ?_
    refine g_iload_n (p0 := 115) (i := 1) dX10_read_114 rfl rfl rfl ?_
    first | ((with_reducible refine isN2 ?_); refine g_icmpN_gt (tgt := 134) (p1 := 118) dX10_read_115 rfl (by omega) (by omega) rfl (fun c_115 => by exfalso; first | omega | contradiction | exact c_115 (by decide) | exact absurd c_115 (by decide)) (fun c_115 => ?_)) | refine g_icmp_gt (tgt := 134) (p1 := 118) dX10_read_115 rfl rfl (fun c_115 => by exfalso; first | omega | contradiction | exact c_115 (by decide) | exact absurd c_115 (by decide)) (fun c_115 => ?_)
    refine g_iload_n (p0 := 119) (i := 2) dX10_read_118 rfl rfl rfl ?_
    first | ((with_reducible refine isN1 ?_); refine g_ifN_lt (tgt := 134) (p1 := 122) dX10_read_119 rfl (by omega) rfl (fun c_119 => by exfalso; first | omega | contradiction | exact c_119 (by decide) | exact absurd c_119 (by decide)) (fun c_119 => ?_)) | refine g_if_lt (tgt := 134) (p1 := 122) dX10_read_119 rfl rfl (fun c_119 => by exfalso; first | omega | contradiction | exact c_119 (by decide) | exact absurd c_119 (by decide)) (fun c_119 => ?_)
    refine g_aload_n (p0 := 123) (i := 0) dX10_read_122 rfl rfl rfl ?_
    refine g_iload_n (p0 := 124) (i := 3) dX10_read_123 rfl rfl rfl ?_
    refine g_cV1I (p0 := 127) (r1 := mX10_voted) dX10_read_124 lX10_177 vX10_voted (by first | rfl | assumption | exact RW.s (by assumption) | exact TW.s (by assumption)) ⟨_, _, rfl⟩ (FITi rfl rfl) (Nat.le_of_ble_eq_true rfl) (voted_r3 hP (by omega) e) rfl ?_
    rintro u σ2 ⟨rfl, e⟩
    rw [hw0]
    refine g_istore_n (p0 := 128) (i := 2) (ls2 := [_, _, _, _]) dX10_read_127 rfl (Nat.le_of_ble_eq_true rfl) rfl rfl ?_
    first | refine g_iinc1 (p0 := 131) (ls2 := [_, _, _, _]) dX10_read_128 rfl rfl rfl ?_ | refine g_iinc (p0 := 131) (ls2 := [_, _, _, _]) dX10_read_128 rfl rfl rfl rfl ?_
    refine g_goto (tgt := 113) dX10_read_131 rfl ?_
    exact ih (i + 1) (by omega) _ (by omega) (fun _ => by rw [Nat.add_sub_cancel]) _ e
set_option maxRecDepth 20000 in
set_option maxHeartbeats 2000000 in
theorem rd_5E1 {x y : Int32} {σ : Sg} {Q : SP} (h : x < y) (k : Q (some (ai (-1000004))) σ) : WM mX10_read Q 113 [some (ar 79), some (ai x), some (ai (-1000004)), some (ai y)] [] σ := by
  refine g_iload_n (p0 := 114) (i := 3) dX10_read_113 rfl rfl rfl ?_
  refine g_iload_n (p0 := 115) (i := 1) dX10_read_114 rfl rfl rfl ?_
  first | ((with_reducible refine isN2 ?_); refine g_icmpN_gt (tgt := 134) (p1 := 118) dX10_read_115 rfl (by omega) (by omega) rfl (fun c_115 => ?_) (fun c_115 => by exfalso; exact c_115 h)) | refine g_icmp_gt (tgt := 134) (p1 := 118) dX10_read_115 rfl rfl (fun c_115 => ?_) (fun c_115 => by exfalso; exact c_115 h)
  refine g_iload_n (p0 := 135) (i := 2) dX10_read_134 rfl rfl rfl ?_
  refine g_ireturn dX10_read_135 rfl rfl (?_)
  exact k
set_option maxRecDepth 20000 in
set_option maxHeartbeats 2000000 in
theorem rd_5E2 {x y : Int32} {σ : Sg} {Q : SP} (h : ¬ x < y) (k : Q (some (ai (-1000004))) σ) : WM mX10_read Q 113 [some (ar 79), some (ai x), some (ai (-1000004)), some (ai y)] [] σ := by
  refine g_iload_n (p0 := 114) (i := 3) dX10_read_113 rfl rfl rfl ?_
  refine g_iload_n (p0 := 115) (i := 1) dX10_read_114 rfl rfl rfl ?_
  first | ((with_reducible refine isN2 ?_); refine g_icmpN_gt (tgt := 134) (p1 := 118) dX10_read_115 rfl (by omega) (by omega) rfl (fun c_115 => by exfalso; first | exact h c_115 | exact c_115 (by decide)) (fun c_115 => ?_)) | refine g_icmp_gt (tgt := 134) (p1 := 118) dX10_read_115 rfl rfl (fun c_115 => by exfalso; first | exact h c_115 | exact c_115 (by decide)) (fun c_115 => ?_)
  refine g_iload_n (p0 := 119) (i := 2) dX10_read_118 rfl rfl rfl ?_
  first | ((with_reducible refine isN1 ?_); refine g_ifN_lt (tgt := 134) (p1 := 122) dX10_read_119 rfl (by omega) rfl (fun c_119 => ?_) (fun c_119 => by exfalso; first | exact h c_119 | exact c_119 (by decide))) | refine g_if_lt (tgt := 134) (p1 := 122) dX10_read_119 rfl rfl (fun c_119 => ?_) (fun c_119 => by exfalso; first | exact h c_119 | exact c_119 (by decide))
  refine g_iload_n (p0 := 135) (i := 2) dX10_read_134 rfl rfl rfl ?_
  refine g_ireturn dX10_read_135 rfl rfl (?_)
  exact k
set_option maxRecDepth 20000 in
set_option maxHeartbeats 2000000 in
theorem rd_5F {σ : Sg} {s M L : Nat} {c fs f n p d g a b : Nat → Nat} {v lc : Nat → Int32} {j i0 : Nat} {Q : SP} (hP : REF σ s M L c fs f n p d g a b v lc) (hj : j < 2147483648) (hi0 : i0 ≤ j) (hi1 : i0 ≤ 160) (h0 : moF (fun k => vc v f n i0 k M) 25 = 0) (hW : ∀ i, i < i0 → ¬ moF (fun k => vc v f n i k M) 25 = 0) (k : ∀ σ1, FRv σ σ1 → Q (some (ai (-1000004))) σ1) : ∀ q i, i + q = i0 → ∀ y, y < 1000 → ∀ σ1, FRv σ σ1 → WM mX10_read Q 113 [some (ar 79), some (ai (nI j)), some (ai (nI y)), some (ai (nI i))] [] σ1 := by
  intro q
  induction q with
  | zero =>
    intro i hi y hy σ1 e
    obtain rfl : i = i0 := by omega
    have hw0 : wv (-1000004) (fun k => vc v f n i k M) 25 = -1000004 := by rw [wv, if_pos h0]
    have endW : ∀ σ1 z, FRv σ σ1 → WM mX10_read Q 113 [some (ar 79), some (ai (nI j)), some (ai (-1000004)), some (ai (nI z))] [] σ1 := by
      intro σ1 z e
      by_cases hz : nI j < nI z
      · refine rd_5E1 hz (k _ e)
      · exact rd_5E2 hz (k _ e)
    refine g_iload_n (p0 := 114) (i := 3) dX10_read_113 rfl rfl rfl ?_
    refine g_iload_n (p0 := 115) (i := 1) dX10_read_114 rfl rfl rfl ?_
    first | ((with_reducible refine isN2 ?_); refine g_icmpN_gt (tgt := 134) (p1 := 118) dX10_read_115 rfl (by omega) (by omega) rfl (fun c_115 => by exfalso; first | omega | contradiction | exact c_115 (by decide) | exact absurd c_115 (by decide)) (fun c_115 => ?_)) | refine g_icmp_gt (tgt := 134) (p1 := 118) dX10_read_115 rfl rfl (fun c_115 => by exfalso; first | omega | contradiction | exact c_115 (by decide) | exact absurd c_115 (by decide)) (fun c_115 => ?_)
    refine g_iload_n (p0 := 119) (i := 2) dX10_read_118 rfl rfl rfl ?_
    first | ((with_reducible refine isN1 ?_); refine g_ifN_lt (tgt := 134) (p1 := 122) dX10_read_119 rfl (by omega) rfl (fun c_119 => by exfalso; first | omega | contradiction | exact c_119 (by decide) | exact absurd c_119 (by decide)) (fun c_119 => ?_)) | refine g_if_lt (tgt := 134) (p1 := 122) dX10_read_119 rfl rfl (fun c_119 => by exfalso; first | omega | contradiction | exact c_119 (by decide) | exact absurd c_119 (by decide)) (fun c_119 => ?_)
    refine g_aload_n (p0 := 123) (i := 0) dX10_read_122 rfl rfl rfl ?_
    refine g_iload_n (p0 := 124) (i := 3) dX10_read_123 rfl rfl rfl ?_
    refine g_cV1I (p0 := 127) (r1 := mX10_voted) dX10_read_124 lX10_177 vX10_voted (by first | rfl | assumption | exact RW.s (by assumption) | exact TW.s (by assumption)) ⟨_, _, rfl⟩ (FITi rfl rfl) (Nat.le_of_ble_eq_true rfl) (voted_r3 hP (by omega) e) rfl ?_
    rintro u σ2 ⟨rfl, e⟩
    rw [hw0]
    refine g_istore_n (p0 := 128) (i := 2) (ls2 := [_, _, _, _]) dX10_read_127 rfl (Nat.le_of_ble_eq_true rfl) rfl rfl ?_
    first | refine g_iinc1 (p0 := 131) (ls2 := [_, _, _, _]) dX10_read_128 rfl rfl rfl ?_ | refine g_iinc (p0 := 131) (ls2 := [_, _, _, _]) dX10_read_128 rfl rfl rfl rfl ?_
    refine g_goto (tgt := 113) dX10_read_131 rfl ?_
    exact endW _ _ e
  | succ q ih =>
    intro i hi y hy σ1 e
    have hw0 : wv (-1000004) (fun k => vc v f n i k M) 25 = nI (wiF (fun k => vc v f n i k M) 25) := by rw [wv, if_neg (hW i (by omega))]
    have hw1 := wiF_lt (c := (fun k => vc v f n i k M)) 25 (by decide)
    refine g_iload_n (p0 := 114) (i := 3) dX10_read_113 rfl rfl rfl ?_
    refine g_iload_n (p0 := 115) (i := 1) dX10_read_114 rfl rfl rfl ?_
    first | ((with_reducible refine isN2 ?_); refine g_icmpN_gt (tgt := 134) (p1 := 118) dX10_read_115 rfl (by omega) (by omega) rfl (fun c_115 => by exfalso; first | omega | contradiction | exact c_115 (by decide) | exact absurd c_115 (by decide)) (fun c_115 => ?_)) | refine g_icmp_gt (tgt := 134) (p1 := 118) dX10_read_115 rfl rfl (fun c_115 => by exfalso; first | omega | contradiction | exact c_115 (by decide) | exact absurd c_115 (by decide)) (fun c_115 => ?_)
    refine g_iload_n (p0 := 119) (i := 2) dX10_read_118 rfl rfl rfl ?_
    first | ((with_reducible refine isN1 ?_); refine g_ifN_lt (tgt := 134) (p1 := 122) dX10_read_119 rfl (by omega) rfl (fun c_119 => by exfalso; first | omega | contradiction | exact c_119 (by decide) | exact absurd c_119 (by decide)) (fun c_119 => ?_)) | refine g_if_lt (tgt := 134) (p1 := 122) dX10_read_119 rfl rfl (fun c_119 => by exfalso; first | omega | contradiction | exact c_119 (by decide) | exact absurd c_119 (by decide)) (fun c_119 => ?_)
    refine g_aload_n (p0 := 123) (i := 0) dX10_read_122 rfl rfl rfl ?_
    refine g_iload_n (p0 := 124) (i := 3) dX10_read_123 rfl rfl rfl ?_
    refine g_cV1I (p0 := 127) (r1 := mX10_voted) dX10_read_124 lX10_177 vX10_voted (by first | rfl | assumption | exact RW.s (by assumption) | exact TW.s (by assumption)) ⟨_, _, rfl⟩ (FITi rfl rfl) (Nat.le_of_ble_eq_true rfl) (voted_r3 hP (by omega) e) rfl ?_
    rintro u σ2 ⟨rfl, e⟩
    rw [hw0]
    refine g_istore_n (p0 := 128) (i := 2) (ls2 := [_, _, _, _]) dX10_read_127 rfl (Nat.le_of_ble_eq_true rfl) rfl rfl ?_
    first | refine g_iinc1 (p0 := 131) (ls2 := [_, _, _, _]) dX10_read_128 rfl rfl rfl ?_ | refine g_iinc (p0 := 131) (ls2 := [_, _, _, _]) dX10_read_128 rfl rfl rfl rfl ?_
    refine g_goto (tgt := 113) dX10_read_131 rfl ?_
    exact ih (i + 1) (by omega) _ (by omega) _ e
set_option maxRecDepth 20000 in
set_option maxHeartbeats 2000000 in
theorem rd_A1 {m : Nat} {l3 : Option AV} {σ : Sg} {Q : SP} (k : Q (some (ai (nI 0))) σ) : WM mX10_read Q 45 [some (ar 79), some (ai (-1)), some (ai (nI m)), l3] [] σ := by
  refine g_iload_n (p0 := 46) (i := 1) dX10_read_45 rfl rfl rfl ?_
  first | ((with_reducible refine isN1 ?_); refine g_ifN_ge (tgt := 53) (p1 := 49) dX10_read_46 rfl (by omega) rfl (fun c_46 => by exfalso; exact absurd c_46 (by decide)) (fun c_46 => ?_)) | refine g_if_ge (tgt := 53) (p1 := 49) dX10_read_46 rfl rfl (fun c_46 => by exfalso; exact absurd c_46 (by decide)) (fun c_46 => ?_)
  refine g_iconst (p0 := 50) (v := nI 0) dX10_read_49 rfl rfl ?_
  refine g_goto (tgt := 60) dX10_read_50 rfl ?_
  refine g_ireturn dX10_read_60 rfl rfl (?_)
  exact k
set_option maxRecDepth 20000 in
set_option maxHeartbeats 2000000 in
theorem rd_A2 {j : Nat} {v : Int32} {m : Nat} {l3 : Option AV} {σ : Sg} {Q : SP} (hj : j < 2147483648) (h : CM mX10_readBy [ar 79, ai (nI m), ai (nI j), ai (nI 0)] σ (Ret v σ)) (k : Q (some (ai v)) σ) : WM mX10_read Q 45 [some (ar 79), some (ai (nI j)), some (ai (nI m)), l3] [] σ := by
  refine g_iload_n (p0 := 46) (i := 1) dX10_read_45 rfl rfl rfl ?_
  first | ((with_reducible refine isN1 ?_); refine g_ifN_ge (tgt := 53) (p1 := 49) dX10_read_46 rfl (by omega) rfl (fun c_46 => ?_) (fun c_46 => by exfalso; first | omega | contradiction | exact absurd (by assumption) c_46 | (simp_all; done))) | refine g_if_ge (tgt := 53) (p1 := 49) dX10_read_46 rfl rfl (fun c_46 => ?_) (fun c_46 => by exfalso; first | omega | contradiction | exact absurd (by assumption) c_46 | (simp_all; done))
  refine g_aload_n (p0 := 54) (i := 0) dX10_read_53 rfl rfl rfl ?_
  refine g_iload_n (p0 := 55) (i := 2) dX10_read_54 rfl rfl rfl ?_
  refine g_iload_n (p0 := 56) (i := 1) dX10_read_55 rfl rfl rfl ?_
  refine g_iconst (p0 := 57) (v := nI 0) dX10_read_56 rfl rfl ?_
  refine g_cV3R (p0 := 60) (r1 := mX10_readBy) dX10_read_57 lX10_180 vX10_readBy (by first | rfl | assumption | exact RW.s (by assumption) | exact TW.s (by assumption)) ⟨_, _, rfl⟩ (FITi rfl rfl) (Nat.le_of_ble_eq_true rfl) (h) rfl ?_
  refine g_ireturn dX10_read_60 rfl rfl (?_)
  exact k
set_option maxRecDepth 20000 in
set_option maxHeartbeats 2000000 in
theorem rd_B1 {m : Nat} {l3 : Option AV} {σ : Sg} {Q : SP} (k : Q (some (ai (nI 1))) σ) : WM mX10_read Q 87 [some (ar 79), some (ai (-1)), some (ai (nI m)), l3] [] σ := by
  refine g_iload_n (p0 := 88) (i := 1) dX10_read_87 rfl rfl rfl ?_
  first | ((with_reducible refine isN1 ?_); refine g_ifN_ge (tgt := 95) (p1 := 91) dX10_read_88 rfl (by omega) rfl (fun c_88 => by exfalso; exact absurd c_88 (by decide)) (fun c_88 => ?_)) | refine g_if_ge (tgt := 95) (p1 := 91) dX10_read_88 rfl rfl (fun c_88 => by exfalso; exact absurd c_88 (by decide)) (fun c_88 => ?_)
  refine g_iconst (p0 := 92) (v := nI 1) dX10_read_91 rfl rfl ?_
  refine g_goto (tgt := 102) dX10_read_92 rfl ?_
  refine g_ireturn dX10_read_102 rfl rfl (?_)
  exact k
set_option maxRecDepth 20000 in
set_option maxHeartbeats 2000000 in
theorem rd_B2 {j : Nat} {v : Int32} {m : Nat} {l3 : Option AV} {σ : Sg} {Q : SP} (hj : j < 2147483648) (h : CM mX10_readBy [ar 79, ai (nI m), ai (nI j), ai (nI 1)] σ (Ret v σ)) (k : Q (some (ai v)) σ) : WM mX10_read Q 87 [some (ar 79), some (ai (nI j)), some (ai (nI m)), l3] [] σ := by
  refine g_iload_n (p0 := 88) (i := 1) dX10_read_87 rfl rfl rfl ?_
  first | ((with_reducible refine isN1 ?_); refine g_ifN_ge (tgt := 95) (p1 := 91) dX10_read_88 rfl (by omega) rfl (fun c_88 => ?_) (fun c_88 => by exfalso; first | omega | contradiction | exact absurd (by assumption) c_88 | (simp_all; done))) | refine g_if_ge (tgt := 95) (p1 := 91) dX10_read_88 rfl rfl (fun c_88 => ?_) (fun c_88 => by exfalso; first | omega | contradiction | exact absurd (by assumption) c_88 | (simp_all; done))
  refine g_aload_n (p0 := 96) (i := 0) dX10_read_95 rfl rfl rfl ?_
  refine g_iload_n (p0 := 97) (i := 2) dX10_read_96 rfl rfl rfl ?_
  refine g_iload_n (p0 := 98) (i := 1) dX10_read_97 rfl rfl rfl ?_
  refine g_iconst (p0 := 99) (v := nI 1) dX10_read_98 rfl rfl ?_
  refine g_cV3R (p0 := 102) (r1 := mX10_readBy) dX10_read_99 lX10_180 vX10_readBy (by first | rfl | assumption | exact RW.s (by assumption) | exact TW.s (by assumption)) ⟨_, _, rfl⟩ (FITi rfl rfl) (Nat.le_of_ble_eq_true rfl) (h) rfl ?_
  refine g_ireturn dX10_read_102 rfl rfl (?_)
  exact k
set_option maxRecDepth 20000 in
set_option maxHeartbeats 2000000 in
theorem rd_C1 {σ : Sg} {Q : SP} (k : Q (some (ai (nI 2))) σ) : WM mX10_read Q 113 [some (ar 79), some (ai (-1)), some (ai (nI 2)), some (ai (nI 0))] [] σ := by
  refine g_iload_n (p0 := 114) (i := 3) dX10_read_113 rfl rfl rfl ?_
  refine g_iload_n (p0 := 115) (i := 1) dX10_read_114 rfl rfl rfl ?_
  first | ((with_reducible refine isN2 ?_); refine g_icmpN_gt (tgt := 134) (p1 := 118) dX10_read_115 rfl (by omega) (by omega) rfl (fun c_115 => ?_) (fun c_115 => by exfalso; exact c_115 (by decide))) | refine g_icmp_gt (tgt := 134) (p1 := 118) dX10_read_115 rfl rfl (fun c_115 => ?_) (fun c_115 => by exfalso; exact c_115 (by decide))
  refine g_iload_n (p0 := 135) (i := 2) dX10_read_134 rfl rfl rfl ?_
  refine g_ireturn dX10_read_135 rfl rfl (?_)
  exact k
set_option maxRecDepth 20000 in
set_option maxHeartbeats 2000000 in
theorem rd_rn {x : Int32} {σ : Sg} (h : x < -1) : CM mX10_read [ar 79, ai x] σ (Ret (-1000001) σ) := by
  refine CM_in (ls := [some (ar 79), some (ai x), none, none]) rfl ?_
  refine g_iload_n (p0 := 1) (i := 1) dX10_read_0 rfl rfl rfl ?_
  refine g_iconst (p0 := 2) (v := -1) dX10_read_1 rfl rfl ?_
  first | ((with_reducible refine isN2 ?_); refine g_icmpN_ge (tgt := 8) (p1 := 5) dX10_read_2 rfl (by omega) (by omega) rfl (fun c_2 => by exfalso; first | exact Int32.not_le.mpr h c_2 | exact absurd c_2 (Int32.not_le.mpr h)) (fun c_2 => ?_)) | refine g_icmp_ge (tgt := 8) (p1 := 5) dX10_read_2 rfl rfl (fun c_2 => by exfalso; first | exact Int32.not_le.mpr h c_2 | exact absurd c_2 (Int32.not_le.mpr h)) (fun c_2 => ?_)
  refine g_ldc (p0 := 7) dX10_read_5 qX10_76 rfl ?_
  refine g_ireturn dX10_read_7 rfl rfl (?_)
  exact ⟨rfl, rfl⟩
set_option maxRecDepth 20000 in
set_option maxHeartbeats 2000000 in
theorem rd_r0 {x : Int32} {σ : Sg} (hx : (-1 : Int32) ≤ x) (hs : σ 80 3 = nI 0) : CM mX10_read [ar 79, ai x] σ (Ret (-1000004) σ) := by
  refine CM_in (ls := [some (ar 79), some (ai x), none, none]) rfl ?_
  refine g_iload_n (p0 := 1) (i := 1) dX10_read_0 rfl rfl rfl ?_
  refine g_iconst (p0 := 2) (v := -1) dX10_read_1 rfl rfl ?_
  first | ((with_reducible refine isN2 ?_); refine g_icmpN_ge (tgt := 8) (p1 := 5) dX10_read_2 rfl (by omega) (by omega) rfl (fun c_2 => ?_) (fun c_2 => by exfalso; first | omega | exact c_2 hx | contradiction)) | refine g_icmp_ge (tgt := 8) (p1 := 5) dX10_read_2 rfl rfl (fun c_2 => ?_) (fun c_2 => by exfalso; first | omega | exact c_2 hx | contradiction)
  refine g_aload_n (p0 := 9) (i := 0) dX10_read_8 rfl rfl rfl ?_
  refine g_getR (p0 := 12) dX10_read_9 fX10_7 (by first | rfl | assumption | exact RW.s (by assumption) | exact TW.s (by assumption)) rfl rfl ?_
  refine g_iconst (p0 := 13) (v := nI 3) dX10_read_12 rfl rfl ?_
  first | ((with_reducible refine isN1 ?_); refine g_aldN (p0 := 14) dX10_read_13 (by first | rfl | assumption | exact RW.s (by assumption) | exact TW.s (by assumption)) (by first | decide | assumption) (by omega) (by first | assumption | ((repeat (first | exact up_hit | refine up_nv (by decide) ?_ | refine up_mv (by first | decide | omega) ?_)) <;> first | assumption | rfl)) rfl ?_) | refine g_ald (p0 := 14) dX10_read_13 (by first | rfl | assumption | exact RW.s (by assumption) | exact TW.s (by assumption)) (by assumption) (by first | assumption | ((repeat (first | exact up_hit | refine up_nv (by decide) ?_ | refine up_mv (by first | decide | omega) ?_)) <;> first | assumption | rfl)) rfl ?_
  first | ((with_reducible refine isN1 ?_); refine g_ifN_ne (tgt := 20) (p1 := 17) dX10_read_14 rfl (by omega) rfl (fun c_14 => by exfalso; first | omega | exact c_14 hx | contradiction) (fun c_14 => ?_)) | refine g_if_ne (tgt := 20) (p1 := 17) dX10_read_14 rfl rfl (fun c_14 => by exfalso; first | omega | exact c_14 hx | contradiction) (fun c_14 => ?_)
  refine g_ldc (p0 := 19) dX10_read_17 qX10_154 rfl ?_
  refine g_ireturn dX10_read_19 rfl rfl (?_)
  exact ⟨rfl, rfl⟩
set_option maxRecDepth 20000 in
set_option maxHeartbeats 2000000 in
theorem rd_go {x : Int32} {Q : SP} {P : Sg → Prop} {s0 : Nat} {σ : Sg} (hly : CM mX10_lays [ar 79] σ (RelV (fun σ' => P σ' ∧ FRl σ σ'))) (hx : (-1 : Int32) ≤ x) (hs : σ 80 3 = nI s0) (hs0 : 0 < s0) (hs1 : s0 ≤ 160) (k : ∀ σ1, P σ1 → FRl σ σ1 → WM mX10_read Q 26 [some (ar 79), some (ai x), some (ai (nI 0)), none] [] σ1) : CM mX10_read [ar 79, ai x] σ (Q) := by
  refine CM_in (ls := [some (ar 79), some (ai x), none, none]) rfl ?_
  refine g_iload_n (p0 := 1) (i := 1) dX10_read_0 rfl rfl rfl ?_
  refine g_iconst (p0 := 2) (v := -1) dX10_read_1 rfl rfl ?_
  first | ((with_reducible refine isN2 ?_); refine g_icmpN_ge (tgt := 8) (p1 := 5) dX10_read_2 rfl (by omega) (by omega) rfl (fun c_2 => ?_) (fun c_2 => by exfalso; first | omega | exact c_2 hx | contradiction)) | refine g_icmp_ge (tgt := 8) (p1 := 5) dX10_read_2 rfl rfl (fun c_2 => ?_) (fun c_2 => by exfalso; first | omega | exact c_2 hx | contradiction)
  refine g_aload_n (p0 := 9) (i := 0) dX10_read_8 rfl rfl rfl ?_
  refine g_getR (p0 := 12) dX10_read_9 fX10_7 (by first | rfl | assumption | exact RW.s (by assumption) | exact TW.s (by assumption)) rfl rfl ?_
  refine g_iconst (p0 := 13) (v := nI 3) dX10_read_12 rfl rfl ?_
  first | ((with_reducible refine isN1 ?_); refine g_aldN (p0 := 14) dX10_read_13 (by first | rfl | assumption | exact RW.s (by assumption) | exact TW.s (by assumption)) (by first | decide | assumption) (by omega) (by first | assumption | ((repeat (first | exact up_hit | refine up_nv (by decide) ?_ | refine up_mv (by first | decide | omega) ?_)) <;> first | assumption | rfl)) rfl ?_) | refine g_ald (p0 := 14) dX10_read_13 (by first | rfl | assumption | exact RW.s (by assumption) | exact TW.s (by assumption)) (by assumption) (by first | assumption | ((repeat (first | exact up_hit | refine up_nv (by decide) ?_ | refine up_mv (by first | decide | omega) ?_)) <;> first | assumption | rfl)) rfl ?_
  first | ((with_reducible refine isN1 ?_); refine g_ifN_ne (tgt := 20) (p1 := 17) dX10_read_14 rfl (by omega) rfl (fun c_14 => ?_) (fun c_14 => by exfalso; first | omega | exact c_14 hx | contradiction)) | refine g_if_ne (tgt := 20) (p1 := 17) dX10_read_14 rfl rfl (fun c_14 => ?_) (fun c_14 => by exfalso; first | omega | exact c_14 hx | contradiction)
  refine g_aload_n (p0 := 21) (i := 0) dX10_read_20 rfl rfl rfl ?_
  refine g_cV0P (p0 := 24) (r1 := mX10_lays) dX10_read_21 lX10_151 vX10_lays (by first | rfl | assumption | exact RW.s (by assumption) | exact TW.s (by assumption)) ⟨_, _, rfl⟩ (FITi rfl rfl) (Nat.le_of_ble_eq_true rfl) (hly) rfl ?_
  rintro σ1 ⟨hP, hf⟩
  refine g_iconst (p0 := 25) (v := nI 0) dX10_read_24 rfl rfl ?_
  refine g_istore_n (p0 := 26) (i := 2) (ls2 := [_, _, _, _]) dX10_read_25 rfl (Nat.le_of_ble_eq_true rfl) rfl rfl ?_
  exact k _ hP hf
