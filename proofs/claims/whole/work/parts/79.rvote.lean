/-! VOTES, the reference -/
theorem REF.of2 {σ σ' : Sg} {s M L : Nat} {c fs f n p d g a b : Nat → Nat} {v lc : Nat → Int32} (h : REF σ s M L c fs f n p d g a b v lc) (e : ∀ z, z ≠ 79 → z ≠ 96 → σ' z = σ z) (e11 : σ' 79 11 = σ 79 11) (e12 : σ' 79 12 = σ 79 12) : REF σ' s M L c fs f n p d g a b v lc := by
  obtain ⟨⟨c1, c2, c3, c4, k⟩, hM, hV, hG, h5⟩ := h
  obtain ⟨v1, v2, v3, s', lc', v4, v5, v6⟩ := hV
  refine ⟨⟨by rw [e 80 (by decide) (by decide)]; exact c1, c2, e11.trans c3, e12.trans c4, k⟩, fun m hm => ?_, ?_, ?_, fun i hi => ?_⟩
  · rw [e 93 (by decide) (by decide), e 92 (by decide) (by decide), e 94 (by decide) (by decide), e 95 (by decide) (by decide)]; exact hM m hm
  · exact ⟨v1.of e12 (e 89 (by decide) (by decide)) (e 90 (by decide) (by decide)) (e 91 (by decide) (by decide)), v2, v3, s', lc', by rw [e 80 (by decide) (by decide)]; exact v4, by rw [e 80 (by decide) (by decide)]; exact v5, v6⟩
  · rw [e 80 (by decide) (by decide)]; exact hG
  · rw [e 85 (by decide) (by decide)]; exact h5 i hi
set_option maxRecDepth 20000 in
set_option maxHeartbeats 2000000 in
theorem voted_in {σ : Sg} {s M L : Nat} {c fs f n p d g a b : Nat → Nat} {v lc : Nat → Int32} {j : Nat} {Q : SP} (hP : REF σ s M L c fs f n p d g a b v lc) (hj : j < 2147483648) {k : Nat} {mo : Int32} (hk : k < 25) (kk : ∀ x, WM mX10_voted Q 92 [some (ar 79), some (ai (nI j)), some (ai mo), some (ai (nI k)), some (ai (nI (vc v f n j k M))), some (ai (nI M)), x] [] σ) : ∀ q m, m + q = M → ∀ x, WM mX10_voted Q 27 [some (ar 79), some (ai (nI j)), some (ai mo), some (ai (nI k)), some (ai (nI (vc v f n j k m))), some (ai (nI m)), x] [] σ := by
  obtain ⟨⟨q1, q2, q3, q4, q5, q6⟩, hM, hV, hG, _⟩ := id hP
  intro q
  induction q with
  | zero =>
    intro m hm x
    obtain rfl : m = M := by omega
    refine g_iload (p0 := 29) dX10_voted_27 rfl rfl ?_
    refine g_aload_n (p0 := 30) (i := 0) dX10_voted_29 rfl rfl rfl ?_
    refine g_getI (p0 := 33) dX10_voted_30 fX10_121 (by first | rfl | assumption | exact RW.s (by assumption) | exact TW.s (by assumption)) rfl (by first | assumption | ((repeat (first | exact up_hit | refine up_nv (by decide) ?_ | refine up_mv (by first | decide | omega) ?_)) <;> first | assumption | rfl)) rfl ?_
    first | ((with_reducible refine isN2 ?_); refine g_icmpN_ge (tgt := 92) (p1 := 36) dX10_voted_33 rfl (by omega) (by omega) rfl (fun c_33 => ?_) (fun c_33 => by exfalso; first | omega | contradiction | exact absurd (by assumption) c_33 | (simp_all; done))) | refine g_icmp_ge (tgt := 92) (p1 := 36) dX10_voted_33 rfl rfl (fun c_33 => ?_) (fun c_33 => by exfalso; first | omega | contradiction | exact absurd (by assumption) c_33 | (simp_all; done))
    exact kk _
  | succ q ih =>
    intro m hm x
    obtain ⟨a0, a1, a2, a3, _⟩ := hM m (by omega)
    have hl := longOf_sp (σ := σ) (show m < 160 by omega) a1 a2 (by omega)
    rw [Nat.add_sub_cancel_left] at hl
    have h := ih (m + 1) (by omega)
    by_cases hjn : j < n m
    · rcases hV.read (l := f m + j) (by omega) with ⟨hv, hr⟩ | ⟨hv, _, _, he, hb, hr, h0⟩
      · have e : vc v f n j k (m + 1) = vc v f n j k m := by rw [vc, if_neg (fun z => nI_ne_m1 (show k < 1000 by omega) (z.2.symm.trans hv))]
        rw [e] at h
        refine g_iload (p0 := 29) dX10_voted_27 rfl rfl ?_
        refine g_aload_n (p0 := 30) (i := 0) dX10_voted_29 rfl rfl rfl ?_
        refine g_getI (p0 := 33) dX10_voted_30 fX10_121 (by first | rfl | assumption | exact RW.s (by assumption) | exact TW.s (by assumption)) rfl (by first | assumption | ((repeat (first | exact up_hit | refine up_nv (by decide) ?_ | refine up_mv (by first | decide | omega) ?_)) <;> first | assumption | rfl)) rfl ?_
        first | ((with_reducible refine isN2 ?_); refine g_icmpN_ge (tgt := 92) (p1 := 36) dX10_voted_33 rfl (by omega) (by omega) rfl (fun c_33 => by exfalso; first | omega | contradiction | exact absurd (by assumption) c_33 | (simp_all; done)) (fun c_33 => ?_)) | refine g_icmp_ge (tgt := 92) (p1 := 36) dX10_voted_33 rfl rfl (fun c_33 => by exfalso; first | omega | contradiction | exact absurd (by assumption) c_33 | (simp_all; done)) (fun c_33 => ?_)
        refine g_aload_n (p0 := 37) (i := 0) dX10_voted_36 rfl rfl rfl ?_
        refine g_getR (p0 := 40) dX10_voted_37 fX10_46 (by first | rfl | assumption | exact RW.s (by assumption) | exact TW.s (by assumption)) rfl rfl ?_
        refine g_iload (p0 := 42) dX10_voted_40 rfl rfl ?_
        first | ((with_reducible refine isN1 ?_); refine g_aldN (p0 := 43) dX10_voted_42 (by first | rfl | assumption | exact RW.s (by assumption) | exact TW.s (by assumption)) (by first | decide | assumption) (by omega) (by first | assumption | ((repeat (first | exact up_hit | refine up_nv (by decide) ?_ | refine up_mv (by first | decide | omega) ?_)) <;> first | assumption | rfl)) rfl ?_) | refine g_ald (p0 := 43) dX10_voted_42 (by first | rfl | assumption | exact RW.s (by assumption) | exact TW.s (by assumption)) (by assumption) (by first | assumption | ((repeat (first | exact up_hit | refine up_nv (by decide) ?_ | refine up_mv (by first | decide | omega) ?_)) <;> first | assumption | rfl)) rfl ?_
        refine g_iload_n (p0 := 44) (i := 1) dX10_voted_43 rfl rfl rfl ?_
        first | ((with_reducible refine isN2 ?_); refine g_iaddN (p0 := 45) dX10_voted_44 rfl ?_) | refine g_iadd (p0 := 45) dX10_voted_44 rfl ?_
        refine g_istore (p0 := 47) (i := 6) (ls2 := [_, _, _, _, _, _, _]) dX10_voted_45 (Nat.le_of_ble_eq_true rfl) rfl rfl ?_
        refine g_iload (p0 := 49) dX10_voted_47 rfl rfl ?_
        refine g_iload_n (p0 := 50) (i := 1) dX10_voted_49 rfl rfl rfl ?_
        refine g_aload_n (p0 := 51) (i := 0) dX10_voted_50 rfl rfl rfl ?_
        refine g_iload (p0 := 53) dX10_voted_51 rfl rfl ?_
        refine g_cV1R (p0 := 56) (r1 := mX10_longOf) dX10_voted_53 lX10_142 vX10_longOf (by first | rfl | assumption | exact RW.s (by assumption) | exact TW.s (by assumption)) ⟨_, _, rfl⟩ (FITi rfl rfl) (Nat.le_of_ble_eq_true rfl) (hl) rfl ?_
        first | ((with_reducible refine isN2 ?_); refine g_icmpN_ge (tgt := 82) (p1 := 59) dX10_voted_56 rfl (by omega) (by omega) rfl (fun c_56 => by exfalso; first | omega | contradiction | exact absurd (by assumption) c_56 | (simp_all; done)) (fun c_56 => ?_)) | refine g_icmp_ge (tgt := 82) (p1 := 59) dX10_voted_56 rfl rfl (fun c_56 => by exfalso; first | omega | contradiction | exact absurd (by assumption) c_56 | (simp_all; done)) (fun c_56 => ?_)
        refine g_aload_n (p0 := 60) (i := 0) dX10_voted_59 rfl rfl rfl ?_
        refine g_iload (p0 := 62) dX10_voted_60 rfl rfl ?_
        refine g_cV1R (p0 := 65) (r1 := mX10_isReadable) dX10_voted_62 lX10_145 vX10_isReadable (by first | rfl | assumption | exact RW.s (by assumption) | exact TW.s (by assumption)) ⟨_, _, rfl⟩ (FITi rfl rfl) (Nat.le_of_ble_eq_true rfl) (hr) rfl ?_
        first | ((with_reducible refine isN1 ?_); refine g_ifN_eq (tgt := 82) (p1 := 68) dX10_voted_65 rfl (by omega) rfl (fun c_65 => ?_) (fun c_65 => by exfalso; first | omega | contradiction | exact absurd (by assumption) c_65 | (simp_all; done))) | refine g_if_eq (tgt := 82) (p1 := 68) dX10_voted_65 rfl rfl (fun c_65 => ?_) (fun c_65 => by exfalso; first | omega | contradiction | exact absurd (by assumption) c_65 | (simp_all; done))
        refine g_iconst (p0 := 83) (v := nI 0) dX10_voted_82 rfl rfl ?_
        first | ((with_reducible refine isN2 ?_); refine g_iaddN (p0 := 84) dX10_voted_83 rfl ?_) | refine g_iadd (p0 := 84) dX10_voted_83 rfl ?_
        refine g_istore (p0 := 86) (i := 4) (ls2 := [_, _, _, _, _, _, _]) dX10_voted_84 (Nat.le_of_ble_eq_true rfl) rfl rfl ?_
        first | refine g_iinc1 (p0 := 89) (ls2 := [_, _, _, _, _, _, _]) dX10_voted_86 rfl rfl rfl ?_ | refine g_iinc (p0 := 89) (ls2 := [_, _, _, _, _, _, _]) dX10_voted_86 rfl rfl rfl rfl ?_
        refine g_goto (tgt := 27) dX10_voted_89 rfl ?_
        exact h _
      · rw [he] at h0
        obtain ⟨y, hy⟩ : ∃ y, y = latF (σ 80) (nI (5 * a (f m + j) + b (f m + j) - 6)) 25 := ⟨_, rfl⟩
        rw [← hy] at h0 he hb
        by_cases hky : y = k
        · have e : vc v f n j k (m + 1) = vc v f n j k m + 1 := by rw [vc, if_pos ⟨hjn, by rw [he, hky]⟩]
          rw [e] at h
          refine g_iload (p0 := 29) dX10_voted_27 rfl rfl ?_
          refine g_aload_n (p0 := 30) (i := 0) dX10_voted_29 rfl rfl rfl ?_
          refine g_getI (p0 := 33) dX10_voted_30 fX10_121 (by first | rfl | assumption | exact RW.s (by assumption) | exact TW.s (by assumption)) rfl (by first | assumption | ((repeat (first | exact up_hit | refine up_nv (by decide) ?_ | refine up_mv (by first | decide | omega) ?_)) <;> first | assumption | rfl)) rfl ?_
          first | ((with_reducible refine isN2 ?_); refine g_icmpN_ge (tgt := 92) (p1 := 36) dX10_voted_33 rfl (by omega) (by omega) rfl (fun c_33 => by exfalso; first | omega | contradiction | exact absurd (by assumption) c_33 | (simp_all; done)) (fun c_33 => ?_)) | refine g_icmp_ge (tgt := 92) (p1 := 36) dX10_voted_33 rfl rfl (fun c_33 => by exfalso; first | omega | contradiction | exact absurd (by assumption) c_33 | (simp_all; done)) (fun c_33 => ?_)
          refine g_aload_n (p0 := 37) (i := 0) dX10_voted_36 rfl rfl rfl ?_
          refine g_getR (p0 := 40) dX10_voted_37 fX10_46 (by first | rfl | assumption | exact RW.s (by assumption) | exact TW.s (by assumption)) rfl rfl ?_
          refine g_iload (p0 := 42) dX10_voted_40 rfl rfl ?_
          first | ((with_reducible refine isN1 ?_); refine g_aldN (p0 := 43) dX10_voted_42 (by first | rfl | assumption | exact RW.s (by assumption) | exact TW.s (by assumption)) (by first | decide | assumption) (by omega) (by first | assumption | ((repeat (first | exact up_hit | refine up_nv (by decide) ?_ | refine up_mv (by first | decide | omega) ?_)) <;> first | assumption | rfl)) rfl ?_) | refine g_ald (p0 := 43) dX10_voted_42 (by first | rfl | assumption | exact RW.s (by assumption) | exact TW.s (by assumption)) (by assumption) (by first | assumption | ((repeat (first | exact up_hit | refine up_nv (by decide) ?_ | refine up_mv (by first | decide | omega) ?_)) <;> first | assumption | rfl)) rfl ?_
          refine g_iload_n (p0 := 44) (i := 1) dX10_voted_43 rfl rfl rfl ?_
          first | ((with_reducible refine isN2 ?_); refine g_iaddN (p0 := 45) dX10_voted_44 rfl ?_) | refine g_iadd (p0 := 45) dX10_voted_44 rfl ?_
          refine g_istore (p0 := 47) (i := 6) (ls2 := [_, _, _, _, _, _, _]) dX10_voted_45 (Nat.le_of_ble_eq_true rfl) rfl rfl ?_
          refine g_iload (p0 := 49) dX10_voted_47 rfl rfl ?_
          refine g_iload_n (p0 := 50) (i := 1) dX10_voted_49 rfl rfl rfl ?_
          refine g_aload_n (p0 := 51) (i := 0) dX10_voted_50 rfl rfl rfl ?_
          refine g_iload (p0 := 53) dX10_voted_51 rfl rfl ?_
          refine g_cV1R (p0 := 56) (r1 := mX10_longOf) dX10_voted_53 lX10_142 vX10_longOf (by first | rfl | assumption | exact RW.s (by assumption) | exact TW.s (by assumption)) ⟨_, _, rfl⟩ (FITi rfl rfl) (Nat.le_of_ble_eq_true rfl) (hl) rfl ?_
          first | ((with_reducible refine isN2 ?_); refine g_icmpN_ge (tgt := 82) (p1 := 59) dX10_voted_56 rfl (by omega) (by omega) rfl (fun c_56 => by exfalso; first | omega | contradiction | exact absurd (by assumption) c_56 | (simp_all; done)) (fun c_56 => ?_)) | refine g_icmp_ge (tgt := 82) (p1 := 59) dX10_voted_56 rfl rfl (fun c_56 => by exfalso; first | omega | contradiction | exact absurd (by assumption) c_56 | (simp_all; done)) (fun c_56 => ?_)
          refine g_aload_n (p0 := 60) (i := 0) dX10_voted_59 rfl rfl rfl ?_
          refine g_iload (p0 := 62) dX10_voted_60 rfl rfl ?_
          refine g_cV1R (p0 := 65) (r1 := mX10_isReadable) dX10_voted_62 lX10_145 vX10_isReadable (by first | rfl | assumption | exact RW.s (by assumption) | exact TW.s (by assumption)) ⟨_, _, rfl⟩ (FITi rfl rfl) (Nat.le_of_ble_eq_true rfl) (hr) rfl ?_
          first | ((with_reducible refine isN1 ?_); refine g_ifN_eq (tgt := 82) (p1 := 68) dX10_voted_65 rfl (by omega) rfl (fun c_65 => by exfalso; first | omega | contradiction | exact absurd (by assumption) c_65 | (simp_all; done)) (fun c_65 => ?_)) | refine g_if_eq (tgt := 82) (p1 := 68) dX10_voted_65 rfl rfl (fun c_65 => by exfalso; first | omega | contradiction | exact absurd (by assumption) c_65 | (simp_all; done)) (fun c_65 => ?_)
          refine g_aload_n (p0 := 69) (i := 0) dX10_voted_68 rfl rfl rfl ?_
          refine g_iload (p0 := 71) dX10_voted_69 rfl rfl ?_
          refine g_cV1R (p0 := 74) (r1 := mX10_read0) dX10_voted_71 lX10_148 vX10_read0 (by first | rfl | assumption | exact RW.s (by assumption) | exact TW.s (by assumption)) ⟨_, _, rfl⟩ (FITi rfl rfl) (Nat.le_of_ble_eq_true rfl) (h0) rfl ?_
          refine g_iload_n (p0 := 75) (i := 3) dX10_voted_74 rfl rfl rfl ?_
          first | ((with_reducible refine isN2 ?_); refine g_icmpN_ne (tgt := 82) (p1 := 78) dX10_voted_75 rfl (by omega) (by omega) rfl (fun c_75 => by exfalso; first | omega | contradiction | exact absurd (by assumption) c_75 | (simp_all; done)) (fun c_75 => ?_)) | refine g_icmp_ne (tgt := 82) (p1 := 78) dX10_voted_75 rfl rfl (fun c_75 => by exfalso; first | omega | contradiction | exact absurd (by assumption) c_75 | (simp_all; done)) (fun c_75 => ?_)
          refine g_iconst (p0 := 79) (v := nI 1) dX10_voted_78 rfl rfl ?_
          refine g_goto (tgt := 83) dX10_voted_79 rfl ?_
          first | ((with_reducible refine isN2 ?_); refine g_iaddN (p0 := 84) dX10_voted_83 rfl ?_) | refine g_iadd (p0 := 84) dX10_voted_83 rfl ?_
          refine g_istore (p0 := 86) (i := 4) (ls2 := [_, _, _, _, _, _, _]) dX10_voted_84 (Nat.le_of_ble_eq_true rfl) rfl rfl ?_
          first | refine g_iinc1 (p0 := 89) (ls2 := [_, _, _, _, _, _, _]) dX10_voted_86 rfl rfl rfl ?_ | refine g_iinc (p0 := 89) (ls2 := [_, _, _, _, _, _, _]) dX10_voted_86 rfl rfl rfl rfl ?_
          refine g_goto (tgt := 27) dX10_voted_89 rfl ?_
          exact h _
        · have e : vc v f n j k (m + 1) = vc v f n j k m := by rw [vc, if_neg (fun z => hky ((nI_inj (by omega) (by omega)).mp (he.symm.trans z.2)))]
          rw [e] at h
          refine g_iload (p0 := 29) dX10_voted_27 rfl rfl ?_
          refine g_aload_n (p0 := 30) (i := 0) dX10_voted_29 rfl rfl rfl ?_
          refine g_getI (p0 := 33) dX10_voted_30 fX10_121 (by first | rfl | assumption | exact RW.s (by assumption) | exact TW.s (by assumption)) rfl (by first | assumption | ((repeat (first | exact up_hit | refine up_nv (by decide) ?_ | refine up_mv (by first | decide | omega) ?_)) <;> first | assumption | rfl)) rfl ?_
          first | ((with_reducible refine isN2 ?_); refine g_icmpN_ge (tgt := 92) (p1 := 36) dX10_voted_33 rfl (by omega) (by omega) rfl (fun c_33 => by exfalso; first | omega | contradiction | exact absurd (by assumption) c_33 | (simp_all; done)) (fun c_33 => ?_)) | refine g_icmp_ge (tgt := 92) (p1 := 36) dX10_voted_33 rfl rfl (fun c_33 => by exfalso; first | omega | contradiction | exact absurd (by assumption) c_33 | (simp_all; done)) (fun c_33 => ?_)
          refine g_aload_n (p0 := 37) (i := 0) dX10_voted_36 rfl rfl rfl ?_
          refine g_getR (p0 := 40) dX10_voted_37 fX10_46 (by first | rfl | assumption | exact RW.s (by assumption) | exact TW.s (by assumption)) rfl rfl ?_
          refine g_iload (p0 := 42) dX10_voted_40 rfl rfl ?_
          first | ((with_reducible refine isN1 ?_); refine g_aldN (p0 := 43) dX10_voted_42 (by first | rfl | assumption | exact RW.s (by assumption) | exact TW.s (by assumption)) (by first | decide | assumption) (by omega) (by first | assumption | ((repeat (first | exact up_hit | refine up_nv (by decide) ?_ | refine up_mv (by first | decide | omega) ?_)) <;> first | assumption | rfl)) rfl ?_) | refine g_ald (p0 := 43) dX10_voted_42 (by first | rfl | assumption | exact RW.s (by assumption) | exact TW.s (by assumption)) (by assumption) (by first | assumption | ((repeat (first | exact up_hit | refine up_nv (by decide) ?_ | refine up_mv (by first | decide | omega) ?_)) <;> first | assumption | rfl)) rfl ?_
          refine g_iload_n (p0 := 44) (i := 1) dX10_voted_43 rfl rfl rfl ?_
          first | ((with_reducible refine isN2 ?_); refine g_iaddN (p0 := 45) dX10_voted_44 rfl ?_) | refine g_iadd (p0 := 45) dX10_voted_44 rfl ?_
          refine g_istore (p0 := 47) (i := 6) (ls2 := [_, _, _, _, _, _, _]) dX10_voted_45 (Nat.le_of_ble_eq_true rfl) rfl rfl ?_
          refine g_iload (p0 := 49) dX10_voted_47 rfl rfl ?_
          refine g_iload_n (p0 := 50) (i := 1) dX10_voted_49 rfl rfl rfl ?_
          refine g_aload_n (p0 := 51) (i := 0) dX10_voted_50 rfl rfl rfl ?_
          refine g_iload (p0 := 53) dX10_voted_51 rfl rfl ?_
          refine g_cV1R (p0 := 56) (r1 := mX10_longOf) dX10_voted_53 lX10_142 vX10_longOf (by first | rfl | assumption | exact RW.s (by assumption) | exact TW.s (by assumption)) ⟨_, _, rfl⟩ (FITi rfl rfl) (Nat.le_of_ble_eq_true rfl) (hl) rfl ?_
          first | ((with_reducible refine isN2 ?_); refine g_icmpN_ge (tgt := 82) (p1 := 59) dX10_voted_56 rfl (by omega) (by omega) rfl (fun c_56 => by exfalso; first | omega | contradiction | exact absurd (by assumption) c_56 | (simp_all; done)) (fun c_56 => ?_)) | refine g_icmp_ge (tgt := 82) (p1 := 59) dX10_voted_56 rfl rfl (fun c_56 => by exfalso; first | omega | contradiction | exact absurd (by assumption) c_56 | (simp_all; done)) (fun c_56 => ?_)
          refine g_aload_n (p0 := 60) (i := 0) dX10_voted_59 rfl rfl rfl ?_
          refine g_iload (p0 := 62) dX10_voted_60 rfl rfl ?_
          refine g_cV1R (p0 := 65) (r1 := mX10_isReadable) dX10_voted_62 lX10_145 vX10_isReadable (by first | rfl | assumption | exact RW.s (by assumption) | exact TW.s (by assumption)) ⟨_, _, rfl⟩ (FITi rfl rfl) (Nat.le_of_ble_eq_true rfl) (hr) rfl ?_
          first | ((with_reducible refine isN1 ?_); refine g_ifN_eq (tgt := 82) (p1 := 68) dX10_voted_65 rfl (by omega) rfl (fun c_65 => by exfalso; first | omega | contradiction | exact absurd (by assumption) c_65 | (simp_all; done)) (fun c_65 => ?_)) | refine g_if_eq (tgt := 82) (p1 := 68) dX10_voted_65 rfl rfl (fun c_65 => by exfalso; first | omega | contradiction | exact absurd (by assumption) c_65 | (simp_all; done)) (fun c_65 => ?_)
          refine g_aload_n (p0 := 69) (i := 0) dX10_voted_68 rfl rfl rfl ?_
          refine g_iload (p0 := 71) dX10_voted_69 rfl rfl ?_
          refine g_cV1R (p0 := 74) (r1 := mX10_read0) dX10_voted_71 lX10_148 vX10_read0 (by first | rfl | assumption | exact RW.s (by assumption) | exact TW.s (by assumption)) ⟨_, _, rfl⟩ (FITi rfl rfl) (Nat.le_of_ble_eq_true rfl) (h0) rfl ?_
          refine g_iload_n (p0 := 75) (i := 3) dX10_voted_74 rfl rfl rfl ?_
          first | ((with_reducible refine isN2 ?_); refine g_icmpN_ne (tgt := 82) (p1 := 78) dX10_voted_75 rfl (by omega) (by omega) rfl (fun c_75 => ?_) (fun c_75 => by exfalso; first | omega | contradiction | exact absurd (by assumption) c_75 | (simp_all; done))) | refine g_icmp_ne (tgt := 82) (p1 := 78) dX10_voted_75 rfl rfl (fun c_75 => ?_) (fun c_75 => by exfalso; first | omega | contradiction | exact absurd (by assumption) c_75 | (simp_all; done))
          refine g_iconst (p0 := 83) (v := nI 0) dX10_voted_82 rfl rfl ?_
          first | ((with_reducible refine isN2 ?_); refine g_iaddN (p0 := 84) dX10_voted_83 rfl ?_) | refine g_iadd (p0 := 84) dX10_voted_83 rfl ?_
          refine g_istore (p0 := 86) (i := 4) (ls2 := [_, _, _, _, _, _, _]) dX10_voted_84 (Nat.le_of_ble_eq_true rfl) rfl rfl ?_
          first | refine g_iinc1 (p0 := 89) (ls2 := [_, _, _, _, _, _, _]) dX10_voted_86 rfl rfl rfl ?_ | refine g_iinc (p0 := 89) (ls2 := [_, _, _, _, _, _, _]) dX10_voted_86 rfl rfl rfl rfl ?_
          refine g_goto (tgt := 27) dX10_voted_89 rfl ?_
          exact h _
    · have e : vc v f n j k (m + 1) = vc v f n j k m := by rw [vc, if_neg (fun z => hjn z.1)]
      rw [e] at h
      refine g_iload (p0 := 29) dX10_voted_27 rfl rfl ?_
      refine g_aload_n (p0 := 30) (i := 0) dX10_voted_29 rfl rfl rfl ?_
      refine g_getI (p0 := 33) dX10_voted_30 fX10_121 (by first | rfl | assumption | exact RW.s (by assumption) | exact TW.s (by assumption)) rfl (by first | assumption | ((repeat (first | exact up_hit | refine up_nv (by decide) ?_ | refine up_mv (by first | decide | omega) ?_)) <;> first | assumption | rfl)) rfl ?_
      first | ((with_reducible refine isN2 ?_); refine g_icmpN_ge (tgt := 92) (p1 := 36) dX10_voted_33 rfl (by omega) (by omega) rfl (fun c_33 => by exfalso; first | omega | contradiction | exact absurd (by assumption) c_33 | (simp_all; done)) (fun c_33 => ?_)) | refine g_icmp_ge (tgt := 92) (p1 := 36) dX10_voted_33 rfl rfl (fun c_33 => by exfalso; first | omega | contradiction | exact absurd (by assumption) c_33 | (simp_all; done)) (fun c_33 => ?_)
      refine g_aload_n (p0 := 37) (i := 0) dX10_voted_36 rfl rfl rfl ?_
      refine g_getR (p0 := 40) dX10_voted_37 fX10_46 (by first | rfl | assumption | exact RW.s (by assumption) | exact TW.s (by assumption)) rfl rfl ?_
      refine g_iload (p0 := 42) dX10_voted_40 rfl rfl ?_
      first | ((with_reducible refine isN1 ?_); refine g_aldN (p0 := 43) dX10_voted_42 (by first | rfl | assumption | exact RW.s (by assumption) | exact TW.s (by assumption)) (by first | decide | assumption) (by omega) (by first | assumption | ((repeat (first | exact up_hit | refine up_nv (by decide) ?_ | refine up_mv (by first | decide | omega) ?_)) <;> first | assumption | rfl)) rfl ?_) | refine g_ald (p0 := 43) dX10_voted_42 (by first | rfl | assumption | exact RW.s (by assumption) | exact TW.s (by assumption)) (by assumption) (by first | assumption | ((repeat (first | exact up_hit | refine up_nv (by decide) ?_ | refine up_mv (by first | decide | omega) ?_)) <;> first | assumption | rfl)) rfl ?_
      refine g_iload_n (p0 := 44) (i := 1) dX10_voted_43 rfl rfl rfl ?_
      first | ((with_reducible refine isN2 ?_); refine g_iaddN (p0 := 45) dX10_voted_44 rfl ?_) | refine g_iadd (p0 := 45) dX10_voted_44 rfl ?_
      refine g_istore (p0 := 47) (i := 6) (ls2 := [_, _, _, _, _, _, _]) dX10_voted_45 (Nat.le_of_ble_eq_true rfl) rfl rfl ?_
      refine g_iload (p0 := 49) dX10_voted_47 rfl rfl ?_
      refine g_iload_n (p0 := 50) (i := 1) dX10_voted_49 rfl rfl rfl ?_
      refine g_aload_n (p0 := 51) (i := 0) dX10_voted_50 rfl rfl rfl ?_
      refine g_iload (p0 := 53) dX10_voted_51 rfl rfl ?_
      refine g_cV1R (p0 := 56) (r1 := mX10_longOf) dX10_voted_53 lX10_142 vX10_longOf (by first | rfl | assumption | exact RW.s (by assumption) | exact TW.s (by assumption)) ⟨_, _, rfl⟩ (FITi rfl rfl) (Nat.le_of_ble_eq_true rfl) (hl) rfl ?_
      first | ((with_reducible refine isN2 ?_); refine g_icmpN_ge (tgt := 82) (p1 := 59) dX10_voted_56 rfl (by omega) (by omega) rfl (fun c_56 => ?_) (fun c_56 => by exfalso; first | omega | contradiction | exact absurd (by assumption) c_56 | (simp_all; done))) | refine g_icmp_ge (tgt := 82) (p1 := 59) dX10_voted_56 rfl rfl (fun c_56 => ?_) (fun c_56 => by exfalso; first | omega | contradiction | exact absurd (by assumption) c_56 | (simp_all; done))
      refine g_iconst (p0 := 83) (v := nI 0) dX10_voted_82 rfl rfl ?_
      first | ((with_reducible refine isN2 ?_); refine g_iaddN (p0 := 84) dX10_voted_83 rfl ?_) | refine g_iadd (p0 := 84) dX10_voted_83 rfl ?_
      refine g_istore (p0 := 86) (i := 4) (ls2 := [_, _, _, _, _, _, _]) dX10_voted_84 (Nat.le_of_ble_eq_true rfl) rfl rfl ?_
      first | refine g_iinc1 (p0 := 89) (ls2 := [_, _, _, _, _, _, _]) dX10_voted_86 rfl rfl rfl ?_ | refine g_iinc (p0 := 89) (ls2 := [_, _, _, _, _, _, _]) dX10_voted_86 rfl rfl rfl rfl ?_
      refine g_goto (tgt := 27) dX10_voted_89 rfl ?_
      exact h _
set_option maxRecDepth 20000 in
set_option maxHeartbeats 2000000 in
theorem voted_l {σ : Sg} {s M L : Nat} {c fs f n p d g a b : Nat → Nat} {v lc : Nat → Int32} {j : Nat} {Q : SP} (hP : REF σ s M L c fs f n p d g a b v lc) (hj : j < 2147483648) (kk : ∀ σ1, (∀ z, z ≠ 79 → σ1 z = σ z) → (∀ q, q ≠ 21 → q ≠ 22 → σ1 79 q = σ 79 q) → σ1 79 21 = nI (moF (fun k => vc v f n j k M) 25) → σ1 79 22 = nI (duF (fun k => vc v f n j k M) 25) → Q (some (ai (wv (-1000004) (fun k => vc v f n j k M) 25))) σ1) : ∀ q k, k + q = 25 → ∀ σ1, (∀ z, z ≠ 79 → σ1 z = σ z) → (∀ q, q ≠ 21 → q ≠ 22 → σ1 79 q = σ 79 q) → σ1 79 21 = nI (moF (fun k => vc v f n j k M) k) → σ1 79 22 = nI (duF (fun k => vc v f n j k M) k) → ∀ x y z, WM mX10_voted Q 15 [some (ar 79), some (ai (nI j)), some (ai (wv (-1000004) (fun k => vc v f n j k M) k)), some (ai (nI k)), x, y, z] [] σ1 := by
  intro q
  induction q with
  | zero =>
    intro k hk σ1 h0 hq h1 h2 x y z
    obtain rfl : k = 25 := by omega
    refine g_iload_n (p0 := 16) (i := 3) dX10_voted_15 rfl rfl rfl ?_
    refine g_bipush (p0 := 18) (v := nI 25) dX10_voted_16 (by decide) rfl ?_
    first | ((with_reducible refine isN2 ?_); refine g_icmpN_ge (tgt := 178) (p1 := 21) dX10_voted_18 rfl (by omega) (by omega) rfl (fun c_18 => ?_) (fun c_18 => by exfalso; first | omega | contradiction | exact absurd (by assumption) c_18 | (simp_all; done))) | refine g_icmp_ge (tgt := 178) (p1 := 21) dX10_voted_18 rfl rfl (fun c_18 => ?_) (fun c_18 => by exfalso; first | omega | contradiction | exact absurd (by assumption) c_18 | (simp_all; done))
    refine g_iload_n (p0 := 179) (i := 2) dX10_voted_178 rfl rfl rfl ?_
    refine g_ireturn dX10_voted_179 rfl rfl (?_)
    exact kk σ1 h0 hq h1 h2
  | succ q ih =>
    intro k hk σ1 h0 hq h1 h2 x y z
    have hP1 := hP.of2 (σ' := σ1) (fun z h79 _ => h0 z h79) (hq 11 (by decide) (by decide)) (hq 12 (by decide) (by decide))
    have hM := hP.1
    have b1 := vc_le v f n j k M
    have b2 := moF_le (c := (fun k => vc v f n j k M)) (b := 160) (fun k => Nat.le_trans (vc_le _ _ _ _ _ M) (by omega)) k
    have ec : (fun k => vc v f n j k M) k = vc v f n j k M := rfl
    refine g_iload_n (p0 := 16) (i := 3) dX10_voted_15 rfl rfl rfl ?_
    refine g_bipush (p0 := 18) (v := nI 25) dX10_voted_16 (by decide) rfl ?_
    first | ((with_reducible refine isN2 ?_); refine g_icmpN_ge (tgt := 178) (p1 := 21) dX10_voted_18 rfl (by omega) (by omega) rfl (fun c_18 => by exfalso; first | omega | contradiction | exact absurd (by assumption) c_18 | (simp_all; done)) (fun c_18 => ?_)) | refine g_icmp_ge (tgt := 178) (p1 := 21) dX10_voted_18 rfl rfl (fun c_18 => by exfalso; first | omega | contradiction | exact absurd (by assumption) c_18 | (simp_all; done)) (fun c_18 => ?_)
    refine g_iconst (p0 := 22) (v := nI 0) dX10_voted_21 rfl rfl ?_
    refine g_istore (p0 := 24) (i := 4) (ls2 := [_, _, _, _, _, _, _]) dX10_voted_22 (Nat.le_of_ble_eq_true rfl) rfl rfl ?_
    refine g_iconst (p0 := 25) (v := nI 0) dX10_voted_24 rfl rfl ?_
    refine g_istore (p0 := 27) (i := 5) (ls2 := [_, _, _, _, _, _, _]) dX10_voted_25 (Nat.le_of_ble_eq_true rfl) rfl rfl ?_
    refine voted_in hP1 hj (by omega) (fun x => ?_) M 0 (by omega) _
    by_cases hg : moF (fun k => vc v f n j k M) k < vc v f n j k M
    · have hg2 : moF (fun k => vc v f n j k M) k < (fun k => vc v f n j k M) k := hg
      have ew := wv_gt (e := -1000004) hg2
      refine g_aload_n (p0 := 93) (i := 0) dX10_voted_92 rfl rfl rfl ?_
      refine g_iload (p0 := 95) dX10_voted_93 rfl rfl ?_
      refine g_aload_n (p0 := 96) (i := 0) dX10_voted_95 rfl rfl rfl ?_
      refine g_getI (p0 := 99) dX10_voted_96 fX10_170 (by first | rfl | assumption | exact RW.s (by assumption) | exact TW.s (by assumption)) rfl (by first | assumption | ((repeat (first | exact up_hit | refine up_nv (by decide) ?_ | refine up_mv (by first | decide | omega) ?_)) <;> first | assumption | rfl)) rfl ?_
      first | ((with_reducible refine isN2 ?_); refine g_icmpN_le (tgt := 106) (p1 := 102) dX10_voted_99 rfl (by omega) (by omega) rfl (fun c_99 => by exfalso; first | omega | contradiction | exact absurd (by assumption) c_99 | (simp_all; done)) (fun c_99 => ?_)) | refine g_icmp_le (tgt := 106) (p1 := 102) dX10_voted_99 rfl rfl (fun c_99 => by exfalso; first | omega | contradiction | exact absurd (by assumption) c_99 | (simp_all; done)) (fun c_99 => ?_)
      refine g_iconst (p0 := 103) (v := nI 0) dX10_voted_102 rfl rfl ?_
      refine g_goto (tgt := 132) dX10_voted_103 rfl ?_
      refine g_put (p0 := 135) dX10_voted_132 fX10_173 (by first | rfl | assumption | exact RW.s (by assumption) | exact TW.s (by assumption)) rfl nX10_22 (pX10_22 (by first | decide | assumption)) rfl ?_
      refine g_iload (p0 := 137) dX10_voted_135 rfl rfl ?_
      refine g_aload_n (p0 := 138) (i := 0) dX10_voted_137 rfl rfl rfl ?_
      refine g_getI (p0 := 141) dX10_voted_138 fX10_170 (by first | rfl | assumption | exact RW.s (by assumption) | exact TW.s (by assumption)) rfl (by first | assumption | ((repeat (first | exact up_hit | refine up_nv (by decide) ?_ | refine up_mv (by first | decide | omega) ?_)) <;> first | assumption | rfl)) rfl ?_
      first | ((with_reducible refine isN2 ?_); refine g_icmpN_le (tgt := 148) (p1 := 144) dX10_voted_141 rfl (by omega) (by omega) rfl (fun c_141 => by exfalso; first | omega | contradiction | exact absurd (by assumption) c_141 | (simp_all; done)) (fun c_141 => ?_)) | refine g_icmp_le (tgt := 148) (p1 := 144) dX10_voted_141 rfl rfl (fun c_141 => by exfalso; first | omega | contradiction | exact absurd (by assumption) c_141 | (simp_all; done)) (fun c_141 => ?_)
      refine g_iload_n (p0 := 145) (i := 3) dX10_voted_144 rfl rfl rfl ?_
      refine g_goto (tgt := 149) dX10_voted_145 rfl ?_
      refine g_istore_n (p0 := 150) (i := 2) (ls2 := [_, _, _, _, _, _, _]) dX10_voted_149 rfl (Nat.le_of_ble_eq_true rfl) rfl rfl ?_
      refine g_aload_n (p0 := 151) (i := 0) dX10_voted_150 rfl rfl rfl ?_
      refine g_iload (p0 := 153) dX10_voted_151 rfl rfl ?_
      refine g_aload_n (p0 := 154) (i := 0) dX10_voted_153 rfl rfl rfl ?_
      refine g_getI (p0 := 157) dX10_voted_154 fX10_170 (by first | rfl | assumption | exact RW.s (by assumption) | exact TW.s (by assumption)) rfl (by first | assumption | ((repeat (first | exact up_hit | refine up_nv (by decide) ?_ | refine up_mv (by first | decide | omega) ?_)) <;> first | assumption | rfl)) rfl ?_
      first | ((with_reducible refine isN2 ?_); refine g_icmpN_le (tgt := 165) (p1 := 160) dX10_voted_157 rfl (by omega) (by omega) rfl (fun c_157 => by exfalso; first | omega | contradiction | exact absurd (by assumption) c_157 | (simp_all; done)) (fun c_157 => ?_)) | refine g_icmp_le (tgt := 165) (p1 := 160) dX10_voted_157 rfl rfl (fun c_157 => by exfalso; first | omega | contradiction | exact absurd (by assumption) c_157 | (simp_all; done)) (fun c_157 => ?_)
      refine g_iload (p0 := 162) dX10_voted_160 rfl rfl ?_
      refine g_goto (tgt := 169) dX10_voted_162 rfl ?_
      refine g_put (p0 := 172) dX10_voted_169 fX10_170 (by first | rfl | assumption | exact RW.s (by assumption) | exact TW.s (by assumption)) rfl nX10_21 (pX10_21 _) rfl ?_
      first | refine g_iinc1 (p0 := 175) (ls2 := [_, _, _, _, _, _, _]) dX10_voted_172 rfl rfl rfl ?_ | refine g_iinc (p0 := 175) (ls2 := [_, _, _, _, _, _, _]) dX10_voted_172 rfl rfl rfl rfl ?_
      refine g_goto (tgt := 15) dX10_voted_175 rfl ?_
      rw [← ew]
      refine ih (k + 1) (by omega) _ (fun z hz => ?_) (fun q h21 h22 => ?_) ?_ ?_ _ _ _
      · rw [up_ne hz, up_ne hz]; exact h0 z hz
      · rw [up_miss h21, up_miss h22]; exact hq q h21 h22
      · rw [up_hit, moF_gt hg2]
      · rw [up_miss (by decide), up_hit, duF_gt hg2]
    · have hg2 : ¬ moF (fun k => vc v f n j k M) k < (fun k => vc v f n j k M) k := hg
      have ew := wv_nle (e := -1000004) hg2
      by_cases he : 0 < vc v f n j k M ∧ vc v f n j k M = moF (fun k => vc v f n j k M) k
      · have he2 : 0 < (fun k => vc v f n j k M) k ∧ (fun k => vc v f n j k M) k = moF (fun k => vc v f n j k M) k := he
        obtain ⟨he3, he4⟩ := he
        rcases duF_le (c := (fun k => vc v f n j k M)) k with hd | hd
        · rw [hd] at h2
          refine g_aload_n (p0 := 93) (i := 0) dX10_voted_92 rfl rfl rfl ?_
          refine g_iload (p0 := 95) dX10_voted_93 rfl rfl ?_
          refine g_aload_n (p0 := 96) (i := 0) dX10_voted_95 rfl rfl rfl ?_
          refine g_getI (p0 := 99) dX10_voted_96 fX10_170 (by first | rfl | assumption | exact RW.s (by assumption) | exact TW.s (by assumption)) rfl (by first | assumption | ((repeat (first | exact up_hit | refine up_nv (by decide) ?_ | refine up_mv (by first | decide | omega) ?_)) <;> first | assumption | rfl)) rfl ?_
          first | ((with_reducible refine isN2 ?_); refine g_icmpN_le (tgt := 106) (p1 := 102) dX10_voted_99 rfl (by omega) (by omega) rfl (fun c_99 => ?_) (fun c_99 => by exfalso; first | omega | contradiction | exact absurd (by assumption) c_99 | (simp_all; done))) | refine g_icmp_le (tgt := 106) (p1 := 102) dX10_voted_99 rfl rfl (fun c_99 => ?_) (fun c_99 => by exfalso; first | omega | contradiction | exact absurd (by assumption) c_99 | (simp_all; done))
          refine g_aload_n (p0 := 107) (i := 0) dX10_voted_106 rfl rfl rfl ?_
          refine g_getI (p0 := 110) dX10_voted_107 fX10_173 (by first | rfl | assumption | exact RW.s (by assumption) | exact TW.s (by assumption)) rfl (by first | assumption | ((repeat (first | exact up_hit | refine up_nv (by decide) ?_ | refine up_mv (by first | decide | omega) ?_)) <;> first | assumption | rfl)) rfl ?_
          first | ((with_reducible refine isN1 ?_); refine g_ifN_ne (tgt := 127) (p1 := 113) dX10_voted_110 rfl (by omega) rfl (fun c_110 => by exfalso; first | omega | contradiction | exact absurd (by assumption) c_110 | (simp_all; done)) (fun c_110 => ?_)) | refine g_if_ne (tgt := 127) (p1 := 113) dX10_voted_110 rfl rfl (fun c_110 => by exfalso; first | omega | contradiction | exact absurd (by assumption) c_110 | (simp_all; done)) (fun c_110 => ?_)
          refine g_iload (p0 := 115) dX10_voted_113 rfl rfl ?_
          first | ((with_reducible refine isN1 ?_); refine g_ifN_le (tgt := 131) (p1 := 118) dX10_voted_115 rfl (by omega) rfl (fun c_115 => by exfalso; first | omega | contradiction | exact absurd (by assumption) c_115 | (simp_all; done)) (fun c_115 => ?_)) | refine g_if_le (tgt := 131) (p1 := 118) dX10_voted_115 rfl rfl (fun c_115 => by exfalso; first | omega | contradiction | exact absurd (by assumption) c_115 | (simp_all; done)) (fun c_115 => ?_)
          refine g_iload (p0 := 120) dX10_voted_118 rfl rfl ?_
          refine g_aload_n (p0 := 121) (i := 0) dX10_voted_120 rfl rfl rfl ?_
          refine g_getI (p0 := 124) dX10_voted_121 fX10_170 (by first | rfl | assumption | exact RW.s (by assumption) | exact TW.s (by assumption)) rfl (by first | assumption | ((repeat (first | exact up_hit | refine up_nv (by decide) ?_ | refine up_mv (by first | decide | omega) ?_)) <;> first | assumption | rfl)) rfl ?_
          first | ((with_reducible refine isN2 ?_); refine g_icmpN_ne (tgt := 131) (p1 := 127) dX10_voted_124 rfl (by omega) (by omega) rfl (fun c_124 => by exfalso; first | omega | contradiction | exact absurd (by assumption) c_124 | (simp_all; done)) (fun c_124 => ?_)) | refine g_icmp_ne (tgt := 131) (p1 := 127) dX10_voted_124 rfl rfl (fun c_124 => by exfalso; first | omega | contradiction | exact absurd (by assumption) c_124 | (simp_all; done)) (fun c_124 => ?_)
          refine g_iconst (p0 := 128) (v := nI 1) dX10_voted_127 rfl rfl ?_
          refine g_goto (tgt := 132) dX10_voted_128 rfl ?_
          refine g_put (p0 := 135) dX10_voted_132 fX10_173 (by first | rfl | assumption | exact RW.s (by assumption) | exact TW.s (by assumption)) rfl nX10_22 (pX10_22 (by first | decide | assumption)) rfl ?_
          refine g_iload (p0 := 137) dX10_voted_135 rfl rfl ?_
          refine g_aload_n (p0 := 138) (i := 0) dX10_voted_137 rfl rfl rfl ?_
          refine g_getI (p0 := 141) dX10_voted_138 fX10_170 (by first | rfl | assumption | exact RW.s (by assumption) | exact TW.s (by assumption)) rfl (by first | assumption | ((repeat (first | exact up_hit | refine up_nv (by decide) ?_ | refine up_mv (by first | decide | omega) ?_)) <;> first | assumption | rfl)) rfl ?_
          first | ((with_reducible refine isN2 ?_); refine g_icmpN_le (tgt := 148) (p1 := 144) dX10_voted_141 rfl (by omega) (by omega) rfl (fun c_141 => ?_) (fun c_141 => by exfalso; first | omega | contradiction | exact absurd (by assumption) c_141 | (simp_all; done))) | refine g_icmp_le (tgt := 148) (p1 := 144) dX10_voted_141 rfl rfl (fun c_141 => ?_) (fun c_141 => by exfalso; first | omega | contradiction | exact absurd (by assumption) c_141 | (simp_all; done))
          refine g_iload_n (p0 := 149) (i := 2) dX10_voted_148 rfl rfl rfl ?_
          refine g_istore_n (p0 := 150) (i := 2) (ls2 := [_, _, _, _, _, _, _]) dX10_voted_149 rfl (Nat.le_of_ble_eq_true rfl) rfl rfl ?_
          refine g_aload_n (p0 := 151) (i := 0) dX10_voted_150 rfl rfl rfl ?_
          refine g_iload (p0 := 153) dX10_voted_151 rfl rfl ?_
          refine g_aload_n (p0 := 154) (i := 0) dX10_voted_153 rfl rfl rfl ?_
          refine g_getI (p0 := 157) dX10_voted_154 fX10_170 (by first | rfl | assumption | exact RW.s (by assumption) | exact TW.s (by assumption)) rfl (by first | assumption | ((repeat (first | exact up_hit | refine up_nv (by decide) ?_ | refine up_mv (by first | decide | omega) ?_)) <;> first | assumption | rfl)) rfl ?_
          first | ((with_reducible refine isN2 ?_); refine g_icmpN_le (tgt := 165) (p1 := 160) dX10_voted_157 rfl (by omega) (by omega) rfl (fun c_157 => ?_) (fun c_157 => by exfalso; first | omega | contradiction | exact absurd (by assumption) c_157 | (simp_all; done))) | refine g_icmp_le (tgt := 165) (p1 := 160) dX10_voted_157 rfl rfl (fun c_157 => ?_) (fun c_157 => by exfalso; first | omega | contradiction | exact absurd (by assumption) c_157 | (simp_all; done))
          refine g_aload_n (p0 := 166) (i := 0) dX10_voted_165 rfl rfl rfl ?_
          refine g_getI (p0 := 169) dX10_voted_166 fX10_170 (by first | rfl | assumption | exact RW.s (by assumption) | exact TW.s (by assumption)) rfl (by first | assumption | ((repeat (first | exact up_hit | refine up_nv (by decide) ?_ | refine up_mv (by first | decide | omega) ?_)) <;> first | assumption | rfl)) rfl ?_
          refine g_put (p0 := 172) dX10_voted_169 fX10_170 (by first | rfl | assumption | exact RW.s (by assumption) | exact TW.s (by assumption)) rfl nX10_21 (pX10_21 _) rfl ?_
          first | refine g_iinc1 (p0 := 175) (ls2 := [_, _, _, _, _, _, _]) dX10_voted_172 rfl rfl rfl ?_ | refine g_iinc (p0 := 175) (ls2 := [_, _, _, _, _, _, _]) dX10_voted_172 rfl rfl rfl rfl ?_
          refine g_goto (tgt := 15) dX10_voted_175 rfl ?_
          rw [← ew]
          refine ih (k + 1) (by omega) _ (fun z hz => ?_) (fun q h21 h22 => ?_) ?_ ?_ _ _ _
          · rw [up_ne hz, up_ne hz]; exact h0 z hz
          · rw [up_miss h21, up_miss h22]; exact hq q h21 h22
          · rw [up_hit, moF_nle hg2]
          · rw [up_miss (by decide), up_hit, duF_eq hg2 he2]
        · rw [hd] at h2
          refine g_aload_n (p0 := 93) (i := 0) dX10_voted_92 rfl rfl rfl ?_
          refine g_iload (p0 := 95) dX10_voted_93 rfl rfl ?_
          refine g_aload_n (p0 := 96) (i := 0) dX10_voted_95 rfl rfl rfl ?_
          refine g_getI (p0 := 99) dX10_voted_96 fX10_170 (by first | rfl | assumption | exact RW.s (by assumption) | exact TW.s (by assumption)) rfl (by first | assumption | ((repeat (first | exact up_hit | refine up_nv (by decide) ?_ | refine up_mv (by first | decide | omega) ?_)) <;> first | assumption | rfl)) rfl ?_
          first | ((with_reducible refine isN2 ?_); refine g_icmpN_le (tgt := 106) (p1 := 102) dX10_voted_99 rfl (by omega) (by omega) rfl (fun c_99 => ?_) (fun c_99 => by exfalso; first | omega | contradiction | exact absurd (by assumption) c_99 | (simp_all; done))) | refine g_icmp_le (tgt := 106) (p1 := 102) dX10_voted_99 rfl rfl (fun c_99 => ?_) (fun c_99 => by exfalso; first | omega | contradiction | exact absurd (by assumption) c_99 | (simp_all; done))
          refine g_aload_n (p0 := 107) (i := 0) dX10_voted_106 rfl rfl rfl ?_
          refine g_getI (p0 := 110) dX10_voted_107 fX10_173 (by first | rfl | assumption | exact RW.s (by assumption) | exact TW.s (by assumption)) rfl (by first | assumption | ((repeat (first | exact up_hit | refine up_nv (by decide) ?_ | refine up_mv (by first | decide | omega) ?_)) <;> first | assumption | rfl)) rfl ?_
          first | ((with_reducible refine isN1 ?_); refine g_ifN_ne (tgt := 127) (p1 := 113) dX10_voted_110 rfl (by omega) rfl (fun c_110 => ?_) (fun c_110 => by exfalso; first | omega | contradiction | exact absurd (by assumption) c_110 | (simp_all; done))) | refine g_if_ne (tgt := 127) (p1 := 113) dX10_voted_110 rfl rfl (fun c_110 => ?_) (fun c_110 => by exfalso; first | omega | contradiction | exact absurd (by assumption) c_110 | (simp_all; done))
          refine g_iconst (p0 := 128) (v := nI 1) dX10_voted_127 rfl rfl ?_
          refine g_goto (tgt := 132) dX10_voted_128 rfl ?_
          refine g_put (p0 := 135) dX10_voted_132 fX10_173 (by first | rfl | assumption | exact RW.s (by assumption) | exact TW.s (by assumption)) rfl nX10_22 (pX10_22 (by first | decide | assumption)) rfl ?_
          refine g_iload (p0 := 137) dX10_voted_135 rfl rfl ?_
          refine g_aload_n (p0 := 138) (i := 0) dX10_voted_137 rfl rfl rfl ?_
          refine g_getI (p0 := 141) dX10_voted_138 fX10_170 (by first | rfl | assumption | exact RW.s (by assumption) | exact TW.s (by assumption)) rfl (by first | assumption | ((repeat (first | exact up_hit | refine up_nv (by decide) ?_ | refine up_mv (by first | decide | omega) ?_)) <;> first | assumption | rfl)) rfl ?_
          first | ((with_reducible refine isN2 ?_); refine g_icmpN_le (tgt := 148) (p1 := 144) dX10_voted_141 rfl (by omega) (by omega) rfl (fun c_141 => ?_) (fun c_141 => by exfalso; first | omega | contradiction | exact absurd (by assumption) c_141 | (simp_all; done))) | refine g_icmp_le (tgt := 148) (p1 := 144) dX10_voted_141 rfl rfl (fun c_141 => ?_) (fun c_141 => by exfalso; first | omega | contradiction | exact absurd (by assumption) c_141 | (simp_all; done))
          refine g_iload_n (p0 := 149) (i := 2) dX10_voted_148 rfl rfl rfl ?_
          refine g_istore_n (p0 := 150) (i := 2) (ls2 := [_, _, _, _, _, _, _]) dX10_voted_149 rfl (Nat.le_of_ble_eq_true rfl) rfl rfl ?_
          refine g_aload_n (p0 := 151) (i := 0) dX10_voted_150 rfl rfl rfl ?_
          refine g_iload (p0 := 153) dX10_voted_151 rfl rfl ?_
          refine g_aload_n (p0 := 154) (i := 0) dX10_voted_153 rfl rfl rfl ?_
          refine g_getI (p0 := 157) dX10_voted_154 fX10_170 (by first | rfl | assumption | exact RW.s (by assumption) | exact TW.s (by assumption)) rfl (by first | assumption | ((repeat (first | exact up_hit | refine up_nv (by decide) ?_ | refine up_mv (by first | decide | omega) ?_)) <;> first | assumption | rfl)) rfl ?_
          first | ((with_reducible refine isN2 ?_); refine g_icmpN_le (tgt := 165) (p1 := 160) dX10_voted_157 rfl (by omega) (by omega) rfl (fun c_157 => ?_) (fun c_157 => by exfalso; first | omega | contradiction | exact absurd (by assumption) c_157 | (simp_all; done))) | refine g_icmp_le (tgt := 165) (p1 := 160) dX10_voted_157 rfl rfl (fun c_157 => ?_) (fun c_157 => by exfalso; first | omega | contradiction | exact absurd (by assumption) c_157 | (simp_all; done))
          refine g_aload_n (p0 := 166) (i := 0) dX10_voted_165 rfl rfl rfl ?_
          refine g_getI (p0 := 169) dX10_voted_166 fX10_170 (by first | rfl | assumption | exact RW.s (by assumption) | exact TW.s (by assumption)) rfl (by first | assumption | ((repeat (first | exact up_hit | refine up_nv (by decide) ?_ | refine up_mv (by first | decide | omega) ?_)) <;> first | assumption | rfl)) rfl ?_
          refine g_put (p0 := 172) dX10_voted_169 fX10_170 (by first | rfl | assumption | exact RW.s (by assumption) | exact TW.s (by assumption)) rfl nX10_21 (pX10_21 _) rfl ?_
          first | refine g_iinc1 (p0 := 175) (ls2 := [_, _, _, _, _, _, _]) dX10_voted_172 rfl rfl rfl ?_ | refine g_iinc (p0 := 175) (ls2 := [_, _, _, _, _, _, _]) dX10_voted_172 rfl rfl rfl rfl ?_
          refine g_goto (tgt := 15) dX10_voted_175 rfl ?_
          rw [← ew]
          refine ih (k + 1) (by omega) _ (fun z hz => ?_) (fun q h21 h22 => ?_) ?_ ?_ _ _ _
          · rw [up_ne hz, up_ne hz]; exact h0 z hz
          · rw [up_miss h21, up_miss h22]; exact hq q h21 h22
          · rw [up_hit, moF_nle hg2]
          · rw [up_miss (by decide), up_hit, duF_eq hg2 he2]
      · have he2 : ¬ (0 < (fun k => vc v f n j k M) k ∧ (fun k => vc v f n j k M) k = moF (fun k => vc v f n j k M) k) := he
        have ed := duF_ne hg2 he2
        rcases duF_le (c := (fun k => vc v f n j k M)) k with hd | hd
        · rw [hd] at h2 ed
          by_cases hz : vc v f n j k M = 0
          · refine g_aload_n (p0 := 93) (i := 0) dX10_voted_92 rfl rfl rfl ?_
            refine g_iload (p0 := 95) dX10_voted_93 rfl rfl ?_
            refine g_aload_n (p0 := 96) (i := 0) dX10_voted_95 rfl rfl rfl ?_
            refine g_getI (p0 := 99) dX10_voted_96 fX10_170 (by first | rfl | assumption | exact RW.s (by assumption) | exact TW.s (by assumption)) rfl (by first | assumption | ((repeat (first | exact up_hit | refine up_nv (by decide) ?_ | refine up_mv (by first | decide | omega) ?_)) <;> first | assumption | rfl)) rfl ?_
            first | ((with_reducible refine isN2 ?_); refine g_icmpN_le (tgt := 106) (p1 := 102) dX10_voted_99 rfl (by omega) (by omega) rfl (fun c_99 => ?_) (fun c_99 => by exfalso; first | omega | contradiction | exact absurd (by assumption) c_99 | (simp_all; done))) | refine g_icmp_le (tgt := 106) (p1 := 102) dX10_voted_99 rfl rfl (fun c_99 => ?_) (fun c_99 => by exfalso; first | omega | contradiction | exact absurd (by assumption) c_99 | (simp_all; done))
            refine g_aload_n (p0 := 107) (i := 0) dX10_voted_106 rfl rfl rfl ?_
            refine g_getI (p0 := 110) dX10_voted_107 fX10_173 (by first | rfl | assumption | exact RW.s (by assumption) | exact TW.s (by assumption)) rfl (by first | assumption | ((repeat (first | exact up_hit | refine up_nv (by decide) ?_ | refine up_mv (by first | decide | omega) ?_)) <;> first | assumption | rfl)) rfl ?_
            first | ((with_reducible refine isN1 ?_); refine g_ifN_ne (tgt := 127) (p1 := 113) dX10_voted_110 rfl (by omega) rfl (fun c_110 => by exfalso; first | omega | contradiction | exact absurd (by assumption) c_110 | (simp_all; done)) (fun c_110 => ?_)) | refine g_if_ne (tgt := 127) (p1 := 113) dX10_voted_110 rfl rfl (fun c_110 => by exfalso; first | omega | contradiction | exact absurd (by assumption) c_110 | (simp_all; done)) (fun c_110 => ?_)
            refine g_iload (p0 := 115) dX10_voted_113 rfl rfl ?_
            first | ((with_reducible refine isN1 ?_); refine g_ifN_le (tgt := 131) (p1 := 118) dX10_voted_115 rfl (by omega) rfl (fun c_115 => ?_) (fun c_115 => by exfalso; first | omega | contradiction | exact absurd (by assumption) c_115 | (simp_all; done))) | refine g_if_le (tgt := 131) (p1 := 118) dX10_voted_115 rfl rfl (fun c_115 => ?_) (fun c_115 => by exfalso; first | omega | contradiction | exact absurd (by assumption) c_115 | (simp_all; done))
            refine g_iconst (p0 := 132) (v := nI 0) dX10_voted_131 rfl rfl ?_
            refine g_put (p0 := 135) dX10_voted_132 fX10_173 (by first | rfl | assumption | exact RW.s (by assumption) | exact TW.s (by assumption)) rfl nX10_22 (pX10_22 (by first | decide | assumption)) rfl ?_
            refine g_iload (p0 := 137) dX10_voted_135 rfl rfl ?_
            refine g_aload_n (p0 := 138) (i := 0) dX10_voted_137 rfl rfl rfl ?_
            refine g_getI (p0 := 141) dX10_voted_138 fX10_170 (by first | rfl | assumption | exact RW.s (by assumption) | exact TW.s (by assumption)) rfl (by first | assumption | ((repeat (first | exact up_hit | refine up_nv (by decide) ?_ | refine up_mv (by first | decide | omega) ?_)) <;> first | assumption | rfl)) rfl ?_
            first | ((with_reducible refine isN2 ?_); refine g_icmpN_le (tgt := 148) (p1 := 144) dX10_voted_141 rfl (by omega) (by omega) rfl (fun c_141 => ?_) (fun c_141 => by exfalso; first | omega | contradiction | exact absurd (by assumption) c_141 | (simp_all; done))) | refine g_icmp_le (tgt := 148) (p1 := 144) dX10_voted_141 rfl rfl (fun c_141 => ?_) (fun c_141 => by exfalso; first | omega | contradiction | exact absurd (by assumption) c_141 | (simp_all; done))
            refine g_iload_n (p0 := 149) (i := 2) dX10_voted_148 rfl rfl rfl ?_
            refine g_istore_n (p0 := 150) (i := 2) (ls2 := [_, _, _, _, _, _, _]) dX10_voted_149 rfl (Nat.le_of_ble_eq_true rfl) rfl rfl ?_
            refine g_aload_n (p0 := 151) (i := 0) dX10_voted_150 rfl rfl rfl ?_
            refine g_iload (p0 := 153) dX10_voted_151 rfl rfl ?_
            refine g_aload_n (p0 := 154) (i := 0) dX10_voted_153 rfl rfl rfl ?_
            refine g_getI (p0 := 157) dX10_voted_154 fX10_170 (by first | rfl | assumption | exact RW.s (by assumption) | exact TW.s (by assumption)) rfl (by first | assumption | ((repeat (first | exact up_hit | refine up_nv (by decide) ?_ | refine up_mv (by first | decide | omega) ?_)) <;> first | assumption | rfl)) rfl ?_
            first | ((with_reducible refine isN2 ?_); refine g_icmpN_le (tgt := 165) (p1 := 160) dX10_voted_157 rfl (by omega) (by omega) rfl (fun c_157 => ?_) (fun c_157 => by exfalso; first | omega | contradiction | exact absurd (by assumption) c_157 | (simp_all; done))) | refine g_icmp_le (tgt := 165) (p1 := 160) dX10_voted_157 rfl rfl (fun c_157 => ?_) (fun c_157 => by exfalso; first | omega | contradiction | exact absurd (by assumption) c_157 | (simp_all; done))
            refine g_aload_n (p0 := 166) (i := 0) dX10_voted_165 rfl rfl rfl ?_
            refine g_getI (p0 := 169) dX10_voted_166 fX10_170 (by first | rfl | assumption | exact RW.s (by assumption) | exact TW.s (by assumption)) rfl (by first | assumption | ((repeat (first | exact up_hit | refine up_nv (by decide) ?_ | refine up_mv (by first | decide | omega) ?_)) <;> first | assumption | rfl)) rfl ?_
            refine g_put (p0 := 172) dX10_voted_169 fX10_170 (by first | rfl | assumption | exact RW.s (by assumption) | exact TW.s (by assumption)) rfl nX10_21 (pX10_21 _) rfl ?_
            first | refine g_iinc1 (p0 := 175) (ls2 := [_, _, _, _, _, _, _]) dX10_voted_172 rfl rfl rfl ?_ | refine g_iinc (p0 := 175) (ls2 := [_, _, _, _, _, _, _]) dX10_voted_172 rfl rfl rfl rfl ?_
            refine g_goto (tgt := 15) dX10_voted_175 rfl ?_
            rw [← ew]
            refine ih (k + 1) (by omega) _ (fun z hz => ?_) (fun q h21 h22 => ?_) ?_ ?_ _ _ _
            · rw [up_ne hz, up_ne hz]; exact h0 z hz
            · rw [up_miss h21, up_miss h22]; exact hq q h21 h22
            · rw [up_hit, moF_nle hg2]
            · rw [up_miss (by decide), up_hit, ed]
          · have hne : ¬ vc v f n j k M = moF (fun k => vc v f n j k M) k := fun q => he ⟨by omega, q⟩
            refine g_aload_n (p0 := 93) (i := 0) dX10_voted_92 rfl rfl rfl ?_
            refine g_iload (p0 := 95) dX10_voted_93 rfl rfl ?_
            refine g_aload_n (p0 := 96) (i := 0) dX10_voted_95 rfl rfl rfl ?_
            refine g_getI (p0 := 99) dX10_voted_96 fX10_170 (by first | rfl | assumption | exact RW.s (by assumption) | exact TW.s (by assumption)) rfl (by first | assumption | ((repeat (first | exact up_hit | refine up_nv (by decide) ?_ | refine up_mv (by first | decide | omega) ?_)) <;> first | assumption | rfl)) rfl ?_
            first | ((with_reducible refine isN2 ?_); refine g_icmpN_le (tgt := 106) (p1 := 102) dX10_voted_99 rfl (by omega) (by omega) rfl (fun c_99 => ?_) (fun c_99 => by exfalso; first | omega | contradiction | exact absurd (by assumption) c_99 | (simp_all; done))) | refine g_icmp_le (tgt := 106) (p1 := 102) dX10_voted_99 rfl rfl (fun c_99 => ?_) (fun c_99 => by exfalso; first | omega | contradiction | exact absurd (by assumption) c_99 | (simp_all; done))
            refine g_aload_n (p0 := 107) (i := 0) dX10_voted_106 rfl rfl rfl ?_
            refine g_getI (p0 := 110) dX10_voted_107 fX10_173 (by first | rfl | assumption | exact RW.s (by assumption) | exact TW.s (by assumption)) rfl (by first | assumption | ((repeat (first | exact up_hit | refine up_nv (by decide) ?_ | refine up_mv (by first | decide | omega) ?_)) <;> first | assumption | rfl)) rfl ?_
            first | ((with_reducible refine isN1 ?_); refine g_ifN_ne (tgt := 127) (p1 := 113) dX10_voted_110 rfl (by omega) rfl (fun c_110 => by exfalso; first | omega | contradiction | exact absurd (by assumption) c_110 | (simp_all; done)) (fun c_110 => ?_)) | refine g_if_ne (tgt := 127) (p1 := 113) dX10_voted_110 rfl rfl (fun c_110 => by exfalso; first | omega | contradiction | exact absurd (by assumption) c_110 | (simp_all; done)) (fun c_110 => ?_)
            refine g_iload (p0 := 115) dX10_voted_113 rfl rfl ?_
            first | ((with_reducible refine isN1 ?_); refine g_ifN_le (tgt := 131) (p1 := 118) dX10_voted_115 rfl (by omega) rfl (fun c_115 => by exfalso; first | omega | contradiction | exact absurd (by assumption) c_115 | (simp_all; done)) (fun c_115 => ?_)) | refine g_if_le (tgt := 131) (p1 := 118) dX10_voted_115 rfl rfl (fun c_115 => by exfalso; first | omega | contradiction | exact absurd (by assumption) c_115 | (simp_all; done)) (fun c_115 => ?_)
            refine g_iload (p0 := 120) dX10_voted_118 rfl rfl ?_
            refine g_aload_n (p0 := 121) (i := 0) dX10_voted_120 rfl rfl rfl ?_
            refine g_getI (p0 := 124) dX10_voted_121 fX10_170 (by first | rfl | assumption | exact RW.s (by assumption) | exact TW.s (by assumption)) rfl (by first | assumption | ((repeat (first | exact up_hit | refine up_nv (by decide) ?_ | refine up_mv (by first | decide | omega) ?_)) <;> first | assumption | rfl)) rfl ?_
            first | ((with_reducible refine isN2 ?_); refine g_icmpN_ne (tgt := 131) (p1 := 127) dX10_voted_124 rfl (by omega) (by omega) rfl (fun c_124 => ?_) (fun c_124 => by exfalso; first | omega | contradiction | exact absurd (by assumption) c_124 | (simp_all; done))) | refine g_icmp_ne (tgt := 131) (p1 := 127) dX10_voted_124 rfl rfl (fun c_124 => ?_) (fun c_124 => by exfalso; first | omega | contradiction | exact absurd (by assumption) c_124 | (simp_all; done))
            refine g_iconst (p0 := 132) (v := nI 0) dX10_voted_131 rfl rfl ?_
            refine g_put (p0 := 135) dX10_voted_132 fX10_173 (by first | rfl | assumption | exact RW.s (by assumption) | exact TW.s (by assumption)) rfl nX10_22 (pX10_22 (by first | decide | assumption)) rfl ?_
            refine g_iload (p0 := 137) dX10_voted_135 rfl rfl ?_
            refine g_aload_n (p0 := 138) (i := 0) dX10_voted_137 rfl rfl rfl ?_
            refine g_getI (p0 := 141) dX10_voted_138 fX10_170 (by first | rfl | assumption | exact RW.s (by assumption) | exact TW.s (by assumption)) rfl (by first | assumption | ((repeat (first | exact up_hit | refine up_nv (by decide) ?_ | refine up_mv (by first | decide | omega) ?_)) <;> first | assumption | rfl)) rfl ?_
            first | ((with_reducible refine isN2 ?_); refine g_icmpN_le (tgt := 148) (p1 := 144) dX10_voted_141 rfl (by omega) (by omega) rfl (fun c_141 => ?_) (fun c_141 => by exfalso; first | omega | contradiction | exact absurd (by assumption) c_141 | (simp_all; done))) | refine g_icmp_le (tgt := 148) (p1 := 144) dX10_voted_141 rfl rfl (fun c_141 => ?_) (fun c_141 => by exfalso; first | omega | contradiction | exact absurd (by assumption) c_141 | (simp_all; done))
            refine g_iload_n (p0 := 149) (i := 2) dX10_voted_148 rfl rfl rfl ?_
            refine g_istore_n (p0 := 150) (i := 2) (ls2 := [_, _, _, _, _, _, _]) dX10_voted_149 rfl (Nat.le_of_ble_eq_true rfl) rfl rfl ?_
            refine g_aload_n (p0 := 151) (i := 0) dX10_voted_150 rfl rfl rfl ?_
            refine g_iload (p0 := 153) dX10_voted_151 rfl rfl ?_
            refine g_aload_n (p0 := 154) (i := 0) dX10_voted_153 rfl rfl rfl ?_
            refine g_getI (p0 := 157) dX10_voted_154 fX10_170 (by first | rfl | assumption | exact RW.s (by assumption) | exact TW.s (by assumption)) rfl (by first | assumption | ((repeat (first | exact up_hit | refine up_nv (by decide) ?_ | refine up_mv (by first | decide | omega) ?_)) <;> first | assumption | rfl)) rfl ?_
            first | ((with_reducible refine isN2 ?_); refine g_icmpN_le (tgt := 165) (p1 := 160) dX10_voted_157 rfl (by omega) (by omega) rfl (fun c_157 => ?_) (fun c_157 => by exfalso; first | omega | contradiction | exact absurd (by assumption) c_157 | (simp_all; done))) | refine g_icmp_le (tgt := 165) (p1 := 160) dX10_voted_157 rfl rfl (fun c_157 => ?_) (fun c_157 => by exfalso; first | omega | contradiction | exact absurd (by assumption) c_157 | (simp_all; done))
            refine g_aload_n (p0 := 166) (i := 0) dX10_voted_165 rfl rfl rfl ?_
            refine g_getI (p0 := 169) dX10_voted_166 fX10_170 (by first | rfl | assumption | exact RW.s (by assumption) | exact TW.s (by assumption)) rfl (by first | assumption | ((repeat (first | exact up_hit | refine up_nv (by decide) ?_ | refine up_mv (by first | decide | omega) ?_)) <;> first | assumption | rfl)) rfl ?_
            refine g_put (p0 := 172) dX10_voted_169 fX10_170 (by first | rfl | assumption | exact RW.s (by assumption) | exact TW.s (by assumption)) rfl nX10_21 (pX10_21 _) rfl ?_
            first | refine g_iinc1 (p0 := 175) (ls2 := [_, _, _, _, _, _, _]) dX10_voted_172 rfl rfl rfl ?_ | refine g_iinc (p0 := 175) (ls2 := [_, _, _, _, _, _, _]) dX10_voted_172 rfl rfl rfl rfl ?_
            refine g_goto (tgt := 15) dX10_voted_175 rfl ?_
            rw [← ew]
            refine ih (k + 1) (by omega) _ (fun z hz => ?_) (fun q h21 h22 => ?_) ?_ ?_ _ _ _
            · rw [up_ne hz, up_ne hz]; exact h0 z hz
            · rw [up_miss h21, up_miss h22]; exact hq q h21 h22
            · rw [up_hit, moF_nle hg2]
            · rw [up_miss (by decide), up_hit, ed]
        · rw [hd] at h2 ed
          refine g_aload_n (p0 := 93) (i := 0) dX10_voted_92 rfl rfl rfl ?_
          refine g_iload (p0 := 95) dX10_voted_93 rfl rfl ?_
          refine g_aload_n (p0 := 96) (i := 0) dX10_voted_95 rfl rfl rfl ?_
          refine g_getI (p0 := 99) dX10_voted_96 fX10_170 (by first | rfl | assumption | exact RW.s (by assumption) | exact TW.s (by assumption)) rfl (by first | assumption | ((repeat (first | exact up_hit | refine up_nv (by decide) ?_ | refine up_mv (by first | decide | omega) ?_)) <;> first | assumption | rfl)) rfl ?_
          first | ((with_reducible refine isN2 ?_); refine g_icmpN_le (tgt := 106) (p1 := 102) dX10_voted_99 rfl (by omega) (by omega) rfl (fun c_99 => ?_) (fun c_99 => by exfalso; first | omega | contradiction | exact absurd (by assumption) c_99 | (simp_all; done))) | refine g_icmp_le (tgt := 106) (p1 := 102) dX10_voted_99 rfl rfl (fun c_99 => ?_) (fun c_99 => by exfalso; first | omega | contradiction | exact absurd (by assumption) c_99 | (simp_all; done))
          refine g_aload_n (p0 := 107) (i := 0) dX10_voted_106 rfl rfl rfl ?_
          refine g_getI (p0 := 110) dX10_voted_107 fX10_173 (by first | rfl | assumption | exact RW.s (by assumption) | exact TW.s (by assumption)) rfl (by first | assumption | ((repeat (first | exact up_hit | refine up_nv (by decide) ?_ | refine up_mv (by first | decide | omega) ?_)) <;> first | assumption | rfl)) rfl ?_
          first | ((with_reducible refine isN1 ?_); refine g_ifN_ne (tgt := 127) (p1 := 113) dX10_voted_110 rfl (by omega) rfl (fun c_110 => ?_) (fun c_110 => by exfalso; first | omega | contradiction | exact absurd (by assumption) c_110 | (simp_all; done))) | refine g_if_ne (tgt := 127) (p1 := 113) dX10_voted_110 rfl rfl (fun c_110 => ?_) (fun c_110 => by exfalso; first | omega | contradiction | exact absurd (by assumption) c_110 | (simp_all; done))
          refine g_iconst (p0 := 128) (v := nI 1) dX10_voted_127 rfl rfl ?_
          refine g_goto (tgt := 132) dX10_voted_128 rfl ?_
          refine g_put (p0 := 135) dX10_voted_132 fX10_173 (by first | rfl | assumption | exact RW.s (by assumption) | exact TW.s (by assumption)) rfl nX10_22 (pX10_22 (by first | decide | assumption)) rfl ?_
          refine g_iload (p0 := 137) dX10_voted_135 rfl rfl ?_
          refine g_aload_n (p0 := 138) (i := 0) dX10_voted_137 rfl rfl rfl ?_
          refine g_getI (p0 := 141) dX10_voted_138 fX10_170 (by first | rfl | assumption | exact RW.s (by assumption) | exact TW.s (by assumption)) rfl (by first | assumption | ((repeat (first | exact up_hit | refine up_nv (by decide) ?_ | refine up_mv (by first | decide | omega) ?_)) <;> first | assumption | rfl)) rfl ?_
          first | ((with_reducible refine isN2 ?_); refine g_icmpN_le (tgt := 148) (p1 := 144) dX10_voted_141 rfl (by omega) (by omega) rfl (fun c_141 => ?_) (fun c_141 => by exfalso; first | omega | contradiction | exact absurd (by assumption) c_141 | (simp_all; done))) | refine g_icmp_le (tgt := 148) (p1 := 144) dX10_voted_141 rfl rfl (fun c_141 => ?_) (fun c_141 => by exfalso; first | omega | contradiction | exact absurd (by assumption) c_141 | (simp_all; done))
          refine g_iload_n (p0 := 149) (i := 2) dX10_voted_148 rfl rfl rfl ?_
          refine g_istore_n (p0 := 150) (i := 2) (ls2 := [_, _, _, _, _, _, _]) dX10_voted_149 rfl (Nat.le_of_ble_eq_true rfl) rfl rfl ?_
          refine g_aload_n (p0 := 151) (i := 0) dX10_voted_150 rfl rfl rfl ?_
          refine g_iload (p0 := 153) dX10_voted_151 rfl rfl ?_
          refine g_aload_n (p0 := 154) (i := 0) dX10_voted_153 rfl rfl rfl ?_
          refine g_getI (p0 := 157) dX10_voted_154 fX10_170 (by first | rfl | assumption | exact RW.s (by assumption) | exact TW.s (by assumption)) rfl (by first | assumption | ((repeat (first | exact up_hit | refine up_nv (by decide) ?_ | refine up_mv (by first | decide | omega) ?_)) <;> first | assumption | rfl)) rfl ?_
          first | ((with_reducible refine isN2 ?_); refine g_icmpN_le (tgt := 165) (p1 := 160) dX10_voted_157 rfl (by omega) (by omega) rfl (fun c_157 => ?_) (fun c_157 => by exfalso; first | omega | contradiction | exact absurd (by assumption) c_157 | (simp_all; done))) | refine g_icmp_le (tgt := 165) (p1 := 160) dX10_voted_157 rfl rfl (fun c_157 => ?_) (fun c_157 => by exfalso; first | omega | contradiction | exact absurd (by assumption) c_157 | (simp_all; done))
          refine g_aload_n (p0 := 166) (i := 0) dX10_voted_165 rfl rfl rfl ?_
          refine g_getI (p0 := 169) dX10_voted_166 fX10_170 (by first | rfl | assumption | exact RW.s (by assumption) | exact TW.s (by assumption)) rfl (by first | assumption | ((repeat (first | exact up_hit | refine up_nv (by decide) ?_ | refine up_mv (by first | decide | omega) ?_)) <;> first | assumption | rfl)) rfl ?_
          refine g_put (p0 := 172) dX10_voted_169 fX10_170 (by first | rfl | assumption | exact RW.s (by assumption) | exact TW.s (by assumption)) rfl nX10_21 (pX10_21 _) rfl ?_
          first | refine g_iinc1 (p0 := 175) (ls2 := [_, _, _, _, _, _, _]) dX10_voted_172 rfl rfl rfl ?_ | refine g_iinc (p0 := 175) (ls2 := [_, _, _, _, _, _, _]) dX10_voted_172 rfl rfl rfl rfl ?_
          refine g_goto (tgt := 15) dX10_voted_175 rfl ?_
          rw [← ew]
          refine ih (k + 1) (by omega) _ (fun z hz => ?_) (fun q h21 h22 => ?_) ?_ ?_ _ _ _
          · rw [up_ne hz, up_ne hz]; exact h0 z hz
          · rw [up_miss h21, up_miss h22]; exact hq q h21 h22
          · rw [up_hit, moF_nle hg2]
          · rw [up_miss (by decide), up_hit, ed]
set_option maxRecDepth 20000 in
set_option maxHeartbeats 2000000 in
theorem voted_r {σ : Sg} {s M L : Nat} {c fs f n p d g a b : Nat → Nat} {v lc : Nat → Int32} {j : Nat} (hP : REF σ s M L c fs f n p d g a b v lc) (hj : j < 2147483648)  : CM mX10_voted [ar 79, ai (nI j)] σ (RelI (fun u σ1 => u = wv (-1000004) (fun k => vc v f n j k M) 25 ∧ (∀ z, z ≠ 79 → σ1 z = σ z) ∧ (∀ q, q ≠ 21 → q ≠ 22 → σ1 79 q = σ 79 q) ∧ σ1 79 21 = nI (moF (fun k => vc v f n j k M) 25) ∧ σ1 79 22 = nI (duF (fun k => vc v f n j k M) 25))) := by
  refine CM_in (ls := [some (ar 79), some (ai (nI j)), none, none, none, none, none]) rfl ?_
  refine g_ldc (p0 := 2) dX10_voted_0 qX10_154 rfl ?_
  refine g_istore_n (p0 := 3) (i := 2) (ls2 := [_, _, _, _, _, _, _]) dX10_voted_2 rfl (Nat.le_of_ble_eq_true rfl) rfl rfl ?_
  refine g_aload_n (p0 := 4) (i := 0) dX10_voted_3 rfl rfl rfl ?_
  refine g_iconst (p0 := 5) (v := nI 0) dX10_voted_4 rfl rfl ?_
  refine g_put (p0 := 8) dX10_voted_5 fX10_170 (by first | rfl | assumption | exact RW.s (by assumption) | exact TW.s (by assumption)) rfl nX10_21 (pX10_21 _) rfl ?_
  refine g_aload_n (p0 := 9) (i := 0) dX10_voted_8 rfl rfl rfl ?_
  refine g_iconst (p0 := 10) (v := nI 0) dX10_voted_9 rfl rfl ?_
  refine g_put (p0 := 13) dX10_voted_10 fX10_173 (by first | rfl | assumption | exact RW.s (by assumption) | exact TW.s (by assumption)) rfl nX10_22 (pX10_22 (by first | decide | assumption)) rfl ?_
  refine g_iconst (p0 := 14) (v := nI 0) dX10_voted_13 rfl rfl ?_
  refine g_istore_n (p0 := 15) (i := 3) (ls2 := [_, _, _, _, _, _, _]) dX10_voted_14 rfl (Nat.le_of_ble_eq_true rfl) rfl rfl ?_
  refine voted_l (Q := RelI (fun u σ1 => u = wv (-1000004) (fun k => vc v f n j k M) 25 ∧ (∀ z, z ≠ 79 → σ1 z = σ z) ∧ (∀ q, q ≠ 21 → q ≠ 22 → σ1 79 q = σ 79 q) ∧ σ1 79 21 = nI (moF (fun k => vc v f n j k M) 25) ∧ σ1 79 22 = nI (duF (fun k => vc v f n j k M) 25))) hP hj (fun σ1 h0 hq h1 h2 => ⟨_, rfl, rfl, h0, hq, h1, h2⟩) 25 0 (by omega) _ (fun z hz => ?_) (fun q h21 h22 => ?_) ?_ ?_ _ _ _
  · rw [up_ne hz, up_ne hz]
  · rw [up_miss h22, up_miss h21]
  · rw [up_miss (by decide), up_hit]; rfl
  · rw [up_hit]; rfl
