/-! QUESTIONS: read -/
theorem first_ex (P : Nat → Prop) : ∀ M, (∃ m, m < M ∧ P m ∧ ∀ i, i < m → ¬ P i) ∨ ∀ i, i < M → ¬ P i
  | 0 => Or.inr (fun i hi => absurd hi (Nat.not_lt_zero i))
  | M + 1 => by
    rcases first_ex P M with ⟨m, h1, h2, h3⟩ | h
    · exact Or.inl ⟨m, by omega, h2, h3⟩
    · rcases Classical.em (P M) with q | q
      · exact Or.inl ⟨M, Nat.lt_succ_self M, q, h⟩
      · refine Or.inr (fun i hi => ?_)
        by_cases e : i = M
        · rw [e]; exact q
        · exact h i (by omega)
set_option maxRecDepth 20000 in
set_option maxHeartbeats 2000000 in
theorem firstR_Tl {M m : Nat} {R : Nat → Prop} {σ : Sg} (hM : σ 45 7 = nI M) (hM1 : M ≤ 160) (hR : ∀ i, i < M → (R i ∧ CM mX6_isRight [ar 33, ai (nI i)] σ (Ret (nI 1) σ)) ∨ (¬ R i ∧ CM mX6_isRight [ar 33, ai (nI i)] σ (Ret (nI 0) σ))) {Q : SP} (hm : m < M) (h1 : R m) (h0 : ∀ i, i < m → ¬ R i) (k : Q (some (ai (nI m))) σ) : ∀ q i, i + q = m → WM mX6_firstRight Q 2 [some (ar 33), some (ai (nI i))] [] σ := by
  intro q
  induction q with
  | zero =>
    intro i hi
    obtain rfl : i = m := by omega
    rcases hR i hm with ⟨_, hr⟩ | ⟨hn, _⟩
    · refine g_iload_n (p0 := 3) (i := 1) dX6_firstRight_2 rfl rfl rfl ?_
      refine g_aload_n (p0 := 4) (i := 0) dX6_firstRight_3 rfl rfl rfl ?_
      refine g_getR (p0 := 7) dX6_firstRight_4 fX6_21 (by first | rfl | assumption | exact RW.s (by assumption) | exact TW.s (by assumption)) rfl rfl ?_
      refine g_getI (p0 := 10) dX6_firstRight_7 fX6_57 (by first | rfl | assumption | exact RW.s (by assumption) | exact TW.s (by assumption)) rfl (by first | assumption | ((repeat (first | exact up_hit | refine up_nv (by decide) ?_ | refine up_mv (by first | decide | omega) ?_)) <;> first | assumption | rfl)) rfl ?_
      first | ((with_reducible refine isN2 ?_); refine g_icmpN_ge (tgt := 29) (p1 := 13) dX6_firstRight_10 rfl (by omega) (by omega) rfl (fun c_10 => by exfalso; first | omega | contradiction | exact absurd (by assumption) c_10 | (simp_all; done)) (fun c_10 => ?_)) | refine g_icmp_ge (tgt := 29) (p1 := 13) dX6_firstRight_10 rfl rfl (fun c_10 => by exfalso; first | omega | contradiction | exact absurd (by assumption) c_10 | (simp_all; done)) (fun c_10 => ?_)
      refine g_aload_n (p0 := 14) (i := 0) dX6_firstRight_13 rfl rfl rfl ?_
      refine g_iload_n (p0 := 15) (i := 1) dX6_firstRight_14 rfl rfl rfl ?_
      refine g_cV1R (p0 := 18) (r1 := mX6_isRight) dX6_firstRight_15 lX6_165 vX6_isRight (by first | rfl | assumption | exact RW.s (by assumption) | exact TW.s (by assumption)) ⟨_, _, rfl⟩ (FITi rfl rfl) (Nat.le_of_ble_eq_true rfl) (hr) rfl ?_
      first | ((with_reducible refine isN1 ?_); refine g_ifN_eq (tgt := 23) (p1 := 21) dX6_firstRight_18 rfl (by omega) rfl (fun c_18 => by exfalso; first | omega | contradiction | exact absurd (by assumption) c_18 | (simp_all; done)) (fun c_18 => ?_)) | refine g_if_eq (tgt := 23) (p1 := 21) dX6_firstRight_18 rfl rfl (fun c_18 => by exfalso; first | omega | contradiction | exact absurd (by assumption) c_18 | (simp_all; done)) (fun c_18 => ?_)
      refine g_iload_n (p0 := 22) (i := 1) dX6_firstRight_21 rfl rfl rfl ?_
      refine g_ireturn dX6_firstRight_22 rfl rfl (?_)
      exact k
    · exact absurd h1 hn
  | succ q ih =>
    intro i hi
    rcases hR i (by omega) with ⟨hn, _⟩ | ⟨_, hr⟩
    · exact absurd hn (h0 i (by omega))
    · refine g_iload_n (p0 := 3) (i := 1) dX6_firstRight_2 rfl rfl rfl ?_
      refine g_aload_n (p0 := 4) (i := 0) dX6_firstRight_3 rfl rfl rfl ?_
      refine g_getR (p0 := 7) dX6_firstRight_4 fX6_21 (by first | rfl | assumption | exact RW.s (by assumption) | exact TW.s (by assumption)) rfl rfl ?_
      refine g_getI (p0 := 10) dX6_firstRight_7 fX6_57 (by first | rfl | assumption | exact RW.s (by assumption) | exact TW.s (by assumption)) rfl (by first | assumption | ((repeat (first | exact up_hit | refine up_nv (by decide) ?_ | refine up_mv (by first | decide | omega) ?_)) <;> first | assumption | rfl)) rfl ?_
      first | ((with_reducible refine isN2 ?_); refine g_icmpN_ge (tgt := 29) (p1 := 13) dX6_firstRight_10 rfl (by omega) (by omega) rfl (fun c_10 => by exfalso; first | omega | contradiction | exact absurd (by assumption) c_10 | (simp_all; done)) (fun c_10 => ?_)) | refine g_icmp_ge (tgt := 29) (p1 := 13) dX6_firstRight_10 rfl rfl (fun c_10 => by exfalso; first | omega | contradiction | exact absurd (by assumption) c_10 | (simp_all; done)) (fun c_10 => ?_)
      refine g_aload_n (p0 := 14) (i := 0) dX6_firstRight_13 rfl rfl rfl ?_
      refine g_iload_n (p0 := 15) (i := 1) dX6_firstRight_14 rfl rfl rfl ?_
      refine g_cV1R (p0 := 18) (r1 := mX6_isRight) dX6_firstRight_15 lX6_165 vX6_isRight (by first | rfl | assumption | exact RW.s (by assumption) | exact TW.s (by assumption)) ⟨_, _, rfl⟩ (FITi rfl rfl) (Nat.le_of_ble_eq_true rfl) (hr) rfl ?_
      first | ((with_reducible refine isN1 ?_); refine g_ifN_eq (tgt := 23) (p1 := 21) dX6_firstRight_18 rfl (by omega) rfl (fun c_18 => ?_) (fun c_18 => by exfalso; first | omega | contradiction | exact absurd (by assumption) c_18 | (simp_all; done))) | refine g_if_eq (tgt := 23) (p1 := 21) dX6_firstRight_18 rfl rfl (fun c_18 => ?_) (fun c_18 => by exfalso; first | omega | contradiction | exact absurd (by assumption) c_18 | (simp_all; done))
      first | refine g_iinc1 (p0 := 26) (ls2 := [_, _]) dX6_firstRight_23 rfl rfl rfl ?_ | refine g_iinc (p0 := 26) (ls2 := [_, _]) dX6_firstRight_23 rfl rfl rfl rfl ?_
      refine g_goto (tgt := 2) dX6_firstRight_26 rfl ?_
      exact ih (i + 1) (by omega)
set_option maxRecDepth 20000 in
set_option maxHeartbeats 2000000 in
theorem firstR_Fl {M : Nat} {R : Nat → Prop} {σ : Sg} (hM : σ 45 7 = nI M) (hM1 : M ≤ 160) (hR : ∀ i, i < M → (R i ∧ CM mX6_isRight [ar 33, ai (nI i)] σ (Ret (nI 1) σ)) ∨ (¬ R i ∧ CM mX6_isRight [ar 33, ai (nI i)] σ (Ret (nI 0) σ))) {Q : SP} (h0 : ∀ i, i < M → ¬ R i) (k : Q (some (ai (-1))) σ) : ∀ q i, i + q = M → WM mX6_firstRight Q 2 [some (ar 33), some (ai (nI i))] [] σ := by
  intro q
  induction q with
  | zero =>
    intro i hi
    obtain rfl : i = M := by omega
    refine g_iload_n (p0 := 3) (i := 1) dX6_firstRight_2 rfl rfl rfl ?_
    refine g_aload_n (p0 := 4) (i := 0) dX6_firstRight_3 rfl rfl rfl ?_
    refine g_getR (p0 := 7) dX6_firstRight_4 fX6_21 (by first | rfl | assumption | exact RW.s (by assumption) | exact TW.s (by assumption)) rfl rfl ?_
    refine g_getI (p0 := 10) dX6_firstRight_7 fX6_57 (by first | rfl | assumption | exact RW.s (by assumption) | exact TW.s (by assumption)) rfl (by first | assumption | ((repeat (first | exact up_hit | refine up_nv (by decide) ?_ | refine up_mv (by first | decide | omega) ?_)) <;> first | assumption | rfl)) rfl ?_
    first | ((with_reducible refine isN2 ?_); refine g_icmpN_ge (tgt := 29) (p1 := 13) dX6_firstRight_10 rfl (by omega) (by omega) rfl (fun c_10 => ?_) (fun c_10 => by exfalso; first | omega | contradiction | exact absurd (by assumption) c_10 | (simp_all; done))) | refine g_icmp_ge (tgt := 29) (p1 := 13) dX6_firstRight_10 rfl rfl (fun c_10 => ?_) (fun c_10 => by exfalso; first | omega | contradiction | exact absurd (by assumption) c_10 | (simp_all; done))
    refine g_iconst (p0 := 30) (v := -1) dX6_firstRight_29 rfl rfl ?_
    refine g_ireturn dX6_firstRight_30 rfl rfl (?_)
    exact k
  | succ q ih =>
    intro i hi
    rcases hR i (by omega) with ⟨hn, _⟩ | ⟨_, hr⟩
    · exact absurd hn (h0 i (by omega))
    · refine g_iload_n (p0 := 3) (i := 1) dX6_firstRight_2 rfl rfl rfl ?_
      refine g_aload_n (p0 := 4) (i := 0) dX6_firstRight_3 rfl rfl rfl ?_
      refine g_getR (p0 := 7) dX6_firstRight_4 fX6_21 (by first | rfl | assumption | exact RW.s (by assumption) | exact TW.s (by assumption)) rfl rfl ?_
      refine g_getI (p0 := 10) dX6_firstRight_7 fX6_57 (by first | rfl | assumption | exact RW.s (by assumption) | exact TW.s (by assumption)) rfl (by first | assumption | ((repeat (first | exact up_hit | refine up_nv (by decide) ?_ | refine up_mv (by first | decide | omega) ?_)) <;> first | assumption | rfl)) rfl ?_
      first | ((with_reducible refine isN2 ?_); refine g_icmpN_ge (tgt := 29) (p1 := 13) dX6_firstRight_10 rfl (by omega) (by omega) rfl (fun c_10 => by exfalso; first | omega | contradiction | exact absurd (by assumption) c_10 | (simp_all; done)) (fun c_10 => ?_)) | refine g_icmp_ge (tgt := 29) (p1 := 13) dX6_firstRight_10 rfl rfl (fun c_10 => by exfalso; first | omega | contradiction | exact absurd (by assumption) c_10 | (simp_all; done)) (fun c_10 => ?_)
      refine g_aload_n (p0 := 14) (i := 0) dX6_firstRight_13 rfl rfl rfl ?_
      refine g_iload_n (p0 := 15) (i := 1) dX6_firstRight_14 rfl rfl rfl ?_
      refine g_cV1R (p0 := 18) (r1 := mX6_isRight) dX6_firstRight_15 lX6_165 vX6_isRight (by first | rfl | assumption | exact RW.s (by assumption) | exact TW.s (by assumption)) ⟨_, _, rfl⟩ (FITi rfl rfl) (Nat.le_of_ble_eq_true rfl) (hr) rfl ?_
      first | ((with_reducible refine isN1 ?_); refine g_ifN_eq (tgt := 23) (p1 := 21) dX6_firstRight_18 rfl (by omega) rfl (fun c_18 => ?_) (fun c_18 => by exfalso; first | omega | contradiction | exact absurd (by assumption) c_18 | (simp_all; done))) | refine g_if_eq (tgt := 23) (p1 := 21) dX6_firstRight_18 rfl rfl (fun c_18 => ?_) (fun c_18 => by exfalso; first | omega | contradiction | exact absurd (by assumption) c_18 | (simp_all; done))
      first | refine g_iinc1 (p0 := 26) (ls2 := [_, _]) dX6_firstRight_23 rfl rfl rfl ?_ | refine g_iinc (p0 := 26) (ls2 := [_, _]) dX6_firstRight_23 rfl rfl rfl rfl ?_
      refine g_goto (tgt := 2) dX6_firstRight_26 rfl ?_
      exact ih (i + 1) (by omega)
set_option maxRecDepth 20000 in
set_option maxHeartbeats 2000000 in
theorem firstR_T {M m : Nat} {R : Nat → Prop} {σ : Sg} (hM : σ 45 7 = nI M) (hM1 : M ≤ 160) (hR : ∀ i, i < M → (R i ∧ CM mX6_isRight [ar 33, ai (nI i)] σ (Ret (nI 1) σ)) ∨ (¬ R i ∧ CM mX6_isRight [ar 33, ai (nI i)] σ (Ret (nI 0) σ))) (hm : m < M) (h1 : R m) (h0 : ∀ i, i < m → ¬ R i) : CM mX6_firstRight [ar 33] σ (Ret (nI m) σ) := by
  refine CM_in (ls := [some (ar 33), none]) rfl ?_
  refine g_iconst (p0 := 1) (v := nI 0) dX6_firstRight_0 rfl rfl ?_
  refine g_istore_n (p0 := 2) (i := 1) (ls2 := [_, _]) dX6_firstRight_1 rfl (Nat.le_of_ble_eq_true rfl) rfl rfl ?_
  exact firstR_Tl hM hM1 hR hm h1 h0 ⟨rfl, rfl⟩ m 0 (by omega)
set_option maxRecDepth 20000 in
set_option maxHeartbeats 2000000 in
theorem firstR_F {M : Nat} {R : Nat → Prop} {σ : Sg} (hM : σ 45 7 = nI M) (hM1 : M ≤ 160) (hR : ∀ i, i < M → (R i ∧ CM mX6_isRight [ar 33, ai (nI i)] σ (Ret (nI 1) σ)) ∨ (¬ R i ∧ CM mX6_isRight [ar 33, ai (nI i)] σ (Ret (nI 0) σ))) (h0 : ∀ i, i < M → ¬ R i) : CM mX6_firstRight [ar 33] σ (Ret (-1) σ) := by
  refine CM_in (ls := [some (ar 33), none]) rfl ?_
  refine g_iconst (p0 := 1) (v := nI 0) dX6_firstRight_0 rfl rfl ?_
  refine g_istore_n (p0 := 2) (i := 1) (ls2 := [_, _]) dX6_firstRight_1 rfl (Nat.le_of_ble_eq_true rfl) rfl rfl ?_
  exact firstR_Fl hM hM1 hR h0 ⟨rfl, rfl⟩ M 0 (by omega)
theorem search_r2 {σ : Sg} {s M L : Nat} {c fs f n p d g a b : Nat → Nat} {σ1 : Sg} {m : Nat} {w : Int32} (hC : CLS σ s M L c fs f n p d g a b) (hm : m < M) (e : ∀ z, z ≠ 72 → σ1 z = σ z) : CM mX1_search [ar 72, ar 33, ai (nI m), ai w] σ1 (RelV (fun σ2 => CS σ σ2 (FIQ (σ 42) (σ 44) g a b (f m) (n m)) (cdq (σ 44) g a b (f m)) (4 * n m) w)) := by
  have h := search_r (w := w) (hC.of (fun z hz => e z (by omega))) hm
  rw [e 42 (by decide), e 44 (by decide)] at h
  refine CM.mono h ?_
  rintro w σ2 ⟨rfl, h1, h2⟩
  exact ⟨rfl, fun z hz => (h1 z hz).trans (e z hz), h2⟩
set_option maxRecDepth 20000 in
set_option maxHeartbeats 2000000 in
theorem firstC_Tl {σ : Sg} {s M L : Nat} {c fs f n p d g a b : Nat → Nat} {m : Nat} {Q : SP} (hC : CLS σ s M L c fs f n p d g a b) (hm : m < M) (h1 : cnF (FIQ (σ 42) (σ 44) g a b (f m) (n m)) (4 * n m) = 1) (h0 : ∀ i, i < m → ¬ cnF (FIQ (σ 42) (σ 44) g a b (f i) (n i)) (4 * n i) = 1) (k : ∀ σ1, CS σ σ1 (FIQ (σ 42) (σ 44) g a b (f m) (n m)) (cdq (σ 44) g a b (f m)) (4 * n m) (nI 0) → Q (some (ai (nI m))) σ1) : ∀ q i, i + q = m → ∀ σ1, (∀ z, z ≠ 72 → σ1 z = σ z) → WM mX1_firstClear Q 2 [some (ar 72), some (ar 33), some (ai (nI i))] [] σ1 := by
  intro q
  induction q with
  | zero =>
    intro i hi σ1 e
    obtain rfl : i = m := by omega
    have hsr := search_r2 (w := nI 0) hC (show i < M by omega) e
    have e45 : σ1 45 7 = nI M := by rw [e 45 (by decide)]; exact hC.1.1
    have hk := hC.1.2.2.2
    have hb := cnF_le (F := (FIQ (σ 42) (σ 44) g a b (f i) (n i))) (4 * n i)
    have hnn := (hC.2.1 i (by omega)).1
    refine g_iload_n (p0 := 3) (i := 2) dX1_firstClear_2 rfl rfl rfl ?_
    refine g_aload_n (p0 := 4) (i := 1) dX1_firstClear_3 rfl rfl rfl ?_
    refine g_getR (p0 := 7) dX1_firstClear_4 fX1_31 (by first | rfl | assumption | exact RW.s (by assumption) | exact TW.s (by assumption)) rfl rfl ?_
    refine g_getI (p0 := 10) dX1_firstClear_7 fX1_37 (by first | rfl | assumption | exact RW.s (by assumption) | exact TW.s (by assumption)) rfl (by first | assumption | ((repeat (first | exact up_hit | refine up_nv (by decide) ?_ | refine up_mv (by first | decide | omega) ?_)) <;> first | assumption | rfl)) rfl ?_
    first | ((with_reducible refine isN2 ?_); refine g_icmpN_ge (tgt := 36) (p1 := 13) dX1_firstClear_10 rfl (by omega) (by omega) rfl (fun c_10 => by exfalso; first | omega | contradiction | exact absurd (by assumption) c_10 | (simp_all; done)) (fun c_10 => ?_)) | refine g_icmp_ge (tgt := 36) (p1 := 13) dX1_firstClear_10 rfl rfl (fun c_10 => by exfalso; first | omega | contradiction | exact absurd (by assumption) c_10 | (simp_all; done)) (fun c_10 => ?_)
    refine g_aload_n (p0 := 14) (i := 0) dX1_firstClear_13 rfl rfl rfl ?_
    refine g_aload_n (p0 := 15) (i := 1) dX1_firstClear_14 rfl rfl rfl ?_
    refine g_iload_n (p0 := 16) (i := 2) dX1_firstClear_15 rfl rfl rfl ?_
    refine g_iconst (p0 := 17) (v := nI 0) dX1_firstClear_16 rfl rfl ?_
    refine g_cV3P (p0 := 20) (r1 := mX1_search) dX1_firstClear_17 lX1_27 vX1_search (by first | rfl | assumption | exact RW.s (by assumption) | exact TW.s (by assumption)) ⟨_, _, rfl⟩ (FITi rfl rfl) (Nat.le_of_ble_eq_true rfl) (hsr) rfl ?_
    rintro σ2 hS
    have hv := hS.2.1
    rw [h1] at hv
    refine g_aload_n (p0 := 21) (i := 0) dX1_firstClear_20 rfl rfl rfl ?_
    refine g_getI (p0 := 24) dX1_firstClear_21 fX1_24 (by first | rfl | assumption | exact RW.s (by assumption) | exact TW.s (by assumption)) rfl (by first | assumption | ((repeat (first | exact up_hit | refine up_nv (by decide) ?_ | refine up_mv (by first | decide | omega) ?_)) <;> first | assumption | rfl)) rfl ?_
    refine g_iconst (p0 := 25) (v := nI 1) dX1_firstClear_24 rfl rfl ?_
    first | ((with_reducible refine isN2 ?_); refine g_icmpN_ne (tgt := 30) (p1 := 28) dX1_firstClear_25 rfl (by omega) (by omega) rfl (fun c_25 => by exfalso; first | omega | contradiction | exact absurd (by assumption) c_25 | (simp_all; done)) (fun c_25 => ?_)) | refine g_icmp_ne (tgt := 30) (p1 := 28) dX1_firstClear_25 rfl rfl (fun c_25 => by exfalso; first | omega | contradiction | exact absurd (by assumption) c_25 | (simp_all; done)) (fun c_25 => ?_)
    refine g_iload_n (p0 := 29) (i := 2) dX1_firstClear_28 rfl rfl rfl ?_
    refine g_ireturn dX1_firstClear_29 rfl rfl (?_)
    exact k _ hS
  | succ q ih =>
    intro i hi σ1 e
    have hn := h0 i (by omega)
    have hsr := search_r2 (w := nI 0) hC (show i < M by omega) e
    have e45 : σ1 45 7 = nI M := by rw [e 45 (by decide)]; exact hC.1.1
    have hk := hC.1.2.2.2
    have hb := cnF_le (F := (FIQ (σ 42) (σ 44) g a b (f i) (n i))) (4 * n i)
    have hnn := (hC.2.1 i (by omega)).1
    refine g_iload_n (p0 := 3) (i := 2) dX1_firstClear_2 rfl rfl rfl ?_
    refine g_aload_n (p0 := 4) (i := 1) dX1_firstClear_3 rfl rfl rfl ?_
    refine g_getR (p0 := 7) dX1_firstClear_4 fX1_31 (by first | rfl | assumption | exact RW.s (by assumption) | exact TW.s (by assumption)) rfl rfl ?_
    refine g_getI (p0 := 10) dX1_firstClear_7 fX1_37 (by first | rfl | assumption | exact RW.s (by assumption) | exact TW.s (by assumption)) rfl (by first | assumption | ((repeat (first | exact up_hit | refine up_nv (by decide) ?_ | refine up_mv (by first | decide | omega) ?_)) <;> first | assumption | rfl)) rfl ?_
    first | ((with_reducible refine isN2 ?_); refine g_icmpN_ge (tgt := 36) (p1 := 13) dX1_firstClear_10 rfl (by omega) (by omega) rfl (fun c_10 => by exfalso; first | omega | contradiction | exact absurd (by assumption) c_10 | (simp_all; done)) (fun c_10 => ?_)) | refine g_icmp_ge (tgt := 36) (p1 := 13) dX1_firstClear_10 rfl rfl (fun c_10 => by exfalso; first | omega | contradiction | exact absurd (by assumption) c_10 | (simp_all; done)) (fun c_10 => ?_)
    refine g_aload_n (p0 := 14) (i := 0) dX1_firstClear_13 rfl rfl rfl ?_
    refine g_aload_n (p0 := 15) (i := 1) dX1_firstClear_14 rfl rfl rfl ?_
    refine g_iload_n (p0 := 16) (i := 2) dX1_firstClear_15 rfl rfl rfl ?_
    refine g_iconst (p0 := 17) (v := nI 0) dX1_firstClear_16 rfl rfl ?_
    refine g_cV3P (p0 := 20) (r1 := mX1_search) dX1_firstClear_17 lX1_27 vX1_search (by first | rfl | assumption | exact RW.s (by assumption) | exact TW.s (by assumption)) ⟨_, _, rfl⟩ (FITi rfl rfl) (Nat.le_of_ble_eq_true rfl) (hsr) rfl ?_
    rintro σ2 hS
    have hv := hS.2.1
    refine g_aload_n (p0 := 21) (i := 0) dX1_firstClear_20 rfl rfl rfl ?_
    refine g_getI (p0 := 24) dX1_firstClear_21 fX1_24 (by first | rfl | assumption | exact RW.s (by assumption) | exact TW.s (by assumption)) rfl (by first | assumption | ((repeat (first | exact up_hit | refine up_nv (by decide) ?_ | refine up_mv (by first | decide | omega) ?_)) <;> first | assumption | rfl)) rfl ?_
    refine g_iconst (p0 := 25) (v := nI 1) dX1_firstClear_24 rfl rfl ?_
    first | ((with_reducible refine isN2 ?_); refine g_icmpN_ne (tgt := 30) (p1 := 28) dX1_firstClear_25 rfl (by omega) (by omega) rfl (fun c_25 => ?_) (fun c_25 => by exfalso; first | omega | contradiction | exact absurd (by assumption) c_25 | (simp_all; done))) | refine g_icmp_ne (tgt := 30) (p1 := 28) dX1_firstClear_25 rfl rfl (fun c_25 => ?_) (fun c_25 => by exfalso; first | omega | contradiction | exact absurd (by assumption) c_25 | (simp_all; done))
    first | refine g_iinc1 (p0 := 33) (ls2 := [_, _, _]) dX1_firstClear_30 rfl rfl rfl ?_ | refine g_iinc (p0 := 33) (ls2 := [_, _, _]) dX1_firstClear_30 rfl rfl rfl rfl ?_
    refine g_goto (tgt := 2) dX1_firstClear_33 rfl ?_
    exact ih (i + 1) (by omega) _ hS.1
set_option maxRecDepth 20000 in
set_option maxHeartbeats 2000000 in
theorem firstC_Fl {σ : Sg} {s M L : Nat} {c fs f n p d g a b : Nat → Nat} {Q : SP} (hC : CLS σ s M L c fs f n p d g a b) (h0 : ∀ i, i < M → ¬ cnF (FIQ (σ 42) (σ 44) g a b (f i) (n i)) (4 * n i) = 1) (k : ∀ σ1, FC σ σ1 → Q (some (ai (-1))) σ1) : ∀ q i, i + q = M → ∀ σ1, (∀ z, z ≠ 72 → σ1 z = σ z) → WM mX1_firstClear Q 2 [some (ar 72), some (ar 33), some (ai (nI i))] [] σ1 := by
  intro q
  induction q with
  | zero =>
    intro i hi σ1 e
    obtain rfl : i = M := by omega
    have e45 : σ1 45 7 = nI i := by rw [e 45 (by decide)]; exact hC.1.1
    have hk := hC.1.2.2.2
    refine g_iload_n (p0 := 3) (i := 2) dX1_firstClear_2 rfl rfl rfl ?_
    refine g_aload_n (p0 := 4) (i := 1) dX1_firstClear_3 rfl rfl rfl ?_
    refine g_getR (p0 := 7) dX1_firstClear_4 fX1_31 (by first | rfl | assumption | exact RW.s (by assumption) | exact TW.s (by assumption)) rfl rfl ?_
    refine g_getI (p0 := 10) dX1_firstClear_7 fX1_37 (by first | rfl | assumption | exact RW.s (by assumption) | exact TW.s (by assumption)) rfl (by first | assumption | ((repeat (first | exact up_hit | refine up_nv (by decide) ?_ | refine up_mv (by first | decide | omega) ?_)) <;> first | assumption | rfl)) rfl ?_
    first | ((with_reducible refine isN2 ?_); refine g_icmpN_ge (tgt := 36) (p1 := 13) dX1_firstClear_10 rfl (by omega) (by omega) rfl (fun c_10 => ?_) (fun c_10 => by exfalso; first | omega | contradiction | exact absurd (by assumption) c_10 | (simp_all; done))) | refine g_icmp_ge (tgt := 36) (p1 := 13) dX1_firstClear_10 rfl rfl (fun c_10 => ?_) (fun c_10 => by exfalso; first | omega | contradiction | exact absurd (by assumption) c_10 | (simp_all; done))
    refine g_iconst (p0 := 37) (v := -1) dX1_firstClear_36 rfl rfl ?_
    refine g_ireturn dX1_firstClear_37 rfl rfl (?_)
    exact k _ (FC_72 e)
  | succ q ih =>
    intro i hi σ1 e
    have hn := h0 i (by omega)
    have hsr := search_r2 (w := nI 0) hC (show i < M by omega) e
    have e45 : σ1 45 7 = nI M := by rw [e 45 (by decide)]; exact hC.1.1
    have hk := hC.1.2.2.2
    have hb := cnF_le (F := (FIQ (σ 42) (σ 44) g a b (f i) (n i))) (4 * n i)
    have hnn := (hC.2.1 i (by omega)).1
    refine g_iload_n (p0 := 3) (i := 2) dX1_firstClear_2 rfl rfl rfl ?_
    refine g_aload_n (p0 := 4) (i := 1) dX1_firstClear_3 rfl rfl rfl ?_
    refine g_getR (p0 := 7) dX1_firstClear_4 fX1_31 (by first | rfl | assumption | exact RW.s (by assumption) | exact TW.s (by assumption)) rfl rfl ?_
    refine g_getI (p0 := 10) dX1_firstClear_7 fX1_37 (by first | rfl | assumption | exact RW.s (by assumption) | exact TW.s (by assumption)) rfl (by first | assumption | ((repeat (first | exact up_hit | refine up_nv (by decide) ?_ | refine up_mv (by first | decide | omega) ?_)) <;> first | assumption | rfl)) rfl ?_
    first | ((with_reducible refine isN2 ?_); refine g_icmpN_ge (tgt := 36) (p1 := 13) dX1_firstClear_10 rfl (by omega) (by omega) rfl (fun c_10 => by exfalso; first | omega | contradiction | exact absurd (by assumption) c_10 | (simp_all; done)) (fun c_10 => ?_)) | refine g_icmp_ge (tgt := 36) (p1 := 13) dX1_firstClear_10 rfl rfl (fun c_10 => by exfalso; first | omega | contradiction | exact absurd (by assumption) c_10 | (simp_all; done)) (fun c_10 => ?_)
    refine g_aload_n (p0 := 14) (i := 0) dX1_firstClear_13 rfl rfl rfl ?_
    refine g_aload_n (p0 := 15) (i := 1) dX1_firstClear_14 rfl rfl rfl ?_
    refine g_iload_n (p0 := 16) (i := 2) dX1_firstClear_15 rfl rfl rfl ?_
    refine g_iconst (p0 := 17) (v := nI 0) dX1_firstClear_16 rfl rfl ?_
    refine g_cV3P (p0 := 20) (r1 := mX1_search) dX1_firstClear_17 lX1_27 vX1_search (by first | rfl | assumption | exact RW.s (by assumption) | exact TW.s (by assumption)) ⟨_, _, rfl⟩ (FITi rfl rfl) (Nat.le_of_ble_eq_true rfl) (hsr) rfl ?_
    rintro σ2 hS
    have hv := hS.2.1
    refine g_aload_n (p0 := 21) (i := 0) dX1_firstClear_20 rfl rfl rfl ?_
    refine g_getI (p0 := 24) dX1_firstClear_21 fX1_24 (by first | rfl | assumption | exact RW.s (by assumption) | exact TW.s (by assumption)) rfl (by first | assumption | ((repeat (first | exact up_hit | refine up_nv (by decide) ?_ | refine up_mv (by first | decide | omega) ?_)) <;> first | assumption | rfl)) rfl ?_
    refine g_iconst (p0 := 25) (v := nI 1) dX1_firstClear_24 rfl rfl ?_
    first | ((with_reducible refine isN2 ?_); refine g_icmpN_ne (tgt := 30) (p1 := 28) dX1_firstClear_25 rfl (by omega) (by omega) rfl (fun c_25 => ?_) (fun c_25 => by exfalso; first | omega | contradiction | exact absurd (by assumption) c_25 | (simp_all; done))) | refine g_icmp_ne (tgt := 30) (p1 := 28) dX1_firstClear_25 rfl rfl (fun c_25 => ?_) (fun c_25 => by exfalso; first | omega | contradiction | exact absurd (by assumption) c_25 | (simp_all; done))
    first | refine g_iinc1 (p0 := 33) (ls2 := [_, _, _]) dX1_firstClear_30 rfl rfl rfl ?_ | refine g_iinc (p0 := 33) (ls2 := [_, _, _]) dX1_firstClear_30 rfl rfl rfl rfl ?_
    refine g_goto (tgt := 2) dX1_firstClear_33 rfl ?_
    exact ih (i + 1) (by omega) _ hS.1
set_option maxRecDepth 20000 in
set_option maxHeartbeats 2000000 in
theorem firstC_T {σ : Sg} {s M L : Nat} {c fs f n p d g a b : Nat → Nat} {m : Nat} (hC : CLS σ s M L c fs f n p d g a b) (hm : m < M) (h1 : cnF (FIQ (σ 42) (σ 44) g a b (f m) (n m)) (4 * n m) = 1) (h0 : ∀ i, i < m → ¬ cnF (FIQ (σ 42) (σ 44) g a b (f i) (n i)) (4 * n i) = 1) : CM mX1_firstClear [ar 72, ar 33] σ (RelI (fun u σ1 => u = nI m ∧ CS σ σ1 (FIQ (σ 42) (σ 44) g a b (f m) (n m)) (cdq (σ 44) g a b (f m)) (4 * n m) (nI 0))) := by
  refine CM_in (ls := [some (ar 72), some (ar 33), none]) rfl ?_
  refine g_iconst (p0 := 1) (v := nI 0) dX1_firstClear_0 rfl rfl ?_
  refine g_istore_n (p0 := 2) (i := 2) (ls2 := [_, _, _]) dX1_firstClear_1 rfl (Nat.le_of_ble_eq_true rfl) rfl rfl ?_
  exact firstC_Tl (Q := RelI (fun u σ1 => u = nI m ∧ CS σ σ1 (FIQ (σ 42) (σ 44) g a b (f m) (n m)) (cdq (σ 44) g a b (f m)) (4 * n m) (nI 0))) hC hm h1 h0 (fun σ1 hS => ⟨_, rfl, rfl, hS⟩) m 0 (by omega) σ (fun _ _ => rfl)
set_option maxRecDepth 20000 in
set_option maxHeartbeats 2000000 in
theorem firstC_F {σ : Sg} {s M L : Nat} {c fs f n p d g a b : Nat → Nat} (hC : CLS σ s M L c fs f n p d g a b) (h0 : ∀ i, i < M → ¬ cnF (FIQ (σ 42) (σ 44) g a b (f i) (n i)) (4 * n i) = 1) : CM mX1_firstClear [ar 72, ar 33] σ (RelI (fun u σ1 => u = -1 ∧ FC σ σ1)) := by
  refine CM_in (ls := [some (ar 72), some (ar 33), none]) rfl ?_
  refine g_iconst (p0 := 1) (v := nI 0) dX1_firstClear_0 rfl rfl ?_
  refine g_istore_n (p0 := 2) (i := 2) (ls2 := [_, _, _]) dX1_firstClear_1 rfl (Nat.le_of_ble_eq_true rfl) rfl rfl ?_
  exact firstC_Fl (Q := RelI (fun u σ1 => u = -1 ∧ FC σ σ1)) hC h0 (fun σ1 hS => ⟨_, rfl, rfl, hS⟩) M 0 (by omega) σ (fun _ _ => rfl)
set_option maxRecDepth 20000 in
set_option maxHeartbeats 2000000 in
theorem rightL_F {m j n : Nat} {σ : Sg} (hm : m < 160) (hj : j < 2147483648) (hn : n ≤ 160) (hl : σ 51 m = nI n) (h : n ≤ j) : CM mX9_rightLetter [ar 0, ai (nI m), ai (nI j)] σ (Ret (-1000004) σ) := by
  refine CM_in (ls := [some (ar 0), some (ai (nI m)), some (ai (nI j))]) rfl ?_
  refine g_iload_n (p0 := 1) (i := 2) dX9_rightLetter_0 rfl rfl rfl ?_
  refine g_aload_n (p0 := 2) (i := 0) dX9_rightLetter_1 rfl rfl rfl ?_
  refine g_getR (p0 := 5) dX9_rightLetter_2 fX9_29 (by first | rfl | assumption | exact RW.s (by assumption) | exact TW.s (by assumption)) rfl rfl ?_
  refine g_iload_n (p0 := 6) (i := 1) dX9_rightLetter_5 rfl rfl rfl ?_
  refine g_cV1R (p0 := 9) (r1 := mX6_lengthOf) dX9_rightLetter_6 lX9_136 vX6_lengthOf (by first | rfl | assumption | exact RW.s (by assumption) | exact TW.s (by assumption)) ⟨_, _, rfl⟩ (FITi rfl rfl) (Nat.le_of_ble_eq_true rfl) (lengthOf_sp hm hl) rfl ?_
  first | ((with_reducible refine isN2 ?_); refine g_icmpN_ge (tgt := 24) (p1 := 12) dX9_rightLetter_9 rfl (by omega) (by omega) rfl (fun c_9 => ?_) (fun c_9 => by exfalso; first | omega | contradiction | exact absurd (by assumption) c_9 | (simp_all; done))) | refine g_icmp_ge (tgt := 24) (p1 := 12) dX9_rightLetter_9 rfl rfl (fun c_9 => ?_) (fun c_9 => by exfalso; first | omega | contradiction | exact absurd (by assumption) c_9 | (simp_all; done))
  refine g_ldc (p0 := 26) dX9_rightLetter_24 qX9_122 rfl ?_
  refine g_ireturn dX9_rightLetter_26 rfl rfl (?_)
  exact ⟨rfl, rfl⟩
set_option maxRecDepth 20000 in
set_option maxHeartbeats 2000000 in
theorem rightL_T {v : Int32} {m j f n : Nat} {σ : Sg} (hm : m < 160) (hj : j < 2147483648) (hn : n ≤ 160) (hl : σ 51 m = nI n) (h : j < n) (hf : σ 49 m = nI f) (hfn : f + n ≤ 160) (hv : σ 42 (f + j) = v) : CM mX9_rightLetter [ar 0, ai (nI m), ai (nI j)] σ (Ret v σ) := by
  refine CM_in (ls := [some (ar 0), some (ai (nI m)), some (ai (nI j))]) rfl ?_
  refine g_iload_n (p0 := 1) (i := 2) dX9_rightLetter_0 rfl rfl rfl ?_
  refine g_aload_n (p0 := 2) (i := 0) dX9_rightLetter_1 rfl rfl rfl ?_
  refine g_getR (p0 := 5) dX9_rightLetter_2 fX9_29 (by first | rfl | assumption | exact RW.s (by assumption) | exact TW.s (by assumption)) rfl rfl ?_
  refine g_iload_n (p0 := 6) (i := 1) dX9_rightLetter_5 rfl rfl rfl ?_
  refine g_cV1R (p0 := 9) (r1 := mX6_lengthOf) dX9_rightLetter_6 lX9_136 vX6_lengthOf (by first | rfl | assumption | exact RW.s (by assumption) | exact TW.s (by assumption)) ⟨_, _, rfl⟩ (FITi rfl rfl) (Nat.le_of_ble_eq_true rfl) (lengthOf_sp hm hl) rfl ?_
  first | ((with_reducible refine isN2 ?_); refine g_icmpN_ge (tgt := 24) (p1 := 12) dX9_rightLetter_9 rfl (by omega) (by omega) rfl (fun c_9 => by exfalso; first | omega | contradiction | exact absurd (by assumption) c_9 | (simp_all; done)) (fun c_9 => ?_)) | refine g_icmp_ge (tgt := 24) (p1 := 12) dX9_rightLetter_9 rfl rfl (fun c_9 => by exfalso; first | omega | contradiction | exact absurd (by assumption) c_9 | (simp_all; done)) (fun c_9 => ?_)
  refine g_aload_n (p0 := 13) (i := 0) dX9_rightLetter_12 rfl rfl rfl ?_
  refine g_getR (p0 := 16) dX9_rightLetter_13 fX9_29 (by first | rfl | assumption | exact RW.s (by assumption) | exact TW.s (by assumption)) rfl rfl ?_
  refine g_iload_n (p0 := 17) (i := 1) dX9_rightLetter_16 rfl rfl rfl ?_
  refine g_iload_n (p0 := 18) (i := 2) dX9_rightLetter_17 rfl rfl rfl ?_
  refine g_cV2R (p0 := 21) (r1 := mX6_letterIn) dX9_rightLetter_18 lX9_281 vX6_letterIn (by first | rfl | assumption | exact RW.s (by assumption) | exact TW.s (by assumption)) ⟨_, _, rfl⟩ (FITi rfl rfl) (Nat.le_of_ble_eq_true rfl) (letterIn_sp hm hf (by omega) hv) rfl ?_
  refine g_goto (tgt := 26) dX9_rightLetter_21 rfl ?_
  refine g_ireturn dX9_rightLetter_26 rfl rfl (?_)
  exact ⟨rfl, rfl⟩
set_option maxRecDepth 20000 in
set_option maxHeartbeats 2000000 in
theorem corrL_T {m j : Nat} {v : Int32} {σ : Sg} (hj : j < 2147483648) (hp : σ 72 0 = nI j) (hv : σ 72 3 = v) : CM mX9_correctedLetter [ar 0, ai (nI m), ai (nI j)] σ (Ret v σ) := by
  refine CM_in (ls := [some (ar 0), some (ai (nI m)), some (ai (nI j))]) rfl ?_
  refine g_iload_n (p0 := 1) (i := 2) dX9_correctedLetter_0 rfl rfl rfl ?_
  refine g_aload_n (p0 := 2) (i := 0) dX9_correctedLetter_1 rfl rfl rfl ?_
  refine g_getR (p0 := 5) dX9_correctedLetter_2 fX9_36 (by first | rfl | assumption | exact RW.s (by assumption) | exact TW.s (by assumption)) rfl rfl ?_
  refine g_getI (p0 := 8) dX9_correctedLetter_5 fX9_195 (by first | rfl | assumption | exact RW.s (by assumption) | exact TW.s (by assumption)) rfl (by first | assumption | ((repeat (first | exact up_hit | refine up_nv (by decide) ?_ | refine up_mv (by first | decide | omega) ?_)) <;> first | assumption | rfl)) rfl ?_
  first | ((with_reducible refine isN2 ?_); refine g_icmpN_ne (tgt := 21) (p1 := 11) dX9_correctedLetter_8 rfl (by omega) (by omega) rfl (fun c_8 => by exfalso; first | omega | contradiction | exact absurd (by assumption) c_8 | (simp_all; done)) (fun c_8 => ?_)) | refine g_icmp_ne (tgt := 21) (p1 := 11) dX9_correctedLetter_8 rfl rfl (fun c_8 => by exfalso; first | omega | contradiction | exact absurd (by assumption) c_8 | (simp_all; done)) (fun c_8 => ?_)
  refine g_aload_n (p0 := 12) (i := 0) dX9_correctedLetter_11 rfl rfl rfl ?_
  refine g_getR (p0 := 15) dX9_correctedLetter_12 fX9_36 (by first | rfl | assumption | exact RW.s (by assumption) | exact TW.s (by assumption)) rfl rfl ?_
  refine g_getI (p0 := 18) dX9_correctedLetter_15 fX9_204 (by first | rfl | assumption | exact RW.s (by assumption) | exact TW.s (by assumption)) rfl (by first | assumption | ((repeat (first | exact up_hit | refine up_nv (by decide) ?_ | refine up_mv (by first | decide | omega) ?_)) <;> first | assumption | rfl)) rfl ?_
  refine g_goto (tgt := 27) dX9_correctedLetter_18 rfl ?_
  refine g_ireturn dX9_correctedLetter_27 rfl rfl (?_)
  exact ⟨rfl, rfl⟩
set_option maxRecDepth 20000 in
set_option maxHeartbeats 2000000 in
theorem corrL_F {m j t : Nat} {v : Int32} {σ : Sg} (hj : j < 2147483648) (ht : t < 160) (hp : σ 72 0 = nI t) (h : ¬ j = t) (hv : CM mX9_rightLetter [ar 0, ai (nI m), ai (nI j)] σ (Ret v σ)) : CM mX9_correctedLetter [ar 0, ai (nI m), ai (nI j)] σ (Ret v σ) := by
  refine CM_in (ls := [some (ar 0), some (ai (nI m)), some (ai (nI j))]) rfl ?_
  refine g_iload_n (p0 := 1) (i := 2) dX9_correctedLetter_0 rfl rfl rfl ?_
  refine g_aload_n (p0 := 2) (i := 0) dX9_correctedLetter_1 rfl rfl rfl ?_
  refine g_getR (p0 := 5) dX9_correctedLetter_2 fX9_36 (by first | rfl | assumption | exact RW.s (by assumption) | exact TW.s (by assumption)) rfl rfl ?_
  refine g_getI (p0 := 8) dX9_correctedLetter_5 fX9_195 (by first | rfl | assumption | exact RW.s (by assumption) | exact TW.s (by assumption)) rfl (by first | assumption | ((repeat (first | exact up_hit | refine up_nv (by decide) ?_ | refine up_mv (by first | decide | omega) ?_)) <;> first | assumption | rfl)) rfl ?_
  first | ((with_reducible refine isN2 ?_); refine g_icmpN_ne (tgt := 21) (p1 := 11) dX9_correctedLetter_8 rfl (by omega) (by omega) rfl (fun c_8 => ?_) (fun c_8 => by exfalso; first | omega | contradiction | exact absurd (by assumption) c_8 | (simp_all; done))) | refine g_icmp_ne (tgt := 21) (p1 := 11) dX9_correctedLetter_8 rfl rfl (fun c_8 => ?_) (fun c_8 => by exfalso; first | omega | contradiction | exact absurd (by assumption) c_8 | (simp_all; done))
  refine g_aload_n (p0 := 22) (i := 0) dX9_correctedLetter_21 rfl rfl rfl ?_
  refine g_iload_n (p0 := 23) (i := 1) dX9_correctedLetter_22 rfl rfl rfl ?_
  refine g_iload_n (p0 := 24) (i := 2) dX9_correctedLetter_23 rfl rfl rfl ?_
  refine g_cV2R (p0 := 27) (r1 := mX9_rightLetter) dX9_correctedLetter_24 lX9_223 vX9_rightLetter (by first | rfl | assumption | exact RW.s (by assumption) | exact TW.s (by assumption)) ⟨_, _, rfl⟩ (FITi rfl rfl) (Nat.le_of_ble_eq_true rfl) (hv) rfl ?_
  refine g_ireturn dX9_correctedLetter_27 rfl rfl (?_)
  exact ⟨rfl, rfl⟩
set_option maxRecDepth 20000 in
set_option maxHeartbeats 2000000 in
theorem votedL_Tl {σ : Sg} {s M L : Nat} {c fs f n p d g a b : Nat → Nat} {j : Nat} {Q : SP} (hC : CLS σ s M L c fs f n p d g a b) (hr : ∀ l, l < L → σ 42 l = -1 ∨ ∃ x, x < 25 ∧ σ 42 l = nI x) (hj : j < 160) (hW : ∀ i, i ≤ j → ¬ moF (fun k => vc (σ 42) f n i k M) 25 = 0) (k : ∀ σ1, FC σ σ1 → Q (some (ai (nI (wiF (fun k => vc (σ 42) f n j k M) 25)))) σ1) : ∀ q i, i + q = j + 1 → ∀ σ1, FC σ σ1 → (0 < i → σ1 73 1 = nI (wiF (fun k => vc (σ 42) f n (i - 1) k M) 25)) → WM mX9_votedLetter Q 19 [some (ar 0), some (ai (nI j)), some (ai (nI i))] [] σ1 := by
  intro q
  induction q with
  | zero =>
    intro i hi σ1 e hw
    obtain rfl : i = j + 1 := by omega
    have hw := hw (by omega)
    rw [Nat.add_sub_cancel] at hw
    refine g_iload_n (p0 := 20) (i := 2) dX9_votedLetter_19 rfl rfl rfl ?_
    refine g_iload_n (p0 := 21) (i := 1) dX9_votedLetter_20 rfl rfl rfl ?_
    first | ((with_reducible refine isN2 ?_); refine g_icmpN_gt (tgt := 56) (p1 := 24) dX9_votedLetter_21 rfl (by omega) (by omega) rfl (fun c_21 => ?_) (fun c_21 => by exfalso; first | omega | contradiction | exact absurd (by assumption) c_21 | (simp_all; done))) | refine g_icmp_gt (tgt := 56) (p1 := 24) dX9_votedLetter_21 rfl rfl (fun c_21 => ?_) (fun c_21 => by exfalso; first | omega | contradiction | exact absurd (by assumption) c_21 | (simp_all; done))
    refine g_aload_n (p0 := 57) (i := 0) dX9_votedLetter_56 rfl rfl rfl ?_
    refine g_getR (p0 := 60) dX9_votedLetter_57 fX9_43 (by first | rfl | assumption | exact RW.s (by assumption) | exact TW.s (by assumption)) rfl rfl ?_
    refine g_getI (p0 := 63) dX9_votedLetter_60 fX9_211 (by first | rfl | assumption | exact RW.s (by assumption) | exact TW.s (by assumption)) rfl (by first | assumption | ((repeat (first | exact up_hit | refine up_nv (by decide) ?_ | refine up_mv (by first | decide | omega) ?_)) <;> first | assumption | rfl)) rfl ?_
    refine g_ireturn dX9_votedLetter_63 rfl rfl (?_)
    exact k _ e
  | succ q ih =>
    intro i hi σ1 e hw
    have hw0 : wv (-1) (fun k => vc (σ 42) f n i k M) 25 = nI (wiF (fun k => vc (σ 42) f n i k M) 25) := by rw [wv, if_neg (hW i (by omega))]
    have hw1 := wiF_lt (c := (fun k => vc (σ 42) f n i k M)) 25 (by decide)
    refine g_iload_n (p0 := 20) (i := 2) dX9_votedLetter_19 rfl rfl rfl ?_
    refine g_iload_n (p0 := 21) (i := 1) dX9_votedLetter_20 rfl rfl rfl ?_
    first | ((with_reducible refine isN2 ?_); refine g_icmpN_gt (tgt := 56) (p1 := 24) dX9_votedLetter_21 rfl (by omega) (by omega) rfl (fun c_21 => by exfalso; first | omega | contradiction | exact absurd h c_21 | exact h c_21 | exact c_21 h | exact c_21 (by decide) | exact nI_ne_m1b (by omega) c_21 | exact c_21 rfl | exact absurd c_21 (by decide)) (fun c_21 => ?_)) | refine g_icmp_gt (tgt := 56) (p1 := 24) dX9_votedLetter_21 rfl rfl (fun c_21 => by exfalso; first | omega | contradiction | exact absurd h c_21 | exact h c_21 | exact c_21 h | exact c_21 (by decide) | exact nI_ne_m1b (by omega) c_21 | exact c_21 rfl | exact absurd c_21 (by decide)) (fun c_21 => ?_)
    refine g_aload_n (p0 := 25) (i := 0) dX9_votedLetter_24 rfl rfl rfl ?_
    refine g_getR (p0 := 28) dX9_votedLetter_25 fX9_43 (by first | rfl | assumption | exact RW.s (by assumption) | exact TW.s (by assumption)) rfl rfl ?_
    refine g_aload_n (p0 := 29) (i := 0) dX9_votedLetter_28 rfl rfl rfl ?_
    refine g_getR (p0 := 32) dX9_votedLetter_29 fX9_29 (by first | rfl | assumption | exact RW.s (by assumption) | exact TW.s (by assumption)) rfl rfl ?_
    refine g_iload_n (p0 := 33) (i := 2) dX9_votedLetter_32 rfl rfl rfl ?_
    refine g_cV2P (p0 := 36) (r1 := mX0_poll) dX9_votedLetter_33 lX9_207 vX0_poll (by first | rfl | assumption | exact RW.s (by assumption) | exact TW.s (by assumption)) ⟨_, _, rfl⟩ (FITi rfl rfl) (Nat.le_of_ble_eq_true rfl) (poll_r2 e hC hr (by omega)) rfl ?_
    rintro σ2 ⟨e, hv, _⟩
    rw [hw0] at hv
    refine g_aload_n (p0 := 37) (i := 0) dX9_votedLetter_36 rfl rfl rfl ?_
    refine g_getR (p0 := 40) dX9_votedLetter_37 fX9_43 (by first | rfl | assumption | exact RW.s (by assumption) | exact TW.s (by assumption)) rfl rfl ?_
    refine g_getI (p0 := 43) dX9_votedLetter_40 fX9_211 (by first | rfl | assumption | exact RW.s (by assumption) | exact TW.s (by assumption)) rfl (by first | assumption | ((repeat (first | exact up_hit | refine up_nv (by decide) ?_ | refine up_mv (by first | decide | omega) ?_)) <;> first | assumption | rfl)) rfl ?_
    refine g_iconst (p0 := 44) (v := -1) dX9_votedLetter_43 rfl rfl ?_
    first | ((with_reducible refine isN2 ?_); refine g_icmpN_ne (tgt := 50) (p1 := 47) dX9_votedLetter_44 rfl (by omega) (by omega) rfl (fun c_44 => ?_) (fun c_44 => by exfalso; first | omega | contradiction | exact absurd h c_44 | exact h c_44 | exact c_44 h | exact c_44 (by decide) | exact nI_ne_m1b (by omega) c_44 | exact c_44 rfl | exact absurd c_44 (by decide))) | refine g_icmp_ne (tgt := 50) (p1 := 47) dX9_votedLetter_44 rfl rfl (fun c_44 => ?_) (fun c_44 => by exfalso; first | omega | contradiction | exact absurd h c_44 | exact h c_44 | exact c_44 h | exact c_44 (by decide) | exact nI_ne_m1b (by omega) c_44 | exact c_44 rfl | exact absurd c_44 (by decide))
    first | refine g_iinc1 (p0 := 53) (ls2 := [_, _, _]) dX9_votedLetter_50 rfl rfl rfl ?_ | refine g_iinc (p0 := 53) (ls2 := [_, _, _]) dX9_votedLetter_50 rfl rfl rfl rfl ?_
    refine g_goto (tgt := 19) dX9_votedLetter_53 rfl ?_
    exact ih (i + 1) (by omega) _ e (fun _ => by rw [Nat.add_sub_cancel]; exact hv)
set_option maxRecDepth 20000 in
set_option maxHeartbeats 2000000 in
theorem votedL_Fl {σ : Sg} {s M L : Nat} {c fs f n p d g a b : Nat → Nat} {j i0 : Nat} {Q : SP} (hC : CLS σ s M L c fs f n p d g a b) (hr : ∀ l, l < L → σ 42 l = -1 ∨ ∃ x, x < 25 ∧ σ 42 l = nI x) (hj : j < 2147483648) (hi0 : i0 ≤ j) (h0 : moF (fun k => vc (σ 42) f n i0 k M) 25 = 0) (hW : ∀ i, i < i0 → ¬ moF (fun k => vc (σ 42) f n i k M) 25 = 0) (k : ∀ σ1, FC σ σ1 → Q (some (ai (-1000004))) σ1) : ∀ q i, i + q = i0 → ∀ σ1, FC σ σ1 → WM mX9_votedLetter Q 19 [some (ar 0), some (ai (nI j)), some (ai (nI i))] [] σ1 := by
  intro q
  induction q with
  | zero =>
    intro i hi σ1 e
    obtain rfl : i = i0 := by omega
    have hw0 : wv (-1) (fun k => vc (σ 42) f n i k M) 25 = -1 := by rw [wv, if_pos h0]
    refine g_iload_n (p0 := 20) (i := 2) dX9_votedLetter_19 rfl rfl rfl ?_
    refine g_iload_n (p0 := 21) (i := 1) dX9_votedLetter_20 rfl rfl rfl ?_
    first | ((with_reducible refine isN2 ?_); refine g_icmpN_gt (tgt := 56) (p1 := 24) dX9_votedLetter_21 rfl (by omega) (by omega) rfl (fun c_21 => by exfalso; first | omega | contradiction | exact absurd h c_21 | exact h c_21 | exact c_21 h | exact c_21 (by decide) | exact nI_ne_m1b (by omega) c_21 | exact c_21 rfl | exact absurd c_21 (by decide)) (fun c_21 => ?_)) | refine g_icmp_gt (tgt := 56) (p1 := 24) dX9_votedLetter_21 rfl rfl (fun c_21 => by exfalso; first | omega | contradiction | exact absurd h c_21 | exact h c_21 | exact c_21 h | exact c_21 (by decide) | exact nI_ne_m1b (by omega) c_21 | exact c_21 rfl | exact absurd c_21 (by decide)) (fun c_21 => ?_)
    refine g_aload_n (p0 := 25) (i := 0) dX9_votedLetter_24 rfl rfl rfl ?_
    refine g_getR (p0 := 28) dX9_votedLetter_25 fX9_43 (by first | rfl | assumption | exact RW.s (by assumption) | exact TW.s (by assumption)) rfl rfl ?_
    refine g_aload_n (p0 := 29) (i := 0) dX9_votedLetter_28 rfl rfl rfl ?_
    refine g_getR (p0 := 32) dX9_votedLetter_29 fX9_29 (by first | rfl | assumption | exact RW.s (by assumption) | exact TW.s (by assumption)) rfl rfl ?_
    refine g_iload_n (p0 := 33) (i := 2) dX9_votedLetter_32 rfl rfl rfl ?_
    refine g_cV2P (p0 := 36) (r1 := mX0_poll) dX9_votedLetter_33 lX9_207 vX0_poll (by first | rfl | assumption | exact RW.s (by assumption) | exact TW.s (by assumption)) ⟨_, _, rfl⟩ (FITi rfl rfl) (Nat.le_of_ble_eq_true rfl) (poll_r2 e hC hr (by omega)) rfl ?_
    rintro σ2 ⟨e, hv, _⟩
    rw [hw0] at hv
    refine g_aload_n (p0 := 37) (i := 0) dX9_votedLetter_36 rfl rfl rfl ?_
    refine g_getR (p0 := 40) dX9_votedLetter_37 fX9_43 (by first | rfl | assumption | exact RW.s (by assumption) | exact TW.s (by assumption)) rfl rfl ?_
    refine g_getI (p0 := 43) dX9_votedLetter_40 fX9_211 (by first | rfl | assumption | exact RW.s (by assumption) | exact TW.s (by assumption)) rfl (by first | assumption | ((repeat (first | exact up_hit | refine up_nv (by decide) ?_ | refine up_mv (by first | decide | omega) ?_)) <;> first | assumption | rfl)) rfl ?_
    refine g_iconst (p0 := 44) (v := -1) dX9_votedLetter_43 rfl rfl ?_
    first | ((with_reducible refine isN2 ?_); refine g_icmpN_ne (tgt := 50) (p1 := 47) dX9_votedLetter_44 rfl (by omega) (by omega) rfl (fun c_44 => by exfalso; first | omega | contradiction | exact absurd h c_44 | exact h c_44 | exact c_44 h | exact c_44 (by decide) | exact nI_ne_m1b (by omega) c_44 | exact c_44 rfl | exact absurd c_44 (by decide)) (fun c_44 => ?_)) | refine g_icmp_ne (tgt := 50) (p1 := 47) dX9_votedLetter_44 rfl rfl (fun c_44 => by exfalso; first | omega | contradiction | exact absurd h c_44 | exact h c_44 | exact c_44 h | exact c_44 (by decide) | exact nI_ne_m1b (by omega) c_44 | exact c_44 rfl | exact absurd c_44 (by decide)) (fun c_44 => ?_)
    refine g_ldc (p0 := 49) dX9_votedLetter_47 qX9_122 rfl ?_
    refine g_ireturn dX9_votedLetter_49 rfl rfl (?_)
    exact k _ e
  | succ q ih =>
    intro i hi σ1 e
    have hw0 : wv (-1) (fun k => vc (σ 42) f n i k M) 25 = nI (wiF (fun k => vc (σ 42) f n i k M) 25) := by rw [wv, if_neg (hW i (by omega))]
    have hw1 := wiF_lt (c := (fun k => vc (σ 42) f n i k M)) 25 (by decide)
    refine g_iload_n (p0 := 20) (i := 2) dX9_votedLetter_19 rfl rfl rfl ?_
    refine g_iload_n (p0 := 21) (i := 1) dX9_votedLetter_20 rfl rfl rfl ?_
    first | ((with_reducible refine isN2 ?_); refine g_icmpN_gt (tgt := 56) (p1 := 24) dX9_votedLetter_21 rfl (by omega) (by omega) rfl (fun c_21 => by exfalso; first | omega | contradiction | exact absurd h c_21 | exact h c_21 | exact c_21 h | exact c_21 (by decide) | exact nI_ne_m1b (by omega) c_21 | exact c_21 rfl | exact absurd c_21 (by decide)) (fun c_21 => ?_)) | refine g_icmp_gt (tgt := 56) (p1 := 24) dX9_votedLetter_21 rfl rfl (fun c_21 => by exfalso; first | omega | contradiction | exact absurd h c_21 | exact h c_21 | exact c_21 h | exact c_21 (by decide) | exact nI_ne_m1b (by omega) c_21 | exact c_21 rfl | exact absurd c_21 (by decide)) (fun c_21 => ?_)
    refine g_aload_n (p0 := 25) (i := 0) dX9_votedLetter_24 rfl rfl rfl ?_
    refine g_getR (p0 := 28) dX9_votedLetter_25 fX9_43 (by first | rfl | assumption | exact RW.s (by assumption) | exact TW.s (by assumption)) rfl rfl ?_
    refine g_aload_n (p0 := 29) (i := 0) dX9_votedLetter_28 rfl rfl rfl ?_
    refine g_getR (p0 := 32) dX9_votedLetter_29 fX9_29 (by first | rfl | assumption | exact RW.s (by assumption) | exact TW.s (by assumption)) rfl rfl ?_
    refine g_iload_n (p0 := 33) (i := 2) dX9_votedLetter_32 rfl rfl rfl ?_
    refine g_cV2P (p0 := 36) (r1 := mX0_poll) dX9_votedLetter_33 lX9_207 vX0_poll (by first | rfl | assumption | exact RW.s (by assumption) | exact TW.s (by assumption)) ⟨_, _, rfl⟩ (FITi rfl rfl) (Nat.le_of_ble_eq_true rfl) (poll_r2 e hC hr (by omega)) rfl ?_
    rintro σ2 ⟨e, hv, _⟩
    rw [hw0] at hv
    refine g_aload_n (p0 := 37) (i := 0) dX9_votedLetter_36 rfl rfl rfl ?_
    refine g_getR (p0 := 40) dX9_votedLetter_37 fX9_43 (by first | rfl | assumption | exact RW.s (by assumption) | exact TW.s (by assumption)) rfl rfl ?_
    refine g_getI (p0 := 43) dX9_votedLetter_40 fX9_211 (by first | rfl | assumption | exact RW.s (by assumption) | exact TW.s (by assumption)) rfl (by first | assumption | ((repeat (first | exact up_hit | refine up_nv (by decide) ?_ | refine up_mv (by first | decide | omega) ?_)) <;> first | assumption | rfl)) rfl ?_
    refine g_iconst (p0 := 44) (v := -1) dX9_votedLetter_43 rfl rfl ?_
    first | ((with_reducible refine isN2 ?_); refine g_icmpN_ne (tgt := 50) (p1 := 47) dX9_votedLetter_44 rfl (by omega) (by omega) rfl (fun c_44 => ?_) (fun c_44 => by exfalso; first | omega | contradiction | exact absurd h c_44 | exact h c_44 | exact c_44 h | exact c_44 (by decide) | exact nI_ne_m1b (by omega) c_44 | exact c_44 rfl | exact absurd c_44 (by decide))) | refine g_icmp_ne (tgt := 50) (p1 := 47) dX9_votedLetter_44 rfl rfl (fun c_44 => ?_) (fun c_44 => by exfalso; first | omega | contradiction | exact absurd h c_44 | exact h c_44 | exact c_44 h | exact c_44 (by decide) | exact nI_ne_m1b (by omega) c_44 | exact c_44 rfl | exact absurd c_44 (by decide))
    first | refine g_iinc1 (p0 := 53) (ls2 := [_, _, _]) dX9_votedLetter_50 rfl rfl rfl ?_ | refine g_iinc (p0 := 53) (ls2 := [_, _, _]) dX9_votedLetter_50 rfl rfl rfl rfl ?_
    refine g_goto (tgt := 19) dX9_votedLetter_53 rfl ?_
    exact ih (i + 1) (by omega) _ e
set_option maxRecDepth 20000 in
set_option maxHeartbeats 2000000 in
theorem votedL_B {σ : Sg} {s M L : Nat} {c fs f n p d g a b : Nat → Nat} {j : Nat} (hC : CLS σ s M L c fs f n p d g a b) (hj : j < 2147483648) (h : L ≤ j) : CM mX9_votedLetter [ar 0, ai (nI j)] σ (RelI (fun u σ1 => u = -1000004 ∧ FC σ σ1)) := by
  obtain ⟨k1, k2, k3, k4, k5, k6⟩ := hC.1
  refine CM_in (ls := [some (ar 0), some (ai (nI j)), none]) rfl ?_
  refine g_iload_n (p0 := 1) (i := 1) dX9_votedLetter_0 rfl rfl rfl ?_
  refine g_aload_n (p0 := 2) (i := 0) dX9_votedLetter_1 rfl rfl rfl ?_
  refine g_getR (p0 := 5) dX9_votedLetter_2 fX9_29 (by first | rfl | assumption | exact RW.s (by assumption) | exact TW.s (by assumption)) rfl rfl ?_
  refine g_getR (p0 := 8) dX9_votedLetter_5 fX9_164 (by first | rfl | assumption | exact RW.s (by assumption) | exact TW.s (by assumption)) rfl rfl ?_
  refine g_getI (p0 := 11) dX9_votedLetter_8 fX9_239 (by first | rfl | assumption | exact RW.s (by assumption) | exact TW.s (by assumption)) rfl (by first | assumption | ((repeat (first | exact up_hit | refine up_nv (by decide) ?_ | refine up_mv (by first | decide | omega) ?_)) <;> first | assumption | rfl)) rfl ?_
  first | ((with_reducible refine isN2 ?_); refine g_icmpN_lt (tgt := 17) (p1 := 14) dX9_votedLetter_11 rfl (by omega) (by omega) rfl (fun c_11 => by exfalso; first | omega | contradiction | exact absurd (by assumption) c_11 | (simp_all; done)) (fun c_11 => ?_)) | refine g_icmp_lt (tgt := 17) (p1 := 14) dX9_votedLetter_11 rfl rfl (fun c_11 => by exfalso; first | omega | contradiction | exact absurd (by assumption) c_11 | (simp_all; done)) (fun c_11 => ?_)
  refine g_ldc (p0 := 16) dX9_votedLetter_14 qX9_122 rfl ?_
  refine g_ireturn dX9_votedLetter_16 rfl rfl (?_)
  exact ⟨_, rfl, rfl, FC.refl _⟩
set_option maxRecDepth 20000 in
set_option maxHeartbeats 2000000 in
theorem votedL_T {σ : Sg} {s M L : Nat} {c fs f n p d g a b : Nat → Nat} {j : Nat} (hC : CLS σ s M L c fs f n p d g a b) (hr : ∀ l, l < L → σ 42 l = -1 ∨ ∃ x, x < 25 ∧ σ 42 l = nI x) (hj : j < 2147483648) (h : j < L) (hW : ∀ i, i ≤ j → ¬ moF (fun k => vc (σ 42) f n i k M) 25 = 0) : CM mX9_votedLetter [ar 0, ai (nI j)] σ (RelI (fun u σ1 => u = nI (wiF (fun k => vc (σ 42) f n j k M) 25) ∧ FC σ σ1)) := by
  obtain ⟨k1, k2, k3, k4, k5, k6⟩ := hC.1
  refine CM_in (ls := [some (ar 0), some (ai (nI j)), none]) rfl ?_
  refine g_iload_n (p0 := 1) (i := 1) dX9_votedLetter_0 rfl rfl rfl ?_
  refine g_aload_n (p0 := 2) (i := 0) dX9_votedLetter_1 rfl rfl rfl ?_
  refine g_getR (p0 := 5) dX9_votedLetter_2 fX9_29 (by first | rfl | assumption | exact RW.s (by assumption) | exact TW.s (by assumption)) rfl rfl ?_
  refine g_getR (p0 := 8) dX9_votedLetter_5 fX9_164 (by first | rfl | assumption | exact RW.s (by assumption) | exact TW.s (by assumption)) rfl rfl ?_
  refine g_getI (p0 := 11) dX9_votedLetter_8 fX9_239 (by first | rfl | assumption | exact RW.s (by assumption) | exact TW.s (by assumption)) rfl (by first | assumption | ((repeat (first | exact up_hit | refine up_nv (by decide) ?_ | refine up_mv (by first | decide | omega) ?_)) <;> first | assumption | rfl)) rfl ?_
  first | ((with_reducible refine isN2 ?_); refine g_icmpN_lt (tgt := 17) (p1 := 14) dX9_votedLetter_11 rfl (by omega) (by omega) rfl (fun c_11 => ?_) (fun c_11 => by exfalso; first | omega | contradiction | exact absurd (by assumption) c_11 | (simp_all; done))) | refine g_icmp_lt (tgt := 17) (p1 := 14) dX9_votedLetter_11 rfl rfl (fun c_11 => ?_) (fun c_11 => by exfalso; first | omega | contradiction | exact absurd (by assumption) c_11 | (simp_all; done))
  refine g_iconst (p0 := 18) (v := nI 0) dX9_votedLetter_17 rfl rfl ?_
  refine g_istore_n (p0 := 19) (i := 2) (ls2 := [_, _, _]) dX9_votedLetter_18 rfl (Nat.le_of_ble_eq_true rfl) rfl rfl ?_
  exact votedL_Tl (Q := RelI (fun u σ1 => u = nI (wiF (fun k => vc (σ 42) f n j k M) 25) ∧ FC σ σ1)) hC hr (by omega) hW (fun σ1 e => ⟨_, rfl, rfl, e⟩) (j + 1) 0 (by omega) σ (FC.refl _) (fun z => absurd z (Nat.lt_irrefl 0))
set_option maxRecDepth 20000 in
set_option maxHeartbeats 2000000 in
theorem votedL_F {σ : Sg} {s M L : Nat} {c fs f n p d g a b : Nat → Nat} {j i0 : Nat} (hC : CLS σ s M L c fs f n p d g a b) (hr : ∀ l, l < L → σ 42 l = -1 ∨ ∃ x, x < 25 ∧ σ 42 l = nI x) (hj : j < 2147483648) (h : j < L) (hi0 : i0 ≤ j) (h0 : moF (fun k => vc (σ 42) f n i0 k M) 25 = 0) (hW : ∀ i, i < i0 → ¬ moF (fun k => vc (σ 42) f n i k M) 25 = 0) : CM mX9_votedLetter [ar 0, ai (nI j)] σ (RelI (fun u σ1 => u = -1000004 ∧ FC σ σ1)) := by
  obtain ⟨k1, k2, k3, k4, k5, k6⟩ := hC.1
  refine CM_in (ls := [some (ar 0), some (ai (nI j)), none]) rfl ?_
  refine g_iload_n (p0 := 1) (i := 1) dX9_votedLetter_0 rfl rfl rfl ?_
  refine g_aload_n (p0 := 2) (i := 0) dX9_votedLetter_1 rfl rfl rfl ?_
  refine g_getR (p0 := 5) dX9_votedLetter_2 fX9_29 (by first | rfl | assumption | exact RW.s (by assumption) | exact TW.s (by assumption)) rfl rfl ?_
  refine g_getR (p0 := 8) dX9_votedLetter_5 fX9_164 (by first | rfl | assumption | exact RW.s (by assumption) | exact TW.s (by assumption)) rfl rfl ?_
  refine g_getI (p0 := 11) dX9_votedLetter_8 fX9_239 (by first | rfl | assumption | exact RW.s (by assumption) | exact TW.s (by assumption)) rfl (by first | assumption | ((repeat (first | exact up_hit | refine up_nv (by decide) ?_ | refine up_mv (by first | decide | omega) ?_)) <;> first | assumption | rfl)) rfl ?_
  first | ((with_reducible refine isN2 ?_); refine g_icmpN_lt (tgt := 17) (p1 := 14) dX9_votedLetter_11 rfl (by omega) (by omega) rfl (fun c_11 => ?_) (fun c_11 => by exfalso; first | omega | contradiction | exact absurd (by assumption) c_11 | (simp_all; done))) | refine g_icmp_lt (tgt := 17) (p1 := 14) dX9_votedLetter_11 rfl rfl (fun c_11 => ?_) (fun c_11 => by exfalso; first | omega | contradiction | exact absurd (by assumption) c_11 | (simp_all; done))
  refine g_iconst (p0 := 18) (v := nI 0) dX9_votedLetter_17 rfl rfl ?_
  refine g_istore_n (p0 := 19) (i := 2) (ls2 := [_, _, _]) dX9_votedLetter_18 rfl (Nat.le_of_ble_eq_true rfl) rfl rfl ?_
  exact votedL_Fl (Q := RelI (fun u σ1 => u = -1000004 ∧ FC σ σ1)) hC hr hj hi0 h0 hW (fun σ1 e => ⟨_, rfl, rfl, e⟩) i0 0 (by omega) σ (FC.refl _)
set_option maxRecDepth 20000 in
set_option maxHeartbeats 2000000 in
theorem rd_cn {x : Int32} {σ : Sg} (h : x < -1) : CM mX9_read [ar 0, ai x] σ (Ret (-1000001) σ) := by
  refine CM_in (ls := [some (ar 0), some (ai x), none, none]) rfl ?_
  refine g_iload_n (p0 := 1) (i := 1) dX9_read_0 rfl rfl rfl ?_
  refine g_iconst (p0 := 2) (v := -1) dX9_read_1 rfl rfl ?_
  first | ((with_reducible refine isN2 ?_); refine g_icmpN_ge (tgt := 8) (p1 := 5) dX9_read_2 rfl (by omega) (by omega) rfl (fun c_2 => by exfalso; first | exact Int32.not_le.mpr h c_2 | exact absurd c_2 (Int32.not_le.mpr h)) (fun c_2 => ?_)) | refine g_icmp_ge (tgt := 8) (p1 := 5) dX9_read_2 rfl rfl (fun c_2 => by exfalso; first | exact Int32.not_le.mpr h c_2 | exact absurd c_2 (Int32.not_le.mpr h)) (fun c_2 => ?_)
  refine g_ldc (p0 := 7) dX9_read_5 qX9_68 rfl ?_
  refine g_ireturn dX9_read_7 rfl rfl (?_)
  exact ⟨rfl, rfl⟩
set_option maxRecDepth 20000 in
set_option maxHeartbeats 2000000 in
theorem rd_c0 {x : Int32} {σ : Sg} (hx : (-1 : Int32) ≤ x) (hs : σ 1 2 = nI 0) : CM mX9_read [ar 0, ai x] σ (Ret (-1000004) σ) := by
  refine CM_in (ls := [some (ar 0), some (ai x), none, none]) rfl ?_
  refine g_iload_n (p0 := 1) (i := 1) dX9_read_0 rfl rfl rfl ?_
  refine g_iconst (p0 := 2) (v := -1) dX9_read_1 rfl rfl ?_
  first | ((with_reducible refine isN2 ?_); refine g_icmpN_ge (tgt := 8) (p1 := 5) dX9_read_2 rfl (by omega) (by omega) rfl (fun c_2 => ?_) (fun c_2 => by exfalso; first | omega | exact c_2 hx | contradiction)) | refine g_icmp_ge (tgt := 8) (p1 := 5) dX9_read_2 rfl rfl (fun c_2 => ?_) (fun c_2 => by exfalso; first | omega | exact c_2 hx | contradiction)
  refine g_aload_n (p0 := 9) (i := 0) dX9_read_8 rfl rfl rfl ?_
  refine g_getR (p0 := 12) dX9_read_9 fX9_10 (by first | rfl | assumption | exact RW.s (by assumption) | exact TW.s (by assumption)) rfl rfl ?_
  refine g_getI (p0 := 15) dX9_read_12 fX9_85 (by first | rfl | assumption | exact RW.s (by assumption) | exact TW.s (by assumption)) rfl (by first | assumption | ((repeat (first | exact up_hit | refine up_nv (by decide) ?_ | refine up_mv (by first | decide | omega) ?_)) <;> first | assumption | rfl)) rfl ?_
  first | ((with_reducible refine isN1 ?_); refine g_ifN_ne (tgt := 21) (p1 := 18) dX9_read_15 rfl (by omega) rfl (fun c_15 => by exfalso; first | omega | exact c_15 hx | contradiction) (fun c_15 => ?_)) | refine g_if_ne (tgt := 21) (p1 := 18) dX9_read_15 rfl rfl (fun c_15 => by exfalso; first | omega | exact c_15 hx | contradiction) (fun c_15 => ?_)
  refine g_ldc (p0 := 20) dX9_read_18 qX9_122 rfl ?_
  refine g_ireturn dX9_read_20 rfl rfl (?_)
  exact ⟨rfl, rfl⟩
set_option maxRecDepth 20000 in
set_option maxHeartbeats 2000000 in
theorem rd_cA1 {m : Nat} {s0 : Nat} {σ : Sg} (hs : σ 1 2 = nI s0) (hs0 : 0 < s0) (hs1 : s0 ≤ 160) (h : CM mX6_firstRight [ar 33] σ (Ret (nI m) σ)) (hm : m < 160)  : CM mX9_read [ar 0, ai (-1)] σ (Ret (nI 0) σ) := by
  refine CM_in (ls := [some (ar 0), some (ai (-1)), none, none]) rfl ?_
  refine g_iload_n (p0 := 1) (i := 1) dX9_read_0 rfl rfl rfl ?_
  refine g_iconst (p0 := 2) (v := -1) dX9_read_1 rfl rfl ?_
  first | ((with_reducible refine isN2 ?_); refine g_icmpN_ge (tgt := 8) (p1 := 5) dX9_read_2 rfl (by omega) (by omega) rfl (fun c_2 => ?_) (fun c_2 => by exfalso; first | omega | contradiction | exact c_2 (by decide) | exact c_2 hx | exact c_2 rfl | exact nI_ne_m1b (by omega) c_2 | exact absurd rfl c_2 | exact absurd c_2 (by decide))) | refine g_icmp_ge (tgt := 8) (p1 := 5) dX9_read_2 rfl rfl (fun c_2 => ?_) (fun c_2 => by exfalso; first | omega | contradiction | exact c_2 (by decide) | exact c_2 hx | exact c_2 rfl | exact nI_ne_m1b (by omega) c_2 | exact absurd rfl c_2 | exact absurd c_2 (by decide))
  refine g_aload_n (p0 := 9) (i := 0) dX9_read_8 rfl rfl rfl ?_
  refine g_getR (p0 := 12) dX9_read_9 fX9_10 (by first | rfl | assumption | exact RW.s (by assumption) | exact TW.s (by assumption)) rfl rfl ?_
  refine g_getI (p0 := 15) dX9_read_12 fX9_85 (by first | rfl | assumption | exact RW.s (by assumption) | exact TW.s (by assumption)) rfl (by first | assumption | ((repeat (first | exact up_hit | refine up_nv (by decide) ?_ | refine up_mv (by first | decide | omega) ?_)) <;> first | assumption | rfl)) rfl ?_
  first | ((with_reducible refine isN1 ?_); refine g_ifN_ne (tgt := 21) (p1 := 18) dX9_read_15 rfl (by omega) rfl (fun c_15 => ?_) (fun c_15 => by exfalso; first | omega | contradiction | exact c_15 (by decide) | exact c_15 hx | exact c_15 rfl | exact nI_ne_m1b (by omega) c_15 | exact absurd rfl c_15 | exact absurd c_15 (by decide))) | refine g_if_ne (tgt := 21) (p1 := 18) dX9_read_15 rfl rfl (fun c_15 => ?_) (fun c_15 => by exfalso; first | omega | contradiction | exact c_15 (by decide) | exact c_15 hx | exact c_15 rfl | exact nI_ne_m1b (by omega) c_15 | exact absurd rfl c_15 | exact absurd c_15 (by decide))
  refine g_aload_n (p0 := 22) (i := 0) dX9_read_21 rfl rfl rfl ?_
  refine g_getR (p0 := 25) dX9_read_22 fX9_29 (by first | rfl | assumption | exact RW.s (by assumption) | exact TW.s (by assumption)) rfl rfl ?_
  refine g_cV0R (p0 := 28) (r1 := mX6_firstRight) dX9_read_25 lX9_219 vX6_firstRight (by first | rfl | assumption | exact RW.s (by assumption) | exact TW.s (by assumption)) ⟨_, _, rfl⟩ (FITi rfl rfl) (Nat.le_of_ble_eq_true rfl) (h) rfl ?_
  refine g_istore_n (p0 := 29) (i := 2) (ls2 := [_, _, _, _]) dX9_read_28 rfl (Nat.le_of_ble_eq_true rfl) rfl rfl ?_
  refine g_iload_n (p0 := 30) (i := 2) dX9_read_29 rfl rfl rfl ?_
  refine g_iconst (p0 := 31) (v := -1) dX9_read_30 rfl rfl ?_
  first | ((with_reducible refine isN2 ?_); refine g_icmpN_eq (tgt := 50) (p1 := 34) dX9_read_31 rfl (by omega) (by omega) rfl (fun c_31 => by exfalso; first | omega | contradiction | exact c_31 (by decide) | exact c_31 hx | exact c_31 rfl | exact nI_ne_m1b (by omega) c_31 | exact absurd rfl c_31 | exact absurd c_31 (by decide)) (fun c_31 => ?_)) | refine g_icmp_eq (tgt := 50) (p1 := 34) dX9_read_31 rfl rfl (fun c_31 => by exfalso; first | omega | contradiction | exact c_31 (by decide) | exact c_31 hx | exact c_31 rfl | exact nI_ne_m1b (by omega) c_31 | exact absurd rfl c_31 | exact absurd c_31 (by decide)) (fun c_31 => ?_)
  refine g_iload_n (p0 := 35) (i := 1) dX9_read_34 rfl rfl rfl ?_
  refine g_iconst (p0 := 36) (v := -1) dX9_read_35 rfl rfl ?_
  first | ((with_reducible refine isN2 ?_); refine g_icmpN_ne (tgt := 43) (p1 := 39) dX9_read_36 rfl (by omega) (by omega) rfl (fun c_36 => by exfalso; first | omega | contradiction | exact c_36 (by decide) | exact c_36 hx | exact c_36 rfl | exact nI_ne_m1b (by omega) c_36 | exact absurd rfl c_36 | exact absurd c_36 (by decide)) (fun c_36 => ?_)) | refine g_icmp_ne (tgt := 43) (p1 := 39) dX9_read_36 rfl rfl (fun c_36 => by exfalso; first | omega | contradiction | exact c_36 (by decide) | exact c_36 hx | exact c_36 rfl | exact nI_ne_m1b (by omega) c_36 | exact absurd rfl c_36 | exact absurd c_36 (by decide)) (fun c_36 => ?_)
  refine g_iconst (p0 := 40) (v := nI 0) dX9_read_39 rfl rfl ?_
  refine g_goto (tgt := 49) dX9_read_40 rfl ?_
  refine g_ireturn dX9_read_49 rfl rfl (?_)
  exact ⟨rfl, rfl⟩
set_option maxRecDepth 20000 in
set_option maxHeartbeats 2000000 in
theorem rd_cA2 {m j : Nat} {v : Int32} {s0 : Nat} {σ : Sg} (hs : σ 1 2 = nI s0) (hs0 : 0 < s0) (hs1 : s0 ≤ 160) (h : CM mX6_firstRight [ar 33] σ (Ret (nI m) σ)) (hm : m < 160) (hj : j < 2147483648) (hx : (-1 : Int32) ≤ nI j) (h2 : CM mX9_rightLetter [ar 0, ai (nI m), ai (nI j)] σ (Ret v σ)) : CM mX9_read [ar 0, ai (nI j)] σ (Ret v σ) := by
  refine CM_in (ls := [some (ar 0), some (ai (nI j)), none, none]) rfl ?_
  refine g_iload_n (p0 := 1) (i := 1) dX9_read_0 rfl rfl rfl ?_
  refine g_iconst (p0 := 2) (v := -1) dX9_read_1 rfl rfl ?_
  first | ((with_reducible refine isN2 ?_); refine g_icmpN_ge (tgt := 8) (p1 := 5) dX9_read_2 rfl (by omega) (by omega) rfl (fun c_2 => ?_) (fun c_2 => by exfalso; first | omega | contradiction | exact c_2 (by decide) | exact c_2 hx | exact c_2 rfl | exact nI_ne_m1b (by omega) c_2 | exact absurd rfl c_2 | exact absurd c_2 (by decide))) | refine g_icmp_ge (tgt := 8) (p1 := 5) dX9_read_2 rfl rfl (fun c_2 => ?_) (fun c_2 => by exfalso; first | omega | contradiction | exact c_2 (by decide) | exact c_2 hx | exact c_2 rfl | exact nI_ne_m1b (by omega) c_2 | exact absurd rfl c_2 | exact absurd c_2 (by decide))
  refine g_aload_n (p0 := 9) (i := 0) dX9_read_8 rfl rfl rfl ?_
  refine g_getR (p0 := 12) dX9_read_9 fX9_10 (by first | rfl | assumption | exact RW.s (by assumption) | exact TW.s (by assumption)) rfl rfl ?_
  refine g_getI (p0 := 15) dX9_read_12 fX9_85 (by first | rfl | assumption | exact RW.s (by assumption) | exact TW.s (by assumption)) rfl (by first | assumption | ((repeat (first | exact up_hit | refine up_nv (by decide) ?_ | refine up_mv (by first | decide | omega) ?_)) <;> first | assumption | rfl)) rfl ?_
  first | ((with_reducible refine isN1 ?_); refine g_ifN_ne (tgt := 21) (p1 := 18) dX9_read_15 rfl (by omega) rfl (fun c_15 => ?_) (fun c_15 => by exfalso; first | omega | contradiction | exact c_15 (by decide) | exact c_15 hx | exact c_15 rfl | exact nI_ne_m1b (by omega) c_15 | exact absurd rfl c_15 | exact absurd c_15 (by decide))) | refine g_if_ne (tgt := 21) (p1 := 18) dX9_read_15 rfl rfl (fun c_15 => ?_) (fun c_15 => by exfalso; first | omega | contradiction | exact c_15 (by decide) | exact c_15 hx | exact c_15 rfl | exact nI_ne_m1b (by omega) c_15 | exact absurd rfl c_15 | exact absurd c_15 (by decide))
  refine g_aload_n (p0 := 22) (i := 0) dX9_read_21 rfl rfl rfl ?_
  refine g_getR (p0 := 25) dX9_read_22 fX9_29 (by first | rfl | assumption | exact RW.s (by assumption) | exact TW.s (by assumption)) rfl rfl ?_
  refine g_cV0R (p0 := 28) (r1 := mX6_firstRight) dX9_read_25 lX9_219 vX6_firstRight (by first | rfl | assumption | exact RW.s (by assumption) | exact TW.s (by assumption)) ⟨_, _, rfl⟩ (FITi rfl rfl) (Nat.le_of_ble_eq_true rfl) (h) rfl ?_
  refine g_istore_n (p0 := 29) (i := 2) (ls2 := [_, _, _, _]) dX9_read_28 rfl (Nat.le_of_ble_eq_true rfl) rfl rfl ?_
  refine g_iload_n (p0 := 30) (i := 2) dX9_read_29 rfl rfl rfl ?_
  refine g_iconst (p0 := 31) (v := -1) dX9_read_30 rfl rfl ?_
  first | ((with_reducible refine isN2 ?_); refine g_icmpN_eq (tgt := 50) (p1 := 34) dX9_read_31 rfl (by omega) (by omega) rfl (fun c_31 => by exfalso; first | omega | contradiction | exact c_31 (by decide) | exact c_31 hx | exact c_31 rfl | exact nI_ne_m1b (by omega) c_31 | exact absurd rfl c_31 | exact absurd c_31 (by decide)) (fun c_31 => ?_)) | refine g_icmp_eq (tgt := 50) (p1 := 34) dX9_read_31 rfl rfl (fun c_31 => by exfalso; first | omega | contradiction | exact c_31 (by decide) | exact c_31 hx | exact c_31 rfl | exact nI_ne_m1b (by omega) c_31 | exact absurd rfl c_31 | exact absurd c_31 (by decide)) (fun c_31 => ?_)
  refine g_iload_n (p0 := 35) (i := 1) dX9_read_34 rfl rfl rfl ?_
  refine g_iconst (p0 := 36) (v := -1) dX9_read_35 rfl rfl ?_
  first | ((with_reducible refine isN2 ?_); refine g_icmpN_ne (tgt := 43) (p1 := 39) dX9_read_36 rfl (by omega) (by omega) rfl (fun c_36 => ?_) (fun c_36 => by exfalso; first | omega | contradiction | exact c_36 (by decide) | exact c_36 hx | exact c_36 rfl | exact nI_ne_m1b (by omega) c_36 | exact absurd rfl c_36 | exact absurd c_36 (by decide))) | refine g_icmp_ne (tgt := 43) (p1 := 39) dX9_read_36 rfl rfl (fun c_36 => ?_) (fun c_36 => by exfalso; first | omega | contradiction | exact c_36 (by decide) | exact c_36 hx | exact c_36 rfl | exact nI_ne_m1b (by omega) c_36 | exact absurd rfl c_36 | exact absurd c_36 (by decide))
  refine g_aload_n (p0 := 44) (i := 0) dX9_read_43 rfl rfl rfl ?_
  refine g_iload_n (p0 := 45) (i := 2) dX9_read_44 rfl rfl rfl ?_
  refine g_iload_n (p0 := 46) (i := 1) dX9_read_45 rfl rfl rfl ?_
  refine g_cV2R (p0 := 49) (r1 := mX9_rightLetter) dX9_read_46 lX9_223 vX9_rightLetter (by first | rfl | assumption | exact RW.s (by assumption) | exact TW.s (by assumption)) ⟨_, _, rfl⟩ (FITi rfl rfl) (Nat.le_of_ble_eq_true rfl) (h2) rfl ?_
  refine g_ireturn dX9_read_49 rfl rfl (?_)
  exact ⟨rfl, rfl⟩
set_option maxRecDepth 20000 in
set_option maxHeartbeats 2000000 in
theorem rd_cB1 {PB : Sg → Prop} {m : Nat} {s0 : Nat} {σ : Sg} (hs : σ 1 2 = nI s0) (hs0 : 0 < s0) (hs1 : s0 ≤ 160) (h : CM mX6_firstRight [ar 33] σ (Ret (-1) σ)) (h3 : CM mX1_firstClear [ar 72, ar 33] σ (RelI (fun u σ1 => u = nI m ∧ FC σ σ1 ∧ PB σ1))) (hm : m < 160)  : CM mX9_read [ar 0, ai (-1)] σ (CPQ σ (nI 1)) := by
  refine CM_in (ls := [some (ar 0), some (ai (-1)), none, none]) rfl ?_
  refine g_iload_n (p0 := 1) (i := 1) dX9_read_0 rfl rfl rfl ?_
  refine g_iconst (p0 := 2) (v := -1) dX9_read_1 rfl rfl ?_
  first | ((with_reducible refine isN2 ?_); refine g_icmpN_ge (tgt := 8) (p1 := 5) dX9_read_2 rfl (by omega) (by omega) rfl (fun c_2 => ?_) (fun c_2 => by exfalso; first | omega | contradiction | exact c_2 (by decide) | exact c_2 hx | exact c_2 rfl | exact nI_ne_m1b (by omega) c_2 | exact absurd rfl c_2 | exact absurd c_2 (by decide))) | refine g_icmp_ge (tgt := 8) (p1 := 5) dX9_read_2 rfl rfl (fun c_2 => ?_) (fun c_2 => by exfalso; first | omega | contradiction | exact c_2 (by decide) | exact c_2 hx | exact c_2 rfl | exact nI_ne_m1b (by omega) c_2 | exact absurd rfl c_2 | exact absurd c_2 (by decide))
  refine g_aload_n (p0 := 9) (i := 0) dX9_read_8 rfl rfl rfl ?_
  refine g_getR (p0 := 12) dX9_read_9 fX9_10 (by first | rfl | assumption | exact RW.s (by assumption) | exact TW.s (by assumption)) rfl rfl ?_
  refine g_getI (p0 := 15) dX9_read_12 fX9_85 (by first | rfl | assumption | exact RW.s (by assumption) | exact TW.s (by assumption)) rfl (by first | assumption | ((repeat (first | exact up_hit | refine up_nv (by decide) ?_ | refine up_mv (by first | decide | omega) ?_)) <;> first | assumption | rfl)) rfl ?_
  first | ((with_reducible refine isN1 ?_); refine g_ifN_ne (tgt := 21) (p1 := 18) dX9_read_15 rfl (by omega) rfl (fun c_15 => ?_) (fun c_15 => by exfalso; first | omega | contradiction | exact c_15 (by decide) | exact c_15 hx | exact c_15 rfl | exact nI_ne_m1b (by omega) c_15 | exact absurd rfl c_15 | exact absurd c_15 (by decide))) | refine g_if_ne (tgt := 21) (p1 := 18) dX9_read_15 rfl rfl (fun c_15 => ?_) (fun c_15 => by exfalso; first | omega | contradiction | exact c_15 (by decide) | exact c_15 hx | exact c_15 rfl | exact nI_ne_m1b (by omega) c_15 | exact absurd rfl c_15 | exact absurd c_15 (by decide))
  refine g_aload_n (p0 := 22) (i := 0) dX9_read_21 rfl rfl rfl ?_
  refine g_getR (p0 := 25) dX9_read_22 fX9_29 (by first | rfl | assumption | exact RW.s (by assumption) | exact TW.s (by assumption)) rfl rfl ?_
  refine g_cV0R (p0 := 28) (r1 := mX6_firstRight) dX9_read_25 lX9_219 vX6_firstRight (by first | rfl | assumption | exact RW.s (by assumption) | exact TW.s (by assumption)) ⟨_, _, rfl⟩ (FITi rfl rfl) (Nat.le_of_ble_eq_true rfl) (h) rfl ?_
  refine g_istore_n (p0 := 29) (i := 2) (ls2 := [_, _, _, _]) dX9_read_28 rfl (Nat.le_of_ble_eq_true rfl) rfl rfl ?_
  refine g_iload_n (p0 := 30) (i := 2) dX9_read_29 rfl rfl rfl ?_
  refine g_iconst (p0 := 31) (v := -1) dX9_read_30 rfl rfl ?_
  first | ((with_reducible refine isN2 ?_); refine g_icmpN_eq (tgt := 50) (p1 := 34) dX9_read_31 rfl (by omega) (by omega) rfl (fun c_31 => ?_) (fun c_31 => by exfalso; first | omega | contradiction | exact c_31 (by decide) | exact c_31 hx | exact c_31 rfl | exact nI_ne_m1b (by omega) c_31 | exact absurd rfl c_31 | exact absurd c_31 (by decide))) | refine g_icmp_eq (tgt := 50) (p1 := 34) dX9_read_31 rfl rfl (fun c_31 => ?_) (fun c_31 => by exfalso; first | omega | contradiction | exact c_31 (by decide) | exact c_31 hx | exact c_31 rfl | exact nI_ne_m1b (by omega) c_31 | exact absurd rfl c_31 | exact absurd c_31 (by decide))
  refine g_aload_n (p0 := 51) (i := 0) dX9_read_50 rfl rfl rfl ?_
  refine g_getR (p0 := 54) dX9_read_51 fX9_36 (by first | rfl | assumption | exact RW.s (by assumption) | exact TW.s (by assumption)) rfl rfl ?_
  refine g_aload_n (p0 := 55) (i := 0) dX9_read_54 rfl rfl rfl ?_
  refine g_getR (p0 := 58) dX9_read_55 fX9_29 (by first | rfl | assumption | exact RW.s (by assumption) | exact TW.s (by assumption)) rfl rfl ?_
  refine g_cV1I (p0 := 61) (r1 := mX1_firstClear) dX9_read_58 lX9_226 vX1_firstClear (by first | rfl | assumption | exact RW.s (by assumption) | exact TW.s (by assumption)) ⟨_, _, rfl⟩ (FITi rfl rfl) (Nat.le_of_ble_eq_true rfl) (h3) rfl ?_
  rintro u σ1 ⟨rfl, hfc, hpb⟩
  refine g_istore_n (p0 := 62) (i := 3) (ls2 := [_, _, _, _]) dX9_read_61 rfl (Nat.le_of_ble_eq_true rfl) rfl rfl ?_
  refine g_iload_n (p0 := 63) (i := 3) dX9_read_62 rfl rfl rfl ?_
  refine g_iconst (p0 := 64) (v := -1) dX9_read_63 rfl rfl ?_
  first | ((with_reducible refine isN2 ?_); refine g_icmpN_eq (tgt := 83) (p1 := 67) dX9_read_64 rfl (by omega) (by omega) rfl (fun c_64 => by exfalso; first | omega | contradiction | exact c_64 (by decide) | exact c_64 hx | exact c_64 rfl | exact nI_ne_m1b (by omega) c_64 | exact absurd rfl c_64 | exact absurd c_64 (by decide)) (fun c_64 => ?_)) | refine g_icmp_eq (tgt := 83) (p1 := 67) dX9_read_64 rfl rfl (fun c_64 => by exfalso; first | omega | contradiction | exact c_64 (by decide) | exact c_64 hx | exact c_64 rfl | exact nI_ne_m1b (by omega) c_64 | exact absurd rfl c_64 | exact absurd c_64 (by decide)) (fun c_64 => ?_)
  refine g_iload_n (p0 := 68) (i := 1) dX9_read_67 rfl rfl rfl ?_
  refine g_iconst (p0 := 69) (v := -1) dX9_read_68 rfl rfl ?_
  first | ((with_reducible refine isN2 ?_); refine g_icmpN_ne (tgt := 76) (p1 := 72) dX9_read_69 rfl (by omega) (by omega) rfl (fun c_69 => by exfalso; first | omega | contradiction | exact c_69 (by decide) | exact c_69 hx | exact c_69 rfl | exact nI_ne_m1b (by omega) c_69 | exact absurd rfl c_69 | exact absurd c_69 (by decide)) (fun c_69 => ?_)) | refine g_icmp_ne (tgt := 76) (p1 := 72) dX9_read_69 rfl rfl (fun c_69 => by exfalso; first | omega | contradiction | exact c_69 (by decide) | exact c_69 hx | exact c_69 rfl | exact nI_ne_m1b (by omega) c_69 | exact absurd rfl c_69 | exact absurd c_69 (by decide)) (fun c_69 => ?_)
  refine g_iconst (p0 := 73) (v := nI 1) dX9_read_72 rfl rfl ?_
  refine g_goto (tgt := 82) dX9_read_73 rfl ?_
  refine g_ireturn dX9_read_82 rfl rfl (?_)
  exact ⟨rfl, hfc⟩
set_option maxRecDepth 20000 in
set_option maxHeartbeats 2000000 in
theorem rd_cB2 {PB : Sg → Prop} {m j : Nat} {v : Int32} {s0 : Nat} {σ : Sg} (hs : σ 1 2 = nI s0) (hs0 : 0 < s0) (hs1 : s0 ≤ 160) (h : CM mX6_firstRight [ar 33] σ (Ret (-1) σ)) (h3 : CM mX1_firstClear [ar 72, ar 33] σ (RelI (fun u σ1 => u = nI m ∧ FC σ σ1 ∧ PB σ1))) (hm : m < 160) (hj : j < 2147483648) (hx : (-1 : Int32) ≤ nI j) (h2 : ∀ σ1, FC σ σ1 → PB σ1 → CM mX9_correctedLetter [ar 0, ai (nI m), ai (nI j)] σ1 (Ret v σ1)) : CM mX9_read [ar 0, ai (nI j)] σ (CPQ σ v) := by
  refine CM_in (ls := [some (ar 0), some (ai (nI j)), none, none]) rfl ?_
  refine g_iload_n (p0 := 1) (i := 1) dX9_read_0 rfl rfl rfl ?_
  refine g_iconst (p0 := 2) (v := -1) dX9_read_1 rfl rfl ?_
  first | ((with_reducible refine isN2 ?_); refine g_icmpN_ge (tgt := 8) (p1 := 5) dX9_read_2 rfl (by omega) (by omega) rfl (fun c_2 => ?_) (fun c_2 => by exfalso; first | omega | contradiction | exact c_2 (by decide) | exact c_2 hx | exact c_2 rfl | exact nI_ne_m1b (by omega) c_2 | exact absurd rfl c_2 | exact absurd c_2 (by decide))) | refine g_icmp_ge (tgt := 8) (p1 := 5) dX9_read_2 rfl rfl (fun c_2 => ?_) (fun c_2 => by exfalso; first | omega | contradiction | exact c_2 (by decide) | exact c_2 hx | exact c_2 rfl | exact nI_ne_m1b (by omega) c_2 | exact absurd rfl c_2 | exact absurd c_2 (by decide))
  refine g_aload_n (p0 := 9) (i := 0) dX9_read_8 rfl rfl rfl ?_
  refine g_getR (p0 := 12) dX9_read_9 fX9_10 (by first | rfl | assumption | exact RW.s (by assumption) | exact TW.s (by assumption)) rfl rfl ?_
  refine g_getI (p0 := 15) dX9_read_12 fX9_85 (by first | rfl | assumption | exact RW.s (by assumption) | exact TW.s (by assumption)) rfl (by first | assumption | ((repeat (first | exact up_hit | refine up_nv (by decide) ?_ | refine up_mv (by first | decide | omega) ?_)) <;> first | assumption | rfl)) rfl ?_
  first | ((with_reducible refine isN1 ?_); refine g_ifN_ne (tgt := 21) (p1 := 18) dX9_read_15 rfl (by omega) rfl (fun c_15 => ?_) (fun c_15 => by exfalso; first | omega | contradiction | exact c_15 (by decide) | exact c_15 hx | exact c_15 rfl | exact nI_ne_m1b (by omega) c_15 | exact absurd rfl c_15 | exact absurd c_15 (by decide))) | refine g_if_ne (tgt := 21) (p1 := 18) dX9_read_15 rfl rfl (fun c_15 => ?_) (fun c_15 => by exfalso; first | omega | contradiction | exact c_15 (by decide) | exact c_15 hx | exact c_15 rfl | exact nI_ne_m1b (by omega) c_15 | exact absurd rfl c_15 | exact absurd c_15 (by decide))
  refine g_aload_n (p0 := 22) (i := 0) dX9_read_21 rfl rfl rfl ?_
  refine g_getR (p0 := 25) dX9_read_22 fX9_29 (by first | rfl | assumption | exact RW.s (by assumption) | exact TW.s (by assumption)) rfl rfl ?_
  refine g_cV0R (p0 := 28) (r1 := mX6_firstRight) dX9_read_25 lX9_219 vX6_firstRight (by first | rfl | assumption | exact RW.s (by assumption) | exact TW.s (by assumption)) ⟨_, _, rfl⟩ (FITi rfl rfl) (Nat.le_of_ble_eq_true rfl) (h) rfl ?_
  refine g_istore_n (p0 := 29) (i := 2) (ls2 := [_, _, _, _]) dX9_read_28 rfl (Nat.le_of_ble_eq_true rfl) rfl rfl ?_
  refine g_iload_n (p0 := 30) (i := 2) dX9_read_29 rfl rfl rfl ?_
  refine g_iconst (p0 := 31) (v := -1) dX9_read_30 rfl rfl ?_
  first | ((with_reducible refine isN2 ?_); refine g_icmpN_eq (tgt := 50) (p1 := 34) dX9_read_31 rfl (by omega) (by omega) rfl (fun c_31 => ?_) (fun c_31 => by exfalso; first | omega | contradiction | exact c_31 (by decide) | exact c_31 hx | exact c_31 rfl | exact nI_ne_m1b (by omega) c_31 | exact absurd rfl c_31 | exact absurd c_31 (by decide))) | refine g_icmp_eq (tgt := 50) (p1 := 34) dX9_read_31 rfl rfl (fun c_31 => ?_) (fun c_31 => by exfalso; first | omega | contradiction | exact c_31 (by decide) | exact c_31 hx | exact c_31 rfl | exact nI_ne_m1b (by omega) c_31 | exact absurd rfl c_31 | exact absurd c_31 (by decide))
  refine g_aload_n (p0 := 51) (i := 0) dX9_read_50 rfl rfl rfl ?_
  refine g_getR (p0 := 54) dX9_read_51 fX9_36 (by first | rfl | assumption | exact RW.s (by assumption) | exact TW.s (by assumption)) rfl rfl ?_
  refine g_aload_n (p0 := 55) (i := 0) dX9_read_54 rfl rfl rfl ?_
  refine g_getR (p0 := 58) dX9_read_55 fX9_29 (by first | rfl | assumption | exact RW.s (by assumption) | exact TW.s (by assumption)) rfl rfl ?_
  refine g_cV1I (p0 := 61) (r1 := mX1_firstClear) dX9_read_58 lX9_226 vX1_firstClear (by first | rfl | assumption | exact RW.s (by assumption) | exact TW.s (by assumption)) ⟨_, _, rfl⟩ (FITi rfl rfl) (Nat.le_of_ble_eq_true rfl) (h3) rfl ?_
  rintro u σ1 ⟨rfl, hfc, hpb⟩
  refine g_istore_n (p0 := 62) (i := 3) (ls2 := [_, _, _, _]) dX9_read_61 rfl (Nat.le_of_ble_eq_true rfl) rfl rfl ?_
  refine g_iload_n (p0 := 63) (i := 3) dX9_read_62 rfl rfl rfl ?_
  refine g_iconst (p0 := 64) (v := -1) dX9_read_63 rfl rfl ?_
  first | ((with_reducible refine isN2 ?_); refine g_icmpN_eq (tgt := 83) (p1 := 67) dX9_read_64 rfl (by omega) (by omega) rfl (fun c_64 => by exfalso; first | omega | contradiction | exact c_64 (by decide) | exact c_64 hx | exact c_64 rfl | exact nI_ne_m1b (by omega) c_64 | exact absurd rfl c_64 | exact absurd c_64 (by decide)) (fun c_64 => ?_)) | refine g_icmp_eq (tgt := 83) (p1 := 67) dX9_read_64 rfl rfl (fun c_64 => by exfalso; first | omega | contradiction | exact c_64 (by decide) | exact c_64 hx | exact c_64 rfl | exact nI_ne_m1b (by omega) c_64 | exact absurd rfl c_64 | exact absurd c_64 (by decide)) (fun c_64 => ?_)
  refine g_iload_n (p0 := 68) (i := 1) dX9_read_67 rfl rfl rfl ?_
  refine g_iconst (p0 := 69) (v := -1) dX9_read_68 rfl rfl ?_
  first | ((with_reducible refine isN2 ?_); refine g_icmpN_ne (tgt := 76) (p1 := 72) dX9_read_69 rfl (by omega) (by omega) rfl (fun c_69 => ?_) (fun c_69 => by exfalso; first | omega | contradiction | exact c_69 (by decide) | exact c_69 hx | exact c_69 rfl | exact nI_ne_m1b (by omega) c_69 | exact absurd rfl c_69 | exact absurd c_69 (by decide))) | refine g_icmp_ne (tgt := 76) (p1 := 72) dX9_read_69 rfl rfl (fun c_69 => ?_) (fun c_69 => by exfalso; first | omega | contradiction | exact c_69 (by decide) | exact c_69 hx | exact c_69 rfl | exact nI_ne_m1b (by omega) c_69 | exact absurd rfl c_69 | exact absurd c_69 (by decide))
  refine g_aload_n (p0 := 77) (i := 0) dX9_read_76 rfl rfl rfl ?_
  refine g_iload_n (p0 := 78) (i := 3) dX9_read_77 rfl rfl rfl ?_
  refine g_iload_n (p0 := 79) (i := 1) dX9_read_78 rfl rfl rfl ?_
  refine g_cV2R (p0 := 82) (r1 := mX9_correctedLetter) dX9_read_79 lX9_230 vX9_correctedLetter (by first | rfl | assumption | exact RW.s (by assumption) | exact TW.s (by assumption)) ⟨_, _, rfl⟩ (FITi rfl rfl) (Nat.le_of_ble_eq_true rfl) (h2 _ hfc hpb) rfl ?_
  refine g_ireturn dX9_read_82 rfl rfl (?_)
  exact ⟨rfl, hfc⟩
set_option maxRecDepth 20000 in
set_option maxHeartbeats 2000000 in
theorem rd_cC1 {s0 : Nat} {σ : Sg} (hs : σ 1 2 = nI s0) (hs0 : 0 < s0) (hs1 : s0 ≤ 160) (h : CM mX6_firstRight [ar 33] σ (Ret (-1) σ)) (h3 : CM mX1_firstClear [ar 72, ar 33] σ (RelI (fun u σ1 => u = -1 ∧ FC σ σ1)))  : CM mX9_read [ar 0, ai (-1)] σ (CPQ σ (nI 2)) := by
  refine CM_in (ls := [some (ar 0), some (ai (-1)), none, none]) rfl ?_
  refine g_iload_n (p0 := 1) (i := 1) dX9_read_0 rfl rfl rfl ?_
  refine g_iconst (p0 := 2) (v := -1) dX9_read_1 rfl rfl ?_
  first | ((with_reducible refine isN2 ?_); refine g_icmpN_ge (tgt := 8) (p1 := 5) dX9_read_2 rfl (by omega) (by omega) rfl (fun c_2 => ?_) (fun c_2 => by exfalso; first | omega | contradiction | exact c_2 (by decide) | exact c_2 hx | exact c_2 rfl | exact nI_ne_m1b (by omega) c_2 | exact absurd rfl c_2 | exact absurd c_2 (by decide))) | refine g_icmp_ge (tgt := 8) (p1 := 5) dX9_read_2 rfl rfl (fun c_2 => ?_) (fun c_2 => by exfalso; first | omega | contradiction | exact c_2 (by decide) | exact c_2 hx | exact c_2 rfl | exact nI_ne_m1b (by omega) c_2 | exact absurd rfl c_2 | exact absurd c_2 (by decide))
  refine g_aload_n (p0 := 9) (i := 0) dX9_read_8 rfl rfl rfl ?_
  refine g_getR (p0 := 12) dX9_read_9 fX9_10 (by first | rfl | assumption | exact RW.s (by assumption) | exact TW.s (by assumption)) rfl rfl ?_
  refine g_getI (p0 := 15) dX9_read_12 fX9_85 (by first | rfl | assumption | exact RW.s (by assumption) | exact TW.s (by assumption)) rfl (by first | assumption | ((repeat (first | exact up_hit | refine up_nv (by decide) ?_ | refine up_mv (by first | decide | omega) ?_)) <;> first | assumption | rfl)) rfl ?_
  first | ((with_reducible refine isN1 ?_); refine g_ifN_ne (tgt := 21) (p1 := 18) dX9_read_15 rfl (by omega) rfl (fun c_15 => ?_) (fun c_15 => by exfalso; first | omega | contradiction | exact c_15 (by decide) | exact c_15 hx | exact c_15 rfl | exact nI_ne_m1b (by omega) c_15 | exact absurd rfl c_15 | exact absurd c_15 (by decide))) | refine g_if_ne (tgt := 21) (p1 := 18) dX9_read_15 rfl rfl (fun c_15 => ?_) (fun c_15 => by exfalso; first | omega | contradiction | exact c_15 (by decide) | exact c_15 hx | exact c_15 rfl | exact nI_ne_m1b (by omega) c_15 | exact absurd rfl c_15 | exact absurd c_15 (by decide))
  refine g_aload_n (p0 := 22) (i := 0) dX9_read_21 rfl rfl rfl ?_
  refine g_getR (p0 := 25) dX9_read_22 fX9_29 (by first | rfl | assumption | exact RW.s (by assumption) | exact TW.s (by assumption)) rfl rfl ?_
  refine g_cV0R (p0 := 28) (r1 := mX6_firstRight) dX9_read_25 lX9_219 vX6_firstRight (by first | rfl | assumption | exact RW.s (by assumption) | exact TW.s (by assumption)) ⟨_, _, rfl⟩ (FITi rfl rfl) (Nat.le_of_ble_eq_true rfl) (h) rfl ?_
  refine g_istore_n (p0 := 29) (i := 2) (ls2 := [_, _, _, _]) dX9_read_28 rfl (Nat.le_of_ble_eq_true rfl) rfl rfl ?_
  refine g_iload_n (p0 := 30) (i := 2) dX9_read_29 rfl rfl rfl ?_
  refine g_iconst (p0 := 31) (v := -1) dX9_read_30 rfl rfl ?_
  first | ((with_reducible refine isN2 ?_); refine g_icmpN_eq (tgt := 50) (p1 := 34) dX9_read_31 rfl (by omega) (by omega) rfl (fun c_31 => ?_) (fun c_31 => by exfalso; first | omega | contradiction | exact c_31 (by decide) | exact c_31 hx | exact c_31 rfl | exact nI_ne_m1b (by omega) c_31 | exact absurd rfl c_31 | exact absurd c_31 (by decide))) | refine g_icmp_eq (tgt := 50) (p1 := 34) dX9_read_31 rfl rfl (fun c_31 => ?_) (fun c_31 => by exfalso; first | omega | contradiction | exact c_31 (by decide) | exact c_31 hx | exact c_31 rfl | exact nI_ne_m1b (by omega) c_31 | exact absurd rfl c_31 | exact absurd c_31 (by decide))
  refine g_aload_n (p0 := 51) (i := 0) dX9_read_50 rfl rfl rfl ?_
  refine g_getR (p0 := 54) dX9_read_51 fX9_36 (by first | rfl | assumption | exact RW.s (by assumption) | exact TW.s (by assumption)) rfl rfl ?_
  refine g_aload_n (p0 := 55) (i := 0) dX9_read_54 rfl rfl rfl ?_
  refine g_getR (p0 := 58) dX9_read_55 fX9_29 (by first | rfl | assumption | exact RW.s (by assumption) | exact TW.s (by assumption)) rfl rfl ?_
  refine g_cV1I (p0 := 61) (r1 := mX1_firstClear) dX9_read_58 lX9_226 vX1_firstClear (by first | rfl | assumption | exact RW.s (by assumption) | exact TW.s (by assumption)) ⟨_, _, rfl⟩ (FITi rfl rfl) (Nat.le_of_ble_eq_true rfl) (h3) rfl ?_
  rintro u σ1 ⟨rfl, hfc⟩
  refine g_istore_n (p0 := 62) (i := 3) (ls2 := [_, _, _, _]) dX9_read_61 rfl (Nat.le_of_ble_eq_true rfl) rfl rfl ?_
  refine g_iload_n (p0 := 63) (i := 3) dX9_read_62 rfl rfl rfl ?_
  refine g_iconst (p0 := 64) (v := -1) dX9_read_63 rfl rfl ?_
  first | ((with_reducible refine isN2 ?_); refine g_icmpN_eq (tgt := 83) (p1 := 67) dX9_read_64 rfl (by omega) (by omega) rfl (fun c_64 => ?_) (fun c_64 => by exfalso; first | omega | contradiction | exact c_64 (by decide) | exact c_64 hx | exact c_64 rfl | exact nI_ne_m1b (by omega) c_64 | exact absurd rfl c_64 | exact absurd c_64 (by decide))) | refine g_icmp_eq (tgt := 83) (p1 := 67) dX9_read_64 rfl rfl (fun c_64 => ?_) (fun c_64 => by exfalso; first | omega | contradiction | exact c_64 (by decide) | exact c_64 hx | exact c_64 rfl | exact nI_ne_m1b (by omega) c_64 | exact absurd rfl c_64 | exact absurd c_64 (by decide))
  refine g_iload_n (p0 := 84) (i := 1) dX9_read_83 rfl rfl rfl ?_
  refine g_iconst (p0 := 85) (v := -1) dX9_read_84 rfl rfl ?_
  first | ((with_reducible refine isN2 ?_); refine g_icmpN_ne (tgt := 92) (p1 := 88) dX9_read_85 rfl (by omega) (by omega) rfl (fun c_85 => by exfalso; first | omega | contradiction | exact c_85 (by decide) | exact c_85 hx | exact c_85 rfl | exact nI_ne_m1b (by omega) c_85 | exact absurd rfl c_85 | exact absurd c_85 (by decide)) (fun c_85 => ?_)) | refine g_icmp_ne (tgt := 92) (p1 := 88) dX9_read_85 rfl rfl (fun c_85 => by exfalso; first | omega | contradiction | exact c_85 (by decide) | exact c_85 hx | exact c_85 rfl | exact nI_ne_m1b (by omega) c_85 | exact absurd rfl c_85 | exact absurd c_85 (by decide)) (fun c_85 => ?_)
  refine g_iconst (p0 := 89) (v := nI 2) dX9_read_88 rfl rfl ?_
  refine g_goto (tgt := 97) dX9_read_89 rfl ?_
  refine g_ireturn dX9_read_97 rfl rfl (?_)
  exact ⟨rfl, hfc⟩
set_option maxRecDepth 20000 in
set_option maxHeartbeats 2000000 in
theorem rd_cC2 {j : Nat} {v : Int32} {s0 : Nat} {σ : Sg} (hs : σ 1 2 = nI s0) (hs0 : 0 < s0) (hs1 : s0 ≤ 160) (h : CM mX6_firstRight [ar 33] σ (Ret (-1) σ)) (h3 : CM mX1_firstClear [ar 72, ar 33] σ (RelI (fun u σ1 => u = -1 ∧ FC σ σ1))) (hj : j < 2147483648) (hx : (-1 : Int32) ≤ nI j) (h2 : ∀ σ1, FC σ σ1 → CM mX9_votedLetter [ar 0, ai (nI j)] σ1 (RelI (fun u σ2 => u = v ∧ FC σ1 σ2))) : CM mX9_read [ar 0, ai (nI j)] σ (CPQ σ v) := by
  refine CM_in (ls := [some (ar 0), some (ai (nI j)), none, none]) rfl ?_
  refine g_iload_n (p0 := 1) (i := 1) dX9_read_0 rfl rfl rfl ?_
  refine g_iconst (p0 := 2) (v := -1) dX9_read_1 rfl rfl ?_
  first | ((with_reducible refine isN2 ?_); refine g_icmpN_ge (tgt := 8) (p1 := 5) dX9_read_2 rfl (by omega) (by omega) rfl (fun c_2 => ?_) (fun c_2 => by exfalso; first | omega | contradiction | exact c_2 (by decide) | exact c_2 hx | exact c_2 rfl | exact nI_ne_m1b (by omega) c_2 | exact absurd rfl c_2 | exact absurd c_2 (by decide))) | refine g_icmp_ge (tgt := 8) (p1 := 5) dX9_read_2 rfl rfl (fun c_2 => ?_) (fun c_2 => by exfalso; first | omega | contradiction | exact c_2 (by decide) | exact c_2 hx | exact c_2 rfl | exact nI_ne_m1b (by omega) c_2 | exact absurd rfl c_2 | exact absurd c_2 (by decide))
  refine g_aload_n (p0 := 9) (i := 0) dX9_read_8 rfl rfl rfl ?_
  refine g_getR (p0 := 12) dX9_read_9 fX9_10 (by first | rfl | assumption | exact RW.s (by assumption) | exact TW.s (by assumption)) rfl rfl ?_
  refine g_getI (p0 := 15) dX9_read_12 fX9_85 (by first | rfl | assumption | exact RW.s (by assumption) | exact TW.s (by assumption)) rfl (by first | assumption | ((repeat (first | exact up_hit | refine up_nv (by decide) ?_ | refine up_mv (by first | decide | omega) ?_)) <;> first | assumption | rfl)) rfl ?_
  first | ((with_reducible refine isN1 ?_); refine g_ifN_ne (tgt := 21) (p1 := 18) dX9_read_15 rfl (by omega) rfl (fun c_15 => ?_) (fun c_15 => by exfalso; first | omega | contradiction | exact c_15 (by decide) | exact c_15 hx | exact c_15 rfl | exact nI_ne_m1b (by omega) c_15 | exact absurd rfl c_15 | exact absurd c_15 (by decide))) | refine g_if_ne (tgt := 21) (p1 := 18) dX9_read_15 rfl rfl (fun c_15 => ?_) (fun c_15 => by exfalso; first | omega | contradiction | exact c_15 (by decide) | exact c_15 hx | exact c_15 rfl | exact nI_ne_m1b (by omega) c_15 | exact absurd rfl c_15 | exact absurd c_15 (by decide))
  refine g_aload_n (p0 := 22) (i := 0) dX9_read_21 rfl rfl rfl ?_
  refine g_getR (p0 := 25) dX9_read_22 fX9_29 (by first | rfl | assumption | exact RW.s (by assumption) | exact TW.s (by assumption)) rfl rfl ?_
  refine g_cV0R (p0 := 28) (r1 := mX6_firstRight) dX9_read_25 lX9_219 vX6_firstRight (by first | rfl | assumption | exact RW.s (by assumption) | exact TW.s (by assumption)) ⟨_, _, rfl⟩ (FITi rfl rfl) (Nat.le_of_ble_eq_true rfl) (h) rfl ?_
  refine g_istore_n (p0 := 29) (i := 2) (ls2 := [_, _, _, _]) dX9_read_28 rfl (Nat.le_of_ble_eq_true rfl) rfl rfl ?_
  refine g_iload_n (p0 := 30) (i := 2) dX9_read_29 rfl rfl rfl ?_
  refine g_iconst (p0 := 31) (v := -1) dX9_read_30 rfl rfl ?_
  first | ((with_reducible refine isN2 ?_); refine g_icmpN_eq (tgt := 50) (p1 := 34) dX9_read_31 rfl (by omega) (by omega) rfl (fun c_31 => ?_) (fun c_31 => by exfalso; first | omega | contradiction | exact c_31 (by decide) | exact c_31 hx | exact c_31 rfl | exact nI_ne_m1b (by omega) c_31 | exact absurd rfl c_31 | exact absurd c_31 (by decide))) | refine g_icmp_eq (tgt := 50) (p1 := 34) dX9_read_31 rfl rfl (fun c_31 => ?_) (fun c_31 => by exfalso; first | omega | contradiction | exact c_31 (by decide) | exact c_31 hx | exact c_31 rfl | exact nI_ne_m1b (by omega) c_31 | exact absurd rfl c_31 | exact absurd c_31 (by decide))
  refine g_aload_n (p0 := 51) (i := 0) dX9_read_50 rfl rfl rfl ?_
  refine g_getR (p0 := 54) dX9_read_51 fX9_36 (by first | rfl | assumption | exact RW.s (by assumption) | exact TW.s (by assumption)) rfl rfl ?_
  refine g_aload_n (p0 := 55) (i := 0) dX9_read_54 rfl rfl rfl ?_
  refine g_getR (p0 := 58) dX9_read_55 fX9_29 (by first | rfl | assumption | exact RW.s (by assumption) | exact TW.s (by assumption)) rfl rfl ?_
  refine g_cV1I (p0 := 61) (r1 := mX1_firstClear) dX9_read_58 lX9_226 vX1_firstClear (by first | rfl | assumption | exact RW.s (by assumption) | exact TW.s (by assumption)) ⟨_, _, rfl⟩ (FITi rfl rfl) (Nat.le_of_ble_eq_true rfl) (h3) rfl ?_
  rintro u σ1 ⟨rfl, hfc⟩
  refine g_istore_n (p0 := 62) (i := 3) (ls2 := [_, _, _, _]) dX9_read_61 rfl (Nat.le_of_ble_eq_true rfl) rfl rfl ?_
  refine g_iload_n (p0 := 63) (i := 3) dX9_read_62 rfl rfl rfl ?_
  refine g_iconst (p0 := 64) (v := -1) dX9_read_63 rfl rfl ?_
  first | ((with_reducible refine isN2 ?_); refine g_icmpN_eq (tgt := 83) (p1 := 67) dX9_read_64 rfl (by omega) (by omega) rfl (fun c_64 => ?_) (fun c_64 => by exfalso; first | omega | contradiction | exact c_64 (by decide) | exact c_64 hx | exact c_64 rfl | exact nI_ne_m1b (by omega) c_64 | exact absurd rfl c_64 | exact absurd c_64 (by decide))) | refine g_icmp_eq (tgt := 83) (p1 := 67) dX9_read_64 rfl rfl (fun c_64 => ?_) (fun c_64 => by exfalso; first | omega | contradiction | exact c_64 (by decide) | exact c_64 hx | exact c_64 rfl | exact nI_ne_m1b (by omega) c_64 | exact absurd rfl c_64 | exact absurd c_64 (by decide))
  refine g_iload_n (p0 := 84) (i := 1) dX9_read_83 rfl rfl rfl ?_
  refine g_iconst (p0 := 85) (v := -1) dX9_read_84 rfl rfl ?_
  first | ((with_reducible refine isN2 ?_); refine g_icmpN_ne (tgt := 92) (p1 := 88) dX9_read_85 rfl (by omega) (by omega) rfl (fun c_85 => ?_) (fun c_85 => by exfalso; first | omega | contradiction | exact c_85 (by decide) | exact c_85 hx | exact c_85 rfl | exact nI_ne_m1b (by omega) c_85 | exact absurd rfl c_85 | exact absurd c_85 (by decide))) | refine g_icmp_ne (tgt := 92) (p1 := 88) dX9_read_85 rfl rfl (fun c_85 => ?_) (fun c_85 => by exfalso; first | omega | contradiction | exact c_85 (by decide) | exact c_85 hx | exact c_85 rfl | exact nI_ne_m1b (by omega) c_85 | exact absurd rfl c_85 | exact absurd c_85 (by decide))
  refine g_aload_n (p0 := 93) (i := 0) dX9_read_92 rfl rfl rfl ?_
  refine g_iload_n (p0 := 94) (i := 1) dX9_read_93 rfl rfl rfl ?_
  refine g_cV1I (p0 := 97) (r1 := mX9_votedLetter) dX9_read_94 lX9_233 vX9_votedLetter (by first | rfl | assumption | exact RW.s (by assumption) | exact TW.s (by assumption)) ⟨_, _, rfl⟩ (FITi rfl rfl) (Nat.le_of_ble_eq_true rfl) (h2 _ hfc) rfl ?_
  rintro u σ2 ⟨rfl, hfc2⟩
  refine g_ireturn dX9_read_97 rfl rfl (?_)
  exact ⟨rfl, hfc.trans hfc2⟩
