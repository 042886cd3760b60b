/-! THE CLASS: out of the rows of whole -/
theorem i32c (x : Int32) : x < 0 ∨ ∃ j, j < 2147483648 ∧ x = nI j := by
  by_cases h : x.toInt < 0
  · left
    rw [Int32.lt_iff_toInt_lt]
    exact h
  · right
    have h2 := Int32.toInt_lt x
    refine ⟨x.toInt.toNat, by omega, ?_⟩
    apply Int32.toInt_inj.mp
    rw [nI_toInt (by omega)]
    omega
set_option maxRecDepth 20000 in
set_option maxHeartbeats 2000000 in
theorem cIsLetter_T {j : Nat} {σ : Sg} (hj : j < 25) : CM mX9_isLetter [ai (nI j)] σ (Ret (nI 1) σ) := by
  refine CM_in (ls := [some (ai (nI j))]) rfl ?_
  refine g_iload_n (p0 := 1) (i := 0) dX9_isLetter_0 rfl rfl rfl ?_
  first | ((with_reducible refine isN1 ?_); refine g_ifN_lt (tgt := 14) (p1 := 4) dX9_isLetter_1 rfl (by omega) rfl (fun c_1 => by exfalso; first | omega | contradiction | exact absurd (by assumption) c_1 | (simp_all; done)) (fun c_1 => ?_)) | refine g_if_lt (tgt := 14) (p1 := 4) dX9_isLetter_1 rfl rfl (fun c_1 => by exfalso; first | omega | contradiction | exact absurd (by assumption) c_1 | (simp_all; done)) (fun c_1 => ?_)
  refine g_iload_n (p0 := 5) (i := 0) dX9_isLetter_4 rfl rfl rfl ?_
  refine g_bipush (p0 := 7) (v := nI 25) dX9_isLetter_5 (by decide) rfl ?_
  first | ((with_reducible refine isN2 ?_); refine g_icmpN_ge (tgt := 14) (p1 := 10) dX9_isLetter_7 rfl (by omega) (by omega) rfl (fun c_7 => by exfalso; first | omega | contradiction | exact absurd (by assumption) c_7 | (simp_all; done)) (fun c_7 => ?_)) | refine g_icmp_ge (tgt := 14) (p1 := 10) dX9_isLetter_7 rfl rfl (fun c_7 => by exfalso; first | omega | contradiction | exact absurd (by assumption) c_7 | (simp_all; done)) (fun c_7 => ?_)
  refine g_iconst (p0 := 11) (v := nI 1) dX9_isLetter_10 rfl rfl ?_
  refine g_goto (tgt := 15) dX9_isLetter_11 rfl ?_
  refine g_ireturn dX9_isLetter_15 rfl (by first | rfl | exact bool_narrow (by first | exact Or.inl rfl | exact Or.inr rfl | assumption | (split <;> first | exact Or.inl rfl | exact Or.inr rfl))) (?_)
  exact ⟨rfl, rfl⟩
set_option maxRecDepth 20000 in
set_option maxHeartbeats 2000000 in
theorem cIsLetter_F1 {x : Int32} {σ : Sg} (hx : x < 0) : CM mX9_isLetter [ai x] σ (Ret (nI 0) σ) := by
  refine CM_in (ls := [some (ai x)]) rfl ?_
  refine g_iload_n (p0 := 1) (i := 0) dX9_isLetter_0 rfl rfl rfl ?_
  first | ((with_reducible refine isN1 ?_); refine g_ifN_lt (tgt := 14) (p1 := 4) dX9_isLetter_1 rfl (by omega) rfl (fun c_1 => ?_) (fun c_1 => by exfalso; first | omega | contradiction | exact absurd (by assumption) c_1 | (simp_all; done))) | refine g_if_lt (tgt := 14) (p1 := 4) dX9_isLetter_1 rfl rfl (fun c_1 => ?_) (fun c_1 => by exfalso; first | omega | contradiction | exact absurd (by assumption) c_1 | (simp_all; done))
  refine g_iconst (p0 := 15) (v := nI 0) dX9_isLetter_14 rfl rfl ?_
  refine g_ireturn dX9_isLetter_15 rfl (by first | rfl | exact bool_narrow (by first | exact Or.inl rfl | exact Or.inr rfl | assumption | (split <;> first | exact Or.inl rfl | exact Or.inr rfl))) (?_)
  exact ⟨rfl, rfl⟩
set_option maxRecDepth 20000 in
set_option maxHeartbeats 2000000 in
theorem cIsLetter_F2 {j : Nat} {σ : Sg} (hj : 25 ≤ j) (hj2 : j < 2147483648) : CM mX9_isLetter [ai (nI j)] σ (Ret (nI 0) σ) := by
  refine CM_in (ls := [some (ai (nI j))]) rfl ?_
  refine g_iload_n (p0 := 1) (i := 0) dX9_isLetter_0 rfl rfl rfl ?_
  first | ((with_reducible refine isN1 ?_); refine g_ifN_lt (tgt := 14) (p1 := 4) dX9_isLetter_1 rfl (by omega) rfl (fun c_1 => by exfalso; first | omega | contradiction | exact absurd (by assumption) c_1 | (simp_all; done)) (fun c_1 => ?_)) | refine g_if_lt (tgt := 14) (p1 := 4) dX9_isLetter_1 rfl rfl (fun c_1 => by exfalso; first | omega | contradiction | exact absurd (by assumption) c_1 | (simp_all; done)) (fun c_1 => ?_)
  refine g_iload_n (p0 := 5) (i := 0) dX9_isLetter_4 rfl rfl rfl ?_
  refine g_bipush (p0 := 7) (v := nI 25) dX9_isLetter_5 (by decide) rfl ?_
  first | ((with_reducible refine isN2 ?_); refine g_icmpN_ge (tgt := 14) (p1 := 10) dX9_isLetter_7 rfl (by omega) (by omega) rfl (fun c_7 => ?_) (fun c_7 => by exfalso; first | omega | contradiction | exact absurd (by assumption) c_7 | (simp_all; done))) | refine g_icmp_ge (tgt := 14) (p1 := 10) dX9_isLetter_7 rfl rfl (fun c_7 => ?_) (fun c_7 => by exfalso; first | omega | contradiction | exact absurd (by assumption) c_7 | (simp_all; done))
  refine g_iconst (p0 := 15) (v := nI 0) dX9_isLetter_14 rfl rfl ?_
  refine g_ireturn dX9_isLetter_15 rfl (by first | rfl | exact bool_narrow (by first | exact Or.inl rfl | exact Or.inr rfl | assumption | (split <;> first | exact Or.inl rfl | exact Or.inr rfl))) (?_)
  exact ⟨rfl, rfl⟩
set_option maxRecDepth 20000 in
set_option maxHeartbeats 2000000 in
theorem tableOf_cT {c : Nat} {j : Nat} {σ : Sg} (hj : j < 25) (hv : σ 5 j = nI c) (hc : c < 25) : CM mX9_tableOf [ar 0, ai (nI j)] σ (Ret (nI (10 * (c / 5 + 1) + (c % 5 + 1))) σ) := by
  refine CM_in (ls := [some (ar 0), some (ai (nI j))]) rfl ?_
  refine g_iload_n (p0 := 1) (i := 1) dX9_tableOf_0 rfl rfl rfl ?_
  refine g_cS1R (p0 := 4) (r1 := mX9_isLetter) dX9_tableOf_1 (Or.inl lX9_69) vX9_isLetter (FITi rfl rfl) (Nat.le_of_ble_eq_true rfl) (cIsLetter_T hj) rfl ?_
  first | ((with_reducible refine isN1 ?_); refine g_ifN_eq (tgt := 18) (p1 := 7) dX9_tableOf_4 rfl (by omega) rfl (fun c_4 => by exfalso; first | omega | contradiction | exact absurd (by assumption) c_4 | (simp_all; done)) (fun c_4 => ?_)) | refine g_if_eq (tgt := 18) (p1 := 7) dX9_tableOf_4 rfl rfl (fun c_4 => by exfalso; first | omega | contradiction | exact absurd (by assumption) c_4 | (simp_all; done)) (fun c_4 => ?_)
  refine g_aload_n (p0 := 8) (i := 0) dX9_tableOf_7 rfl rfl rfl ?_
  refine g_getR (p0 := 11) dX9_tableOf_8 fX9_10 (by first | rfl | assumption | exact RW.s (by assumption) | exact TW.s (by assumption)) rfl rfl ?_
  refine g_iload_n (p0 := 12) (i := 1) dX9_tableOf_11 rfl rfl rfl ?_
  refine g_cV1R (p0 := 15) (r1 := mX8_tablePlace) dX9_tableOf_12 lX9_77 vX8_tablePlace (by first | rfl | assumption | exact RW.s (by assumption) | exact TW.s (by assumption)) ⟨_, _, rfl⟩ (FITi rfl rfl) (Nat.le_of_ble_eq_true rfl) (tablePlace_sp TW1 hj hv hc) rfl ?_
  refine g_goto (tgt := 20) dX9_tableOf_15 rfl ?_
  refine g_ireturn dX9_tableOf_20 rfl rfl (?_)
  exact ⟨rfl, rfl⟩
set_option maxRecDepth 20000 in
set_option maxHeartbeats 2000000 in
theorem tableOf_cF {x : Int32} {σ : Sg} (h : CM mX9_isLetter [ai x] σ (Ret (nI 0) σ)) : CM mX9_tableOf [ar 0, ai x] σ (Ret (-1000001) σ) := by
  refine CM_in (ls := [some (ar 0), some (ai x)]) rfl ?_
  refine g_iload_n (p0 := 1) (i := 1) dX9_tableOf_0 rfl rfl rfl ?_
  refine g_cS1R (p0 := 4) (r1 := mX9_isLetter) dX9_tableOf_1 (Or.inl lX9_69) vX9_isLetter (FITi rfl rfl) (Nat.le_of_ble_eq_true rfl) (h) rfl ?_
  first | ((with_reducible refine isN1 ?_); refine g_ifN_eq (tgt := 18) (p1 := 7) dX9_tableOf_4 rfl (by omega) rfl (fun c_4 => ?_) (fun c_4 => by exfalso; first | omega | contradiction | exact absurd (by assumption) c_4 | (simp_all; done))) | refine g_if_eq (tgt := 18) (p1 := 7) dX9_tableOf_4 rfl rfl (fun c_4 => ?_) (fun c_4 => by exfalso; first | omega | contradiction | exact absurd (by assumption) c_4 | (simp_all; done))
  refine g_ldc (p0 := 20) dX9_tableOf_18 qX9_68 rfl ?_
  refine g_ireturn dX9_tableOf_20 rfl rfl (?_)
  exact ⟨rfl, rfl⟩
theorem HC.of {σ σ' : Sg} {n : Nat} {H : Nat → (Nat → Int32) × Nat} (h : HC σ n H) (e : ∀ z, 11 ≤ z → z < 33 → σ' z = σ z) : HC σ' n H := by
  obtain ⟨o, ho, h1, h2, h3, h4⟩ := h
  have b : ∀ i, (o + i) % 4 < 4 := fun i => Nat.mod_lt _ (by decide)
  refine ⟨o, ho, by rw [e 11 (by decide) (by decide)]; exact h1, by rw [e 11 (by decide) (by decide)]; exact h2, h3, fun i hi => ⟨(h4 i hi).1, (h4 i hi).2.of_eq (e _ ?_ ?_) (e _ ?_ ?_) (e _ ?_ ?_)⟩⟩ <;> (have := b i; omega)
theorem RDC.of {σ σ' : Sg} {ρ : Nat → Int32} {s : Nat} (h : RDC σ ρ s) (e : ∀ z, 33 ≤ z → z < 72 → σ' z = σ z) : RDC σ' ρ s := by
  unfold RDC at h ⊢
  obtain ⟨h1, h2, h3, h4, h5, h6, h7⟩ := h
  refine ⟨h1.of_eq (e _ (by decide) (by decide)) (e _ (by decide) (by decide)) (e _ (by decide) (by decide)) (e _ (by decide) (by decide)), ?_, ?_, ?_, ?_, ?_, ?_⟩
  · rw [e 45 (by decide) (by decide), e 47 (by decide) (by decide), e 49 (by decide) (by decide), e 51 (by decide) (by decide), e 53 (by decide) (by decide), e 55 (by decide) (by decide), e 57 (by decide) (by decide), e 59 (by decide) (by decide), e 42 (by decide) (by decide)]
    exact h2
  · rw [e 33 (by decide) (by decide)]; exact h3
  · rw [e 61 (by decide) (by decide), e 63 (by decide) (by decide), e 65 (by decide) (by decide), e 67 (by decide) (by decide), e 69 (by decide) (by decide), e 71 (by decide) (by decide)]
    exact h4
  · rw [e 42 (by decide) (by decide), e 44 (by decide) (by decide)]; exact h5
  · rw [e 44 (by decide) (by decide)]; exact h6
  · rw [e 65 (by decide) (by decide)]; exact h7
