/-! THE INVARIANT, and the small operations -/
theorem i32c (x : Int32) : x < 0 ∨ ∃ j, j < 2147483648 ∧ x = nI j := by
  by_cases h : x.toInt < 0
  · left
    rw [Int32.lt_iff_toInt_lt]
    exact h
  · right
    have h2 := Int32.toInt_lt x
    refine ⟨x.toInt.toNat, by omega, ?_⟩
    apply Int32.toInt_inj.mp
    rw [nI_toInt (by omega)]
    omega
def TX (σ : Sg) (len : Nat) : Prop := σ 76 1 = nI len ∧ σ 79 5 = nI len ∧ len ≤ 60 ∧ ∀ i, i < len → σ 78 i = σ 83 i ∧ ∃ c, c ≤ 126 ∧ 32 ≤ c ∧ σ 78 i = nI c
def Inv (σ : Sg) : Prop := ∃ s n H len, RowOK (σ 80) s ∧ Rep σ 1 (σ 80) s ∧ HC σ n H ∧ HRf σ n H ∧ RDC σ (σ 80) s ∧ TX σ len
def OP (r2 : MR) (As : List AV) : SP := fun w σ1 => ∃ v, w = some (ai v) ∧ CM r2 (ar 79 :: As) σ1 (fun w2 σ2 => w2 = some (ai v) ∧ Inv σ2)
theorem op_same {r1 r2 : MR} {As : List AV} {v : Int32} {σ : Sg} (hI : Inv σ) (h1 : CM r1 (ar 0 :: As) σ (Ret v σ)) (h2 : CM r2 (ar 79 :: As) σ (Ret v σ)) : CM r1 (ar 0 :: As) σ (OP r2 As) := by
  refine CM.mono h1 ?_
  rintro w σ1 ⟨rfl, rfl⟩
  refine ⟨v, rfl, CM.mono h2 ?_⟩
  rintro w2 σ2 ⟨rfl, rfl⟩
  exact ⟨rfl, hI⟩
theorem op_two {r1 r2 : MR} {As : List AV} {v : Int32} {σ σ1 σ2 : Sg} (h1 : CM r1 (ar 0 :: As) σ (Ret v σ1)) (h2 : CM r2 (ar 79 :: As) σ1 (Ret v σ2)) (hI : Inv σ2) : CM r1 (ar 0 :: As) σ (OP r2 As) := by
  refine CM.mono h1 ?_
  rintro w σ1 ⟨rfl, rfl⟩
  refine ⟨v, rfl, CM.mono h2 ?_⟩
  rintro w2 σ2 ⟨rfl, rfl⟩
  exact ⟨rfl, hI⟩
set_option maxRecDepth 20000 in
set_option maxHeartbeats 2000000 in
theorem cIsLetter_T {j : Nat} {σ : Sg} (hj : j < 25) : CM mX9_isLetter [ai (nI j)] σ (Ret (nI 1) σ) := by
  refine CM_in (ls := [some (ai (nI j))]) rfl ?_
  refine g_iload_n (p0 := 1) (i := 0) dX9_isLetter_0 rfl rfl rfl ?_
  first | ((with_reducible refine isN1 ?_); refine g_ifN_lt (tgt := 14) (p1 := 4) dX9_isLetter_1 rfl (by omega) rfl (fun c_1 => by exfalso; first | omega | contradiction | exact absurd (by assumption) c_1 | (simp_all; done)) (fun c_1 => ?_)) | refine g_if_lt (tgt := 14) (p1 := 4) dX9_isLetter_1 rfl rfl (fun c_1 => by exfalso; first | omega | contradiction | exact absurd (by assumption) c_1 | (simp_all; done)) (fun c_1 => ?_)
  refine g_iload_n (p0 := 5) (i := 0) dX9_isLetter_4 rfl rfl rfl ?_
  refine g_bipush (p0 := 7) (v := nI 25) dX9_isLetter_5 (by decide) rfl ?_
  first | ((with_reducible refine isN2 ?_); refine g_icmpN_ge (tgt := 14) (p1 := 10) dX9_isLetter_7 rfl (by omega) (by omega) rfl (fun c_7 => by exfalso; first | omega | contradiction | exact absurd (by assumption) c_7 | (simp_all; done)) (fun c_7 => ?_)) | refine g_icmp_ge (tgt := 14) (p1 := 10) dX9_isLetter_7 rfl rfl (fun c_7 => by exfalso; first | omega | contradiction | exact absurd (by assumption) c_7 | (simp_all; done)) (fun c_7 => ?_)
  refine g_iconst (p0 := 11) (v := nI 1) dX9_isLetter_10 rfl rfl ?_
  refine g_goto (tgt := 15) dX9_isLetter_11 rfl ?_
  refine g_ireturn dX9_isLetter_15 rfl (by first | rfl | exact bool_narrow (by first | exact Or.inl rfl | exact Or.inr rfl | assumption | (split <;> first | exact Or.inl rfl | exact Or.inr rfl))) (?_)
  exact ⟨rfl, rfl⟩
set_option maxRecDepth 20000 in
set_option maxHeartbeats 2000000 in
theorem cIsLetter_F1 {x : Int32} {σ : Sg} (hx : x < 0) : CM mX9_isLetter [ai x] σ (Ret (nI 0) σ) := by
  refine CM_in (ls := [some (ai x)]) rfl ?_
  refine g_iload_n (p0 := 1) (i := 0) dX9_isLetter_0 rfl rfl rfl ?_
  first | ((with_reducible refine isN1 ?_); refine g_ifN_lt (tgt := 14) (p1 := 4) dX9_isLetter_1 rfl (by omega) rfl (fun c_1 => ?_) (fun c_1 => by exfalso; first | omega | contradiction | exact absurd (by assumption) c_1 | (simp_all; done))) | refine g_if_lt (tgt := 14) (p1 := 4) dX9_isLetter_1 rfl rfl (fun c_1 => ?_) (fun c_1 => by exfalso; first | omega | contradiction | exact absurd (by assumption) c_1 | (simp_all; done))
  refine g_iconst (p0 := 15) (v := nI 0) dX9_isLetter_14 rfl rfl ?_
  refine g_ireturn dX9_isLetter_15 rfl (by first | rfl | exact bool_narrow (by first | exact Or.inl rfl | exact Or.inr rfl | assumption | (split <;> first | exact Or.inl rfl | exact Or.inr rfl))) (?_)
  exact ⟨rfl, rfl⟩
set_option maxRecDepth 20000 in
set_option maxHeartbeats 2000000 in
theorem cIsLetter_F2 {j : Nat} {σ : Sg} (hj : 25 ≤ j) (hj2 : j < 2147483648) : CM mX9_isLetter [ai (nI j)] σ (Ret (nI 0) σ) := by
  refine CM_in (ls := [some (ai (nI j))]) rfl ?_
  refine g_iload_n (p0 := 1) (i := 0) dX9_isLetter_0 rfl rfl rfl ?_
  first | ((with_reducible refine isN1 ?_); refine g_ifN_lt (tgt := 14) (p1 := 4) dX9_isLetter_1 rfl (by omega) rfl (fun c_1 => by exfalso; first | omega | contradiction | exact absurd (by assumption) c_1 | (simp_all; done)) (fun c_1 => ?_)) | refine g_if_lt (tgt := 14) (p1 := 4) dX9_isLetter_1 rfl rfl (fun c_1 => by exfalso; first | omega | contradiction | exact absurd (by assumption) c_1 | (simp_all; done)) (fun c_1 => ?_)
  refine g_iload_n (p0 := 5) (i := 0) dX9_isLetter_4 rfl rfl rfl ?_
  refine g_bipush (p0 := 7) (v := nI 25) dX9_isLetter_5 (by decide) rfl ?_
  first | ((with_reducible refine isN2 ?_); refine g_icmpN_ge (tgt := 14) (p1 := 10) dX9_isLetter_7 rfl (by omega) (by omega) rfl (fun c_7 => ?_) (fun c_7 => by exfalso; first | omega | contradiction | exact absurd (by assumption) c_7 | (simp_all; done))) | refine g_icmp_ge (tgt := 14) (p1 := 10) dX9_isLetter_7 rfl rfl (fun c_7 => ?_) (fun c_7 => by exfalso; first | omega | contradiction | exact absurd (by assumption) c_7 | (simp_all; done))
  refine g_iconst (p0 := 15) (v := nI 0) dX9_isLetter_14 rfl rfl ?_
  refine g_ireturn dX9_isLetter_15 rfl (by first | rfl | exact bool_narrow (by first | exact Or.inl rfl | exact Or.inr rfl | assumption | (split <;> first | exact Or.inl rfl | exact Or.inr rfl))) (?_)
  exact ⟨rfl, rfl⟩
theorem letter_c (x : Int32) : (∃ j, j < 25 ∧ x = nI j) ∨ ((∀ σ, CM mX9_isLetter [ai x] σ (Ret (nI 0) σ)) ∧ ∀ σ, CM mX10_isLetter [ai x] σ (Ret (nI 0) σ)) := by
  rcases i32c x with h | ⟨j, hj, rfl⟩
  · exact Or.inr ⟨fun σ => cIsLetter_F1 h, fun σ => isLetter_F (Or.inl h)⟩
  · by_cases h : j < 25
    · exact Or.inl ⟨j, h, rfl⟩
    · exact Or.inr ⟨fun σ => cIsLetter_F2 (by omega) hj, fun σ => isLetter_F (Or.inr ((nI_lt_iff (by omega) hj).mpr (by omega)))⟩
set_option maxRecDepth 20000 in
set_option maxHeartbeats 2000000 in
theorem tableOf_cT {c : Nat} {j : Nat} {σ : Sg} (hj : j < 25) (hv : σ 5 j = nI c) (hc : c < 25) : CM mX9_tableOf [ar 0, ai (nI j)] σ (Ret (nI (10 * (c / 5 + 1) + (c % 5 + 1))) σ) := by
  refine CM_in (ls := [some (ar 0), some (ai (nI j))]) rfl ?_
  refine g_iload_n (p0 := 1) (i := 1) dX9_tableOf_0 rfl rfl rfl ?_
  refine g_cS1R (p0 := 4) (r1 := mX9_isLetter) dX9_tableOf_1 (Or.inl lX9_69) vX9_isLetter (FITi rfl rfl) (Nat.le_of_ble_eq_true rfl) (cIsLetter_T hj) rfl ?_
  first | ((with_reducible refine isN1 ?_); refine g_ifN_eq (tgt := 18) (p1 := 7) dX9_tableOf_4 rfl (by omega) rfl (fun c_4 => by exfalso; first | omega | contradiction | exact absurd (by assumption) c_4 | (simp_all; done)) (fun c_4 => ?_)) | refine g_if_eq (tgt := 18) (p1 := 7) dX9_tableOf_4 rfl rfl (fun c_4 => by exfalso; first | omega | contradiction | exact absurd (by assumption) c_4 | (simp_all; done)) (fun c_4 => ?_)
  refine g_aload_n (p0 := 8) (i := 0) dX9_tableOf_7 rfl rfl rfl ?_
  refine g_getR (p0 := 11) dX9_tableOf_8 fX9_10 (by first | rfl | assumption | exact RW.s (by assumption) | exact TW.s (by assumption)) rfl rfl ?_
  refine g_iload_n (p0 := 12) (i := 1) dX9_tableOf_11 rfl rfl rfl ?_
  refine g_cV1R (p0 := 15) (r1 := mX8_tablePlace) dX9_tableOf_12 lX9_77 vX8_tablePlace (by first | rfl | assumption | exact RW.s (by assumption) | exact TW.s (by assumption)) ⟨_, _, rfl⟩ (FITi rfl rfl) (Nat.le_of_ble_eq_true rfl) (tablePlace_sp TW1 hj hv hc) rfl ?_
  refine g_goto (tgt := 20) dX9_tableOf_15 rfl ?_
  refine g_ireturn dX9_tableOf_20 rfl rfl (?_)
  exact ⟨rfl, rfl⟩
set_option maxRecDepth 20000 in
set_option maxHeartbeats 2000000 in
theorem tableOf_cF {x : Int32} {σ : Sg} (h : CM mX9_isLetter [ai x] σ (Ret (nI 0) σ)) : CM mX9_tableOf [ar 0, ai x] σ (Ret (-1000001) σ) := by
  refine CM_in (ls := [some (ar 0), some (ai x)]) rfl ?_
  refine g_iload_n (p0 := 1) (i := 1) dX9_tableOf_0 rfl rfl rfl ?_
  refine g_cS1R (p0 := 4) (r1 := mX9_isLetter) dX9_tableOf_1 (Or.inl lX9_69) vX9_isLetter (FITi rfl rfl) (Nat.le_of_ble_eq_true rfl) (h) rfl ?_
  first | ((with_reducible refine isN1 ?_); refine g_ifN_eq (tgt := 18) (p1 := 7) dX9_tableOf_4 rfl (by omega) rfl (fun c_4 => ?_) (fun c_4 => by exfalso; first | omega | contradiction | exact absurd (by assumption) c_4 | (simp_all; done))) | refine g_if_eq (tgt := 18) (p1 := 7) dX9_tableOf_4 rfl rfl (fun c_4 => ?_) (fun c_4 => by exfalso; first | omega | contradiction | exact absurd (by assumption) c_4 | (simp_all; done))
  refine g_ldc (p0 := 20) dX9_tableOf_18 qX9_68 rfl ?_
  refine g_ireturn dX9_tableOf_20 rfl rfl (?_)
  exact ⟨rfl, rfl⟩
set_option maxRecDepth 20000 in
set_option maxHeartbeats 2000000 in
theorem tableOf_rT {c : Nat} {j : Nat} {σ : Sg} (hj : j < 25) (hv : σ 80 (4 + j) = nI c) (hc : c < 25) : CM mX10_tableOf [ar 79, ai (nI j)] σ (Ret (nI (10 * (c / 5 + 1) + (c % 5 + 1))) σ) := by
  refine CM_in (ls := [some (ar 79), some (ai (nI j))]) rfl ?_
  refine g_iload_n (p0 := 1) (i := 1) dX10_tableOf_0 rfl rfl rfl ?_
  refine g_cS1R (p0 := 4) (r1 := mX10_isLetter) dX10_tableOf_1 (Or.inl lX10_80) vX10_isLetter (FITi rfl rfl) (Nat.le_of_ble_eq_true rfl) (isLetter_T hj) rfl ?_
  first | ((with_reducible refine isN1 ?_); refine g_ifN_eq (tgt := 15) (p1 := 7) dX10_tableOf_4 rfl (by omega) rfl (fun c_4 => by exfalso; first | omega | contradiction | exact absurd (by assumption) c_4 | (simp_all; done)) (fun c_4 => ?_)) | refine g_if_eq (tgt := 15) (p1 := 7) dX10_tableOf_4 rfl rfl (fun c_4 => by exfalso; first | omega | contradiction | exact absurd (by assumption) c_4 | (simp_all; done)) (fun c_4 => ?_)
  refine g_aload_n (p0 := 8) (i := 0) dX10_tableOf_7 rfl rfl rfl ?_
  refine g_iload_n (p0 := 9) (i := 1) dX10_tableOf_8 rfl rfl rfl ?_
  refine g_cV1R (p0 := 12) (r1 := mX10_toldPlace) dX10_tableOf_9 lX10_84 vX10_toldPlace (by first | rfl | assumption | exact RW.s (by assumption) | exact TW.s (by assumption)) ⟨_, _, rfl⟩ (FITi rfl rfl) (Nat.le_of_ble_eq_true rfl) (toldPlace_sp hj hv hc) rfl ?_
  refine g_goto (tgt := 17) dX10_tableOf_12 rfl ?_
  refine g_ireturn dX10_tableOf_17 rfl rfl (?_)
  exact ⟨rfl, rfl⟩
set_option maxRecDepth 20000 in
set_option maxHeartbeats 2000000 in
theorem tableOf_rF {x : Int32} {σ : Sg} (h : CM mX10_isLetter [ai x] σ (Ret (nI 0) σ)) : CM mX10_tableOf [ar 79, ai x] σ (Ret (-1000001) σ) := by
  refine CM_in (ls := [some (ar 79), some (ai x)]) rfl ?_
  refine g_iload_n (p0 := 1) (i := 1) dX10_tableOf_0 rfl rfl rfl ?_
  refine g_cS1R (p0 := 4) (r1 := mX10_isLetter) dX10_tableOf_1 (Or.inl lX10_80) vX10_isLetter (FITi rfl rfl) (Nat.le_of_ble_eq_true rfl) (h) rfl ?_
  first | ((with_reducible refine isN1 ?_); refine g_ifN_eq (tgt := 15) (p1 := 7) dX10_tableOf_4 rfl (by omega) rfl (fun c_4 => ?_) (fun c_4 => by exfalso; first | omega | contradiction | exact absurd (by assumption) c_4 | (simp_all; done))) | refine g_if_eq (tgt := 15) (p1 := 7) dX10_tableOf_4 rfl rfl (fun c_4 => ?_) (fun c_4 => by exfalso; first | omega | contradiction | exact absurd (by assumption) c_4 | (simp_all; done))
  refine g_ldc (p0 := 17) dX10_tableOf_15 qX10_76 rfl ?_
  refine g_ireturn dX10_tableOf_17 rfl rfl (?_)
  exact ⟨rfl, rfl⟩
theorem op_tableOf (x0 : Int32) : OpOK Inv mX9_tableOf mX10_tableOf [ai x0] := by
  intro σ hI
  rcases letter_c x0 with ⟨j, hj, rfl⟩ | ⟨h1, h2⟩
  · obtain ⟨s, n, H, len, hR, hRep, h3⟩ := id hI
    obtain ⟨cf, hcf, hinj⟩ := hR.2.2.2.1
    exact op_same hI (tableOf_cT hj ((hRep.2.2.2.2.1 j hj).trans (hcf j hj).1) (hcf j hj).2) (tableOf_rT hj (hcf j hj).1 (hcf j hj).2)
  · exact op_same hI (tableOf_cF (h1 σ)) (tableOf_rF (h2 σ))
set_option maxRecDepth 20000 in
set_option maxHeartbeats 2000000 in
theorem clearText_c {len : Nat} {σ : Sg} (h : σ 76 1 = nI len) : CM mX9_clearText [ar 0] σ (Ret (nI len) (up σ 76 1 (nI 0))) := by
  refine CM_in (ls := [some (ar 0), none]) rfl ?_
  refine g_aload_n (p0 := 1) (i := 0) dX9_clearText_0 rfl rfl rfl ?_
  refine g_getR (p0 := 4) dX9_clearText_1 fX9_50 (by first | rfl | assumption | exact RW.s (by assumption) | exact TW.s (by assumption)) rfl rfl ?_
  refine g_getI (p0 := 7) dX9_clearText_4 fX9_259 (by first | rfl | assumption | exact RW.s (by assumption) | exact TW.s (by assumption)) rfl (by first | assumption | ((repeat (first | exact up_hit | refine up_nv (by decide) ?_ | refine up_mv (by first | decide | omega) ?_)) <;> first | assumption | rfl)) rfl ?_
  refine g_istore_n (p0 := 8) (i := 1) (ls2 := [_, _]) dX9_clearText_7 rfl (Nat.le_of_ble_eq_true rfl) rfl rfl ?_
  refine g_aload_n (p0 := 9) (i := 0) dX9_clearText_8 rfl rfl rfl ?_
  refine g_getR (p0 := 12) dX9_clearText_9 fX9_50 (by first | rfl | assumption | exact RW.s (by assumption) | exact TW.s (by assumption)) rfl rfl ?_
  refine g_iconst (p0 := 13) (v := nI 0) dX9_clearText_12 rfl rfl ?_
  refine g_put (p0 := 16) dX9_clearText_13 fX9_259 (by first | rfl | assumption | exact RW.s (by assumption) | exact TW.s (by assumption)) rfl nX5_1 (pX5_1 _) rfl ?_
  refine g_iload_n (p0 := 17) (i := 1) dX9_clearText_16 rfl rfl rfl ?_
  refine g_ireturn dX9_clearText_17 rfl rfl (?_)
  exact ⟨rfl, rfl⟩
set_option maxRecDepth 20000 in
set_option maxHeartbeats 2000000 in
theorem clearText_r {len : Nat} {σ : Sg} (h : σ 79 5 = nI len) : CM mX10_clearText [ar 79] σ (Ret (nI len) (up σ 79 5 (nI 0))) := by
  refine CM_in (ls := [some (ar 79), none]) rfl ?_
  refine g_aload_n (p0 := 1) (i := 0) dX10_clearText_0 rfl rfl rfl ?_
  refine g_getI (p0 := 4) dX10_clearText_1 fX10_187 (by first | rfl | assumption | exact RW.s (by assumption) | exact TW.s (by assumption)) rfl (by first | assumption | ((repeat (first | exact up_hit | refine up_nv (by decide) ?_ | refine up_mv (by first | decide | omega) ?_)) <;> first | assumption | rfl)) rfl ?_
  refine g_istore_n (p0 := 5) (i := 1) (ls2 := [_, _]) dX10_clearText_4 rfl (Nat.le_of_ble_eq_true rfl) rfl rfl ?_
  refine g_aload_n (p0 := 6) (i := 0) dX10_clearText_5 rfl rfl rfl ?_
  refine g_iconst (p0 := 7) (v := nI 0) dX10_clearText_6 rfl rfl ?_
  refine g_put (p0 := 10) dX10_clearText_7 fX10_187 (by first | rfl | assumption | exact RW.s (by assumption) | exact TW.s (by assumption)) rfl nX10_5 (pX10_5 _) rfl ?_
  refine g_iload_n (p0 := 11) (i := 1) dX10_clearText_10 rfl rfl rfl ?_
  refine g_ireturn dX10_clearText_11 rfl rfl (?_)
  exact ⟨rfl, rfl⟩
theorem HC.of {σ σ' : Sg} {n : Nat} {H : Nat → (Nat → Int32) × Nat} (h : HC σ n H) (e : ∀ z, 11 ≤ z → z < 33 → σ' z = σ z) : HC σ' n H := by
  obtain ⟨o, ho, h1, h2, h3, h4⟩ := h
  have b : ∀ i, (o + i) % 4 < 4 := fun i => Nat.mod_lt _ (by decide)
  refine ⟨o, ho, by rw [e 11 (by decide) (by decide)]; exact h1, by rw [e 11 (by decide) (by decide)]; exact h2, h3, fun i hi => ⟨(h4 i hi).1, (h4 i hi).2.of_eq (e _ ?_ ?_) (e _ ?_ ?_) (e _ ?_ ?_)⟩⟩ <;> (have := b i; omega)
theorem RDC.of {σ σ' : Sg} {ρ : Nat → Int32} {s : Nat} (h : RDC σ ρ s) (e : ∀ z, 33 ≤ z → z < 72 → σ' z = σ z) : RDC σ' ρ s := by
  unfold RDC at h ⊢
  obtain ⟨h1, h2, h3, h4, h5, h6, h7⟩ := h
  refine ⟨h1.of_eq (e _ (by decide) (by decide)) (e _ (by decide) (by decide)) (e _ (by decide) (by decide)) (e _ (by decide) (by decide)), ?_, ?_, ?_, ?_, ?_, ?_⟩
  · rw [e 45 (by decide) (by decide), e 47 (by decide) (by decide), e 49 (by decide) (by decide), e 51 (by decide) (by decide), e 53 (by decide) (by decide), e 55 (by decide) (by decide), e 57 (by decide) (by decide), e 59 (by decide) (by decide), e 42 (by decide) (by decide)]
    exact h2
  · rw [e 33 (by decide) (by decide)]; exact h3
  · rw [e 61 (by decide) (by decide), e 63 (by decide) (by decide), e 65 (by decide) (by decide), e 67 (by decide) (by decide), e 69 (by decide) (by decide), e 71 (by decide) (by decide)]
    exact h4
  · rw [e 42 (by decide) (by decide), e 44 (by decide) (by decide)]; exact h5
  · rw [e 44 (by decide) (by decide)]; exact h6
  · rw [e 65 (by decide) (by decide)]; exact h7
theorem HRf.of {σ σ' : Sg} {n : Nat} {H : Nat → (Nat → Int32) × Nat} (h : HRf σ n H) (e : σ' 79 3 = σ 79 3) (e2 : σ' 81 = σ 81) : HRf σ' n H := by
  unfold HRf
  rw [e, e2]
  exact h
theorem op_clearText (u : Unit) : OpOK Inv mX9_clearText mX10_clearText [] := by
  intro σ hI
  obtain ⟨s, n, H, len, hR, hRep, hHC, hHR, hRD, hT⟩ := id hI
  refine op_two (clearText_c hT.1) (clearText_r (by rw [up_ne (by decide)]; exact hT.2.1)) ?_
  have f : ∀ z, z ≠ 76 → z ≠ 79 → (up (up σ 76 1 (nI 0)) 79 5 (nI 0)) z = σ z := fun z h1 h2 => by rw [up_ne h2, up_ne h1]
  refine ⟨s, n, H, 0, ?_, ?_, hHC.of (fun z h1 h2 => f z (by omega) (by omega)), hHR.of ?_ (f _ (by decide) (by decide)), ?_, ⟨?_, up_hit, by decide, fun i hi => absurd hi (Nat.not_lt_zero i)⟩⟩
  · rw [f 80 (by decide) (by decide)]; exact hR
  · rw [f 80 (by decide) (by decide)]; exact hRep.of_eq (f _ (by decide) (by decide)) (f _ (by decide) (by decide)) (f _ (by decide) (by decide))
  · rw [up_miss (by decide), up_ne (by decide)]
  · rw [f 80 (by decide) (by decide)]; exact hRD.of (fun z h1 h2 => f z (by omega) (by omega))
  · rw [up_ne (by decide), up_hit]
