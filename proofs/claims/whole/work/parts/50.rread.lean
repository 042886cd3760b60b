/-! READING, the reference: a stroke at a time -/
set_option maxRecDepth 20000 in
set_option maxHeartbeats 2000000 in
theorem rcaseOf_sp {g bt : Int32} {σ : Sg} (hb : σ 80 0 = bt) : CM mX10_caseOf [ar 79, ai g] σ (Ret (nI (cs bt g)) σ) := by
  refine CM_in (ls := [some (ar 79), some (ai g), none, none]) rfl ?_
  refine g_iconst (p0 := 1) (v := nI 4) dX10_caseOf_0 rfl rfl ?_
  refine g_iload_n (p0 := 2) (i := 1) dX10_caseOf_1 rfl rfl rfl ?_
  first | ((with_reducible refine isN2 ?_); refine g_imulN (p0 := 3) dX10_caseOf_2 rfl ?_) | refine g_imul (p0 := 3) dX10_caseOf_2 rfl ?_
  refine g_istore_n (p0 := 4) (i := 2) (ls2 := [_, _, _, _]) dX10_caseOf_3 rfl (Nat.le_of_ble_eq_true rfl) rfl rfl ?_
  refine g_aload_n (p0 := 5) (i := 0) dX10_caseOf_4 rfl rfl rfl ?_
  refine g_getR (p0 := 8) dX10_caseOf_5 fX10_7 (by first | rfl | assumption | exact RW.s (by assumption) | exact TW.s (by assumption)) rfl rfl ?_
  refine g_iconst (p0 := 9) (v := nI 0) dX10_caseOf_8 rfl rfl ?_
  first | ((with_reducible refine isN1 ?_); refine g_aldN (p0 := 10) dX10_caseOf_9 (by first | rfl | assumption | exact RW.s (by assumption) | exact TW.s (by assumption)) (by first | decide | assumption) (by omega) (by first | assumption | ((repeat (first | exact up_hit | refine up_nv (by decide) ?_ | refine up_mv (by first | decide | omega) ?_)) <;> first | assumption | rfl)) rfl ?_) | refine g_ald (p0 := 10) dX10_caseOf_9 (by first | rfl | assumption | exact RW.s (by assumption) | exact TW.s (by assumption)) (by assumption) (by first | assumption | ((repeat (first | exact up_hit | refine up_nv (by decide) ?_ | refine up_mv (by first | decide | omega) ?_)) <;> first | assumption | rfl)) rfl ?_
  refine g_istore_n (p0 := 11) (i := 3) (ls2 := [_, _, _, _]) dX10_caseOf_10 rfl (Nat.le_of_ble_eq_true rfl) rfl rfl ?_
  refine g_iload_n (p0 := 12) (i := 2) dX10_caseOf_11 rfl rfl rfl ?_
  refine g_iconst (p0 := 13) (v := nI 3) dX10_caseOf_12 rfl rfl ?_
  refine g_iload_n (p0 := 14) (i := 3) dX10_caseOf_13 rfl rfl rfl ?_
  first | ((with_reducible refine isN2 ?_); refine g_imulN (p0 := 15) dX10_caseOf_14 rfl ?_) | refine g_imul (p0 := 15) dX10_caseOf_14 rfl ?_
  first | ((with_reducible refine isN2 ?_); refine g_icmpN_ge (tgt := 22) (p1 := 18) dX10_caseOf_15 rfl (by omega) (by omega) rfl (fun c_15 => ?_) (fun c_15 => ?_)) | refine g_icmp_ge (tgt := 22) (p1 := 18) dX10_caseOf_15 rfl rfl (fun c_15 => ?_) (fun c_15 => ?_)
  · refine g_iload_n (p0 := 23) (i := 2) dX10_caseOf_22 rfl rfl rfl ?_
    refine g_bipush (p0 := 25) (v := nI 6) dX10_caseOf_23 (by decide) rfl ?_
    refine g_iload_n (p0 := 26) (i := 3) dX10_caseOf_25 rfl rfl rfl ?_
    first | ((with_reducible refine isN2 ?_); refine g_imulN (p0 := 27) dX10_caseOf_26 rfl ?_) | refine g_imul (p0 := 27) dX10_caseOf_26 rfl ?_
    first | ((with_reducible refine isN2 ?_); refine g_icmpN_ge (tgt := 34) (p1 := 30) dX10_caseOf_27 rfl (by omega) (by omega) rfl (fun c_27 => ?_) (fun c_27 => ?_)) | refine g_icmp_ge (tgt := 34) (p1 := 30) dX10_caseOf_27 rfl rfl (fun c_27 => ?_) (fun c_27 => ?_)
    · refine g_iload_n (p0 := 35) (i := 2) dX10_caseOf_34 rfl rfl rfl ?_
      refine g_bipush (p0 := 37) (v := nI 10) dX10_caseOf_35 (by decide) rfl ?_
      refine g_iload_n (p0 := 38) (i := 3) dX10_caseOf_37 rfl rfl rfl ?_
      first | ((with_reducible refine isN2 ?_); refine g_imulN (p0 := 39) dX10_caseOf_38 rfl ?_) | refine g_imul (p0 := 39) dX10_caseOf_38 rfl ?_
      first | ((with_reducible refine isN2 ?_); refine g_icmpN_ge (tgt := 46) (p1 := 42) dX10_caseOf_39 rfl (by omega) (by omega) rfl (fun c_39 => ?_) (fun c_39 => ?_)) | refine g_icmp_ge (tgt := 46) (p1 := 42) dX10_caseOf_39 rfl rfl (fun c_39 => ?_) (fun c_39 => ?_)
      · refine g_iload_n (p0 := 47) (i := 2) dX10_caseOf_46 rfl rfl rfl ?_
        refine g_bipush (p0 := 49) (v := nI 18) dX10_caseOf_47 (by decide) rfl ?_
        refine g_iload_n (p0 := 50) (i := 3) dX10_caseOf_49 rfl rfl rfl ?_
        first | ((with_reducible refine isN2 ?_); refine g_imulN (p0 := 51) dX10_caseOf_50 rfl ?_) | refine g_imul (p0 := 51) dX10_caseOf_50 rfl ?_
        first | ((with_reducible refine isN2 ?_); refine g_icmpN_ge (tgt := 58) (p1 := 54) dX10_caseOf_51 rfl (by omega) (by omega) rfl (fun c_51 => ?_) (fun c_51 => ?_)) | refine g_icmp_ge (tgt := 58) (p1 := 54) dX10_caseOf_51 rfl rfl (fun c_51 => ?_) (fun c_51 => ?_)
        · refine g_iload_n (p0 := 59) (i := 2) dX10_caseOf_58 rfl rfl rfl ?_
          refine g_bipush (p0 := 61) (v := nI 32) dX10_caseOf_59 (by decide) rfl ?_
          refine g_iload_n (p0 := 62) (i := 3) dX10_caseOf_61 rfl rfl rfl ?_
          first | ((with_reducible refine isN2 ?_); refine g_imulN (p0 := 63) dX10_caseOf_62 rfl ?_) | refine g_imul (p0 := 63) dX10_caseOf_62 rfl ?_
          first | ((with_reducible refine isN2 ?_); refine g_icmpN_ge (tgt := 70) (p1 := 66) dX10_caseOf_63 rfl (by omega) (by omega) rfl (fun c_63 => ?_) (fun c_63 => ?_)) | refine g_icmp_ge (tgt := 70) (p1 := 66) dX10_caseOf_63 rfl rfl (fun c_63 => ?_) (fun c_63 => ?_)
          · refine g_iconst (p0 := 71) (v := nI 5) dX10_caseOf_70 rfl rfl ?_
            refine g_ireturn dX10_caseOf_71 rfl rfl (?_)
            exact Ret.i (by simp [cs, *]) rfl
          · refine g_iconst (p0 := 67) (v := nI 4) dX10_caseOf_66 rfl rfl ?_
            refine g_goto (tgt := 71) dX10_caseOf_67 rfl ?_
            refine g_ireturn dX10_caseOf_71 rfl rfl (?_)
            exact Ret.i (by simp [cs, *]) rfl
        · refine g_iconst (p0 := 55) (v := nI 3) dX10_caseOf_54 rfl rfl ?_
          refine g_goto (tgt := 71) dX10_caseOf_55 rfl ?_
          refine g_ireturn dX10_caseOf_71 rfl rfl (?_)
          exact Ret.i (by simp [cs, *]) rfl
      · refine g_iconst (p0 := 43) (v := nI 2) dX10_caseOf_42 rfl rfl ?_
        refine g_goto (tgt := 71) dX10_caseOf_43 rfl ?_
        refine g_ireturn dX10_caseOf_71 rfl rfl (?_)
        exact Ret.i (by simp [cs, *]) rfl
    · refine g_iconst (p0 := 31) (v := nI 1) dX10_caseOf_30 rfl rfl ?_
      refine g_goto (tgt := 71) dX10_caseOf_31 rfl ?_
      refine g_ireturn dX10_caseOf_71 rfl rfl (?_)
      exact Ret.i (by simp [cs, *]) rfl
  · refine g_iconst (p0 := 19) (v := nI 0) dX10_caseOf_18 rfl rfl ?_
    refine g_goto (tgt := 71) dX10_caseOf_19 rfl ?_
    refine g_ireturn dX10_caseOf_71 rfl rfl (?_)
    exact Ret.i (by simp [cs, *]) rfl
def LTr (σ : Sg) (L : Nat) (g a b : Nat → Nat) : Prop := σ 79 12 = nI L ∧ ∀ l, l < L → σ 89 l = nI (g l) ∧ σ 90 l = nI (a l) ∧ σ 91 l = nI (b l)
def MTr (σ : Sg) (M : Nat) (s f p d : Nat → Nat) : Prop := σ 79 11 = nI M ∧ ∀ m, m < M → σ 93 m = nI (s m) ∧ σ 92 m = nI (f m) ∧ σ 94 m = nI (p m) ∧ σ 95 m = nI (d m)
theorem LTr.of {σ σ' : Sg} {L : Nat} {g a b : Nat → Nat} (h : LTr σ L g a b) (h1 : σ' 79 12 = σ 79 12) (h2 : σ' 89 = σ 89) (h3 : σ' 90 = σ 90) (h4 : σ' 91 = σ 91) : LTr σ' L g a b := by
  unfold LTr
  rw [h1, h2, h3, h4]
  exact h
theorem MTr.of {σ σ' : Sg} {M : Nat} {s f p d : Nat → Nat} (h : MTr σ M s f p d) (h1 : σ' 79 11 = σ 79 11) (h2 : σ' 93 = σ 93) (h3 : σ' 92 = σ 92) (h4 : σ' 94 = σ 94) (h5 : σ' 95 = σ 95) : MTr σ' M s f p d := by
  unfold MTr
  rw [h1, h2, h3, h4, h5]
  exact h
theorem LTr.cong {σ : Sg} {L L' : Nat} {g a b g' a' b' : Nat → Nat} (h : LTr σ L g a b) (e : L = L') (hg : ∀ l, l < L → g l = g' l) (ha : ∀ l, l < L → a l = a' l) (hb : ∀ l, l < L → b l = b' l) : LTr σ L' g' a' b' := by
  subst e
  refine ⟨h.1, fun l hl => ?_⟩
  rw [← hg l hl, ← ha l hl, ← hb l hl]
  exact h.2 l hl
theorem MTr.cong {σ : Sg} {M M' : Nat} {s f p d s' f' p' d' : Nat → Nat} (h : MTr σ M s f p d) (e : M = M') (h1 : ∀ m, m < M → s m = s' m) (h2 : ∀ m, m < M → f m = f' m) (h4 : ∀ m, m < M → p m = p' m) (h5 : ∀ m, m < M → d m = d' m) : MTr σ M' s' f' p' d' := by
  subst e
  refine ⟨h.1, fun m hm => ?_⟩
  rw [← h1 m hm, ← h2 m hm, ← h4 m hm, ← h5 m hm]
  exact h.2 m hm
theorem nu_same {f : Nat → Nat} {i x : Nat} (h : x = f i) : nu f i x = f := by
  funext j
  by_cases hj : j = i
  · subst hj; simp [nu, h]
  · simp [nu, hj]
set_option maxRecDepth 20000 in
set_option maxHeartbeats 2000000 in
theorem isDoubtful_z {x : Nat} {σ : Sg} (hx : σ 85 0 = nI x) : CM mX10_isDoubtful [ar 79, ai (nI 0)] σ (Ret (nI 0) σ) := by
  refine CM_in (ls := [some (ar 79), some (ai (nI 0)), none]) rfl ?_
  refine g_aload_n (p0 := 1) (i := 0) dX10_isDoubtful_0 rfl rfl rfl ?_
  refine g_getR (p0 := 4) dX10_isDoubtful_1 fX10_25 (by first | rfl | assumption | exact RW.s (by assumption) | exact TW.s (by assumption)) rfl rfl ?_
  refine g_iload_n (p0 := 5) (i := 1) dX10_isDoubtful_4 rfl rfl rfl ?_
  first | ((with_reducible refine isN1 ?_); refine g_aldN (p0 := 6) dX10_isDoubtful_5 (by first | rfl | assumption | exact RW.s (by assumption) | exact TW.s (by assumption)) (by first | decide | assumption) (by omega) (by first | assumption | ((repeat (first | exact up_hit | refine up_nv (by decide) ?_ | refine up_mv (by first | decide | omega) ?_)) <;> first | assumption | rfl)) rfl ?_) | refine g_ald (p0 := 6) dX10_isDoubtful_5 (by first | rfl | assumption | exact RW.s (by assumption) | exact TW.s (by assumption)) (by assumption) (by first | assumption | ((repeat (first | exact up_hit | refine up_nv (by decide) ?_ | refine up_mv (by first | decide | omega) ?_)) <;> first | assumption | rfl)) rfl ?_
  refine g_istore_n (p0 := 7) (i := 2) (ls2 := [_, _, _]) dX10_isDoubtful_6 rfl (Nat.le_of_ble_eq_true rfl) rfl rfl ?_
  refine g_iload_n (p0 := 8) (i := 1) dX10_isDoubtful_7 rfl rfl rfl ?_
  first | ((with_reducible refine isN1 ?_); refine g_ifN_le (tgt := 57) (p1 := 11) dX10_isDoubtful_8 rfl (by omega) rfl (fun c_8 => ?_) (fun c_8 => by exfalso; first | omega | contradiction | exact absurd (by assumption) c_8 | (simp_all; done))) | refine g_if_le (tgt := 57) (p1 := 11) dX10_isDoubtful_8 rfl rfl (fun c_8 => ?_) (fun c_8 => by exfalso; first | omega | contradiction | exact absurd (by assumption) c_8 | (simp_all; done))
  refine g_iconst (p0 := 58) (v := nI 0) dX10_isDoubtful_57 rfl rfl ?_
  refine g_ireturn dX10_isDoubtful_58 rfl (by first | rfl | exact bool_narrow (by first | exact Or.inl rfl | exact Or.inr rfl | assumption | (split <;> first | exact Or.inl rfl | exact Or.inr rfl))) (?_)
  exact ⟨rfl, rfl⟩
set_option maxRecDepth 20000 in
set_option maxHeartbeats 2000000 in
theorem isDoubtful_0 {k x : Nat} {g bt tl : Int32} {σ : Sg} (hk : k < 160) (hx : σ 85 k = nI x) (hx5 : x ≤ 5) (hg : σ 84 k = g) (hb : σ 80 0 = bt) (ht : σ 80 1 = tl) (h0 : 0 < k) (h1 : cs bt (g - tl) = x) (h2 : cs bt (g + tl) = x) : CM mX10_isDoubtful [ar 79, ai (nI k)] σ (Ret (nI 0) σ) := by
  have q1 := cs_le bt g
  have q2 := cs_le bt (g - tl)
  have q3 := cs_le bt (g + tl)
  refine CM_in (ls := [some (ar 79), some (ai (nI k)), none]) rfl ?_
  refine g_aload_n (p0 := 1) (i := 0) dX10_isDoubtful_0 rfl rfl rfl ?_
  refine g_getR (p0 := 4) dX10_isDoubtful_1 fX10_25 (by first | rfl | assumption | exact RW.s (by assumption) | exact TW.s (by assumption)) rfl rfl ?_
  refine g_iload_n (p0 := 5) (i := 1) dX10_isDoubtful_4 rfl rfl rfl ?_
  first | ((with_reducible refine isN1 ?_); refine g_aldN (p0 := 6) dX10_isDoubtful_5 (by first | rfl | assumption | exact RW.s (by assumption) | exact TW.s (by assumption)) (by first | decide | assumption) (by omega) (by first | assumption | ((repeat (first | exact up_hit | refine up_nv (by decide) ?_ | refine up_mv (by first | decide | omega) ?_)) <;> first | assumption | rfl)) rfl ?_) | refine g_ald (p0 := 6) dX10_isDoubtful_5 (by first | rfl | assumption | exact RW.s (by assumption) | exact TW.s (by assumption)) (by assumption) (by first | assumption | ((repeat (first | exact up_hit | refine up_nv (by decide) ?_ | refine up_mv (by first | decide | omega) ?_)) <;> first | assumption | rfl)) rfl ?_
  refine g_istore_n (p0 := 7) (i := 2) (ls2 := [_, _, _]) dX10_isDoubtful_6 rfl (Nat.le_of_ble_eq_true rfl) rfl rfl ?_
  refine g_iload_n (p0 := 8) (i := 1) dX10_isDoubtful_7 rfl rfl rfl ?_
  first | ((with_reducible refine isN1 ?_); refine g_ifN_le (tgt := 57) (p1 := 11) dX10_isDoubtful_8 rfl (by omega) rfl (fun c_8 => by exfalso; first | omega | contradiction | exact absurd (by assumption) c_8 | (simp_all; done)) (fun c_8 => ?_)) | refine g_if_le (tgt := 57) (p1 := 11) dX10_isDoubtful_8 rfl rfl (fun c_8 => by exfalso; first | omega | contradiction | exact absurd (by assumption) c_8 | (simp_all; done)) (fun c_8 => ?_)
  refine g_aload_n (p0 := 12) (i := 0) dX10_isDoubtful_11 rfl rfl rfl ?_
  refine g_aload_n (p0 := 13) (i := 0) dX10_isDoubtful_12 rfl rfl rfl ?_
  refine g_getR (p0 := 16) dX10_isDoubtful_13 fX10_22 (by first | rfl | assumption | exact RW.s (by assumption) | exact TW.s (by assumption)) rfl rfl ?_
  refine g_iload_n (p0 := 17) (i := 1) dX10_isDoubtful_16 rfl rfl rfl ?_
  first | ((with_reducible refine isN1 ?_); refine g_aldN (p0 := 18) dX10_isDoubtful_17 (by first | rfl | assumption | exact RW.s (by assumption) | exact TW.s (by assumption)) (by first | decide | assumption) (by omega) (by first | assumption | ((repeat (first | exact up_hit | refine up_nv (by decide) ?_ | refine up_mv (by first | decide | omega) ?_)) <;> first | assumption | rfl)) rfl ?_) | refine g_ald (p0 := 18) dX10_isDoubtful_17 (by first | rfl | assumption | exact RW.s (by assumption) | exact TW.s (by assumption)) (by assumption) (by first | assumption | ((repeat (first | exact up_hit | refine up_nv (by decide) ?_ | refine up_mv (by first | decide | omega) ?_)) <;> first | assumption | rfl)) rfl ?_
  refine g_aload_n (p0 := 19) (i := 0) dX10_isDoubtful_18 rfl rfl rfl ?_
  refine g_getR (p0 := 22) dX10_isDoubtful_19 fX10_7 (by first | rfl | assumption | exact RW.s (by assumption) | exact TW.s (by assumption)) rfl rfl ?_
  refine g_iconst (p0 := 23) (v := nI 1) dX10_isDoubtful_22 rfl rfl ?_
  first | ((with_reducible refine isN1 ?_); refine g_aldN (p0 := 24) dX10_isDoubtful_23 (by first | rfl | assumption | exact RW.s (by assumption) | exact TW.s (by assumption)) (by first | decide | assumption) (by omega) (by first | assumption | ((repeat (first | exact up_hit | refine up_nv (by decide) ?_ | refine up_mv (by first | decide | omega) ?_)) <;> first | assumption | rfl)) rfl ?_) | refine g_ald (p0 := 24) dX10_isDoubtful_23 (by first | rfl | assumption | exact RW.s (by assumption) | exact TW.s (by assumption)) (by assumption) (by first | assumption | ((repeat (first | exact up_hit | refine up_nv (by decide) ?_ | refine up_mv (by first | decide | omega) ?_)) <;> first | assumption | rfl)) rfl ?_
  first | ((with_reducible refine isN2 ?_); refine g_isubN (p0 := 25) dX10_isDoubtful_24 (by omega) rfl ?_) | refine g_isub (p0 := 25) dX10_isDoubtful_24 rfl ?_
  refine g_cV1R (p0 := 28) (r1 := mX10_caseOf) dX10_isDoubtful_25 lX10_115 vX10_caseOf (by first | rfl | assumption | exact RW.s (by assumption) | exact TW.s (by assumption)) ⟨_, _, rfl⟩ (FITi rfl rfl) (Nat.le_of_ble_eq_true rfl) (rcaseOf_sp (by first | assumption | ((repeat (first | exact up_hit | refine up_nv (by decide) ?_ | refine up_mv (by first | decide | omega) ?_)) <;> first | assumption | rfl))) rfl ?_
  refine g_iload_n (p0 := 29) (i := 2) dX10_isDoubtful_28 rfl rfl rfl ?_
  first | ((with_reducible refine isN2 ?_); refine g_icmpN_ne (tgt := 53) (p1 := 32) dX10_isDoubtful_29 rfl (by omega) (by omega) rfl (fun c_29 => by exfalso; first | omega | contradiction | exact absurd (by assumption) c_29 | (simp_all; done)) (fun c_29 => ?_)) | refine g_icmp_ne (tgt := 53) (p1 := 32) dX10_isDoubtful_29 rfl rfl (fun c_29 => by exfalso; first | omega | contradiction | exact absurd (by assumption) c_29 | (simp_all; done)) (fun c_29 => ?_)
  refine g_aload_n (p0 := 33) (i := 0) dX10_isDoubtful_32 rfl rfl rfl ?_
  refine g_aload_n (p0 := 34) (i := 0) dX10_isDoubtful_33 rfl rfl rfl ?_
  refine g_getR (p0 := 37) dX10_isDoubtful_34 fX10_22 (by first | rfl | assumption | exact RW.s (by assumption) | exact TW.s (by assumption)) rfl rfl ?_
  refine g_iload_n (p0 := 38) (i := 1) dX10_isDoubtful_37 rfl rfl rfl ?_
  first | ((with_reducible refine isN1 ?_); refine g_aldN (p0 := 39) dX10_isDoubtful_38 (by first | rfl | assumption | exact RW.s (by assumption) | exact TW.s (by assumption)) (by first | decide | assumption) (by omega) (by first | assumption | ((repeat (first | exact up_hit | refine up_nv (by decide) ?_ | refine up_mv (by first | decide | omega) ?_)) <;> first | assumption | rfl)) rfl ?_) | refine g_ald (p0 := 39) dX10_isDoubtful_38 (by first | rfl | assumption | exact RW.s (by assumption) | exact TW.s (by assumption)) (by assumption) (by first | assumption | ((repeat (first | exact up_hit | refine up_nv (by decide) ?_ | refine up_mv (by first | decide | omega) ?_)) <;> first | assumption | rfl)) rfl ?_
  refine g_aload_n (p0 := 40) (i := 0) dX10_isDoubtful_39 rfl rfl rfl ?_
  refine g_getR (p0 := 43) dX10_isDoubtful_40 fX10_7 (by first | rfl | assumption | exact RW.s (by assumption) | exact TW.s (by assumption)) rfl rfl ?_
  refine g_iconst (p0 := 44) (v := nI 1) dX10_isDoubtful_43 rfl rfl ?_
  first | ((with_reducible refine isN1 ?_); refine g_aldN (p0 := 45) dX10_isDoubtful_44 (by first | rfl | assumption | exact RW.s (by assumption) | exact TW.s (by assumption)) (by first | decide | assumption) (by omega) (by first | assumption | ((repeat (first | exact up_hit | refine up_nv (by decide) ?_ | refine up_mv (by first | decide | omega) ?_)) <;> first | assumption | rfl)) rfl ?_) | refine g_ald (p0 := 45) dX10_isDoubtful_44 (by first | rfl | assumption | exact RW.s (by assumption) | exact TW.s (by assumption)) (by assumption) (by first | assumption | ((repeat (first | exact up_hit | refine up_nv (by decide) ?_ | refine up_mv (by first | decide | omega) ?_)) <;> first | assumption | rfl)) rfl ?_
  first | ((with_reducible refine isN2 ?_); refine g_iaddN (p0 := 46) dX10_isDoubtful_45 rfl ?_) | refine g_iadd (p0 := 46) dX10_isDoubtful_45 rfl ?_
  refine g_cV1R (p0 := 49) (r1 := mX10_caseOf) dX10_isDoubtful_46 lX10_115 vX10_caseOf (by first | rfl | assumption | exact RW.s (by assumption) | exact TW.s (by assumption)) ⟨_, _, rfl⟩ (FITi rfl rfl) (Nat.le_of_ble_eq_true rfl) (rcaseOf_sp (by first | assumption | ((repeat (first | exact up_hit | refine up_nv (by decide) ?_ | refine up_mv (by first | decide | omega) ?_)) <;> first | assumption | rfl))) rfl ?_
  refine g_iload_n (p0 := 50) (i := 2) dX10_isDoubtful_49 rfl rfl rfl ?_
  first | ((with_reducible refine isN2 ?_); refine g_icmpN_eq (tgt := 57) (p1 := 53) dX10_isDoubtful_50 rfl (by omega) (by omega) rfl (fun c_50 => ?_) (fun c_50 => by exfalso; first | omega | contradiction | exact absurd (by assumption) c_50 | (simp_all; done))) | refine g_icmp_eq (tgt := 57) (p1 := 53) dX10_isDoubtful_50 rfl rfl (fun c_50 => ?_) (fun c_50 => by exfalso; first | omega | contradiction | exact absurd (by assumption) c_50 | (simp_all; done))
  refine g_iconst (p0 := 58) (v := nI 0) dX10_isDoubtful_57 rfl rfl ?_
  refine g_ireturn dX10_isDoubtful_58 rfl (by first | rfl | exact bool_narrow (by first | exact Or.inl rfl | exact Or.inr rfl | assumption | (split <;> first | exact Or.inl rfl | exact Or.inr rfl))) (?_)
  exact ⟨rfl, rfl⟩
set_option maxRecDepth 20000 in
set_option maxHeartbeats 2000000 in
theorem isDoubtful_1a {k x : Nat} {g bt tl : Int32} {σ : Sg} (hk : k < 160) (hx : σ 85 k = nI x) (hx5 : x ≤ 5) (hg : σ 84 k = g) (hb : σ 80 0 = bt) (ht : σ 80 1 = tl) (h0 : 0 < k) (h1 : ¬ cs bt (g - tl) = x) : CM mX10_isDoubtful [ar 79, ai (nI k)] σ (Ret (nI 1) σ) := by
  have q1 := cs_le bt g
  have q2 := cs_le bt (g - tl)
  have q3 := cs_le bt (g + tl)
  refine CM_in (ls := [some (ar 79), some (ai (nI k)), none]) rfl ?_
  refine g_aload_n (p0 := 1) (i := 0) dX10_isDoubtful_0 rfl rfl rfl ?_
  refine g_getR (p0 := 4) dX10_isDoubtful_1 fX10_25 (by first | rfl | assumption | exact RW.s (by assumption) | exact TW.s (by assumption)) rfl rfl ?_
  refine g_iload_n (p0 := 5) (i := 1) dX10_isDoubtful_4 rfl rfl rfl ?_
  first | ((with_reducible refine isN1 ?_); refine g_aldN (p0 := 6) dX10_isDoubtful_5 (by first | rfl | assumption | exact RW.s (by assumption) | exact TW.s (by assumption)) (by first | decide | assumption) (by omega) (by first | assumption | ((repeat (first | exact up_hit | refine up_nv (by decide) ?_ | refine up_mv (by first | decide | omega) ?_)) <;> first | assumption | rfl)) rfl ?_) | refine g_ald (p0 := 6) dX10_isDoubtful_5 (by first | rfl | assumption | exact RW.s (by assumption) | exact TW.s (by assumption)) (by assumption) (by first | assumption | ((repeat (first | exact up_hit | refine up_nv (by decide) ?_ | refine up_mv (by first | decide | omega) ?_)) <;> first | assumption | rfl)) rfl ?_
  refine g_istore_n (p0 := 7) (i := 2) (ls2 := [_, _, _]) dX10_isDoubtful_6 rfl (Nat.le_of_ble_eq_true rfl) rfl rfl ?_
  refine g_iload_n (p0 := 8) (i := 1) dX10_isDoubtful_7 rfl rfl rfl ?_
  first | ((with_reducible refine isN1 ?_); refine g_ifN_le (tgt := 57) (p1 := 11) dX10_isDoubtful_8 rfl (by omega) rfl (fun c_8 => by exfalso; first | omega | contradiction | exact absurd (by assumption) c_8 | (simp_all; done)) (fun c_8 => ?_)) | refine g_if_le (tgt := 57) (p1 := 11) dX10_isDoubtful_8 rfl rfl (fun c_8 => by exfalso; first | omega | contradiction | exact absurd (by assumption) c_8 | (simp_all; done)) (fun c_8 => ?_)
  refine g_aload_n (p0 := 12) (i := 0) dX10_isDoubtful_11 rfl rfl rfl ?_
  refine g_aload_n (p0 := 13) (i := 0) dX10_isDoubtful_12 rfl rfl rfl ?_
  refine g_getR (p0 := 16) dX10_isDoubtful_13 fX10_22 (by first | rfl | assumption | exact RW.s (by assumption) | exact TW.s (by assumption)) rfl rfl ?_
  refine g_iload_n (p0 := 17) (i := 1) dX10_isDoubtful_16 rfl rfl rfl ?_
  first | ((with_reducible refine isN1 ?_); refine g_aldN (p0 := 18) dX10_isDoubtful_17 (by first | rfl | assumption | exact RW.s (by assumption) | exact TW.s (by assumption)) (by first | decide | assumption) (by omega) (by first | assumption | ((repeat (first | exact up_hit | refine up_nv (by decide) ?_ | refine up_mv (by first | decide | omega) ?_)) <;> first | assumption | rfl)) rfl ?_) | refine g_ald (p0 := 18) dX10_isDoubtful_17 (by first | rfl | assumption | exact RW.s (by assumption) | exact TW.s (by assumption)) (by assumption) (by first | assumption | ((repeat (first | exact up_hit | refine up_nv (by decide) ?_ | refine up_mv (by first | decide | omega) ?_)) <;> first | assumption | rfl)) rfl ?_
  refine g_aload_n (p0 := 19) (i := 0) dX10_isDoubtful_18 rfl rfl rfl ?_
  refine g_getR (p0 := 22) dX10_isDoubtful_19 fX10_7 (by first | rfl | assumption | exact RW.s (by assumption) | exact TW.s (by assumption)) rfl rfl ?_
  refine g_iconst (p0 := 23) (v := nI 1) dX10_isDoubtful_22 rfl rfl ?_
  first | ((with_reducible refine isN1 ?_); refine g_aldN (p0 := 24) dX10_isDoubtful_23 (by first | rfl | assumption | exact RW.s (by assumption) | exact TW.s (by assumption)) (by first | decide | assumption) (by omega) (by first | assumption | ((repeat (first | exact up_hit | refine up_nv (by decide) ?_ | refine up_mv (by first | decide | omega) ?_)) <;> first | assumption | rfl)) rfl ?_) | refine g_ald (p0 := 24) dX10_isDoubtful_23 (by first | rfl | assumption | exact RW.s (by assumption) | exact TW.s (by assumption)) (by assumption) (by first | assumption | ((repeat (first | exact up_hit | refine up_nv (by decide) ?_ | refine up_mv (by first | decide | omega) ?_)) <;> first | assumption | rfl)) rfl ?_
  first | ((with_reducible refine isN2 ?_); refine g_isubN (p0 := 25) dX10_isDoubtful_24 (by omega) rfl ?_) | refine g_isub (p0 := 25) dX10_isDoubtful_24 rfl ?_
  refine g_cV1R (p0 := 28) (r1 := mX10_caseOf) dX10_isDoubtful_25 lX10_115 vX10_caseOf (by first | rfl | assumption | exact RW.s (by assumption) | exact TW.s (by assumption)) ⟨_, _, rfl⟩ (FITi rfl rfl) (Nat.le_of_ble_eq_true rfl) (rcaseOf_sp (by first | assumption | ((repeat (first | exact up_hit | refine up_nv (by decide) ?_ | refine up_mv (by first | decide | omega) ?_)) <;> first | assumption | rfl))) rfl ?_
  refine g_iload_n (p0 := 29) (i := 2) dX10_isDoubtful_28 rfl rfl rfl ?_
  first | ((with_reducible refine isN2 ?_); refine g_icmpN_ne (tgt := 53) (p1 := 32) dX10_isDoubtful_29 rfl (by omega) (by omega) rfl (fun c_29 => ?_) (fun c_29 => by exfalso; first | omega | contradiction | exact absurd (by assumption) c_29 | (simp_all; done))) | refine g_icmp_ne (tgt := 53) (p1 := 32) dX10_isDoubtful_29 rfl rfl (fun c_29 => ?_) (fun c_29 => by exfalso; first | omega | contradiction | exact absurd (by assumption) c_29 | (simp_all; done))
  refine g_iconst (p0 := 54) (v := nI 1) dX10_isDoubtful_53 rfl rfl ?_
  refine g_goto (tgt := 58) dX10_isDoubtful_54 rfl ?_
  refine g_ireturn dX10_isDoubtful_58 rfl (by first | rfl | exact bool_narrow (by first | exact Or.inl rfl | exact Or.inr rfl | assumption | (split <;> first | exact Or.inl rfl | exact Or.inr rfl))) (?_)
  exact ⟨rfl, rfl⟩
set_option maxRecDepth 20000 in
set_option maxHeartbeats 2000000 in
theorem isDoubtful_1b {k x : Nat} {g bt tl : Int32} {σ : Sg} (hk : k < 160) (hx : σ 85 k = nI x) (hx5 : x ≤ 5) (hg : σ 84 k = g) (hb : σ 80 0 = bt) (ht : σ 80 1 = tl) (h0 : 0 < k) (h1 : cs bt (g - tl) = x) (h2 : ¬ cs bt (g + tl) = x) : CM mX10_isDoubtful [ar 79, ai (nI k)] σ (Ret (nI 1) σ) := by
  have q1 := cs_le bt g
  have q2 := cs_le bt (g - tl)
  have q3 := cs_le bt (g + tl)
  refine CM_in (ls := [some (ar 79), some (ai (nI k)), none]) rfl ?_
  refine g_aload_n (p0 := 1) (i := 0) dX10_isDoubtful_0 rfl rfl rfl ?_
  refine g_getR (p0 := 4) dX10_isDoubtful_1 fX10_25 (by first | rfl | assumption | exact RW.s (by assumption) | exact TW.s (by assumption)) rfl rfl ?_
  refine g_iload_n (p0 := 5) (i := 1) dX10_isDoubtful_4 rfl rfl rfl ?_
  first | ((with_reducible refine isN1 ?_); refine g_aldN (p0 := 6) dX10_isDoubtful_5 (by first | rfl | assumption | exact RW.s (by assumption) | exact TW.s (by assumption)) (by first | decide | assumption) (by omega) (by first | assumption | ((repeat (first | exact up_hit | refine up_nv (by decide) ?_ | refine up_mv (by first | decide | omega) ?_)) <;> first | assumption | rfl)) rfl ?_) | refine g_ald (p0 := 6) dX10_isDoubtful_5 (by first | rfl | assumption | exact RW.s (by assumption) | exact TW.s (by assumption)) (by assumption) (by first | assumption | ((repeat (first | exact up_hit | refine up_nv (by decide) ?_ | refine up_mv (by first | decide | omega) ?_)) <;> first | assumption | rfl)) rfl ?_
  refine g_istore_n (p0 := 7) (i := 2) (ls2 := [_, _, _]) dX10_isDoubtful_6 rfl (Nat.le_of_ble_eq_true rfl) rfl rfl ?_
  refine g_iload_n (p0 := 8) (i := 1) dX10_isDoubtful_7 rfl rfl rfl ?_
  first | ((with_reducible refine isN1 ?_); refine g_ifN_le (tgt := 57) (p1 := 11) dX10_isDoubtful_8 rfl (by omega) rfl (fun c_8 => by exfalso; first | omega | contradiction | exact absurd (by assumption) c_8 | (simp_all; done)) (fun c_8 => ?_)) | refine g_if_le (tgt := 57) (p1 := 11) dX10_isDoubtful_8 rfl rfl (fun c_8 => by exfalso; first | omega | contradiction | exact absurd (by assumption) c_8 | (simp_all; done)) (fun c_8 => ?_)
  refine g_aload_n (p0 := 12) (i := 0) dX10_isDoubtful_11 rfl rfl rfl ?_
  refine g_aload_n (p0 := 13) (i := 0) dX10_isDoubtful_12 rfl rfl rfl ?_
  refine g_getR (p0 := 16) dX10_isDoubtful_13 fX10_22 (by first | rfl | assumption | exact RW.s (by assumption) | exact TW.s (by assumption)) rfl rfl ?_
  refine g_iload_n (p0 := 17) (i := 1) dX10_isDoubtful_16 rfl rfl rfl ?_
  first | ((with_reducible refine isN1 ?_); refine g_aldN (p0 := 18) dX10_isDoubtful_17 (by first | rfl | assumption | exact RW.s (by assumption) | exact TW.s (by assumption)) (by first | decide | assumption) (by omega) (by first | assumption | ((repeat (first | exact up_hit | refine up_nv (by decide) ?_ | refine up_mv (by first | decide | omega) ?_)) <;> first | assumption | rfl)) rfl ?_) | refine g_ald (p0 := 18) dX10_isDoubtful_17 (by first | rfl | assumption | exact RW.s (by assumption) | exact TW.s (by assumption)) (by assumption) (by first | assumption | ((repeat (first | exact up_hit | refine up_nv (by decide) ?_ | refine up_mv (by first | decide | omega) ?_)) <;> first | assumption | rfl)) rfl ?_
  refine g_aload_n (p0 := 19) (i := 0) dX10_isDoubtful_18 rfl rfl rfl ?_
  refine g_getR (p0 := 22) dX10_isDoubtful_19 fX10_7 (by first | rfl | assumption | exact RW.s (by assumption) | exact TW.s (by assumption)) rfl rfl ?_
  refine g_iconst (p0 := 23) (v := nI 1) dX10_isDoubtful_22 rfl rfl ?_
  first | ((with_reducible refine isN1 ?_); refine g_aldN (p0 := 24) dX10_isDoubtful_23 (by first | rfl | assumption | exact RW.s (by assumption) | exact TW.s (by assumption)) (by first | decide | assumption) (by omega) (by first | assumption | ((repeat (first | exact up_hit | refine up_nv (by decide) ?_ | refine up_mv (by first | decide | omega) ?_)) <;> first | assumption | rfl)) rfl ?_) | refine g_ald (p0 := 24) dX10_isDoubtful_23 (by first | rfl | assumption | exact RW.s (by assumption) | exact TW.s (by assumption)) (by assumption) (by first | assumption | ((repeat (first | exact up_hit | refine up_nv (by decide) ?_ | refine up_mv (by first | decide | omega) ?_)) <;> first | assumption | rfl)) rfl ?_
  first | ((with_reducible refine isN2 ?_); refine g_isubN (p0 := 25) dX10_isDoubtful_24 (by omega) rfl ?_) | refine g_isub (p0 := 25) dX10_isDoubtful_24 rfl ?_
  refine g_cV1R (p0 := 28) (r1 := mX10_caseOf) dX10_isDoubtful_25 lX10_115 vX10_caseOf (by first | rfl | assumption | exact RW.s (by assumption) | exact TW.s (by assumption)) ⟨_, _, rfl⟩ (FITi rfl rfl) (Nat.le_of_ble_eq_true rfl) (rcaseOf_sp (by first | assumption | ((repeat (first | exact up_hit | refine up_nv (by decide) ?_ | refine up_mv (by first | decide | omega) ?_)) <;> first | assumption | rfl))) rfl ?_
  refine g_iload_n (p0 := 29) (i := 2) dX10_isDoubtful_28 rfl rfl rfl ?_
  first | ((with_reducible refine isN2 ?_); refine g_icmpN_ne (tgt := 53) (p1 := 32) dX10_isDoubtful_29 rfl (by omega) (by omega) rfl (fun c_29 => by exfalso; first | omega | contradiction | exact absurd (by assumption) c_29 | (simp_all; done)) (fun c_29 => ?_)) | refine g_icmp_ne (tgt := 53) (p1 := 32) dX10_isDoubtful_29 rfl rfl (fun c_29 => by exfalso; first | omega | contradiction | exact absurd (by assumption) c_29 | (simp_all; done)) (fun c_29 => ?_)
  refine g_aload_n (p0 := 33) (i := 0) dX10_isDoubtful_32 rfl rfl rfl ?_
  refine g_aload_n (p0 := 34) (i := 0) dX10_isDoubtful_33 rfl rfl rfl ?_
  refine g_getR (p0 := 37) dX10_isDoubtful_34 fX10_22 (by first | rfl | assumption | exact RW.s (by assumption) | exact TW.s (by assumption)) rfl rfl ?_
  refine g_iload_n (p0 := 38) (i := 1) dX10_isDoubtful_37 rfl rfl rfl ?_
  first | ((with_reducible refine isN1 ?_); refine g_aldN (p0 := 39) dX10_isDoubtful_38 (by first | rfl | assumption | exact RW.s (by assumption) | exact TW.s (by assumption)) (by first | decide | assumption) (by omega) (by first | assumption | ((repeat (first | exact up_hit | refine up_nv (by decide) ?_ | refine up_mv (by first | decide | omega) ?_)) <;> first | assumption | rfl)) rfl ?_) | refine g_ald (p0 := 39) dX10_isDoubtful_38 (by first | rfl | assumption | exact RW.s (by assumption) | exact TW.s (by assumption)) (by assumption) (by first | assumption | ((repeat (first | exact up_hit | refine up_nv (by decide) ?_ | refine up_mv (by first | decide | omega) ?_)) <;> first | assumption | rfl)) rfl ?_
  refine g_aload_n (p0 := 40) (i := 0) dX10_isDoubtful_39 rfl rfl rfl ?_
  refine g_getR (p0 := 43) dX10_isDoubtful_40 fX10_7 (by first | rfl | assumption | exact RW.s (by assumption) | exact TW.s (by assumption)) rfl rfl ?_
  refine g_iconst (p0 := 44) (v := nI 1) dX10_isDoubtful_43 rfl rfl ?_
  first | ((with_reducible refine isN1 ?_); refine g_aldN (p0 := 45) dX10_isDoubtful_44 (by first | rfl | assumption | exact RW.s (by assumption) | exact TW.s (by assumption)) (by first | decide | assumption) (by omega) (by first | assumption | ((repeat (first | exact up_hit | refine up_nv (by decide) ?_ | refine up_mv (by first | decide | omega) ?_)) <;> first | assumption | rfl)) rfl ?_) | refine g_ald (p0 := 45) dX10_isDoubtful_44 (by first | rfl | assumption | exact RW.s (by assumption) | exact TW.s (by assumption)) (by assumption) (by first | assumption | ((repeat (first | exact up_hit | refine up_nv (by decide) ?_ | refine up_mv (by first | decide | omega) ?_)) <;> first | assumption | rfl)) rfl ?_
  first | ((with_reducible refine isN2 ?_); refine g_iaddN (p0 := 46) dX10_isDoubtful_45 rfl ?_) | refine g_iadd (p0 := 46) dX10_isDoubtful_45 rfl ?_
  refine g_cV1R (p0 := 49) (r1 := mX10_caseOf) dX10_isDoubtful_46 lX10_115 vX10_caseOf (by first | rfl | assumption | exact RW.s (by assumption) | exact TW.s (by assumption)) ⟨_, _, rfl⟩ (FITi rfl rfl) (Nat.le_of_ble_eq_true rfl) (rcaseOf_sp (by first | assumption | ((repeat (first | exact up_hit | refine up_nv (by decide) ?_ | refine up_mv (by first | decide | omega) ?_)) <;> first | assumption | rfl))) rfl ?_
  refine g_iload_n (p0 := 50) (i := 2) dX10_isDoubtful_49 rfl rfl rfl ?_
  first | ((with_reducible refine isN2 ?_); refine g_icmpN_eq (tgt := 57) (p1 := 53) dX10_isDoubtful_50 rfl (by omega) (by omega) rfl (fun c_50 => by exfalso; first | omega | contradiction | exact absurd (by assumption) c_50 | (simp_all; done)) (fun c_50 => ?_)) | refine g_icmp_eq (tgt := 57) (p1 := 53) dX10_isDoubtful_50 rfl rfl (fun c_50 => by exfalso; first | omega | contradiction | exact absurd (by assumption) c_50 | (simp_all; done)) (fun c_50 => ?_)
  refine g_iconst (p0 := 54) (v := nI 1) dX10_isDoubtful_53 rfl rfl ?_
  refine g_goto (tgt := 58) dX10_isDoubtful_54 rfl ?_
  refine g_ireturn dX10_isDoubtful_58 rfl (by first | rfl | exact bool_narrow (by first | exact Or.inl rfl | exact Or.inr rfl | assumption | (split <;> first | exact Or.inl rfl | exact Or.inr rfl))) (?_)
  exact ⟨rfl, rfl⟩
theorem isDoubtful_sp {k : Nat} {g bt tl : Int32} {σ : Sg} (hk : k < 160) (hx : σ 85 k = nI (cs bt g)) (hg : σ 84 k = g) (hb : σ 80 0 = bt) (ht : σ 80 1 = tl) (h0 : 0 < k) : CM mX10_isDoubtful [ar 79, ai (nI k)] σ (Ret (nI (dbt bt tl g)) σ) := by
  by_cases h1 : cs bt (g - tl) = cs bt g
  · by_cases h2 : cs bt (g + tl) = cs bt g
    · rw [dbt, if_pos ⟨h1.symm, h2.symm⟩]
      exact isDoubtful_0 hk hx (cs_le _ _) hg hb ht h0 h1 h2
    · rw [dbt, if_neg (fun q => h2 q.2.symm)]
      exact isDoubtful_1b hk hx (cs_le _ _) hg hb ht h0 h1 h2
  · rw [dbt, if_neg (fun q => h1 q.1.symm)]
    exact isDoubtful_1a hk hx (cs_le _ _) hg hb ht h0 h1
set_option maxRecDepth 20000 in
set_option maxHeartbeats 2000000 in
theorem counts_1 {L y : Nat} {g a b : Nat → Nat} {σ : Sg} (h : LTr σ (L + 1) g a b) (hl : L < 160) (hg : g L = 1) : CM mX10_counts [ar 79, ai (nI y)] σ (RetV (up (up σ 90 L (nI (a L + y))) 91 L (nI (b L + 0)))) := by
  have hL := h.1
  obtain ⟨h36, h38, h40⟩ := h.2 L (by omega)
  have hm : σ 89 (L + 1 - 1) = nI (g L) := h36
  have hm1 : σ 90 (L + 1 - 1) = nI (a L) := h38
  have hm2 : σ 91 (L + 1 - 1) = nI (b L) := h40
  rw [hg] at hm
  refine CM_in (ls := [some (ar 79), some (ai (nI y)), none]) rfl ?_
  refine g_aload_n (p0 := 1) (i := 0) dX10_counts_0 rfl rfl rfl ?_
  refine g_getI (p0 := 4) dX10_counts_1 fX10_118 (by first | rfl | assumption | exact RW.s (by assumption) | exact TW.s (by assumption)) rfl (by first | assumption | ((repeat (first | exact up_hit | refine up_nv (by decide) ?_ | refine up_mv (by first | decide | omega) ?_)) <;> first | assumption | rfl)) rfl ?_
  refine g_iconst (p0 := 5) (v := nI 1) dX10_counts_4 rfl rfl ?_
  first | ((with_reducible refine isN2 ?_); refine g_isubN (p0 := 6) dX10_counts_5 (by omega) rfl ?_) | refine g_isub (p0 := 6) dX10_counts_5 rfl ?_
  refine g_istore_n (p0 := 7) (i := 2) (ls2 := [_, _, _]) dX10_counts_6 rfl (Nat.le_of_ble_eq_true rfl) rfl rfl ?_
  refine g_aload_n (p0 := 8) (i := 0) dX10_counts_7 rfl rfl rfl ?_
  refine g_getR (p0 := 11) dX10_counts_8 fX10_40 (by first | rfl | assumption | exact RW.s (by assumption) | exact TW.s (by assumption)) rfl rfl ?_
  refine g_iload_n (p0 := 12) (i := 2) dX10_counts_11 rfl rfl rfl ?_
  refine g_dup2 (p0 := 13) dX10_counts_12 rfl ?_
  first | ((with_reducible refine isN1 ?_); refine g_aldN (p0 := 14) dX10_counts_13 (by first | rfl | assumption | exact RW.s (by assumption) | exact TW.s (by assumption)) (by first | decide | assumption) (by omega) (by first | assumption | ((repeat (first | exact up_hit | refine up_nv (by decide) ?_ | refine up_mv (by first | decide | omega) ?_)) <;> first | assumption | rfl)) rfl ?_) | refine g_ald (p0 := 14) dX10_counts_13 (by first | rfl | assumption | exact RW.s (by assumption) | exact TW.s (by assumption)) (by assumption) (by first | assumption | ((repeat (first | exact up_hit | refine up_nv (by decide) ?_ | refine up_mv (by first | decide | omega) ?_)) <;> first | assumption | rfl)) rfl ?_
  refine g_aload_n (p0 := 15) (i := 0) dX10_counts_14 rfl rfl rfl ?_
  refine g_getR (p0 := 18) dX10_counts_15 fX10_37 (by first | rfl | assumption | exact RW.s (by assumption) | exact TW.s (by assumption)) rfl rfl ?_
  refine g_iload_n (p0 := 19) (i := 2) dX10_counts_18 rfl rfl rfl ?_
  first | ((with_reducible refine isN1 ?_); refine g_aldN (p0 := 20) dX10_counts_19 (by first | rfl | assumption | exact RW.s (by assumption) | exact TW.s (by assumption)) (by first | decide | assumption) (by omega) (by first | assumption | ((repeat (first | exact up_hit | refine up_nv (by decide) ?_ | refine up_mv (by first | decide | omega) ?_)) <;> first | assumption | rfl)) rfl ?_) | refine g_ald (p0 := 20) dX10_counts_19 (by first | rfl | assumption | exact RW.s (by assumption) | exact TW.s (by assumption)) (by assumption) (by first | assumption | ((repeat (first | exact up_hit | refine up_nv (by decide) ?_ | refine up_mv (by first | decide | omega) ?_)) <;> first | assumption | rfl)) rfl ?_
  refine g_iconst (p0 := 21) (v := nI 1) dX10_counts_20 rfl rfl ?_
  first | ((with_reducible refine isN2 ?_); refine g_icmpN_ne (tgt := 28) (p1 := 24) dX10_counts_21 rfl (by omega) (by omega) rfl (fun c_21 => by exfalso; first | omega | contradiction | exact absurd (by assumption) c_21 | (simp_all; done)) (fun c_21 => ?_)) | refine g_icmp_ne (tgt := 28) (p1 := 24) dX10_counts_21 rfl rfl (fun c_21 => by exfalso; first | omega | contradiction | exact absurd (by assumption) c_21 | (simp_all; done)) (fun c_21 => ?_)
  refine g_iload_n (p0 := 25) (i := 1) dX10_counts_24 rfl rfl rfl ?_
  refine g_goto (tgt := 29) dX10_counts_25 rfl ?_
  first | ((with_reducible refine isN2 ?_); refine g_iaddN (p0 := 30) dX10_counts_29 rfl ?_) | refine g_iadd (p0 := 30) dX10_counts_29 rfl ?_
  first | ((with_reducible refine isNS ?_); refine g_astN (p0 := 31) dX10_counts_30 (by first | rfl | assumption | exact RW.s (by assumption) | exact TW.s (by assumption)) (by first | decide | assumption) (by omega) rfl ?_) | refine g_ast (p0 := 31) dX10_counts_30 (by first | rfl | assumption | exact RW.s (by assumption) | exact TW.s (by assumption)) (by assumption) rfl ?_
  refine g_aload_n (p0 := 32) (i := 0) dX10_counts_31 rfl rfl rfl ?_
  refine g_getR (p0 := 35) dX10_counts_32 fX10_43 (by first | rfl | assumption | exact RW.s (by assumption) | exact TW.s (by assumption)) rfl rfl ?_
  refine g_iload_n (p0 := 36) (i := 2) dX10_counts_35 rfl rfl rfl ?_
  refine g_dup2 (p0 := 37) dX10_counts_36 rfl ?_
  first | ((with_reducible refine isN1 ?_); refine g_aldN (p0 := 38) dX10_counts_37 (by first | rfl | assumption | exact RW.s (by assumption) | exact TW.s (by assumption)) (by first | decide | assumption) (by omega) (by first | assumption | ((repeat (first | exact up_hit | refine up_nv (by decide) ?_ | refine up_mv (by first | decide | omega) ?_)) <;> first | assumption | rfl)) rfl ?_) | refine g_ald (p0 := 38) dX10_counts_37 (by first | rfl | assumption | exact RW.s (by assumption) | exact TW.s (by assumption)) (by assumption) (by first | assumption | ((repeat (first | exact up_hit | refine up_nv (by decide) ?_ | refine up_mv (by first | decide | omega) ?_)) <;> first | assumption | rfl)) rfl ?_
  refine g_aload_n (p0 := 39) (i := 0) dX10_counts_38 rfl rfl rfl ?_
  refine g_getR (p0 := 42) dX10_counts_39 fX10_37 (by first | rfl | assumption | exact RW.s (by assumption) | exact TW.s (by assumption)) rfl rfl ?_
  refine g_iload_n (p0 := 43) (i := 2) dX10_counts_42 rfl rfl rfl ?_
  first | ((with_reducible refine isN1 ?_); refine g_aldN (p0 := 44) dX10_counts_43 (by first | rfl | assumption | exact RW.s (by assumption) | exact TW.s (by assumption)) (by first | decide | assumption) (by omega) (by first | assumption | ((repeat (first | exact up_hit | refine up_nv (by decide) ?_ | refine up_mv (by first | decide | omega) ?_)) <;> first | assumption | rfl)) rfl ?_) | refine g_ald (p0 := 44) dX10_counts_43 (by first | rfl | assumption | exact RW.s (by assumption) | exact TW.s (by assumption)) (by assumption) (by first | assumption | ((repeat (first | exact up_hit | refine up_nv (by decide) ?_ | refine up_mv (by first | decide | omega) ?_)) <;> first | assumption | rfl)) rfl ?_
  refine g_iconst (p0 := 45) (v := nI 2) dX10_counts_44 rfl rfl ?_
  first | ((with_reducible refine isN2 ?_); refine g_icmpN_ne (tgt := 52) (p1 := 48) dX10_counts_45 rfl (by omega) (by omega) rfl (fun c_45 => ?_) (fun c_45 => by exfalso; first | omega | contradiction | exact absurd (by assumption) c_45 | (simp_all; done))) | refine g_icmp_ne (tgt := 52) (p1 := 48) dX10_counts_45 rfl rfl (fun c_45 => ?_) (fun c_45 => by exfalso; first | omega | contradiction | exact absurd (by assumption) c_45 | (simp_all; done))
  refine g_iconst (p0 := 53) (v := nI 0) dX10_counts_52 rfl rfl ?_
  first | ((with_reducible refine isN2 ?_); refine g_iaddN (p0 := 54) dX10_counts_53 rfl ?_) | refine g_iadd (p0 := 54) dX10_counts_53 rfl ?_
  first | ((with_reducible refine isNS ?_); refine g_astN (p0 := 55) dX10_counts_54 (by first | rfl | assumption | exact RW.s (by assumption) | exact TW.s (by assumption)) (by first | decide | assumption) (by omega) rfl ?_) | refine g_ast (p0 := 55) dX10_counts_54 (by first | rfl | assumption | exact RW.s (by assumption) | exact TW.s (by assumption)) (by assumption) rfl ?_
  refine g_return dX10_counts_55 rfl ?_
  exact ⟨rfl, rfl⟩
set_option maxRecDepth 20000 in
set_option maxHeartbeats 2000000 in
theorem counts_2 {L y : Nat} {g a b : Nat → Nat} {σ : Sg} (h : LTr σ (L + 1) g a b) (hl : L < 160) (hg : g L = 2) : CM mX10_counts [ar 79, ai (nI y)] σ (RetV (up (up σ 90 L (nI (a L + 0))) 91 L (nI (b L + y)))) := by
  have hL := h.1
  obtain ⟨h36, h38, h40⟩ := h.2 L (by omega)
  have hm : σ 89 (L + 1 - 1) = nI (g L) := h36
  have hm1 : σ 90 (L + 1 - 1) = nI (a L) := h38
  have hm2 : σ 91 (L + 1 - 1) = nI (b L) := h40
  rw [hg] at hm
  refine CM_in (ls := [some (ar 79), some (ai (nI y)), none]) rfl ?_
  refine g_aload_n (p0 := 1) (i := 0) dX10_counts_0 rfl rfl rfl ?_
  refine g_getI (p0 := 4) dX10_counts_1 fX10_118 (by first | rfl | assumption | exact RW.s (by assumption) | exact TW.s (by assumption)) rfl (by first | assumption | ((repeat (first | exact up_hit | refine up_nv (by decide) ?_ | refine up_mv (by first | decide | omega) ?_)) <;> first | assumption | rfl)) rfl ?_
  refine g_iconst (p0 := 5) (v := nI 1) dX10_counts_4 rfl rfl ?_
  first | ((with_reducible refine isN2 ?_); refine g_isubN (p0 := 6) dX10_counts_5 (by omega) rfl ?_) | refine g_isub (p0 := 6) dX10_counts_5 rfl ?_
  refine g_istore_n (p0 := 7) (i := 2) (ls2 := [_, _, _]) dX10_counts_6 rfl (Nat.le_of_ble_eq_true rfl) rfl rfl ?_
  refine g_aload_n (p0 := 8) (i := 0) dX10_counts_7 rfl rfl rfl ?_
  refine g_getR (p0 := 11) dX10_counts_8 fX10_40 (by first | rfl | assumption | exact RW.s (by assumption) | exact TW.s (by assumption)) rfl rfl ?_
  refine g_iload_n (p0 := 12) (i := 2) dX10_counts_11 rfl rfl rfl ?_
  refine g_dup2 (p0 := 13) dX10_counts_12 rfl ?_
  first | ((with_reducible refine isN1 ?_); refine g_aldN (p0 := 14) dX10_counts_13 (by first | rfl | assumption | exact RW.s (by assumption) | exact TW.s (by assumption)) (by first | decide | assumption) (by omega) (by first | assumption | ((repeat (first | exact up_hit | refine up_nv (by decide) ?_ | refine up_mv (by first | decide | omega) ?_)) <;> first | assumption | rfl)) rfl ?_) | refine g_ald (p0 := 14) dX10_counts_13 (by first | rfl | assumption | exact RW.s (by assumption) | exact TW.s (by assumption)) (by assumption) (by first | assumption | ((repeat (first | exact up_hit | refine up_nv (by decide) ?_ | refine up_mv (by first | decide | omega) ?_)) <;> first | assumption | rfl)) rfl ?_
  refine g_aload_n (p0 := 15) (i := 0) dX10_counts_14 rfl rfl rfl ?_
  refine g_getR (p0 := 18) dX10_counts_15 fX10_37 (by first | rfl | assumption | exact RW.s (by assumption) | exact TW.s (by assumption)) rfl rfl ?_
  refine g_iload_n (p0 := 19) (i := 2) dX10_counts_18 rfl rfl rfl ?_
  first | ((with_reducible refine isN1 ?_); refine g_aldN (p0 := 20) dX10_counts_19 (by first | rfl | assumption | exact RW.s (by assumption) | exact TW.s (by assumption)) (by first | decide | assumption) (by omega) (by first | assumption | ((repeat (first | exact up_hit | refine up_nv (by decide) ?_ | refine up_mv (by first | decide | omega) ?_)) <;> first | assumption | rfl)) rfl ?_) | refine g_ald (p0 := 20) dX10_counts_19 (by first | rfl | assumption | exact RW.s (by assumption) | exact TW.s (by assumption)) (by assumption) (by first | assumption | ((repeat (first | exact up_hit | refine up_nv (by decide) ?_ | refine up_mv (by first | decide | omega) ?_)) <;> first | assumption | rfl)) rfl ?_
  refine g_iconst (p0 := 21) (v := nI 1) dX10_counts_20 rfl rfl ?_
  first | ((with_reducible refine isN2 ?_); refine g_icmpN_ne (tgt := 28) (p1 := 24) dX10_counts_21 rfl (by omega) (by omega) rfl (fun c_21 => ?_) (fun c_21 => by exfalso; first | omega | contradiction | exact absurd (by assumption) c_21 | (simp_all; done))) | refine g_icmp_ne (tgt := 28) (p1 := 24) dX10_counts_21 rfl rfl (fun c_21 => ?_) (fun c_21 => by exfalso; first | omega | contradiction | exact absurd (by assumption) c_21 | (simp_all; done))
  refine g_iconst (p0 := 29) (v := nI 0) dX10_counts_28 rfl rfl ?_
  first | ((with_reducible refine isN2 ?_); refine g_iaddN (p0 := 30) dX10_counts_29 rfl ?_) | refine g_iadd (p0 := 30) dX10_counts_29 rfl ?_
  first | ((with_reducible refine isNS ?_); refine g_astN (p0 := 31) dX10_counts_30 (by first | rfl | assumption | exact RW.s (by assumption) | exact TW.s (by assumption)) (by first | decide | assumption) (by omega) rfl ?_) | refine g_ast (p0 := 31) dX10_counts_30 (by first | rfl | assumption | exact RW.s (by assumption) | exact TW.s (by assumption)) (by assumption) rfl ?_
  refine g_aload_n (p0 := 32) (i := 0) dX10_counts_31 rfl rfl rfl ?_
  refine g_getR (p0 := 35) dX10_counts_32 fX10_43 (by first | rfl | assumption | exact RW.s (by assumption) | exact TW.s (by assumption)) rfl rfl ?_
  refine g_iload_n (p0 := 36) (i := 2) dX10_counts_35 rfl rfl rfl ?_
  refine g_dup2 (p0 := 37) dX10_counts_36 rfl ?_
  first | ((with_reducible refine isN1 ?_); refine g_aldN (p0 := 38) dX10_counts_37 (by first | rfl | assumption | exact RW.s (by assumption) | exact TW.s (by assumption)) (by first | decide | assumption) (by omega) (by first | assumption | ((repeat (first | exact up_hit | refine up_nv (by decide) ?_ | refine up_mv (by first | decide | omega) ?_)) <;> first | assumption | rfl)) rfl ?_) | refine g_ald (p0 := 38) dX10_counts_37 (by first | rfl | assumption | exact RW.s (by assumption) | exact TW.s (by assumption)) (by assumption) (by first | assumption | ((repeat (first | exact up_hit | refine up_nv (by decide) ?_ | refine up_mv (by first | decide | omega) ?_)) <;> first | assumption | rfl)) rfl ?_
  refine g_aload_n (p0 := 39) (i := 0) dX10_counts_38 rfl rfl rfl ?_
  refine g_getR (p0 := 42) dX10_counts_39 fX10_37 (by first | rfl | assumption | exact RW.s (by assumption) | exact TW.s (by assumption)) rfl rfl ?_
  refine g_iload_n (p0 := 43) (i := 2) dX10_counts_42 rfl rfl rfl ?_
  first | ((with_reducible refine isN1 ?_); refine g_aldN (p0 := 44) dX10_counts_43 (by first | rfl | assumption | exact RW.s (by assumption) | exact TW.s (by assumption)) (by first | decide | assumption) (by omega) (by first | assumption | ((repeat (first | exact up_hit | refine up_nv (by decide) ?_ | refine up_mv (by first | decide | omega) ?_)) <;> first | assumption | rfl)) rfl ?_) | refine g_ald (p0 := 44) dX10_counts_43 (by first | rfl | assumption | exact RW.s (by assumption) | exact TW.s (by assumption)) (by assumption) (by first | assumption | ((repeat (first | exact up_hit | refine up_nv (by decide) ?_ | refine up_mv (by first | decide | omega) ?_)) <;> first | assumption | rfl)) rfl ?_
  refine g_iconst (p0 := 45) (v := nI 2) dX10_counts_44 rfl rfl ?_
  first | ((with_reducible refine isN2 ?_); refine g_icmpN_ne (tgt := 52) (p1 := 48) dX10_counts_45 rfl (by omega) (by omega) rfl (fun c_45 => by exfalso; first | omega | contradiction | exact absurd (by assumption) c_45 | (simp_all; done)) (fun c_45 => ?_)) | refine g_icmp_ne (tgt := 52) (p1 := 48) dX10_counts_45 rfl rfl (fun c_45 => by exfalso; first | omega | contradiction | exact absurd (by assumption) c_45 | (simp_all; done)) (fun c_45 => ?_)
  refine g_iload_n (p0 := 49) (i := 1) dX10_counts_48 rfl rfl rfl ?_
  refine g_goto (tgt := 53) dX10_counts_49 rfl ?_
  first | ((with_reducible refine isN2 ?_); refine g_iaddN (p0 := 54) dX10_counts_53 rfl ?_) | refine g_iadd (p0 := 54) dX10_counts_53 rfl ?_
  first | ((with_reducible refine isNS ?_); refine g_astN (p0 := 55) dX10_counts_54 (by first | rfl | assumption | exact RW.s (by assumption) | exact TW.s (by assumption)) (by first | decide | assumption) (by omega) rfl ?_) | refine g_ast (p0 := 55) dX10_counts_54 (by first | rfl | assumption | exact RW.s (by assumption) | exact TW.s (by assumption)) (by assumption) rfl ?_
  refine g_return dX10_counts_55 rfl ?_
  exact ⟨rfl, rfl⟩
set_option maxRecDepth 20000 in
set_option maxHeartbeats 2000000 in
theorem counts_3 {L y : Nat} {g a b : Nat → Nat} {σ : Sg} (h : LTr σ (L + 1) g a b) (hl : L < 160) (hg : ¬ g L = 1) (hg2 : ¬ g L = 2) (hg3 : g L < 1000) : CM mX10_counts [ar 79, ai (nI y)] σ (RetV (up (up σ 90 L (nI (a L + 0))) 91 L (nI (b L + 0)))) := by
  have hL := h.1
  obtain ⟨h36, h38, h40⟩ := h.2 L (by omega)
  have hm : σ 89 (L + 1 - 1) = nI (g L) := h36
  have hm1 : σ 90 (L + 1 - 1) = nI (a L) := h38
  have hm2 : σ 91 (L + 1 - 1) = nI (b L) := h40
  refine CM_in (ls := [some (ar 79), some (ai (nI y)), none]) rfl ?_
  refine g_aload_n (p0 := 1) (i := 0) dX10_counts_0 rfl rfl rfl ?_
  refine g_getI (p0 := 4) dX10_counts_1 fX10_118 (by first | rfl | assumption | exact RW.s (by assumption) | exact TW.s (by assumption)) rfl (by first | assumption | ((repeat (first | exact up_hit | refine up_nv (by decide) ?_ | refine up_mv (by first | decide | omega) ?_)) <;> first | assumption | rfl)) rfl ?_
  refine g_iconst (p0 := 5) (v := nI 1) dX10_counts_4 rfl rfl ?_
  first | ((with_reducible refine isN2 ?_); refine g_isubN (p0 := 6) dX10_counts_5 (by omega) rfl ?_) | refine g_isub (p0 := 6) dX10_counts_5 rfl ?_
  refine g_istore_n (p0 := 7) (i := 2) (ls2 := [_, _, _]) dX10_counts_6 rfl (Nat.le_of_ble_eq_true rfl) rfl rfl ?_
  refine g_aload_n (p0 := 8) (i := 0) dX10_counts_7 rfl rfl rfl ?_
  refine g_getR (p0 := 11) dX10_counts_8 fX10_40 (by first | rfl | assumption | exact RW.s (by assumption) | exact TW.s (by assumption)) rfl rfl ?_
  refine g_iload_n (p0 := 12) (i := 2) dX10_counts_11 rfl rfl rfl ?_
  refine g_dup2 (p0 := 13) dX10_counts_12 rfl ?_
  first | ((with_reducible refine isN1 ?_); refine g_aldN (p0 := 14) dX10_counts_13 (by first | rfl | assumption | exact RW.s (by assumption) | exact TW.s (by assumption)) (by first | decide | assumption) (by omega) (by first | assumption | ((repeat (first | exact up_hit | refine up_nv (by decide) ?_ | refine up_mv (by first | decide | omega) ?_)) <;> first | assumption | rfl)) rfl ?_) | refine g_ald (p0 := 14) dX10_counts_13 (by first | rfl | assumption | exact RW.s (by assumption) | exact TW.s (by assumption)) (by assumption) (by first | assumption | ((repeat (first | exact up_hit | refine up_nv (by decide) ?_ | refine up_mv (by first | decide | omega) ?_)) <;> first | assumption | rfl)) rfl ?_
  refine g_aload_n (p0 := 15) (i := 0) dX10_counts_14 rfl rfl rfl ?_
  refine g_getR (p0 := 18) dX10_counts_15 fX10_37 (by first | rfl | assumption | exact RW.s (by assumption) | exact TW.s (by assumption)) rfl rfl ?_
  refine g_iload_n (p0 := 19) (i := 2) dX10_counts_18 rfl rfl rfl ?_
  first | ((with_reducible refine isN1 ?_); refine g_aldN (p0 := 20) dX10_counts_19 (by first | rfl | assumption | exact RW.s (by assumption) | exact TW.s (by assumption)) (by first | decide | assumption) (by omega) (by first | assumption | ((repeat (first | exact up_hit | refine up_nv (by decide) ?_ | refine up_mv (by first | decide | omega) ?_)) <;> first | assumption | rfl)) rfl ?_) | refine g_ald (p0 := 20) dX10_counts_19 (by first | rfl | assumption | exact RW.s (by assumption) | exact TW.s (by assumption)) (by assumption) (by first | assumption | ((repeat (first | exact up_hit | refine up_nv (by decide) ?_ | refine up_mv (by first | decide | omega) ?_)) <;> first | assumption | rfl)) rfl ?_
  refine g_iconst (p0 := 21) (v := nI 1) dX10_counts_20 rfl rfl ?_
  first | ((with_reducible refine isN2 ?_); refine g_icmpN_ne (tgt := 28) (p1 := 24) dX10_counts_21 rfl (by omega) (by omega) rfl (fun c_21 => ?_) (fun c_21 => by exfalso; first | omega | contradiction | exact absurd (by assumption) c_21 | (simp_all; done))) | refine g_icmp_ne (tgt := 28) (p1 := 24) dX10_counts_21 rfl rfl (fun c_21 => ?_) (fun c_21 => by exfalso; first | omega | contradiction | exact absurd (by assumption) c_21 | (simp_all; done))
  refine g_iconst (p0 := 29) (v := nI 0) dX10_counts_28 rfl rfl ?_
  first | ((with_reducible refine isN2 ?_); refine g_iaddN (p0 := 30) dX10_counts_29 rfl ?_) | refine g_iadd (p0 := 30) dX10_counts_29 rfl ?_
  first | ((with_reducible refine isNS ?_); refine g_astN (p0 := 31) dX10_counts_30 (by first | rfl | assumption | exact RW.s (by assumption) | exact TW.s (by assumption)) (by first | decide | assumption) (by omega) rfl ?_) | refine g_ast (p0 := 31) dX10_counts_30 (by first | rfl | assumption | exact RW.s (by assumption) | exact TW.s (by assumption)) (by assumption) rfl ?_
  refine g_aload_n (p0 := 32) (i := 0) dX10_counts_31 rfl rfl rfl ?_
  refine g_getR (p0 := 35) dX10_counts_32 fX10_43 (by first | rfl | assumption | exact RW.s (by assumption) | exact TW.s (by assumption)) rfl rfl ?_
  refine g_iload_n (p0 := 36) (i := 2) dX10_counts_35 rfl rfl rfl ?_
  refine g_dup2 (p0 := 37) dX10_counts_36 rfl ?_
  first | ((with_reducible refine isN1 ?_); refine g_aldN (p0 := 38) dX10_counts_37 (by first | rfl | assumption | exact RW.s (by assumption) | exact TW.s (by assumption)) (by first | decide | assumption) (by omega) (by first | assumption | ((repeat (first | exact up_hit | refine up_nv (by decide) ?_ | refine up_mv (by first | decide | omega) ?_)) <;> first | assumption | rfl)) rfl ?_) | refine g_ald (p0 := 38) dX10_counts_37 (by first | rfl | assumption | exact RW.s (by assumption) | exact TW.s (by assumption)) (by assumption) (by first | assumption | ((repeat (first | exact up_hit | refine up_nv (by decide) ?_ | refine up_mv (by first | decide | omega) ?_)) <;> first | assumption | rfl)) rfl ?_
  refine g_aload_n (p0 := 39) (i := 0) dX10_counts_38 rfl rfl rfl ?_
  refine g_getR (p0 := 42) dX10_counts_39 fX10_37 (by first | rfl | assumption | exact RW.s (by assumption) | exact TW.s (by assumption)) rfl rfl ?_
  refine g_iload_n (p0 := 43) (i := 2) dX10_counts_42 rfl rfl rfl ?_
  first | ((with_reducible refine isN1 ?_); refine g_aldN (p0 := 44) dX10_counts_43 (by first | rfl | assumption | exact RW.s (by assumption) | exact TW.s (by assumption)) (by first | decide | assumption) (by omega) (by first | assumption | ((repeat (first | exact up_hit | refine up_nv (by decide) ?_ | refine up_mv (by first | decide | omega) ?_)) <;> first | assumption | rfl)) rfl ?_) | refine g_ald (p0 := 44) dX10_counts_43 (by first | rfl | assumption | exact RW.s (by assumption) | exact TW.s (by assumption)) (by assumption) (by first | assumption | ((repeat (first | exact up_hit | refine up_nv (by decide) ?_ | refine up_mv (by first | decide | omega) ?_)) <;> first | assumption | rfl)) rfl ?_
  refine g_iconst (p0 := 45) (v := nI 2) dX10_counts_44 rfl rfl ?_
  first | ((with_reducible refine isN2 ?_); refine g_icmpN_ne (tgt := 52) (p1 := 48) dX10_counts_45 rfl (by omega) (by omega) rfl (fun c_45 => ?_) (fun c_45 => by exfalso; first | omega | contradiction | exact absurd (by assumption) c_45 | (simp_all; done))) | refine g_icmp_ne (tgt := 52) (p1 := 48) dX10_counts_45 rfl rfl (fun c_45 => ?_) (fun c_45 => by exfalso; first | omega | contradiction | exact absurd (by assumption) c_45 | (simp_all; done))
  refine g_iconst (p0 := 53) (v := nI 0) dX10_counts_52 rfl rfl ?_
  first | ((with_reducible refine isN2 ?_); refine g_iaddN (p0 := 54) dX10_counts_53 rfl ?_) | refine g_iadd (p0 := 54) dX10_counts_53 rfl ?_
  first | ((with_reducible refine isNS ?_); refine g_astN (p0 := 55) dX10_counts_54 (by first | rfl | assumption | exact RW.s (by assumption) | exact TW.s (by assumption)) (by first | decide | assumption) (by omega) rfl ?_) | refine g_ast (p0 := 55) dX10_counts_54 (by first | rfl | assumption | exact RW.s (by assumption) | exact TW.s (by assumption)) (by assumption) rfl ?_
  refine g_return dX10_counts_55 rfl ?_
  exact ⟨rfl, rfl⟩
theorem counts_r {L y : Nat} {g a b : Nat → Nat} {σ : Sg} (h : LTr σ (L + 1) g a b) (hl : L < 160) (hg3 : g L < 1000) : CM mX10_counts [ar 79, ai (nI y)] σ (RelV (fun σ' => LTr σ' (L + 1) g (nu a L (if g L = 1 then a L + y else a L)) (nu b L (if g L = 2 then b L + y else b L)) ∧ ∀ c, c ≠ 90 → c ≠ 91 → σ' c = σ c)) := by
  have key : ∀ x z, LTr (up (up σ 90 L (nI x)) 91 L (nI z)) (L + 1) g (nu a L x) (nu b L z) ∧ ∀ c, c ≠ 90 → c ≠ 91 → (up (up σ 90 L (nI x)) 91 L (nI z)) c = σ c := by
    intro x z
    refine ⟨⟨by rw [up_ne (by decide), up_ne (by decide)]; exact h.1, fun l hl2 => ⟨?_, ?_, ?_⟩⟩, fun c h1 h2 => by rw [up_ne h2, up_ne h1]⟩
    · rw [up_ne (by decide), up_ne (by decide)]; exact (h.2 l hl2).1
    · rw [up_ne (by decide), up_self]; exact upd_nI (fun j hj => (h.2 j hj).2.1) l hl2
    · rw [up_self, up_ne (by decide)]; exact upd_nI (fun j hj => (h.2 j hj).2.2) l hl2
  by_cases h1 : g L = 1
  · refine CM.mono (counts_1 (y := y) h hl h1) ?_
    rintro w σ' ⟨rfl, rfl⟩
    rw [if_pos h1, if_neg (by omega)]
    exact ⟨rfl, key _ _⟩
  · by_cases h2 : g L = 2
    · refine CM.mono (counts_2 (y := y) h hl h2) ?_
      rintro w σ' ⟨rfl, rfl⟩
      rw [if_neg h1, if_pos h2]
      exact ⟨rfl, key _ _⟩
    · refine CM.mono (counts_3 (y := y) h hl h1 h2 hg3) ?_
      rintro w σ' ⟨rfl, rfl⟩
      rw [if_neg h1, if_neg h2]
      exact ⟨rfl, key _ _⟩
set_option maxRecDepth 20000 in
set_option maxHeartbeats 2000000 in
theorem gE_2 {k x L M : Nat} {g a b s f p d : Nat → Nat} {σ : Sg} {Q : SP} (hL : LTr σ (L + 1) g a b) (hM : MTr σ (M + 1) s f p d) (hk : k < 160) (hl : L < 160) (hm : M < 160) (hg : 1 ≤ g L) (hfl : f M ≤ L) (hx : x = 2) (next : Q none (up (up (up (up σ 94 M (nI (p M + 1))) 86 k (nI (M + 1 - 1))) 87 k (nI (L + 1 - 1 - f M))) 88 k (nI (g L - 1)))) : WM mX10_goesOn Q 137 [some (ar 79), some (ai (nI k)), some (ai (nI x))] [] σ := by
  have v1 := hL.1
  have v2 := hM.1
  have v3 : σ 89 (L + 1 - 1) = nI (g L) := (hL.2 L (by omega)).1
  have v4 : σ 92 (M + 1 - 1) = nI (f M) := (hM.2 M (by omega)).2.1
  have v5 : σ 94 (M + 1 - 1) = nI (p M) := (hM.2 M (by omega)).2.2.1
  refine g_aload_n (p0 := 138) (i := 0) dX10_goesOn_137 rfl rfl rfl ?_
  refine g_getR (p0 := 141) dX10_goesOn_138 fX10_52 (by first | rfl | assumption | exact RW.s (by assumption) | exact TW.s (by assumption)) rfl rfl ?_
  refine g_aload_n (p0 := 142) (i := 0) dX10_goesOn_141 rfl rfl rfl ?_
  refine g_getI (p0 := 145) dX10_goesOn_142 fX10_121 (by first | rfl | assumption | exact RW.s (by assumption) | exact TW.s (by assumption)) rfl (by first | assumption | ((repeat (first | exact up_hit | refine up_nv (by decide) ?_ | refine up_mv (by first | decide | omega) ?_)) <;> first | assumption | rfl)) rfl ?_
  refine g_iconst (p0 := 146) (v := nI 1) dX10_goesOn_145 rfl rfl ?_
  first | ((with_reducible refine isN2 ?_); refine g_isubN (p0 := 147) dX10_goesOn_146 (by omega) rfl ?_) | refine g_isub (p0 := 147) dX10_goesOn_146 rfl ?_
  refine g_dup2 (p0 := 148) dX10_goesOn_147 rfl ?_
  first | ((with_reducible refine isN1 ?_); refine g_aldN (p0 := 149) dX10_goesOn_148 (by first | rfl | assumption | exact RW.s (by assumption) | exact TW.s (by assumption)) (by first | decide | assumption) (by omega) (by first | assumption | ((repeat (first | exact up_hit | refine up_nv (by decide) ?_ | refine up_mv (by first | decide | omega) ?_)) <;> first | assumption | rfl)) rfl ?_) | refine g_ald (p0 := 149) dX10_goesOn_148 (by first | rfl | assumption | exact RW.s (by assumption) | exact TW.s (by assumption)) (by assumption) (by first | assumption | ((repeat (first | exact up_hit | refine up_nv (by decide) ?_ | refine up_mv (by first | decide | omega) ?_)) <;> first | assumption | rfl)) rfl ?_
  refine g_iload_n (p0 := 150) (i := 2) dX10_goesOn_149 rfl rfl rfl ?_
  refine g_iconst (p0 := 151) (v := nI 2) dX10_goesOn_150 rfl rfl ?_
  first | ((with_reducible refine isN2 ?_); refine g_icmpN_ne (tgt := 158) (p1 := 154) dX10_goesOn_151 rfl (by omega) (by omega) rfl (fun c_151 => by exfalso; first | omega | contradiction | exact absurd (by assumption) c_151 | (simp_all; done)) (fun c_151 => ?_)) | refine g_icmp_ne (tgt := 158) (p1 := 154) dX10_goesOn_151 rfl rfl (fun c_151 => by exfalso; first | omega | contradiction | exact absurd (by assumption) c_151 | (simp_all; done)) (fun c_151 => ?_)
  refine g_iconst (p0 := 155) (v := nI 1) dX10_goesOn_154 rfl rfl ?_
  refine g_goto (tgt := 159) dX10_goesOn_155 rfl ?_
  first | ((with_reducible refine isN2 ?_); refine g_iaddN (p0 := 160) dX10_goesOn_159 rfl ?_) | refine g_iadd (p0 := 160) dX10_goesOn_159 rfl ?_
  first | ((with_reducible refine isNS ?_); refine g_astN (p0 := 161) dX10_goesOn_160 (by first | rfl | assumption | exact RW.s (by assumption) | exact TW.s (by assumption)) (by first | decide | assumption) (by omega) rfl ?_) | refine g_ast (p0 := 161) dX10_goesOn_160 (by first | rfl | assumption | exact RW.s (by assumption) | exact TW.s (by assumption)) (by assumption) rfl ?_
  refine g_aload_n (p0 := 162) (i := 0) dX10_goesOn_161 rfl rfl rfl ?_
  refine g_getR (p0 := 165) dX10_goesOn_162 fX10_28 (by first | rfl | assumption | exact RW.s (by assumption) | exact TW.s (by assumption)) rfl rfl ?_
  refine g_iload_n (p0 := 166) (i := 1) dX10_goesOn_165 rfl rfl rfl ?_
  refine g_aload_n (p0 := 167) (i := 0) dX10_goesOn_166 rfl rfl rfl ?_
  refine g_getI (p0 := 170) dX10_goesOn_167 fX10_121 (by first | rfl | assumption | exact RW.s (by assumption) | exact TW.s (by assumption)) rfl (by first | assumption | ((repeat (first | exact up_hit | refine up_nv (by decide) ?_ | refine up_mv (by first | decide | omega) ?_)) <;> first | assumption | rfl)) rfl ?_
  refine g_iconst (p0 := 171) (v := nI 1) dX10_goesOn_170 rfl rfl ?_
  first | ((with_reducible refine isN2 ?_); refine g_isubN (p0 := 172) dX10_goesOn_171 (by omega) rfl ?_) | refine g_isub (p0 := 172) dX10_goesOn_171 rfl ?_
  first | ((with_reducible refine isNS ?_); refine g_astN (p0 := 173) dX10_goesOn_172 (by first | rfl | assumption | exact RW.s (by assumption) | exact TW.s (by assumption)) (by first | decide | assumption) (by omega) rfl ?_) | refine g_ast (p0 := 173) dX10_goesOn_172 (by first | rfl | assumption | exact RW.s (by assumption) | exact TW.s (by assumption)) (by assumption) rfl ?_
  refine g_aload_n (p0 := 174) (i := 0) dX10_goesOn_173 rfl rfl rfl ?_
  refine g_getR (p0 := 177) dX10_goesOn_174 fX10_31 (by first | rfl | assumption | exact RW.s (by assumption) | exact TW.s (by assumption)) rfl rfl ?_
  refine g_iload_n (p0 := 178) (i := 1) dX10_goesOn_177 rfl rfl rfl ?_
  refine g_aload_n (p0 := 179) (i := 0) dX10_goesOn_178 rfl rfl rfl ?_
  refine g_getI (p0 := 182) dX10_goesOn_179 fX10_118 (by first | rfl | assumption | exact RW.s (by assumption) | exact TW.s (by assumption)) rfl (by first | assumption | ((repeat (first | exact up_hit | refine up_nv (by decide) ?_ | refine up_mv (by first | decide | omega) ?_)) <;> first | assumption | rfl)) rfl ?_
  refine g_iconst (p0 := 183) (v := nI 1) dX10_goesOn_182 rfl rfl ?_
  first | ((with_reducible refine isN2 ?_); refine g_isubN (p0 := 184) dX10_goesOn_183 (by omega) rfl ?_) | refine g_isub (p0 := 184) dX10_goesOn_183 rfl ?_
  refine g_aload_n (p0 := 185) (i := 0) dX10_goesOn_184 rfl rfl rfl ?_
  refine g_getR (p0 := 188) dX10_goesOn_185 fX10_46 (by first | rfl | assumption | exact RW.s (by assumption) | exact TW.s (by assumption)) rfl rfl ?_
  refine g_aload_n (p0 := 189) (i := 0) dX10_goesOn_188 rfl rfl rfl ?_
  refine g_getI (p0 := 192) dX10_goesOn_189 fX10_121 (by first | rfl | assumption | exact RW.s (by assumption) | exact TW.s (by assumption)) rfl (by first | assumption | ((repeat (first | exact up_hit | refine up_nv (by decide) ?_ | refine up_mv (by first | decide | omega) ?_)) <;> first | assumption | rfl)) rfl ?_
  refine g_iconst (p0 := 193) (v := nI 1) dX10_goesOn_192 rfl rfl ?_
  first | ((with_reducible refine isN2 ?_); refine g_isubN (p0 := 194) dX10_goesOn_193 (by omega) rfl ?_) | refine g_isub (p0 := 194) dX10_goesOn_193 rfl ?_
  first | ((with_reducible refine isN1 ?_); refine g_aldN (p0 := 195) dX10_goesOn_194 (by first | rfl | assumption | exact RW.s (by assumption) | exact TW.s (by assumption)) (by first | decide | assumption) (by omega) (by first | assumption | ((repeat (first | exact up_hit | refine up_nv (by decide) ?_ | refine up_mv (by first | decide | omega) ?_)) <;> first | assumption | rfl)) rfl ?_) | refine g_ald (p0 := 195) dX10_goesOn_194 (by first | rfl | assumption | exact RW.s (by assumption) | exact TW.s (by assumption)) (by assumption) (by first | assumption | ((repeat (first | exact up_hit | refine up_nv (by decide) ?_ | refine up_mv (by first | decide | omega) ?_)) <;> first | assumption | rfl)) rfl ?_
  first | ((with_reducible refine isN2 ?_); refine g_isubN (p0 := 196) dX10_goesOn_195 (by omega) rfl ?_) | refine g_isub (p0 := 196) dX10_goesOn_195 rfl ?_
  first | ((with_reducible refine isNS ?_); refine g_astN (p0 := 197) dX10_goesOn_196 (by first | rfl | assumption | exact RW.s (by assumption) | exact TW.s (by assumption)) (by first | decide | assumption) (by omega) rfl ?_) | refine g_ast (p0 := 197) dX10_goesOn_196 (by first | rfl | assumption | exact RW.s (by assumption) | exact TW.s (by assumption)) (by assumption) rfl ?_
  refine g_aload_n (p0 := 198) (i := 0) dX10_goesOn_197 rfl rfl rfl ?_
  refine g_getR (p0 := 201) dX10_goesOn_198 fX10_34 (by first | rfl | assumption | exact RW.s (by assumption) | exact TW.s (by assumption)) rfl rfl ?_
  refine g_iload_n (p0 := 202) (i := 1) dX10_goesOn_201 rfl rfl rfl ?_
  refine g_aload_n (p0 := 203) (i := 0) dX10_goesOn_202 rfl rfl rfl ?_
  refine g_getR (p0 := 206) dX10_goesOn_203 fX10_37 (by first | rfl | assumption | exact RW.s (by assumption) | exact TW.s (by assumption)) rfl rfl ?_
  refine g_aload_n (p0 := 207) (i := 0) dX10_goesOn_206 rfl rfl rfl ?_
  refine g_getI (p0 := 210) dX10_goesOn_207 fX10_118 (by first | rfl | assumption | exact RW.s (by assumption) | exact TW.s (by assumption)) rfl (by first | assumption | ((repeat (first | exact up_hit | refine up_nv (by decide) ?_ | refine up_mv (by first | decide | omega) ?_)) <;> first | assumption | rfl)) rfl ?_
  refine g_iconst (p0 := 211) (v := nI 1) dX10_goesOn_210 rfl rfl ?_
  first | ((with_reducible refine isN2 ?_); refine g_isubN (p0 := 212) dX10_goesOn_211 (by omega) rfl ?_) | refine g_isub (p0 := 212) dX10_goesOn_211 rfl ?_
  first | ((with_reducible refine isN1 ?_); refine g_aldN (p0 := 213) dX10_goesOn_212 (by first | rfl | assumption | exact RW.s (by assumption) | exact TW.s (by assumption)) (by first | decide | assumption) (by omega) (by first | assumption | ((repeat (first | exact up_hit | refine up_nv (by decide) ?_ | refine up_mv (by first | decide | omega) ?_)) <;> first | assumption | rfl)) rfl ?_) | refine g_ald (p0 := 213) dX10_goesOn_212 (by first | rfl | assumption | exact RW.s (by assumption) | exact TW.s (by assumption)) (by assumption) (by first | assumption | ((repeat (first | exact up_hit | refine up_nv (by decide) ?_ | refine up_mv (by first | decide | omega) ?_)) <;> first | assumption | rfl)) rfl ?_
  refine g_iconst (p0 := 214) (v := nI 1) dX10_goesOn_213 rfl rfl ?_
  first | ((with_reducible refine isN2 ?_); refine g_isubN (p0 := 215) dX10_goesOn_214 (by omega) rfl ?_) | refine g_isub (p0 := 215) dX10_goesOn_214 rfl ?_
  first | ((with_reducible refine isNS ?_); refine g_astN (p0 := 216) dX10_goesOn_215 (by first | rfl | assumption | exact RW.s (by assumption) | exact TW.s (by assumption)) (by first | decide | assumption) (by omega) rfl ?_) | refine g_ast (p0 := 216) dX10_goesOn_215 (by first | rfl | assumption | exact RW.s (by assumption) | exact TW.s (by assumption)) (by assumption) rfl ?_
  refine g_return dX10_goesOn_216 rfl ?_
  exact next
set_option maxRecDepth 20000 in
set_option maxHeartbeats 2000000 in
theorem gE_n {k x L M : Nat} {g a b s f p d : Nat → Nat} {σ : Sg} {Q : SP} (hL : LTr σ (L + 1) g a b) (hM : MTr σ (M + 1) s f p d) (hk : k < 160) (hl : L < 160) (hm : M < 160) (hg : 1 ≤ g L) (hfl : f M ≤ L) (hx : ¬ x = 2) (hx5 : x ≤ 5) (next : Q none (up (up (up (up σ 94 M (nI (p M + 0))) 86 k (nI (M + 1 - 1))) 87 k (nI (L + 1 - 1 - f M))) 88 k (nI (g L - 1)))) : WM mX10_goesOn Q 137 [some (ar 79), some (ai (nI k)), some (ai (nI x))] [] σ := by
  have v1 := hL.1
  have v2 := hM.1
  have v3 : σ 89 (L + 1 - 1) = nI (g L) := (hL.2 L (by omega)).1
  have v4 : σ 92 (M + 1 - 1) = nI (f M) := (hM.2 M (by omega)).2.1
  have v5 : σ 94 (M + 1 - 1) = nI (p M) := (hM.2 M (by omega)).2.2.1
  refine g_aload_n (p0 := 138) (i := 0) dX10_goesOn_137 rfl rfl rfl ?_
  refine g_getR (p0 := 141) dX10_goesOn_138 fX10_52 (by first | rfl | assumption | exact RW.s (by assumption) | exact TW.s (by assumption)) rfl rfl ?_
  refine g_aload_n (p0 := 142) (i := 0) dX10_goesOn_141 rfl rfl rfl ?_
  refine g_getI (p0 := 145) dX10_goesOn_142 fX10_121 (by first | rfl | assumption | exact RW.s (by assumption) | exact TW.s (by assumption)) rfl (by first | assumption | ((repeat (first | exact up_hit | refine up_nv (by decide) ?_ | refine up_mv (by first | decide | omega) ?_)) <;> first | assumption | rfl)) rfl ?_
  refine g_iconst (p0 := 146) (v := nI 1) dX10_goesOn_145 rfl rfl ?_
  first | ((with_reducible refine isN2 ?_); refine g_isubN (p0 := 147) dX10_goesOn_146 (by omega) rfl ?_) | refine g_isub (p0 := 147) dX10_goesOn_146 rfl ?_
  refine g_dup2 (p0 := 148) dX10_goesOn_147 rfl ?_
  first | ((with_reducible refine isN1 ?_); refine g_aldN (p0 := 149) dX10_goesOn_148 (by first | rfl | assumption | exact RW.s (by assumption) | exact TW.s (by assumption)) (by first | decide | assumption) (by omega) (by first | assumption | ((repeat (first | exact up_hit | refine up_nv (by decide) ?_ | refine up_mv (by first | decide | omega) ?_)) <;> first | assumption | rfl)) rfl ?_) | refine g_ald (p0 := 149) dX10_goesOn_148 (by first | rfl | assumption | exact RW.s (by assumption) | exact TW.s (by assumption)) (by assumption) (by first | assumption | ((repeat (first | exact up_hit | refine up_nv (by decide) ?_ | refine up_mv (by first | decide | omega) ?_)) <;> first | assumption | rfl)) rfl ?_
  refine g_iload_n (p0 := 150) (i := 2) dX10_goesOn_149 rfl rfl rfl ?_
  refine g_iconst (p0 := 151) (v := nI 2) dX10_goesOn_150 rfl rfl ?_
  first | ((with_reducible refine isN2 ?_); refine g_icmpN_ne (tgt := 158) (p1 := 154) dX10_goesOn_151 rfl (by omega) (by omega) rfl (fun c_151 => ?_) (fun c_151 => by exfalso; first | omega | contradiction | exact absurd (by assumption) c_151 | (simp_all; done))) | refine g_icmp_ne (tgt := 158) (p1 := 154) dX10_goesOn_151 rfl rfl (fun c_151 => ?_) (fun c_151 => by exfalso; first | omega | contradiction | exact absurd (by assumption) c_151 | (simp_all; done))
  refine g_iconst (p0 := 159) (v := nI 0) dX10_goesOn_158 rfl rfl ?_
  first | ((with_reducible refine isN2 ?_); refine g_iaddN (p0 := 160) dX10_goesOn_159 rfl ?_) | refine g_iadd (p0 := 160) dX10_goesOn_159 rfl ?_
  first | ((with_reducible refine isNS ?_); refine g_astN (p0 := 161) dX10_goesOn_160 (by first | rfl | assumption | exact RW.s (by assumption) | exact TW.s (by assumption)) (by first | decide | assumption) (by omega) rfl ?_) | refine g_ast (p0 := 161) dX10_goesOn_160 (by first | rfl | assumption | exact RW.s (by assumption) | exact TW.s (by assumption)) (by assumption) rfl ?_
  refine g_aload_n (p0 := 162) (i := 0) dX10_goesOn_161 rfl rfl rfl ?_
  refine g_getR (p0 := 165) dX10_goesOn_162 fX10_28 (by first | rfl | assumption | exact RW.s (by assumption) | exact TW.s (by assumption)) rfl rfl ?_
  refine g_iload_n (p0 := 166) (i := 1) dX10_goesOn_165 rfl rfl rfl ?_
  refine g_aload_n (p0 := 167) (i := 0) dX10_goesOn_166 rfl rfl rfl ?_
  refine g_getI (p0 := 170) dX10_goesOn_167 fX10_121 (by first | rfl | assumption | exact RW.s (by assumption) | exact TW.s (by assumption)) rfl (by first | assumption | ((repeat (first | exact up_hit | refine up_nv (by decide) ?_ | refine up_mv (by first | decide | omega) ?_)) <;> first | assumption | rfl)) rfl ?_
  refine g_iconst (p0 := 171) (v := nI 1) dX10_goesOn_170 rfl rfl ?_
  first | ((with_reducible refine isN2 ?_); refine g_isubN (p0 := 172) dX10_goesOn_171 (by omega) rfl ?_) | refine g_isub (p0 := 172) dX10_goesOn_171 rfl ?_
  first | ((with_reducible refine isNS ?_); refine g_astN (p0 := 173) dX10_goesOn_172 (by first | rfl | assumption | exact RW.s (by assumption) | exact TW.s (by assumption)) (by first | decide | assumption) (by omega) rfl ?_) | refine g_ast (p0 := 173) dX10_goesOn_172 (by first | rfl | assumption | exact RW.s (by assumption) | exact TW.s (by assumption)) (by assumption) rfl ?_
  refine g_aload_n (p0 := 174) (i := 0) dX10_goesOn_173 rfl rfl rfl ?_
  refine g_getR (p0 := 177) dX10_goesOn_174 fX10_31 (by first | rfl | assumption | exact RW.s (by assumption) | exact TW.s (by assumption)) rfl rfl ?_
  refine g_iload_n (p0 := 178) (i := 1) dX10_goesOn_177 rfl rfl rfl ?_
  refine g_aload_n (p0 := 179) (i := 0) dX10_goesOn_178 rfl rfl rfl ?_
  refine g_getI (p0 := 182) dX10_goesOn_179 fX10_118 (by first | rfl | assumption | exact RW.s (by assumption) | exact TW.s (by assumption)) rfl (by first | assumption | ((repeat (first | exact up_hit | refine up_nv (by decide) ?_ | refine up_mv (by first | decide | omega) ?_)) <;> first | assumption | rfl)) rfl ?_
  refine g_iconst (p0 := 183) (v := nI 1) dX10_goesOn_182 rfl rfl ?_
  first | ((with_reducible refine isN2 ?_); refine g_isubN (p0 := 184) dX10_goesOn_183 (by omega) rfl ?_) | refine g_isub (p0 := 184) dX10_goesOn_183 rfl ?_
  refine g_aload_n (p0 := 185) (i := 0) dX10_goesOn_184 rfl rfl rfl ?_
  refine g_getR (p0 := 188) dX10_goesOn_185 fX10_46 (by first | rfl | assumption | exact RW.s (by assumption) | exact TW.s (by assumption)) rfl rfl ?_
  refine g_aload_n (p0 := 189) (i := 0) dX10_goesOn_188 rfl rfl rfl ?_
  refine g_getI (p0 := 192) dX10_goesOn_189 fX10_121 (by first | rfl | assumption | exact RW.s (by assumption) | exact TW.s (by assumption)) rfl (by first | assumption | ((repeat (first | exact up_hit | refine up_nv (by decide) ?_ | refine up_mv (by first | decide | omega) ?_)) <;> first | assumption | rfl)) rfl ?_
  refine g_iconst (p0 := 193) (v := nI 1) dX10_goesOn_192 rfl rfl ?_
  first | ((with_reducible refine isN2 ?_); refine g_isubN (p0 := 194) dX10_goesOn_193 (by omega) rfl ?_) | refine g_isub (p0 := 194) dX10_goesOn_193 rfl ?_
  first | ((with_reducible refine isN1 ?_); refine g_aldN (p0 := 195) dX10_goesOn_194 (by first | rfl | assumption | exact RW.s (by assumption) | exact TW.s (by assumption)) (by first | decide | assumption) (by omega) (by first | assumption | ((repeat (first | exact up_hit | refine up_nv (by decide) ?_ | refine up_mv (by first | decide | omega) ?_)) <;> first | assumption | rfl)) rfl ?_) | refine g_ald (p0 := 195) dX10_goesOn_194 (by first | rfl | assumption | exact RW.s (by assumption) | exact TW.s (by assumption)) (by assumption) (by first | assumption | ((repeat (first | exact up_hit | refine up_nv (by decide) ?_ | refine up_mv (by first | decide | omega) ?_)) <;> first | assumption | rfl)) rfl ?_
  first | ((with_reducible refine isN2 ?_); refine g_isubN (p0 := 196) dX10_goesOn_195 (by omega) rfl ?_) | refine g_isub (p0 := 196) dX10_goesOn_195 rfl ?_
  first | ((with_reducible refine isNS ?_); refine g_astN (p0 := 197) dX10_goesOn_196 (by first | rfl | assumption | exact RW.s (by assumption) | exact TW.s (by assumption)) (by first | decide | assumption) (by omega) rfl ?_) | refine g_ast (p0 := 197) dX10_goesOn_196 (by first | rfl | assumption | exact RW.s (by assumption) | exact TW.s (by assumption)) (by assumption) rfl ?_
  refine g_aload_n (p0 := 198) (i := 0) dX10_goesOn_197 rfl rfl rfl ?_
  refine g_getR (p0 := 201) dX10_goesOn_198 fX10_34 (by first | rfl | assumption | exact RW.s (by assumption) | exact TW.s (by assumption)) rfl rfl ?_
  refine g_iload_n (p0 := 202) (i := 1) dX10_goesOn_201 rfl rfl rfl ?_
  refine g_aload_n (p0 := 203) (i := 0) dX10_goesOn_202 rfl rfl rfl ?_
  refine g_getR (p0 := 206) dX10_goesOn_203 fX10_37 (by first | rfl | assumption | exact RW.s (by assumption) | exact TW.s (by assumption)) rfl rfl ?_
  refine g_aload_n (p0 := 207) (i := 0) dX10_goesOn_206 rfl rfl rfl ?_
  refine g_getI (p0 := 210) dX10_goesOn_207 fX10_118 (by first | rfl | assumption | exact RW.s (by assumption) | exact TW.s (by assumption)) rfl (by first | assumption | ((repeat (first | exact up_hit | refine up_nv (by decide) ?_ | refine up_mv (by first | decide | omega) ?_)) <;> first | assumption | rfl)) rfl ?_
  refine g_iconst (p0 := 211) (v := nI 1) dX10_goesOn_210 rfl rfl ?_
  first | ((with_reducible refine isN2 ?_); refine g_isubN (p0 := 212) dX10_goesOn_211 (by omega) rfl ?_) | refine g_isub (p0 := 212) dX10_goesOn_211 rfl ?_
  first | ((with_reducible refine isN1 ?_); refine g_aldN (p0 := 213) dX10_goesOn_212 (by first | rfl | assumption | exact RW.s (by assumption) | exact TW.s (by assumption)) (by first | decide | assumption) (by omega) (by first | assumption | ((repeat (first | exact up_hit | refine up_nv (by decide) ?_ | refine up_mv (by first | decide | omega) ?_)) <;> first | assumption | rfl)) rfl ?_) | refine g_ald (p0 := 213) dX10_goesOn_212 (by first | rfl | assumption | exact RW.s (by assumption) | exact TW.s (by assumption)) (by assumption) (by first | assumption | ((repeat (first | exact up_hit | refine up_nv (by decide) ?_ | refine up_mv (by first | decide | omega) ?_)) <;> first | assumption | rfl)) rfl ?_
  refine g_iconst (p0 := 214) (v := nI 1) dX10_goesOn_213 rfl rfl ?_
  first | ((with_reducible refine isN2 ?_); refine g_isubN (p0 := 215) dX10_goesOn_214 (by omega) rfl ?_) | refine g_isub (p0 := 215) dX10_goesOn_214 rfl ?_
  first | ((with_reducible refine isNS ?_); refine g_astN (p0 := 216) dX10_goesOn_215 (by first | rfl | assumption | exact RW.s (by assumption) | exact TW.s (by assumption)) (by first | decide | assumption) (by omega) rfl ?_) | refine g_ast (p0 := 216) dX10_goesOn_215 (by first | rfl | assumption | exact RW.s (by assumption) | exact TW.s (by assumption)) (by assumption) rfl ?_
  refine g_return dX10_goesOn_216 rfl ?_
  exact next
