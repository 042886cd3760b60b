/-! READING, the reference: a stroke at a time -/
set_option maxRecDepth 20000 in
set_option maxHeartbeats 2000000 in
theorem rcaseOf_sp {g bt : Int32} {σ : Sg} (hb : σ 80 0 = bt) : CM mX10_caseOf [ar 79, ai g] σ (Ret (nI (cs bt g)) σ) := by
  refine CM_in (ls := [some (ar 79), some (ai g), none, none]) rfl ?_
  refine g_iconst (p0 := 1) (v := nI 4) dX10_caseOf_0 rfl rfl ?_
  refine g_iload_n (p0 := 2) (i := 1) dX10_caseOf_1 rfl rfl rfl ?_
  first | ((with_reducible refine isN2 ?_); refine g_imulN (p0 := 3) dX10_caseOf_2 rfl ?_) | refine g_imul (p0 := 3) dX10_caseOf_2 rfl ?_
  refine g_istore_n (p0 := 4) (i := 2) (ls2 := [_, _, _, _]) dX10_caseOf_3 rfl (Nat.le_of_ble_eq_true rfl) rfl rfl ?_
  refine g_aload_n (p0 := 5) (i := 0) dX10_caseOf_4 rfl rfl rfl ?_
  refine g_getR (p0 := 8) dX10_caseOf_5 fX10_7 (by first | rfl | assumption | exact RW.s (by assumption) | exact TW.s (by assumption)) rfl rfl ?_
  refine g_iconst (p0 := 9) (v := nI 0) dX10_caseOf_8 rfl rfl ?_
  first | ((with_reducible refine isN1 ?_); refine g_aldN (p0 := 10) dX10_caseOf_9 (by first | rfl | assumption | exact RW.s (by assumption) | exact TW.s (by assumption)) (by first | decide | assumption) (by omega) (by first | assumption | ((repeat (first | exact up_hit | refine up_nv (by decide) ?_ | refine up_mv (by first | decide | omega) ?_)) <;> first | assumption | rfl)) rfl ?_) | refine g_ald (p0 := 10) dX10_caseOf_9 (by first | rfl | assumption | exact RW.s (by assumption) | exact TW.s (by assumption)) (by assumption) (by first | assumption | ((repeat (first | exact up_hit | refine up_nv (by decide) ?_ | refine up_mv (by first | decide | omega) ?_)) <;> first | assumption | rfl)) rfl ?_
  refine g_istore_n (p0 := 11) (i := 3) (ls2 := [_, _, _, _]) dX10_caseOf_10 rfl (Nat.le_of_ble_eq_true rfl) rfl rfl ?_
  refine g_iload_n (p0 := 12) (i := 2) dX10_caseOf_11 rfl rfl rfl ?_
  refine g_iconst (p0 := 13) (v := nI 3) dX10_caseOf_12 rfl rfl ?_
  refine g_iload_n (p0 := 14) (i := 3) dX10_caseOf_13 rfl rfl rfl ?_
  first | ((with_reducible refine isN2 ?_); refine g_imulN (p0 := 15) dX10_caseOf_14 rfl ?_) | refine g_imul (p0 := 15) dX10_caseOf_14 rfl ?_
  first | ((with_reducible refine isN2 ?_); refine g_icmpN_ge (tgt := 22) (p1 := 18) dX10_caseOf_15 rfl (by omega) (by omega) rfl (fun c_15 => ?_) (fun c_15 => ?_)) | refine g_icmp_ge (tgt := 22) (p1 := 18) dX10_caseOf_15 rfl rfl (fun c_15 => ?_) (fun c_15 => ?_)
  · refine g_iload_n (p0 := 23) (i := 2) dX10_caseOf_22 rfl rfl rfl ?_
    refine g_bipush (p0 := 25) (v := nI 6) dX10_caseOf_23 (by decide) rfl ?_
    refine g_iload_n (p0 := 26) (i := 3) dX10_caseOf_25 rfl rfl rfl ?_
    first | ((with_reducible refine isN2 ?_); refine g_imulN (p0 := 27) dX10_caseOf_26 rfl ?_) | refine g_imul (p0 := 27) dX10_caseOf_26 rfl ?_
    first | ((with_reducible refine isN2 ?_); refine g_icmpN_ge (tgt := 34) (p1 := 30) dX10_caseOf_27 rfl (by omega) (by omega) rfl (fun c_27 => ?_) (fun c_27 => ?_)) | refine g_icmp_ge (tgt := 34) (p1 := 30) dX10_caseOf_27 rfl rfl (fun c_27 => ?_) (fun c_27 => ?_)
    · refine g_iload_n (p0 := 35) (i := 2) dX10_caseOf_34 rfl rfl rfl ?_
      refine g_bipush (p0 := 37) (v := nI 10) dX10_caseOf_35 (by decide) rfl ?_
      refine g_iload_n (p0 := 38) (i := 3) dX10_caseOf_37 rfl rfl rfl ?_
      first | ((with_reducible refine isN2 ?_); refine g_imulN (p0 := 39) dX10_caseOf_38 rfl ?_) | refine g_imul (p0 := 39) dX10_caseOf_38 rfl ?_
      first | ((with_reducible refine isN2 ?_); refine g_icmpN_ge (tgt := 46) (p1 := 42) dX10_caseOf_39 rfl (by omega) (by omega) rfl (fun c_39 => ?_) (fun c_39 => ?_)) | refine g_icmp_ge (tgt := 46) (p1 := 42) dX10_caseOf_39 rfl rfl (fun c_39 => ?_) (fun c_39 => ?_)
      · refine g_iload_n (p0 := 47) (i := 2) dX10_caseOf_46 rfl rfl rfl ?_
        refine g_bipush (p0 := 49) (v := nI 18) dX10_caseOf_47 (by decide) rfl ?_
        refine g_iload_n (p0 := 50) (i := 3) dX10_caseOf_49 rfl rfl rfl ?_
        first | ((with_reducible refine isN2 ?_); refine g_imulN (p0 := 51) dX10_caseOf_50 rfl ?_) | refine g_imul (p0 := 51) dX10_caseOf_50 rfl ?_
        first | ((with_reducible refine isN2 ?_); refine g_icmpN_ge (tgt := 58) (p1 := 54) dX10_caseOf_51 rfl (by omega) (by omega) rfl (fun c_51 => ?_) (fun c_51 => ?_)) | refine g_icmp_ge (tgt := 58) (p1 := 54) dX10_caseOf_51 rfl rfl (fun c_51 => ?_) (fun c_51 => ?_)
        · refine g_iload_n (p0 := 59) (i := 2) dX10_caseOf_58 rfl rfl rfl ?_
          refine g_bipush (p0 := 61) (v := nI 32) dX10_caseOf_59 (by decide) rfl ?_
          refine g_iload_n (p0 := 62) (i := 3) dX10_caseOf_61 rfl rfl rfl ?_
          first | ((with_reducible refine isN2 ?_); refine g_imulN (p0 := 63) dX10_caseOf_62 rfl ?_) | refine g_imul (p0 := 63) dX10_caseOf_62 rfl ?_
          first | ((with_reducible refine isN2 ?_); refine g_icmpN_ge (tgt := 70) (p1 := 66) dX10_caseOf_63 rfl (by omega) (by omega) rfl (fun c_63 => ?_) (fun c_63 => ?_)) | refine g_icmp_ge (tgt := 70) (p1 := 66) dX10_caseOf_63 rfl rfl (fun c_63 => ?_) (fun c_63 => ?_)
          · refine g_iconst (p0 := 71) (v := nI 5) dX10_caseOf_70 rfl rfl ?_
            refine g_ireturn dX10_caseOf_71 rfl rfl (?_)
            exact Ret.i (by simp [cs, *]) rfl
          · refine g_iconst (p0 := 67) (v := nI 4) dX10_caseOf_66 rfl rfl ?_
            refine g_goto (tgt := 71) dX10_caseOf_67 rfl ?_
            refine g_ireturn dX10_caseOf_71 rfl rfl (?_)
            exact Ret.i (by simp [cs, *]) rfl
        · refine g_iconst (p0 := 55) (v := nI 3) dX10_caseOf_54 rfl rfl ?_
          refine g_goto (tgt := 71) dX10_caseOf_55 rfl ?_
          refine g_ireturn dX10_caseOf_71 rfl rfl (?_)
          exact Ret.i (by simp [cs, *]) rfl
      · refine g_iconst (p0 := 43) (v := nI 2) dX10_caseOf_42 rfl rfl ?_
        refine g_goto (tgt := 71) dX10_caseOf_43 rfl ?_
        refine g_ireturn dX10_caseOf_71 rfl rfl (?_)
        exact Ret.i (by simp [cs, *]) rfl
    · refine g_iconst (p0 := 31) (v := nI 1) dX10_caseOf_30 rfl rfl ?_
      refine g_goto (tgt := 71) dX10_caseOf_31 rfl ?_
      refine g_ireturn dX10_caseOf_71 rfl rfl (?_)
      exact Ret.i (by simp [cs, *]) rfl
  · refine g_iconst (p0 := 19) (v := nI 0) dX10_caseOf_18 rfl rfl ?_
    refine g_goto (tgt := 71) dX10_caseOf_19 rfl ?_
    refine g_ireturn dX10_caseOf_71 rfl rfl (?_)
    exact Ret.i (by simp [cs, *]) rfl
def LTr (σ : Sg) (L : Nat) (g a b : Nat → Nat) : Prop := σ 79 12 = nI L ∧ ∀ l, l < L → σ 89 l = nI (g l) ∧ σ 90 l = nI (a l) ∧ σ 91 l = nI (b l)
def MTr (σ : Sg) (M : Nat) (s f p d : Nat → Nat) : Prop := σ 79 11 = nI M ∧ ∀ m, m < M → σ 93 m = nI (s m) ∧ σ 92 m = nI (f m) ∧ σ 94 m = nI (p m) ∧ σ 95 m = nI (d m)
theorem LTr.of {σ σ' : Sg} {L : Nat} {g a b : Nat → Nat} (h : LTr σ L g a b) (h1 : σ' 79 12 = σ 79 12) (h2 : σ' 89 = σ 89) (h3 : σ' 90 = σ 90) (h4 : σ' 91 = σ 91) : LTr σ' L g a b := by
  unfold LTr
  rw [h1, h2, h3, h4]
  exact h
theorem MTr.of {σ σ' : Sg} {M : Nat} {s f p d : Nat → Nat} (h : MTr σ M s f p d) (h1 : σ' 79 11 = σ 79 11) (h2 : σ' 93 = σ 93) (h3 : σ' 92 = σ 92) (h4 : σ' 94 = σ 94) (h5 : σ' 95 = σ 95) : MTr σ' M s f p d := by
  unfold MTr
  rw [h1, h2, h3, h4, h5]
  exact h
theorem LTr.cong {σ : Sg} {L L' : Nat} {g a b g' a' b' : Nat → Nat} (h : LTr σ L g a b) (e : L = L') (hg : ∀ l, l < L → g l = g' l) (ha : ∀ l, l < L → a l = a' l) (hb : ∀ l, l < L → b l = b' l) : LTr σ L' g' a' b' := by
  subst e
  refine ⟨h.1, fun l hl => ?_⟩
  rw [← hg l hl, ← ha l hl, ← hb l hl]
  exact h.2 l hl
theorem MTr.cong {σ : Sg} {M M' : Nat} {s f p d s' f' p' d' : Nat → Nat} (h : MTr σ M s f p d) (e : M = M') (h1 : ∀ m, m < M → s m = s' m) (h2 : ∀ m, m < M → f m = f' m) (h4 : ∀ m, m < M → p m = p' m) (h5 : ∀ m, m < M → d m = d' m) : MTr σ M' s' f' p' d' := by
  subst e
  refine ⟨h.1, fun m hm => ?_⟩
  rw [← h1 m hm, ← h2 m hm, ← h4 m hm, ← h5 m hm]
  exact h.2 m hm
theorem nu_same {f : Nat → Nat} {i x : Nat} (h : x = f i) : nu f i x = f := by
  funext j
  by_cases hj : j = i
  · subst hj; simp [nu, h]
  · simp [nu, hj]
set_option maxRecDepth 20000 in
set_option maxHeartbeats 2000000 in
theorem isDoubtful_z {x : Nat} {σ : Sg} (hx : σ 85 0 = nI x) : CM mX10_isDoubtful [ar 79, ai (nI 0)] σ (Ret (nI 0) σ) := by
  refine CM_in (ls := [some (ar 79), some (ai (nI 0)), none]) rfl ?_
  refine g_aload_n (p0 := 1) (i := 0) dX10_isDoubtful_0 rfl rfl rfl ?_
  refine g_getR (p0 := 4) dX10_isDoubtful_1 fX10_25 (by first | rfl | assumption | exact RW.s (by assumption) | exact TW.s (by assumption)) rfl rfl ?_
  refine g_iload_n (p0 := 5) (i := 1) dX10_isDoubtful_4 rfl rfl rfl ?_
  first | ((with_reducible refine isN1 ?_); refine g_aldN (p0 := 6) dX10_isDoubtful_5 (by first | rfl | assumption | exact RW.s (by assumption) | exact TW.s (by assumption)) (by first | decide | assumption) (by omega) (by first | assumption | ((repeat (first | exact up_hit | refine up_nv (by decide) ?_ | refine up_mv (by first | decide | omega) ?_)) <;> first | assumption | rfl)) rfl ?_) | refine g_ald (p0 := 6) dX10_isDoubtful_5 (by first | rfl | assumption | exact RW.s (by assumption) | exact TW.s (by assumption)) (by assumption) (by first | assumption | ((repeat (first | exact up_hit | refine up_nv (by decide) ?_ | refine up_mv (by first | decide | omega) ?_)) <;> first | assumption | rfl)) rfl ?_
  refine g_istore_n (p0 := 7) (i := 2) (ls2 := [_, _, _]) dX10_isDoubtful_6 rfl (Nat.le_of_ble_eq_true rfl) rfl rfl ?_
  refine g_iload_n (p0 := 8) (i := 1) dX10_isDoubtful_7 rfl rfl rfl ?_
  first | ((with_reducible refine isN1 ?_); refine g_ifN_le (tgt := 57) (p1 := 11) dX10_isDoubtful_8 rfl (by omega) rfl (fun c_8 => ?_) (fun c_8 => by exfalso; first | omega | contradiction | exact absurd (by assumption) c_8 | (simp_all; done))) | refine g_if_le (tgt := 57) (p1 := 11) dX10_isDoubtful_8 rfl rfl (fun c_8 => ?_) (fun c_8 => by exfalso; first | omega | contradiction | exact absurd (by assumption) c_8 | (simp_all; done))
  refine g_iconst (p0 := 58) (v := nI 0) dX10_isDoubtful_57 rfl rfl ?_
  refine g_ireturn dX10_isDoubtful_58 rfl (by first | rfl | exact bool_narrow (by first | exact Or.inl rfl | exact Or.inr rfl | assumption | (split <;> first | exact Or.inl rfl | exact Or.inr rfl))) (?_)
  exact ⟨rfl, rfl⟩
set_option maxRecDepth 20000 in
set_option maxHeartbeats 2000000 in
theorem isDoubtful_0 {k x : Nat} {g bt tl : Int32} {σ : Sg} (hk : k < 160) (hx : σ 85 k = nI x) (hx5 : x ≤ 5) (hg : σ 84 k = g) (hb : σ 80 0 = bt) (ht : σ 80 1 = tl) (h0 : 0 < k) (h1 : cs bt (g - tl) = x) (h2 : cs bt (g + tl) = x) : CM mX10_isDoubtful [ar 79, ai (nI k)] σ (Ret (nI 0) σ) := by
  have q1 := cs_le bt g
  have q2 := cs_le bt (g - tl)
  have q3 := cs_le bt (g + tl)
  refine CM_in (ls := [some (ar 79), some (ai (nI k)), none]) rfl ?_
  refine g_aload_n (p0 := 1) (i := 0) dX10_isDoubtful_0 rfl rfl rfl ?_
  refine g_getR (p0 := 4) dX10_isDoubtful_1 fX10_25 (by first | rfl | assumption | exact RW.s (by assumption) | exact TW.s (by assumption)) rfl rfl ?_
  refine g_iload_n (p0 := 5) (i := 1) dX10_isDoubtful_4 rfl rfl rfl ?_
  first | ((with_reducible refine isN1 ?_); refine g_aldN (p0 := 6) dX10_isDoubtful_5 (by first | rfl | assumption | exact RW.s (by assumption) | exact TW.s (by assumption)) (by first | decide | assumption) (by omega) (by first | assumption | ((repeat (first | exact up_hit | refine up_nv (by decide) ?_ | refine up_mv (by first | decide | omega) ?_)) <;> first | assumption | rfl)) rfl ?_) | refine g_ald (p0 := 6) dX10_isDoubtful_5 (by first | rfl | assumption | exact RW.s (by assumption) | exact TW.s (by assumption)) (by assumption) (by first | assumption | ((repeat (first | exact up_hit | refine up_nv (by decide) ?_ | refine up_mv (by first | decide | omega) ?_)) <;> first | assumption | rfl)) rfl ?_
  refine g_istore_n (p0 := 7) (i := 2) (ls2 := [_, _, _]) dX10_isDoubtful_6 rfl (Nat.le_of_ble_eq_true rfl) rfl rfl ?_
  refine g_iload_n (p0 := 8) (i := 1) dX10_isDoubtful_7 rfl rfl rfl ?_
  first | ((with_reducible refine isN1 ?_); refine g_ifN_le (tgt := 57) (p1 := 11) dX10_isDoubtful_8 rfl (by omega) rfl (fun c_8 => by exfalso; first | omega | contradiction | exact absurd (by assumption) c_8 | (simp_all; done)) (fun c_8 => ?_)) | refine g_if_le (tgt := 57) (p1 := 11) dX10_isDoubtful_8 rfl rfl (fun c_8 => by exfalso; first | omega | contradiction | exact absurd (by assumption) c_8 | (simp_all; done)) (fun c_8 => ?_)
  refine g_aload_n (p0 := 12) (i := 0) dX10_isDoubtful_11 rfl rfl rfl ?_
  refine g_aload_n (p0 := 13) (i := 0) dX10_isDoubtful_12 rfl rfl rfl ?_
  refine g_getR (p0 := 16) dX10_isDoubtful_13 fX10_22 (by first | rfl | assumption | exact RW.s (by assumption) | exact TW.s (by assumption)) rfl rfl ?_
  refine g_iload_n (p0 := 17) (i := 1) dX10_isDoubtful_16 rfl rfl rfl ?_
  first | ((with_reducible refine isN1 ?_); refine g_aldN (p0 := 18) dX10_isDoubtful_17 (by first | rfl | assumption | exact RW.s (by assumption) | exact TW.s (by assumption)) (by first | decide | assumption) (by omega) (by first | assumption | ((repeat (first | exact up_hit | refine up_nv (by decide) ?_ | refine up_mv (by first | decide | omega) ?_)) <;> first | assumption | rfl)) rfl ?_) | refine g_ald (p0 := 18) dX10_isDoubtful_17 (by first | rfl | assumption | exact RW.s (by assumption) | exact TW.s (by assumption)) (by assumption) (by first | assumption | ((repeat (first | exact up_hit | refine up_nv (by decide) ?_ | refine up_mv (by first | decide | omega) ?_)) <;> first | assumption | rfl)) rfl ?_
  refine g_aload_n (p0 := 19) (i := 0) dX10_isDoubtful_18 rfl rfl rfl ?_
  refine g_getR (p0 := 22) dX10_isDoubtful_19 fX10_7 (by first | rfl | assumption | exact RW.s (by assumption) | exact TW.s (by assumption)) rfl rfl ?_
  refine g_iconst (p0 := 23) (v := nI 1) dX10_isDoubtful_22 rfl rfl ?_
  first | ((with_reducible refine isN1 ?_); refine g_aldN (p0 := 24) dX10_isDoubtful_23 (by first | rfl | assumption | exact RW.s (by assumption) | exact TW.s (by assumption)) (by first | decide | assumption) (by omega) (by first | assumption | ((repeat (first | exact up_hit | refine up_nv (by decide) ?_ | refine up_mv (by first | decide | omega) ?_)) <;> first | assumption | rfl)) rfl ?_) | refine g_ald (p0 := 24) dX10_isDoubtful_23 (by first | rfl | assumption | exact RW.s (by assumption) | exact TW.s (by assumption)) (by assumption) (by first | assumption | ((repeat (first | exact up_hit | refine up_nv (by decide) ?_ | refine up_mv (by first | decide | omega) ?_)) <;> first | assumption | rfl)) rfl ?_
  first | ((with_reducible refine isN2 ?_); refine g_isubN (p0 := 25) dX10_isDoubtful_24 (by omega) rfl ?_) | refine g_isub (p0 := 25) dX10_isDoubtful_24 rfl ?_
  refine g_cV1R (p0 := 28) (r1 := mX10_caseOf) dX10_isDoubtful_25 lX10_115 vX10_caseOf (by first | rfl | assumption | exact RW.s (by assumption) | exact TW.s (by assumption)) ⟨_, _, rfl⟩ (FITi rfl rfl) (Nat.le_of_ble_eq_true rfl) (rcaseOf_sp (by first | assumption | ((repeat (first | exact up_hit | refine up_nv (by decide) ?_ | refine up_mv (by first | decide | omega) ?_)) <;> first | assumption | rfl))) rfl ?_
  refine g_iload_n (p0 := 29) (i := 2) dX10_isDoubtful_28 rfl rfl rfl ?_
  first | ((with_reducible refine isN2 ?_); refine g_icmpN_ne (tgt := 53) (p1 := 32) dX10_isDoubtful_29 rfl (by omega) (by omega) rfl (fun c_29 => by exfalso; first | omega | contradiction | exact absurd (by assumption) c_29 | (simp_all; done)) (fun c_29 => ?_)) | refine g_icmp_ne (tgt := 53) (p1 := 32) dX10_isDoubtful_29 rfl rfl (fun c_29 => by exfalso; first | omega | contradiction | exact absurd (by assumption) c_29 | (simp_all; done)) (fun c_29 => ?_)
  refine g_aload_n (p0 := 33) (i := 0) dX10_isDoubtful_32 rfl rfl rfl ?_
  refine g_aload_n (p0 := 34) (i := 0) dX10_isDoubtful_33 rfl rfl rfl ?_
  refine g_getR (p0 := 37) dX10_isDoubtful_34 fX10_22 (by first | rfl | assumption | exact RW.s (by assumption) | exact TW.s (by assumption)) rfl rfl ?_
  refine g_iload_n (p0 := 38) (i := 1) dX10_isDoubtful_37 rfl rfl rfl ?_
  first | ((with_reducible refine isN1 ?_); refine g_aldN (p0 := 39) dX10_isDoubtful_38 (by first | rfl | assumption | exact RW.s (by assumption) | exact TW.s (by assumption)) (by first | decide | assumption) (by omega) (by first | assumption | ((repeat (first | exact up_hit | refine up_nv (by decide) ?_ | refine up_mv (by first | decide | omega) ?_)) <;> first | assumption | rfl)) rfl ?_) | refine g_ald (p0 := 39) dX10_isDoubtful_38 (by first | rfl | assumption | exact RW.s (by assumption) | exact TW.s (by assumption)) (by assumption) (by first | assumption | ((repeat (first | exact up_hit | refine up_nv (by decide) ?_ | refine up_mv (by first | decide | omega) ?_)) <;> first | assumption | rfl)) rfl ?_
  refine g_aload_n (p0 := 40) (i := 0) dX10_isDoubtful_39 rfl rfl rfl ?_
  refine g_getR (p0 := 43) dX10_isDoubtful_40 fX10_7 (by first | rfl | assumption | exact RW.s (by assumption) | exact TW.s (by assumption)) rfl rfl ?_
  refine g_iconst (p0 := 44) (v := nI 1) dX10_isDoubtful_43 rfl rfl ?_
  first | ((with_reducible refine isN1 ?_); refine g_aldN (p0 := 45) dX10_isDoubtful_44 (by first | rfl | assumption | exact RW.s (by assumption) | exact TW.s (by assumption)) (by first | decide | assumption) (by omega) (by first | assumption | ((repeat (first | exact up_hit | refine up_nv (by decide) ?_ | refine up_mv (by first | decide | omega) ?_)) <;> first | assumption | rfl)) rfl ?_) | refine g_ald (p0 := 45) dX10_isDoubtful_44 (by first | rfl | assumption | exact RW.s (by assumption) | exact TW.s (by assumption)) (by assumption) (by first | assumption | ((repeat (first | exact up_hit | refine up_nv (by decide) ?_ | refine up_mv (by first | decide | omega) ?_)) <;> first | assumption | rfl)) rfl ?_
  first | ((with_reducible refine isN2 ?_); refine g_iaddN (p0 := 46) dX10_isDoubtful_45 rfl ?_) | refine g_iadd (p0 := 46) dX10_isDoubtful_45 rfl ?_
  refine g_cV1R (p0 := 49) (r1 := mX10_caseOf) dX10_isDoubtful_46 lX10_115 vX10_caseOf (by first | rfl | assumption | exact RW.s (by assumption) | exact TW.s (by assumption)) ⟨_, _, rfl⟩ (FITi rfl rfl) (Nat.le_of_ble_eq_true rfl) (rcaseOf_sp (by first | assumption | ((repeat (first | exact up_hit | refine up_nv (by decide) ?_ | refine up_mv (by first | decide | omega) ?_)) <;> first | assumption | rfl))) rfl ?_
  refine g_iload_n (p0 := 50) (i := 2) dX10_isDoubtful_49 rfl rfl rfl ?_
  first | ((with_reducible refine isN2 ?_); refine g_icmpN_eq (tgt := 57) (p1 := 53) dX10_isDoubtful_50 rfl (by omega) (by omega) rfl (fun c_50 => ?_) (fun c_50 => by exfalso; first | omega | contradiction | exact absurd (by assumption) c_50 | (simp_all; done))) | refine g_icmp_eq (tgt := 57) (p1 := 53) dX10_isDoubtful_50 rfl rfl (fun c_50 => ?_) (fun c_50 => by exfalso; first | omega | contradiction | exact absurd (by assumption) c_50 | (simp_all; done))
  refine g_iconst (p0 := 58) (v := nI 0) dX10_isDoubtful_57 rfl rfl ?_
  refine g_ireturn dX10_isDoubtful_58 rfl (by first | rfl | exact bool_narrow (by first | exact Or.inl rfl | exact Or.inr rfl | assumption | (split <;> first | exact Or.inl rfl | exact Or.inr rfl))) (?_)
  exact ⟨rfl, rfl⟩
set_option maxRecDepth 20000 in
set_option maxHeartbeats 2000000 in
theorem isDoubtful_1a {k x : Nat} {g bt tl : Int32} {σ : Sg} (hk : k < 160) (hx : σ 85 k = nI x) (hx5 : x ≤ 5) (hg : σ 84 k = g) (hb : σ 80 0 = bt) (ht : σ 80 1 = tl) (h0 : 0 < k) (h1 : ¬ cs bt (g - tl) = x) : CM mX10_isDoubtful [ar 79, ai (nI k)] σ (Ret (nI 1) σ) := by
  have q1 := cs_le bt g
  have q2 := cs_le bt (g - tl)
  have q3 := cs_le bt (g + tl)
  refine CM_in (ls := [some (ar 79), some (ai (nI k)), none]) rfl ?_
  refine g_aload_n (p0 := 1) (i := 0) dX10_isDoubtful_0 rfl rfl rfl ?_
  refine g_getR (p0 := 4) dX10_isDoubtful_1 fX10_25 (by first | rfl | assumption | exact RW.s (by assumption) | exact TW.s (by assumption)) rfl rfl ?_
  refine g_iload_n (p0 := 5) (i := 1) dX10_isDoubtful_4 rfl rfl rfl ?_
  first | ((with_reducible refine isN1 ?_); refine g_aldN (p0 := 6) dX10_isDoubtful_5 (by first | rfl | assumption | exact RW.s (by assumption) | exact TW.s (by assumption)) (by first | decide | assumption) (by omega) (by first | assumption | ((repeat (first | exact up_hit | refine up_nv (by decide) ?_ | refine up_mv (by first | decide | omega) ?_)) <;> first | assumption | rfl)) rfl ?_) | refine g_ald (p0 := 6) dX10_isDoubtful_5 (by first | rfl | assumption | exact RW.s (by assumption) | exact TW.s (by assumption)) (by assumption) (by first | assumption | ((repeat (first | exact up_hit | refine up_nv (by decide) ?_ | refine up_mv (by first | decide | omega) ?_)) <;> first | assumption | rfl)) rfl ?_
  refine g_istore_n (p0 := 7) (i := 2) (ls2 := [_, _, _]) dX10_isDoubtful_6 rfl (Nat.le_of_ble_eq_true rfl) rfl rfl ?_
  refine g_iload_n (p0 := 8) (i := 1) dX10_isDoubtful_7 rfl rfl rfl ?_
  first | ((with_reducible refine isN1 ?_); refine g_ifN_le (tgt := 57) (p1 := 11) dX10_isDoubtful_8 rfl (by omega) rfl (fun c_8 => by exfalso; first | omega | contradiction | exact absurd (by assumption) c_8 | (simp_all; done)) (fun c_8 => ?_)) | refine g_if_le (tgt := 57) (p1 := 11) dX10_isDoubtful_8 rfl rfl (fun c_8 => by exfalso; first | omega | contradiction | exact absurd (by assumption) c_8 | (simp_all; done)) (fun c_8 => ?_)
  refine g_aload_n (p0 := 12) (i := 0) dX10_isDoubtful_11 rfl rfl rfl ?_
  refine g_aload_n (p0 := 13) (i := 0) dX10_isDoubtful_12 rfl rfl rfl ?_
  refine g_getR (p0 := 16) dX10_isDoubtful_13 fX10_22 (by first | rfl | assumption | exact RW.s (by assumption) | exact TW.s (by assumption)) rfl rfl ?_
  refine g_iload_n (p0 := 17) (i := 1) dX10_isDoubtful_16 rfl rfl rfl ?_
  first | ((with_reducible refine isN1 ?_); refine g_aldN (p0 := 18) dX10_isDoubtful_17 (by first | rfl | assumption | exact RW.s (by assumption) | exact TW.s (by assumption)) (by first | decide | assumption) (by omega) (by first | assumption | ((repeat (first | exact up_hit | refine up_nv (by decide) ?_ | refine up_mv (by first | decide | omega) ?_)) <;> first | assumption | rfl)) rfl ?_) | refine g_ald (p0 := 18) dX10_isDoubtful_17 (by first | rfl | assumption | exact RW.s (by assumption) | exact TW.s (by assumption)) (by assumption) (by first | assumption | ((repeat (first | exact up_hit | refine up_nv (by decide) ?_ | refine up_mv (by first | decide | omega) ?_)) <;> first | assumption | rfl)) rfl ?_
  refine g_aload_n (p0 := 19) (i := 0) dX10_isDoubtful_18 rfl rfl rfl ?_
  refine g_getR (p0 := 22) dX10_isDoubtful_19 fX10_7 (by first | rfl | assumption | exact RW.s (by assumption) | exact TW.s (by assumption)) rfl rfl ?_
  refine g_iconst (p0 := 23) (v := nI 1) dX10_isDoubtful_22 rfl rfl ?_
  first | ((with_reducible refine isN1 ?_); refine g_aldN (p0 := 24) dX10_isDoubtful_23 (by first | rfl | assumption | exact RW.s (by assumption) | exact TW.s (by assumption)) (by first | decide | assumption) (by omega) (by first | assumption | ((repeat (first | exact up_hit | refine up_nv (by decide) ?_ | refine up_mv (by first | decide | omega) ?_)) <;> first | assumption | rfl)) rfl ?_) | refine g_ald (p0 := 24) dX10_isDoubtful_23 (by first | rfl | assumption | exact RW.s (by assumption) | exact TW.s (by assumption)) (by assumption) (by first | assumption | ((repeat (first | exact up_hit | refine up_nv (by decide) ?_ | refine up_mv (by first | decide | omega) ?_)) <;> first | assumption | rfl)) rfl ?_
  first | ((with_reducible refine isN2 ?_); refine g_isubN (p0 := 25) dX10_isDoubtful_24 (by omega) rfl ?_) | refine g_isub (p0 := 25) dX10_isDoubtful_24 rfl ?_
  refine g_cV1R (p0 := 28) (r1 := mX10_caseOf) dX10_isDoubtful_25 lX10_115 vX10_caseOf (by first | rfl | assumption | exact RW.s (by assumption) | exact TW.s (by assumption)) ⟨_, _, rfl⟩ (FITi rfl rfl) (Nat.le_of_ble_eq_true rfl) (rcaseOf_sp (by first | assumption | ((repeat (first | exact up_hit | refine up_nv (by decide) ?_ | refine up_mv (by first | decide | omega) ?_)) <;> first | assumption | rfl))) rfl ?_
  refine g_iload_n (p0 := 29) (i := 2) dX10_isDoubtful_28 rfl rfl rfl ?_
  first | ((with_reducible refine isN2 ?_); refine g_icmpN_ne (tgt := 53) (p1 := 32) dX10_isDoubtful_29 rfl (by omega) (by omega) rfl (fun c_29 => ?_) (fun c_29 => by exfalso; first | omega | contradiction | exact absurd (by assumption) c_29 | (simp_all; done))) | refine g_icmp_ne (tgt := 53) (p1 := 32) dX10_isDoubtful_29 rfl rfl (fun c_29 => ?_) (fun c_29 => by exfalso; first | omega | contradiction | exact absurd (by assumption) c_29 | (simp_all; done))
  refine g_iconst (p0 := 54) (v := nI 1) dX10_isDoubtful_53 rfl rfl ?_
  refine g_goto (tgt := 58) dX10_isDoubtful_54 rfl ?_
  refine g_ireturn dX10_isDoubtful_58 rfl (by first | rfl | exact bool_narrow (by first | exact Or.inl rfl | exact Or.inr rfl | assumption | (split <;> first | exact Or.inl rfl | exact Or.inr rfl))) (?_)
  exact ⟨rfl, rfl⟩
set_option maxRecDepth 20000 in
set_option maxHeartbeats 2000000 in
theorem isDoubtful_1b {k x : Nat} {g bt tl : Int32} {σ : Sg} (hk : k < 160) (hx : σ 85 k = nI x) (hx5 : x ≤ 5) (hg : σ 84 k = g) (hb : σ 80 0 = bt) (ht : σ 80 1 = tl) (h0 : 0 < k) (h1 : cs bt (g - tl) = x) (h2 : ¬ cs bt (g + tl) = x) : CM mX10_isDoubtful [ar 79, ai (nI k)] σ (Ret (nI 1) σ) := by
  have q1 := cs_le bt g
  have q2 := cs_le bt (g - tl)
  have q3 := cs_le bt (g + tl)
  refine CM_in (ls := [some (ar 79), some (ai (nI k)), none]) rfl ?_
  refine g_aload_n (p0 := 1) (i := 0) dX10_isDoubtful_0 rfl rfl rfl ?_
  refine g_getR (p0 := 4) dX10_isDoubtful_1 fX10_25 (by first | rfl | assumption | exact RW.s (by assumption) | exact TW.s (by assumption)) rfl rfl ?_
  refine g_iload_n (p0 := 5) (i := 1) dX10_isDoubtful_4 rfl rfl rfl ?_
  first | ((with_reducible refine isN1 ?_); refine g_aldN (p0 := 6) dX10_isDoubtful_5 (by first | rfl | assumption | exact RW.s (by assumption) | exact TW.s (by assumption)) (by first | decide | assumption) (by omega) (by first | assumption | ((repeat (first | exact up_hit | refine up_nv (by decide) ?_ | refine up_mv (by first | decide | omega) ?_)) <;> first | assumption | rfl)) rfl ?_) | refine g_ald (p0 := 6) dX10_isDoubtful_5 (by first | rfl | assumption | exact RW.s (by assumption) | exact TW.s (by assumption)) (by assumption) (by first | assumption | ((repeat (first | exact up_hit | refine up_nv (by decide) ?_ | refine up_mv (by first | decide | omega) ?_)) <;> first | assumption | rfl)) rfl ?_
  refine g_istore_n (p0 := 7) (i := 2) (ls2 := [_, _, _]) dX10_isDoubtful_6 rfl (Nat.le_of_ble_eq_true rfl) rfl rfl ?_
  refine g_iload_n (p0 := 8) (i := 1) dX10_isDoubtful_7 rfl rfl rfl ?_
  first | ((with_reducible refine isN1 ?_); refine g_ifN_le (tgt := 57) (p1 := 11) dX10_isDoubtful_8 rfl (by omega) rfl (fun c_8 => by exfalso; first | omega | contradiction | exact absurd (by assumption) c_8 | (simp_all; done)) (fun c_8 => ?_)) | refine g_if_le (tgt := 57) (p1 := 11) dX10_isDoubtful_8 rfl rfl (fun c_8 => by exfalso; first | omega | contradiction | exact absurd (by assumption) c_8 | (simp_all; done)) (fun c_8 => ?_)
  refine g_aload_n (p0 := 12) (i := 0) dX10_isDoubtful_11 rfl rfl rfl ?_
  refine g_aload_n (p0 := 13) (i := 0) dX10_isDoubtful_12 rfl rfl rfl ?_
  refine g_getR (p0 := 16) dX10_isDoubtful_13 fX10_22 (by first | rfl | assumption | exact RW.s (by assumption) | exact TW.s (by assumption)) rfl rfl ?_
  refine g_iload_n (p0 := 17) (i := 1) dX10_isDoubtful_16 rfl rfl rfl ?_
  first | ((with_reducible refine isN1 ?_); refine g_aldN (p0 := 18) dX10_isDoubtful_17 (by first | rfl | assumption | exact RW.s (by assumption) | exact TW.s (by assumption)) (by first | decide | assumption) (by omega) (by first | assumption | ((repeat (first | exact up_hit | refine up_nv (by decide) ?_ | refine up_mv (by first | decide | omega) ?_)) <;> first | assumption | rfl)) rfl ?_) | refine g_ald (p0 := 18) dX10_isDoubtful_17 (by first | rfl | assumption | exact RW.s (by assumption) | exact TW.s (by assumption)) (by assumption) (by first | assumption | ((repeat (first | exact up_hit | refine up_nv (by decide) ?_ | refine up_mv (by first | decide | omega) ?_)) <;> first | assumption | rfl)) rfl ?_
  refine g_aload_n (p0 := 19) (i := 0) dX10_isDoubtful_18 rfl rfl rfl ?_
  refine g_getR (p0 := 22) dX10_isDoubtful_19 fX10_7 (by first | rfl | assumption | exact RW.s (by assumption) | exact TW.s (by assumption)) rfl rfl ?_
  refine g_iconst (p0 := 23) (v := nI 1) dX10_isDoubtful_22 rfl rfl ?_
  first | ((with_reducible refine isN1 ?_); refine g_aldN (p0 := 24) dX10_isDoubtful_23 (by first | rfl | assumption | exact RW.s (by assumption) | exact TW.s (by assumption)) (by first | decide | assumption) (by omega) (by first | assumption | ((repeat (first | exact up_hit | refine up_nv (by decide) ?_ | refine up_mv (by first | decide | omega) ?_)) <;> first | assumption | rfl)) rfl ?_) | refine g_ald (p0 := 24) dX10_isDoubtful_23 (by first | rfl | assumption | exact RW.s (by assumption) | exact TW.s (by assumption)) (by assumption) (by first | assumption | ((repeat (first | exact up_hit | refine up_nv (by decide) ?_ | refine up_mv (by first | decide | omega) ?_)) <;> first | assumption | rfl)) rfl ?_
  first | ((with_reducible refine isN2 ?_); refine g_isubN (p0 := 25) dX10_isDoubtful_24 (by omega) rfl ?_) | refine g_isub (p0 := 25) dX10_isDoubtful_24 rfl ?_
  refine g_cV1R (p0 := 28) (r1 := mX10_caseOf) dX10_isDoubtful_25 lX10_115 vX10_caseOf (by first | rfl | assumption | exact RW.s (by assumption) | exact TW.s (by assumption)) ⟨_, _, rfl⟩ (FITi rfl rfl) (Nat.le_of_ble_eq_true rfl) (rcaseOf_sp (by first | assumption | ((repeat (first | exact up_hit | refine up_nv (by decide) ?_ | refine up_mv (by first | decide | omega) ?_)) <;> first | assumption | rfl))) rfl ?_
  refine g_iload_n (p0 := 29) (i := 2) dX10_isDoubtful_28 rfl rfl rfl ?_
  first | ((with_reducible refine isN2 ?_); refine g_icmpN_ne (tgt := 53) (p1 := 32) dX10_isDoubtful_29 rfl (by omega) (by omega) rfl (fun c_29 => by exfalso; first | omega | contradiction | exact absurd (by assumption) c_29 | (simp_all; done)) (fun c_29 => ?_)) | refine g_icmp_ne (tgt := 53) (p1 := 32) dX10_isDoubtful_29 rfl rfl (fun c_29 => by exfalso; first | omega | contradiction | exact absurd (by assumption) c_29 | (simp_all; done)) (fun c_29 => ?_)
  refine g_aload_n (p0 := 33) (i := 0) dX10_isDoubtful_32 rfl rfl rfl ?_
  refine g_aload_n (p0 := 34) (i := 0) dX10_isDoubtful_33 rfl rfl rfl ?_
  refine g_getR (p0 := 37) dX10_isDoubtful_34 fX10_22 (by first | rfl | assumption | exact RW.s (by assumption) | exact TW.s (by assumption)) rfl rfl ?_
  refine g_iload_n (p0 := 38) (i := 1) dX10_isDoubtful_37 rfl rfl rfl ?_
  first | ((with_reducible refine isN1 ?_); refine g_aldN (p0 := 39) dX10_isDoubtful_38 (by first | rfl | assumption | exact RW.s (by assumption) | exact TW.s (by assumption)) (by first | decide | assumption) (by omega) (by first | assumption | ((repeat (first | exact up_hit | refine up_nv (by decide) ?_ | refine up_mv (by first | decide | omega) ?_)) <;> first | assumption | rfl)) rfl ?_) | refine g_ald (p0 := 39) dX10_isDoubtful_38 (by first | rfl | assumption | exact RW.s (by assumption) | exact TW.s (by assumption)) (by assumption) (by first | assumption | ((repeat (first | exact up_hit | refine up_nv (by decide) ?_ | refine up_mv (by first | decide | omega) ?_)) <;> first | assumption | rfl)) rfl ?_
  refine g_aload_n (p0 := 40) (i := 0) dX10_isDoubtful_39 rfl rfl rfl ?_
  refine g_getR (p0 := 43) dX10_isDoubtful_40 fX10_7 (by first | rfl | assumption | exact RW.s (by assumption) | exact TW.s (by assumption)) rfl rfl ?_
  refine g_iconst (p0 := 44) (v := nI 1) dX10_isDoubtful_43 rfl rfl ?_
  first | ((with_reducible refine isN1 ?_); refine g_aldN (p0 := 45) dX10_isDoubtful_44 (by first | rfl | assumption | exact RW.s (by assumption) | exact TW.s (by assumption)) (by first | decide | assumption) (by omega) (by first | assumption | ((repeat (first | exact up_hit | refine up_nv (by decide) ?_ | refine up_mv (by first | decide | omega) ?_)) <;> first | assumption | rfl)) rfl ?_) | refine g_ald (p0 := 45) dX10_isDoubtful_44 (by first | rfl | assumption | exact RW.s (by assumption) | exact TW.s (by assumption)) (by assumption) (by first | assumption | ((repeat (first | exact up_hit | refine up_nv (by decide) ?_ | refine up_mv (by first | decide | omega) ?_)) <;> first | assumption | rfl)) rfl ?_
  first | ((with_reducible refine isN2 ?_); refine g_iaddN (p0 := 46) dX10_isDoubtful_45 rfl ?_) | refine g_iadd (p0 := 46) dX10_isDoubtful_45 rfl ?_
  refine g_cV1R (p0 := 49) (r1 := mX10_caseOf) dX10_isDoubtful_46 lX10_115 vX10_caseOf (by first | rfl | assumption | exact RW.s (by assumption) | exact TW.s (by assumption)) ⟨_, _, rfl⟩ (FITi rfl rfl) (Nat.le_of_ble_eq_true rfl) (rcaseOf_sp (by first | assumption | ((repeat (first | exact up_hit | refine up_nv (by decide) ?_ | refine up_mv (by first | decide | omega) ?_)) <;> first | assumption | rfl))) rfl ?_
  refine g_iload_n (p0 := 50) (i := 2) dX10_isDoubtful_49 rfl rfl rfl ?_
  first | ((with_reducible refine isN2 ?_); refine g_icmpN_eq (tgt := 57) (p1 := 53) dX10_isDoubtful_50 rfl (by omega) (by omega) rfl (fun c_50 => by exfalso; first | omega | contradiction | exact absurd (by assumption) c_50 | (simp_all; done)) (fun c_50 => ?_)) | refine g_icmp_eq (tgt := 57) (p1 := 53) dX10_isDoubtful_50 rfl rfl (fun c_50 => by exfalso; first | omega | contradiction | exact absurd (by assumption) c_50 | (simp_all; done)) (fun c_50 => ?_)
  refine g_iconst (p0 := 54) (v := nI 1) dX10_isDoubtful_53 rfl rfl ?_
  refine g_goto (tgt := 58) dX10_isDoubtful_54 rfl ?_
  refine g_ireturn dX10_isDoubtful_58 rfl (by first | rfl | exact bool_narrow (by first | exact Or.inl rfl | exact Or.inr rfl | assumption | (split <;> first | exact Or.inl rfl | exact Or.inr rfl))) (?_)
  exact ⟨rfl, rfl⟩
theorem isDoubtful_sp {k : Nat} {g bt tl : Int32} {σ : Sg} (hk : k < 160) (hx : σ 85 k = nI (cs bt g)) (hg : σ 84 k = g) (hb : σ 80 0 = bt) (ht : σ 80 1 = tl) (h0 : 0 < k) : CM mX10_isDoubtful [ar 79, ai (nI k)] σ (Ret (nI (dbt bt tl g)) σ) := by
  by_cases h1 : cs bt (g - tl) = cs bt g
  · by_cases h2 : cs bt (g + tl) = cs bt g
    · rw [dbt, if_pos ⟨h1.symm, h2.symm⟩]
      exact isDoubtful_0 hk hx (cs_le _ _) hg hb ht h0 h1 h2
    · rw [dbt, if_neg (fun q => h2 q.2.symm)]
      exact isDoubtful_1b hk hx (cs_le _ _) hg hb ht h0 h1 h2
  · rw [dbt, if_neg (fun q => h1 q.1.symm)]
    exact isDoubtful_1a hk hx (cs_le _ _) hg hb ht h0 h1
set_option maxRecDepth 20000 in
set_option maxHeartbeats 2000000 in
theorem counts_1 {L y : Nat} {g a b : Nat → Nat} {σ : Sg} (h : LTr σ (L + 1) g a b) (hl : L < 160) (hg : g L = 1) : CM mX10_counts [ar 79, ai (nI y)] σ (RetV (up (up σ 90 L (nI (a L + y))) 91 L (nI (b L + 0)))) := by
  have hL := h.1
  obtain ⟨h36, h38, h40⟩ := h.2 L (by omega)
  have hm : σ 89 (L + 1 - 1) = nI (g L) := h36
  have hm1 : σ 90 (L + 1 - 1) = nI (a L) := h38
  have hm2 : σ 91 (L + 1 - 1) = nI (b L) := h40
  rw [hg] at hm
  refine CM_in (ls := [some (ar 79), some (ai (nI y)), none]) rfl ?_
  refine g_aload_n (p0 := 1) (i := 0) dX10_counts_0 rfl rfl rfl ?_
  refine g_getI (p0 := 4) dX10_counts_1 fX10_118 (by first | rfl | assumption | exact RW.s (by assumption) | exact TW.s (by assumption)) rfl (by first | assumption | ((repeat (first | exact up_hit | refine up_nv (by decide) ?_ | refine up_mv (by first | decide | omega) ?_)) <;> first | assumption | rfl)) rfl ?_
  refine g_iconst (p0 := 5) (v := nI 1) dX10_counts_4 rfl rfl ?_
  first | ((with_reducible refine isN2 ?_); refine g_isubN (p0 := 6) dX10_counts_5 (by omega) rfl ?_) | refine g_isub (p0 := 6) dX10_counts_5 rfl ?_
  refine g_istore_n (p0 := 7) (i := 2) (ls2 := [_, _, _]) dX10_counts_6 rfl (Nat.le_of_ble_eq_true rfl) rfl rfl ?_
  refine g_aload_n (p0 := 8) (i := 0) dX10_counts_7 rfl rfl rfl ?_
  refine g_getR (p0 := 11) dX10_counts_8 fX10_40 (by first | rfl | assumption | exact RW.s (by assumption) | exact TW.s (by assumption)) rfl rfl ?_
  refine g_iload_n (p0 := 12) (i := 2) dX10_counts_11 rfl rfl rfl ?_
  refine g_dup2 (p0 := 13) dX10_counts_12 rfl ?_
  first | ((with_reducible refine isN1 ?_); refine g_aldN (p0 := 14) dX10_counts_13 (by first | rfl | assumption | exact RW.s (by assumption) | exact TW.s (by assumption)) (by first | decide | assumption) (by omega) (by first | assumption | ((repeat (first | exact up_hit | refine up_nv (by decide) ?_ | refine up_mv (by first | decide | omega) ?_)) <;> first | assumption | rfl)) rfl ?_) | refine g_ald (p0 := 14) dX10_counts_13 (by first | rfl | assumption | exact RW.s (by assumption) | exact TW.s (by assumption)) (by assumption) (by first | assumption | ((repeat (first | exact up_hit | refine up_nv (by decide) ?_ | refine up_mv (by first | decide | omega) ?_)) <;> first | assumption | rfl)) rfl ?_
  refine g_aload_n (p0 := 15) (i := 0) dX10_counts_14 rfl rfl rfl ?_
  refine g_getR (p0 := 18) dX10_counts_15 fX10_37 (by first | rfl | assumption | exact RW.s (by assumption) | exact TW.s (by assumption)) rfl rfl ?_
  refine g_iload_n (p0 := 19) (i := 2) dX10_counts_18 rfl rfl rfl ?_
  first | ((with_reducible refine isN1 ?_); refine g_aldN (p0 := 20) dX10_counts_19 (by first | rfl | assumption | exact RW.s (by assumption) | exact TW.s (by assumption)) (by first | decide | assumption) (by omega) (by first | assumption | ((repeat (first | exact up_hit | refine up_nv (by decide) ?_ | refine up_mv (by first | decide | omega) ?_)) <;> first | assumption | rfl)) rfl ?_) | refine g_ald (p0 := 20) dX10_counts_19 (by first | rfl | assumption | exact RW.s (by assumption) | exact TW.s (by assumption)) (by assumption) (by first | assumption | ((repeat (first | exact up_hit | refine up_nv (by decide) ?_ | refine up_mv (by first | decide | omega) ?_)) <;> first | assumption | rfl)) rfl ?_
  refine g_iconst (p0 := 21) (v := nI 1) dX10_counts_20 rfl rfl ?_
  first | ((with_reducible refine isN2 ?_); refine g_icmpN_ne (tgt := 28) (p1 := 24) dX10_counts_21 rfl (by omega) (by omega) rfl (fun c_21 => by exfalso; first | omega | contradiction | exact absurd (by assumption) c_21 | (simp_all; done)) (fun c_21 => ?_)) | refine g_icmp_ne (tgt := 28) (p1 := 24) dX10_counts_21 rfl rfl (fun c_21 => by exfalso; first | omega | contradiction | exact absurd (by assumption) c_21 | (simp_all; done)) (fun c_21 => ?_)
  refine g_iload_n (p0 := 25) (i := 1) dX10_counts_24 rfl rfl rfl ?_
  refine g_goto (tgt := 29) dX10_counts_25 rfl ?_
  first | ((with_reducible refine isN2 ?_); refine g_iaddN (p0 := 30) dX10_counts_29 rfl ?_) | refine g_iadd (p0 := 30) dX10_counts_29 rfl ?_
  first | ((with_reducible refine isNS ?_); refine g_astN (p0 := 31) dX10_counts_30 (by first | rfl | assumption | exact RW.s (by assumption) | exact TW.s (by assumption)) (by first | decide | assumption) (by omega) rfl ?_) | refine g_ast (p0 := 31) dX10_counts_30 (by first | rfl | assumption | exact RW.s (by assumption) | exact TW.s (by assumption)) (by assumption) rfl ?_
  refine g_aload_n (p0 := 32) (i := 0) dX10_counts_31 rfl rfl rfl ?_
  refine g_getR (p0 := 35) dX10_counts_32 fX10_43 (by first | rfl | assumption | exact RW.s (by assumption) | exact TW.s (by assumption)) rfl rfl ?_
  refine g_iload_n (p0 := 36) (i := 2) dX10_counts_35 rfl rfl rfl ?_
  refine g_dup2 (p0 := 37) dX10_counts_36 rfl ?_
  first | ((with_reducible refine isN1 ?_); refine g_aldN (p0 := 38) dX10_counts_37 (by first | rfl | assumption | exact RW.s (by assumption) | exact TW.s (by assumption)) (by first | decide | assumption) (by omega) (by first | assumption | ((repeat (first | exact up_hit | refine up_nv (by decide) ?_ | refine up_mv (by first | decide | omega) ?_)) <;> first | assumption | rfl)) rfl ?_) | refine g_ald (p0 := 38) dX10_counts_37 (by first | rfl | assumption | exact RW.s (by assumption) | exact TW.s (by assumption)) (by assumption) (by first | assumption | ((repeat (first | exact up_hit | refine up_nv (by decide) ?_ | refine up_mv (by first | decide | omega) ?_)) <;> first | assumption | rfl)) rfl ?_
  refine g_aload_n (p0 := 39) (i := 0) dX10_counts_38 rfl rfl rfl ?_
  refine g_getR (p0 := 42) dX10_counts_39 fX10_37 (by first | rfl | assumption | exact RW.s (by assumption) | exact TW.s (by assumption)) rfl rfl ?_
  refine g_iload_n (p0 := 43) (i := 2) dX10_counts_42 rfl rfl rfl ?_
  first | ((with_reducible refine isN1 ?_); refine g_aldN (p0 := 44) dX10_counts_43 (by first | rfl | assumption | exact RW.s (by assumption) | exact TW.s (by assumption)) (by first | decide | assumption) (by omega) (by first | assumption | ((repeat (first | exact up_hit | refine up_nv (by decide) ?_ | refine up_mv (by first | decide | omega) ?_)) <;> first | assumption | rfl)) rfl ?_) | refine g_ald (p0 := 44) dX10_counts_43 (by first | rfl | assumption | exact RW.s (by assumption) | exact TW.s (by assumption)) (by assumption) (by first | assumption | ((repeat (first | exact up_hit | refine up_nv (by decide) ?_ | refine up_mv (by first | decide | omega) ?_)) <;> first | assumption | rfl)) rfl ?_
  refine g_iconst (p0 := 45) (v := nI 2) dX10_counts_44 rfl rfl ?_
  first | ((with_reducible refine isN2 ?_); refine g_icmpN_ne (tgt := 52) (p1 := 48) dX10_counts_45 rfl (by omega) (by omega) rfl (fun c_45 => ?_) (fun c_45 => by exfalso; first | omega | contradiction | exact absurd (by assumption) c_45 | (simp_all; done))) | refine g_icmp_ne (tgt := 52) (p1 := 48) dX10_counts_45 rfl rfl (fun c_45 => ?_) (fun c_45 => by exfalso; first | omega | contradiction | exact absurd (by assumption) c_45 | (simp_all; done))
  refine g_iconst (p0 := 53) (v := nI 0) dX10_counts_52 rfl rfl ?_
  first | ((with_reducible refine isN2 ?_); refine g_iaddN (p0 := 54) dX10_counts_53 rfl ?_) | refine g_iadd (p0 := 54) dX10_counts_53 rfl ?_
  first | ((with_reducible refine isNS ?_); refine g_astN (p0 := 55) dX10_counts_54 (by first | rfl | assumption | exact RW.s (by assumption) | exact TW.s (by assumption)) (by first | decide | assumption) (by omega) rfl ?_) | refine g_ast (p0 := 55) dX10_counts_54 (by first | rfl | assumption | exact RW.s (by assumption) | exact TW.s (by assumption)) (by assumption) rfl ?_
  refine g_return dX10_counts_55 rfl ?_
  exact ⟨rfl, rfl⟩
set_option maxRecDepth 20000 in
set_option maxHeartbeats 2000000 in
theorem counts_2 {L y : Nat} {g a b : Nat → Nat} {σ : Sg} (h : LTr σ (L + 1) g a b) (hl : L < 160) (hg : g L = 2) : CM mX10_counts [ar 79, ai (nI y)] σ (RetV (up (up σ 90 L (nI (a L + 0))) 91 L (nI (b L + y)))) := by
  have hL := h.1
  obtain ⟨h36, h38, h40⟩ := h.2 L (by omega)
  have hm : σ 89 (L + 1 - 1) = nI (g L) := h36
  have hm1 : σ 90 (L + 1 - 1) = nI (a L) := h38
  have hm2 : σ 91 (L + 1 - 1) = nI (b L) := h40
  rw [hg] at hm
  refine CM_in (ls := [some (ar 79), some (ai (nI y)), none]) rfl ?_
  refine g_aload_n (p0 := 1) (i := 0) dX10_counts_0 rfl rfl rfl ?_
  refine g_getI (p0 := 4) dX10_counts_1 fX10_118 (by first | rfl | assumption | exact RW.s (by assumption) | exact TW.s (by assumption)) rfl (by first | assumption | ((repeat (first | exact up_hit | refine up_nv (by decide) ?_ | refine up_mv (by first | decide | omega) ?_)) <;> first | assumption | rfl)) rfl ?_
  refine g_iconst (p0 := 5) (v := nI 1) dX10_counts_4 rfl rfl ?_
  first | ((with_reducible refine isN2 ?_); refine g_isubN (p0 := 6) dX10_counts_5 (by omega) rfl ?_) | refine g_isub (p0 := 6) dX10_counts_5 rfl ?_
  refine g_istore_n (p0 := 7) (i := 2) (ls2 := [_, _, _]) dX10_counts_6 rfl (Nat.le_of_ble_eq_true rfl) rfl rfl ?_
  refine g_aload_n (p0 := 8) (i := 0) dX10_counts_7 rfl rfl rfl ?_
  refine g_getR (p0 := 11) dX10_counts_8 fX10_40 (by first | rfl | assumption | exact RW.s (by assumption) | exact TW.s (by assumption)) rfl rfl ?_
  refine g_iload_n (p0 := 12) (i := 2) dX10_counts_11 rfl rfl rfl ?_
  refine g_dup2 (p0 := 13) dX10_counts_12 rfl ?_
  first | ((with_reducible refine isN1 ?_); refine g_aldN (p0 := 14) dX10_counts_13 (by first | rfl | assumption | exact RW.s (by assumption) | exact TW.s (by assumption)) (by first | decide | assumption) (by omega) (by first | assumption | ((repeat (first | exact up_hit | refine up_nv (by decide) ?_ | refine up_mv (by first | decide | omega) ?_)) <;> first | assumption | rfl)) rfl ?_) | refine g_ald (p0 := 14) dX10_counts_13 (by first | rfl | assumption | exact RW.s (by assumption) | exact TW.s (by assumption)) (by assumption) (by first | assumption | ((repeat (first | exact up_hit | refine up_nv (by decide) ?_ | refine up_mv (by first | decide | omega) ?_)) <;> first | assumption | rfl)) rfl ?_
  refine g_aload_n (p0 := 15) (i := 0) dX10_counts_14 rfl rfl rfl ?_
  refine g_getR (p0 := 18) dX10_counts_15 fX10_37 (by first | rfl | assumption | exact RW.s (by assumption) | exact TW.s (by assumption)) rfl rfl ?_
  refine g_iload_n (p0 := 19) (i := 2) dX10_counts_18 rfl rfl rfl ?_
  first | ((with_reducible refine isN1 ?_); refine g_aldN (p0 := 20) dX10_counts_19 (by first | rfl | assumption | exact RW.s (by assumption) | exact TW.s (by assumption)) (by first | decide | assumption) (by omega) (by first | assumption | ((repeat (first | exact up_hit | refine up_nv (by decide) ?_ | refine up_mv (by first | decide | omega) ?_)) <;> first | assumption | rfl)) rfl ?_) | refine g_ald (p0 := 20) dX10_counts_19 (by first | rfl | assumption | exact RW.s (by assumption) | exact TW.s (by assumption)) (by assumption) (by first | assumption | ((repeat (first | exact up_hit | refine up_nv (by decide) ?_ | refine up_mv (by first | decide | omega) ?_)) <;> first | assumption | rfl)) rfl ?_
  refine g_iconst (p0 := 21) (v := nI 1) dX10_counts_20 rfl rfl ?_
  first | ((with_reducible refine isN2 ?_); refine g_icmpN_ne (tgt := 28) (p1 := 24) dX10_counts_21 rfl (by omega) (by omega) rfl (fun c_21 => ?_) (fun c_21 => by exfalso; first | omega | contradiction | exact absurd (by assumption) c_21 | (simp_all; done))) | refine g_icmp_ne (tgt := 28) (p1 := 24) dX10_counts_21 rfl rfl (fun c_21 => ?_) (fun c_21 => by exfalso; first | omega | contradiction | exact absurd (by assumption) c_21 | (simp_all; done))
  refine g_iconst (p0 := 29) (v := nI 0) dX10_counts_28 rfl rfl ?_
  first | ((with_reducible refine isN2 ?_); refine g_iaddN (p0 := 30) dX10_counts_29 rfl ?_) | refine g_iadd (p0 := 30) dX10_counts_29 rfl ?_
  first | ((with_reducible refine isNS ?_); refine g_astN (p0 := 31) dX10_counts_30 (by first | rfl | assumption | exact RW.s (by assumption) | exact TW.s (by assumption)) (by first | decide | assumption) (by omega) rfl ?_) | refine g_ast (p0 := 31) dX10_counts_30 (by first | rfl | assumption | exact RW.s (by assumption) | exact TW.s (by assumption)) (by assumption) rfl ?_
  refine g_aload_n (p0 := 32) (i := 0) dX10_counts_31 rfl rfl rfl ?_
  refine g_getR (p0 := 35) dX10_counts_32 fX10_43 (by first | rfl | assumption | exact RW.s (by assumption) | exact TW.s (by assumption)) rfl rfl ?_
  refine g_iload_n (p0 := 36) (i := 2) dX10_counts_35 rfl rfl rfl ?_
  refine g_dup2 (p0 := 37) dX10_counts_36 rfl ?_
  first | ((with_reducible refine isN1 ?_); refine g_aldN (p0 := 38) dX10_counts_37 (by first | rfl | assumption | exact RW.s (by assumption) | exact TW.s (by assumption)) (by first | decide | assumption) (by omega) (by first | assumption | ((repeat (first | exact up_hit | refine up_nv (by decide) ?_ | refine up_mv (by first | decide | omega) ?_)) <;> first | assumption | rfl)) rfl ?_) | refine g_ald (p0 := 38) dX10_counts_37 (by first | rfl | assumption | exact RW.s (by assumption) | exact TW.s (by assumption)) (by assumption) (by first | assumption | ((repeat (first | exact up_hit | refine up_nv (by decide) ?_ | refine up_mv (by first | decide | omega) ?_)) <;> first | assumption | rfl)) rfl ?_
  refine g_aload_n (p0 := 39) (i := 0) dX10_counts_38 rfl rfl rfl ?_
  refine g_getR (p0 := 42) dX10_counts_39 fX10_37 (by first | rfl | assumption | exact RW.s (by assumption) | exact TW.s (by assumption)) rfl rfl ?_
  refine g_iload_n (p0 := 43) (i := 2) dX10_counts_42 rfl rfl rfl ?_
  first | ((with_reducible refine isN1 ?_); refine g_aldN (p0 := 44) dX10_counts_43 (by first | rfl | assumption | exact RW.s (by assumption) | exact TW.s (by assumption)) (by first | decide | assumption) (by omega) (by first | assumption | ((repeat (first | exact up_hit | refine up_nv (by decide) ?_ | refine up_mv (by first | decide | omega) ?_)) <;> first | assumption | rfl)) rfl ?_) | refine g_ald (p0 := 44) dX10_counts_43 (by first | rfl | assumption | exact RW.s (by assumption) | exact TW.s (by assumption)) (by assumption) (by first | assumption | ((repeat (first | exact up_hit | refine up_nv (by decide) ?_ | refine up_mv (by first | decide | omega) ?_)) <;> first | assumption | rfl)) rfl ?_
  refine g_iconst (p0 := 45) (v := nI 2) dX10_counts_44 rfl rfl ?_
  first | ((with_reducible refine isN2 ?_); refine g_icmpN_ne (tgt := 52) (p1 := 48) dX10_counts_45 rfl (by omega) (by omega) rfl (fun c_45 => by exfalso; first | omega | contradiction | exact absurd (by assumption) c_45 | (simp_all; done)) (fun c_45 => ?_)) | refine g_icmp_ne (tgt := 52) (p1 := 48) dX10_counts_45 rfl rfl (fun c_45 => by exfalso; first | omega | contradiction | exact absurd (by assumption) c_45 | (simp_all; done)) (fun c_45 => ?_)
  refine g_iload_n (p0 := 49) (i := 1) dX10_counts_48 rfl rfl rfl ?_
  refine g_goto (tgt := 53) dX10_counts_49 rfl ?_
  first | ((with_reducible refine isN2 ?_); refine g_iaddN (p0 := 54) dX10_counts_53 rfl ?_) | refine g_iadd (p0 := 54) dX10_counts_53 rfl ?_
  first | ((with_reducible refine isNS ?_); refine g_astN (p0 := 55) dX10_counts_54 (by first | rfl | assumption | exact RW.s (by assumption) | exact TW.s (by assumption)) (by first | decide | assumption) (by omega) rfl ?_) | refine g_ast (p0 := 55) dX10_counts_54 (by first | rfl | assumption | exact RW.s (by assumption) | exact TW.s (by assumption)) (by assumption) rfl ?_
  refine g_return dX10_counts_55 rfl ?_
  exact ⟨rfl, rfl⟩
set_option maxRecDepth 20000 in
set_option maxHeartbeats 2000000 in
theorem counts_3 {L y : Nat} {g a b : Nat → Nat} {σ : Sg} (h : LTr σ (L + 1) g a b) (hl : L < 160) (hg : ¬ g L = 1) (hg2 : ¬ g L = 2) (hg3 : g L < 1000) : CM mX10_counts [ar 79, ai (nI y)] σ (RetV (up (up σ 90 L (nI (a L + 0))) 91 L (nI (b L + 0)))) := by
  have hL := h.1
  obtain ⟨h36, h38, h40⟩ := h.2 L (by omega)
  have hm : σ 89 (L + 1 - 1) = nI (g L) := h36
  have hm1 : σ 90 (L + 1 - 1) = nI (a L) := h38
  have hm2 : σ 91 (L + 1 - 1) = nI (b L) := h40
  refine CM_in (ls := [some (ar 79), some (ai (nI y)), none]) rfl ?_
  refine g_aload_n (p0 := 1) (i := 0) dX10_counts_0 rfl rfl rfl ?_
  refine g_getI (p0 := 4) dX10_counts_1 fX10_118 (by first | rfl | assumption | exact RW.s (by assumption) | exact TW.s (by assumption)) rfl (by first | assumption | ((repeat (first | exact up_hit | refine up_nv (by decide) ?_ | refine up_mv (by first | decide | omega) ?_)) <;> first | assumption | rfl)) rfl ?_
  refine g_iconst (p0 := 5) (v := nI 1) dX10_counts_4 rfl rfl ?_
  first | ((with_reducible refine isN2 ?_); refine g_isubN (p0 := 6) dX10_counts_5 (by omega) rfl ?_) | refine g_isub (p0 := 6) dX10_counts_5 rfl ?_
  refine g_istore_n (p0 := 7) (i := 2) (ls2 := [_, _, _]) dX10_counts_6 rfl (Nat.le_of_ble_eq_true rfl) rfl rfl ?_
  refine g_aload_n (p0 := 8) (i := 0) dX10_counts_7 rfl rfl rfl ?_
  refine g_getR (p0 := 11) dX10_counts_8 fX10_40 (by first | rfl | assumption | exact RW.s (by assumption) | exact TW.s (by assumption)) rfl rfl ?_
  refine g_iload_n (p0 := 12) (i := 2) dX10_counts_11 rfl rfl rfl ?_
  refine g_dup2 (p0 := 13) dX10_counts_12 rfl ?_
  first | ((with_reducible refine isN1 ?_); refine g_aldN (p0 := 14) dX10_counts_13 (by first | rfl | assumption | exact RW.s (by assumption) | exact TW.s (by assumption)) (by first | decide | assumption) (by omega) (by first | assumption | ((repeat (first | exact up_hit | refine up_nv (by decide) ?_ | refine up_mv (by first | decide | omega) ?_)) <;> first | assumption | rfl)) rfl ?_) | refine g_ald (p0 := 14) dX10_counts_13 (by first | rfl | assumption | exact RW.s (by assumption) | exact TW.s (by assumption)) (by assumption) (by first | assumption | ((repeat (first | exact up_hit | refine up_nv (by decide) ?_ | refine up_mv (by first | decide | omega) ?_)) <;> first | assumption | rfl)) rfl ?_
  refine g_aload_n (p0 := 15) (i := 0) dX10_counts_14 rfl rfl rfl ?_
  refine g_getR (p0 := 18) dX10_counts_15 fX10_37 (by first | rfl | assumption | exact RW.s (by assumption) | exact TW.s (by assumption)) rfl rfl ?_
  refine g_iload_n (p0 := 19) (i := 2) dX10_counts_18 rfl rfl rfl ?_
  first | ((with_reducible refine isN1 ?_); refine g_aldN (p0 := 20) dX10_counts_19 (by first | rfl | assumption | exact RW.s (by assumption) | exact TW.s (by assumption)) (by first | decide | assumption) (by omega) (by first | assumption | ((repeat (first | exact up_hit | refine up_nv (by decide) ?_ | refine up_mv (by first | decide | omega) ?_)) <;> first | assumption | rfl)) rfl ?_) | refine g_ald (p0 := 20) dX10_counts_19 (by first | rfl | assumption | exact RW.s (by assumption) | exact TW.s (by assumption)) (by assumption) (by first | assumption | ((repeat (first | exact up_hit | refine up_nv (by decide) ?_ | refine up_mv (by first | decide | omega) ?_)) <;> first | assumption | rfl)) rfl ?_
  refine g_iconst (p0 := 21) (v := nI 1) dX10_counts_20 rfl rfl ?_
  first | ((with_reducible refine isN2 ?_); refine g_icmpN_ne (tgt := 28) (p1 := 24) dX10_counts_21 rfl (by omega) (by omega) rfl (fun c_21 => ?_) (fun c_21 => by exfalso; first | omega | contradiction | exact absurd (by assumption) c_21 | (simp_all; done))) | refine g_icmp_ne (tgt := 28) (p1 := 24) dX10_counts_21 rfl rfl (fun c_21 => ?_) (fun c_21 => by exfalso; first | omega | contradiction | exact absurd (by assumption) c_21 | (simp_all; done))
  refine g_iconst (p0 := 29) (v := nI 0) dX10_counts_28 rfl rfl ?_
  first | ((with_reducible refine isN2 ?_); refine g_iaddN (p0 := 30) dX10_counts_29 rfl ?_) | refine g_iadd (p0 := 30) dX10_counts_29 rfl ?_
  first | ((with_reducible refine isNS ?_); refine g_astN (p0 := 31) dX10_counts_30 (by first | rfl | assumption | exact RW.s (by assumption) | exact TW.s (by assumption)) (by first | decide | assumption) (by omega) rfl ?_) | refine g_ast (p0 := 31) dX10_counts_30 (by first | rfl | assumption | exact RW.s (by assumption) | exact TW.s (by assumption)) (by assumption) rfl ?_
  refine g_aload_n (p0 := 32) (i := 0) dX10_counts_31 rfl rfl rfl ?_
  refine g_getR (p0 := 35) dX10_counts_32 fX10_43 (by first | rfl | assumption | exact RW.s (by assumption) | exact TW.s (by assumption)) rfl rfl ?_
  refine g_iload_n (p0 := 36) (i := 2) dX10_counts_35 rfl rfl rfl ?_
  refine g_dup2 (p0 := 37) dX10_counts_36 rfl ?_
  first | ((with_reducible refine isN1 ?_); refine g_aldN (p0 := 38) dX10_counts_37 (by first | rfl | assumption | exact RW.s (by assumption) | exact TW.s (by assumption)) (by first | decide | assumption) (by omega) (by first | assumption | ((repeat (first | exact up_hit | refine up_nv (by decide) ?_ | refine up_mv (by first | decide | omega) ?_)) <;> first | assumption | rfl)) rfl ?_) | refine g_ald (p0 := 38) dX10_counts_37 (by first | rfl | assumption | exact RW.s (by assumption) | exact TW.s (by assumption)) (by assumption) (by first | assumption | ((repeat (first | exact up_hit | refine up_nv (by decide) ?_ | refine up_mv (by first | decide | omega) ?_)) <;> first | assumption | rfl)) rfl ?_
  refine g_aload_n (p0 := 39) (i := 0) dX10_counts_38 rfl rfl rfl ?_
  refine g_getR (p0 := 42) dX10_counts_39 fX10_37 (by first | rfl | assumption | exact RW.s (by assumption) | exact TW.s (by assumption)) rfl rfl ?_
  refine g_iload_n (p0 := 43) (i := 2) dX10_counts_42 rfl rfl rfl ?_
  first | ((with_reducible refine isN1 ?_); refine g_aldN (p0 := 44) dX10_counts_43 (by first | rfl | assumption | exact RW.s (by assumption) | exact TW.s (by assumption)) (by first | decide | assumption) (by omega) (by first | assumption | ((repeat (first | exact up_hit | refine up_nv (by decide) ?_ | refine up_mv (by first | decide | omega) ?_)) <;> first | assumption | rfl)) rfl ?_) | refine g_ald (p0 := 44) dX10_counts_43 (by first | rfl | assumption | exact RW.s (by assumption) | exact TW.s (by assumption)) (by assumption) (by first | assumption | ((repeat (first | exact up_hit | refine up_nv (by decide) ?_ | refine up_mv (by first | decide | omega) ?_)) <;> first | assumption | rfl)) rfl ?_
  refine g_iconst (p0 := 45) (v := nI 2) dX10_counts_44 rfl rfl ?_
  first | ((with_reducible refine isN2 ?_); refine g_icmpN_ne (tgt := 52) (p1 := 48) dX10_counts_45 rfl (by omega) (by omega) rfl (fun c_45 => ?_) (fun c_45 => by exfalso; first | omega | contradiction | exact absurd (by assumption) c_45 | (simp_all; done))) | refine g_icmp_ne (tgt := 52) (p1 := 48) dX10_counts_45 rfl rfl (fun c_45 => ?_) (fun c_45 => by exfalso; first | omega | contradiction | exact absurd (by assumption) c_45 | (simp_all; done))
  refine g_iconst (p0 := 53) (v := nI 0) dX10_counts_52 rfl rfl ?_
  first | ((with_reducible refine isN2 ?_); refine g_iaddN (p0 := 54) dX10_counts_53 rfl ?_) | refine g_iadd (p0 := 54) dX10_counts_53 rfl ?_
  first | ((with_reducible refine isNS ?_); refine g_astN (p0 := 55) dX10_counts_54 (by first | rfl | assumption | exact RW.s (by assumption) | exact TW.s (by assumption)) (by first | decide | assumption) (by omega) rfl ?_) | refine g_ast (p0 := 55) dX10_counts_54 (by first | rfl | assumption | exact RW.s (by assumption) | exact TW.s (by assumption)) (by assumption) rfl ?_
  refine g_return dX10_counts_55 rfl ?_
  exact ⟨rfl, rfl⟩
theorem counts_r {L y : Nat} {g a b : Nat → Nat} {σ : Sg} (h : LTr σ (L + 1) g a b) (hl : L < 160) (hg3 : g L < 1000) : CM mX10_counts [ar 79, ai (nI y)] σ (RelV (fun σ' => LTr σ' (L + 1) g (nu a L (if g L = 1 then a L + y else a L)) (nu b L (if g L = 2 then b L + y else b L)) ∧ ∀ c, c ≠ 90 → c ≠ 91 → σ' c = σ c)) := by
  have key : ∀ x z, LTr (up (up σ 90 L (nI x)) 91 L (nI z)) (L + 1) g (nu a L x) (nu b L z) ∧ ∀ c, c ≠ 90 → c ≠ 91 → (up (up σ 90 L (nI x)) 91 L (nI z)) c = σ c := by
    intro x z
    refine ⟨⟨by rw [up_ne (by decide), up_ne (by decide)]; exact h.1, fun l hl2 => ⟨?_, ?_, ?_⟩⟩, fun c h1 h2 => by rw [up_ne h2, up_ne h1]⟩
    · rw [up_ne (by decide), up_ne (by decide)]; exact (h.2 l hl2).1
    · rw [up_ne (by decide), up_self]; exact upd_nI (fun j hj => (h.2 j hj).2.1) l hl2
    · rw [up_self, up_ne (by decide)]; exact upd_nI (fun j hj => (h.2 j hj).2.2) l hl2
  by_cases h1 : g L = 1
  · refine CM.mono (counts_1 (y := y) h hl h1) ?_
    rintro w σ' ⟨rfl, rfl⟩
    rw [if_pos h1, if_neg (by omega)]
    exact ⟨rfl, key _ _⟩
  · by_cases h2 : g L = 2
    · refine CM.mono (counts_2 (y := y) h hl h2) ?_
      rintro w σ' ⟨rfl, rfl⟩
      rw [if_neg h1, if_pos h2]
      exact ⟨rfl, key _ _⟩
    · refine CM.mono (counts_3 (y := y) h hl h1 h2 hg3) ?_
      rintro w σ' ⟨rfl, rfl⟩
      rw [if_neg h1, if_neg h2]
      exact ⟨rfl, key _ _⟩
set_option maxRecDepth 20000 in
set_option maxHeartbeats 2000000 in
theorem gE_2 {k x L M : Nat} {g a b s f p d : Nat → Nat} {σ : Sg} {Q : SP} (hL : LTr σ (L + 1) g a b) (hM : MTr σ (M + 1) s f p d) (hk : k < 160) (hl : L < 160) (hm : M < 160) (hg : 1 ≤ g L) (hfl : f M ≤ L) (hx : x = 2) (next : Q none (up (up (up (up σ 94 M (nI (p M + 1))) 86 k (nI (M + 1 - 1))) 87 k (nI (L + 1 - 1 - f M))) 88 k (nI (g L - 1)))) : WM mX10_goesOn Q 137 [some (ar 79), some (ai (nI k)), some (ai (nI x))] [] σ := by
  have v1 := hL.1
  have v2 := hM.1
  have v3 : σ 89 (L + 1 - 1) = nI (g L) := (hL.2 L (by omega)).1
  have v4 : σ 92 (M + 1 - 1) = nI (f M) := (hM.2 M (by omega)).2.1
  have v5 : σ 94 (M + 1 - 1) = nI (p M) := (hM.2 M (by omega)).2.2.1
  refine g_aload_n (p0 := 138) (i := 0) dX10_goesOn_137 rfl rfl rfl ?_
  refine g_getR (p0 := 141) dX10_goesOn_138 fX10_52 (by first | rfl | assumption | exact RW.s (by assumption) | exact TW.s (by assumption)) rfl rfl ?_
  refine g_aload_n (p0 := 142) (i := 0) dX10_goesOn_141 rfl rfl rfl ?_
  refine g_getI (p0 := 145) dX10_goesOn_142 fX10_121 (by first | rfl | assumption | exact RW.s (by assumption) | exact TW.s (by assumption)) rfl (by first | assumption | ((repeat (first | exact up_hit | refine up_nv (by decide) ?_ | refine up_mv (by first | decide | omega) ?_)) <;> first | assumption | rfl)) rfl ?_
  refine g_iconst (p0 := 146) (v := nI 1) dX10_goesOn_145 rfl rfl ?_
  first | ((with_reducible refine isN2 ?_); refine g_isubN (p0 := 147) dX10_goesOn_146 (by omega) rfl ?_) | refine g_isub (p0 := 147) dX10_goesOn_146 rfl ?_
  refine g_dup2 (p0 := 148) dX10_goesOn_147 rfl ?_
  first | ((with_reducible refine isN1 ?_); refine g_aldN (p0 := 149) dX10_goesOn_148 (by first | rfl | assumption | exact RW.s (by assumption) | exact TW.s (by assumption)) (by first | decide | assumption) (by omega) (by first | assumption | ((repeat (first | exact up_hit | refine up_nv (by decide) ?_ | refine up_mv (by first | decide | omega) ?_)) <;> first | assumption | rfl)) rfl ?_) | refine g_ald (p0 := 149) dX10_goesOn_148 (by first | rfl | assumption | exact RW.s (by assumption) | exact TW.s (by assumption)) (by assumption) (by first | assumption | ((repeat (first | exact up_hit | refine up_nv (by decide) ?_ | refine up_mv (by first | decide | omega) ?_)) <;> first | assumption | rfl)) rfl ?_
  refine g_iload_n (p0 := 150) (i := 2) dX10_goesOn_149 rfl rfl rfl ?_
  refine g_iconst (p0 := 151) (v := nI 2) dX10_goesOn_150 rfl rfl ?_
  first | ((with_reducible refine isN2 ?_); refine g_icmpN_ne (tgt := 158) (p1 := 154) dX10_goesOn_151 rfl (by omega) (by omega) rfl (fun c_151 => by exfalso; first | omega | contradiction | exact absurd (by assumption) c_151 | (simp_all; done)) (fun c_151 => ?_)) | refine g_icmp_ne (tgt := 158) (p1 := 154) dX10_goesOn_151 rfl rfl (fun c_151 => by exfalso; first | omega | contradiction | exact absurd (by assumption) c_151 | (simp_all; done)) (fun c_151 => ?_)
  refine g_iconst (p0 := 155) (v := nI 1) dX10_goesOn_154 rfl rfl ?_
  refine g_goto (tgt := 159) dX10_goesOn_155 rfl ?_
  first | ((with_reducible refine isN2 ?_); refine g_iaddN (p0 := 160) dX10_goesOn_159 rfl ?_) | refine g_iadd (p0 := 160) dX10_goesOn_159 rfl ?_
  first | ((with_reducible refine isNS ?_); refine g_astN (p0 := 161) dX10_goesOn_160 (by first | rfl | assumption | exact RW.s (by assumption) | exact TW.s (by assumption)) (by first | decide | assumption) (by omega) rfl ?_) | refine g_ast (p0 := 161) dX10_goesOn_160 (by first | rfl | assumption | exact RW.s (by assumption) | exact TW.s (by assumption)) (by assumption) rfl ?_
  refine g_aload_n (p0 := 162) (i := 0) dX10_goesOn_161 rfl rfl rfl ?_
  refine g_getR (p0 := 165) dX10_goesOn_162 fX10_28 (by first | rfl | assumption | exact RW.s (by assumption) | exact TW.s (by assumption)) rfl rfl ?_
  refine g_iload_n (p0 := 166) (i := 1) dX10_goesOn_165 rfl rfl rfl ?_
  refine g_aload_n (p0 := 167) (i := 0) dX10_goesOn_166 rfl rfl rfl ?_
  refine g_getI (p0 := 170) dX10_goesOn_167 fX10_121 (by first | rfl | assumption | exact RW.s (by assumption) | exact TW.s (by assumption)) rfl (by first | assumption | ((repeat (first | exact up_hit | refine up_nv (by decide) ?_ | refine up_mv (by first | decide | omega) ?_)) <;> first | assumption | rfl)) rfl ?_
  refine g_iconst (p0 := 171) (v := nI 1) dX10_goesOn_170 rfl rfl ?_
  first | ((with_reducible refine isN2 ?_); refine g_isubN (p0 := 172) dX10_goesOn_171 (by omega) rfl ?_) | refine g_isub (p0 := 172) dX10_goesOn_171 rfl ?_
  first | ((with_reducible refine isNS ?_); refine g_astN (p0 := 173) dX10_goesOn_172 (by first | rfl | assumption | exact RW.s (by assumption) | exact TW.s (by assumption)) (by first | decide | assumption) (by omega) rfl ?_) | refine g_ast (p0 := 173) dX10_goesOn_172 (by first | rfl | assumption | exact RW.s (by assumption) | exact TW.s (by assumption)) (by assumption) rfl ?_
  refine g_aload_n (p0 := 174) (i := 0) dX10_goesOn_173 rfl rfl rfl ?_
  refine g_getR (p0 := 177) dX10_goesOn_174 fX10_31 (by first | rfl | assumption | exact RW.s (by assumption) | exact TW.s (by assumption)) rfl rfl ?_
  refine g_iload_n (p0 := 178) (i := 1) dX10_goesOn_177 rfl rfl rfl ?_
  refine g_aload_n (p0 := 179) (i := 0) dX10_goesOn_178 rfl rfl rfl ?_
  refine g_getI (p0 := 182) dX10_goesOn_179 fX10_118 (by first | rfl | assumption | exact RW.s (by assumption) | exact TW.s (by assumption)) rfl (by first | assumption | ((repeat (first | exact up_hit | refine up_nv (by decide) ?_ | refine up_mv (by first | decide | omega) ?_)) <;> first | assumption | rfl)) rfl ?_
  refine g_iconst (p0 := 183) (v := nI 1) dX10_goesOn_182 rfl rfl ?_
  first | ((with_reducible refine isN2 ?_); refine g_isubN (p0 := 184) dX10_goesOn_183 (by omega) rfl ?_) | refine g_isub (p0 := 184) dX10_goesOn_183 rfl ?_
  refine g_aload_n (p0 := 185) (i := 0) dX10_goesOn_184 rfl rfl rfl ?_
  refine g_getR (p0 := 188) dX10_goesOn_185 fX10_46 (by first | rfl | assumption | exact RW.s (by assumption) | exact TW.s (by assumption)) rfl rfl ?_
  refine g_aload_n (p0 := 189) (i := 0) dX10_goesOn_188 rfl rfl rfl ?_
  refine g_getI (p0 := 192) dX10_goesOn_189 fX10_121 (by first | rfl | assumption | exact RW.s (by assumption) | exact TW.s (by assumption)) rfl (by first | assumption | ((repeat (first | exact up_hit | refine up_nv (by decide) ?_ | refine up_mv (by first | decide | omega) ?_)) <;> first | assumption | rfl)) rfl ?_
  refine g_iconst (p0 := 193) (v := nI 1) dX10_goesOn_192 rfl rfl ?_
  first | ((with_reducible refine isN2 ?_); refine g_isubN (p0 := 194) dX10_goesOn_193 (by omega) rfl ?_) | refine g_isub (p0 := 194) dX10_goesOn_193 rfl ?_
  first | ((with_reducible refine isN1 ?_); refine g_aldN (p0 := 195) dX10_goesOn_194 (by first | rfl | assumption | exact RW.s (by assumption) | exact TW.s (by assumption)) (by first | decide | assumption) (by omega) (by first | assumption | ((repeat (first | exact up_hit | refine up_nv (by decide) ?_ | refine up_mv (by first | decide | omega) ?_)) <;> first | assumption | rfl)) rfl ?_) | refine g_ald (p0 := 195) dX10_goesOn_194 (by first | rfl | assumption | exact RW.s (by assumption) | exact TW.s (by assumption)) (by assumption) (by first | assumption | ((repeat (first | exact up_hit | refine up_nv (by decide) ?_ | refine up_mv (by first | decide | omega) ?_)) <;> first | assumption | rfl)) rfl ?_
  first | ((with_reducible refine isN2 ?_); refine g_isubN (p0 := 196) dX10_goesOn_195 (by omega) rfl ?_) | refine g_isub (p0 := 196) dX10_goesOn_195 rfl ?_
  first | ((with_reducible refine isNS ?_); refine g_astN (p0 := 197) dX10_goesOn_196 (by first | rfl | assumption | exact RW.s (by assumption) | exact TW.s (by assumption)) (by first | decide | assumption) (by omega) rfl ?_) | refine g_ast (p0 := 197) dX10_goesOn_196 (by first | rfl | assumption | exact RW.s (by assumption) | exact TW.s (by assumption)) (by assumption) rfl ?_
  refine g_aload_n (p0 := 198) (i := 0) dX10_goesOn_197 rfl rfl rfl ?_
  refine g_getR (p0 := 201) dX10_goesOn_198 fX10_34 (by first | rfl | assumption | exact RW.s (by assumption) | exact TW.s (by assumption)) rfl rfl ?_
  refine g_iload_n (p0 := 202) (i := 1) dX10_goesOn_201 rfl rfl rfl ?_
  refine g_aload_n (p0 := 203) (i := 0) dX10_goesOn_202 rfl rfl rfl ?_
  refine g_getR (p0 := 206) dX10_goesOn_203 fX10_37 (by first | rfl | assumption | exact RW.s (by assumption) | exact TW.s (by assumption)) rfl rfl ?_
  refine g_aload_n (p0 := 207) (i := 0) dX10_goesOn_206 rfl rfl rfl ?_
  refine g_getI (p0 := 210) dX10_goesOn_207 fX10_118 (by first | rfl | assumption | exact RW.s (by assumption) | exact TW.s (by assumption)) rfl (by first | assumption | ((repeat (first | exact up_hit | refine up_nv (by decide) ?_ | refine up_mv (by first | decide | omega) ?_)) <;> first | assumption | rfl)) rfl ?_
  refine g_iconst (p0 := 211) (v := nI 1) dX10_goesOn_210 rfl rfl ?_
  first | ((with_reducible refine isN2 ?_); refine g_isubN (p0 := 212) dX10_goesOn_211 (by omega) rfl ?_) | refine g_isub (p0 := 212) dX10_goesOn_211 rfl ?_
  first | ((with_reducible refine isN1 ?_); refine g_aldN (p0 := 213) dX10_goesOn_212 (by first | rfl | assumption | exact RW.s (by assumption) | exact TW.s (by assumption)) (by first | decide | assumption) (by omega) (by first | assumption | ((repeat (first | exact up_hit | refine up_nv (by decide) ?_ | refine up_mv (by first | decide | omega) ?_)) <;> first | assumption | rfl)) rfl ?_) | refine g_ald (p0 := 213) dX10_goesOn_212 (by first | rfl | assumption | exact RW.s (by assumption) | exact TW.s (by assumption)) (by assumption) (by first | assumption | ((repeat (first | exact up_hit | refine up_nv (by decide) ?_ | refine up_mv (by first | decide | omega) ?_)) <;> first | assumption | rfl)) rfl ?_
  refine g_iconst (p0 := 214) (v := nI 1) dX10_goesOn_213 rfl rfl ?_
  first | ((with_reducible refine isN2 ?_); refine g_isubN (p0 := 215) dX10_goesOn_214 (by omega) rfl ?_) | refine g_isub (p0 := 215) dX10_goesOn_214 rfl ?_
  first | ((with_reducible refine isNS ?_); refine g_astN (p0 := 216) dX10_goesOn_215 (by first | rfl | assumption | exact RW.s (by assumption) | exact TW.s (by assumption)) (by first | decide | assumption) (by omega) rfl ?_) | refine g_ast (p0 := 216) dX10_goesOn_215 (by first | rfl | assumption | exact RW.s (by assumption) | exact TW.s (by assumption)) (by assumption) rfl ?_
  refine g_return dX10_goesOn_216 rfl ?_
  exact next
set_option maxRecDepth 20000 in
set_option maxHeartbeats 2000000 in
theorem gE_n {k x L M : Nat} {g a b s f p d : Nat → Nat} {σ : Sg} {Q : SP} (hL : LTr σ (L + 1) g a b) (hM : MTr σ (M + 1) s f p d) (hk : k < 160) (hl : L < 160) (hm : M < 160) (hg : 1 ≤ g L) (hfl : f M ≤ L) (hx : ¬ x = 2) (hx5 : x ≤ 5) (next : Q none (up (up (up (up σ 94 M (nI (p M + 0))) 86 k (nI (M + 1 - 1))) 87 k (nI (L + 1 - 1 - f M))) 88 k (nI (g L - 1)))) : WM mX10_goesOn Q 137 [some (ar 79), some (ai (nI k)), some (ai (nI x))] [] σ := by
  have v1 := hL.1
  have v2 := hM.1
  have v3 : σ 89 (L + 1 - 1) = nI (g L) := (hL.2 L (by omega)).1
  have v4 : σ 92 (M + 1 - 1) = nI (f M) := (hM.2 M (by omega)).2.1
  have v5 : σ 94 (M + 1 - 1) = nI (p M) := (hM.2 M (by omega)).2.2.1
  refine g_aload_n (p0 := 138) (i := 0) dX10_goesOn_137 rfl rfl rfl ?_
  refine g_getR (p0 := 141) dX10_goesOn_138 fX10_52 (by first | rfl | assumption | exact RW.s (by assumption) | exact TW.s (by assumption)) rfl rfl ?_
  refine g_aload_n (p0 := 142) (i := 0) dX10_goesOn_141 rfl rfl rfl ?_
  refine g_getI (p0 := 145) dX10_goesOn_142 fX10_121 (by first | rfl | assumption | exact RW.s (by assumption) | exact TW.s (by assumption)) rfl (by first | assumption | ((repeat (first | exact up_hit | refine up_nv (by decide) ?_ | refine up_mv (by first | decide | omega) ?_)) <;> first | assumption | rfl)) rfl ?_
  refine g_iconst (p0 := 146) (v := nI 1) dX10_goesOn_145 rfl rfl ?_
  first | ((with_reducible refine isN2 ?_); refine g_isubN (p0 := 147) dX10_goesOn_146 (by omega) rfl ?_) | refine g_isub (p0 := 147) dX10_goesOn_146 rfl ?_
  refine g_dup2 (p0 := 148) dX10_goesOn_147 rfl ?_
  first | ((with_reducible refine isN1 ?_); refine g_aldN (p0 := 149) dX10_goesOn_148 (by first | rfl | assumption | exact RW.s (by assumption) | exact TW.s (by assumption)) (by first | decide | assumption) (by omega) (by first | assumption | ((repeat (first | exact up_hit | refine up_nv (by decide) ?_ | refine up_mv (by first | decide | omega) ?_)) <;> first | assumption | rfl)) rfl ?_) | refine g_ald (p0 := 149) dX10_goesOn_148 (by first | rfl | assumption | exact RW.s (by assumption) | exact TW.s (by assumption)) (by assumption) (by first | assumption | ((repeat (first | exact up_hit | refine up_nv (by decide) ?_ | refine up_mv (by first | decide | omega) ?_)) <;> first | assumption | rfl)) rfl ?_
  refine g_iload_n (p0 := 150) (i := 2) dX10_goesOn_149 rfl rfl rfl ?_
  refine g_iconst (p0 := 151) (v := nI 2) dX10_goesOn_150 rfl rfl ?_
  first | ((with_reducible refine isN2 ?_); refine g_icmpN_ne (tgt := 158) (p1 := 154) dX10_goesOn_151 rfl (by omega) (by omega) rfl (fun c_151 => ?_) (fun c_151 => by exfalso; first | omega | contradiction | exact absurd (by assumption) c_151 | (simp_all; done))) | refine g_icmp_ne (tgt := 158) (p1 := 154) dX10_goesOn_151 rfl rfl (fun c_151 => ?_) (fun c_151 => by exfalso; first | omega | contradiction | exact absurd (by assumption) c_151 | (simp_all; done))
  refine g_iconst (p0 := 159) (v := nI 0) dX10_goesOn_158 rfl rfl ?_
  first | ((with_reducible refine isN2 ?_); refine g_iaddN (p0 := 160) dX10_goesOn_159 rfl ?_) | refine g_iadd (p0 := 160) dX10_goesOn_159 rfl ?_
  first | ((with_reducible refine isNS ?_); refine g_astN (p0 := 161) dX10_goesOn_160 (by first | rfl | assumption | exact RW.s (by assumption) | exact TW.s (by assumption)) (by first | decide | assumption) (by omega) rfl ?_) | refine g_ast (p0 := 161) dX10_goesOn_160 (by first | rfl | assumption | exact RW.s (by assumption) | exact TW.s (by assumption)) (by assumption) rfl ?_
  refine g_aload_n (p0 := 162) (i := 0) dX10_goesOn_161 rfl rfl rfl ?_
  refine g_getR (p0 := 165) dX10_goesOn_162 fX10_28 (by first | rfl | assumption | exact RW.s (by assumption) | exact TW.s (by assumption)) rfl rfl ?_
  refine g_iload_n (p0 := 166) (i := 1) dX10_goesOn_165 rfl rfl rfl ?_
  refine g_aload_n (p0 := 167) (i := 0) dX10_goesOn_166 rfl rfl rfl ?_
  refine g_getI (p0 := 170) dX10_goesOn_167 fX10_121 (by first | rfl | assumption | exact RW.s (by assumption) | exact TW.s (by assumption)) rfl (by first | assumption | ((repeat (first | exact up_hit | refine up_nv (by decide) ?_ | refine up_mv (by first | decide | omega) ?_)) <;> first | assumption | rfl)) rfl ?_
  refine g_iconst (p0 := 171) (v := nI 1) dX10_goesOn_170 rfl rfl ?_
  first | ((with_reducible refine isN2 ?_); refine g_isubN (p0 := 172) dX10_goesOn_171 (by omega) rfl ?_) | refine g_isub (p0 := 172) dX10_goesOn_171 rfl ?_
  first | ((with_reducible refine isNS ?_); refine g_astN (p0 := 173) dX10_goesOn_172 (by first | rfl | assumption | exact RW.s (by assumption) | exact TW.s (by assumption)) (by first | decide | assumption) (by omega) rfl ?_) | refine g_ast (p0 := 173) dX10_goesOn_172 (by first | rfl | assumption | exact RW.s (by assumption) | exact TW.s (by assumption)) (by assumption) rfl ?_
  refine g_aload_n (p0 := 174) (i := 0) dX10_goesOn_173 rfl rfl rfl ?_
  refine g_getR (p0 := 177) dX10_goesOn_174 fX10_31 (by first | rfl | assumption | exact RW.s (by assumption) | exact TW.s (by assumption)) rfl rfl ?_
  refine g_iload_n (p0 := 178) (i := 1) dX10_goesOn_177 rfl rfl rfl ?_
  refine g_aload_n (p0 := 179) (i := 0) dX10_goesOn_178 rfl rfl rfl ?_
  refine g_getI (p0 := 182) dX10_goesOn_179 fX10_118 (by first | rfl | assumption | exact RW.s (by assumption) | exact TW.s (by assumption)) rfl (by first | assumption | ((repeat (first | exact up_hit | refine up_nv (by decide) ?_ | refine up_mv (by first | decide | omega) ?_)) <;> first | assumption | rfl)) rfl ?_
  refine g_iconst (p0 := 183) (v := nI 1) dX10_goesOn_182 rfl rfl ?_
  first | ((with_reducible refine isN2 ?_); refine g_isubN (p0 := 184) dX10_goesOn_183 (by omega) rfl ?_) | refine g_isub (p0 := 184) dX10_goesOn_183 rfl ?_
  refine g_aload_n (p0 := 185) (i := 0) dX10_goesOn_184 rfl rfl rfl ?_
  refine g_getR (p0 := 188) dX10_goesOn_185 fX10_46 (by first | rfl | assumption | exact RW.s (by assumption) | exact TW.s (by assumption)) rfl rfl ?_
  refine g_aload_n (p0 := 189) (i := 0) dX10_goesOn_188 rfl rfl rfl ?_
  refine g_getI (p0 := 192) dX10_goesOn_189 fX10_121 (by first | rfl | assumption | exact RW.s (by assumption) | exact TW.s (by assumption)) rfl (by first | assumption | ((repeat (first | exact up_hit | refine up_nv (by decide) ?_ | refine up_mv (by first | decide | omega) ?_)) <;> first | assumption | rfl)) rfl ?_
  refine g_iconst (p0 := 193) (v := nI 1) dX10_goesOn_192 rfl rfl ?_
  first | ((with_reducible refine isN2 ?_); refine g_isubN (p0 := 194) dX10_goesOn_193 (by omega) rfl ?_) | refine g_isub (p0 := 194) dX10_goesOn_193 rfl ?_
  first | ((with_reducible refine isN1 ?_); refine g_aldN (p0 := 195) dX10_goesOn_194 (by first | rfl | assumption | exact RW.s (by assumption) | exact TW.s (by assumption)) (by first | decide | assumption) (by omega) (by first | assumption | ((repeat (first | exact up_hit | refine up_nv (by decide) ?_ | refine up_mv (by first | decide | omega) ?_)) <;> first | assumption | rfl)) rfl ?_) | refine g_ald (p0 := 195) dX10_goesOn_194 (by first | rfl | assumption | exact RW.s (by assumption) | exact TW.s (by assumption)) (by assumption) (by first | assumption | ((repeat (first | exact up_hit | refine up_nv (by decide) ?_ | refine up_mv (by first | decide | omega) ?_)) <;> first | assumption | rfl)) rfl ?_
  first | ((with_reducible refine isN2 ?_); refine g_isubN (p0 := 196) dX10_goesOn_195 (by omega) rfl ?_) | refine g_isub (p0 := 196) dX10_goesOn_195 rfl ?_
  first | ((with_reducible refine isNS ?_); refine g_astN (p0 := 197) dX10_goesOn_196 (by first | rfl | assumption | exact RW.s (by assumption) | exact TW.s (by assumption)) (by first | decide | assumption) (by omega) rfl ?_) | refine g_ast (p0 := 197) dX10_goesOn_196 (by first | rfl | assumption | exact RW.s (by assumption) | exact TW.s (by assumption)) (by assumption) rfl ?_
  refine g_aload_n (p0 := 198) (i := 0) dX10_goesOn_197 rfl rfl rfl ?_
  refine g_getR (p0 := 201) dX10_goesOn_198 fX10_34 (by first | rfl | assumption | exact RW.s (by assumption) | exact TW.s (by assumption)) rfl rfl ?_
  refine g_iload_n (p0 := 202) (i := 1) dX10_goesOn_201 rfl rfl rfl ?_
  refine g_aload_n (p0 := 203) (i := 0) dX10_goesOn_202 rfl rfl rfl ?_
  refine g_getR (p0 := 206) dX10_goesOn_203 fX10_37 (by first | rfl | assumption | exact RW.s (by assumption) | exact TW.s (by assumption)) rfl rfl ?_
  refine g_aload_n (p0 := 207) (i := 0) dX10_goesOn_206 rfl rfl rfl ?_
  refine g_getI (p0 := 210) dX10_goesOn_207 fX10_118 (by first | rfl | assumption | exact RW.s (by assumption) | exact TW.s (by assumption)) rfl (by first | assumption | ((repeat (first | exact up_hit | refine up_nv (by decide) ?_ | refine up_mv (by first | decide | omega) ?_)) <;> first | assumption | rfl)) rfl ?_
  refine g_iconst (p0 := 211) (v := nI 1) dX10_goesOn_210 rfl rfl ?_
  first | ((with_reducible refine isN2 ?_); refine g_isubN (p0 := 212) dX10_goesOn_211 (by omega) rfl ?_) | refine g_isub (p0 := 212) dX10_goesOn_211 rfl ?_
  first | ((with_reducible refine isN1 ?_); refine g_aldN (p0 := 213) dX10_goesOn_212 (by first | rfl | assumption | exact RW.s (by assumption) | exact TW.s (by assumption)) (by first | decide | assumption) (by omega) (by first | assumption | ((repeat (first | exact up_hit | refine up_nv (by decide) ?_ | refine up_mv (by first | decide | omega) ?_)) <;> first | assumption | rfl)) rfl ?_) | refine g_ald (p0 := 213) dX10_goesOn_212 (by first | rfl | assumption | exact RW.s (by assumption) | exact TW.s (by assumption)) (by assumption) (by first | assumption | ((repeat (first | exact up_hit | refine up_nv (by decide) ?_ | refine up_mv (by first | decide | omega) ?_)) <;> first | assumption | rfl)) rfl ?_
  refine g_iconst (p0 := 214) (v := nI 1) dX10_goesOn_213 rfl rfl ?_
  first | ((with_reducible refine isN2 ?_); refine g_isubN (p0 := 215) dX10_goesOn_214 (by omega) rfl ?_) | refine g_isub (p0 := 215) dX10_goesOn_214 rfl ?_
  first | ((with_reducible refine isNS ?_); refine g_astN (p0 := 216) dX10_goesOn_215 (by first | rfl | assumption | exact RW.s (by assumption) | exact TW.s (by assumption)) (by first | decide | assumption) (by omega) rfl ?_) | refine g_ast (p0 := 216) dX10_goesOn_215 (by first | rfl | assumption | exact RW.s (by assumption) | exact TW.s (by assumption)) (by assumption) rfl ?_
  refine g_return dX10_goesOn_216 rfl ?_
  exact next
def FRg (σ σ' : Sg) : Prop := (∀ z, z ≠ 79 → (z < 89 ∨ 95 < z) → σ' z = σ z) ∧ ∀ j, j ≠ 11 → j ≠ 12 → σ' 79 j = σ 79 j
theorem FRg.refl (σ : Sg) : FRg σ σ := ⟨fun _ _ _ => rfl, fun _ _ _ => rfl⟩
theorem FRg.trans {σ σ1 σ2 : Sg} (h : FRg σ σ1) (h2 : FRg σ1 σ2) : FRg σ σ2 :=
  ⟨fun z h3 h4 => (h2.1 z h3 h4).trans (h.1 z h3 h4), fun j h3 h4 => (h2.2 j h3 h4).trans (h.2 j h3 h4)⟩
def GO (σ σ' : Sg) (k L M : Nat) (g a b s f p d : Nat → Nat) : Prop :=
  LTr σ' L g a b ∧ MTr σ' M s f p d ∧ σ' 86 k = nI (M - 1) ∧ σ' 87 k = nI (L - 1 - f (M - 1)) ∧ σ' 88 k = nI (g (L - 1) - 1) ∧
  (∀ j, j ≠ k → σ' 86 j = σ 86 j ∧ σ' 87 j = σ 87 j ∧ σ' 88 j = σ 88 j) ∧ (∀ z, z ≠ 79 → (z < 86 ∨ 95 < z) → σ' z = σ z) ∧ ∀ j, j ≠ 11 → j ≠ 12 → σ' 79 j = σ 79 j
theorem GO.cong {σ σ' : Sg} {k L M L' M' : Nat} {g a b s f p d g' a' b' s' f' p' d' : Nat → Nat} (h : GO σ σ' k L M g a b s f p d) (eL : L = L') (eM : M = M') (l1 : 1 ≤ L) (m1 : 1 ≤ M)
    (hg : ∀ l, l < L → g l = g' l) (ha : ∀ l, l < L → a l = a' l) (hb : ∀ l, l < L → b l = b' l) (h1 : ∀ m, m < M → s m = s' m) (h2 : ∀ m, m < M → f m = f' m) (h4 : ∀ m, m < M → p m = p' m) (h5 : ∀ m, m < M → d m = d' m) : GO σ σ' k L' M' g' a' b' s' f' p' d' := by
  obtain ⟨c1, c2, c3, c4, c5, c6⟩ := h
  have e1 := h2 (M - 1) (by omega)
  have e2 := hg (L - 1) (by omega)
  refine ⟨c1.cong eL hg ha hb, c2.cong eM h1 h2 h4 h5, ?_, ?_, ?_, c6⟩
  · rw [← eM]; exact c3
  · rw [← eM, ← eL, ← e1]; exact c4
  · rw [← eL, ← e2]; exact c5
set_option maxRecDepth 20000 in
set_option maxHeartbeats 2000000 in
theorem gA {k x L M : Nat} {g a b s f p d : Nat → Nat} {σ : Sg} {Q : SP} (hL : LTr σ L g a b) (hM : MTr σ M s f p d) (hk : k < 160) (hl : L ≤ 160) (hm : M < 160) (hx : x = 5) (next : ∀ σ', LTr σ' L g a b → MTr σ' (M + 1) (nu s M k) (nu f M L) (nu p M 0) (nu d M 0) → FRg σ σ' → WM mX10_goesOn Q 58 [some (ar 79), some (ai (nI k)), some (ai (nI x))] [] σ') : WM mX10_goesOn Q 0 [some (ar 79), some (ai (nI k)), some (ai (nI x))] [] σ := by
  have v1 := hL.1
  have v2 := hM.1
  refine g_iload_n (p0 := 1) (i := 2) dX10_goesOn_0 rfl rfl rfl ?_
  refine g_iconst (p0 := 2) (v := nI 5) dX10_goesOn_1 rfl rfl ?_
  first | ((with_reducible refine isN2 ?_); refine g_icmpN_ne (tgt := 58) (p1 := 5) dX10_goesOn_2 rfl (by omega) (by omega) rfl (fun c_2 => by exfalso; first | omega | contradiction | exact absurd (by assumption) c_2 | (simp_all; done)) (fun c_2 => ?_)) | refine g_icmp_ne (tgt := 58) (p1 := 5) dX10_goesOn_2 rfl rfl (fun c_2 => by exfalso; first | omega | contradiction | exact absurd (by assumption) c_2 | (simp_all; done)) (fun c_2 => ?_)
  refine g_aload_n (p0 := 6) (i := 0) dX10_goesOn_5 rfl rfl rfl ?_
  refine g_getR (p0 := 9) dX10_goesOn_6 fX10_46 (by first | rfl | assumption | exact RW.s (by assumption) | exact TW.s (by assumption)) rfl rfl ?_
  refine g_aload_n (p0 := 10) (i := 0) dX10_goesOn_9 rfl rfl rfl ?_
  refine g_getI (p0 := 13) dX10_goesOn_10 fX10_121 (by first | rfl | assumption | exact RW.s (by assumption) | exact TW.s (by assumption)) rfl (by first | assumption | ((repeat (first | exact up_hit | refine up_nv (by decide) ?_ | refine up_mv (by first | decide | omega) ?_)) <;> first | assumption | rfl)) rfl ?_
  refine g_aload_n (p0 := 14) (i := 0) dX10_goesOn_13 rfl rfl rfl ?_
  refine g_getI (p0 := 17) dX10_goesOn_14 fX10_118 (by first | rfl | assumption | exact RW.s (by assumption) | exact TW.s (by assumption)) rfl (by first | assumption | ((repeat (first | exact up_hit | refine up_nv (by decide) ?_ | refine up_mv (by first | decide | omega) ?_)) <;> first | assumption | rfl)) rfl ?_
  first | ((with_reducible refine isNS ?_); refine g_astN (p0 := 18) dX10_goesOn_17 (by first | rfl | assumption | exact RW.s (by assumption) | exact TW.s (by assumption)) (by first | decide | assumption) (by omega) rfl ?_) | refine g_ast (p0 := 18) dX10_goesOn_17 (by first | rfl | assumption | exact RW.s (by assumption) | exact TW.s (by assumption)) (by assumption) rfl ?_
  refine g_aload_n (p0 := 19) (i := 0) dX10_goesOn_18 rfl rfl rfl ?_
  refine g_getR (p0 := 22) dX10_goesOn_19 fX10_49 (by first | rfl | assumption | exact RW.s (by assumption) | exact TW.s (by assumption)) rfl rfl ?_
  refine g_aload_n (p0 := 23) (i := 0) dX10_goesOn_22 rfl rfl rfl ?_
  refine g_getI (p0 := 26) dX10_goesOn_23 fX10_121 (by first | rfl | assumption | exact RW.s (by assumption) | exact TW.s (by assumption)) rfl (by first | assumption | ((repeat (first | exact up_hit | refine up_nv (by decide) ?_ | refine up_mv (by first | decide | omega) ?_)) <;> first | assumption | rfl)) rfl ?_
  refine g_iload_n (p0 := 27) (i := 1) dX10_goesOn_26 rfl rfl rfl ?_
  first | ((with_reducible refine isNS ?_); refine g_astN (p0 := 28) dX10_goesOn_27 (by first | rfl | assumption | exact RW.s (by assumption) | exact TW.s (by assumption)) (by first | decide | assumption) (by omega) rfl ?_) | refine g_ast (p0 := 28) dX10_goesOn_27 (by first | rfl | assumption | exact RW.s (by assumption) | exact TW.s (by assumption)) (by assumption) rfl ?_
  refine g_aload_n (p0 := 29) (i := 0) dX10_goesOn_28 rfl rfl rfl ?_
  refine g_getR (p0 := 32) dX10_goesOn_29 fX10_52 (by first | rfl | assumption | exact RW.s (by assumption) | exact TW.s (by assumption)) rfl rfl ?_
  refine g_aload_n (p0 := 33) (i := 0) dX10_goesOn_32 rfl rfl rfl ?_
  refine g_getI (p0 := 36) dX10_goesOn_33 fX10_121 (by first | rfl | assumption | exact RW.s (by assumption) | exact TW.s (by assumption)) rfl (by first | assumption | ((repeat (first | exact up_hit | refine up_nv (by decide) ?_ | refine up_mv (by first | decide | omega) ?_)) <;> first | assumption | rfl)) rfl ?_
  refine g_iconst (p0 := 37) (v := nI 0) dX10_goesOn_36 rfl rfl ?_
  first | ((with_reducible refine isNS ?_); refine g_astN (p0 := 38) dX10_goesOn_37 (by first | rfl | assumption | exact RW.s (by assumption) | exact TW.s (by assumption)) (by first | decide | assumption) (by omega) rfl ?_) | refine g_ast (p0 := 38) dX10_goesOn_37 (by first | rfl | assumption | exact RW.s (by assumption) | exact TW.s (by assumption)) (by assumption) rfl ?_
  refine g_aload_n (p0 := 39) (i := 0) dX10_goesOn_38 rfl rfl rfl ?_
  refine g_getR (p0 := 42) dX10_goesOn_39 fX10_55 (by first | rfl | assumption | exact RW.s (by assumption) | exact TW.s (by assumption)) rfl rfl ?_
  refine g_aload_n (p0 := 43) (i := 0) dX10_goesOn_42 rfl rfl rfl ?_
  refine g_getI (p0 := 46) dX10_goesOn_43 fX10_121 (by first | rfl | assumption | exact RW.s (by assumption) | exact TW.s (by assumption)) rfl (by first | assumption | ((repeat (first | exact up_hit | refine up_nv (by decide) ?_ | refine up_mv (by first | decide | omega) ?_)) <;> first | assumption | rfl)) rfl ?_
  refine g_iconst (p0 := 47) (v := nI 0) dX10_goesOn_46 rfl rfl ?_
  first | ((with_reducible refine isNS ?_); refine g_astN (p0 := 48) dX10_goesOn_47 (by first | rfl | assumption | exact RW.s (by assumption) | exact TW.s (by assumption)) (by first | decide | assumption) (by omega) rfl ?_) | refine g_ast (p0 := 48) dX10_goesOn_47 (by first | rfl | assumption | exact RW.s (by assumption) | exact TW.s (by assumption)) (by assumption) rfl ?_
  refine g_aload_n (p0 := 49) (i := 0) dX10_goesOn_48 rfl rfl rfl ?_
  refine g_dup (p0 := 50) dX10_goesOn_49 rfl ?_
  refine g_getI (p0 := 53) dX10_goesOn_50 fX10_121 (by first | rfl | assumption | exact RW.s (by assumption) | exact TW.s (by assumption)) rfl (by first | assumption | ((repeat (first | exact up_hit | refine up_nv (by decide) ?_ | refine up_mv (by first | decide | omega) ?_)) <;> first | assumption | rfl)) rfl ?_
  refine g_iconst (p0 := 54) (v := nI 1) dX10_goesOn_53 rfl rfl ?_
  first | ((with_reducible refine isN2 ?_); refine g_iaddN (p0 := 55) dX10_goesOn_54 rfl ?_) | refine g_iadd (p0 := 55) dX10_goesOn_54 rfl ?_
  refine g_put (p0 := 58) dX10_goesOn_55 fX10_121 (by first | rfl | assumption | exact RW.s (by assumption) | exact TW.s (by assumption)) rfl nX10_11 (pX10_11 _) rfl ?_
  refine next _ ?_ ?_ ?_
  · exact ⟨by rw [up_miss (by decide), up_ne (by decide), up_ne (by decide), up_ne (by decide), up_ne (by decide)]; exact hL.1, fun l hl2 => ⟨by rw [up_ne (by decide), up_ne (by decide), up_ne (by decide), up_ne (by decide), up_ne (by decide)]; exact (hL.2 l hl2).1, by rw [up_ne (by decide), up_ne (by decide), up_ne (by decide), up_ne (by decide), up_ne (by decide)]; exact (hL.2 l hl2).2.1, by rw [up_ne (by decide), up_ne (by decide), up_ne (by decide), up_ne (by decide), up_ne (by decide)]; exact (hL.2 l hl2).2.2⟩⟩
  · refine ⟨up_hit, fun m hm2 => ⟨?_, ?_, ?_, ?_⟩⟩
    · rw [up_ne (by decide), up_ne (by decide), up_ne (by decide), up_self, up_ne (by decide)]; exact upd_nS (fun j hj => (hM.2 j hj).1) m hm2
    · rw [up_ne (by decide), up_ne (by decide), up_ne (by decide), up_ne (by decide), up_self]; exact upd_nS (fun j hj => (hM.2 j hj).2.1) m hm2
    · rw [up_ne (by decide), up_ne (by decide), up_self, up_ne (by decide), up_ne (by decide)]; exact upd_nS (fun j hj => (hM.2 j hj).2.2.1) m hm2
    · rw [up_ne (by decide), up_self, up_ne (by decide), up_ne (by decide), up_ne (by decide)]; exact upd_nS (fun j hj => (hM.2 j hj).2.2.2) m hm2
  · exact ⟨fun z h1 h2 => by rw [up_ne (by omega), up_ne (by omega), up_ne (by omega), up_ne (by omega), up_ne (by omega)], fun j h1 h2 => by rw [up_miss (by omega), up_ne (by decide), up_ne (by decide), up_ne (by decide), up_ne (by decide)]⟩
set_option maxRecDepth 20000 in
set_option maxHeartbeats 2000000 in
theorem gA_n {k x : Nat} {σ : Sg} {Q : SP} (hx : ¬ x = 5) (hx5 : x ≤ 5) (next : WM mX10_goesOn Q 58 [some (ar 79), some (ai (nI k)), some (ai (nI x))] [] σ) : WM mX10_goesOn Q 0 [some (ar 79), some (ai (nI k)), some (ai (nI x))] [] σ := by
  refine g_iload_n (p0 := 1) (i := 2) dX10_goesOn_0 rfl rfl rfl ?_
  refine g_iconst (p0 := 2) (v := nI 5) dX10_goesOn_1 rfl rfl ?_
  first | ((with_reducible refine isN2 ?_); refine g_icmpN_ne (tgt := 58) (p1 := 5) dX10_goesOn_2 rfl (by omega) (by omega) rfl (fun c_2 => ?_) (fun c_2 => by exfalso; first | omega | contradiction | exact absurd (by assumption) c_2 | (simp_all; done))) | refine g_icmp_ne (tgt := 58) (p1 := 5) dX10_goesOn_2 rfl rfl (fun c_2 => ?_) (fun c_2 => by exfalso; first | omega | contradiction | exact absurd (by assumption) c_2 | (simp_all; done))
  exact next
set_option maxRecDepth 20000 in
set_option maxHeartbeats 2000000 in
theorem gB {k x L M : Nat} {g a b s f p d : Nat → Nat} {σ : Sg} {Q : SP} (hL : LTr σ L g a b) (hM : MTr σ M s f p d) (hl : L < 160) (hx : 4 ≤ x) (hx5 : x ≤ 5) (next : ∀ σ', LTr σ' (L + 1) (nu g L 0) (nu a L 0) (nu b L 0) → MTr σ' M s f p d → FRg σ σ' → WM mX10_goesOn Q 103 [some (ar 79), some (ai (nI k)), some (ai (nI x))] [] σ') : WM mX10_goesOn Q 58 [some (ar 79), some (ai (nI k)), some (ai (nI x))] [] σ := by
  have v1 := hL.1
  have v2 := hM.1
  refine g_iload_n (p0 := 59) (i := 2) dX10_goesOn_58 rfl rfl rfl ?_
  refine g_iconst (p0 := 60) (v := nI 3) dX10_goesOn_59 rfl rfl ?_
  first | ((with_reducible refine isN2 ?_); refine g_icmpN_le (tgt := 103) (p1 := 63) dX10_goesOn_60 rfl (by omega) (by omega) rfl (fun c_60 => by exfalso; first | omega | contradiction | exact absurd (by assumption) c_60 | (simp_all; done)) (fun c_60 => ?_)) | refine g_icmp_le (tgt := 103) (p1 := 63) dX10_goesOn_60 rfl rfl (fun c_60 => by exfalso; first | omega | contradiction | exact absurd (by assumption) c_60 | (simp_all; done)) (fun c_60 => ?_)
  refine g_aload_n (p0 := 64) (i := 0) dX10_goesOn_63 rfl rfl rfl ?_
  refine g_getR (p0 := 67) dX10_goesOn_64 fX10_37 (by first | rfl | assumption | exact RW.s (by assumption) | exact TW.s (by assumption)) rfl rfl ?_
  refine g_aload_n (p0 := 68) (i := 0) dX10_goesOn_67 rfl rfl rfl ?_
  refine g_getI (p0 := 71) dX10_goesOn_68 fX10_118 (by first | rfl | assumption | exact RW.s (by assumption) | exact TW.s (by assumption)) rfl (by first | assumption | ((repeat (first | exact up_hit | refine up_nv (by decide) ?_ | refine up_mv (by first | decide | omega) ?_)) <;> first | assumption | rfl)) rfl ?_
  refine g_iconst (p0 := 72) (v := nI 0) dX10_goesOn_71 rfl rfl ?_
  first | ((with_reducible refine isNS ?_); refine g_astN (p0 := 73) dX10_goesOn_72 (by first | rfl | assumption | exact RW.s (by assumption) | exact TW.s (by assumption)) (by first | decide | assumption) (by omega) rfl ?_) | refine g_ast (p0 := 73) dX10_goesOn_72 (by first | rfl | assumption | exact RW.s (by assumption) | exact TW.s (by assumption)) (by assumption) rfl ?_
  refine g_aload_n (p0 := 74) (i := 0) dX10_goesOn_73 rfl rfl rfl ?_
  refine g_getR (p0 := 77) dX10_goesOn_74 fX10_40 (by first | rfl | assumption | exact RW.s (by assumption) | exact TW.s (by assumption)) rfl rfl ?_
  refine g_aload_n (p0 := 78) (i := 0) dX10_goesOn_77 rfl rfl rfl ?_
  refine g_getI (p0 := 81) dX10_goesOn_78 fX10_118 (by first | rfl | assumption | exact RW.s (by assumption) | exact TW.s (by assumption)) rfl (by first | assumption | ((repeat (first | exact up_hit | refine up_nv (by decide) ?_ | refine up_mv (by first | decide | omega) ?_)) <;> first | assumption | rfl)) rfl ?_
  refine g_iconst (p0 := 82) (v := nI 0) dX10_goesOn_81 rfl rfl ?_
  first | ((with_reducible refine isNS ?_); refine g_astN (p0 := 83) dX10_goesOn_82 (by first | rfl | assumption | exact RW.s (by assumption) | exact TW.s (by assumption)) (by first | decide | assumption) (by omega) rfl ?_) | refine g_ast (p0 := 83) dX10_goesOn_82 (by first | rfl | assumption | exact RW.s (by assumption) | exact TW.s (by assumption)) (by assumption) rfl ?_
  refine g_aload_n (p0 := 84) (i := 0) dX10_goesOn_83 rfl rfl rfl ?_
  refine g_getR (p0 := 87) dX10_goesOn_84 fX10_43 (by first | rfl | assumption | exact RW.s (by assumption) | exact TW.s (by assumption)) rfl rfl ?_
  refine g_aload_n (p0 := 88) (i := 0) dX10_goesOn_87 rfl rfl rfl ?_
  refine g_getI (p0 := 91) dX10_goesOn_88 fX10_118 (by first | rfl | assumption | exact RW.s (by assumption) | exact TW.s (by assumption)) rfl (by first | assumption | ((repeat (first | exact up_hit | refine up_nv (by decide) ?_ | refine up_mv (by first | decide | omega) ?_)) <;> first | assumption | rfl)) rfl ?_
  refine g_iconst (p0 := 92) (v := nI 0) dX10_goesOn_91 rfl rfl ?_
  first | ((with_reducible refine isNS ?_); refine g_astN (p0 := 93) dX10_goesOn_92 (by first | rfl | assumption | exact RW.s (by assumption) | exact TW.s (by assumption)) (by first | decide | assumption) (by omega) rfl ?_) | refine g_ast (p0 := 93) dX10_goesOn_92 (by first | rfl | assumption | exact RW.s (by assumption) | exact TW.s (by assumption)) (by assumption) rfl ?_
  refine g_aload_n (p0 := 94) (i := 0) dX10_goesOn_93 rfl rfl rfl ?_
  refine g_dup (p0 := 95) dX10_goesOn_94 rfl ?_
  refine g_getI (p0 := 98) dX10_goesOn_95 fX10_118 (by first | rfl | assumption | exact RW.s (by assumption) | exact TW.s (by assumption)) rfl (by first | assumption | ((repeat (first | exact up_hit | refine up_nv (by decide) ?_ | refine up_mv (by first | decide | omega) ?_)) <;> first | assumption | rfl)) rfl ?_
  refine g_iconst (p0 := 99) (v := nI 1) dX10_goesOn_98 rfl rfl ?_
  first | ((with_reducible refine isN2 ?_); refine g_iaddN (p0 := 100) dX10_goesOn_99 rfl ?_) | refine g_iadd (p0 := 100) dX10_goesOn_99 rfl ?_
  refine g_put (p0 := 103) dX10_goesOn_100 fX10_118 (by first | rfl | assumption | exact RW.s (by assumption) | exact TW.s (by assumption)) rfl nX10_12 (pX10_12 _) rfl ?_
  refine next _ ?_ ?_ ?_
  · refine ⟨up_hit, fun l hl2 => ⟨?_, ?_, ?_⟩⟩
    · rw [up_ne (by decide), up_ne (by decide), up_ne (by decide), up_self]; exact upd_nS (fun j hj => (hL.2 j hj).1) l hl2
    · rw [up_ne (by decide), up_ne (by decide), up_self, up_ne (by decide)]; exact upd_nS (fun j hj => (hL.2 j hj).2.1) l hl2
    · rw [up_ne (by decide), up_self, up_ne (by decide), up_ne (by decide)]; exact upd_nS (fun j hj => (hL.2 j hj).2.2) l hl2
  · exact ⟨by rw [up_miss (by decide), up_ne (by decide), up_ne (by decide), up_ne (by decide)]; exact hM.1, fun m hm2 => ⟨by rw [up_ne (by decide), up_ne (by decide), up_ne (by decide), up_ne (by decide)]; exact (hM.2 m hm2).1, by rw [up_ne (by decide), up_ne (by decide), up_ne (by decide), up_ne (by decide)]; exact (hM.2 m hm2).2.1, by rw [up_ne (by decide), up_ne (by decide), up_ne (by decide), up_ne (by decide)]; exact (hM.2 m hm2).2.2.1, by rw [up_ne (by decide), up_ne (by decide), up_ne (by decide), up_ne (by decide)]; exact (hM.2 m hm2).2.2.2⟩⟩
  · exact ⟨fun z h1 h2 => by rw [up_ne (by omega), up_ne (by omega), up_ne (by omega), up_ne (by omega)], fun j h1 h2 => by rw [up_miss (by omega), up_ne (by decide), up_ne (by decide), up_ne (by decide)]⟩
set_option maxRecDepth 20000 in
set_option maxHeartbeats 2000000 in
theorem gB_n {k x : Nat} {σ : Sg} {Q : SP} (hx : x ≤ 3) (next : WM mX10_goesOn Q 103 [some (ar 79), some (ai (nI k)), some (ai (nI x))] [] σ) : WM mX10_goesOn Q 58 [some (ar 79), some (ai (nI k)), some (ai (nI x))] [] σ := by
  refine g_iload_n (p0 := 59) (i := 2) dX10_goesOn_58 rfl rfl rfl ?_
  refine g_iconst (p0 := 60) (v := nI 3) dX10_goesOn_59 rfl rfl ?_
  first | ((with_reducible refine isN2 ?_); refine g_icmpN_le (tgt := 103) (p1 := 63) dX10_goesOn_60 rfl (by omega) (by omega) rfl (fun c_60 => ?_) (fun c_60 => by exfalso; first | omega | contradiction | exact absurd (by assumption) c_60 | (simp_all; done))) | refine g_icmp_le (tgt := 103) (p1 := 63) dX10_goesOn_60 rfl rfl (fun c_60 => ?_) (fun c_60 => by exfalso; first | omega | contradiction | exact absurd (by assumption) c_60 | (simp_all; done))
  exact next
set_option maxRecDepth 20000 in
set_option maxHeartbeats 2000000 in
theorem gC {k x L M : Nat} {g a b s f p d : Nat → Nat} {σ : Sg} {Q : SP} (hL : LTr σ (L + 1) g a b) (hM : MTr σ M s f p d) (hl : L < 160) (hg : g L < 1000) (hx : 3 ≤ x) (hx5 : x ≤ 5) (next : ∀ σ', LTr σ' (L + 1) (nu g L (g L + 1)) a b → MTr σ' M s f p d → FRg σ σ' → WM mX10_goesOn Q 123 [some (ar 79), some (ai (nI k)), some (ai (nI x))] [] σ') : WM mX10_goesOn Q 103 [some (ar 79), some (ai (nI k)), some (ai (nI x))] [] σ := by
  have v1 := hL.1
  have v3 : σ 89 (L + 1 - 1) = nI (g L) := (hL.2 L (by omega)).1
  refine g_iload_n (p0 := 104) (i := 2) dX10_goesOn_103 rfl rfl rfl ?_
  refine g_iconst (p0 := 105) (v := nI 2) dX10_goesOn_104 rfl rfl ?_
  first | ((with_reducible refine isN2 ?_); refine g_icmpN_le (tgt := 123) (p1 := 108) dX10_goesOn_105 rfl (by omega) (by omega) rfl (fun c_105 => by exfalso; first | omega | contradiction | exact absurd (by assumption) c_105 | (simp_all; done)) (fun c_105 => ?_)) | refine g_icmp_le (tgt := 123) (p1 := 108) dX10_goesOn_105 rfl rfl (fun c_105 => by exfalso; first | omega | contradiction | exact absurd (by assumption) c_105 | (simp_all; done)) (fun c_105 => ?_)
  refine g_aload_n (p0 := 109) (i := 0) dX10_goesOn_108 rfl rfl rfl ?_
  refine g_getR (p0 := 112) dX10_goesOn_109 fX10_37 (by first | rfl | assumption | exact RW.s (by assumption) | exact TW.s (by assumption)) rfl rfl ?_
  refine g_aload_n (p0 := 113) (i := 0) dX10_goesOn_112 rfl rfl rfl ?_
  refine g_getI (p0 := 116) dX10_goesOn_113 fX10_118 (by first | rfl | assumption | exact RW.s (by assumption) | exact TW.s (by assumption)) rfl (by first | assumption | ((repeat (first | exact up_hit | refine up_nv (by decide) ?_ | refine up_mv (by first | decide | omega) ?_)) <;> first | assumption | rfl)) rfl ?_
  refine g_iconst (p0 := 117) (v := nI 1) dX10_goesOn_116 rfl rfl ?_
  first | ((with_reducible refine isN2 ?_); refine g_isubN (p0 := 118) dX10_goesOn_117 (by omega) rfl ?_) | refine g_isub (p0 := 118) dX10_goesOn_117 rfl ?_
  refine g_dup2 (p0 := 119) dX10_goesOn_118 rfl ?_
  first | ((with_reducible refine isN1 ?_); refine g_aldN (p0 := 120) dX10_goesOn_119 (by first | rfl | assumption | exact RW.s (by assumption) | exact TW.s (by assumption)) (by first | decide | assumption) (by omega) (by first | assumption | ((repeat (first | exact up_hit | refine up_nv (by decide) ?_ | refine up_mv (by first | decide | omega) ?_)) <;> first | assumption | rfl)) rfl ?_) | refine g_ald (p0 := 120) dX10_goesOn_119 (by first | rfl | assumption | exact RW.s (by assumption) | exact TW.s (by assumption)) (by assumption) (by first | assumption | ((repeat (first | exact up_hit | refine up_nv (by decide) ?_ | refine up_mv (by first | decide | omega) ?_)) <;> first | assumption | rfl)) rfl ?_
  refine g_iconst (p0 := 121) (v := nI 1) dX10_goesOn_120 rfl rfl ?_
  first | ((with_reducible refine isN2 ?_); refine g_iaddN (p0 := 122) dX10_goesOn_121 rfl ?_) | refine g_iadd (p0 := 122) dX10_goesOn_121 rfl ?_
  first | ((with_reducible refine isNS ?_); refine g_astN (p0 := 123) dX10_goesOn_122 (by first | rfl | assumption | exact RW.s (by assumption) | exact TW.s (by assumption)) (by first | decide | assumption) (by omega) rfl ?_) | refine g_ast (p0 := 123) dX10_goesOn_122 (by first | rfl | assumption | exact RW.s (by assumption) | exact TW.s (by assumption)) (by assumption) rfl ?_
  refine next _ ?_ ?_ ?_
  · refine ⟨by rw [up_ne (by decide)]; exact hL.1, fun l hl2 => ⟨?_, ?_, ?_⟩⟩
    · rw [up_self]; exact upd_nI (fun j hj => (hL.2 j hj).1) l hl2
    · rw [up_ne (by decide)]; exact (hL.2 l hl2).2.1
    · rw [up_ne (by decide)]; exact (hL.2 l hl2).2.2
  · exact ⟨by rw [up_ne (by decide)]; exact hM.1, fun m hm2 => ⟨by rw [up_ne (by decide)]; exact (hM.2 m hm2).1, by rw [up_ne (by decide)]; exact (hM.2 m hm2).2.1, by rw [up_ne (by decide)]; exact (hM.2 m hm2).2.2.1, by rw [up_ne (by decide)]; exact (hM.2 m hm2).2.2.2⟩⟩
  · exact ⟨fun z h1 h2 => by rw [up_ne (by omega)], fun j h1 h2 => by rw [up_ne (by decide)]⟩
set_option maxRecDepth 20000 in
set_option maxHeartbeats 2000000 in
theorem gC_n {k x : Nat} {σ : Sg} {Q : SP} (hx : x ≤ 2) (next : WM mX10_goesOn Q 123 [some (ar 79), some (ai (nI k)), some (ai (nI x))] [] σ) : WM mX10_goesOn Q 103 [some (ar 79), some (ai (nI k)), some (ai (nI x))] [] σ := by
  refine g_iload_n (p0 := 104) (i := 2) dX10_goesOn_103 rfl rfl rfl ?_
  refine g_iconst (p0 := 105) (v := nI 2) dX10_goesOn_104 rfl rfl ?_
  first | ((with_reducible refine isN2 ?_); refine g_icmpN_le (tgt := 123) (p1 := 108) dX10_goesOn_105 rfl (by omega) (by omega) rfl (fun c_105 => ?_) (fun c_105 => by exfalso; first | omega | contradiction | exact absurd (by assumption) c_105 | (simp_all; done))) | refine g_icmp_le (tgt := 123) (p1 := 108) dX10_goesOn_105 rfl rfl (fun c_105 => ?_) (fun c_105 => by exfalso; first | omega | contradiction | exact absurd (by assumption) c_105 | (simp_all; done))
  exact next
theorem gE_2r {σ0 : Sg} {k x L M : Nat} {g a b s f p d : Nat → Nat} {σ : Sg} (h0 : FRg σ0 σ) (hL : LTr σ (L + 1) g a b) (hM : MTr σ (M + 1) s f p d) (hk : k < 160) (hl : L < 160) (hm : M < 160) (hg : 1 ≤ g L) (hfl : f M ≤ L) (hx : x = 2) : WM mX10_goesOn (RelV (fun σ' => GO σ0 σ' k (L + 1) (M + 1) g a b s f (nu p M (p M + 1)) d)) 137 [some (ar 79), some (ai (nI k)), some (ai (nI x))] [] σ := by
  refine gE_2 hL hM hk hl hm hg hfl hx ⟨rfl, ?_⟩
  refine ⟨⟨by rw [up_ne (by decide), up_ne (by decide), up_ne (by decide), up_ne (by decide)]; exact hL.1, fun l hl2 => by rw [up_ne (by decide), up_ne (by decide), up_ne (by decide), up_ne (by decide), up_ne (by decide), up_ne (by decide), up_ne (by decide), up_ne (by decide), up_ne (by decide), up_ne (by decide), up_ne (by decide), up_ne (by decide)]; exact hL.2 l hl2⟩, ⟨by rw [up_ne (by decide), up_ne (by decide), up_ne (by decide), up_ne (by decide)]; exact hM.1, fun m hm2 => ⟨?_, ?_, ?_, ?_⟩⟩, ?_, ?_, ?_, fun j hj => ⟨?_, ?_, ?_⟩, fun z h1 h2 => ?_, fun j h1 h2 => ?_⟩
  · rw [up_ne (by decide), up_ne (by decide), up_ne (by decide), up_ne (by decide)]; exact (hM.2 m hm2).1
  · rw [up_ne (by decide), up_ne (by decide), up_ne (by decide), up_ne (by decide)]; exact (hM.2 m hm2).2.1
  · rw [up_ne (by decide), up_ne (by decide), up_ne (by decide), up_self]; exact upd_nI (fun j hj => (hM.2 j hj).2.2.1) m hm2
  · rw [up_ne (by decide), up_ne (by decide), up_ne (by decide), up_ne (by decide)]; exact (hM.2 m hm2).2.2.2
  · rw [up_ne (by decide), up_ne (by decide), up_hit]
  · rw [up_ne (by decide), up_hit]; rfl
  · exact up_hit
  · rw [up_ne (by decide), up_ne (by decide), up_miss hj, up_ne (by decide)]; rw [h0.1 86 (by decide) (by decide)]
  · rw [up_ne (by decide), up_miss hj, up_ne (by decide), up_ne (by decide)]; rw [h0.1 87 (by decide) (by decide)]
  · rw [up_miss hj, up_ne (by decide), up_ne (by decide), up_ne (by decide)]; rw [h0.1 88 (by decide) (by decide)]
  · rw [up_ne (by omega), up_ne (by omega), up_ne (by omega), up_ne (by omega)]; exact h0.1 z h1 (by omega)
  · rw [up_ne (by decide), up_ne (by decide), up_ne (by decide), up_ne (by decide)]; exact h0.2 j h1 h2
theorem gE_nr {σ0 : Sg} {k x L M : Nat} {g a b s f p d : Nat → Nat} {σ : Sg} (h0 : FRg σ0 σ) (hL : LTr σ (L + 1) g a b) (hM : MTr σ (M + 1) s f p d) (hk : k < 160) (hl : L < 160) (hm : M < 160) (hg : 1 ≤ g L) (hfl : f M ≤ L) (hx : ¬ x = 2) (hx5 : x ≤ 5) : WM mX10_goesOn (RelV (fun σ' => GO σ0 σ' k (L + 1) (M + 1) g a b s f (nu p M (p M + 0)) d)) 137 [some (ar 79), some (ai (nI k)), some (ai (nI x))] [] σ := by
  refine gE_n hL hM hk hl hm hg hfl hx hx5 ⟨rfl, ?_⟩
  refine ⟨⟨by rw [up_ne (by decide), up_ne (by decide), up_ne (by decide), up_ne (by decide)]; exact hL.1, fun l hl2 => by rw [up_ne (by decide), up_ne (by decide), up_ne (by decide), up_ne (by decide), up_ne (by decide), up_ne (by decide), up_ne (by decide), up_ne (by decide), up_ne (by decide), up_ne (by decide), up_ne (by decide), up_ne (by decide)]; exact hL.2 l hl2⟩, ⟨by rw [up_ne (by decide), up_ne (by decide), up_ne (by decide), up_ne (by decide)]; exact hM.1, fun m hm2 => ⟨?_, ?_, ?_, ?_⟩⟩, ?_, ?_, ?_, fun j hj => ⟨?_, ?_, ?_⟩, fun z h1 h2 => ?_, fun j h1 h2 => ?_⟩
  · rw [up_ne (by decide), up_ne (by decide), up_ne (by decide), up_ne (by decide)]; exact (hM.2 m hm2).1
  · rw [up_ne (by decide), up_ne (by decide), up_ne (by decide), up_ne (by decide)]; exact (hM.2 m hm2).2.1
  · rw [up_ne (by decide), up_ne (by decide), up_ne (by decide), up_self]; exact upd_nI (fun j hj => (hM.2 j hj).2.2.1) m hm2
  · rw [up_ne (by decide), up_ne (by decide), up_ne (by decide), up_ne (by decide)]; exact (hM.2 m hm2).2.2.2
  · rw [up_ne (by decide), up_ne (by decide), up_hit]
  · rw [up_ne (by decide), up_hit]; rfl
  · exact up_hit
  · rw [up_ne (by decide), up_ne (by decide), up_miss hj, up_ne (by decide)]; rw [h0.1 86 (by decide) (by decide)]
  · rw [up_ne (by decide), up_miss hj, up_ne (by decide), up_ne (by decide)]; rw [h0.1 87 (by decide) (by decide)]
  · rw [up_miss hj, up_ne (by decide), up_ne (by decide), up_ne (by decide)]; rw [h0.1 88 (by decide) (by decide)]
  · rw [up_ne (by omega), up_ne (by omega), up_ne (by omega), up_ne (by omega)]; exact h0.1 z h1 (by omega)
  · rw [up_ne (by decide), up_ne (by decide), up_ne (by decide), up_ne (by decide)]; exact h0.2 j h1 h2
set_option maxRecDepth 20000 in
set_option maxHeartbeats 2000000 in
theorem gD_2 {σ0 : Sg} {k x L M : Nat} {g a b s f p d : Nat → Nat} {σ : Sg} (h0 : FRg σ0 σ) (hL : LTr σ (L + 1) g a b) (hM : MTr σ (M + 1) s f p d) (hk : k < 160) (hl : L < 160) (hm : M < 160) (hg : 1 ≤ g L) (hg2 : g L < 1000) (hfl : f M ≤ L) (hx : x = 2) : WM mX10_goesOn (RelV (fun σ' => GO σ0 σ' k (L + 1) (M + 1) g (nu a L (if g L = 1 then a L + 2 else a L)) (nu b L (if g L = 2 then b L + 2 else b L)) s f (nu p M (p M + 1)) d)) 123 [some (ar 79), some (ai (nI k)), some (ai (nI x))] [] σ := by
  refine g_aload_n (p0 := 124) (i := 0) dX10_goesOn_123 rfl rfl rfl ?_
  refine g_iload_n (p0 := 125) (i := 2) dX10_goesOn_124 rfl rfl rfl ?_
  refine g_iconst (p0 := 126) (v := nI 2) dX10_goesOn_125 rfl rfl ?_
  first | ((with_reducible refine isN2 ?_); refine g_icmpN_ne (tgt := 133) (p1 := 129) dX10_goesOn_126 rfl (by omega) (by omega) rfl (fun c_126 => by exfalso; first | omega | contradiction | exact absurd (by assumption) c_126 | (simp_all; done)) (fun c_126 => ?_)) | refine g_icmp_ne (tgt := 133) (p1 := 129) dX10_goesOn_126 rfl rfl (fun c_126 => by exfalso; first | omega | contradiction | exact absurd (by assumption) c_126 | (simp_all; done)) (fun c_126 => ?_)
  refine g_iconst (p0 := 130) (v := nI 2) dX10_goesOn_129 rfl rfl ?_
  refine g_goto (tgt := 134) dX10_goesOn_130 rfl ?_
  refine g_cV1P (p0 := 137) (r1 := mX10_counts) dX10_goesOn_134 lX10_124 vX10_counts (by first | rfl | assumption | exact RW.s (by assumption) | exact TW.s (by assumption)) ⟨_, _, rfl⟩ (FITi rfl rfl) (Nat.le_of_ble_eq_true rfl) (counts_r hL hl hg2) rfl ?_
  rintro σ1 ⟨hL1, fr1⟩
  have hM1 := hM.of (by rw [fr1 79 (by decide) (by decide)]) (fr1 93 (by decide) (by decide)) (fr1 92 (by decide) (by decide)) (fr1 94 (by decide) (by decide)) (fr1 95 (by decide) (by decide))
  exact gE_2r (h0.trans ⟨fun z h1 h2 => fr1 z (by omega) (by omega), fun j h1 h2 => by rw [fr1 79 (by decide) (by decide)]⟩) hL1 hM1 hk hl hm hg hfl hx
set_option maxRecDepth 20000 in
set_option maxHeartbeats 2000000 in
theorem gD_n {σ0 : Sg} {k x L M : Nat} {g a b s f p d : Nat → Nat} {σ : Sg} (h0 : FRg σ0 σ) (hL : LTr σ (L + 1) g a b) (hM : MTr σ (M + 1) s f p d) (hk : k < 160) (hl : L < 160) (hm : M < 160) (hg : 1 ≤ g L) (hg2 : g L < 1000) (hfl : f M ≤ L) (hx : ¬ x = 2) (hx5 : x ≤ 5) : WM mX10_goesOn (RelV (fun σ' => GO σ0 σ' k (L + 1) (M + 1) g (nu a L (if g L = 1 then a L + 1 else a L)) (nu b L (if g L = 2 then b L + 1 else b L)) s f (nu p M (p M + 0)) d)) 123 [some (ar 79), some (ai (nI k)), some (ai (nI x))] [] σ := by
  refine g_aload_n (p0 := 124) (i := 0) dX10_goesOn_123 rfl rfl rfl ?_
  refine g_iload_n (p0 := 125) (i := 2) dX10_goesOn_124 rfl rfl rfl ?_
  refine g_iconst (p0 := 126) (v := nI 2) dX10_goesOn_125 rfl rfl ?_
  first | ((with_reducible refine isN2 ?_); refine g_icmpN_ne (tgt := 133) (p1 := 129) dX10_goesOn_126 rfl (by omega) (by omega) rfl (fun c_126 => ?_) (fun c_126 => by exfalso; first | omega | contradiction | exact absurd (by assumption) c_126 | (simp_all; done))) | refine g_icmp_ne (tgt := 133) (p1 := 129) dX10_goesOn_126 rfl rfl (fun c_126 => ?_) (fun c_126 => by exfalso; first | omega | contradiction | exact absurd (by assumption) c_126 | (simp_all; done))
  refine g_iconst (p0 := 134) (v := nI 1) dX10_goesOn_133 rfl rfl ?_
  refine g_cV1P (p0 := 137) (r1 := mX10_counts) dX10_goesOn_134 lX10_124 vX10_counts (by first | rfl | assumption | exact RW.s (by assumption) | exact TW.s (by assumption)) ⟨_, _, rfl⟩ (FITi rfl rfl) (Nat.le_of_ble_eq_true rfl) (counts_r hL hl hg2) rfl ?_
  rintro σ1 ⟨hL1, fr1⟩
  have hM1 := hM.of (by rw [fr1 79 (by decide) (by decide)]) (fr1 93 (by decide) (by decide)) (fr1 92 (by decide) (by decide)) (fr1 94 (by decide) (by decide)) (fr1 95 (by decide) (by decide))
  exact gE_nr (h0.trans ⟨fun z h1 h2 => fr1 z (by omega) (by omega), fun j h1 h2 => by rw [fr1 79 (by decide) (by decide)]⟩) hL1 hM1 hk hl hm hg hfl hx hx5
set_option maxRecDepth 20000 in
set_option maxHeartbeats 2000000 in
theorem gx5 {k L M : Nat} {g a b s f p d : Nat → Nat} {σ : Sg} (hL : LTr σ L g a b) (hM : MTr σ M s f p d) (hk : k < 160) (hl : L < 160) (hm : M < 160) : CM mX10_goesOn [ar 79, ai (nI k), ai (nI 5)] σ (RelV (fun σ' => GO σ σ' k (L + 1) (M + 1) (nu (nu g L 0) L (nu g L 0 L + 1)) (nu (nu a L 0) L (if (nu (nu g L 0) L (nu g L 0 L + 1)) L = 1 then (nu a L 0) L + 1 else (nu a L 0) L)) (nu (nu b L 0) L (if (nu (nu g L 0) L (nu g L 0 L + 1)) L = 2 then (nu b L 0) L + 1 else (nu b L 0) L)) (nu s M k) (nu f M L) (nu (nu p M 0) M (nu p M 0 M + 0)) (nu d M 0))) := by
  refine CM_in (ls := [some (ar 79), some (ai (nI k)), some (ai (nI 5))]) rfl ?_
  refine gA hL hM hk (by omega) hm rfl (fun σ1 L1 M1 F1 => ?_)
  refine gB L1 M1 hl (by omega) (by omega) (fun σ2 L2 M2 F2 => ?_)
  refine gC L2 M2 hl (by simp [nu]) (by omega) (by omega) (fun σ3 L3 M3 F3 => ?_)
  exact gD_n ((F1.trans F2).trans F3) L3 M3 hk hl hm (by simp [nu]) (by simp [nu]) (by simp [nu]) (by omega) (by omega)
set_option maxRecDepth 20000 in
set_option maxHeartbeats 2000000 in
theorem gx4 {k L M : Nat} {g a b s f p d : Nat → Nat} {σ : Sg} (hL : LTr σ L g a b) (hM : MTr σ (M + 1) s f p d) (hk : k < 160) (hl : L < 160) (hm : M < 160) (hfl : f M ≤ L) : CM mX10_goesOn [ar 79, ai (nI k), ai (nI 4)] σ (RelV (fun σ' => GO σ σ' k (L + 1) (M + 1) (nu (nu g L 0) L (nu g L 0 L + 1)) (nu (nu a L 0) L (if (nu (nu g L 0) L (nu g L 0 L + 1)) L = 1 then (nu a L 0) L + 1 else (nu a L 0) L)) (nu (nu b L 0) L (if (nu (nu g L 0) L (nu g L 0 L + 1)) L = 2 then (nu b L 0) L + 1 else (nu b L 0) L)) s f (nu p M (p M + 0)) d)) := by
  refine CM_in (ls := [some (ar 79), some (ai (nI k)), some (ai (nI 4))]) rfl ?_
  refine gA_n (by omega) (by omega) ?_
  refine gB hL hM hl (by omega) (by omega) (fun σ2 L2 M2 F2 => ?_)
  refine gC L2 M2 hl (by simp [nu]) (by omega) (by omega) (fun σ3 L3 M3 F3 => ?_)
  exact gD_n (F2.trans F3) L3 M3 hk hl hm (by simp [nu]) (by simp [nu]) hfl (by omega) (by omega)
set_option maxRecDepth 20000 in
set_option maxHeartbeats 2000000 in
theorem gx3 {k L M : Nat} {g a b s f p d : Nat → Nat} {σ : Sg} (hL : LTr σ (L + 1) g a b) (hM : MTr σ (M + 1) s f p d) (hk : k < 160) (hl : L < 160) (hm : M < 160) (hg : 1 ≤ g L) (hg2 : g L < 900) (hfl : f M ≤ L) : CM mX10_goesOn [ar 79, ai (nI k), ai (nI 3)] σ (RelV (fun σ' => GO σ σ' k (L + 1) (M + 1) (nu g L (g L + 1)) (nu a L (if (nu g L (g L + 1)) L = 1 then a L + 1 else a L)) (nu b L (if (nu g L (g L + 1)) L = 2 then b L + 1 else b L)) s f (nu p M (p M + 0)) d)) := by
  refine CM_in (ls := [some (ar 79), some (ai (nI k)), some (ai (nI 3))]) rfl ?_
  refine gA_n (by omega) (by omega) ?_
  refine gB_n (by omega) ?_
  refine gC hL hM hl (by omega) (by omega) (by omega) (fun σ3 L3 M3 F3 => ?_)
  exact gD_n F3 L3 M3 hk hl hm (by simp [nu]) (by simp [nu]; omega) hfl (by omega) (by omega)
set_option maxRecDepth 20000 in
set_option maxHeartbeats 2000000 in
theorem gx2 {k L M : Nat} {g a b s f p d : Nat → Nat} {σ : Sg} (hL : LTr σ (L + 1) g a b) (hM : MTr σ (M + 1) s f p d) (hk : k < 160) (hl : L < 160) (hm : M < 160) (hg : 1 ≤ g L) (hg2 : g L < 900) (hfl : f M ≤ L) : CM mX10_goesOn [ar 79, ai (nI k), ai (nI 2)] σ (RelV (fun σ' => GO σ σ' k (L + 1) (M + 1) g (nu a L (if g L = 1 then a L + 2 else a L)) (nu b L (if g L = 2 then b L + 2 else b L)) s f (nu p M (p M + 1)) d)) := by
  refine CM_in (ls := [some (ar 79), some (ai (nI k)), some (ai (nI 2))]) rfl ?_
  refine gA_n (by omega) (by omega) ?_
  refine gB_n (by omega) ?_
  refine gC_n (by omega) ?_
  exact gD_2 (FRg.refl σ) hL hM hk hl hm hg (by omega) hfl rfl
set_option maxRecDepth 20000 in
set_option maxHeartbeats 2000000 in
theorem gx1 {k L M : Nat} {g a b s f p d : Nat → Nat} {σ : Sg} (hL : LTr σ (L + 1) g a b) (hM : MTr σ (M + 1) s f p d) (hk : k < 160) (hl : L < 160) (hm : M < 160) (hg : 1 ≤ g L) (hg2 : g L < 900) (hfl : f M ≤ L) : CM mX10_goesOn [ar 79, ai (nI k), ai (nI 1)] σ (RelV (fun σ' => GO σ σ' k (L + 1) (M + 1) g (nu a L (if g L = 1 then a L + 1 else a L)) (nu b L (if g L = 2 then b L + 1 else b L)) s f (nu p M (p M + 0)) d)) := by
  refine CM_in (ls := [some (ar 79), some (ai (nI k)), some (ai (nI 1))]) rfl ?_
  refine gA_n (by omega) (by omega) ?_
  refine gB_n (by omega) ?_
  refine gC_n (by omega) ?_
  exact gD_n (FRg.refl σ) hL hM hk hl hm hg (by omega) hfl (by omega) (by omega)
set_option maxRecDepth 20000 in
set_option maxHeartbeats 2000000 in
theorem goesOn_5 {k : Nat} {c d : Nat → Nat} {σ : Sg} (hL : LTr σ (Lc c k) (gr c k) (o1 c k) (o2 c k)) (hM : MTr σ (Mc c k) (fs c k) (fl c k) (pl c k) (db c d k)) (hk : k < 160) (hc5 : ∀ j, c j ≤ 5) (hc : c k = 5) : CM mX10_goesOn [ar 79, ai (nI k), ai (nI (c k))] σ (RelV (fun σ' => GO σ σ' k (Lc c (k + 1)) (Mc c (k + 1)) (gr c (k + 1)) (o1 c (k + 1)) (o2 c (k + 1)) (fs c (k + 1)) (fl c (k + 1)) (pl c (k + 1)) (dbh c d k))) := by
  have bLM := Mc_le c k
  rw [hc]
  refine CM.mono (gx5 hL hM hk (by omega) (by omega)) ?_
  rintro w σ' ⟨hw, hG⟩
  refine ⟨hw, hG.cong ?_ ?_ (by omega) (by omega) (fun l hl => ?_) (fun l hl => ?_) (fun l hl => ?_) (fun m hm => ?_) (fun m hm => ?_) (fun m hm => ?_) (fun m hm => ?_)⟩
  · simp [Lc, hc]
  · simp [Mc, hc]
  · simp only [gr, hc, nu]; by_cases e : l = Lc c k <;> simp [e]
  · simp only [o1, hc, nu]; by_cases e : l = Lc c k <;> simp [e]
  · simp only [o2, hc, nu]; by_cases e : l = Lc c k <;> simp [e]
  · simp only [fs, hc, nu]; by_cases e : m = Mc c k <;> simp [e]
  · simp only [fl, hc, nu]; by_cases e : m = Mc c k <;> simp [e]
  · simp only [pl, hc, nu]; by_cases e : m = Mc c k <;> simp [e]
  · simp only [dbh, hc, nu]; by_cases e : m = Mc c k <;> simp [e]
set_option maxRecDepth 20000 in
set_option maxHeartbeats 2000000 in
theorem goesOn_4 {k : Nat} {c d : Nat → Nat} {σ : Sg} (hL : LTr σ (Lc c k) (gr c k) (o1 c k) (o2 c k)) (hM : MTr σ (Mc c k) (fs c k) (fl c k) (pl c k) (db c d k)) (hk : k < 160) (hc5 : ∀ j, c j ≤ 5) (hc : c k = 4) (hM0 : 1 ≤ Mc c k) : CM mX10_goesOn [ar 79, ai (nI k), ai (nI (c k))] σ (RelV (fun σ' => GO σ σ' k (Lc c (k + 1)) (Mc c (k + 1)) (gr c (k + 1)) (o1 c (k + 1)) (o2 c (k + 1)) (fs c (k + 1)) (fl c (k + 1)) (pl c (k + 1)) (dbh c d k))) := by
  have bLM := Mc_le c k
  obtain ⟨M, eM⟩ : ∃ M, Mc c k = M + 1 := ⟨Mc c k - 1, by omega⟩
  have f1 := flL c hc5 k M (by omega)
  have f2 := ln_pos c k M (by omega)
  rw [eM] at hM
  rw [hc]
  refine CM.mono (gx4 hL hM hk (by omega) (by omega) (by omega)) ?_
  rintro w σ' ⟨hw, hG⟩
  refine ⟨hw, hG.cong ?_ ?_ (by omega) (by omega) (fun l hl => ?_) (fun l hl => ?_) (fun l hl => ?_) (fun m hm => ?_) (fun m hm => ?_) (fun m hm => ?_) (fun m hm => ?_)⟩
  · simp [Lc, hc]
  · simp [Mc, hc, eM]
  · simp only [gr, hc, nu]; by_cases e : l = Lc c k <;> simp [e]
  · simp only [o1, hc, nu]; by_cases e : l = Lc c k <;> simp [e]
  · simp only [o2, hc, nu]; by_cases e : l = Lc c k <;> simp [e]
  · simp [fs, hc]
  · simp [fl, hc]
  · simp only [pl, hc, nu, eM]; by_cases e : m = M <;> simp [e]
  · simp [dbh, hc]
set_option maxRecDepth 20000 in
set_option maxHeartbeats 2000000 in
theorem goesOn_3 {k : Nat} {c d : Nat → Nat} {σ : Sg} (hL : LTr σ (Lc c k) (gr c k) (o1 c k) (o2 c k)) (hM : MTr σ (Mc c k) (fs c k) (fl c k) (pl c k) (db c d k)) (hk : k < 160) (hc5 : ∀ j, c j ≤ 5) (hc : c k = 3) (hM0 : 1 ≤ Mc c k) : CM mX10_goesOn [ar 79, ai (nI k), ai (nI (c k))] σ (RelV (fun σ' => GO σ σ' k (Lc c (k + 1)) (Mc c (k + 1)) (gr c (k + 1)) (o1 c (k + 1)) (o2 c (k + 1)) (fs c (k + 1)) (fl c (k + 1)) (pl c (k + 1)) (dbh c d k))) := by
  have bLM := Mc_le c k
  obtain ⟨L, eL⟩ : ∃ L, Lc c k = L + 1 := ⟨Lc c k - 1, by omega⟩
  have g1 := gr_pos c k L (by omega)
  have g2 := gr_le c k L
  rw [eL] at hL
  obtain ⟨M, eM⟩ : ∃ M, Mc c k = M + 1 := ⟨Mc c k - 1, by omega⟩
  have f1 := flL c hc5 k M (by omega)
  have f2 := ln_pos c k M (by omega)
  rw [eM] at hM
  rw [hc]
  refine CM.mono (gx3 hL hM hk (by omega) (by omega) g1 (by omega) (by omega)) ?_
  rintro w σ' ⟨hw, hG⟩
  refine ⟨hw, hG.cong ?_ ?_ (by omega) (by omega) (fun l hl => ?_) (fun l hl => ?_) (fun l hl => ?_) (fun m hm => ?_) (fun m hm => ?_) (fun m hm => ?_) (fun m hm => ?_)⟩
  · simp [Lc, hc, eL]
  · simp [Mc, hc, eM]
  · simp only [gr, hc, nu, eL]; by_cases e : l = L <;> simp [e]
  · simp only [o1, hc, nu, eL]; by_cases e : l = L <;> simp [e] <;> omega
  · simp only [o2, hc, nu, eL]; by_cases e : l = L <;> simp [e]
  · simp [fs, hc]
  · simp [fl, hc]
  · simp only [pl, hc, nu, eM]; by_cases e : m = M <;> simp [e]
  · simp [dbh, hc]
set_option maxRecDepth 20000 in
set_option maxHeartbeats 2000000 in
theorem goesOn_1 {k : Nat} {c d : Nat → Nat} {σ : Sg} (hL : LTr σ (Lc c k) (gr c k) (o1 c k) (o2 c k)) (hM : MTr σ (Mc c k) (fs c k) (fl c k) (pl c k) (db c d k)) (hk : k < 160) (hc5 : ∀ j, c j ≤ 5) (hc : c k = 1) (hM0 : 1 ≤ Mc c k) : CM mX10_goesOn [ar 79, ai (nI k), ai (nI (c k))] σ (RelV (fun σ' => GO σ σ' k (Lc c (k + 1)) (Mc c (k + 1)) (gr c (k + 1)) (o1 c (k + 1)) (o2 c (k + 1)) (fs c (k + 1)) (fl c (k + 1)) (pl c (k + 1)) (dbh c d k))) := by
  have bLM := Mc_le c k
  obtain ⟨L, eL⟩ : ∃ L, Lc c k = L + 1 := ⟨Lc c k - 1, by omega⟩
  have g1 := gr_pos c k L (by omega)
  have g2 := gr_le c k L
  rw [eL] at hL
  obtain ⟨M, eM⟩ : ∃ M, Mc c k = M + 1 := ⟨Mc c k - 1, by omega⟩
  have f1 := flL c hc5 k M (by omega)
  have f2 := ln_pos c k M (by omega)
  rw [eM] at hM
  rw [hc]
  refine CM.mono (gx1 hL hM hk (by omega) (by omega) g1 (by omega) (by omega)) ?_
  rintro w σ' ⟨hw, hG⟩
  refine ⟨hw, hG.cong ?_ ?_ (by omega) (by omega) (fun l hl => ?_) (fun l hl => ?_) (fun l hl => ?_) (fun m hm => ?_) (fun m hm => ?_) (fun m hm => ?_) (fun m hm => ?_)⟩
  · simp [Lc, hc, eL]
  · simp [Mc, hc, eM]
  · simp [gr, hc]
  · simp only [o1, hc, nu, eL]; by_cases e : l = L <;> simp [e]
  · simp only [o2, hc, nu, eL]; by_cases e : l = L <;> simp [e]
  · simp [fs, hc]
  · simp [fl, hc]
  · simp only [pl, hc, nu, eM]; by_cases e : m = M <;> simp [e]
  · simp [dbh, hc]
set_option maxRecDepth 20000 in
set_option maxHeartbeats 2000000 in
theorem goesOn_2 {k : Nat} {c d : Nat → Nat} {σ : Sg} (hL : LTr σ (Lc c k) (gr c k) (o1 c k) (o2 c k)) (hM : MTr σ (Mc c k) (fs c k) (fl c k) (pl c k) (db c d k)) (hk : k < 160) (hc5 : ∀ j, c j ≤ 5) (hc : c k = 2) (hM0 : 1 ≤ Mc c k) : CM mX10_goesOn [ar 79, ai (nI k), ai (nI (c k))] σ (RelV (fun σ' => GO σ σ' k (Lc c (k + 1)) (Mc c (k + 1)) (gr c (k + 1)) (o1 c (k + 1)) (o2 c (k + 1)) (fs c (k + 1)) (fl c (k + 1)) (pl c (k + 1)) (dbh c d k))) := by
  have bLM := Mc_le c k
  obtain ⟨L, eL⟩ : ∃ L, Lc c k = L + 1 := ⟨Lc c k - 1, by omega⟩
  have g1 := gr_pos c k L (by omega)
  have g2 := gr_le c k L
  rw [eL] at hL
  obtain ⟨M, eM⟩ : ∃ M, Mc c k = M + 1 := ⟨Mc c k - 1, by omega⟩
  have f1 := flL c hc5 k M (by omega)
  have f2 := ln_pos c k M (by omega)
  rw [eM] at hM
  rw [hc]
  refine CM.mono (gx2 hL hM hk (by omega) (by omega) g1 (by omega) (by omega)) ?_
  rintro w σ' ⟨hw, hG⟩
  refine ⟨hw, hG.cong ?_ ?_ (by omega) (by omega) (fun l hl => ?_) (fun l hl => ?_) (fun l hl => ?_) (fun m hm => ?_) (fun m hm => ?_) (fun m hm => ?_) (fun m hm => ?_)⟩
  · simp [Lc, hc, eL]
  · simp [Mc, hc, eM]
  · simp [gr, hc]
  · simp only [o1, hc, nu, eL]; by_cases e : l = L <;> simp [e]
  · simp only [o2, hc, nu, eL]; by_cases e : l = L <;> simp [e]
  · simp [fs, hc]
  · simp [fl, hc]
  · simp only [pl, hc, nu, eM]; by_cases e : m = M <;> simp [e]
  · simp [dbh, hc]
theorem goesOn_r {k : Nat} {c d : Nat → Nat} {σ : Sg} (hL : LTr σ (Lc c k) (gr c k) (o1 c k) (o2 c k)) (hM : MTr σ (Mc c k) (fs c k) (fl c k) (pl c k) (db c d k)) (hk : k < 160) (hc5 : ∀ j, c j ≤ 5) (h0 : c 0 = 5) (h1 : 1 ≤ c k) : CM mX10_goesOn [ar 79, ai (nI k), ai (nI (c k))] σ (RelV (fun σ' => GO σ σ' k (Lc c (k + 1)) (Mc c (k + 1)) (gr c (k + 1)) (o1 c (k + 1)) (o2 c (k + 1)) (fs c (k + 1)) (fl c (k + 1)) (pl c (k + 1)) (dbh c d k))) := by
  by_cases e5 : c k = 5
  · exact goesOn_5 hL hM hk hc5 e5
  · have hp : 1 ≤ Mc c k := by
      rcases Nat.eq_zero_or_pos k with e | e
      · exact absurd (by rw [e]; exact h0) e5
      · obtain ⟨j, rfl⟩ : ∃ j, k = j + 1 := ⟨k - 1, by omega⟩
        exact Mc_pos h0 j
    have h5 := hc5 k
    by_cases e1 : c k = 1
    · exact goesOn_1 hL hM hk hc5 e1 hp
    · by_cases e2 : c k = 2
      · exact goesOn_2 hL hM hk hc5 e2 hp
      · by_cases e3 : c k = 3
        · exact goesOn_3 hL hM hk hc5 e3 hp
        · exact goesOn_4 hL hM hk hc5 (by omega) hp
