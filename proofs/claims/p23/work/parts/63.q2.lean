/-! THE CLASS: out of the rows of whole -/
theorem pig : ∀ n m : Nat, ∀ f : Nat → Nat, (∀ i, i < n → f i < m) → (∀ i j, i < n → j < n → f i = f j → i = j) → n ≤ m
  | 0, m, _, _, _ => Nat.zero_le m
  | n + 1, 0, f, h, _ => absurd (h 0 (by omega)) (Nat.not_lt_zero _)
  | n + 1, m + 1, f, h, hi => by
    refine Nat.succ_le_succ (pig n m (fun i => if f i = m then f n else f i) (fun i hn => ?_) (fun i j hin hjn e => ?_))
    · show (if f i = m then f n else f i) < m
      have h1 := h i (by omega)
      have h2 := h n (by omega)
      by_cases e : f i = m
      · rw [if_pos e]
        have : f n ≠ m := fun q => by
          have := hi i n (by omega) (by omega) (e.trans q.symm)
          omega
        omega
      · rw [if_neg e]; omega
    · have e : (if f i = m then f n else f i) = (if f j = m then f n else f j) := e
      by_cases e1 : f i = m
      · by_cases e2 : f j = m
        · exact hi i j (by omega) (by omega) (e1.trans e2.symm)
        · rw [if_pos e1, if_neg e2] at e
          have := hi n j (by omega) (by omega) e
          omega
      · by_cases e2 : f j = m
        · rw [if_neg e1, if_pos e2] at e
          have := hi i n (by omega) (by omega) e
          omega
        · rw [if_neg e1, if_neg e2] at e
          exact hi i j (by omega) (by omega) e
theorem perm_hit {cf : Nat → Nat} (h : ∀ l, l < 25 → cf l < 25) (hi : ∀ l m, l < 25 → m < 25 → cf l = cf m → l = m) {x : Nat} (hx : x < 25) : ∃ l, l < 25 ∧ cf l = x := by
  refine Classical.byContradiction fun q => ?_
  have hne : ∀ l, l < 25 → cf l ≠ x := fun l hl e => q ⟨l, hl, e⟩
  have h3 := pig 25 24 (fun i => if cf i = 24 then x else cf i) (fun i hn => ?_) (fun i j hin hjn e => ?_)
  · omega
  · show (if cf i = 24 then x else cf i) < 24
    have h1 := h i hn
    have h2 := hne i hn
    by_cases e : cf i = 24
    · rw [if_pos e]; omega
    · rw [if_neg e]; omega
  · have e : (if cf i = 24 then x else cf i) = (if cf j = 24 then x else cf j) := e
    by_cases e1 : cf i = 24
    · by_cases e2 : cf j = 24
      · exact hi i j hin hjn (e1.trans e2.symm)
      · rw [if_pos e1, if_neg e2] at e
        exact absurd e.symm (hne j hjn)
    · by_cases e2 : cf j = 24
      · rw [if_neg e1, if_pos e2] at e
        exact absurd e (hne i hin)
      · rw [if_neg e1, if_neg e2] at e
        exact hi i j hin hjn e
set_option maxRecDepth 20000 in
set_option maxHeartbeats 2000000 in
theorem hasMessage_T {m M : Nat} {σ : Sg} (hM : σ 45 7 = nI M) (hM1 : M ≤ 160) (hm : m < M) : CM mX6_hasMessage [ar 33, ai (nI m)] σ (Ret (nI 1) σ) := by
  refine CM_in (ls := [some (ar 33), some (ai (nI m))]) rfl ?_
  refine g_iload_n (p0 := 1) (i := 1) dX6_hasMessage_0 rfl rfl rfl ?_
  first | ((with_reducible refine isN1 ?_); refine g_ifN_lt (tgt := 19) (p1 := 4) dX6_hasMessage_1 rfl (by omega) rfl (fun c_1 => by exfalso; first | omega | contradiction | exact absurd (by assumption) c_1 | (simp_all; done)) (fun c_1 => ?_)) | refine g_if_lt (tgt := 19) (p1 := 4) dX6_hasMessage_1 rfl rfl (fun c_1 => by exfalso; first | omega | contradiction | exact absurd (by assumption) c_1 | (simp_all; done)) (fun c_1 => ?_)
  refine g_iload_n (p0 := 5) (i := 1) dX6_hasMessage_4 rfl rfl rfl ?_
  refine g_aload_n (p0 := 6) (i := 0) dX6_hasMessage_5 rfl rfl rfl ?_
  refine g_getR (p0 := 9) dX6_hasMessage_6 fX6_21 (by first | rfl | assumption | exact RW.s (by assumption) | exact TW.s (by assumption)) rfl rfl ?_
  refine g_getI (p0 := 12) dX6_hasMessage_9 fX6_57 (by first | rfl | assumption | exact RW.s (by assumption) | exact TW.s (by assumption)) rfl (by first | assumption | ((repeat (first | exact up_hit | refine up_nv (by decide) ?_ | refine up_mv (by first | decide | omega) ?_)) <;> first | assumption | rfl)) rfl ?_
  first | ((with_reducible refine isN2 ?_); refine g_icmpN_ge (tgt := 19) (p1 := 15) dX6_hasMessage_12 rfl (by omega) (by omega) rfl (fun c_12 => by exfalso; first | omega | contradiction | exact absurd (by assumption) c_12 | (simp_all; done)) (fun c_12 => ?_)) | refine g_icmp_ge (tgt := 19) (p1 := 15) dX6_hasMessage_12 rfl rfl (fun c_12 => by exfalso; first | omega | contradiction | exact absurd (by assumption) c_12 | (simp_all; done)) (fun c_12 => ?_)
  refine g_iconst (p0 := 16) (v := nI 1) dX6_hasMessage_15 rfl rfl ?_
  refine g_goto (tgt := 20) dX6_hasMessage_16 rfl ?_
  refine g_ireturn dX6_hasMessage_20 rfl (by first | rfl | exact bool_narrow (by first | exact Or.inl rfl | exact Or.inr rfl | assumption | (split <;> first | exact Or.inl rfl | exact Or.inr rfl))) (?_)
  exact ⟨rfl, rfl⟩
set_option maxRecDepth 20000 in
set_option maxHeartbeats 2000000 in
theorem hasMessage_F1 {x : Int32} {σ : Sg} (h : x < 0) : CM mX6_hasMessage [ar 33, ai x] σ (Ret (nI 0) σ) := by
  refine CM_in (ls := [some (ar 33), some (ai x)]) rfl ?_
  refine g_iload_n (p0 := 1) (i := 1) dX6_hasMessage_0 rfl rfl rfl ?_
  first | ((with_reducible refine isN1 ?_); refine g_ifN_lt (tgt := 19) (p1 := 4) dX6_hasMessage_1 rfl (by omega) rfl (fun c_1 => ?_) (fun c_1 => by exfalso; first | omega | contradiction | exact absurd (by assumption) c_1 | (simp_all; done))) | refine g_if_lt (tgt := 19) (p1 := 4) dX6_hasMessage_1 rfl rfl (fun c_1 => ?_) (fun c_1 => by exfalso; first | omega | contradiction | exact absurd (by assumption) c_1 | (simp_all; done))
  refine g_iconst (p0 := 20) (v := nI 0) dX6_hasMessage_19 rfl rfl ?_
  refine g_ireturn dX6_hasMessage_20 rfl (by first | rfl | exact bool_narrow (by first | exact Or.inl rfl | exact Or.inr rfl | assumption | (split <;> first | exact Or.inl rfl | exact Or.inr rfl))) (?_)
  exact ⟨rfl, rfl⟩
set_option maxRecDepth 20000 in
set_option maxHeartbeats 2000000 in
theorem hasMessage_F2 {m M : Nat} {σ : Sg} (hM : σ 45 7 = nI M) (hM1 : M ≤ 160) (hm : M ≤ m) (hj : m < 2147483648) : CM mX6_hasMessage [ar 33, ai (nI m)] σ (Ret (nI 0) σ) := by
  refine CM_in (ls := [some (ar 33), some (ai (nI m))]) rfl ?_
  refine g_iload_n (p0 := 1) (i := 1) dX6_hasMessage_0 rfl rfl rfl ?_
  first | ((with_reducible refine isN1 ?_); refine g_ifN_lt (tgt := 19) (p1 := 4) dX6_hasMessage_1 rfl (by omega) rfl (fun c_1 => by exfalso; first | omega | contradiction | exact absurd (by assumption) c_1 | (simp_all; done)) (fun c_1 => ?_)) | refine g_if_lt (tgt := 19) (p1 := 4) dX6_hasMessage_1 rfl rfl (fun c_1 => by exfalso; first | omega | contradiction | exact absurd (by assumption) c_1 | (simp_all; done)) (fun c_1 => ?_)
  refine g_iload_n (p0 := 5) (i := 1) dX6_hasMessage_4 rfl rfl rfl ?_
  refine g_aload_n (p0 := 6) (i := 0) dX6_hasMessage_5 rfl rfl rfl ?_
  refine g_getR (p0 := 9) dX6_hasMessage_6 fX6_21 (by first | rfl | assumption | exact RW.s (by assumption) | exact TW.s (by assumption)) rfl rfl ?_
  refine g_getI (p0 := 12) dX6_hasMessage_9 fX6_57 (by first | rfl | assumption | exact RW.s (by assumption) | exact TW.s (by assumption)) rfl (by first | assumption | ((repeat (first | exact up_hit | refine up_nv (by decide) ?_ | refine up_mv (by first | decide | omega) ?_)) <;> first | assumption | rfl)) rfl ?_
  first | ((with_reducible refine isN2 ?_); refine g_icmpN_ge (tgt := 19) (p1 := 15) dX6_hasMessage_12 rfl (by omega) (by omega) rfl (fun c_12 => ?_) (fun c_12 => by exfalso; first | omega | contradiction | exact absurd (by assumption) c_12 | (simp_all; done))) | refine g_icmp_ge (tgt := 19) (p1 := 15) dX6_hasMessage_12 rfl rfl (fun c_12 => ?_) (fun c_12 => by exfalso; first | omega | contradiction | exact absurd (by assumption) c_12 | (simp_all; done))
  refine g_iconst (p0 := 20) (v := nI 0) dX6_hasMessage_19 rfl rfl ?_
  refine g_ireturn dX6_hasMessage_20 rfl (by first | rfl | exact bool_narrow (by first | exact Or.inl rfl | exact Or.inr rfl | assumption | (split <;> first | exact Or.inl rfl | exact Or.inr rfl))) (?_)
  exact ⟨rfl, rfl⟩

