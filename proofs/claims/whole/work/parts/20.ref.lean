/-! THE REFERENCE: its rows of ints -/
set_option maxRecDepth 20000 in
set_option maxHeartbeats 2000000 in
theorem in_T {x a b : Int32} {σ : Sg} (h1 : ¬ x < a) (h2 : ¬ b < x) : CM mX10_in [ai x, ai a, ai b] σ (Ret (nI 1) σ) := by
  refine CM_in (ls := [some (ai x), some (ai a), some (ai b)]) rfl ?_
  refine g_iload_n (p0 := 1) (i := 0) dX10_in_0 rfl rfl rfl ?_
  refine g_iload_n (p0 := 2) (i := 1) dX10_in_1 rfl rfl rfl ?_
  first | ((with_reducible refine isN2 ?_); refine g_icmpN_lt (tgt := 14) (p1 := 5) dX10_in_2 rfl (by omega) (by omega) rfl (fun c_2 => by exfalso; first | omega | contradiction | exact absurd (by assumption) c_2 | (simp_all; done)) (fun c_2 => ?_)) | refine g_icmp_lt (tgt := 14) (p1 := 5) dX10_in_2 rfl rfl (fun c_2 => by exfalso; first | omega | contradiction | exact absurd (by assumption) c_2 | (simp_all; done)) (fun c_2 => ?_)
  refine g_iload_n (p0 := 6) (i := 0) dX10_in_5 rfl rfl rfl ?_
  refine g_iload_n (p0 := 7) (i := 2) dX10_in_6 rfl rfl rfl ?_
  first | ((with_reducible refine isN2 ?_); refine g_icmpN_gt (tgt := 14) (p1 := 10) dX10_in_7 rfl (by omega) (by omega) rfl (fun c_7 => by exfalso; first | omega | contradiction | exact absurd (by assumption) c_7 | (simp_all; done)) (fun c_7 => ?_)) | refine g_icmp_gt (tgt := 14) (p1 := 10) dX10_in_7 rfl rfl (fun c_7 => by exfalso; first | omega | contradiction | exact absurd (by assumption) c_7 | (simp_all; done)) (fun c_7 => ?_)
  refine g_iconst (p0 := 11) (v := nI 1) dX10_in_10 rfl rfl ?_
  refine g_goto (tgt := 15) dX10_in_11 rfl ?_
  refine g_ireturn dX10_in_15 rfl (by first | rfl | exact bool_narrow (by first | exact Or.inl rfl | exact Or.inr rfl | assumption | (split <;> first | exact Or.inl rfl | exact Or.inr rfl))) (?_)
  exact ⟨rfl, rfl⟩
set_option maxRecDepth 20000 in
set_option maxHeartbeats 2000000 in
theorem in_F1 {x a b : Int32} {σ : Sg} (h1 : x < a) : CM mX10_in [ai x, ai a, ai b] σ (Ret (nI 0) σ) := by
  refine CM_in (ls := [some (ai x), some (ai a), some (ai b)]) rfl ?_
  refine g_iload_n (p0 := 1) (i := 0) dX10_in_0 rfl rfl rfl ?_
  refine g_iload_n (p0 := 2) (i := 1) dX10_in_1 rfl rfl rfl ?_
  first | ((with_reducible refine isN2 ?_); refine g_icmpN_lt (tgt := 14) (p1 := 5) dX10_in_2 rfl (by omega) (by omega) rfl (fun c_2 => ?_) (fun c_2 => by exfalso; first | omega | contradiction | exact absurd (by assumption) c_2 | (simp_all; done))) | refine g_icmp_lt (tgt := 14) (p1 := 5) dX10_in_2 rfl rfl (fun c_2 => ?_) (fun c_2 => by exfalso; first | omega | contradiction | exact absurd (by assumption) c_2 | (simp_all; done))
  refine g_iconst (p0 := 15) (v := nI 0) dX10_in_14 rfl rfl ?_
  refine g_ireturn dX10_in_15 rfl (by first | rfl | exact bool_narrow (by first | exact Or.inl rfl | exact Or.inr rfl | assumption | (split <;> first | exact Or.inl rfl | exact Or.inr rfl))) (?_)
  exact ⟨rfl, rfl⟩
set_option maxRecDepth 20000 in
set_option maxHeartbeats 2000000 in
theorem in_F2 {x a b : Int32} {σ : Sg} (h1 : ¬ x < a) (h2 : b < x) : CM mX10_in [ai x, ai a, ai b] σ (Ret (nI 0) σ) := by
  refine CM_in (ls := [some (ai x), some (ai a), some (ai b)]) rfl ?_
  refine g_iload_n (p0 := 1) (i := 0) dX10_in_0 rfl rfl rfl ?_
  refine g_iload_n (p0 := 2) (i := 1) dX10_in_1 rfl rfl rfl ?_
  first | ((with_reducible refine isN2 ?_); refine g_icmpN_lt (tgt := 14) (p1 := 5) dX10_in_2 rfl (by omega) (by omega) rfl (fun c_2 => by exfalso; first | omega | contradiction | exact absurd (by assumption) c_2 | (simp_all; done)) (fun c_2 => ?_)) | refine g_icmp_lt (tgt := 14) (p1 := 5) dX10_in_2 rfl rfl (fun c_2 => by exfalso; first | omega | contradiction | exact absurd (by assumption) c_2 | (simp_all; done)) (fun c_2 => ?_)
  refine g_iload_n (p0 := 6) (i := 0) dX10_in_5 rfl rfl rfl ?_
  refine g_iload_n (p0 := 7) (i := 2) dX10_in_6 rfl rfl rfl ?_
  first | ((with_reducible refine isN2 ?_); refine g_icmpN_gt (tgt := 14) (p1 := 10) dX10_in_7 rfl (by omega) (by omega) rfl (fun c_7 => ?_) (fun c_7 => by exfalso; first | omega | contradiction | exact absurd (by assumption) c_7 | (simp_all; done))) | refine g_icmp_gt (tgt := 14) (p1 := 10) dX10_in_7 rfl rfl (fun c_7 => ?_) (fun c_7 => by exfalso; first | omega | contradiction | exact absurd (by assumption) c_7 | (simp_all; done))
  refine g_iconst (p0 := 15) (v := nI 0) dX10_in_14 rfl rfl ?_
  refine g_ireturn dX10_in_15 rfl (by first | rfl | exact bool_narrow (by first | exact Or.inl rfl | exact Or.inr rfl | assumption | (split <;> first | exact Or.inl rfl | exact Or.inr rfl))) (?_)
  exact ⟨rfl, rfl⟩
set_option maxRecDepth 20000 in
set_option maxHeartbeats 2000000 in
theorem isLetter_T {j : Nat} {σ : Sg} (hj : j < 25) : CM mX10_isLetter [ai (nI j)] σ (Ret (nI 1) σ) := by
  refine CM_in (ls := [some (ai (nI j))]) rfl ?_
  refine g_iload_n (p0 := 1) (i := 0) dX10_isLetter_0 rfl rfl rfl ?_
  refine g_iconst (p0 := 2) (v := nI 0) dX10_isLetter_1 rfl rfl ?_
  refine g_bipush (p0 := 4) (v := nI 24) dX10_isLetter_2 (by decide) rfl ?_
  refine g_cS3R (p0 := 7) (r1 := mX10_in) dX10_isLetter_4 (Or.inl lX10_65) vX10_in (FITi rfl rfl) (Nat.le_of_ble_eq_true rfl) (in_T (nI_nlt (by omega) (by omega)) (nI_nlt (by omega) (by omega))) rfl ?_
  refine g_ireturn dX10_isLetter_7 rfl (by first | rfl | exact bool_narrow (by first | exact Or.inl rfl | exact Or.inr rfl | assumption | (split <;> first | exact Or.inl rfl | exact Or.inr rfl))) (?_)
  exact ⟨rfl, rfl⟩
set_option maxRecDepth 20000 in
set_option maxHeartbeats 2000000 in
theorem isLetter_F {x : Int32} {σ : Sg} (h : x < nI 0 ∨ nI 24 < x) : CM mX10_isLetter [ai x] σ (Ret (nI 0) σ) := by
  refine CM_in (ls := [some (ai x)]) rfl ?_
  refine g_iload_n (p0 := 1) (i := 0) dX10_isLetter_0 rfl rfl rfl ?_
  refine g_iconst (p0 := 2) (v := nI 0) dX10_isLetter_1 rfl rfl ?_
  refine g_bipush (p0 := 4) (v := nI 24) dX10_isLetter_2 (by decide) rfl ?_
  refine g_cS3R (p0 := 7) (r1 := mX10_in) dX10_isLetter_4 (Or.inl lX10_65) vX10_in (FITi rfl rfl) (Nat.le_of_ble_eq_true rfl) (by rcases Classical.em (x < nI 0) with q | q; exact in_F1 q; exact in_F2 q (h.resolve_left q)) rfl ?_
  refine g_ireturn dX10_isLetter_7 rfl (by first | rfl | exact bool_narrow (by first | exact Or.inl rfl | exact Or.inr rfl | assumption | (split <;> first | exact Or.inl rfl | exact Or.inr rfl))) (?_)
  exact ⟨rfl, rfl⟩
set_option maxRecDepth 20000 in
set_option maxHeartbeats 2000000 in
theorem isStroke_T {j s : Nat} {σ : Sg} (hs : σ 80 3 = nI s) (hs1 : s ≤ 160) (hj : j < s) : CM mX10_isStroke [ar 79, ai (nI j)] σ (Ret (nI 1) σ) := by
  refine CM_in (ls := [some (ar 79), some (ai (nI j))]) rfl ?_
  refine g_iload_n (p0 := 1) (i := 1) dX10_isStroke_0 rfl rfl rfl ?_
  first | ((with_reducible refine isN1 ?_); refine g_ifN_lt (tgt := 18) (p1 := 4) dX10_isStroke_1 rfl (by omega) rfl (fun c_1 => by exfalso; first | omega | contradiction | exact absurd (by assumption) c_1 | (simp_all; done)) (fun c_1 => ?_)) | refine g_if_lt (tgt := 18) (p1 := 4) dX10_isStroke_1 rfl rfl (fun c_1 => by exfalso; first | omega | contradiction | exact absurd (by assumption) c_1 | (simp_all; done)) (fun c_1 => ?_)
  refine g_iload_n (p0 := 5) (i := 1) dX10_isStroke_4 rfl rfl rfl ?_
  refine g_aload_n (p0 := 6) (i := 0) dX10_isStroke_5 rfl rfl rfl ?_
  refine g_getR (p0 := 9) dX10_isStroke_6 fX10_7 (by first | rfl | assumption | exact RW.s (by assumption) | exact TW.s (by assumption)) rfl rfl ?_
  refine g_iconst (p0 := 10) (v := nI 3) dX10_isStroke_9 rfl rfl ?_
  first | ((with_reducible refine isN1 ?_); refine g_aldN (p0 := 11) dX10_isStroke_10 (by first | rfl | assumption | exact RW.s (by assumption) | exact TW.s (by assumption)) (by first | decide | assumption) (by omega) (by first | assumption | exact up_hit | exact up_nv (by omega) (by assumption) | exact up_mv (by omega) (by assumption) | exact up_nv (by omega) (up_nv (by omega) (by assumption)) | exact up_nv (by omega) up_hit | rfl) rfl ?_) | refine g_ald (p0 := 11) dX10_isStroke_10 (by first | rfl | assumption | exact RW.s (by assumption) | exact TW.s (by assumption)) (by assumption) (by first | assumption | exact up_hit | exact up_nv (by omega) (by assumption) | exact up_mv (by omega) (by assumption) | exact up_nv (by omega) (up_nv (by omega) (by assumption)) | exact up_nv (by omega) up_hit | rfl) rfl ?_
  first | ((with_reducible refine isN2 ?_); refine g_icmpN_ge (tgt := 18) (p1 := 14) dX10_isStroke_11 rfl (by omega) (by omega) rfl (fun c_11 => by exfalso; first | omega | contradiction | exact absurd (by assumption) c_11 | (simp_all; done)) (fun c_11 => ?_)) | refine g_icmp_ge (tgt := 18) (p1 := 14) dX10_isStroke_11 rfl rfl (fun c_11 => by exfalso; first | omega | contradiction | exact absurd (by assumption) c_11 | (simp_all; done)) (fun c_11 => ?_)
  refine g_iconst (p0 := 15) (v := nI 1) dX10_isStroke_14 rfl rfl ?_
  refine g_goto (tgt := 19) dX10_isStroke_15 rfl ?_
  refine g_ireturn dX10_isStroke_19 rfl (by first | rfl | exact bool_narrow (by first | exact Or.inl rfl | exact Or.inr rfl | assumption | (split <;> first | exact Or.inl rfl | exact Or.inr rfl))) (?_)
  exact ⟨rfl, rfl⟩
set_option maxRecDepth 20000 in
set_option maxHeartbeats 2000000 in
theorem isStroke_F1 {x : Int32} {σ : Sg} (h : x < 0) : CM mX10_isStroke [ar 79, ai x] σ (Ret (nI 0) σ) := by
  refine CM_in (ls := [some (ar 79), some (ai x)]) rfl ?_
  refine g_iload_n (p0 := 1) (i := 1) dX10_isStroke_0 rfl rfl rfl ?_
  first | ((with_reducible refine isN1 ?_); refine g_ifN_lt (tgt := 18) (p1 := 4) dX10_isStroke_1 rfl (by omega) rfl (fun c_1 => ?_) (fun c_1 => by exfalso; first | omega | contradiction | exact absurd (by assumption) c_1 | (simp_all; done))) | refine g_if_lt (tgt := 18) (p1 := 4) dX10_isStroke_1 rfl rfl (fun c_1 => ?_) (fun c_1 => by exfalso; first | omega | contradiction | exact absurd (by assumption) c_1 | (simp_all; done))
  refine g_iconst (p0 := 19) (v := nI 0) dX10_isStroke_18 rfl rfl ?_
  refine g_ireturn dX10_isStroke_19 rfl (by first | rfl | exact bool_narrow (by first | exact Or.inl rfl | exact Or.inr rfl | assumption | (split <;> first | exact Or.inl rfl | exact Or.inr rfl))) (?_)
  exact ⟨rfl, rfl⟩
set_option maxRecDepth 20000 in
set_option maxHeartbeats 2000000 in
theorem isStroke_F2 {x : Int32} {s : Nat} {σ : Sg} (hs : σ 80 3 = nI s) (h0 : ¬ x < 0) (h : nI s ≤ x) : CM mX10_isStroke [ar 79, ai x] σ (Ret (nI 0) σ) := by
  refine CM_in (ls := [some (ar 79), some (ai x)]) rfl ?_
  refine g_iload_n (p0 := 1) (i := 1) dX10_isStroke_0 rfl rfl rfl ?_
  first | ((with_reducible refine isN1 ?_); refine g_ifN_lt (tgt := 18) (p1 := 4) dX10_isStroke_1 rfl (by omega) rfl (fun c_1 => by exfalso; first | omega | contradiction | exact absurd (by assumption) c_1 | (simp_all; done)) (fun c_1 => ?_)) | refine g_if_lt (tgt := 18) (p1 := 4) dX10_isStroke_1 rfl rfl (fun c_1 => by exfalso; first | omega | contradiction | exact absurd (by assumption) c_1 | (simp_all; done)) (fun c_1 => ?_)
  refine g_iload_n (p0 := 5) (i := 1) dX10_isStroke_4 rfl rfl rfl ?_
  refine g_aload_n (p0 := 6) (i := 0) dX10_isStroke_5 rfl rfl rfl ?_
  refine g_getR (p0 := 9) dX10_isStroke_6 fX10_7 (by first | rfl | assumption | exact RW.s (by assumption) | exact TW.s (by assumption)) rfl rfl ?_
  refine g_iconst (p0 := 10) (v := nI 3) dX10_isStroke_9 rfl rfl ?_
  first | ((with_reducible refine isN1 ?_); refine g_aldN (p0 := 11) dX10_isStroke_10 (by first | rfl | assumption | exact RW.s (by assumption) | exact TW.s (by assumption)) (by first | decide | assumption) (by omega) (by first | assumption | exact up_hit | exact up_nv (by omega) (by assumption) | exact up_mv (by omega) (by assumption) | exact up_nv (by omega) (up_nv (by omega) (by assumption)) | exact up_nv (by omega) up_hit | rfl) rfl ?_) | refine g_ald (p0 := 11) dX10_isStroke_10 (by first | rfl | assumption | exact RW.s (by assumption) | exact TW.s (by assumption)) (by assumption) (by first | assumption | exact up_hit | exact up_nv (by omega) (by assumption) | exact up_mv (by omega) (by assumption) | exact up_nv (by omega) (up_nv (by omega) (by assumption)) | exact up_nv (by omega) up_hit | rfl) rfl ?_
  first | ((with_reducible refine isN2 ?_); refine g_icmpN_ge (tgt := 18) (p1 := 14) dX10_isStroke_11 rfl (by omega) (by omega) rfl (fun c_11 => ?_) (fun c_11 => by exfalso; first | omega | contradiction | exact absurd (by assumption) c_11 | (simp_all; done))) | refine g_icmp_ge (tgt := 18) (p1 := 14) dX10_isStroke_11 rfl rfl (fun c_11 => ?_) (fun c_11 => by exfalso; first | omega | contradiction | exact absurd (by assumption) c_11 | (simp_all; done))
  refine g_iconst (p0 := 19) (v := nI 0) dX10_isStroke_18 rfl rfl ?_
  refine g_ireturn dX10_isStroke_19 rfl (by first | rfl | exact bool_narrow (by first | exact Or.inl rfl | exact Or.inr rfl | assumption | (split <;> first | exact Or.inl rfl | exact Or.inr rfl))) (?_)
  exact ⟨rfl, rfl⟩
set_option maxRecDepth 20000 in
set_option maxHeartbeats 2000000 in
theorem rrowOf_sp {c : Nat} {σ : Sg} (hc : c < 25) : CM mX10_rowOf [ai (nI c)] σ (Ret (nI (c / 5 + 1)) σ) := by
  refine CM_in (ls := [some (ai (nI c))]) rfl ?_
  refine g_iload_n (p0 := 1) (i := 0) dX10_rowOf_0 rfl rfl rfl ?_
  refine g_iconst (p0 := 2) (v := nI 5) dX10_rowOf_1 rfl rfl ?_
  first | ((with_reducible refine isN2 ?_); refine g_idivN (p0 := 3) dX10_rowOf_2 (by omega) (by omega) (by omega) rfl ?_) | refine g_idiv (p0 := 3) dX10_rowOf_2 (by decide) rfl ?_
  refine g_iconst (p0 := 4) (v := nI 1) dX10_rowOf_3 rfl rfl ?_
  first | ((with_reducible refine isN2 ?_); refine g_iaddN (p0 := 5) dX10_rowOf_4 rfl ?_) | refine g_iadd (p0 := 5) dX10_rowOf_4 rfl ?_
  refine g_ireturn dX10_rowOf_5 rfl rfl (?_)
  exact ⟨rfl, rfl⟩
set_option maxRecDepth 20000 in
set_option maxHeartbeats 2000000 in
theorem rcolumnOf_sp {c : Nat} {σ : Sg} (hc : c < 25) : CM mX10_columnOf [ai (nI c)] σ (Ret (nI (c % 5 + 1)) σ) := by
  refine CM_in (ls := [some (ai (nI c))]) rfl ?_
  refine g_iload_n (p0 := 1) (i := 0) dX10_columnOf_0 rfl rfl rfl ?_
  refine g_iconst (p0 := 2) (v := nI 5) dX10_columnOf_1 rfl rfl ?_
  first | ((with_reducible refine isN2 ?_); refine g_iremN (p0 := 3) dX10_columnOf_2 (by omega) (by omega) (by omega) rfl ?_) | refine g_irem (p0 := 3) dX10_columnOf_2 (by decide) rfl ?_
  refine g_iconst (p0 := 4) (v := nI 1) dX10_columnOf_3 rfl rfl ?_
  first | ((with_reducible refine isN2 ?_); refine g_iaddN (p0 := 5) dX10_columnOf_4 rfl ?_) | refine g_iadd (p0 := 5) dX10_columnOf_4 rfl ?_
  refine g_ireturn dX10_columnOf_5 rfl rfl (?_)
  exact ⟨rfl, rfl⟩
set_option maxRecDepth 20000 in
set_option maxHeartbeats 2000000 in
theorem toldPlace_sp {j c : Nat} {σ : Sg} (hj : j < 25) (hv : σ 80 (4 + j) = nI c) (hc : c < 25) : CM mX10_toldPlace [ar 79, ai (nI j)] σ (Ret (nI (10 * (c / 5 + 1) + (c % 5 + 1))) σ) := by
  refine CM_in (ls := [some (ar 79), some (ai (nI j))]) rfl ?_
  refine g_bipush (p0 := 2) (v := nI 10) dX10_toldPlace_0 (by decide) rfl ?_
  refine g_aload_n (p0 := 3) (i := 0) dX10_toldPlace_2 rfl rfl rfl ?_
  refine g_getR (p0 := 6) dX10_toldPlace_3 fX10_7 (by first | rfl | assumption | exact RW.s (by assumption) | exact TW.s (by assumption)) rfl rfl ?_
  refine g_iconst (p0 := 7) (v := nI 4) dX10_toldPlace_6 rfl rfl ?_
  refine g_iload_n (p0 := 8) (i := 1) dX10_toldPlace_7 rfl rfl rfl ?_
  first | ((with_reducible refine isN2 ?_); refine g_iaddN (p0 := 9) dX10_toldPlace_8 rfl ?_) | refine g_iadd (p0 := 9) dX10_toldPlace_8 rfl ?_
  first | ((with_reducible refine isN1 ?_); refine g_aldN (p0 := 10) dX10_toldPlace_9 (by first | rfl | assumption | exact RW.s (by assumption) | exact TW.s (by assumption)) (by first | decide | assumption) (by omega) (by first | assumption | exact up_hit | exact up_nv (by omega) (by assumption) | exact up_mv (by omega) (by assumption) | exact up_nv (by omega) (up_nv (by omega) (by assumption)) | exact up_nv (by omega) up_hit | rfl) rfl ?_) | refine g_ald (p0 := 10) dX10_toldPlace_9 (by first | rfl | assumption | exact RW.s (by assumption) | exact TW.s (by assumption)) (by assumption) (by first | assumption | exact up_hit | exact up_nv (by omega) (by assumption) | exact up_mv (by omega) (by assumption) | exact up_nv (by omega) (up_nv (by omega) (by assumption)) | exact up_nv (by omega) up_hit | rfl) rfl ?_
  refine g_cS1R (p0 := 13) (r1 := mX10_rowOf) dX10_toldPlace_10 (Or.inl lX10_69) vX10_rowOf (FITi rfl rfl) (Nat.le_of_ble_eq_true rfl) (rrowOf_sp (by first | assumption | omega)) rfl ?_
  first | ((with_reducible refine isN2 ?_); refine g_imulN (p0 := 14) dX10_toldPlace_13 rfl ?_) | refine g_imul (p0 := 14) dX10_toldPlace_13 rfl ?_
  refine g_aload_n (p0 := 15) (i := 0) dX10_toldPlace_14 rfl rfl rfl ?_
  refine g_getR (p0 := 18) dX10_toldPlace_15 fX10_7 (by first | rfl | assumption | exact RW.s (by assumption) | exact TW.s (by assumption)) rfl rfl ?_
  refine g_iconst (p0 := 19) (v := nI 4) dX10_toldPlace_18 rfl rfl ?_
  refine g_iload_n (p0 := 20) (i := 1) dX10_toldPlace_19 rfl rfl rfl ?_
  first | ((with_reducible refine isN2 ?_); refine g_iaddN (p0 := 21) dX10_toldPlace_20 rfl ?_) | refine g_iadd (p0 := 21) dX10_toldPlace_20 rfl ?_
  first | ((with_reducible refine isN1 ?_); refine g_aldN (p0 := 22) dX10_toldPlace_21 (by first | rfl | assumption | exact RW.s (by assumption) | exact TW.s (by assumption)) (by first | decide | assumption) (by omega) (by first | assumption | exact up_hit | exact up_nv (by omega) (by assumption) | exact up_mv (by omega) (by assumption) | exact up_nv (by omega) (up_nv (by omega) (by assumption)) | exact up_nv (by omega) up_hit | rfl) rfl ?_) | refine g_ald (p0 := 22) dX10_toldPlace_21 (by first | rfl | assumption | exact RW.s (by assumption) | exact TW.s (by assumption)) (by assumption) (by first | assumption | exact up_hit | exact up_nv (by omega) (by assumption) | exact up_mv (by omega) (by assumption) | exact up_nv (by omega) (up_nv (by omega) (by assumption)) | exact up_nv (by omega) up_hit | rfl) rfl ?_
  refine g_cS1R (p0 := 25) (r1 := mX10_columnOf) dX10_toldPlace_22 (Or.inl lX10_73) vX10_columnOf (FITi rfl rfl) (Nat.le_of_ble_eq_true rfl) (rcolumnOf_sp (by first | assumption | omega)) rfl ?_
  first | ((with_reducible refine isN2 ?_); refine g_iaddN (p0 := 26) dX10_toldPlace_25 rfl ?_) | refine g_iadd (p0 := 26) dX10_toldPlace_25 rfl ?_
  refine g_ireturn dX10_toldPlace_26 rfl rfl (?_)
  exact ⟨rfl, rfl⟩
set_option maxRecDepth 20000 in
set_option maxHeartbeats 2000000 in
theorem holds_loop {σ : Sg} {Q : SP} (k : Q none (setR σ 82 (cpy (σ 82) (σ 80) 189))) : ∀ m j, j + m = 189 → WM mX10_holds Q 2 [some (ar 79), some (ai (nI j))] [] (setR σ 82 (cpy (σ 82) (σ 80) j)) := by
  intro m
  induction m with
  | zero =>
    intro j hj
    obtain rfl : j = 189 := by omega
    refine g_iload_n (p0 := 3) (i := 1) dX10_holds_2 rfl rfl rfl ?_
    refine g_sipush (p0 := 6) (v := nI 189) dX10_holds_3 (by decide) rfl ?_
    first | ((with_reducible refine isN2 ?_); refine g_icmpN_ge (tgt := 27) (p1 := 9) dX10_holds_6 rfl (by omega) (by omega) rfl (fun c_6 => ?_) (fun c_6 => by exfalso; first | omega | contradiction | exact absurd (by assumption) c_6 | (simp_all; done))) | refine g_icmp_ge (tgt := 27) (p1 := 9) dX10_holds_6 rfl rfl (fun c_6 => ?_) (fun c_6 => by exfalso; first | omega | contradiction | exact absurd (by assumption) c_6 | (simp_all; done))
    refine g_return dX10_holds_27 rfl ?_
    exact k
  | succ m ih =>
    intro j hj
    have e : up (setR σ 82 (cpy (σ 82) (σ 80) j)) 82 j (σ 80 j) = setR σ 82 (cpy (σ 82) (σ 80) (j + 1)) := by
      rw [up_setR, setR_setR, setR_hit, cpy_succ]
    have ev : setR σ 82 (cpy (σ 82) (σ 80) j) 80 j = σ 80 j := by rw [setR_ne (by decide)]
    refine g_iload_n (p0 := 3) (i := 1) dX10_holds_2 rfl rfl rfl ?_
    refine g_sipush (p0 := 6) (v := nI 189) dX10_holds_3 (by decide) rfl ?_
    first | ((with_reducible refine isN2 ?_); refine g_icmpN_ge (tgt := 27) (p1 := 9) dX10_holds_6 rfl (by omega) (by omega) rfl (fun c_6 => by exfalso; first | omega | contradiction | exact absurd (by assumption) c_6 | (simp_all; done)) (fun c_6 => ?_)) | refine g_icmp_ge (tgt := 27) (p1 := 9) dX10_holds_6 rfl rfl (fun c_6 => by exfalso; first | omega | contradiction | exact absurd (by assumption) c_6 | (simp_all; done)) (fun c_6 => ?_)
    refine g_aload_n (p0 := 10) (i := 0) dX10_holds_9 rfl rfl rfl ?_
    refine g_getR (p0 := 13) dX10_holds_10 fX10_16 (by first | rfl | assumption | exact RW.s (by assumption) | exact TW.s (by assumption)) rfl rfl ?_
    refine g_iload_n (p0 := 14) (i := 1) dX10_holds_13 rfl rfl rfl ?_
    refine g_aload_n (p0 := 15) (i := 0) dX10_holds_14 rfl rfl rfl ?_
    refine g_getR (p0 := 18) dX10_holds_15 fX10_7 (by first | rfl | assumption | exact RW.s (by assumption) | exact TW.s (by assumption)) rfl rfl ?_
    refine g_iload_n (p0 := 19) (i := 1) dX10_holds_18 rfl rfl rfl ?_
    first | ((with_reducible refine isN1 ?_); refine g_aldN (p0 := 20) dX10_holds_19 (by first | rfl | assumption | exact RW.s (by assumption) | exact TW.s (by assumption)) (by first | decide | assumption) (by omega) (by first | assumption | exact up_hit | exact up_nv (by omega) (by assumption) | exact up_mv (by omega) (by assumption) | exact up_nv (by omega) (up_nv (by omega) (by assumption)) | exact up_nv (by omega) up_hit | rfl) rfl ?_) | refine g_ald (p0 := 20) dX10_holds_19 (by first | rfl | assumption | exact RW.s (by assumption) | exact TW.s (by assumption)) (by assumption) (by first | assumption | exact up_hit | exact up_nv (by omega) (by assumption) | exact up_mv (by omega) (by assumption) | exact up_nv (by omega) (up_nv (by omega) (by assumption)) | exact up_nv (by omega) up_hit | rfl) rfl ?_
    first | ((with_reducible refine isNS ?_); refine g_astN (p0 := 21) dX10_holds_20 (by first | rfl | assumption | exact RW.s (by assumption) | exact TW.s (by assumption)) (by first | decide | assumption) (by omega) rfl ?_) | refine g_ast (p0 := 21) dX10_holds_20 (by first | rfl | assumption | exact RW.s (by assumption) | exact TW.s (by assumption)) (by assumption) rfl ?_
    first | refine g_iinc1 (p0 := 24) (ls2 := [_, _]) dX10_holds_21 rfl rfl rfl ?_ | refine g_iinc (p0 := 24) (ls2 := [_, _]) dX10_holds_21 rfl rfl rfl rfl ?_
    refine g_goto (tgt := 2) dX10_holds_24 rfl ?_
    rw [e]
    exact ih (j + 1) (by omega)
set_option maxRecDepth 20000 in
set_option maxHeartbeats 2000000 in
theorem holds_sp {σ : Sg} : CM mX10_holds [ar 79] σ (RetV (setR σ 82 (cpy (σ 82) (σ 80) 189))) := by
  refine CM_in (ls := [some (ar 79), none]) rfl ?_
  refine g_iconst (p0 := 1) (v := nI 0) dX10_holds_0 rfl rfl ?_
  refine g_istore_n (p0 := 2) (i := 1) (ls2 := [_, _]) dX10_holds_1 rfl (Nat.le_of_ble_eq_true rfl) rfl rfl ?_
  have h := holds_loop (σ := σ) (Q := RetV (setR σ 82 (cpy (σ 82) (σ 80) 189))) ⟨rfl, rfl⟩ 189 0 (by omega)
  rw [cpy_0, setR_id rfl] at h
  exact h
set_option maxRecDepth 20000 in
set_option maxHeartbeats 2000000 in
theorem lets_loop {σ : Sg} {Q : SP} (k : Q none (setR σ 80 (cpy (σ 80) (σ 82) 189))) : ∀ m j, j + m = 189 → WM mX10_lets Q 2 [some (ar 79), some (ai (nI j))] [] (setR σ 80 (cpy (σ 80) (σ 82) j)) := by
  intro m
  induction m with
  | zero =>
    intro j hj
    obtain rfl : j = 189 := by omega
    refine g_iload_n (p0 := 3) (i := 1) dX10_lets_2 rfl rfl rfl ?_
    refine g_sipush (p0 := 6) (v := nI 189) dX10_lets_3 (by decide) rfl ?_
    first | ((with_reducible refine isN2 ?_); refine g_icmpN_ge (tgt := 27) (p1 := 9) dX10_lets_6 rfl (by omega) (by omega) rfl (fun c_6 => ?_) (fun c_6 => by exfalso; first | omega | contradiction | exact absurd (by assumption) c_6 | (simp_all; done))) | refine g_icmp_ge (tgt := 27) (p1 := 9) dX10_lets_6 rfl rfl (fun c_6 => ?_) (fun c_6 => by exfalso; first | omega | contradiction | exact absurd (by assumption) c_6 | (simp_all; done))
    refine g_return dX10_lets_27 rfl ?_
    exact k
  | succ m ih =>
    intro j hj
    have e : up (setR σ 80 (cpy (σ 80) (σ 82) j)) 80 j (σ 82 j) = setR σ 80 (cpy (σ 80) (σ 82) (j + 1)) := by
      rw [up_setR, setR_setR, setR_hit, cpy_succ]
    have ev : setR σ 80 (cpy (σ 80) (σ 82) j) 82 j = σ 82 j := by rw [setR_ne (by decide)]
    refine g_iload_n (p0 := 3) (i := 1) dX10_lets_2 rfl rfl rfl ?_
    refine g_sipush (p0 := 6) (v := nI 189) dX10_lets_3 (by decide) rfl ?_
    first | ((with_reducible refine isN2 ?_); refine g_icmpN_ge (tgt := 27) (p1 := 9) dX10_lets_6 rfl (by omega) (by omega) rfl (fun c_6 => by exfalso; first | omega | contradiction | exact absurd (by assumption) c_6 | (simp_all; done)) (fun c_6 => ?_)) | refine g_icmp_ge (tgt := 27) (p1 := 9) dX10_lets_6 rfl rfl (fun c_6 => by exfalso; first | omega | contradiction | exact absurd (by assumption) c_6 | (simp_all; done)) (fun c_6 => ?_)
    refine g_aload_n (p0 := 10) (i := 0) dX10_lets_9 rfl rfl rfl ?_
    refine g_getR (p0 := 13) dX10_lets_10 fX10_7 (by first | rfl | assumption | exact RW.s (by assumption) | exact TW.s (by assumption)) rfl rfl ?_
    refine g_iload_n (p0 := 14) (i := 1) dX10_lets_13 rfl rfl rfl ?_
    refine g_aload_n (p0 := 15) (i := 0) dX10_lets_14 rfl rfl rfl ?_
    refine g_getR (p0 := 18) dX10_lets_15 fX10_16 (by first | rfl | assumption | exact RW.s (by assumption) | exact TW.s (by assumption)) rfl rfl ?_
    refine g_iload_n (p0 := 19) (i := 1) dX10_lets_18 rfl rfl rfl ?_
    first | ((with_reducible refine isN1 ?_); refine g_aldN (p0 := 20) dX10_lets_19 (by first | rfl | assumption | exact RW.s (by assumption) | exact TW.s (by assumption)) (by first | decide | assumption) (by omega) (by first | assumption | exact up_hit | exact up_nv (by omega) (by assumption) | exact up_mv (by omega) (by assumption) | exact up_nv (by omega) (up_nv (by omega) (by assumption)) | exact up_nv (by omega) up_hit | rfl) rfl ?_) | refine g_ald (p0 := 20) dX10_lets_19 (by first | rfl | assumption | exact RW.s (by assumption) | exact TW.s (by assumption)) (by assumption) (by first | assumption | exact up_hit | exact up_nv (by omega) (by assumption) | exact up_mv (by omega) (by assumption) | exact up_nv (by omega) (up_nv (by omega) (by assumption)) | exact up_nv (by omega) up_hit | rfl) rfl ?_
    first | ((with_reducible refine isNS ?_); refine g_astN (p0 := 21) dX10_lets_20 (by first | rfl | assumption | exact RW.s (by assumption) | exact TW.s (by assumption)) (by first | decide | assumption) (by omega) rfl ?_) | refine g_ast (p0 := 21) dX10_lets_20 (by first | rfl | assumption | exact RW.s (by assumption) | exact TW.s (by assumption)) (by assumption) rfl ?_
    first | refine g_iinc1 (p0 := 24) (ls2 := [_, _]) dX10_lets_21 rfl rfl rfl ?_ | refine g_iinc (p0 := 24) (ls2 := [_, _]) dX10_lets_21 rfl rfl rfl rfl ?_
    refine g_goto (tgt := 2) dX10_lets_24 rfl ?_
    rw [e]
    exact ih (j + 1) (by omega)
set_option maxRecDepth 20000 in
set_option maxHeartbeats 2000000 in
theorem lets_sp {σ : Sg} : CM mX10_lets [ar 79] σ (RetV (setR σ 80 (cpy (σ 80) (σ 82) 189))) := by
  refine CM_in (ls := [some (ar 79), none]) rfl ?_
  refine g_iconst (p0 := 1) (v := nI 0) dX10_lets_0 rfl rfl ?_
  refine g_istore_n (p0 := 2) (i := 1) (ls2 := [_, _]) dX10_lets_1 rfl (Nat.le_of_ble_eq_true rfl) rfl rfl ?_
  have h := lets_loop (σ := σ) (Q := RetV (setR σ 80 (cpy (σ 80) (σ 82) 189))) ⟨rfl, rfl⟩ 189 0 (by omega)
  rw [cpy_0, setR_id rfl] at h
  exact h
/-- the last letter below n whose place in the table is v, or 0 -/
def latF (ρ : Nat → Int32) (v : Int32) : Nat → Nat
  | 0 => 0
  | n + 1 => if ρ (4 + n) = v then n else latF ρ v n
set_option maxRecDepth 20000 in
set_option maxHeartbeats 2000000 in
theorem letterAt_loop {ro co : Nat} {σ : Sg} {Q : SP} (hr : 1 ≤ ro ∧ ro ≤ 1000) (hc : 1 ≤ co ∧ co ≤ 1000) (k : Q (some (ai (nI (latF (σ 80) (nI (5 * ro + co - 6)) 25)))) σ) : ∀ m j, j + m = 25 → WM mX10_letterAt Q 5 [some (ar 79), some (ai (nI ro)), some (ai (nI co)), some (ai (nI (latF (σ 80) (nI (5 * ro + co - 6)) j))), some (ai (nI j))] [] σ := by
  intro m
  induction m with
  | zero =>
    intro j hj
    obtain rfl : j = 25 := by omega
    refine g_iload (p0 := 7) dX10_letterAt_5 rfl rfl ?_
    refine g_bipush (p0 := 9) (v := nI 25) dX10_letterAt_7 (by decide) rfl ?_
    first | ((with_reducible refine isN2 ?_); refine g_icmpN_ge (tgt := 45) (p1 := 12) dX10_letterAt_9 rfl (by omega) (by omega) rfl (fun c_9 => ?_) (fun c_9 => by exfalso; first | omega | contradiction | exact absurd (by assumption) c_9 | (simp_all; done))) | refine g_icmp_ge (tgt := 45) (p1 := 12) dX10_letterAt_9 rfl rfl (fun c_9 => ?_) (fun c_9 => by exfalso; first | omega | contradiction | exact absurd (by assumption) c_9 | (simp_all; done))
    refine g_iload_n (p0 := 46) (i := 3) dX10_letterAt_45 rfl rfl rfl ?_
    refine g_ireturn dX10_letterAt_46 rfl rfl (?_)
    exact k
  | succ m ih =>
    intro j hj
    by_cases he : σ 80 (4 + j) = nI (5 * ro + co - 6)
    · have e : latF (σ 80) (nI (5 * ro + co - 6)) (j + 1) = j := by rw [latF, if_pos he]
      refine g_iload (p0 := 7) dX10_letterAt_5 rfl rfl ?_
      refine g_bipush (p0 := 9) (v := nI 25) dX10_letterAt_7 (by decide) rfl ?_
      first | ((with_reducible refine isN2 ?_); refine g_icmpN_ge (tgt := 45) (p1 := 12) dX10_letterAt_9 rfl (by omega) (by omega) rfl (fun c_9 => by exfalso; first | omega | contradiction) (fun c_9 => ?_)) | refine g_icmp_ge (tgt := 45) (p1 := 12) dX10_letterAt_9 rfl rfl (fun c_9 => by exfalso; first | omega | contradiction) (fun c_9 => ?_)
      refine g_aload_n (p0 := 13) (i := 0) dX10_letterAt_12 rfl rfl rfl ?_
      refine g_getR (p0 := 16) dX10_letterAt_13 fX10_7 (by first | rfl | assumption | exact RW.s (by assumption) | exact TW.s (by assumption)) rfl rfl ?_
      refine g_iconst (p0 := 17) (v := nI 4) dX10_letterAt_16 rfl rfl ?_
      refine g_iload (p0 := 19) dX10_letterAt_17 rfl rfl ?_
      first | ((with_reducible refine isN2 ?_); refine g_iaddN (p0 := 20) dX10_letterAt_19 rfl ?_) | refine g_iadd (p0 := 20) dX10_letterAt_19 rfl ?_
      first | ((with_reducible refine isN1 ?_); refine g_aldN (p0 := 21) dX10_letterAt_20 (by first | rfl | assumption | exact RW.s (by assumption) | exact TW.s (by assumption)) (by first | decide | assumption) (by omega) rfl rfl ?_) | refine g_ald (p0 := 21) dX10_letterAt_20 (by first | rfl | assumption | exact RW.s (by assumption) | exact TW.s (by assumption)) (by assumption) rfl rfl ?_
      refine g_iconst (p0 := 22) (v := nI 5) dX10_letterAt_21 rfl rfl ?_
      refine g_iload_n (p0 := 23) (i := 1) dX10_letterAt_22 rfl rfl rfl ?_
      first | ((with_reducible refine isN2 ?_); refine g_imulN (p0 := 24) dX10_letterAt_23 rfl ?_) | refine g_imul (p0 := 24) dX10_letterAt_23 rfl ?_
      refine g_iload_n (p0 := 25) (i := 2) dX10_letterAt_24 rfl rfl rfl ?_
      first | ((with_reducible refine isN2 ?_); refine g_iaddN (p0 := 26) dX10_letterAt_25 rfl ?_) | refine g_iadd (p0 := 26) dX10_letterAt_25 rfl ?_
      refine g_bipush (p0 := 28) (v := nI 6) dX10_letterAt_26 (by decide) rfl ?_
      first | ((with_reducible refine isN2 ?_); refine g_isubN (p0 := 29) dX10_letterAt_28 (by omega) rfl ?_) | refine g_isub (p0 := 29) dX10_letterAt_28 rfl ?_
      first | ((with_reducible refine isN2 ?_); refine g_icmpN_ne (tgt := 37) (p1 := 32) dX10_letterAt_29 rfl (by omega) (by omega) rfl (fun c_29 => by exfalso; first | omega | contradiction) (fun c_29 => ?_)) | refine g_icmp_ne (tgt := 37) (p1 := 32) dX10_letterAt_29 rfl rfl (fun c_29 => by exfalso; first | omega | contradiction) (fun c_29 => ?_)
      refine g_iload (p0 := 34) dX10_letterAt_32 rfl rfl ?_
      refine g_goto (tgt := 38) dX10_letterAt_34 rfl ?_
      refine g_istore_n (p0 := 39) (i := 3) (ls2 := [_, _, _, _, _]) dX10_letterAt_38 rfl (Nat.le_of_ble_eq_true rfl) rfl rfl ?_
      first | refine g_iinc1 (p0 := 42) (ls2 := [_, _, _, _, _]) dX10_letterAt_39 rfl rfl rfl ?_ | refine g_iinc (p0 := 42) (ls2 := [_, _, _, _, _]) dX10_letterAt_39 rfl rfl rfl rfl ?_
      refine g_goto (tgt := 5) dX10_letterAt_42 rfl ?_
      have h := ih (j + 1) (by omega)
      rw [e] at h
      exact h
    · have e : latF (σ 80) (nI (5 * ro + co - 6)) (j + 1) = latF (σ 80) (nI (5 * ro + co - 6)) j := by rw [latF, if_neg he]
      refine g_iload (p0 := 7) dX10_letterAt_5 rfl rfl ?_
      refine g_bipush (p0 := 9) (v := nI 25) dX10_letterAt_7 (by decide) rfl ?_
      first | ((with_reducible refine isN2 ?_); refine g_icmpN_ge (tgt := 45) (p1 := 12) dX10_letterAt_9 rfl (by omega) (by omega) rfl (fun c_9 => by exfalso; first | omega | contradiction) (fun c_9 => ?_)) | refine g_icmp_ge (tgt := 45) (p1 := 12) dX10_letterAt_9 rfl rfl (fun c_9 => by exfalso; first | omega | contradiction) (fun c_9 => ?_)
      refine g_aload_n (p0 := 13) (i := 0) dX10_letterAt_12 rfl rfl rfl ?_
      refine g_getR (p0 := 16) dX10_letterAt_13 fX10_7 (by first | rfl | assumption | exact RW.s (by assumption) | exact TW.s (by assumption)) rfl rfl ?_
      refine g_iconst (p0 := 17) (v := nI 4) dX10_letterAt_16 rfl rfl ?_
      refine g_iload (p0 := 19) dX10_letterAt_17 rfl rfl ?_
      first | ((with_reducible refine isN2 ?_); refine g_iaddN (p0 := 20) dX10_letterAt_19 rfl ?_) | refine g_iadd (p0 := 20) dX10_letterAt_19 rfl ?_
      first | ((with_reducible refine isN1 ?_); refine g_aldN (p0 := 21) dX10_letterAt_20 (by first | rfl | assumption | exact RW.s (by assumption) | exact TW.s (by assumption)) (by first | decide | assumption) (by omega) rfl rfl ?_) | refine g_ald (p0 := 21) dX10_letterAt_20 (by first | rfl | assumption | exact RW.s (by assumption) | exact TW.s (by assumption)) (by assumption) rfl rfl ?_
      refine g_iconst (p0 := 22) (v := nI 5) dX10_letterAt_21 rfl rfl ?_
      refine g_iload_n (p0 := 23) (i := 1) dX10_letterAt_22 rfl rfl rfl ?_
      first | ((with_reducible refine isN2 ?_); refine g_imulN (p0 := 24) dX10_letterAt_23 rfl ?_) | refine g_imul (p0 := 24) dX10_letterAt_23 rfl ?_
      refine g_iload_n (p0 := 25) (i := 2) dX10_letterAt_24 rfl rfl rfl ?_
      first | ((with_reducible refine isN2 ?_); refine g_iaddN (p0 := 26) dX10_letterAt_25 rfl ?_) | refine g_iadd (p0 := 26) dX10_letterAt_25 rfl ?_
      refine g_bipush (p0 := 28) (v := nI 6) dX10_letterAt_26 (by decide) rfl ?_
      first | ((with_reducible refine isN2 ?_); refine g_isubN (p0 := 29) dX10_letterAt_28 (by omega) rfl ?_) | refine g_isub (p0 := 29) dX10_letterAt_28 rfl ?_
      first | ((with_reducible refine isN2 ?_); refine g_icmpN_ne (tgt := 37) (p1 := 32) dX10_letterAt_29 rfl (by omega) (by omega) rfl (fun c_29 => ?_) (fun c_29 => by exfalso; first | omega | contradiction)) | refine g_icmp_ne (tgt := 37) (p1 := 32) dX10_letterAt_29 rfl rfl (fun c_29 => ?_) (fun c_29 => by exfalso; first | omega | contradiction)
      refine g_iload_n (p0 := 38) (i := 3) dX10_letterAt_37 rfl rfl rfl ?_
      refine g_istore_n (p0 := 39) (i := 3) (ls2 := [_, _, _, _, _]) dX10_letterAt_38 rfl (Nat.le_of_ble_eq_true rfl) rfl rfl ?_
      first | refine g_iinc1 (p0 := 42) (ls2 := [_, _, _, _, _]) dX10_letterAt_39 rfl rfl rfl ?_ | refine g_iinc (p0 := 42) (ls2 := [_, _, _, _, _]) dX10_letterAt_39 rfl rfl rfl rfl ?_
      refine g_goto (tgt := 5) dX10_letterAt_42 rfl ?_
      have h := ih (j + 1) (by omega)
      rw [e] at h
      exact h
set_option maxRecDepth 20000 in
set_option maxHeartbeats 2000000 in
theorem letterAt_sp {ro co : Nat} {σ : Sg} (hr : 1 ≤ ro ∧ ro ≤ 1000) (hc : 1 ≤ co ∧ co ≤ 1000) : CM mX10_letterAt [ar 79, ai (nI ro), ai (nI co)] σ (Ret (nI (latF (σ 80) (nI (5 * ro + co - 6)) 25)) σ) := by
  refine CM_in (ls := [some (ar 79), some (ai (nI ro)), some (ai (nI co)), none, none]) rfl ?_
  refine g_iconst (p0 := 1) (v := nI 0) dX10_letterAt_0 rfl rfl ?_
  refine g_istore_n (p0 := 2) (i := 3) (ls2 := [_, _, _, _, _]) dX10_letterAt_1 rfl (Nat.le_of_ble_eq_true rfl) rfl rfl ?_
  refine g_iconst (p0 := 3) (v := nI 0) dX10_letterAt_2 rfl rfl ?_
  refine g_istore (p0 := 5) (i := 4) (ls2 := [_, _, _, _, _]) dX10_letterAt_3 (Nat.le_of_ble_eq_true rfl) rfl rfl ?_
  exact letterAt_loop hr hc ⟨rfl, rfl⟩ 25 0 (by omega)
/-- the times in a row of the reference -/
abbrev tm (ρ : Nat → Int32) : Nat → Int32 := fun k => ρ (29 + k)
set_option maxRecDepth 20000 in
set_option maxHeartbeats 2000000 in
theorem placeOf_loop {s : Nat} {x : Int32} {σ : Sg} {Q : SP} (hs : σ 80 3 = nI s) (hs1 : s ≤ 160) (k : Q (some (ai (nI (ah (tm (σ 80)) s x)))) σ) : ∀ m j, j + m = s → ahF (tm (σ 80)) x m j = ah (tm (σ 80)) s x → WM mX10_placeOf Q 2 [some (ar 79), some (ai x), some (ai (nI j))] [] σ := by
  intro m
  induction m with
  | zero =>
    intro j hj hv
    obtain rfl : j = s := by omega
    have e : j = ah (tm (σ 80)) j x := hv
    refine g_iload_n (p0 := 3) (i := 2) dX10_placeOf_2 rfl rfl rfl ?_
    refine g_aload_n (p0 := 4) (i := 0) dX10_placeOf_3 rfl rfl rfl ?_
    refine g_getR (p0 := 7) dX10_placeOf_4 fX10_7 (by first | rfl | assumption | exact RW.s (by assumption) | exact TW.s (by assumption)) rfl rfl ?_
    refine g_iconst (p0 := 8) (v := nI 3) dX10_placeOf_7 rfl rfl ?_
    first | ((with_reducible refine isN1 ?_); refine g_aldN (p0 := 9) dX10_placeOf_8 (by first | rfl | assumption | exact RW.s (by assumption) | exact TW.s (by assumption)) (by first | decide | assumption) (by omega) (by first | assumption | exact up_hit | exact up_nv (by omega) (by assumption) | exact up_mv (by omega) (by assumption) | exact up_nv (by omega) (up_nv (by omega) (by assumption)) | exact up_nv (by omega) up_hit | rfl) rfl ?_) | refine g_ald (p0 := 9) dX10_placeOf_8 (by first | rfl | assumption | exact RW.s (by assumption) | exact TW.s (by assumption)) (by assumption) (by first | assumption | exact up_hit | exact up_nv (by omega) (by assumption) | exact up_mv (by omega) (by assumption) | exact up_nv (by omega) (up_nv (by omega) (by assumption)) | exact up_nv (by omega) up_hit | rfl) rfl ?_
    first | ((with_reducible refine isN2 ?_); refine g_icmpN_ge (tgt := 31) (p1 := 12) dX10_placeOf_9 rfl (by omega) (by omega) rfl (fun c_9 => ?_) (fun c_9 => by exfalso; first | omega | contradiction | exact absurd (by assumption) c_9 | (simp_all; done))) | refine g_icmp_ge (tgt := 31) (p1 := 12) dX10_placeOf_9 rfl rfl (fun c_9 => ?_) (fun c_9 => by exfalso; first | omega | contradiction | exact absurd (by assumption) c_9 | (simp_all; done))
    refine g_iload_n (p0 := 32) (i := 2) dX10_placeOf_31 rfl rfl rfl ?_
    refine g_ireturn dX10_placeOf_32 rfl rfl (?_)
    rw [← e] at k; exact k
  | succ m ih =>
    intro j hj hv
    rw [ahF] at hv
    by_cases hc : tm (σ 80) j < x
    · rw [if_pos hc] at hv
      have hc2 : σ 80 (29 + j) < x := hc
      refine g_iload_n (p0 := 3) (i := 2) dX10_placeOf_2 rfl rfl rfl ?_
      refine g_aload_n (p0 := 4) (i := 0) dX10_placeOf_3 rfl rfl rfl ?_
      refine g_getR (p0 := 7) dX10_placeOf_4 fX10_7 (by first | rfl | assumption | exact RW.s (by assumption) | exact TW.s (by assumption)) rfl rfl ?_
      refine g_iconst (p0 := 8) (v := nI 3) dX10_placeOf_7 rfl rfl ?_
      first | ((with_reducible refine isN1 ?_); refine g_aldN (p0 := 9) dX10_placeOf_8 (by first | rfl | assumption | exact RW.s (by assumption) | exact TW.s (by assumption)) (by first | decide | assumption) (by omega) (by first | assumption | exact up_hit | exact up_nv (by omega) (by assumption) | exact up_mv (by omega) (by assumption) | exact up_nv (by omega) (up_nv (by omega) (by assumption)) | exact up_nv (by omega) up_hit | rfl) rfl ?_) | refine g_ald (p0 := 9) dX10_placeOf_8 (by first | rfl | assumption | exact RW.s (by assumption) | exact TW.s (by assumption)) (by assumption) (by first | assumption | exact up_hit | exact up_nv (by omega) (by assumption) | exact up_mv (by omega) (by assumption) | exact up_nv (by omega) (up_nv (by omega) (by assumption)) | exact up_nv (by omega) up_hit | rfl) rfl ?_
      first | ((with_reducible refine isN2 ?_); refine g_icmpN_ge (tgt := 31) (p1 := 12) dX10_placeOf_9 rfl (by omega) (by omega) rfl (fun c_9 => by exfalso; first | omega | exact Int32.not_le.mpr hc2 c_9) (fun c_9 => ?_)) | refine g_icmp_ge (tgt := 31) (p1 := 12) dX10_placeOf_9 rfl rfl (fun c_9 => by exfalso; first | omega | exact Int32.not_le.mpr hc2 c_9) (fun c_9 => ?_)
      refine g_aload_n (p0 := 13) (i := 0) dX10_placeOf_12 rfl rfl rfl ?_
      refine g_getR (p0 := 16) dX10_placeOf_13 fX10_7 (by first | rfl | assumption | exact RW.s (by assumption) | exact TW.s (by assumption)) rfl rfl ?_
      refine g_bipush (p0 := 18) (v := nI 29) dX10_placeOf_16 (by decide) rfl ?_
      refine g_iload_n (p0 := 19) (i := 2) dX10_placeOf_18 rfl rfl rfl ?_
      first | ((with_reducible refine isN2 ?_); refine g_iaddN (p0 := 20) dX10_placeOf_19 rfl ?_) | refine g_iadd (p0 := 20) dX10_placeOf_19 rfl ?_
      first | ((with_reducible refine isN1 ?_); refine g_aldN (p0 := 21) dX10_placeOf_20 (by first | rfl | assumption | exact RW.s (by assumption) | exact TW.s (by assumption)) (by first | decide | assumption) (by omega) (by first | assumption | exact up_hit | exact up_nv (by omega) (by assumption) | exact up_mv (by omega) (by assumption) | exact up_nv (by omega) (up_nv (by omega) (by assumption)) | exact up_nv (by omega) up_hit | rfl) rfl ?_) | refine g_ald (p0 := 21) dX10_placeOf_20 (by first | rfl | assumption | exact RW.s (by assumption) | exact TW.s (by assumption)) (by assumption) (by first | assumption | exact up_hit | exact up_nv (by omega) (by assumption) | exact up_mv (by omega) (by assumption) | exact up_nv (by omega) (up_nv (by omega) (by assumption)) | exact up_nv (by omega) up_hit | rfl) rfl ?_
      refine g_iload_n (p0 := 22) (i := 1) dX10_placeOf_21 rfl rfl rfl ?_
      first | ((with_reducible refine isN2 ?_); refine g_icmpN_ge (tgt := 31) (p1 := 25) dX10_placeOf_22 rfl (by omega) (by omega) rfl (fun c_22 => by exfalso; first | omega | exact Int32.not_le.mpr hc2 c_22) (fun c_22 => ?_)) | refine g_icmp_ge (tgt := 31) (p1 := 25) dX10_placeOf_22 rfl rfl (fun c_22 => by exfalso; first | omega | exact Int32.not_le.mpr hc2 c_22) (fun c_22 => ?_)
      first | refine g_iinc1 (p0 := 28) (ls2 := [_, _, _]) dX10_placeOf_25 rfl rfl rfl ?_ | refine g_iinc (p0 := 28) (ls2 := [_, _, _]) dX10_placeOf_25 rfl rfl rfl rfl ?_
      refine g_goto (tgt := 2) dX10_placeOf_28 rfl ?_
      exact ih (j + 1) (by omega) hv
    · rw [if_neg hc] at hv
      refine g_iload_n (p0 := 3) (i := 2) dX10_placeOf_2 rfl rfl rfl ?_
      refine g_aload_n (p0 := 4) (i := 0) dX10_placeOf_3 rfl rfl rfl ?_
      refine g_getR (p0 := 7) dX10_placeOf_4 fX10_7 (by first | rfl | assumption | exact RW.s (by assumption) | exact TW.s (by assumption)) rfl rfl ?_
      refine g_iconst (p0 := 8) (v := nI 3) dX10_placeOf_7 rfl rfl ?_
      first | ((with_reducible refine isN1 ?_); refine g_aldN (p0 := 9) dX10_placeOf_8 (by first | rfl | assumption | exact RW.s (by assumption) | exact TW.s (by assumption)) (by first | decide | assumption) (by omega) (by first | assumption | exact up_hit | exact up_nv (by omega) (by assumption) | exact up_mv (by omega) (by assumption) | exact up_nv (by omega) (up_nv (by omega) (by assumption)) | exact up_nv (by omega) up_hit | rfl) rfl ?_) | refine g_ald (p0 := 9) dX10_placeOf_8 (by first | rfl | assumption | exact RW.s (by assumption) | exact TW.s (by assumption)) (by assumption) (by first | assumption | exact up_hit | exact up_nv (by omega) (by assumption) | exact up_mv (by omega) (by assumption) | exact up_nv (by omega) (up_nv (by omega) (by assumption)) | exact up_nv (by omega) up_hit | rfl) rfl ?_
      first | ((with_reducible refine isN2 ?_); refine g_icmpN_ge (tgt := 31) (p1 := 12) dX10_placeOf_9 rfl (by omega) (by omega) rfl (fun c_9 => by exfalso; first | omega | exact c_9 (Int32.not_lt.mp hc)) (fun c_9 => ?_)) | refine g_icmp_ge (tgt := 31) (p1 := 12) dX10_placeOf_9 rfl rfl (fun c_9 => by exfalso; first | omega | exact c_9 (Int32.not_lt.mp hc)) (fun c_9 => ?_)
      refine g_aload_n (p0 := 13) (i := 0) dX10_placeOf_12 rfl rfl rfl ?_
      refine g_getR (p0 := 16) dX10_placeOf_13 fX10_7 (by first | rfl | assumption | exact RW.s (by assumption) | exact TW.s (by assumption)) rfl rfl ?_
      refine g_bipush (p0 := 18) (v := nI 29) dX10_placeOf_16 (by decide) rfl ?_
      refine g_iload_n (p0 := 19) (i := 2) dX10_placeOf_18 rfl rfl rfl ?_
      first | ((with_reducible refine isN2 ?_); refine g_iaddN (p0 := 20) dX10_placeOf_19 rfl ?_) | refine g_iadd (p0 := 20) dX10_placeOf_19 rfl ?_
      first | ((with_reducible refine isN1 ?_); refine g_aldN (p0 := 21) dX10_placeOf_20 (by first | rfl | assumption | exact RW.s (by assumption) | exact TW.s (by assumption)) (by first | decide | assumption) (by omega) (by first | assumption | exact up_hit | exact up_nv (by omega) (by assumption) | exact up_mv (by omega) (by assumption) | exact up_nv (by omega) (up_nv (by omega) (by assumption)) | exact up_nv (by omega) up_hit | rfl) rfl ?_) | refine g_ald (p0 := 21) dX10_placeOf_20 (by first | rfl | assumption | exact RW.s (by assumption) | exact TW.s (by assumption)) (by assumption) (by first | assumption | exact up_hit | exact up_nv (by omega) (by assumption) | exact up_mv (by omega) (by assumption) | exact up_nv (by omega) (up_nv (by omega) (by assumption)) | exact up_nv (by omega) up_hit | rfl) rfl ?_
      refine g_iload_n (p0 := 22) (i := 1) dX10_placeOf_21 rfl rfl rfl ?_
      first | ((with_reducible refine isN2 ?_); refine g_icmpN_ge (tgt := 31) (p1 := 25) dX10_placeOf_22 rfl (by omega) (by omega) rfl (fun c_22 => ?_) (fun c_22 => by exfalso; first | omega | exact c_22 (Int32.not_lt.mp hc))) | refine g_icmp_ge (tgt := 31) (p1 := 25) dX10_placeOf_22 rfl rfl (fun c_22 => ?_) (fun c_22 => by exfalso; first | omega | exact c_22 (Int32.not_lt.mp hc))
      refine g_iload_n (p0 := 32) (i := 2) dX10_placeOf_31 rfl rfl rfl ?_
      refine g_ireturn dX10_placeOf_32 rfl rfl (?_)
      rw [← hv] at k; exact k
set_option maxRecDepth 20000 in
set_option maxHeartbeats 2000000 in
theorem placeOf_sp {s : Nat} {x : Int32} {σ : Sg} (hs : σ 80 3 = nI s) (hs1 : s ≤ 160) : CM mX10_placeOf [ar 79, ai x] σ (Ret (nI (ah (tm (σ 80)) s x)) σ) := by
  refine CM_in (ls := [some (ar 79), some (ai x), none]) rfl ?_
  refine g_iconst (p0 := 1) (v := nI 0) dX10_placeOf_0 rfl rfl ?_
  refine g_istore_n (p0 := 2) (i := 2) (ls2 := [_, _, _]) dX10_placeOf_1 rfl (Nat.le_of_ble_eq_true rfl) rfl rfl ?_
  exact placeOf_loop hs hs1 ⟨rfl, rfl⟩ s 0 (by omega) rfl
set_option maxRecDepth 20000 in
set_option maxHeartbeats 2000000 in
theorem isThere_T {s : Nat} {x : Int32} {σ : Sg} (hs : σ 80 3 = nI s) (hs1 : s ≤ 160) (h1 : ah (tm (σ 80)) s x < s) (h2 : σ 80 (29 + ah (tm (σ 80)) s x) = x) : CM mX10_isThere [ar 79, ai x] σ (Ret (nI 1) σ) := by
  refine CM_in (ls := [some (ar 79), some (ai x), none]) rfl ?_
  refine g_aload_n (p0 := 1) (i := 0) dX10_isThere_0 rfl rfl rfl ?_
  refine g_iload_n (p0 := 2) (i := 1) dX10_isThere_1 rfl rfl rfl ?_
  refine g_cV1R (p0 := 5) (r1 := mX10_placeOf) dX10_isThere_2 lX10_87 vX10_placeOf (by first | rfl | assumption | exact RW.s (by assumption) | exact TW.s (by assumption)) ⟨_, _, rfl⟩ (FITi rfl rfl) (Nat.le_of_ble_eq_true rfl) (placeOf_sp (by first | assumption | exact up_hit | exact up_nv (by omega) (by assumption) | exact up_mv (by omega) (by assumption) | exact up_nv (by omega) (up_nv (by omega) (by assumption)) | exact up_nv (by omega) up_hit | rfl) (by first | assumption | omega)) rfl ?_
  refine g_istore_n (p0 := 6) (i := 2) (ls2 := [_, _, _]) dX10_isThere_5 rfl (Nat.le_of_ble_eq_true rfl) rfl rfl ?_
  refine g_iload_n (p0 := 7) (i := 2) dX10_isThere_6 rfl rfl rfl ?_
  refine g_aload_n (p0 := 8) (i := 0) dX10_isThere_7 rfl rfl rfl ?_
  refine g_getR (p0 := 11) dX10_isThere_8 fX10_7 (by first | rfl | assumption | exact RW.s (by assumption) | exact TW.s (by assumption)) rfl rfl ?_
  refine g_iconst (p0 := 12) (v := nI 3) dX10_isThere_11 rfl rfl ?_
  first | ((with_reducible refine isN1 ?_); refine g_aldN (p0 := 13) dX10_isThere_12 (by first | rfl | assumption | exact RW.s (by assumption) | exact TW.s (by assumption)) (by first | decide | assumption) (by omega) (by first | assumption | exact up_hit | exact up_nv (by omega) (by assumption) | exact up_mv (by omega) (by assumption) | exact up_nv (by omega) (up_nv (by omega) (by assumption)) | exact up_nv (by omega) up_hit | rfl) rfl ?_) | refine g_ald (p0 := 13) dX10_isThere_12 (by first | rfl | assumption | exact RW.s (by assumption) | exact TW.s (by assumption)) (by assumption) (by first | assumption | exact up_hit | exact up_nv (by omega) (by assumption) | exact up_mv (by omega) (by assumption) | exact up_nv (by omega) (up_nv (by omega) (by assumption)) | exact up_nv (by omega) up_hit | rfl) rfl ?_
  first | ((with_reducible refine isN2 ?_); refine g_icmpN_ge (tgt := 33) (p1 := 16) dX10_isThere_13 rfl (by omega) (by omega) rfl (fun c_13 => by exfalso; first | omega | exact absurd rfl c_13) (fun c_13 => ?_)) | refine g_icmp_ge (tgt := 33) (p1 := 16) dX10_isThere_13 rfl rfl (fun c_13 => by exfalso; first | omega | exact absurd rfl c_13) (fun c_13 => ?_)
  refine g_aload_n (p0 := 17) (i := 0) dX10_isThere_16 rfl rfl rfl ?_
  refine g_getR (p0 := 20) dX10_isThere_17 fX10_7 (by first | rfl | assumption | exact RW.s (by assumption) | exact TW.s (by assumption)) rfl rfl ?_
  refine g_bipush (p0 := 22) (v := nI 29) dX10_isThere_20 (by decide) rfl ?_
  refine g_iload_n (p0 := 23) (i := 2) dX10_isThere_22 rfl rfl rfl ?_
  first | ((with_reducible refine isN2 ?_); refine g_iaddN (p0 := 24) dX10_isThere_23 rfl ?_) | refine g_iadd (p0 := 24) dX10_isThere_23 rfl ?_
  first | ((with_reducible refine isN1 ?_); refine g_aldN (p0 := 25) dX10_isThere_24 (by first | rfl | assumption | exact RW.s (by assumption) | exact TW.s (by assumption)) (by first | decide | assumption) (by omega) (by first | assumption | exact up_hit | exact up_nv (by omega) (by assumption) | exact up_mv (by omega) (by assumption) | exact up_nv (by omega) (up_nv (by omega) (by assumption)) | exact up_nv (by omega) up_hit | rfl) rfl ?_) | refine g_ald (p0 := 25) dX10_isThere_24 (by first | rfl | assumption | exact RW.s (by assumption) | exact TW.s (by assumption)) (by assumption) (by first | assumption | exact up_hit | exact up_nv (by omega) (by assumption) | exact up_mv (by omega) (by assumption) | exact up_nv (by omega) (up_nv (by omega) (by assumption)) | exact up_nv (by omega) up_hit | rfl) rfl ?_
  refine g_iload_n (p0 := 26) (i := 1) dX10_isThere_25 rfl rfl rfl ?_
  first | ((with_reducible refine isN2 ?_); refine g_icmpN_ne (tgt := 33) (p1 := 29) dX10_isThere_26 rfl (by omega) (by omega) rfl (fun c_26 => by exfalso; first | omega | exact absurd rfl c_26) (fun c_26 => ?_)) | refine g_icmp_ne (tgt := 33) (p1 := 29) dX10_isThere_26 rfl rfl (fun c_26 => by exfalso; first | omega | exact absurd rfl c_26) (fun c_26 => ?_)
  refine g_iconst (p0 := 30) (v := nI 1) dX10_isThere_29 rfl rfl ?_
  refine g_goto (tgt := 34) dX10_isThere_30 rfl ?_
  refine g_ireturn dX10_isThere_34 rfl (by first | rfl | exact bool_narrow (by first | exact Or.inl rfl | exact Or.inr rfl | assumption | (split <;> first | exact Or.inl rfl | exact Or.inr rfl))) (?_)
  exact ⟨rfl, rfl⟩
set_option maxRecDepth 20000 in
set_option maxHeartbeats 2000000 in
theorem isThere_F {s : Nat} {x : Int32} {σ : Sg} (hs : σ 80 3 = nI s) (hs1 : s ≤ 160) (h1 : ah (tm (σ 80)) s x < s → ¬ σ 80 (29 + ah (tm (σ 80)) s x) = x) : CM mX10_isThere [ar 79, ai x] σ (Ret (nI 0) σ) := by
  have hle := ah_le (tm (σ 80)) s x
  by_cases hlt : ah (tm (σ 80)) s x < s
  · have hne := h1 hlt
    refine CM_in (ls := [some (ar 79), some (ai x), none]) rfl ?_
    refine g_aload_n (p0 := 1) (i := 0) dX10_isThere_0 rfl rfl rfl ?_
    refine g_iload_n (p0 := 2) (i := 1) dX10_isThere_1 rfl rfl rfl ?_
    refine g_cV1R (p0 := 5) (r1 := mX10_placeOf) dX10_isThere_2 lX10_87 vX10_placeOf (by first | rfl | assumption | exact RW.s (by assumption) | exact TW.s (by assumption)) ⟨_, _, rfl⟩ (FITi rfl rfl) (Nat.le_of_ble_eq_true rfl) (placeOf_sp (by first | assumption | exact up_hit | exact up_nv (by omega) (by assumption) | exact up_mv (by omega) (by assumption) | exact up_nv (by omega) (up_nv (by omega) (by assumption)) | exact up_nv (by omega) up_hit | rfl) (by first | assumption | omega)) rfl ?_
    refine g_istore_n (p0 := 6) (i := 2) (ls2 := [_, _, _]) dX10_isThere_5 rfl (Nat.le_of_ble_eq_true rfl) rfl rfl ?_
    refine g_iload_n (p0 := 7) (i := 2) dX10_isThere_6 rfl rfl rfl ?_
    refine g_aload_n (p0 := 8) (i := 0) dX10_isThere_7 rfl rfl rfl ?_
    refine g_getR (p0 := 11) dX10_isThere_8 fX10_7 (by first | rfl | assumption | exact RW.s (by assumption) | exact TW.s (by assumption)) rfl rfl ?_
    refine g_iconst (p0 := 12) (v := nI 3) dX10_isThere_11 rfl rfl ?_
    first | ((with_reducible refine isN1 ?_); refine g_aldN (p0 := 13) dX10_isThere_12 (by first | rfl | assumption | exact RW.s (by assumption) | exact TW.s (by assumption)) (by first | decide | assumption) (by omega) (by first | assumption | exact up_hit | exact up_nv (by omega) (by assumption) | exact up_mv (by omega) (by assumption) | exact up_nv (by omega) (up_nv (by omega) (by assumption)) | exact up_nv (by omega) up_hit | rfl) rfl ?_) | refine g_ald (p0 := 13) dX10_isThere_12 (by first | rfl | assumption | exact RW.s (by assumption) | exact TW.s (by assumption)) (by assumption) (by first | assumption | exact up_hit | exact up_nv (by omega) (by assumption) | exact up_mv (by omega) (by assumption) | exact up_nv (by omega) (up_nv (by omega) (by assumption)) | exact up_nv (by omega) up_hit | rfl) rfl ?_
    first | ((with_reducible refine isN2 ?_); refine g_icmpN_ge (tgt := 33) (p1 := 16) dX10_isThere_13 rfl (by omega) (by omega) rfl (fun c_13 => by exfalso; first | omega | exact absurd c_13 hne) (fun c_13 => ?_)) | refine g_icmp_ge (tgt := 33) (p1 := 16) dX10_isThere_13 rfl rfl (fun c_13 => by exfalso; first | omega | exact absurd c_13 hne) (fun c_13 => ?_)
    refine g_aload_n (p0 := 17) (i := 0) dX10_isThere_16 rfl rfl rfl ?_
    refine g_getR (p0 := 20) dX10_isThere_17 fX10_7 (by first | rfl | assumption | exact RW.s (by assumption) | exact TW.s (by assumption)) rfl rfl ?_
    refine g_bipush (p0 := 22) (v := nI 29) dX10_isThere_20 (by decide) rfl ?_
    refine g_iload_n (p0 := 23) (i := 2) dX10_isThere_22 rfl rfl rfl ?_
    first | ((with_reducible refine isN2 ?_); refine g_iaddN (p0 := 24) dX10_isThere_23 rfl ?_) | refine g_iadd (p0 := 24) dX10_isThere_23 rfl ?_
    first | ((with_reducible refine isN1 ?_); refine g_aldN (p0 := 25) dX10_isThere_24 (by first | rfl | assumption | exact RW.s (by assumption) | exact TW.s (by assumption)) (by first | decide | assumption) (by omega) (by first | assumption | exact up_hit | exact up_nv (by omega) (by assumption) | exact up_mv (by omega) (by assumption) | exact up_nv (by omega) (up_nv (by omega) (by assumption)) | exact up_nv (by omega) up_hit | rfl) rfl ?_) | refine g_ald (p0 := 25) dX10_isThere_24 (by first | rfl | assumption | exact RW.s (by assumption) | exact TW.s (by assumption)) (by assumption) (by first | assumption | exact up_hit | exact up_nv (by omega) (by assumption) | exact up_mv (by omega) (by assumption) | exact up_nv (by omega) (up_nv (by omega) (by assumption)) | exact up_nv (by omega) up_hit | rfl) rfl ?_
    refine g_iload_n (p0 := 26) (i := 1) dX10_isThere_25 rfl rfl rfl ?_
    first | ((with_reducible refine isN2 ?_); refine g_icmpN_ne (tgt := 33) (p1 := 29) dX10_isThere_26 rfl (by omega) (by omega) rfl (fun c_26 => ?_) (fun c_26 => by exfalso; first | omega | exact absurd c_26 hne)) | refine g_icmp_ne (tgt := 33) (p1 := 29) dX10_isThere_26 rfl rfl (fun c_26 => ?_) (fun c_26 => by exfalso; first | omega | exact absurd c_26 hne)
    refine g_iconst (p0 := 34) (v := nI 0) dX10_isThere_33 rfl rfl ?_
    refine g_ireturn dX10_isThere_34 rfl (by first | rfl | exact bool_narrow (by first | exact Or.inl rfl | exact Or.inr rfl | assumption | (split <;> first | exact Or.inl rfl | exact Or.inr rfl))) (?_)
    exact ⟨rfl, rfl⟩
  refine CM_in (ls := [some (ar 79), some (ai x), none]) rfl ?_
  refine g_aload_n (p0 := 1) (i := 0) dX10_isThere_0 rfl rfl rfl ?_
  refine g_iload_n (p0 := 2) (i := 1) dX10_isThere_1 rfl rfl rfl ?_
  refine g_cV1R (p0 := 5) (r1 := mX10_placeOf) dX10_isThere_2 lX10_87 vX10_placeOf (by first | rfl | assumption | exact RW.s (by assumption) | exact TW.s (by assumption)) ⟨_, _, rfl⟩ (FITi rfl rfl) (Nat.le_of_ble_eq_true rfl) (placeOf_sp (by first | assumption | exact up_hit | exact up_nv (by omega) (by assumption) | exact up_mv (by omega) (by assumption) | exact up_nv (by omega) (up_nv (by omega) (by assumption)) | exact up_nv (by omega) up_hit | rfl) (by first | assumption | omega)) rfl ?_
  refine g_istore_n (p0 := 6) (i := 2) (ls2 := [_, _, _]) dX10_isThere_5 rfl (Nat.le_of_ble_eq_true rfl) rfl rfl ?_
  refine g_iload_n (p0 := 7) (i := 2) dX10_isThere_6 rfl rfl rfl ?_
  refine g_aload_n (p0 := 8) (i := 0) dX10_isThere_7 rfl rfl rfl ?_
  refine g_getR (p0 := 11) dX10_isThere_8 fX10_7 (by first | rfl | assumption | exact RW.s (by assumption) | exact TW.s (by assumption)) rfl rfl ?_
  refine g_iconst (p0 := 12) (v := nI 3) dX10_isThere_11 rfl rfl ?_
  first | ((with_reducible refine isN1 ?_); refine g_aldN (p0 := 13) dX10_isThere_12 (by first | rfl | assumption | exact RW.s (by assumption) | exact TW.s (by assumption)) (by first | decide | assumption) (by omega) (by first | assumption | exact up_hit | exact up_nv (by omega) (by assumption) | exact up_mv (by omega) (by assumption) | exact up_nv (by omega) (up_nv (by omega) (by assumption)) | exact up_nv (by omega) up_hit | rfl) rfl ?_) | refine g_ald (p0 := 13) dX10_isThere_12 (by first | rfl | assumption | exact RW.s (by assumption) | exact TW.s (by assumption)) (by assumption) (by first | assumption | exact up_hit | exact up_nv (by omega) (by assumption) | exact up_mv (by omega) (by assumption) | exact up_nv (by omega) (up_nv (by omega) (by assumption)) | exact up_nv (by omega) up_hit | rfl) rfl ?_
  first | ((with_reducible refine isN2 ?_); refine g_icmpN_ge (tgt := 33) (p1 := 16) dX10_isThere_13 rfl (by omega) (by omega) rfl (fun c_13 => ?_) (fun c_13 => by exfalso; first | omega | contradiction | exact absurd (by assumption) c_13 | (simp_all; done))) | refine g_icmp_ge (tgt := 33) (p1 := 16) dX10_isThere_13 rfl rfl (fun c_13 => ?_) (fun c_13 => by exfalso; first | omega | contradiction | exact absurd (by assumption) c_13 | (simp_all; done))
  refine g_iconst (p0 := 34) (v := nI 0) dX10_isThere_33 rfl rfl ?_
  refine g_ireturn dX10_isThere_34 rfl (by first | rfl | exact bool_narrow (by first | exact Or.inl rfl | exact Or.inr rfl | assumption | (split <;> first | exact Or.inl rfl | exact Or.inr rfl))) (?_)
  exact ⟨rfl, rfl⟩
set_option maxRecDepth 20000 in
set_option maxHeartbeats 2000000 in
theorem puts_loop {s p : Nat} {x : Int32} {σ : Sg} {Q : SP} (hs : σ 80 3 = nI s) (hs1 : s < 160) (hp : p ≤ s) (k : Q (some (ai (nI p))) (setR σ 80 (upd (insR (σ 80) (29 + s) (29 + p) x) 3 (nI (s + 1))))) : ∀ m j, p + m = j → j ≤ s → WM mX10_puts Q 13 [some (ar 79), some (ai x), some (ai (nI p)), some (ai (nI j))] [] (setR σ 80 (shU (σ 80) (29 + s) (29 + j))) := by
  intro m
  induction m with
  | zero =>
    intro j hj hjs
    obtain rfl : p = j := by omega
    have e2 : up (setR σ 80 (shU (σ 80) (29 + s) (29 + p))) 80 (29 + p) x 80 3 = nI s := by
      rw [up_miss (by omega), setR_hit]
      have : ¬ (29 + p < 3 ∧ 3 ≤ 29 + s) := by omega
      simp only [shU, if_neg this, hs]
    have e3 : up (up (setR σ 80 (shU (σ 80) (29 + s) (29 + p))) 80 (29 + p) x) 80 3 (nI (s + 1)) = setR σ 80 (upd (insR (σ 80) (29 + s) (29 + p) x) 3 (nI (s + 1))) := by
      rw [up_setR, up_setR, setR_setR, setR_hit, setR_hit, setR_setR, shU_end (by omega)]
    refine g_iload_n (p0 := 14) (i := 3) dX10_puts_13 rfl rfl rfl ?_
    refine g_iload_n (p0 := 15) (i := 2) dX10_puts_14 rfl rfl rfl ?_
    first | ((with_reducible refine isN2 ?_); refine g_icmpN_le (tgt := 44) (p1 := 18) dX10_puts_15 rfl (by omega) (by omega) rfl (fun c_15 => ?_) (fun c_15 => by exfalso; first | omega | contradiction | exact absurd (by assumption) c_15 | (simp_all; done))) | refine g_icmp_le (tgt := 44) (p1 := 18) dX10_puts_15 rfl rfl (fun c_15 => ?_) (fun c_15 => by exfalso; first | omega | contradiction | exact absurd (by assumption) c_15 | (simp_all; done))
    refine g_aload_n (p0 := 45) (i := 0) dX10_puts_44 rfl rfl rfl ?_
    refine g_getR (p0 := 48) dX10_puts_45 fX10_7 (by first | rfl | assumption | exact RW.s (by assumption) | exact TW.s (by assumption)) rfl rfl ?_
    refine g_bipush (p0 := 50) (v := nI 29) dX10_puts_48 (by decide) rfl ?_
    refine g_iload_n (p0 := 51) (i := 2) dX10_puts_50 rfl rfl rfl ?_
    first | ((with_reducible refine isN2 ?_); refine g_iaddN (p0 := 52) dX10_puts_51 rfl ?_) | refine g_iadd (p0 := 52) dX10_puts_51 rfl ?_
    refine g_iload_n (p0 := 53) (i := 1) dX10_puts_52 rfl rfl rfl ?_
    first | ((with_reducible refine isNS ?_); refine g_astN (p0 := 54) dX10_puts_53 (by first | rfl | assumption | exact RW.s (by assumption) | exact TW.s (by assumption)) (by first | decide | assumption) (by omega) rfl ?_) | refine g_ast (p0 := 54) dX10_puts_53 (by first | rfl | assumption | exact RW.s (by assumption) | exact TW.s (by assumption)) (by assumption) rfl ?_
    refine g_aload_n (p0 := 55) (i := 0) dX10_puts_54 rfl rfl rfl ?_
    refine g_getR (p0 := 58) dX10_puts_55 fX10_7 (by first | rfl | assumption | exact RW.s (by assumption) | exact TW.s (by assumption)) rfl rfl ?_
    refine g_iconst (p0 := 59) (v := nI 3) dX10_puts_58 rfl rfl ?_
    refine g_dup2 (p0 := 60) dX10_puts_59 rfl ?_
    first | ((with_reducible refine isN1 ?_); refine g_aldN (p0 := 61) dX10_puts_60 (by first | rfl | assumption | exact RW.s (by assumption) | exact TW.s (by assumption)) (by first | decide | assumption) (by omega) (by first | assumption | exact up_hit | exact up_nv (by omega) (by assumption) | exact up_mv (by omega) (by assumption) | exact up_nv (by omega) (up_nv (by omega) (by assumption)) | exact up_nv (by omega) up_hit | rfl) rfl ?_) | refine g_ald (p0 := 61) dX10_puts_60 (by first | rfl | assumption | exact RW.s (by assumption) | exact TW.s (by assumption)) (by assumption) (by first | assumption | exact up_hit | exact up_nv (by omega) (by assumption) | exact up_mv (by omega) (by assumption) | exact up_nv (by omega) (up_nv (by omega) (by assumption)) | exact up_nv (by omega) up_hit | rfl) rfl ?_
    refine g_iconst (p0 := 62) (v := nI 1) dX10_puts_61 rfl rfl ?_
    first | ((with_reducible refine isN2 ?_); refine g_iaddN (p0 := 63) dX10_puts_62 rfl ?_) | refine g_iadd (p0 := 63) dX10_puts_62 rfl ?_
    first | ((with_reducible refine isNS ?_); refine g_astN (p0 := 64) dX10_puts_63 (by first | rfl | assumption | exact RW.s (by assumption) | exact TW.s (by assumption)) (by first | decide | assumption) (by omega) rfl ?_) | refine g_ast (p0 := 64) dX10_puts_63 (by first | rfl | assumption | exact RW.s (by assumption) | exact TW.s (by assumption)) (by assumption) rfl ?_
    refine g_iload_n (p0 := 65) (i := 2) dX10_puts_64 rfl rfl rfl ?_
    refine g_ireturn dX10_puts_65 rfl rfl (?_)
    rw [e3]
    exact k
  | succ m ih =>
    intro j hj hjs
    have e2 : setR σ 80 (shU (σ 80) (29 + s) (29 + j)) 80 (29 + j - 1) = σ 80 (29 + j - 1) := by
      rw [setR_hit]
      have : ¬ (29 + j < 29 + j - 1 ∧ 29 + j - 1 ≤ 29 + s) := by omega
      simp only [shU, if_neg this]
    have e3 : up (setR σ 80 (shU (σ 80) (29 + s) (29 + j))) 80 (29 + j) (σ 80 (29 + j - 1)) = setR σ 80 (shU (σ 80) (29 + s) (29 + (j - 1))) := by
      rw [up_setR, setR_setR, setR_hit, shU_step (by omega) (by omega), show 29 + j - 1 = 29 + (j - 1) by omega]
    refine g_iload_n (p0 := 14) (i := 3) dX10_puts_13 rfl rfl rfl ?_
    refine g_iload_n (p0 := 15) (i := 2) dX10_puts_14 rfl rfl rfl ?_
    first | ((with_reducible refine isN2 ?_); refine g_icmpN_le (tgt := 44) (p1 := 18) dX10_puts_15 rfl (by omega) (by omega) rfl (fun c_15 => by exfalso; first | omega | contradiction | exact absurd (by assumption) c_15 | (simp_all; done)) (fun c_15 => ?_)) | refine g_icmp_le (tgt := 44) (p1 := 18) dX10_puts_15 rfl rfl (fun c_15 => by exfalso; first | omega | contradiction | exact absurd (by assumption) c_15 | (simp_all; done)) (fun c_15 => ?_)
    refine g_aload_n (p0 := 19) (i := 0) dX10_puts_18 rfl rfl rfl ?_
    refine g_getR (p0 := 22) dX10_puts_19 fX10_7 (by first | rfl | assumption | exact RW.s (by assumption) | exact TW.s (by assumption)) rfl rfl ?_
    refine g_bipush (p0 := 24) (v := nI 29) dX10_puts_22 (by decide) rfl ?_
    refine g_iload_n (p0 := 25) (i := 3) dX10_puts_24 rfl rfl rfl ?_
    first | ((with_reducible refine isN2 ?_); refine g_iaddN (p0 := 26) dX10_puts_25 rfl ?_) | refine g_iadd (p0 := 26) dX10_puts_25 rfl ?_
    refine g_aload_n (p0 := 27) (i := 0) dX10_puts_26 rfl rfl rfl ?_
    refine g_getR (p0 := 30) dX10_puts_27 fX10_7 (by first | rfl | assumption | exact RW.s (by assumption) | exact TW.s (by assumption)) rfl rfl ?_
    refine g_bipush (p0 := 32) (v := nI 29) dX10_puts_30 (by decide) rfl ?_
    refine g_iload_n (p0 := 33) (i := 3) dX10_puts_32 rfl rfl rfl ?_
    first | ((with_reducible refine isN2 ?_); refine g_iaddN (p0 := 34) dX10_puts_33 rfl ?_) | refine g_iadd (p0 := 34) dX10_puts_33 rfl ?_
    refine g_iconst (p0 := 35) (v := nI 1) dX10_puts_34 rfl rfl ?_
    first | ((with_reducible refine isN2 ?_); refine g_isubN (p0 := 36) dX10_puts_35 (by omega) rfl ?_) | refine g_isub (p0 := 36) dX10_puts_35 rfl ?_
    first | ((with_reducible refine isN1 ?_); refine g_aldN (p0 := 37) dX10_puts_36 (by first | rfl | assumption | exact RW.s (by assumption) | exact TW.s (by assumption)) (by first | decide | assumption) (by omega) (by first | assumption | exact up_hit | exact up_nv (by omega) (by assumption) | exact up_mv (by omega) (by assumption) | exact up_nv (by omega) (up_nv (by omega) (by assumption)) | exact up_nv (by omega) up_hit | rfl) rfl ?_) | refine g_ald (p0 := 37) dX10_puts_36 (by first | rfl | assumption | exact RW.s (by assumption) | exact TW.s (by assumption)) (by assumption) (by first | assumption | exact up_hit | exact up_nv (by omega) (by assumption) | exact up_mv (by omega) (by assumption) | exact up_nv (by omega) (up_nv (by omega) (by assumption)) | exact up_nv (by omega) up_hit | rfl) rfl ?_
    first | ((with_reducible refine isNS ?_); refine g_astN (p0 := 38) dX10_puts_37 (by first | rfl | assumption | exact RW.s (by assumption) | exact TW.s (by assumption)) (by first | decide | assumption) (by omega) rfl ?_) | refine g_ast (p0 := 38) dX10_puts_37 (by first | rfl | assumption | exact RW.s (by assumption) | exact TW.s (by assumption)) (by assumption) rfl ?_
    first | refine g_iincM (p0 := 41) (ls2 := [_, _, _, _]) dX10_puts_38 rfl (by omega) rfl rfl ?_ | refine g_iinc (p0 := 41) (ls2 := [_, _, _, _]) dX10_puts_38 rfl rfl rfl rfl ?_
    refine g_goto (tgt := 13) dX10_puts_41 rfl ?_
    rw [e3]
    exact ih (j - 1) (by omega) (by omega)
set_option maxRecDepth 20000 in
set_option maxHeartbeats 2000000 in
theorem puts_sp {s : Nat} {x : Int32} {σ : Sg} (hs : σ 80 3 = nI s) (hs1 : s < 160) : CM mX10_puts [ar 79, ai x] σ (Ret (nI (ah (tm (σ 80)) s x)) (setR σ 80 (upd (insR (σ 80) (29 + s) (29 + ah (tm (σ 80)) s x) x) 3 (nI (s + 1))))) := by
  have hp := ah_le (tm (σ 80)) s x
  refine CM_in (ls := [some (ar 79), some (ai x), none, none]) rfl ?_
  refine g_aload_n (p0 := 1) (i := 0) dX10_puts_0 rfl rfl rfl ?_
  refine g_iload_n (p0 := 2) (i := 1) dX10_puts_1 rfl rfl rfl ?_
  refine g_cV1R (p0 := 5) (r1 := mX10_placeOf) dX10_puts_2 lX10_87 vX10_placeOf (by first | rfl | assumption | exact RW.s (by assumption) | exact TW.s (by assumption)) ⟨_, _, rfl⟩ (FITi rfl rfl) (Nat.le_of_ble_eq_true rfl) (placeOf_sp (by first | assumption | exact up_hit | exact up_nv (by omega) (by assumption) | exact up_mv (by omega) (by assumption) | exact up_nv (by omega) (up_nv (by omega) (by assumption)) | exact up_nv (by omega) up_hit | rfl) (by first | assumption | omega)) rfl ?_
  refine g_istore_n (p0 := 6) (i := 2) (ls2 := [_, _, _, _]) dX10_puts_5 rfl (Nat.le_of_ble_eq_true rfl) rfl rfl ?_
  refine g_aload_n (p0 := 7) (i := 0) dX10_puts_6 rfl rfl rfl ?_
  refine g_getR (p0 := 10) dX10_puts_7 fX10_7 (by first | rfl | assumption | exact RW.s (by assumption) | exact TW.s (by assumption)) rfl rfl ?_
  refine g_iconst (p0 := 11) (v := nI 3) dX10_puts_10 rfl rfl ?_
  first | ((with_reducible refine isN1 ?_); refine g_aldN (p0 := 12) dX10_puts_11 (by first | rfl | assumption | exact RW.s (by assumption) | exact TW.s (by assumption)) (by first | decide | assumption) (by omega) (by first | assumption | exact up_hit | exact up_nv (by omega) (by assumption) | exact up_mv (by omega) (by assumption) | exact up_nv (by omega) (up_nv (by omega) (by assumption)) | exact up_nv (by omega) up_hit | rfl) rfl ?_) | refine g_ald (p0 := 12) dX10_puts_11 (by first | rfl | assumption | exact RW.s (by assumption) | exact TW.s (by assumption)) (by assumption) (by first | assumption | exact up_hit | exact up_nv (by omega) (by assumption) | exact up_mv (by omega) (by assumption) | exact up_nv (by omega) (up_nv (by omega) (by assumption)) | exact up_nv (by omega) up_hit | rfl) rfl ?_
  refine g_istore_n (p0 := 13) (i := 3) (ls2 := [_, _, _, _]) dX10_puts_12 rfl (Nat.le_of_ble_eq_true rfl) rfl rfl ?_
  have h := puts_loop (x := x) (σ := σ) (Q := Ret (nI (ah (tm (σ 80)) s x)) (setR σ 80 (upd (insR (σ 80) (29 + s) (29 + ah (tm (σ 80)) s x) x) 3 (nI (s + 1))))) hs hs1 hp ⟨rfl, rfl⟩ (s - ah (tm (σ 80)) s x) s (by omega) (by omega)
  rw [shU_0, setR_id rfl] at h
  exact h
set_option maxRecDepth 20000 in
set_option maxHeartbeats 2000000 in
theorem takes_loop {s p : Nat} {v : Int32} {ρ : Nat → Int32} {σ : Sg} {Q : SP} (hs : ρ 3 = nI (s - 1)) (hs1 : s ≤ 160) (hp : p < s) (k : Q (some (ai v)) (setR σ 80 (remR ρ (29 + s) (29 + p)))) : ∀ m j, j + m = s - 1 → p ≤ j → WM mX10_takes Q 22 [some (ar 79), some (ai (nI p)), some (ai v), some (ai (nI j))] [] (setR σ 80 (shD ρ (29 + p) (29 + j))) := by
  intro m
  induction m with
  | zero =>
    intro j hj hjs
    obtain rfl : s - 1 = j := by omega
    have e1 : setR σ 80 (shD ρ (29 + p) (29 + (s - 1))) 80 3 = nI (s - 1) := by
      rw [setR_hit]
      have : ¬ (29 + p ≤ 3 ∧ 3 < 29 + (s - 1)) := by omega
      simp only [shD, if_neg this, hs]
    have e3 : shD ρ (29 + p) (29 + (s - 1)) = remR ρ (29 + s) (29 + p) := by
      rw [← shD_end, show 29 + s - 1 = 29 + (s - 1) by omega]
    refine g_iload_n (p0 := 23) (i := 3) dX10_takes_22 rfl rfl rfl ?_
    refine g_aload_n (p0 := 24) (i := 0) dX10_takes_23 rfl rfl rfl ?_
    refine g_getR (p0 := 27) dX10_takes_24 fX10_7 (by first | rfl | assumption | exact RW.s (by assumption) | exact TW.s (by assumption)) rfl rfl ?_
    refine g_iconst (p0 := 28) (v := nI 3) dX10_takes_27 rfl rfl ?_
    first | ((with_reducible refine isN1 ?_); refine g_aldN (p0 := 29) dX10_takes_28 (by first | rfl | assumption | exact RW.s (by assumption) | exact TW.s (by assumption)) (by first | decide | assumption) (by omega) (by first | assumption | exact up_hit | exact up_nv (by omega) (by assumption) | exact up_mv (by omega) (by assumption) | exact up_nv (by omega) (up_nv (by omega) (by assumption)) | exact up_nv (by omega) up_hit | rfl) rfl ?_) | refine g_ald (p0 := 29) dX10_takes_28 (by first | rfl | assumption | exact RW.s (by assumption) | exact TW.s (by assumption)) (by assumption) (by first | assumption | exact up_hit | exact up_nv (by omega) (by assumption) | exact up_mv (by omega) (by assumption) | exact up_nv (by omega) (up_nv (by omega) (by assumption)) | exact up_nv (by omega) up_hit | rfl) rfl ?_
    first | ((with_reducible refine isN2 ?_); refine g_icmpN_ge (tgt := 58) (p1 := 32) dX10_takes_29 rfl (by omega) (by omega) rfl (fun c_29 => ?_) (fun c_29 => by exfalso; first | omega | contradiction | exact absurd (by assumption) c_29 | (simp_all; done))) | refine g_icmp_ge (tgt := 58) (p1 := 32) dX10_takes_29 rfl rfl (fun c_29 => ?_) (fun c_29 => by exfalso; first | omega | contradiction | exact absurd (by assumption) c_29 | (simp_all; done))
    refine g_iload_n (p0 := 59) (i := 2) dX10_takes_58 rfl rfl rfl ?_
    refine g_ireturn dX10_takes_59 rfl rfl (?_)
    rw [e3]
    exact k
  | succ m ih =>
    intro j hj hjs
    have e1 : setR σ 80 (shD ρ (29 + p) (29 + j)) 80 3 = nI (s - 1) := by
      rw [setR_hit]
      have : ¬ (29 + p ≤ 3 ∧ 3 < 29 + j) := by omega
      simp only [shD, if_neg this, hs]
    have e2 : setR σ 80 (shD ρ (29 + p) (29 + j)) 80 (29 + j + 1) = ρ (29 + j + 1) := by
      rw [setR_hit]
      have : ¬ (29 + p ≤ 29 + j + 1 ∧ 29 + j + 1 < 29 + j) := by omega
      simp only [shD, if_neg this]
    have e3 : up (setR σ 80 (shD ρ (29 + p) (29 + j))) 80 (29 + j) (ρ (29 + j + 1)) = setR σ 80 (shD ρ (29 + p) (29 + (j + 1))) := by
      rw [up_setR, setR_setR, setR_hit, shD_step (by omega)]
      rfl
    refine g_iload_n (p0 := 23) (i := 3) dX10_takes_22 rfl rfl rfl ?_
    refine g_aload_n (p0 := 24) (i := 0) dX10_takes_23 rfl rfl rfl ?_
    refine g_getR (p0 := 27) dX10_takes_24 fX10_7 (by first | rfl | assumption | exact RW.s (by assumption) | exact TW.s (by assumption)) rfl rfl ?_
    refine g_iconst (p0 := 28) (v := nI 3) dX10_takes_27 rfl rfl ?_
    first | ((with_reducible refine isN1 ?_); refine g_aldN (p0 := 29) dX10_takes_28 (by first | rfl | assumption | exact RW.s (by assumption) | exact TW.s (by assumption)) (by first | decide | assumption) (by omega) (by first | assumption | exact up_hit | exact up_nv (by omega) (by assumption) | exact up_mv (by omega) (by assumption) | exact up_nv (by omega) (up_nv (by omega) (by assumption)) | exact up_nv (by omega) up_hit | rfl) rfl ?_) | refine g_ald (p0 := 29) dX10_takes_28 (by first | rfl | assumption | exact RW.s (by assumption) | exact TW.s (by assumption)) (by assumption) (by first | assumption | exact up_hit | exact up_nv (by omega) (by assumption) | exact up_mv (by omega) (by assumption) | exact up_nv (by omega) (up_nv (by omega) (by assumption)) | exact up_nv (by omega) up_hit | rfl) rfl ?_
    first | ((with_reducible refine isN2 ?_); refine g_icmpN_ge (tgt := 58) (p1 := 32) dX10_takes_29 rfl (by omega) (by omega) rfl (fun c_29 => by exfalso; first | omega | contradiction | exact absurd (by assumption) c_29 | (simp_all; done)) (fun c_29 => ?_)) | refine g_icmp_ge (tgt := 58) (p1 := 32) dX10_takes_29 rfl rfl (fun c_29 => by exfalso; first | omega | contradiction | exact absurd (by assumption) c_29 | (simp_all; done)) (fun c_29 => ?_)
    refine g_aload_n (p0 := 33) (i := 0) dX10_takes_32 rfl rfl rfl ?_
    refine g_getR (p0 := 36) dX10_takes_33 fX10_7 (by first | rfl | assumption | exact RW.s (by assumption) | exact TW.s (by assumption)) rfl rfl ?_
    refine g_bipush (p0 := 38) (v := nI 29) dX10_takes_36 (by decide) rfl ?_
    refine g_iload_n (p0 := 39) (i := 3) dX10_takes_38 rfl rfl rfl ?_
    first | ((with_reducible refine isN2 ?_); refine g_iaddN (p0 := 40) dX10_takes_39 rfl ?_) | refine g_iadd (p0 := 40) dX10_takes_39 rfl ?_
    refine g_aload_n (p0 := 41) (i := 0) dX10_takes_40 rfl rfl rfl ?_
    refine g_getR (p0 := 44) dX10_takes_41 fX10_7 (by first | rfl | assumption | exact RW.s (by assumption) | exact TW.s (by assumption)) rfl rfl ?_
    refine g_bipush (p0 := 46) (v := nI 29) dX10_takes_44 (by decide) rfl ?_
    refine g_iload_n (p0 := 47) (i := 3) dX10_takes_46 rfl rfl rfl ?_
    first | ((with_reducible refine isN2 ?_); refine g_iaddN (p0 := 48) dX10_takes_47 rfl ?_) | refine g_iadd (p0 := 48) dX10_takes_47 rfl ?_
    refine g_iconst (p0 := 49) (v := nI 1) dX10_takes_48 rfl rfl ?_
    first | ((with_reducible refine isN2 ?_); refine g_iaddN (p0 := 50) dX10_takes_49 rfl ?_) | refine g_iadd (p0 := 50) dX10_takes_49 rfl ?_
    first | ((with_reducible refine isN1 ?_); refine g_aldN (p0 := 51) dX10_takes_50 (by first | rfl | assumption | exact RW.s (by assumption) | exact TW.s (by assumption)) (by first | decide | assumption) (by omega) (by first | assumption | exact up_hit | exact up_nv (by omega) (by assumption) | exact up_mv (by omega) (by assumption) | exact up_nv (by omega) (up_nv (by omega) (by assumption)) | exact up_nv (by omega) up_hit | rfl) rfl ?_) | refine g_ald (p0 := 51) dX10_takes_50 (by first | rfl | assumption | exact RW.s (by assumption) | exact TW.s (by assumption)) (by assumption) (by first | assumption | exact up_hit | exact up_nv (by omega) (by assumption) | exact up_mv (by omega) (by assumption) | exact up_nv (by omega) (up_nv (by omega) (by assumption)) | exact up_nv (by omega) up_hit | rfl) rfl ?_
    first | ((with_reducible refine isNS ?_); refine g_astN (p0 := 52) dX10_takes_51 (by first | rfl | assumption | exact RW.s (by assumption) | exact TW.s (by assumption)) (by first | decide | assumption) (by omega) rfl ?_) | refine g_ast (p0 := 52) dX10_takes_51 (by first | rfl | assumption | exact RW.s (by assumption) | exact TW.s (by assumption)) (by assumption) rfl ?_
    first | refine g_iinc1 (p0 := 55) (ls2 := [_, _, _, _]) dX10_takes_52 rfl rfl rfl ?_ | refine g_iinc (p0 := 55) (ls2 := [_, _, _, _]) dX10_takes_52 rfl rfl rfl rfl ?_
    refine g_goto (tgt := 22) dX10_takes_55 rfl ?_
    rw [e3]
    exact ih (j + 1) (by omega) (by omega)
set_option maxRecDepth 20000 in
set_option maxHeartbeats 2000000 in
theorem takes_sp {s p : Nat} {v : Int32} {σ : Sg} (hs : σ 80 3 = nI s) (hs1 : s ≤ 160) (hp : p < s) (hv : σ 80 (29 + p) = v) : CM mX10_takes [ar 79, ai (nI p)] σ (Ret v (setR σ 80 (remR (upd (σ 80) 3 (nI (s - 1))) (29 + s) (29 + p)))) := by
  refine CM_in (ls := [some (ar 79), some (ai (nI p)), none, none]) rfl ?_
  refine g_aload_n (p0 := 1) (i := 0) dX10_takes_0 rfl rfl rfl ?_
  refine g_getR (p0 := 4) dX10_takes_1 fX10_7 (by first | rfl | assumption | exact RW.s (by assumption) | exact TW.s (by assumption)) rfl rfl ?_
  refine g_bipush (p0 := 6) (v := nI 29) dX10_takes_4 (by decide) rfl ?_
  refine g_iload_n (p0 := 7) (i := 1) dX10_takes_6 rfl rfl rfl ?_
  first | ((with_reducible refine isN2 ?_); refine g_iaddN (p0 := 8) dX10_takes_7 rfl ?_) | refine g_iadd (p0 := 8) dX10_takes_7 rfl ?_
  first | ((with_reducible refine isN1 ?_); refine g_aldN (p0 := 9) dX10_takes_8 (by first | rfl | assumption | exact RW.s (by assumption) | exact TW.s (by assumption)) (by first | decide | assumption) (by omega) (by first | assumption | exact up_hit | exact up_nv (by omega) (by assumption) | exact up_mv (by omega) (by assumption) | exact up_nv (by omega) (up_nv (by omega) (by assumption)) | exact up_nv (by omega) up_hit | rfl) rfl ?_) | refine g_ald (p0 := 9) dX10_takes_8 (by first | rfl | assumption | exact RW.s (by assumption) | exact TW.s (by assumption)) (by assumption) (by first | assumption | exact up_hit | exact up_nv (by omega) (by assumption) | exact up_mv (by omega) (by assumption) | exact up_nv (by omega) (up_nv (by omega) (by assumption)) | exact up_nv (by omega) up_hit | rfl) rfl ?_
  refine g_istore_n (p0 := 10) (i := 2) (ls2 := [_, _, _, _]) dX10_takes_9 rfl (Nat.le_of_ble_eq_true rfl) rfl rfl ?_
  refine g_aload_n (p0 := 11) (i := 0) dX10_takes_10 rfl rfl rfl ?_
  refine g_getR (p0 := 14) dX10_takes_11 fX10_7 (by first | rfl | assumption | exact RW.s (by assumption) | exact TW.s (by assumption)) rfl rfl ?_
  refine g_iconst (p0 := 15) (v := nI 3) dX10_takes_14 rfl rfl ?_
  refine g_dup2 (p0 := 16) dX10_takes_15 rfl ?_
  first | ((with_reducible refine isN1 ?_); refine g_aldN (p0 := 17) dX10_takes_16 (by first | rfl | assumption | exact RW.s (by assumption) | exact TW.s (by assumption)) (by first | decide | assumption) (by omega) (by first | assumption | exact up_hit | exact up_nv (by omega) (by assumption) | exact up_mv (by omega) (by assumption) | exact up_nv (by omega) (up_nv (by omega) (by assumption)) | exact up_nv (by omega) up_hit | rfl) rfl ?_) | refine g_ald (p0 := 17) dX10_takes_16 (by first | rfl | assumption | exact RW.s (by assumption) | exact TW.s (by assumption)) (by assumption) (by first | assumption | exact up_hit | exact up_nv (by omega) (by assumption) | exact up_mv (by omega) (by assumption) | exact up_nv (by omega) (up_nv (by omega) (by assumption)) | exact up_nv (by omega) up_hit | rfl) rfl ?_
  refine g_iconst (p0 := 18) (v := nI 1) dX10_takes_17 rfl rfl ?_
  first | ((with_reducible refine isN2 ?_); refine g_isubN (p0 := 19) dX10_takes_18 (by omega) rfl ?_) | refine g_isub (p0 := 19) dX10_takes_18 rfl ?_
  first | ((with_reducible refine isNS ?_); refine g_astN (p0 := 20) dX10_takes_19 (by first | rfl | assumption | exact RW.s (by assumption) | exact TW.s (by assumption)) (by first | decide | assumption) (by omega) rfl ?_) | refine g_ast (p0 := 20) dX10_takes_19 (by first | rfl | assumption | exact RW.s (by assumption) | exact TW.s (by assumption)) (by assumption) rfl ?_
  refine g_iload_n (p0 := 21) (i := 1) dX10_takes_20 rfl rfl rfl ?_
  refine g_istore_n (p0 := 22) (i := 3) (ls2 := [_, _, _, _]) dX10_takes_21 rfl (Nat.le_of_ble_eq_true rfl) rfl rfl ?_
  have h := takes_loop (v := v) (σ := σ) (ρ := upd (σ 80) 3 (nI (s - 1))) (Q := Ret v (setR σ 80 (remR (upd (σ 80) 3 (nI (s - 1))) (29 + s) (29 + p)))) upd_hit hs1 hp ⟨rfl, rfl⟩ (s - 1 - p) p (by omega) (by omega)
  rw [shD_0] at h
  exact h
theorem nxt_ref {τ : Nat → Int32} {s : Nat} {pz bt : Int32} (hz : pz = nI 0 ∨ pz = nI 1) : (if s = 0 then nI 0 else τ (s - 1) + (if pz = nI 1 then nI 12 else nI 6) * bt) = nxt τ s pz bt := by
  rw [nxt]
  rcases hz with rfl | rfl
  · rfl
  · rfl
set_option maxRecDepth 20000 in
set_option maxHeartbeats 2000000 in
theorem begin_sp {s : Nat} {σ : Sg} (hs : σ 80 3 = nI s) (hs1 : s ≤ 160) (hz : σ 80 2 = nI 0 ∨ σ 80 2 = nI 1) : CM mX10_begin [ar 79] σ (Ret (nxt (tm (σ 80)) s (σ 80 2) (σ 80 0)) σ) := by
  refine CM_in (ls := [some (ar 79)]) rfl ?_
  refine g_aload_n (p0 := 1) (i := 0) dX10_begin_0 rfl rfl rfl ?_
  refine g_getR (p0 := 4) dX10_begin_1 fX10_7 (by first | rfl | assumption | exact RW.s (by assumption) | exact TW.s (by assumption)) rfl rfl ?_
  refine g_iconst (p0 := 5) (v := nI 3) dX10_begin_4 rfl rfl ?_
  first | ((with_reducible refine isN1 ?_); refine g_aldN (p0 := 6) dX10_begin_5 (by first | rfl | assumption | exact RW.s (by assumption) | exact TW.s (by assumption)) (by first | decide | assumption) (by omega) (by first | assumption | exact up_hit | exact up_nv (by omega) (by assumption) | exact up_mv (by omega) (by assumption) | exact up_nv (by omega) (up_nv (by omega) (by assumption)) | exact up_nv (by omega) up_hit | rfl) rfl ?_) | refine g_ald (p0 := 6) dX10_begin_5 (by first | rfl | assumption | exact RW.s (by assumption) | exact TW.s (by assumption)) (by assumption) (by first | assumption | exact up_hit | exact up_nv (by omega) (by assumption) | exact up_mv (by omega) (by assumption) | exact up_nv (by omega) (up_nv (by omega) (by assumption)) | exact up_nv (by omega) up_hit | rfl) rfl ?_
  first | ((with_reducible refine isN1 ?_); refine g_ifN_ne (tgt := 13) (p1 := 9) dX10_begin_6 rfl (by omega) rfl (fun c_6 => ?_) (fun c_6 => ?_)) | refine g_if_ne (tgt := 13) (p1 := 9) dX10_begin_6 rfl rfl (fun c_6 => ?_) (fun c_6 => ?_)
  · refine g_aload_n (p0 := 14) (i := 0) dX10_begin_13 rfl rfl rfl ?_
    refine g_getR (p0 := 17) dX10_begin_14 fX10_7 (by first | rfl | assumption | exact RW.s (by assumption) | exact TW.s (by assumption)) rfl rfl ?_
    refine g_bipush (p0 := 19) (v := nI 29) dX10_begin_17 (by decide) rfl ?_
    refine g_aload_n (p0 := 20) (i := 0) dX10_begin_19 rfl rfl rfl ?_
    refine g_getR (p0 := 23) dX10_begin_20 fX10_7 (by first | rfl | assumption | exact RW.s (by assumption) | exact TW.s (by assumption)) rfl rfl ?_
    refine g_iconst (p0 := 24) (v := nI 3) dX10_begin_23 rfl rfl ?_
    first | ((with_reducible refine isN1 ?_); refine g_aldN (p0 := 25) dX10_begin_24 (by first | rfl | assumption | exact RW.s (by assumption) | exact TW.s (by assumption)) (by first | decide | assumption) (by omega) (by first | assumption | exact up_hit | exact up_nv (by omega) (by assumption) | exact up_mv (by omega) (by assumption) | exact up_nv (by omega) (up_nv (by omega) (by assumption)) | exact up_nv (by omega) up_hit | rfl) rfl ?_) | refine g_ald (p0 := 25) dX10_begin_24 (by first | rfl | assumption | exact RW.s (by assumption) | exact TW.s (by assumption)) (by assumption) (by first | assumption | exact up_hit | exact up_nv (by omega) (by assumption) | exact up_mv (by omega) (by assumption) | exact up_nv (by omega) (up_nv (by omega) (by assumption)) | exact up_nv (by omega) up_hit | rfl) rfl ?_
    first | ((with_reducible refine isN2 ?_); refine g_iaddN (p0 := 26) dX10_begin_25 rfl ?_) | refine g_iadd (p0 := 26) dX10_begin_25 rfl ?_
    refine g_iconst (p0 := 27) (v := nI 1) dX10_begin_26 rfl rfl ?_
    first | ((with_reducible refine isN2 ?_); refine g_isubN (p0 := 28) dX10_begin_27 (by omega) rfl ?_) | refine g_isub (p0 := 28) dX10_begin_27 rfl ?_
    first | ((with_reducible refine isN1 ?_); refine g_aldN (p0 := 29) dX10_begin_28 (by first | rfl | assumption | exact RW.s (by assumption) | exact TW.s (by assumption)) (by first | decide | assumption) (by omega) rfl rfl ?_) | refine g_ald (p0 := 29) dX10_begin_28 (by first | rfl | assumption | exact RW.s (by assumption) | exact TW.s (by assumption)) (by assumption) rfl rfl ?_
    refine g_aload_n (p0 := 30) (i := 0) dX10_begin_29 rfl rfl rfl ?_
    refine g_getR (p0 := 33) dX10_begin_30 fX10_7 (by first | rfl | assumption | exact RW.s (by assumption) | exact TW.s (by assumption)) rfl rfl ?_
    refine g_iconst (p0 := 34) (v := nI 2) dX10_begin_33 rfl rfl ?_
    first | ((with_reducible refine isN1 ?_); refine g_aldN (p0 := 35) dX10_begin_34 (by first | rfl | assumption | exact RW.s (by assumption) | exact TW.s (by assumption)) (by first | decide | assumption) (by omega) (by first | assumption | exact up_hit | exact up_nv (by omega) (by assumption) | exact up_mv (by omega) (by assumption) | exact up_nv (by omega) (up_nv (by omega) (by assumption)) | exact up_nv (by omega) up_hit | rfl) rfl ?_) | refine g_ald (p0 := 35) dX10_begin_34 (by first | rfl | assumption | exact RW.s (by assumption) | exact TW.s (by assumption)) (by assumption) (by first | assumption | exact up_hit | exact up_nv (by omega) (by assumption) | exact up_mv (by omega) (by assumption) | exact up_nv (by omega) (up_nv (by omega) (by assumption)) | exact up_nv (by omega) up_hit | rfl) rfl ?_
    refine g_iconst (p0 := 36) (v := nI 1) dX10_begin_35 rfl rfl ?_
    first | ((with_reducible refine isN2 ?_); refine g_icmpN_ne (tgt := 44) (p1 := 39) dX10_begin_36 rfl (by omega) (by omega) rfl (fun c_36 => ?_) (fun c_36 => ?_)) | refine g_icmp_ne (tgt := 44) (p1 := 39) dX10_begin_36 rfl rfl (fun c_36 => ?_) (fun c_36 => ?_)
    · refine g_bipush (p0 := 46) (v := nI 6) dX10_begin_44 (by decide) rfl ?_
      refine g_aload_n (p0 := 47) (i := 0) dX10_begin_46 rfl rfl rfl ?_
      refine g_getR (p0 := 50) dX10_begin_47 fX10_7 (by first | rfl | assumption | exact RW.s (by assumption) | exact TW.s (by assumption)) rfl rfl ?_
      refine g_iconst (p0 := 51) (v := nI 0) dX10_begin_50 rfl rfl ?_
      first | ((with_reducible refine isN1 ?_); refine g_aldN (p0 := 52) dX10_begin_51 (by first | rfl | assumption | exact RW.s (by assumption) | exact TW.s (by assumption)) (by first | decide | assumption) (by omega) (by first | assumption | exact up_hit | exact up_nv (by omega) (by assumption) | exact up_mv (by omega) (by assumption) | exact up_nv (by omega) (up_nv (by omega) (by assumption)) | exact up_nv (by omega) up_hit | rfl) rfl ?_) | refine g_ald (p0 := 52) dX10_begin_51 (by first | rfl | assumption | exact RW.s (by assumption) | exact TW.s (by assumption)) (by assumption) (by first | assumption | exact up_hit | exact up_nv (by omega) (by assumption) | exact up_mv (by omega) (by assumption) | exact up_nv (by omega) (up_nv (by omega) (by assumption)) | exact up_nv (by omega) up_hit | rfl) rfl ?_
      first | ((with_reducible refine isN2 ?_); refine g_imulN (p0 := 53) dX10_begin_52 rfl ?_) | refine g_imul (p0 := 53) dX10_begin_52 rfl ?_
      first | ((with_reducible refine isN2 ?_); refine g_iaddN (p0 := 54) dX10_begin_53 rfl ?_) | refine g_iadd (p0 := 54) dX10_begin_53 rfl ?_
      refine g_ireturn dX10_begin_54 rfl rfl (?_)
      refine Ret.i ?_ rfl
      rw [← nxt_ref hz]
      first | (rw [if_neg (by omega), if_pos (by assumption)]; show σ 80 (29 + s - 1) + _ = σ 80 (29 + (s - 1)) + _; rw [show 29 + s - 1 = 29 + (s - 1) by omega]) | (rw [if_neg (by omega), if_neg (by assumption)]; show σ 80 (29 + s - 1) + _ = σ 80 (29 + (s - 1)) + _; rw [show 29 + s - 1 = 29 + (s - 1) by omega]) | rw [if_pos (by omega)]
    · refine g_bipush (p0 := 41) (v := nI 12) dX10_begin_39 (by decide) rfl ?_
      refine g_goto (tgt := 46) dX10_begin_41 rfl ?_
      refine g_aload_n (p0 := 47) (i := 0) dX10_begin_46 rfl rfl rfl ?_
      refine g_getR (p0 := 50) dX10_begin_47 fX10_7 (by first | rfl | assumption | exact RW.s (by assumption) | exact TW.s (by assumption)) rfl rfl ?_
      refine g_iconst (p0 := 51) (v := nI 0) dX10_begin_50 rfl rfl ?_
      first | ((with_reducible refine isN1 ?_); refine g_aldN (p0 := 52) dX10_begin_51 (by first | rfl | assumption | exact RW.s (by assumption) | exact TW.s (by assumption)) (by first | decide | assumption) (by omega) (by first | assumption | exact up_hit | exact up_nv (by omega) (by assumption) | exact up_mv (by omega) (by assumption) | exact up_nv (by omega) (up_nv (by omega) (by assumption)) | exact up_nv (by omega) up_hit | rfl) rfl ?_) | refine g_ald (p0 := 52) dX10_begin_51 (by first | rfl | assumption | exact RW.s (by assumption) | exact TW.s (by assumption)) (by assumption) (by first | assumption | exact up_hit | exact up_nv (by omega) (by assumption) | exact up_mv (by omega) (by assumption) | exact up_nv (by omega) (up_nv (by omega) (by assumption)) | exact up_nv (by omega) up_hit | rfl) rfl ?_
      first | ((with_reducible refine isN2 ?_); refine g_imulN (p0 := 53) dX10_begin_52 rfl ?_) | refine g_imul (p0 := 53) dX10_begin_52 rfl ?_
      first | ((with_reducible refine isN2 ?_); refine g_iaddN (p0 := 54) dX10_begin_53 rfl ?_) | refine g_iadd (p0 := 54) dX10_begin_53 rfl ?_
      refine g_ireturn dX10_begin_54 rfl rfl (?_)
      refine Ret.i ?_ rfl
      rw [← nxt_ref hz]
      first | (rw [if_neg (by omega), if_pos (by assumption)]; show σ 80 (29 + s - 1) + _ = σ 80 (29 + (s - 1)) + _; rw [show 29 + s - 1 = 29 + (s - 1) by omega]) | (rw [if_neg (by omega), if_neg (by assumption)]; show σ 80 (29 + s - 1) + _ = σ 80 (29 + (s - 1)) + _; rw [show 29 + s - 1 = 29 + (s - 1) by omega]) | rw [if_pos (by omega)]
  · refine g_iconst (p0 := 10) (v := nI 0) dX10_begin_9 rfl rfl ?_
    refine g_goto (tgt := 54) dX10_begin_10 rfl ?_
    refine g_ireturn dX10_begin_54 rfl rfl (?_)
    refine Ret.i ?_ rfl
    rw [← nxt_ref hz]
    first | (rw [if_neg (by omega), if_pos (by assumption)]; show σ 80 (29 + s - 1) + _ = σ 80 (29 + (s - 1)) + _; rw [show 29 + s - 1 = 29 + (s - 1) by omega]) | (rw [if_neg (by omega), if_neg (by assumption)]; show σ 80 (29 + s - 1) + _ = σ 80 (29 + (s - 1)) + _; rw [show 29 + s - 1 = 29 + (s - 1) by omega]) | rw [if_pos (by omega)]
set_option maxRecDepth 20000 in
set_option maxHeartbeats 2000000 in
theorem isRoom_T {s j c : Nat} {σ : Sg} (hs : σ 80 3 = nI s) (hs1 : s ≤ 160) (hz : σ 80 2 = nI 0 ∨ σ 80 2 = nI 1) (hj : j < 25) (hc : σ 80 (4 + j) = nI c) (hc1 : c < 25) (h1 : s + mor c ≤ 160) (h2 : ¬ nI 9999 < endT (tm (σ 80)) s (σ 80 2) (σ 80 0) (mor c)) : CM mX10_isRoom [ar 79, ai (nI j)] σ (Ret (nI 1) σ) := by
  have h1m : s + (c / 5 + 1 + (c % 5 + 1)) ≤ 160 := h1
  refine CM_in (ls := [some (ar 79), some (ai (nI j)), none, none]) rfl ?_
  refine g_aload_n (p0 := 1) (i := 0) dX10_isRoom_0 rfl rfl rfl ?_
  refine g_getR (p0 := 4) dX10_isRoom_1 fX10_7 (by first | rfl | assumption | exact RW.s (by assumption) | exact TW.s (by assumption)) rfl rfl ?_
  refine g_iconst (p0 := 5) (v := nI 4) dX10_isRoom_4 rfl rfl ?_
  refine g_iload_n (p0 := 6) (i := 1) dX10_isRoom_5 rfl rfl rfl ?_
  first | ((with_reducible refine isN2 ?_); refine g_iaddN (p0 := 7) dX10_isRoom_6 rfl ?_) | refine g_iadd (p0 := 7) dX10_isRoom_6 rfl ?_
  first | ((with_reducible refine isN1 ?_); refine g_aldN (p0 := 8) dX10_isRoom_7 (by first | rfl | assumption | exact RW.s (by assumption) | exact TW.s (by assumption)) (by first | decide | assumption) (by omega) (by first | assumption | exact up_hit | exact up_nv (by omega) (by assumption) | exact up_mv (by omega) (by assumption) | exact up_nv (by omega) (up_nv (by omega) (by assumption)) | exact up_nv (by omega) up_hit | rfl) rfl ?_) | refine g_ald (p0 := 8) dX10_isRoom_7 (by first | rfl | assumption | exact RW.s (by assumption) | exact TW.s (by assumption)) (by assumption) (by first | assumption | exact up_hit | exact up_nv (by omega) (by assumption) | exact up_mv (by omega) (by assumption) | exact up_nv (by omega) (up_nv (by omega) (by assumption)) | exact up_nv (by omega) up_hit | rfl) rfl ?_
  refine g_cS1R (p0 := 11) (r1 := mX10_rowOf) dX10_isRoom_8 (Or.inl lX10_69) vX10_rowOf (FITi rfl rfl) (Nat.le_of_ble_eq_true rfl) (rrowOf_sp (by first | assumption | omega)) rfl ?_
  refine g_istore_n (p0 := 12) (i := 2) (ls2 := [_, _, _, _]) dX10_isRoom_11 rfl (Nat.le_of_ble_eq_true rfl) rfl rfl ?_
  refine g_aload_n (p0 := 13) (i := 0) dX10_isRoom_12 rfl rfl rfl ?_
  refine g_getR (p0 := 16) dX10_isRoom_13 fX10_7 (by first | rfl | assumption | exact RW.s (by assumption) | exact TW.s (by assumption)) rfl rfl ?_
  refine g_iconst (p0 := 17) (v := nI 4) dX10_isRoom_16 rfl rfl ?_
  refine g_iload_n (p0 := 18) (i := 1) dX10_isRoom_17 rfl rfl rfl ?_
  first | ((with_reducible refine isN2 ?_); refine g_iaddN (p0 := 19) dX10_isRoom_18 rfl ?_) | refine g_iadd (p0 := 19) dX10_isRoom_18 rfl ?_
  first | ((with_reducible refine isN1 ?_); refine g_aldN (p0 := 20) dX10_isRoom_19 (by first | rfl | assumption | exact RW.s (by assumption) | exact TW.s (by assumption)) (by first | decide | assumption) (by omega) (by first | assumption | exact up_hit | exact up_nv (by omega) (by assumption) | exact up_mv (by omega) (by assumption) | exact up_nv (by omega) (up_nv (by omega) (by assumption)) | exact up_nv (by omega) up_hit | rfl) rfl ?_) | refine g_ald (p0 := 20) dX10_isRoom_19 (by first | rfl | assumption | exact RW.s (by assumption) | exact TW.s (by assumption)) (by assumption) (by first | assumption | exact up_hit | exact up_nv (by omega) (by assumption) | exact up_mv (by omega) (by assumption) | exact up_nv (by omega) (up_nv (by omega) (by assumption)) | exact up_nv (by omega) up_hit | rfl) rfl ?_
  refine g_cS1R (p0 := 23) (r1 := mX10_columnOf) dX10_isRoom_20 (Or.inl lX10_73) vX10_columnOf (FITi rfl rfl) (Nat.le_of_ble_eq_true rfl) (rcolumnOf_sp (by first | assumption | omega)) rfl ?_
  refine g_istore_n (p0 := 24) (i := 3) (ls2 := [_, _, _, _]) dX10_isRoom_23 rfl (Nat.le_of_ble_eq_true rfl) rfl rfl ?_
  refine g_aload_n (p0 := 25) (i := 0) dX10_isRoom_24 rfl rfl rfl ?_
  refine g_getR (p0 := 28) dX10_isRoom_25 fX10_7 (by first | rfl | assumption | exact RW.s (by assumption) | exact TW.s (by assumption)) rfl rfl ?_
  refine g_iconst (p0 := 29) (v := nI 3) dX10_isRoom_28 rfl rfl ?_
  first | ((with_reducible refine isN1 ?_); refine g_aldN (p0 := 30) dX10_isRoom_29 (by first | rfl | assumption | exact RW.s (by assumption) | exact TW.s (by assumption)) (by first | decide | assumption) (by omega) (by first | assumption | exact up_hit | exact up_nv (by omega) (by assumption) | exact up_mv (by omega) (by assumption) | exact up_nv (by omega) (up_nv (by omega) (by assumption)) | exact up_nv (by omega) up_hit | rfl) rfl ?_) | refine g_ald (p0 := 30) dX10_isRoom_29 (by first | rfl | assumption | exact RW.s (by assumption) | exact TW.s (by assumption)) (by assumption) (by first | assumption | exact up_hit | exact up_nv (by omega) (by assumption) | exact up_mv (by omega) (by assumption) | exact up_nv (by omega) (up_nv (by omega) (by assumption)) | exact up_nv (by omega) up_hit | rfl) rfl ?_
  refine g_iload_n (p0 := 31) (i := 2) dX10_isRoom_30 rfl rfl rfl ?_
  first | ((with_reducible refine isN2 ?_); refine g_iaddN (p0 := 32) dX10_isRoom_31 rfl ?_) | refine g_iadd (p0 := 32) dX10_isRoom_31 rfl ?_
  refine g_iload_n (p0 := 33) (i := 3) dX10_isRoom_32 rfl rfl rfl ?_
  first | ((with_reducible refine isN2 ?_); refine g_iaddN (p0 := 34) dX10_isRoom_33 rfl ?_) | refine g_iadd (p0 := 34) dX10_isRoom_33 rfl ?_
  refine g_sipush (p0 := 37) (v := nI 160) dX10_isRoom_34 (by decide) rfl ?_
  first | ((with_reducible refine isN2 ?_); refine g_icmpN_gt (tgt := 67) (p1 := 40) dX10_isRoom_37 rfl (by omega) (by omega) rfl (fun c_37 => by exfalso; first | omega | exact h2 c_37) (fun c_37 => ?_)) | refine g_icmp_gt (tgt := 67) (p1 := 40) dX10_isRoom_37 rfl rfl (fun c_37 => by exfalso; first | omega | exact h2 c_37) (fun c_37 => ?_)
  refine g_aload_n (p0 := 41) (i := 0) dX10_isRoom_40 rfl rfl rfl ?_
  refine g_cV0R (p0 := 44) (r1 := mX10_begin) dX10_isRoom_41 lX10_90 vX10_begin (by first | rfl | assumption | exact RW.s (by assumption) | exact TW.s (by assumption)) ⟨_, _, rfl⟩ (FITi rfl rfl) (Nat.le_of_ble_eq_true rfl) (begin_sp (by first | assumption | exact up_hit | exact up_nv (by omega) (by assumption) | exact up_mv (by omega) (by assumption) | exact up_nv (by omega) (up_nv (by omega) (by assumption)) | exact up_nv (by omega) up_hit | rfl) (by first | assumption | omega) (by assumption)) rfl ?_
  refine g_iload_n (p0 := 45) (i := 2) dX10_isRoom_44 rfl rfl rfl ?_
  refine g_iload_n (p0 := 46) (i := 3) dX10_isRoom_45 rfl rfl rfl ?_
  first | ((with_reducible refine isN2 ?_); refine g_iaddN (p0 := 47) dX10_isRoom_46 rfl ?_) | refine g_iadd (p0 := 47) dX10_isRoom_46 rfl ?_
  refine g_iconst (p0 := 48) (v := nI 1) dX10_isRoom_47 rfl rfl ?_
  first | ((with_reducible refine isN2 ?_); refine g_iaddN (p0 := 49) dX10_isRoom_48 rfl ?_) | refine g_iadd (p0 := 49) dX10_isRoom_48 rfl ?_
  refine g_aload_n (p0 := 50) (i := 0) dX10_isRoom_49 rfl rfl rfl ?_
  refine g_getR (p0 := 53) dX10_isRoom_50 fX10_7 (by first | rfl | assumption | exact RW.s (by assumption) | exact TW.s (by assumption)) rfl rfl ?_
  refine g_iconst (p0 := 54) (v := nI 0) dX10_isRoom_53 rfl rfl ?_
  first | ((with_reducible refine isN1 ?_); refine g_aldN (p0 := 55) dX10_isRoom_54 (by first | rfl | assumption | exact RW.s (by assumption) | exact TW.s (by assumption)) (by first | decide | assumption) (by omega) (by first | assumption | exact up_hit | exact up_nv (by omega) (by assumption) | exact up_mv (by omega) (by assumption) | exact up_nv (by omega) (up_nv (by omega) (by assumption)) | exact up_nv (by omega) up_hit | rfl) rfl ?_) | refine g_ald (p0 := 55) dX10_isRoom_54 (by first | rfl | assumption | exact RW.s (by assumption) | exact TW.s (by assumption)) (by assumption) (by first | assumption | exact up_hit | exact up_nv (by omega) (by assumption) | exact up_mv (by omega) (by assumption) | exact up_nv (by omega) (up_nv (by omega) (by assumption)) | exact up_nv (by omega) up_hit | rfl) rfl ?_
  first | ((with_reducible refine isN2 ?_); refine g_imulN (p0 := 56) dX10_isRoom_55 rfl ?_) | refine g_imul (p0 := 56) dX10_isRoom_55 rfl ?_
  first | ((with_reducible refine isN2 ?_); refine g_iaddN (p0 := 57) dX10_isRoom_56 rfl ?_) | refine g_iadd (p0 := 57) dX10_isRoom_56 rfl ?_
  refine g_sipush (p0 := 60) (v := nI 9999) dX10_isRoom_57 (by decide) rfl ?_
  first | ((with_reducible refine isN2 ?_); refine g_icmpN_gt (tgt := 67) (p1 := 63) dX10_isRoom_60 rfl (by omega) (by omega) rfl (fun c_60 => by exfalso; first | omega | exact h2 c_60) (fun c_60 => ?_)) | refine g_icmp_gt (tgt := 67) (p1 := 63) dX10_isRoom_60 rfl rfl (fun c_60 => by exfalso; first | omega | exact h2 c_60) (fun c_60 => ?_)
  refine g_iconst (p0 := 64) (v := nI 1) dX10_isRoom_63 rfl rfl ?_
  refine g_goto (tgt := 68) dX10_isRoom_64 rfl ?_
  refine g_ireturn dX10_isRoom_68 rfl (by first | rfl | exact bool_narrow (by first | exact Or.inl rfl | exact Or.inr rfl | assumption | (split <;> first | exact Or.inl rfl | exact Or.inr rfl))) (?_)
  exact ⟨rfl, rfl⟩
set_option maxRecDepth 20000 in
set_option maxHeartbeats 2000000 in
theorem isRoom_F {s j c : Nat} {σ : Sg} (hs : σ 80 3 = nI s) (hs1 : s ≤ 160) (hz : σ 80 2 = nI 0 ∨ σ 80 2 = nI 1) (hj : j < 25) (hc : σ 80 (4 + j) = nI c) (hc1 : c < 25) (h1 : s + mor c ≤ 160 → nI 9999 < endT (tm (σ 80)) s (σ 80 2) (σ 80 0) (mor c)) : CM mX10_isRoom [ar 79, ai (nI j)] σ (Ret (nI 0) σ) := by
  by_cases hle : s + (c / 5 + 1 + (c % 5 + 1)) ≤ 160
  · have hlt := h1 hle
    refine CM_in (ls := [some (ar 79), some (ai (nI j)), none, none]) rfl ?_
    refine g_aload_n (p0 := 1) (i := 0) dX10_isRoom_0 rfl rfl rfl ?_
    refine g_getR (p0 := 4) dX10_isRoom_1 fX10_7 (by first | rfl | assumption | exact RW.s (by assumption) | exact TW.s (by assumption)) rfl rfl ?_
    refine g_iconst (p0 := 5) (v := nI 4) dX10_isRoom_4 rfl rfl ?_
    refine g_iload_n (p0 := 6) (i := 1) dX10_isRoom_5 rfl rfl rfl ?_
    first | ((with_reducible refine isN2 ?_); refine g_iaddN (p0 := 7) dX10_isRoom_6 rfl ?_) | refine g_iadd (p0 := 7) dX10_isRoom_6 rfl ?_
    first | ((with_reducible refine isN1 ?_); refine g_aldN (p0 := 8) dX10_isRoom_7 (by first | rfl | assumption | exact RW.s (by assumption) | exact TW.s (by assumption)) (by first | decide | assumption) (by omega) (by first | assumption | exact up_hit | exact up_nv (by omega) (by assumption) | exact up_mv (by omega) (by assumption) | exact up_nv (by omega) (up_nv (by omega) (by assumption)) | exact up_nv (by omega) up_hit | rfl) rfl ?_) | refine g_ald (p0 := 8) dX10_isRoom_7 (by first | rfl | assumption | exact RW.s (by assumption) | exact TW.s (by assumption)) (by assumption) (by first | assumption | exact up_hit | exact up_nv (by omega) (by assumption) | exact up_mv (by omega) (by assumption) | exact up_nv (by omega) (up_nv (by omega) (by assumption)) | exact up_nv (by omega) up_hit | rfl) rfl ?_
    refine g_cS1R (p0 := 11) (r1 := mX10_rowOf) dX10_isRoom_8 (Or.inl lX10_69) vX10_rowOf (FITi rfl rfl) (Nat.le_of_ble_eq_true rfl) (rrowOf_sp (by first | assumption | omega)) rfl ?_
    refine g_istore_n (p0 := 12) (i := 2) (ls2 := [_, _, _, _]) dX10_isRoom_11 rfl (Nat.le_of_ble_eq_true rfl) rfl rfl ?_
    refine g_aload_n (p0 := 13) (i := 0) dX10_isRoom_12 rfl rfl rfl ?_
    refine g_getR (p0 := 16) dX10_isRoom_13 fX10_7 (by first | rfl | assumption | exact RW.s (by assumption) | exact TW.s (by assumption)) rfl rfl ?_
    refine g_iconst (p0 := 17) (v := nI 4) dX10_isRoom_16 rfl rfl ?_
    refine g_iload_n (p0 := 18) (i := 1) dX10_isRoom_17 rfl rfl rfl ?_
    first | ((with_reducible refine isN2 ?_); refine g_iaddN (p0 := 19) dX10_isRoom_18 rfl ?_) | refine g_iadd (p0 := 19) dX10_isRoom_18 rfl ?_
    first | ((with_reducible refine isN1 ?_); refine g_aldN (p0 := 20) dX10_isRoom_19 (by first | rfl | assumption | exact RW.s (by assumption) | exact TW.s (by assumption)) (by first | decide | assumption) (by omega) (by first | assumption | exact up_hit | exact up_nv (by omega) (by assumption) | exact up_mv (by omega) (by assumption) | exact up_nv (by omega) (up_nv (by omega) (by assumption)) | exact up_nv (by omega) up_hit | rfl) rfl ?_) | refine g_ald (p0 := 20) dX10_isRoom_19 (by first | rfl | assumption | exact RW.s (by assumption) | exact TW.s (by assumption)) (by assumption) (by first | assumption | exact up_hit | exact up_nv (by omega) (by assumption) | exact up_mv (by omega) (by assumption) | exact up_nv (by omega) (up_nv (by omega) (by assumption)) | exact up_nv (by omega) up_hit | rfl) rfl ?_
    refine g_cS1R (p0 := 23) (r1 := mX10_columnOf) dX10_isRoom_20 (Or.inl lX10_73) vX10_columnOf (FITi rfl rfl) (Nat.le_of_ble_eq_true rfl) (rcolumnOf_sp (by first | assumption | omega)) rfl ?_
    refine g_istore_n (p0 := 24) (i := 3) (ls2 := [_, _, _, _]) dX10_isRoom_23 rfl (Nat.le_of_ble_eq_true rfl) rfl rfl ?_
    refine g_aload_n (p0 := 25) (i := 0) dX10_isRoom_24 rfl rfl rfl ?_
    refine g_getR (p0 := 28) dX10_isRoom_25 fX10_7 (by first | rfl | assumption | exact RW.s (by assumption) | exact TW.s (by assumption)) rfl rfl ?_
    refine g_iconst (p0 := 29) (v := nI 3) dX10_isRoom_28 rfl rfl ?_
    first | ((with_reducible refine isN1 ?_); refine g_aldN (p0 := 30) dX10_isRoom_29 (by first | rfl | assumption | exact RW.s (by assumption) | exact TW.s (by assumption)) (by first | decide | assumption) (by omega) (by first | assumption | exact up_hit | exact up_nv (by omega) (by assumption) | exact up_mv (by omega) (by assumption) | exact up_nv (by omega) (up_nv (by omega) (by assumption)) | exact up_nv (by omega) up_hit | rfl) rfl ?_) | refine g_ald (p0 := 30) dX10_isRoom_29 (by first | rfl | assumption | exact RW.s (by assumption) | exact TW.s (by assumption)) (by assumption) (by first | assumption | exact up_hit | exact up_nv (by omega) (by assumption) | exact up_mv (by omega) (by assumption) | exact up_nv (by omega) (up_nv (by omega) (by assumption)) | exact up_nv (by omega) up_hit | rfl) rfl ?_
    refine g_iload_n (p0 := 31) (i := 2) dX10_isRoom_30 rfl rfl rfl ?_
    first | ((with_reducible refine isN2 ?_); refine g_iaddN (p0 := 32) dX10_isRoom_31 rfl ?_) | refine g_iadd (p0 := 32) dX10_isRoom_31 rfl ?_
    refine g_iload_n (p0 := 33) (i := 3) dX10_isRoom_32 rfl rfl rfl ?_
    first | ((with_reducible refine isN2 ?_); refine g_iaddN (p0 := 34) dX10_isRoom_33 rfl ?_) | refine g_iadd (p0 := 34) dX10_isRoom_33 rfl ?_
    refine g_sipush (p0 := 37) (v := nI 160) dX10_isRoom_34 (by decide) rfl ?_
    first | ((with_reducible refine isN2 ?_); refine g_icmpN_gt (tgt := 67) (p1 := 40) dX10_isRoom_37 rfl (by omega) (by omega) rfl (fun c_37 => by exfalso; first | omega | exact absurd hlt c_37) (fun c_37 => ?_)) | refine g_icmp_gt (tgt := 67) (p1 := 40) dX10_isRoom_37 rfl rfl (fun c_37 => by exfalso; first | omega | exact absurd hlt c_37) (fun c_37 => ?_)
    refine g_aload_n (p0 := 41) (i := 0) dX10_isRoom_40 rfl rfl rfl ?_
    refine g_cV0R (p0 := 44) (r1 := mX10_begin) dX10_isRoom_41 lX10_90 vX10_begin (by first | rfl | assumption | exact RW.s (by assumption) | exact TW.s (by assumption)) ⟨_, _, rfl⟩ (FITi rfl rfl) (Nat.le_of_ble_eq_true rfl) (begin_sp (by first | assumption | exact up_hit | exact up_nv (by omega) (by assumption) | exact up_mv (by omega) (by assumption) | exact up_nv (by omega) (up_nv (by omega) (by assumption)) | exact up_nv (by omega) up_hit | rfl) (by first | assumption | omega) (by assumption)) rfl ?_
    refine g_iload_n (p0 := 45) (i := 2) dX10_isRoom_44 rfl rfl rfl ?_
    refine g_iload_n (p0 := 46) (i := 3) dX10_isRoom_45 rfl rfl rfl ?_
    first | ((with_reducible refine isN2 ?_); refine g_iaddN (p0 := 47) dX10_isRoom_46 rfl ?_) | refine g_iadd (p0 := 47) dX10_isRoom_46 rfl ?_
    refine g_iconst (p0 := 48) (v := nI 1) dX10_isRoom_47 rfl rfl ?_
    first | ((with_reducible refine isN2 ?_); refine g_iaddN (p0 := 49) dX10_isRoom_48 rfl ?_) | refine g_iadd (p0 := 49) dX10_isRoom_48 rfl ?_
    refine g_aload_n (p0 := 50) (i := 0) dX10_isRoom_49 rfl rfl rfl ?_
    refine g_getR (p0 := 53) dX10_isRoom_50 fX10_7 (by first | rfl | assumption | exact RW.s (by assumption) | exact TW.s (by assumption)) rfl rfl ?_
    refine g_iconst (p0 := 54) (v := nI 0) dX10_isRoom_53 rfl rfl ?_
    first | ((with_reducible refine isN1 ?_); refine g_aldN (p0 := 55) dX10_isRoom_54 (by first | rfl | assumption | exact RW.s (by assumption) | exact TW.s (by assumption)) (by first | decide | assumption) (by omega) (by first | assumption | exact up_hit | exact up_nv (by omega) (by assumption) | exact up_mv (by omega) (by assumption) | exact up_nv (by omega) (up_nv (by omega) (by assumption)) | exact up_nv (by omega) up_hit | rfl) rfl ?_) | refine g_ald (p0 := 55) dX10_isRoom_54 (by first | rfl | assumption | exact RW.s (by assumption) | exact TW.s (by assumption)) (by assumption) (by first | assumption | exact up_hit | exact up_nv (by omega) (by assumption) | exact up_mv (by omega) (by assumption) | exact up_nv (by omega) (up_nv (by omega) (by assumption)) | exact up_nv (by omega) up_hit | rfl) rfl ?_
    first | ((with_reducible refine isN2 ?_); refine g_imulN (p0 := 56) dX10_isRoom_55 rfl ?_) | refine g_imul (p0 := 56) dX10_isRoom_55 rfl ?_
    first | ((with_reducible refine isN2 ?_); refine g_iaddN (p0 := 57) dX10_isRoom_56 rfl ?_) | refine g_iadd (p0 := 57) dX10_isRoom_56 rfl ?_
    refine g_sipush (p0 := 60) (v := nI 9999) dX10_isRoom_57 (by decide) rfl ?_
    first | ((with_reducible refine isN2 ?_); refine g_icmpN_gt (tgt := 67) (p1 := 63) dX10_isRoom_60 rfl (by omega) (by omega) rfl (fun c_60 => ?_) (fun c_60 => by exfalso; first | omega | exact absurd hlt c_60)) | refine g_icmp_gt (tgt := 67) (p1 := 63) dX10_isRoom_60 rfl rfl (fun c_60 => ?_) (fun c_60 => by exfalso; first | omega | exact absurd hlt c_60)
    refine g_iconst (p0 := 68) (v := nI 0) dX10_isRoom_67 rfl rfl ?_
    refine g_ireturn dX10_isRoom_68 rfl (by first | rfl | exact bool_narrow (by first | exact Or.inl rfl | exact Or.inr rfl | assumption | (split <;> first | exact Or.inl rfl | exact Or.inr rfl))) (?_)
    exact ⟨rfl, rfl⟩
  refine CM_in (ls := [some (ar 79), some (ai (nI j)), none, none]) rfl ?_
  refine g_aload_n (p0 := 1) (i := 0) dX10_isRoom_0 rfl rfl rfl ?_
  refine g_getR (p0 := 4) dX10_isRoom_1 fX10_7 (by first | rfl | assumption | exact RW.s (by assumption) | exact TW.s (by assumption)) rfl rfl ?_
  refine g_iconst (p0 := 5) (v := nI 4) dX10_isRoom_4 rfl rfl ?_
  refine g_iload_n (p0 := 6) (i := 1) dX10_isRoom_5 rfl rfl rfl ?_
  first | ((with_reducible refine isN2 ?_); refine g_iaddN (p0 := 7) dX10_isRoom_6 rfl ?_) | refine g_iadd (p0 := 7) dX10_isRoom_6 rfl ?_
  first | ((with_reducible refine isN1 ?_); refine g_aldN (p0 := 8) dX10_isRoom_7 (by first | rfl | assumption | exact RW.s (by assumption) | exact TW.s (by assumption)) (by first | decide | assumption) (by omega) (by first | assumption | exact up_hit | exact up_nv (by omega) (by assumption) | exact up_mv (by omega) (by assumption) | exact up_nv (by omega) (up_nv (by omega) (by assumption)) | exact up_nv (by omega) up_hit | rfl) rfl ?_) | refine g_ald (p0 := 8) dX10_isRoom_7 (by first | rfl | assumption | exact RW.s (by assumption) | exact TW.s (by assumption)) (by assumption) (by first | assumption | exact up_hit | exact up_nv (by omega) (by assumption) | exact up_mv (by omega) (by assumption) | exact up_nv (by omega) (up_nv (by omega) (by assumption)) | exact up_nv (by omega) up_hit | rfl) rfl ?_
  refine g_cS1R (p0 := 11) (r1 := mX10_rowOf) dX10_isRoom_8 (Or.inl lX10_69) vX10_rowOf (FITi rfl rfl) (Nat.le_of_ble_eq_true rfl) (rrowOf_sp (by first | assumption | omega)) rfl ?_
  refine g_istore_n (p0 := 12) (i := 2) (ls2 := [_, _, _, _]) dX10_isRoom_11 rfl (Nat.le_of_ble_eq_true rfl) rfl rfl ?_
  refine g_aload_n (p0 := 13) (i := 0) dX10_isRoom_12 rfl rfl rfl ?_
  refine g_getR (p0 := 16) dX10_isRoom_13 fX10_7 (by first | rfl | assumption | exact RW.s (by assumption) | exact TW.s (by assumption)) rfl rfl ?_
  refine g_iconst (p0 := 17) (v := nI 4) dX10_isRoom_16 rfl rfl ?_
  refine g_iload_n (p0 := 18) (i := 1) dX10_isRoom_17 rfl rfl rfl ?_
  first | ((with_reducible refine isN2 ?_); refine g_iaddN (p0 := 19) dX10_isRoom_18 rfl ?_) | refine g_iadd (p0 := 19) dX10_isRoom_18 rfl ?_
  first | ((with_reducible refine isN1 ?_); refine g_aldN (p0 := 20) dX10_isRoom_19 (by first | rfl | assumption | exact RW.s (by assumption) | exact TW.s (by assumption)) (by first | decide | assumption) (by omega) (by first | assumption | exact up_hit | exact up_nv (by omega) (by assumption) | exact up_mv (by omega) (by assumption) | exact up_nv (by omega) (up_nv (by omega) (by assumption)) | exact up_nv (by omega) up_hit | rfl) rfl ?_) | refine g_ald (p0 := 20) dX10_isRoom_19 (by first | rfl | assumption | exact RW.s (by assumption) | exact TW.s (by assumption)) (by assumption) (by first | assumption | exact up_hit | exact up_nv (by omega) (by assumption) | exact up_mv (by omega) (by assumption) | exact up_nv (by omega) (up_nv (by omega) (by assumption)) | exact up_nv (by omega) up_hit | rfl) rfl ?_
  refine g_cS1R (p0 := 23) (r1 := mX10_columnOf) dX10_isRoom_20 (Or.inl lX10_73) vX10_columnOf (FITi rfl rfl) (Nat.le_of_ble_eq_true rfl) (rcolumnOf_sp (by first | assumption | omega)) rfl ?_
  refine g_istore_n (p0 := 24) (i := 3) (ls2 := [_, _, _, _]) dX10_isRoom_23 rfl (Nat.le_of_ble_eq_true rfl) rfl rfl ?_
  refine g_aload_n (p0 := 25) (i := 0) dX10_isRoom_24 rfl rfl rfl ?_
  refine g_getR (p0 := 28) dX10_isRoom_25 fX10_7 (by first | rfl | assumption | exact RW.s (by assumption) | exact TW.s (by assumption)) rfl rfl ?_
  refine g_iconst (p0 := 29) (v := nI 3) dX10_isRoom_28 rfl rfl ?_
  first | ((with_reducible refine isN1 ?_); refine g_aldN (p0 := 30) dX10_isRoom_29 (by first | rfl | assumption | exact RW.s (by assumption) | exact TW.s (by assumption)) (by first | decide | assumption) (by omega) (by first | assumption | exact up_hit | exact up_nv (by omega) (by assumption) | exact up_mv (by omega) (by assumption) | exact up_nv (by omega) (up_nv (by omega) (by assumption)) | exact up_nv (by omega) up_hit | rfl) rfl ?_) | refine g_ald (p0 := 30) dX10_isRoom_29 (by first | rfl | assumption | exact RW.s (by assumption) | exact TW.s (by assumption)) (by assumption) (by first | assumption | exact up_hit | exact up_nv (by omega) (by assumption) | exact up_mv (by omega) (by assumption) | exact up_nv (by omega) (up_nv (by omega) (by assumption)) | exact up_nv (by omega) up_hit | rfl) rfl ?_
  refine g_iload_n (p0 := 31) (i := 2) dX10_isRoom_30 rfl rfl rfl ?_
  first | ((with_reducible refine isN2 ?_); refine g_iaddN (p0 := 32) dX10_isRoom_31 rfl ?_) | refine g_iadd (p0 := 32) dX10_isRoom_31 rfl ?_
  refine g_iload_n (p0 := 33) (i := 3) dX10_isRoom_32 rfl rfl rfl ?_
  first | ((with_reducible refine isN2 ?_); refine g_iaddN (p0 := 34) dX10_isRoom_33 rfl ?_) | refine g_iadd (p0 := 34) dX10_isRoom_33 rfl ?_
  refine g_sipush (p0 := 37) (v := nI 160) dX10_isRoom_34 (by decide) rfl ?_
  first | ((with_reducible refine isN2 ?_); refine g_icmpN_gt (tgt := 67) (p1 := 40) dX10_isRoom_37 rfl (by omega) (by omega) rfl (fun c_37 => ?_) (fun c_37 => by exfalso; first | omega | contradiction | exact absurd (by assumption) c_37 | (simp_all; done))) | refine g_icmp_gt (tgt := 67) (p1 := 40) dX10_isRoom_37 rfl rfl (fun c_37 => ?_) (fun c_37 => by exfalso; first | omega | contradiction | exact absurd (by assumption) c_37 | (simp_all; done))
  refine g_iconst (p0 := 68) (v := nI 0) dX10_isRoom_67 rfl rfl ?_
  refine g_ireturn dX10_isRoom_68 rfl (by first | rfl | exact bool_narrow (by first | exact Or.inl rfl | exact Or.inr rfl | assumption | (split <;> first | exact Or.inl rfl | exact Or.inr rfl))) (?_)
  exact ⟨rfl, rfl⟩
/-- the reference's row behind n strokes of a letter whose first group has r -/
def rgP (ρ : Nat → Int32) (s : Nat) (t0 bt : Int32) (r n : Nat) : Nat → Int32 := fun k => if k = 3 then nI (s + n) else if 29 + s ≤ k ∧ k < 29 + s + n then t0 + nI (if k - (29 + s) < r then k - (29 + s) else k - (29 + s) + 2) * bt else ρ k
theorem rgP_0 {ρ : Nat → Int32} {s : Nat} {t0 bt : Int32} {r : Nat} (hs : ρ 3 = nI s) : rgP ρ s t0 bt r 0 = ρ := by
  funext k
  by_cases h3 : k = 3
  · subst h3; simp [rgP, hs]
  · have : ¬ (29 + s ≤ k ∧ k < 29 + s + 0) := by omega
    simp only [rgP, if_neg h3, if_neg this]
theorem rgP_step {ρ : Nat → Int32} {s : Nat} {t0 bt : Int32} {r n : Nat} : upd (upd (rgP ρ s t0 bt r n) (29 + (s + n)) (t0 + nI (if n < r then n else n + 2) * bt)) 3 (nI (s + n + 1)) = rgP ρ s t0 bt r (n + 1) := by
  funext k
  by_cases h3 : k = 3
  · subst h3; simp [upd, rgP]; rfl
  · by_cases hk : k = 29 + (s + n)
    · subst hk
      have h1 : 29 + s ≤ 29 + (s + n) ∧ 29 + (s + n) < 29 + s + (n + 1) := by omega
      have h2 : 29 + (s + n) - (29 + s) = n := by omega
      simp only [upd, rgP, if_neg h3, if_true, if_pos h1, h2]
    · have : (29 + s ≤ k ∧ k < 29 + s + (n + 1)) ↔ (29 + s ≤ k ∧ k < 29 + s + n) := by omega
      simp only [upd, rgP, if_neg h3, if_neg hk, this]
set_option maxRecDepth 20000 in
set_option maxHeartbeats 2000000 in
theorem rings_loop {s jl r q : Nat} {t0 : Int32} {σ : Sg} {Q : SP} (hn : s + (r + q) ≤ 160) (hr : r ≤ 5) (k : Q none (setR σ 80 (upd (rgP (σ 80) s t0 (σ 80 0) r (r + q)) 2 (nI 0)))) : ∀ m j, j + m = r + q → WM mX10_rings Q 33 [some (ar 79), some (ai (nI jl)), some (ai (nI r)), some (ai (nI q)), some (ai t0), some (ai (nI j))] [] (setR σ 80 (rgP (σ 80) s t0 (σ 80 0) r j)) := by
  intro m
  induction m with
  | zero =>
    intro j hj
    obtain rfl : j = r + q := by omega
    refine g_iload (p0 := 35) dX10_rings_33 rfl rfl ?_
    refine g_iload_n (p0 := 36) (i := 2) dX10_rings_35 rfl rfl rfl ?_
    refine g_iload_n (p0 := 37) (i := 3) dX10_rings_36 rfl rfl rfl ?_
    first | ((with_reducible refine isN2 ?_); refine g_iaddN (p0 := 38) dX10_rings_37 rfl ?_) | refine g_iadd (p0 := 38) dX10_rings_37 rfl ?_
    first | ((with_reducible refine isN2 ?_); refine g_icmpN_ge (tgt := 96) (p1 := 41) dX10_rings_38 rfl (by omega) (by omega) rfl (fun c_38 => ?_) (fun c_38 => by exfalso; first | omega | contradiction | exact absurd (by assumption) c_38 | (simp_all; done))) | refine g_icmp_ge (tgt := 96) (p1 := 41) dX10_rings_38 rfl rfl (fun c_38 => ?_) (fun c_38 => by exfalso; first | omega | contradiction | exact absurd (by assumption) c_38 | (simp_all; done))
    refine g_aload_n (p0 := 97) (i := 0) dX10_rings_96 rfl rfl rfl ?_
    refine g_getR (p0 := 100) dX10_rings_97 fX10_7 (by first | rfl | assumption | exact RW.s (by assumption) | exact TW.s (by assumption)) rfl rfl ?_
    refine g_iconst (p0 := 101) (v := nI 2) dX10_rings_100 rfl rfl ?_
    refine g_iconst (p0 := 102) (v := nI 0) dX10_rings_101 rfl rfl ?_
    first | ((with_reducible refine isNS ?_); refine g_astN (p0 := 103) dX10_rings_102 (by first | rfl | assumption | exact RW.s (by assumption) | exact TW.s (by assumption)) (by first | decide | assumption) (by omega) rfl ?_) | refine g_ast (p0 := 103) dX10_rings_102 (by first | rfl | assumption | exact RW.s (by assumption) | exact TW.s (by assumption)) (by assumption) rfl ?_
    refine g_return dX10_rings_103 rfl ?_
    rw [up_setR, setR_setR, setR_hit]
    exact k
  | succ m ih =>
    intro j hj
    obtain ⟨σj, hσ⟩ : ∃ z, z = setR σ 80 (rgP (σ 80) s t0 (σ 80 0) r j) := ⟨_, rfl⟩
    rw [← hσ]
    have e3 : σj 80 3 = nI (s + j) := by rw [hσ, setR_hit]; simp [rgP]
    have e0 : σj 80 0 = σ 80 0 := by
      rw [hσ, setR_hit]
      have : ¬ (29 + s ≤ 0 ∧ 0 < 29 + s + j) := by omega
      simp [rgP]
    have e4 : up (up σj 80 (29 + (s + j)) (t0 + nI (if j < r then j else j + 2) * σ 80 0)) 80 3 (nI (s + j + 1)) = setR σ 80 (rgP (σ 80) s t0 (σ 80 0) r (j + 1)) := by
      rw [hσ, up_setR, up_setR, setR_setR, setR_setR, setR_hit, setR_hit, rgP_step]
    by_cases hlt : j < r
    · rw [if_pos hlt] at e4
      refine g_iload (p0 := 35) dX10_rings_33 rfl rfl ?_
      refine g_iload_n (p0 := 36) (i := 2) dX10_rings_35 rfl rfl rfl ?_
      refine g_iload_n (p0 := 37) (i := 3) dX10_rings_36 rfl rfl rfl ?_
      first | ((with_reducible refine isN2 ?_); refine g_iaddN (p0 := 38) dX10_rings_37 rfl ?_) | refine g_iadd (p0 := 38) dX10_rings_37 rfl ?_
      first | ((with_reducible refine isN2 ?_); refine g_icmpN_ge (tgt := 96) (p1 := 41) dX10_rings_38 rfl (by omega) (by omega) rfl (fun c_38 => by exfalso; first | omega | contradiction | exact absurd (by assumption) c_38 | (simp_all; done)) (fun c_38 => ?_)) | refine g_icmp_ge (tgt := 96) (p1 := 41) dX10_rings_38 rfl rfl (fun c_38 => by exfalso; first | omega | contradiction | exact absurd (by assumption) c_38 | (simp_all; done)) (fun c_38 => ?_)
      refine g_aload_n (p0 := 42) (i := 0) dX10_rings_41 rfl rfl rfl ?_
      refine g_getR (p0 := 45) dX10_rings_42 fX10_7 (by first | rfl | assumption | exact RW.s (by assumption) | exact TW.s (by assumption)) rfl rfl ?_
      refine g_bipush (p0 := 47) (v := nI 29) dX10_rings_45 (by decide) rfl ?_
      refine g_aload_n (p0 := 48) (i := 0) dX10_rings_47 rfl rfl rfl ?_
      refine g_getR (p0 := 51) dX10_rings_48 fX10_7 (by first | rfl | assumption | exact RW.s (by assumption) | exact TW.s (by assumption)) rfl rfl ?_
      refine g_iconst (p0 := 52) (v := nI 3) dX10_rings_51 rfl rfl ?_
      first | ((with_reducible refine isN1 ?_); refine g_aldN (p0 := 53) dX10_rings_52 (by first | rfl | assumption | exact RW.s (by assumption) | exact TW.s (by assumption)) (by first | decide | assumption) (by omega) (by first | assumption | exact up_hit | exact up_nv (by omega) (by assumption) | exact up_mv (by omega) (by assumption) | exact up_nv (by omega) (up_nv (by omega) (by assumption)) | exact up_nv (by omega) up_hit | rfl) rfl ?_) | refine g_ald (p0 := 53) dX10_rings_52 (by first | rfl | assumption | exact RW.s (by assumption) | exact TW.s (by assumption)) (by assumption) (by first | assumption | exact up_hit | exact up_nv (by omega) (by assumption) | exact up_mv (by omega) (by assumption) | exact up_nv (by omega) (up_nv (by omega) (by assumption)) | exact up_nv (by omega) up_hit | rfl) rfl ?_
      first | ((with_reducible refine isN2 ?_); refine g_iaddN (p0 := 54) dX10_rings_53 rfl ?_) | refine g_iadd (p0 := 54) dX10_rings_53 rfl ?_
      refine g_iload (p0 := 56) dX10_rings_54 rfl rfl ?_
      refine g_iload (p0 := 58) dX10_rings_56 rfl rfl ?_
      refine g_iload_n (p0 := 59) (i := 2) dX10_rings_58 rfl rfl rfl ?_
      first | ((with_reducible refine isN2 ?_); refine g_icmpN_ge (tgt := 67) (p1 := 62) dX10_rings_59 rfl (by omega) (by omega) rfl (fun c_59 => by exfalso; first | omega | contradiction | exact absurd (by assumption) c_59 | (simp_all; done)) (fun c_59 => ?_)) | refine g_icmp_ge (tgt := 67) (p1 := 62) dX10_rings_59 rfl rfl (fun c_59 => by exfalso; first | omega | contradiction | exact absurd (by assumption) c_59 | (simp_all; done)) (fun c_59 => ?_)
      refine g_iload (p0 := 64) dX10_rings_62 rfl rfl ?_
      refine g_goto (tgt := 71) dX10_rings_64 rfl ?_
      refine g_aload_n (p0 := 72) (i := 0) dX10_rings_71 rfl rfl rfl ?_
      refine g_getR (p0 := 75) dX10_rings_72 fX10_7 (by first | rfl | assumption | exact RW.s (by assumption) | exact TW.s (by assumption)) rfl rfl ?_
      refine g_iconst (p0 := 76) (v := nI 0) dX10_rings_75 rfl rfl ?_
      first | ((with_reducible refine isN1 ?_); refine g_aldN (p0 := 77) dX10_rings_76 (by first | rfl | assumption | exact RW.s (by assumption) | exact TW.s (by assumption)) (by first | decide | assumption) (by omega) (by first | assumption | exact up_hit | exact up_nv (by omega) (by assumption) | exact up_mv (by omega) (by assumption) | exact up_nv (by omega) (up_nv (by omega) (by assumption)) | exact up_nv (by omega) up_hit | rfl) rfl ?_) | refine g_ald (p0 := 77) dX10_rings_76 (by first | rfl | assumption | exact RW.s (by assumption) | exact TW.s (by assumption)) (by assumption) (by first | assumption | exact up_hit | exact up_nv (by omega) (by assumption) | exact up_mv (by omega) (by assumption) | exact up_nv (by omega) (up_nv (by omega) (by assumption)) | exact up_nv (by omega) up_hit | rfl) rfl ?_
      first | ((with_reducible refine isN2 ?_); refine g_imulN (p0 := 78) dX10_rings_77 rfl ?_) | refine g_imul (p0 := 78) dX10_rings_77 rfl ?_
      first | ((with_reducible refine isN2 ?_); refine g_iaddN (p0 := 79) dX10_rings_78 rfl ?_) | refine g_iadd (p0 := 79) dX10_rings_78 rfl ?_
      first | ((with_reducible refine isNS ?_); refine g_astN (p0 := 80) dX10_rings_79 (by first | rfl | assumption | exact RW.s (by assumption) | exact TW.s (by assumption)) (by first | decide | assumption) (by omega) rfl ?_) | refine g_ast (p0 := 80) dX10_rings_79 (by first | rfl | assumption | exact RW.s (by assumption) | exact TW.s (by assumption)) (by assumption) rfl ?_
      refine g_aload_n (p0 := 81) (i := 0) dX10_rings_80 rfl rfl rfl ?_
      refine g_getR (p0 := 84) dX10_rings_81 fX10_7 (by first | rfl | assumption | exact RW.s (by assumption) | exact TW.s (by assumption)) rfl rfl ?_
      refine g_iconst (p0 := 85) (v := nI 3) dX10_rings_84 rfl rfl ?_
      refine g_dup2 (p0 := 86) dX10_rings_85 rfl ?_
      first | ((with_reducible refine isN1 ?_); refine g_aldN (p0 := 87) dX10_rings_86 (by first | rfl | assumption | exact RW.s (by assumption) | exact TW.s (by assumption)) (by first | decide | assumption) (by omega) (by first | assumption | exact up_hit | exact up_nv (by omega) (by assumption) | exact up_mv (by omega) (by assumption) | exact up_nv (by omega) (up_nv (by omega) (by assumption)) | exact up_nv (by omega) up_hit | rfl) rfl ?_) | refine g_ald (p0 := 87) dX10_rings_86 (by first | rfl | assumption | exact RW.s (by assumption) | exact TW.s (by assumption)) (by assumption) (by first | assumption | exact up_hit | exact up_nv (by omega) (by assumption) | exact up_mv (by omega) (by assumption) | exact up_nv (by omega) (up_nv (by omega) (by assumption)) | exact up_nv (by omega) up_hit | rfl) rfl ?_
      refine g_iconst (p0 := 88) (v := nI 1) dX10_rings_87 rfl rfl ?_
      first | ((with_reducible refine isN2 ?_); refine g_iaddN (p0 := 89) dX10_rings_88 rfl ?_) | refine g_iadd (p0 := 89) dX10_rings_88 rfl ?_
      first | ((with_reducible refine isNS ?_); refine g_astN (p0 := 90) dX10_rings_89 (by first | rfl | assumption | exact RW.s (by assumption) | exact TW.s (by assumption)) (by first | decide | assumption) (by omega) rfl ?_) | refine g_ast (p0 := 90) dX10_rings_89 (by first | rfl | assumption | exact RW.s (by assumption) | exact TW.s (by assumption)) (by assumption) rfl ?_
      first | refine g_iinc1 (p0 := 93) (ls2 := [_, _, _, _, _, _]) dX10_rings_90 rfl rfl rfl ?_ | refine g_iinc (p0 := 93) (ls2 := [_, _, _, _, _, _]) dX10_rings_90 rfl rfl rfl rfl ?_
      refine g_goto (tgt := 33) dX10_rings_93 rfl ?_
      rw [e4]
      exact ih (j + 1) (by omega)
    · rw [if_neg hlt] at e4
      refine g_iload (p0 := 35) dX10_rings_33 rfl rfl ?_
      refine g_iload_n (p0 := 36) (i := 2) dX10_rings_35 rfl rfl rfl ?_
      refine g_iload_n (p0 := 37) (i := 3) dX10_rings_36 rfl rfl rfl ?_
      first | ((with_reducible refine isN2 ?_); refine g_iaddN (p0 := 38) dX10_rings_37 rfl ?_) | refine g_iadd (p0 := 38) dX10_rings_37 rfl ?_
      first | ((with_reducible refine isN2 ?_); refine g_icmpN_ge (tgt := 96) (p1 := 41) dX10_rings_38 rfl (by omega) (by omega) rfl (fun c_38 => by exfalso; first | omega | contradiction | exact absurd (by assumption) c_38 | (simp_all; done)) (fun c_38 => ?_)) | refine g_icmp_ge (tgt := 96) (p1 := 41) dX10_rings_38 rfl rfl (fun c_38 => by exfalso; first | omega | contradiction | exact absurd (by assumption) c_38 | (simp_all; done)) (fun c_38 => ?_)
      refine g_aload_n (p0 := 42) (i := 0) dX10_rings_41 rfl rfl rfl ?_
      refine g_getR (p0 := 45) dX10_rings_42 fX10_7 (by first | rfl | assumption | exact RW.s (by assumption) | exact TW.s (by assumption)) rfl rfl ?_
      refine g_bipush (p0 := 47) (v := nI 29) dX10_rings_45 (by decide) rfl ?_
      refine g_aload_n (p0 := 48) (i := 0) dX10_rings_47 rfl rfl rfl ?_
      refine g_getR (p0 := 51) dX10_rings_48 fX10_7 (by first | rfl | assumption | exact RW.s (by assumption) | exact TW.s (by assumption)) rfl rfl ?_
      refine g_iconst (p0 := 52) (v := nI 3) dX10_rings_51 rfl rfl ?_
      first | ((with_reducible refine isN1 ?_); refine g_aldN (p0 := 53) dX10_rings_52 (by first | rfl | assumption | exact RW.s (by assumption) | exact TW.s (by assumption)) (by first | decide | assumption) (by omega) (by first | assumption | exact up_hit | exact up_nv (by omega) (by assumption) | exact up_mv (by omega) (by assumption) | exact up_nv (by omega) (up_nv (by omega) (by assumption)) | exact up_nv (by omega) up_hit | rfl) rfl ?_) | refine g_ald (p0 := 53) dX10_rings_52 (by first | rfl | assumption | exact RW.s (by assumption) | exact TW.s (by assumption)) (by assumption) (by first | assumption | exact up_hit | exact up_nv (by omega) (by assumption) | exact up_mv (by omega) (by assumption) | exact up_nv (by omega) (up_nv (by omega) (by assumption)) | exact up_nv (by omega) up_hit | rfl) rfl ?_
      first | ((with_reducible refine isN2 ?_); refine g_iaddN (p0 := 54) dX10_rings_53 rfl ?_) | refine g_iadd (p0 := 54) dX10_rings_53 rfl ?_
      refine g_iload (p0 := 56) dX10_rings_54 rfl rfl ?_
      refine g_iload (p0 := 58) dX10_rings_56 rfl rfl ?_
      refine g_iload_n (p0 := 59) (i := 2) dX10_rings_58 rfl rfl rfl ?_
      first | ((with_reducible refine isN2 ?_); refine g_icmpN_ge (tgt := 67) (p1 := 62) dX10_rings_59 rfl (by omega) (by omega) rfl (fun c_59 => ?_) (fun c_59 => by exfalso; first | omega | contradiction | exact absurd (by assumption) c_59 | (simp_all; done))) | refine g_icmp_ge (tgt := 67) (p1 := 62) dX10_rings_59 rfl rfl (fun c_59 => ?_) (fun c_59 => by exfalso; first | omega | contradiction | exact absurd (by assumption) c_59 | (simp_all; done))
      refine g_iload (p0 := 69) dX10_rings_67 rfl rfl ?_
      refine g_iconst (p0 := 70) (v := nI 2) dX10_rings_69 rfl rfl ?_
      first | ((with_reducible refine isN2 ?_); refine g_iaddN (p0 := 71) dX10_rings_70 rfl ?_) | refine g_iadd (p0 := 71) dX10_rings_70 rfl ?_
      refine g_aload_n (p0 := 72) (i := 0) dX10_rings_71 rfl rfl rfl ?_
      refine g_getR (p0 := 75) dX10_rings_72 fX10_7 (by first | rfl | assumption | exact RW.s (by assumption) | exact TW.s (by assumption)) rfl rfl ?_
      refine g_iconst (p0 := 76) (v := nI 0) dX10_rings_75 rfl rfl ?_
      first | ((with_reducible refine isN1 ?_); refine g_aldN (p0 := 77) dX10_rings_76 (by first | rfl | assumption | exact RW.s (by assumption) | exact TW.s (by assumption)) (by first | decide | assumption) (by omega) (by first | assumption | exact up_hit | exact up_nv (by omega) (by assumption) | exact up_mv (by omega) (by assumption) | exact up_nv (by omega) (up_nv (by omega) (by assumption)) | exact up_nv (by omega) up_hit | rfl) rfl ?_) | refine g_ald (p0 := 77) dX10_rings_76 (by first | rfl | assumption | exact RW.s (by assumption) | exact TW.s (by assumption)) (by assumption) (by first | assumption | exact up_hit | exact up_nv (by omega) (by assumption) | exact up_mv (by omega) (by assumption) | exact up_nv (by omega) (up_nv (by omega) (by assumption)) | exact up_nv (by omega) up_hit | rfl) rfl ?_
      first | ((with_reducible refine isN2 ?_); refine g_imulN (p0 := 78) dX10_rings_77 rfl ?_) | refine g_imul (p0 := 78) dX10_rings_77 rfl ?_
      first | ((with_reducible refine isN2 ?_); refine g_iaddN (p0 := 79) dX10_rings_78 rfl ?_) | refine g_iadd (p0 := 79) dX10_rings_78 rfl ?_
      first | ((with_reducible refine isNS ?_); refine g_astN (p0 := 80) dX10_rings_79 (by first | rfl | assumption | exact RW.s (by assumption) | exact TW.s (by assumption)) (by first | decide | assumption) (by omega) rfl ?_) | refine g_ast (p0 := 80) dX10_rings_79 (by first | rfl | assumption | exact RW.s (by assumption) | exact TW.s (by assumption)) (by assumption) rfl ?_
      refine g_aload_n (p0 := 81) (i := 0) dX10_rings_80 rfl rfl rfl ?_
      refine g_getR (p0 := 84) dX10_rings_81 fX10_7 (by first | rfl | assumption | exact RW.s (by assumption) | exact TW.s (by assumption)) rfl rfl ?_
      refine g_iconst (p0 := 85) (v := nI 3) dX10_rings_84 rfl rfl ?_
      refine g_dup2 (p0 := 86) dX10_rings_85 rfl ?_
      first | ((with_reducible refine isN1 ?_); refine g_aldN (p0 := 87) dX10_rings_86 (by first | rfl | assumption | exact RW.s (by assumption) | exact TW.s (by assumption)) (by first | decide | assumption) (by omega) (by first | assumption | exact up_hit | exact up_nv (by omega) (by assumption) | exact up_mv (by omega) (by assumption) | exact up_nv (by omega) (up_nv (by omega) (by assumption)) | exact up_nv (by omega) up_hit | rfl) rfl ?_) | refine g_ald (p0 := 87) dX10_rings_86 (by first | rfl | assumption | exact RW.s (by assumption) | exact TW.s (by assumption)) (by assumption) (by first | assumption | exact up_hit | exact up_nv (by omega) (by assumption) | exact up_mv (by omega) (by assumption) | exact up_nv (by omega) (up_nv (by omega) (by assumption)) | exact up_nv (by omega) up_hit | rfl) rfl ?_
      refine g_iconst (p0 := 88) (v := nI 1) dX10_rings_87 rfl rfl ?_
      first | ((with_reducible refine isN2 ?_); refine g_iaddN (p0 := 89) dX10_rings_88 rfl ?_) | refine g_iadd (p0 := 89) dX10_rings_88 rfl ?_
      first | ((with_reducible refine isNS ?_); refine g_astN (p0 := 90) dX10_rings_89 (by first | rfl | assumption | exact RW.s (by assumption) | exact TW.s (by assumption)) (by first | decide | assumption) (by omega) rfl ?_) | refine g_ast (p0 := 90) dX10_rings_89 (by first | rfl | assumption | exact RW.s (by assumption) | exact TW.s (by assumption)) (by assumption) rfl ?_
      first | refine g_iinc1 (p0 := 93) (ls2 := [_, _, _, _, _, _]) dX10_rings_90 rfl rfl rfl ?_ | refine g_iinc (p0 := 93) (ls2 := [_, _, _, _, _, _]) dX10_rings_90 rfl rfl rfl rfl ?_
      refine g_goto (tgt := 33) dX10_rings_93 rfl ?_
      rw [e4]
      exact ih (j + 1) (by omega)
def ringP (ρ : Nat → Int32) (s c : Nat) : Nat → Int32 := upd (rgP ρ s (nxt (tm ρ) s (ρ 2) (ρ 0)) (ρ 0) (c / 5 + 1) (mor c)) 2 (nI 0)
set_option maxRecDepth 20000 in
set_option maxHeartbeats 2000000 in
theorem rings_sp {s j c : Nat} {σ : Sg} (hs : σ 80 3 = nI s) (hs1 : s ≤ 160) (hz : σ 80 2 = nI 0 ∨ σ 80 2 = nI 1) (hj : j < 25) (hc : σ 80 (4 + j) = nI c) (hc1 : c < 25) (h1 : s + mor c ≤ 160) : CM mX10_rings [ar 79, ai (nI j)] σ (RetV (setR σ 80 (ringP (σ 80) s c))) := by
  refine CM_in (ls := [some (ar 79), some (ai (nI j)), none, none, none, none]) rfl ?_
  refine g_aload_n (p0 := 1) (i := 0) dX10_rings_0 rfl rfl rfl ?_
  refine g_getR (p0 := 4) dX10_rings_1 fX10_7 (by first | rfl | assumption | exact RW.s (by assumption) | exact TW.s (by assumption)) rfl rfl ?_
  refine g_iconst (p0 := 5) (v := nI 4) dX10_rings_4 rfl rfl ?_
  refine g_iload_n (p0 := 6) (i := 1) dX10_rings_5 rfl rfl rfl ?_
  first | ((with_reducible refine isN2 ?_); refine g_iaddN (p0 := 7) dX10_rings_6 rfl ?_) | refine g_iadd (p0 := 7) dX10_rings_6 rfl ?_
  first | ((with_reducible refine isN1 ?_); refine g_aldN (p0 := 8) dX10_rings_7 (by first | rfl | assumption | exact RW.s (by assumption) | exact TW.s (by assumption)) (by first | decide | assumption) (by omega) (by first | assumption | exact up_hit | exact up_nv (by omega) (by assumption) | exact up_mv (by omega) (by assumption) | exact up_nv (by omega) (up_nv (by omega) (by assumption)) | exact up_nv (by omega) up_hit | rfl) rfl ?_) | refine g_ald (p0 := 8) dX10_rings_7 (by first | rfl | assumption | exact RW.s (by assumption) | exact TW.s (by assumption)) (by assumption) (by first | assumption | exact up_hit | exact up_nv (by omega) (by assumption) | exact up_mv (by omega) (by assumption) | exact up_nv (by omega) (up_nv (by omega) (by assumption)) | exact up_nv (by omega) up_hit | rfl) rfl ?_
  refine g_cS1R (p0 := 11) (r1 := mX10_rowOf) dX10_rings_8 (Or.inl lX10_69) vX10_rowOf (FITi rfl rfl) (Nat.le_of_ble_eq_true rfl) (rrowOf_sp (by first | assumption | omega)) rfl ?_
  refine g_istore_n (p0 := 12) (i := 2) (ls2 := [_, _, _, _, _, _]) dX10_rings_11 rfl (Nat.le_of_ble_eq_true rfl) rfl rfl ?_
  refine g_aload_n (p0 := 13) (i := 0) dX10_rings_12 rfl rfl rfl ?_
  refine g_getR (p0 := 16) dX10_rings_13 fX10_7 (by first | rfl | assumption | exact RW.s (by assumption) | exact TW.s (by assumption)) rfl rfl ?_
  refine g_iconst (p0 := 17) (v := nI 4) dX10_rings_16 rfl rfl ?_
  refine g_iload_n (p0 := 18) (i := 1) dX10_rings_17 rfl rfl rfl ?_
  first | ((with_reducible refine isN2 ?_); refine g_iaddN (p0 := 19) dX10_rings_18 rfl ?_) | refine g_iadd (p0 := 19) dX10_rings_18 rfl ?_
  first | ((with_reducible refine isN1 ?_); refine g_aldN (p0 := 20) dX10_rings_19 (by first | rfl | assumption | exact RW.s (by assumption) | exact TW.s (by assumption)) (by first | decide | assumption) (by omega) (by first | assumption | exact up_hit | exact up_nv (by omega) (by assumption) | exact up_mv (by omega) (by assumption) | exact up_nv (by omega) (up_nv (by omega) (by assumption)) | exact up_nv (by omega) up_hit | rfl) rfl ?_) | refine g_ald (p0 := 20) dX10_rings_19 (by first | rfl | assumption | exact RW.s (by assumption) | exact TW.s (by assumption)) (by assumption) (by first | assumption | exact up_hit | exact up_nv (by omega) (by assumption) | exact up_mv (by omega) (by assumption) | exact up_nv (by omega) (up_nv (by omega) (by assumption)) | exact up_nv (by omega) up_hit | rfl) rfl ?_
  refine g_cS1R (p0 := 23) (r1 := mX10_columnOf) dX10_rings_20 (Or.inl lX10_73) vX10_columnOf (FITi rfl rfl) (Nat.le_of_ble_eq_true rfl) (rcolumnOf_sp (by first | assumption | omega)) rfl ?_
  refine g_istore_n (p0 := 24) (i := 3) (ls2 := [_, _, _, _, _, _]) dX10_rings_23 rfl (Nat.le_of_ble_eq_true rfl) rfl rfl ?_
  refine g_aload_n (p0 := 25) (i := 0) dX10_rings_24 rfl rfl rfl ?_
  refine g_cV0R (p0 := 28) (r1 := mX10_begin) dX10_rings_25 lX10_90 vX10_begin (by first | rfl | assumption | exact RW.s (by assumption) | exact TW.s (by assumption)) ⟨_, _, rfl⟩ (FITi rfl rfl) (Nat.le_of_ble_eq_true rfl) (begin_sp (by first | assumption | exact up_hit | exact up_nv (by omega) (by assumption) | exact up_mv (by omega) (by assumption) | exact up_nv (by omega) (up_nv (by omega) (by assumption)) | exact up_nv (by omega) up_hit | rfl) (by first | assumption | omega) (by assumption)) rfl ?_
  refine g_istore (p0 := 30) (i := 4) (ls2 := [_, _, _, _, _, _]) dX10_rings_28 (Nat.le_of_ble_eq_true rfl) rfl rfl ?_
  refine g_iconst (p0 := 31) (v := nI 0) dX10_rings_30 rfl rfl ?_
  refine g_istore (p0 := 33) (i := 5) (ls2 := [_, _, _, _, _, _]) dX10_rings_31 (Nat.le_of_ble_eq_true rfl) rfl rfl ?_
  have h := rings_loop (s := s) (jl := j) (r := c / 5 + 1) (q := c % 5 + 1) (t0 := nxt (tm (σ 80)) s (σ 80 2) (σ 80 0)) (σ := σ) (Q := RetV (setR σ 80 (ringP (σ 80) s c))) h1 (by omega) ⟨rfl, rfl⟩ (mor c) 0 (Nat.zero_add _)
  rw [rgP_0 hs, setR_id rfl] at h
  exact h
