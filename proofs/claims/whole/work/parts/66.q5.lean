/-! QUESTIONS: the reference's totals -/
set_option maxRecDepth 20000 in
set_option maxHeartbeats 2000000 in
theorem sums_l3 {s M : Nat} {f : Nat → Nat} {σ : Sg} {Q : SP} (hs : σ 80 3 = nI s) (hs1 : s ≤ 160) (hM : σ 79 11 = nI M) (hM1 : M ≤ 160) (hf : ∀ i, i < M → CM mX10_unreadable [ar 79, ai (nI i)] σ (Ret (nI (f i)) σ)) (k : Q (some (ai (nI (tt f M)))) σ) : ∀ q i, i + q = M → WM mX10_sums Q 4 [some (ar 79), some (ai (nI 3)), some (ai (nI (tt f i))), some (ai (nI i))] [] σ := by
  intro q
  induction q with
  | zero =>
    intro i hi
    obtain rfl : i = M := by omega
    by_cases h0 : s = 0
    · subst h0
      refine g_iload_n (p0 := 5) (i := 3) dX10_sums_4 rfl rfl rfl ?_
      refine g_aload_n (p0 := 6) (i := 0) dX10_sums_5 rfl rfl rfl ?_
      refine g_getI (p0 := 9) dX10_sums_6 fX10_121 (by first | rfl | assumption | exact RW.s (by assumption) | exact TW.s (by assumption)) rfl (by first | assumption | ((repeat (first | exact up_hit | refine up_nv (by decide) ?_ | refine up_mv (by first | decide | omega) ?_)) <;> first | assumption | rfl)) rfl ?_
      first | ((with_reducible refine isN2 ?_); refine g_icmpN_ge (tgt := 85) (p1 := 12) dX10_sums_9 rfl (by omega) (by omega) rfl (fun c_9 => ?_) (fun c_9 => by exfalso; first | omega | contradiction | exact absurd (by assumption) c_9 | (simp_all; done))) | refine g_icmp_ge (tgt := 85) (p1 := 12) dX10_sums_9 rfl rfl (fun c_9 => ?_) (fun c_9 => by exfalso; first | omega | contradiction | exact absurd (by assumption) c_9 | (simp_all; done))
      refine g_iconst (p0 := 86) (v := nI 0) dX10_sums_85 rfl rfl ?_
      refine g_istore_n (p0 := 87) (i := 3) (ls2 := [_, _, _, _]) dX10_sums_86 rfl (Nat.le_of_ble_eq_true rfl) rfl rfl ?_
      refine g_iload_n (p0 := 88) (i := 3) dX10_sums_87 rfl rfl rfl ?_
      refine g_aload_n (p0 := 89) (i := 0) dX10_sums_88 rfl rfl rfl ?_
      refine g_getR (p0 := 92) dX10_sums_89 fX10_7 (by first | rfl | assumption | exact RW.s (by assumption) | exact TW.s (by assumption)) rfl rfl ?_
      refine g_iconst (p0 := 93) (v := nI 3) dX10_sums_92 rfl rfl ?_
      first | ((with_reducible refine isN1 ?_); refine g_aldN (p0 := 94) dX10_sums_93 (by first | rfl | assumption | exact RW.s (by assumption) | exact TW.s (by assumption)) (by first | decide | assumption) (by omega) (by first | assumption | ((repeat (first | exact up_hit | refine up_nv (by decide) ?_ | refine up_mv (by first | decide | omega) ?_)) <;> first | assumption | rfl)) rfl ?_) | refine g_ald (p0 := 94) dX10_sums_93 (by first | rfl | assumption | exact RW.s (by assumption) | exact TW.s (by assumption)) (by assumption) (by first | assumption | ((repeat (first | exact up_hit | refine up_nv (by decide) ?_ | refine up_mv (by first | decide | omega) ?_)) <;> first | assumption | rfl)) rfl ?_
      first | ((with_reducible refine isN2 ?_); refine g_icmpN_ge (tgt := 125) (p1 := 97) dX10_sums_94 rfl (by omega) (by omega) rfl (fun c_94 => ?_) (fun c_94 => by exfalso; first | omega | contradiction | exact absurd (by assumption) c_94 | (simp_all; done))) | refine g_icmp_ge (tgt := 125) (p1 := 97) dX10_sums_94 rfl rfl (fun c_94 => ?_) (fun c_94 => by exfalso; first | omega | contradiction | exact absurd (by assumption) c_94 | (simp_all; done))
      refine g_iload_n (p0 := 126) (i := 2) dX10_sums_125 rfl rfl rfl ?_
      refine g_ireturn dX10_sums_126 rfl rfl (?_)
      exact k
    · refine g_iload_n (p0 := 5) (i := 3) dX10_sums_4 rfl rfl rfl ?_
      refine g_aload_n (p0 := 6) (i := 0) dX10_sums_5 rfl rfl rfl ?_
      refine g_getI (p0 := 9) dX10_sums_6 fX10_121 (by first | rfl | assumption | exact RW.s (by assumption) | exact TW.s (by assumption)) rfl (by first | assumption | ((repeat (first | exact up_hit | refine up_nv (by decide) ?_ | refine up_mv (by first | decide | omega) ?_)) <;> first | assumption | rfl)) rfl ?_
      first | ((with_reducible refine isN2 ?_); refine g_icmpN_ge (tgt := 85) (p1 := 12) dX10_sums_9 rfl (by omega) (by omega) rfl (fun c_9 => ?_) (fun c_9 => by exfalso; first | omega | contradiction | exact absurd (by assumption) c_9 | (simp_all; done))) | refine g_icmp_ge (tgt := 85) (p1 := 12) dX10_sums_9 rfl rfl (fun c_9 => ?_) (fun c_9 => by exfalso; first | omega | contradiction | exact absurd (by assumption) c_9 | (simp_all; done))
      refine g_iconst (p0 := 86) (v := nI 0) dX10_sums_85 rfl rfl ?_
      refine g_istore_n (p0 := 87) (i := 3) (ls2 := [_, _, _, _]) dX10_sums_86 rfl (Nat.le_of_ble_eq_true rfl) rfl rfl ?_
      refine g_iload_n (p0 := 88) (i := 3) dX10_sums_87 rfl rfl rfl ?_
      refine g_aload_n (p0 := 89) (i := 0) dX10_sums_88 rfl rfl rfl ?_
      refine g_getR (p0 := 92) dX10_sums_89 fX10_7 (by first | rfl | assumption | exact RW.s (by assumption) | exact TW.s (by assumption)) rfl rfl ?_
      refine g_iconst (p0 := 93) (v := nI 3) dX10_sums_92 rfl rfl ?_
      first | ((with_reducible refine isN1 ?_); refine g_aldN (p0 := 94) dX10_sums_93 (by first | rfl | assumption | exact RW.s (by assumption) | exact TW.s (by assumption)) (by first | decide | assumption) (by omega) (by first | assumption | ((repeat (first | exact up_hit | refine up_nv (by decide) ?_ | refine up_mv (by first | decide | omega) ?_)) <;> first | assumption | rfl)) rfl ?_) | refine g_ald (p0 := 94) dX10_sums_93 (by first | rfl | assumption | exact RW.s (by assumption) | exact TW.s (by assumption)) (by assumption) (by first | assumption | ((repeat (first | exact up_hit | refine up_nv (by decide) ?_ | refine up_mv (by first | decide | omega) ?_)) <;> first | assumption | rfl)) rfl ?_
      first | ((with_reducible refine isN2 ?_); refine g_icmpN_ge (tgt := 125) (p1 := 97) dX10_sums_94 rfl (by omega) (by omega) rfl (fun c_94 => by exfalso; first | omega | contradiction | exact absurd (by assumption) c_94 | (simp_all; done)) (fun c_94 => ?_)) | refine g_icmp_ge (tgt := 125) (p1 := 97) dX10_sums_94 rfl rfl (fun c_94 => by exfalso; first | omega | contradiction | exact absurd (by assumption) c_94 | (simp_all; done)) (fun c_94 => ?_)
      refine g_iload_n (p0 := 98) (i := 1) dX10_sums_97 rfl rfl rfl ?_
      refine g_iconst (p0 := 99) (v := nI 4) dX10_sums_98 rfl rfl ?_
      first | ((with_reducible refine isN2 ?_); refine g_icmpN_ne (tgt := 125) (p1 := 102) dX10_sums_99 rfl (by omega) (by omega) rfl (fun c_99 => ?_) (fun c_99 => by exfalso; first | omega | contradiction | exact absurd (by assumption) c_99 | (simp_all; done))) | refine g_icmp_ne (tgt := 125) (p1 := 102) dX10_sums_99 rfl rfl (fun c_99 => ?_) (fun c_99 => by exfalso; first | omega | contradiction | exact absurd (by assumption) c_99 | (simp_all; done))
      refine g_iload_n (p0 := 126) (i := 2) dX10_sums_125 rfl rfl rfl ?_
      refine g_ireturn dX10_sums_126 rfl rfl (?_)
      exact k
  | succ q ih =>
    intro i hi
    have h := ih (i + 1) (by omega)
    refine g_iload_n (p0 := 5) (i := 3) dX10_sums_4 rfl rfl rfl ?_
    refine g_aload_n (p0 := 6) (i := 0) dX10_sums_5 rfl rfl rfl ?_
    refine g_getI (p0 := 9) dX10_sums_6 fX10_121 (by first | rfl | assumption | exact RW.s (by assumption) | exact TW.s (by assumption)) rfl (by first | assumption | ((repeat (first | exact up_hit | refine up_nv (by decide) ?_ | refine up_mv (by first | decide | omega) ?_)) <;> first | assumption | rfl)) rfl ?_
    first | ((with_reducible refine isN2 ?_); refine g_icmpN_ge (tgt := 85) (p1 := 12) dX10_sums_9 rfl (by omega) (by omega) rfl (fun c_9 => by exfalso; first | omega | contradiction | exact absurd (by assumption) c_9 | (simp_all; done)) (fun c_9 => ?_)) | refine g_icmp_ge (tgt := 85) (p1 := 12) dX10_sums_9 rfl rfl (fun c_9 => by exfalso; first | omega | contradiction | exact absurd (by assumption) c_9 | (simp_all; done)) (fun c_9 => ?_)
    refine g_iload_n (p0 := 13) (i := 2) dX10_sums_12 rfl rfl rfl ?_
    refine g_iload_n (p0 := 14) (i := 1) dX10_sums_13 rfl rfl rfl ?_
    refine g_iconst (p0 := 15) (v := nI 3) dX10_sums_14 rfl rfl ?_
    first | ((with_reducible refine isN2 ?_); refine g_icmpN_ne (tgt := 26) (p1 := 18) dX10_sums_15 rfl (by omega) (by omega) rfl (fun c_15 => by exfalso; first | omega | contradiction | exact absurd (by assumption) c_15 | (simp_all; done)) (fun c_15 => ?_)) | refine g_icmp_ne (tgt := 26) (p1 := 18) dX10_sums_15 rfl rfl (fun c_15 => by exfalso; first | omega | contradiction | exact absurd (by assumption) c_15 | (simp_all; done)) (fun c_15 => ?_)
    refine g_aload_n (p0 := 19) (i := 0) dX10_sums_18 rfl rfl rfl ?_
    refine g_iload_n (p0 := 20) (i := 3) dX10_sums_19 rfl rfl rfl ?_
    refine g_cV1R (p0 := 23) (r1 := mX10_unreadable) dX10_sums_20 lX10_161 vX10_unreadable (by first | rfl | assumption | exact RW.s (by assumption) | exact TW.s (by assumption)) ⟨_, _, rfl⟩ (FITi rfl rfl) (Nat.le_of_ble_eq_true rfl) (hf i (by omega)) rfl ?_
    refine g_goto (tgt := 77) dX10_sums_23 rfl ?_
    first | ((with_reducible refine isN2 ?_); refine g_iaddN (p0 := 78) dX10_sums_77 rfl ?_) | refine g_iadd (p0 := 78) dX10_sums_77 rfl ?_
    refine g_istore_n (p0 := 79) (i := 2) (ls2 := [_, _, _, _]) dX10_sums_78 rfl (Nat.le_of_ble_eq_true rfl) rfl rfl ?_
    first | refine g_iinc1 (p0 := 82) (ls2 := [_, _, _, _]) dX10_sums_79 rfl rfl rfl ?_ | refine g_iinc (p0 := 82) (ls2 := [_, _, _, _]) dX10_sums_79 rfl rfl rfl rfl ?_
    refine g_goto (tgt := 4) dX10_sums_82 rfl ?_
    exact h
theorem sums_3 {s M : Nat} {f : Nat → Nat} {σ : Sg} (hs : σ 80 3 = nI s) (hs1 : s ≤ 160) (hM : σ 79 11 = nI M) (hM1 : M ≤ 160) (hf : ∀ i, i < M → CM mX10_unreadable [ar 79, ai (nI i)] σ (Ret (nI (f i)) σ)) : CM mX10_sums [ar 79, ai (nI 3)] σ (Ret (nI (tt f M)) σ) := by
  refine CM_in (ls := [some (ar 79), some (ai (nI 3)), none, none]) rfl ?_
  refine g_iconst (p0 := 1) (v := nI 0) dX10_sums_0 rfl rfl ?_
  refine g_istore_n (p0 := 2) (i := 2) (ls2 := [_, _, _, _]) dX10_sums_1 rfl (Nat.le_of_ble_eq_true rfl) rfl rfl ?_
  refine g_iconst (p0 := 3) (v := nI 0) dX10_sums_2 rfl rfl ?_
  refine g_istore_n (p0 := 4) (i := 3) (ls2 := [_, _, _, _]) dX10_sums_3 rfl (Nat.le_of_ble_eq_true rfl) rfl rfl ?_
  exact sums_l3 hs hs1 hM hM1 hf ⟨rfl, rfl⟩ M 0 (by omega)
set_option maxRecDepth 20000 in
set_option maxHeartbeats 2000000 in
theorem sums_l5 {s M : Nat} {f : Nat → Nat} {σ : Sg} {Q : SP} (hs : σ 80 3 = nI s) (hs1 : s ≤ 160) (hM : σ 79 11 = nI M) (hM1 : M ≤ 160) (hf : ∀ i, i < M → σ 94 i = nI (f i)) (k : Q (some (ai (nI (tt f M)))) σ) : ∀ q i, i + q = M → WM mX10_sums Q 4 [some (ar 79), some (ai (nI 5)), some (ai (nI (tt f i))), some (ai (nI i))] [] σ := by
  intro q
  induction q with
  | zero =>
    intro i hi
    obtain rfl : i = M := by omega
    by_cases h0 : s = 0
    · subst h0
      refine g_iload_n (p0 := 5) (i := 3) dX10_sums_4 rfl rfl rfl ?_
      refine g_aload_n (p0 := 6) (i := 0) dX10_sums_5 rfl rfl rfl ?_
      refine g_getI (p0 := 9) dX10_sums_6 fX10_121 (by first | rfl | assumption | exact RW.s (by assumption) | exact TW.s (by assumption)) rfl (by first | assumption | ((repeat (first | exact up_hit | refine up_nv (by decide) ?_ | refine up_mv (by first | decide | omega) ?_)) <;> first | assumption | rfl)) rfl ?_
      first | ((with_reducible refine isN2 ?_); refine g_icmpN_ge (tgt := 85) (p1 := 12) dX10_sums_9 rfl (by omega) (by omega) rfl (fun c_9 => ?_) (fun c_9 => by exfalso; first | omega | contradiction | exact absurd (by assumption) c_9 | (simp_all; done))) | refine g_icmp_ge (tgt := 85) (p1 := 12) dX10_sums_9 rfl rfl (fun c_9 => ?_) (fun c_9 => by exfalso; first | omega | contradiction | exact absurd (by assumption) c_9 | (simp_all; done))
      refine g_iconst (p0 := 86) (v := nI 0) dX10_sums_85 rfl rfl ?_
      refine g_istore_n (p0 := 87) (i := 3) (ls2 := [_, _, _, _]) dX10_sums_86 rfl (Nat.le_of_ble_eq_true rfl) rfl rfl ?_
      refine g_iload_n (p0 := 88) (i := 3) dX10_sums_87 rfl rfl rfl ?_
      refine g_aload_n (p0 := 89) (i := 0) dX10_sums_88 rfl rfl rfl ?_
      refine g_getR (p0 := 92) dX10_sums_89 fX10_7 (by first | rfl | assumption | exact RW.s (by assumption) | exact TW.s (by assumption)) rfl rfl ?_
      refine g_iconst (p0 := 93) (v := nI 3) dX10_sums_92 rfl rfl ?_
      first | ((with_reducible refine isN1 ?_); refine g_aldN (p0 := 94) dX10_sums_93 (by first | rfl | assumption | exact RW.s (by assumption) | exact TW.s (by assumption)) (by first | decide | assumption) (by omega) (by first | assumption | ((repeat (first | exact up_hit | refine up_nv (by decide) ?_ | refine up_mv (by first | decide | omega) ?_)) <;> first | assumption | rfl)) rfl ?_) | refine g_ald (p0 := 94) dX10_sums_93 (by first | rfl | assumption | exact RW.s (by assumption) | exact TW.s (by assumption)) (by assumption) (by first | assumption | ((repeat (first | exact up_hit | refine up_nv (by decide) ?_ | refine up_mv (by first | decide | omega) ?_)) <;> first | assumption | rfl)) rfl ?_
      first | ((with_reducible refine isN2 ?_); refine g_icmpN_ge (tgt := 125) (p1 := 97) dX10_sums_94 rfl (by omega) (by omega) rfl (fun c_94 => ?_) (fun c_94 => by exfalso; first | omega | contradiction | exact absurd (by assumption) c_94 | (simp_all; done))) | refine g_icmp_ge (tgt := 125) (p1 := 97) dX10_sums_94 rfl rfl (fun c_94 => ?_) (fun c_94 => by exfalso; first | omega | contradiction | exact absurd (by assumption) c_94 | (simp_all; done))
      refine g_iload_n (p0 := 126) (i := 2) dX10_sums_125 rfl rfl rfl ?_
      refine g_ireturn dX10_sums_126 rfl rfl (?_)
      exact k
    · refine g_iload_n (p0 := 5) (i := 3) dX10_sums_4 rfl rfl rfl ?_
      refine g_aload_n (p0 := 6) (i := 0) dX10_sums_5 rfl rfl rfl ?_
      refine g_getI (p0 := 9) dX10_sums_6 fX10_121 (by first | rfl | assumption | exact RW.s (by assumption) | exact TW.s (by assumption)) rfl (by first | assumption | ((repeat (first | exact up_hit | refine up_nv (by decide) ?_ | refine up_mv (by first | decide | omega) ?_)) <;> first | assumption | rfl)) rfl ?_
      first | ((with_reducible refine isN2 ?_); refine g_icmpN_ge (tgt := 85) (p1 := 12) dX10_sums_9 rfl (by omega) (by omega) rfl (fun c_9 => ?_) (fun c_9 => by exfalso; first | omega | contradiction | exact absurd (by assumption) c_9 | (simp_all; done))) | refine g_icmp_ge (tgt := 85) (p1 := 12) dX10_sums_9 rfl rfl (fun c_9 => ?_) (fun c_9 => by exfalso; first | omega | contradiction | exact absurd (by assumption) c_9 | (simp_all; done))
      refine g_iconst (p0 := 86) (v := nI 0) dX10_sums_85 rfl rfl ?_
      refine g_istore_n (p0 := 87) (i := 3) (ls2 := [_, _, _, _]) dX10_sums_86 rfl (Nat.le_of_ble_eq_true rfl) rfl rfl ?_
      refine g_iload_n (p0 := 88) (i := 3) dX10_sums_87 rfl rfl rfl ?_
      refine g_aload_n (p0 := 89) (i := 0) dX10_sums_88 rfl rfl rfl ?_
      refine g_getR (p0 := 92) dX10_sums_89 fX10_7 (by first | rfl | assumption | exact RW.s (by assumption) | exact TW.s (by assumption)) rfl rfl ?_
      refine g_iconst (p0 := 93) (v := nI 3) dX10_sums_92 rfl rfl ?_
      first | ((with_reducible refine isN1 ?_); refine g_aldN (p0 := 94) dX10_sums_93 (by first | rfl | assumption | exact RW.s (by assumption) | exact TW.s (by assumption)) (by first | decide | assumption) (by omega) (by first | assumption | ((repeat (first | exact up_hit | refine up_nv (by decide) ?_ | refine up_mv (by first | decide | omega) ?_)) <;> first | assumption | rfl)) rfl ?_) | refine g_ald (p0 := 94) dX10_sums_93 (by first | rfl | assumption | exact RW.s (by assumption) | exact TW.s (by assumption)) (by assumption) (by first | assumption | ((repeat (first | exact up_hit | refine up_nv (by decide) ?_ | refine up_mv (by first | decide | omega) ?_)) <;> first | assumption | rfl)) rfl ?_
      first | ((with_reducible refine isN2 ?_); refine g_icmpN_ge (tgt := 125) (p1 := 97) dX10_sums_94 rfl (by omega) (by omega) rfl (fun c_94 => by exfalso; first | omega | contradiction | exact absurd (by assumption) c_94 | (simp_all; done)) (fun c_94 => ?_)) | refine g_icmp_ge (tgt := 125) (p1 := 97) dX10_sums_94 rfl rfl (fun c_94 => by exfalso; first | omega | contradiction | exact absurd (by assumption) c_94 | (simp_all; done)) (fun c_94 => ?_)
      refine g_iload_n (p0 := 98) (i := 1) dX10_sums_97 rfl rfl rfl ?_
      refine g_iconst (p0 := 99) (v := nI 4) dX10_sums_98 rfl rfl ?_
      first | ((with_reducible refine isN2 ?_); refine g_icmpN_ne (tgt := 125) (p1 := 102) dX10_sums_99 rfl (by omega) (by omega) rfl (fun c_99 => ?_) (fun c_99 => by exfalso; first | omega | contradiction | exact absurd (by assumption) c_99 | (simp_all; done))) | refine g_icmp_ne (tgt := 125) (p1 := 102) dX10_sums_99 rfl rfl (fun c_99 => ?_) (fun c_99 => by exfalso; first | omega | contradiction | exact absurd (by assumption) c_99 | (simp_all; done))
      refine g_iload_n (p0 := 126) (i := 2) dX10_sums_125 rfl rfl rfl ?_
      refine g_ireturn dX10_sums_126 rfl rfl (?_)
      exact k
  | succ q ih =>
    intro i hi
    have h := ih (i + 1) (by omega)
    have hv := hf i (by omega)
    refine g_iload_n (p0 := 5) (i := 3) dX10_sums_4 rfl rfl rfl ?_
    refine g_aload_n (p0 := 6) (i := 0) dX10_sums_5 rfl rfl rfl ?_
    refine g_getI (p0 := 9) dX10_sums_6 fX10_121 (by first | rfl | assumption | exact RW.s (by assumption) | exact TW.s (by assumption)) rfl (by first | assumption | ((repeat (first | exact up_hit | refine up_nv (by decide) ?_ | refine up_mv (by first | decide | omega) ?_)) <;> first | assumption | rfl)) rfl ?_
    first | ((with_reducible refine isN2 ?_); refine g_icmpN_ge (tgt := 85) (p1 := 12) dX10_sums_9 rfl (by omega) (by omega) rfl (fun c_9 => by exfalso; first | omega | contradiction | exact absurd (by assumption) c_9 | (simp_all; done)) (fun c_9 => ?_)) | refine g_icmp_ge (tgt := 85) (p1 := 12) dX10_sums_9 rfl rfl (fun c_9 => by exfalso; first | omega | contradiction | exact absurd (by assumption) c_9 | (simp_all; done)) (fun c_9 => ?_)
    refine g_iload_n (p0 := 13) (i := 2) dX10_sums_12 rfl rfl rfl ?_
    refine g_iload_n (p0 := 14) (i := 1) dX10_sums_13 rfl rfl rfl ?_
    refine g_iconst (p0 := 15) (v := nI 3) dX10_sums_14 rfl rfl ?_
    first | ((with_reducible refine isN2 ?_); refine g_icmpN_ne (tgt := 26) (p1 := 18) dX10_sums_15 rfl (by omega) (by omega) rfl (fun c_15 => ?_) (fun c_15 => by exfalso; first | omega | contradiction | exact absurd (by assumption) c_15 | (simp_all; done))) | refine g_icmp_ne (tgt := 26) (p1 := 18) dX10_sums_15 rfl rfl (fun c_15 => ?_) (fun c_15 => by exfalso; first | omega | contradiction | exact absurd (by assumption) c_15 | (simp_all; done))
    refine g_iload_n (p0 := 27) (i := 1) dX10_sums_26 rfl rfl rfl ?_
    refine g_iconst (p0 := 28) (v := nI 5) dX10_sums_27 rfl rfl ?_
    first | ((with_reducible refine isN2 ?_); refine g_icmpN_ne (tgt := 40) (p1 := 31) dX10_sums_28 rfl (by omega) (by omega) rfl (fun c_28 => by exfalso; first | omega | contradiction | exact absurd (by assumption) c_28 | (simp_all; done)) (fun c_28 => ?_)) | refine g_icmp_ne (tgt := 40) (p1 := 31) dX10_sums_28 rfl rfl (fun c_28 => by exfalso; first | omega | contradiction | exact absurd (by assumption) c_28 | (simp_all; done)) (fun c_28 => ?_)
    refine g_aload_n (p0 := 32) (i := 0) dX10_sums_31 rfl rfl rfl ?_
    refine g_getR (p0 := 35) dX10_sums_32 fX10_52 (by first | rfl | assumption | exact RW.s (by assumption) | exact TW.s (by assumption)) rfl rfl ?_
    refine g_iload_n (p0 := 36) (i := 3) dX10_sums_35 rfl rfl rfl ?_
    first | ((with_reducible refine isN1 ?_); refine g_aldN (p0 := 37) dX10_sums_36 (by first | rfl | assumption | exact RW.s (by assumption) | exact TW.s (by assumption)) (by first | decide | assumption) (by omega) (by first | assumption | ((repeat (first | exact up_hit | refine up_nv (by decide) ?_ | refine up_mv (by first | decide | omega) ?_)) <;> first | assumption | rfl)) rfl ?_) | refine g_ald (p0 := 37) dX10_sums_36 (by first | rfl | assumption | exact RW.s (by assumption) | exact TW.s (by assumption)) (by assumption) (by first | assumption | ((repeat (first | exact up_hit | refine up_nv (by decide) ?_ | refine up_mv (by first | decide | omega) ?_)) <;> first | assumption | rfl)) rfl ?_
    refine g_goto (tgt := 77) dX10_sums_37 rfl ?_
    first | ((with_reducible refine isN2 ?_); refine g_iaddN (p0 := 78) dX10_sums_77 rfl ?_) | refine g_iadd (p0 := 78) dX10_sums_77 rfl ?_
    refine g_istore_n (p0 := 79) (i := 2) (ls2 := [_, _, _, _]) dX10_sums_78 rfl (Nat.le_of_ble_eq_true rfl) rfl rfl ?_
    first | refine g_iinc1 (p0 := 82) (ls2 := [_, _, _, _]) dX10_sums_79 rfl rfl rfl ?_ | refine g_iinc (p0 := 82) (ls2 := [_, _, _, _]) dX10_sums_79 rfl rfl rfl rfl ?_
    refine g_goto (tgt := 4) dX10_sums_82 rfl ?_
    exact h
theorem sums_5 {s M : Nat} {f : Nat → Nat} {σ : Sg} (hs : σ 80 3 = nI s) (hs1 : s ≤ 160) (hM : σ 79 11 = nI M) (hM1 : M ≤ 160) (hf : ∀ i, i < M → σ 94 i = nI (f i)) : CM mX10_sums [ar 79, ai (nI 5)] σ (Ret (nI (tt f M)) σ) := by
  refine CM_in (ls := [some (ar 79), some (ai (nI 5)), none, none]) rfl ?_
  refine g_iconst (p0 := 1) (v := nI 0) dX10_sums_0 rfl rfl ?_
  refine g_istore_n (p0 := 2) (i := 2) (ls2 := [_, _, _, _]) dX10_sums_1 rfl (Nat.le_of_ble_eq_true rfl) rfl rfl ?_
  refine g_iconst (p0 := 3) (v := nI 0) dX10_sums_2 rfl rfl ?_
  refine g_istore_n (p0 := 4) (i := 3) (ls2 := [_, _, _, _]) dX10_sums_3 rfl (Nat.le_of_ble_eq_true rfl) rfl rfl ?_
  exact sums_l5 hs hs1 hM hM1 hf ⟨rfl, rfl⟩ M 0 (by omega)
set_option maxRecDepth 20000 in
set_option maxHeartbeats 2000000 in
theorem sums_l6 {s M : Nat} {f : Nat → Nat} {σ : Sg} {Q : SP} (hs : σ 80 3 = nI s) (hs1 : s ≤ 160) (hM : σ 79 11 = nI M) (hM1 : M ≤ 160) (hf : ∀ i, i < M → σ 95 i = nI (f i)) (k : Q (some (ai (nI (tt f M)))) σ) : ∀ q i, i + q = M → WM mX10_sums Q 4 [some (ar 79), some (ai (nI 6)), some (ai (nI (tt f i))), some (ai (nI i))] [] σ := by
  intro q
  induction q with
  | zero =>
    intro i hi
    obtain rfl : i = M := by omega
    by_cases h0 : s = 0
    · subst h0
      refine g_iload_n (p0 := 5) (i := 3) dX10_sums_4 rfl rfl rfl ?_
      refine g_aload_n (p0 := 6) (i := 0) dX10_sums_5 rfl rfl rfl ?_
      refine g_getI (p0 := 9) dX10_sums_6 fX10_121 (by first | rfl | assumption | exact RW.s (by assumption) | exact TW.s (by assumption)) rfl (by first | assumption | ((repeat (first | exact up_hit | refine up_nv (by decide) ?_ | refine up_mv (by first | decide | omega) ?_)) <;> first | assumption | rfl)) rfl ?_
      first | ((with_reducible refine isN2 ?_); refine g_icmpN_ge (tgt := 85) (p1 := 12) dX10_sums_9 rfl (by omega) (by omega) rfl (fun c_9 => ?_) (fun c_9 => by exfalso; first | omega | contradiction | exact absurd (by assumption) c_9 | (simp_all; done))) | refine g_icmp_ge (tgt := 85) (p1 := 12) dX10_sums_9 rfl rfl (fun c_9 => ?_) (fun c_9 => by exfalso; first | omega | contradiction | exact absurd (by assumption) c_9 | (simp_all; done))
      refine g_iconst (p0 := 86) (v := nI 0) dX10_sums_85 rfl rfl ?_
      refine g_istore_n (p0 := 87) (i := 3) (ls2 := [_, _, _, _]) dX10_sums_86 rfl (Nat.le_of_ble_eq_true rfl) rfl rfl ?_
      refine g_iload_n (p0 := 88) (i := 3) dX10_sums_87 rfl rfl rfl ?_
      refine g_aload_n (p0 := 89) (i := 0) dX10_sums_88 rfl rfl rfl ?_
      refine g_getR (p0 := 92) dX10_sums_89 fX10_7 (by first | rfl | assumption | exact RW.s (by assumption) | exact TW.s (by assumption)) rfl rfl ?_
      refine g_iconst (p0 := 93) (v := nI 3) dX10_sums_92 rfl rfl ?_
      first | ((with_reducible refine isN1 ?_); refine g_aldN (p0 := 94) dX10_sums_93 (by first | rfl | assumption | exact RW.s (by assumption) | exact TW.s (by assumption)) (by first | decide | assumption) (by omega) (by first | assumption | ((repeat (first | exact up_hit | refine up_nv (by decide) ?_ | refine up_mv (by first | decide | omega) ?_)) <;> first | assumption | rfl)) rfl ?_) | refine g_ald (p0 := 94) dX10_sums_93 (by first | rfl | assumption | exact RW.s (by assumption) | exact TW.s (by assumption)) (by assumption) (by first | assumption | ((repeat (first | exact up_hit | refine up_nv (by decide) ?_ | refine up_mv (by first | decide | omega) ?_)) <;> first | assumption | rfl)) rfl ?_
      first | ((with_reducible refine isN2 ?_); refine g_icmpN_ge (tgt := 125) (p1 := 97) dX10_sums_94 rfl (by omega) (by omega) rfl (fun c_94 => ?_) (fun c_94 => by exfalso; first | omega | contradiction | exact absurd (by assumption) c_94 | (simp_all; done))) | refine g_icmp_ge (tgt := 125) (p1 := 97) dX10_sums_94 rfl rfl (fun c_94 => ?_) (fun c_94 => by exfalso; first | omega | contradiction | exact absurd (by assumption) c_94 | (simp_all; done))
      refine g_iload_n (p0 := 126) (i := 2) dX10_sums_125 rfl rfl rfl ?_
      refine g_ireturn dX10_sums_126 rfl rfl (?_)
      exact k
    · refine g_iload_n (p0 := 5) (i := 3) dX10_sums_4 rfl rfl rfl ?_
      refine g_aload_n (p0 := 6) (i := 0) dX10_sums_5 rfl rfl rfl ?_
      refine g_getI (p0 := 9) dX10_sums_6 fX10_121 (by first | rfl | assumption | exact RW.s (by assumption) | exact TW.s (by assumption)) rfl (by first | assumption | ((repeat (first | exact up_hit | refine up_nv (by decide) ?_ | refine up_mv (by first | decide | omega) ?_)) <;> first | assumption | rfl)) rfl ?_
      first | ((with_reducible refine isN2 ?_); refine g_icmpN_ge (tgt := 85) (p1 := 12) dX10_sums_9 rfl (by omega) (by omega) rfl (fun c_9 => ?_) (fun c_9 => by exfalso; first | omega | contradiction | exact absurd (by assumption) c_9 | (simp_all; done))) | refine g_icmp_ge (tgt := 85) (p1 := 12) dX10_sums_9 rfl rfl (fun c_9 => ?_) (fun c_9 => by exfalso; first | omega | contradiction | exact absurd (by assumption) c_9 | (simp_all; done))
      refine g_iconst (p0 := 86) (v := nI 0) dX10_sums_85 rfl rfl ?_
      refine g_istore_n (p0 := 87) (i := 3) (ls2 := [_, _, _, _]) dX10_sums_86 rfl (Nat.le_of_ble_eq_true rfl) rfl rfl ?_
      refine g_iload_n (p0 := 88) (i := 3) dX10_sums_87 rfl rfl rfl ?_
      refine g_aload_n (p0 := 89) (i := 0) dX10_sums_88 rfl rfl rfl ?_
      refine g_getR (p0 := 92) dX10_sums_89 fX10_7 (by first | rfl | assumption | exact RW.s (by assumption) | exact TW.s (by assumption)) rfl rfl ?_
      refine g_iconst (p0 := 93) (v := nI 3) dX10_sums_92 rfl rfl ?_
      first | ((with_reducible refine isN1 ?_); refine g_aldN (p0 := 94) dX10_sums_93 (by first | rfl | assumption | exact RW.s (by assumption) | exact TW.s (by assumption)) (by first | decide | assumption) (by omega) (by first | assumption | ((repeat (first | exact up_hit | refine up_nv (by decide) ?_ | refine up_mv (by first | decide | omega) ?_)) <;> first | assumption | rfl)) rfl ?_) | refine g_ald (p0 := 94) dX10_sums_93 (by first | rfl | assumption | exact RW.s (by assumption) | exact TW.s (by assumption)) (by assumption) (by first | assumption | ((repeat (first | exact up_hit | refine up_nv (by decide) ?_ | refine up_mv (by first | decide | omega) ?_)) <;> first | assumption | rfl)) rfl ?_
      first | ((with_reducible refine isN2 ?_); refine g_icmpN_ge (tgt := 125) (p1 := 97) dX10_sums_94 rfl (by omega) (by omega) rfl (fun c_94 => by exfalso; first | omega | contradiction | exact absurd (by assumption) c_94 | (simp_all; done)) (fun c_94 => ?_)) | refine g_icmp_ge (tgt := 125) (p1 := 97) dX10_sums_94 rfl rfl (fun c_94 => by exfalso; first | omega | contradiction | exact absurd (by assumption) c_94 | (simp_all; done)) (fun c_94 => ?_)
      refine g_iload_n (p0 := 98) (i := 1) dX10_sums_97 rfl rfl rfl ?_
      refine g_iconst (p0 := 99) (v := nI 4) dX10_sums_98 rfl rfl ?_
      first | ((with_reducible refine isN2 ?_); refine g_icmpN_ne (tgt := 125) (p1 := 102) dX10_sums_99 rfl (by omega) (by omega) rfl (fun c_99 => ?_) (fun c_99 => by exfalso; first | omega | contradiction | exact absurd (by assumption) c_99 | (simp_all; done))) | refine g_icmp_ne (tgt := 125) (p1 := 102) dX10_sums_99 rfl rfl (fun c_99 => ?_) (fun c_99 => by exfalso; first | omega | contradiction | exact absurd (by assumption) c_99 | (simp_all; done))
      refine g_iload_n (p0 := 126) (i := 2) dX10_sums_125 rfl rfl rfl ?_
      refine g_ireturn dX10_sums_126 rfl rfl (?_)
      exact k
  | succ q ih =>
    intro i hi
    have h := ih (i + 1) (by omega)
    have hv := hf i (by omega)
    refine g_iload_n (p0 := 5) (i := 3) dX10_sums_4 rfl rfl rfl ?_
    refine g_aload_n (p0 := 6) (i := 0) dX10_sums_5 rfl rfl rfl ?_
    refine g_getI (p0 := 9) dX10_sums_6 fX10_121 (by first | rfl | assumption | exact RW.s (by assumption) | exact TW.s (by assumption)) rfl (by first | assumption | ((repeat (first | exact up_hit | refine up_nv (by decide) ?_ | refine up_mv (by first | decide | omega) ?_)) <;> first | assumption | rfl)) rfl ?_
    first | ((with_reducible refine isN2 ?_); refine g_icmpN_ge (tgt := 85) (p1 := 12) dX10_sums_9 rfl (by omega) (by omega) rfl (fun c_9 => by exfalso; first | omega | contradiction | exact absurd (by assumption) c_9 | (simp_all; done)) (fun c_9 => ?_)) | refine g_icmp_ge (tgt := 85) (p1 := 12) dX10_sums_9 rfl rfl (fun c_9 => by exfalso; first | omega | contradiction | exact absurd (by assumption) c_9 | (simp_all; done)) (fun c_9 => ?_)
    refine g_iload_n (p0 := 13) (i := 2) dX10_sums_12 rfl rfl rfl ?_
    refine g_iload_n (p0 := 14) (i := 1) dX10_sums_13 rfl rfl rfl ?_
    refine g_iconst (p0 := 15) (v := nI 3) dX10_sums_14 rfl rfl ?_
    first | ((with_reducible refine isN2 ?_); refine g_icmpN_ne (tgt := 26) (p1 := 18) dX10_sums_15 rfl (by omega) (by omega) rfl (fun c_15 => ?_) (fun c_15 => by exfalso; first | omega | contradiction | exact absurd (by assumption) c_15 | (simp_all; done))) | refine g_icmp_ne (tgt := 26) (p1 := 18) dX10_sums_15 rfl rfl (fun c_15 => ?_) (fun c_15 => by exfalso; first | omega | contradiction | exact absurd (by assumption) c_15 | (simp_all; done))
    refine g_iload_n (p0 := 27) (i := 1) dX10_sums_26 rfl rfl rfl ?_
    refine g_iconst (p0 := 28) (v := nI 5) dX10_sums_27 rfl rfl ?_
    first | ((with_reducible refine isN2 ?_); refine g_icmpN_ne (tgt := 40) (p1 := 31) dX10_sums_28 rfl (by omega) (by omega) rfl (fun c_28 => ?_) (fun c_28 => by exfalso; first | omega | contradiction | exact absurd (by assumption) c_28 | (simp_all; done))) | refine g_icmp_ne (tgt := 40) (p1 := 31) dX10_sums_28 rfl rfl (fun c_28 => ?_) (fun c_28 => by exfalso; first | omega | contradiction | exact absurd (by assumption) c_28 | (simp_all; done))
    refine g_iload_n (p0 := 41) (i := 1) dX10_sums_40 rfl rfl rfl ?_
    refine g_bipush (p0 := 43) (v := nI 6) dX10_sums_41 (by decide) rfl ?_
    first | ((with_reducible refine isN2 ?_); refine g_icmpN_ne (tgt := 55) (p1 := 46) dX10_sums_43 rfl (by omega) (by omega) rfl (fun c_43 => by exfalso; first | omega | contradiction | exact absurd (by assumption) c_43 | (simp_all; done)) (fun c_43 => ?_)) | refine g_icmp_ne (tgt := 55) (p1 := 46) dX10_sums_43 rfl rfl (fun c_43 => by exfalso; first | omega | contradiction | exact absurd (by assumption) c_43 | (simp_all; done)) (fun c_43 => ?_)
    refine g_aload_n (p0 := 47) (i := 0) dX10_sums_46 rfl rfl rfl ?_
    refine g_getR (p0 := 50) dX10_sums_47 fX10_55 (by first | rfl | assumption | exact RW.s (by assumption) | exact TW.s (by assumption)) rfl rfl ?_
    refine g_iload_n (p0 := 51) (i := 3) dX10_sums_50 rfl rfl rfl ?_
    first | ((with_reducible refine isN1 ?_); refine g_aldN (p0 := 52) dX10_sums_51 (by first | rfl | assumption | exact RW.s (by assumption) | exact TW.s (by assumption)) (by first | decide | assumption) (by omega) (by first | assumption | ((repeat (first | exact up_hit | refine up_nv (by decide) ?_ | refine up_mv (by first | decide | omega) ?_)) <;> first | assumption | rfl)) rfl ?_) | refine g_ald (p0 := 52) dX10_sums_51 (by first | rfl | assumption | exact RW.s (by assumption) | exact TW.s (by assumption)) (by assumption) (by first | assumption | ((repeat (first | exact up_hit | refine up_nv (by decide) ?_ | refine up_mv (by first | decide | omega) ?_)) <;> first | assumption | rfl)) rfl ?_
    refine g_goto (tgt := 77) dX10_sums_52 rfl ?_
    first | ((with_reducible refine isN2 ?_); refine g_iaddN (p0 := 78) dX10_sums_77 rfl ?_) | refine g_iadd (p0 := 78) dX10_sums_77 rfl ?_
    refine g_istore_n (p0 := 79) (i := 2) (ls2 := [_, _, _, _]) dX10_sums_78 rfl (Nat.le_of_ble_eq_true rfl) rfl rfl ?_
    first | refine g_iinc1 (p0 := 82) (ls2 := [_, _, _, _]) dX10_sums_79 rfl rfl rfl ?_ | refine g_iinc (p0 := 82) (ls2 := [_, _, _, _]) dX10_sums_79 rfl rfl rfl rfl ?_
    refine g_goto (tgt := 4) dX10_sums_82 rfl ?_
    exact h
theorem sums_6 {s M : Nat} {f : Nat → Nat} {σ : Sg} (hs : σ 80 3 = nI s) (hs1 : s ≤ 160) (hM : σ 79 11 = nI M) (hM1 : M ≤ 160) (hf : ∀ i, i < M → σ 95 i = nI (f i)) : CM mX10_sums [ar 79, ai (nI 6)] σ (Ret (nI (tt f M)) σ) := by
  refine CM_in (ls := [some (ar 79), some (ai (nI 6)), none, none]) rfl ?_
  refine g_iconst (p0 := 1) (v := nI 0) dX10_sums_0 rfl rfl ?_
  refine g_istore_n (p0 := 2) (i := 2) (ls2 := [_, _, _, _]) dX10_sums_1 rfl (Nat.le_of_ble_eq_true rfl) rfl rfl ?_
  refine g_iconst (p0 := 3) (v := nI 0) dX10_sums_2 rfl rfl ?_
  refine g_istore_n (p0 := 4) (i := 3) (ls2 := [_, _, _, _]) dX10_sums_3 rfl (Nat.le_of_ble_eq_true rfl) rfl rfl ?_
  exact sums_l6 hs hs1 hM hM1 hf ⟨rfl, rfl⟩ M 0 (by omega)
