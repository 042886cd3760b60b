/-! QUESTIONS: how many strokes are left out, the reference -/
set_option maxRecDepth 20000 in
set_option maxHeartbeats 2000000 in
theorem sums_4b {s M : Nat} {c : Nat → Nat} {σ : Sg} {Q : SP} (hs : σ 80 3 = nI s) (hs1 : s ≤ 160) (hM : σ 79 11 = nI M) (hM1 : M ≤ 160) (hc : ∀ i, i < s → σ 85 i = nI (c i) ∧ c i ≤ 5) (k : Q (some (ai (nI (lo c s)))) σ) : ∀ q i, i + q = s → WM mX10_sums Q 87 [some (ar 79), some (ai (nI 4)), some (ai (nI (lo c i))), some (ai (nI (i)))] [] σ := by
  intro q
  induction q with
  | zero =>
    intro i hi
    obtain rfl : i = s := by omega
    refine g_iload_n (p0 := 88) (i := 3) dX10_sums_87 rfl rfl rfl ?_
    refine g_aload_n (p0 := 89) (i := 0) dX10_sums_88 rfl rfl rfl ?_
    refine g_getR (p0 := 92) dX10_sums_89 fX10_7 (by first | rfl | assumption | exact RW.s (by assumption) | exact TW.s (by assumption)) rfl rfl ?_
    refine g_iconst (p0 := 93) (v := nI 3) dX10_sums_92 rfl rfl ?_
    first | ((with_reducible refine isN1 ?_); refine g_aldN (p0 := 94) dX10_sums_93 (by first | rfl | assumption | exact RW.s (by assumption) | exact TW.s (by assumption)) (by first | decide | assumption) (by omega) (by first | assumption | ((repeat (first | exact up_hit | refine up_nv (by decide) ?_ | refine up_mv (by first | decide | omega) ?_)) <;> first | assumption | rfl)) rfl ?_) | refine g_ald (p0 := 94) dX10_sums_93 (by first | rfl | assumption | exact RW.s (by assumption) | exact TW.s (by assumption)) (by assumption) (by first | assumption | ((repeat (first | exact up_hit | refine up_nv (by decide) ?_ | refine up_mv (by first | decide | omega) ?_)) <;> first | assumption | rfl)) rfl ?_
    first | ((with_reducible refine isN2 ?_); refine g_icmpN_ge (tgt := 125) (p1 := 97) dX10_sums_94 rfl (by omega) (by omega) rfl (fun c_94 => ?_) (fun c_94 => by exfalso; first | omega | contradiction | exact absurd (by assumption) c_94 | (simp_all; done))) | refine g_icmp_ge (tgt := 125) (p1 := 97) dX10_sums_94 rfl rfl (fun c_94 => ?_) (fun c_94 => by exfalso; first | omega | contradiction | exact absurd (by assumption) c_94 | (simp_all; done))
    refine g_iload_n (p0 := 126) (i := 2) dX10_sums_125 rfl rfl rfl ?_
    refine g_ireturn dX10_sums_126 rfl rfl (?_)
    exact k
  | succ q ih =>
    intro i hi
    have h := ih (i + 1) (by omega)
    obtain ⟨hv, h5⟩ := hc i (by omega)
    by_cases h0 : c i = 0
    · have e : lo c (i + 1) = lo c i + 1 := by rw [lo, if_pos h0]
      rw [e] at h
      refine g_iload_n (p0 := 88) (i := 3) dX10_sums_87 rfl rfl rfl ?_
      refine g_aload_n (p0 := 89) (i := 0) dX10_sums_88 rfl rfl rfl ?_
      refine g_getR (p0 := 92) dX10_sums_89 fX10_7 (by first | rfl | assumption | exact RW.s (by assumption) | exact TW.s (by assumption)) rfl rfl ?_
      refine g_iconst (p0 := 93) (v := nI 3) dX10_sums_92 rfl rfl ?_
      first | ((with_reducible refine isN1 ?_); refine g_aldN (p0 := 94) dX10_sums_93 (by first | rfl | assumption | exact RW.s (by assumption) | exact TW.s (by assumption)) (by first | decide | assumption) (by omega) (by first | assumption | ((repeat (first | exact up_hit | refine up_nv (by decide) ?_ | refine up_mv (by first | decide | omega) ?_)) <;> first | assumption | rfl)) rfl ?_) | refine g_ald (p0 := 94) dX10_sums_93 (by first | rfl | assumption | exact RW.s (by assumption) | exact TW.s (by assumption)) (by assumption) (by first | assumption | ((repeat (first | exact up_hit | refine up_nv (by decide) ?_ | refine up_mv (by first | decide | omega) ?_)) <;> first | assumption | rfl)) rfl ?_
      first | ((with_reducible refine isN2 ?_); refine g_icmpN_ge (tgt := 125) (p1 := 97) dX10_sums_94 rfl (by omega) (by omega) rfl (fun c_94 => by exfalso; first | omega | contradiction | exact absurd (by assumption) c_94 | (simp_all; done)) (fun c_94 => ?_)) | refine g_icmp_ge (tgt := 125) (p1 := 97) dX10_sums_94 rfl rfl (fun c_94 => by exfalso; first | omega | contradiction | exact absurd (by assumption) c_94 | (simp_all; done)) (fun c_94 => ?_)
      refine g_iload_n (p0 := 98) (i := 1) dX10_sums_97 rfl rfl rfl ?_
      refine g_iconst (p0 := 99) (v := nI 4) dX10_sums_98 rfl rfl ?_
      first | ((with_reducible refine isN2 ?_); refine g_icmpN_ne (tgt := 125) (p1 := 102) dX10_sums_99 rfl (by omega) (by omega) rfl (fun c_99 => by exfalso; first | omega | contradiction | exact absurd (by assumption) c_99 | (simp_all; done)) (fun c_99 => ?_)) | refine g_icmp_ne (tgt := 125) (p1 := 102) dX10_sums_99 rfl rfl (fun c_99 => by exfalso; first | omega | contradiction | exact absurd (by assumption) c_99 | (simp_all; done)) (fun c_99 => ?_)
      refine g_iload_n (p0 := 103) (i := 2) dX10_sums_102 rfl rfl rfl ?_
      refine g_aload_n (p0 := 104) (i := 0) dX10_sums_103 rfl rfl rfl ?_
      refine g_getR (p0 := 107) dX10_sums_104 fX10_25 (by first | rfl | assumption | exact RW.s (by assumption) | exact TW.s (by assumption)) rfl rfl ?_
      refine g_iload_n (p0 := 108) (i := 3) dX10_sums_107 rfl rfl rfl ?_
      first | ((with_reducible refine isN1 ?_); refine g_aldN (p0 := 109) dX10_sums_108 (by first | rfl | assumption | exact RW.s (by assumption) | exact TW.s (by assumption)) (by first | decide | assumption) (by omega) (by first | assumption | ((repeat (first | exact up_hit | refine up_nv (by decide) ?_ | refine up_mv (by first | decide | omega) ?_)) <;> first | assumption | rfl)) rfl ?_) | refine g_ald (p0 := 109) dX10_sums_108 (by first | rfl | assumption | exact RW.s (by assumption) | exact TW.s (by assumption)) (by assumption) (by first | assumption | ((repeat (first | exact up_hit | refine up_nv (by decide) ?_ | refine up_mv (by first | decide | omega) ?_)) <;> first | assumption | rfl)) rfl ?_
      first | ((with_reducible refine isN1 ?_); refine g_ifN_ne (tgt := 116) (p1 := 112) dX10_sums_109 rfl (by omega) rfl (fun c_109 => by exfalso; first | omega | contradiction | exact absurd (by assumption) c_109 | (simp_all; done)) (fun c_109 => ?_)) | refine g_if_ne (tgt := 116) (p1 := 112) dX10_sums_109 rfl rfl (fun c_109 => by exfalso; first | omega | contradiction | exact absurd (by assumption) c_109 | (simp_all; done)) (fun c_109 => ?_)
      refine g_iconst (p0 := 113) (v := nI 1) dX10_sums_112 rfl rfl ?_
      refine g_goto (tgt := 117) dX10_sums_113 rfl ?_
      first | ((with_reducible refine isN2 ?_); refine g_iaddN (p0 := 118) dX10_sums_117 rfl ?_) | refine g_iadd (p0 := 118) dX10_sums_117 rfl ?_
      refine g_istore_n (p0 := 119) (i := 2) (ls2 := [_, _, _, _]) dX10_sums_118 rfl (Nat.le_of_ble_eq_true rfl) rfl rfl ?_
      first | refine g_iinc1 (p0 := 122) (ls2 := [_, _, _, _]) dX10_sums_119 rfl rfl rfl ?_ | refine g_iinc (p0 := 122) (ls2 := [_, _, _, _]) dX10_sums_119 rfl rfl rfl rfl ?_
      refine g_goto (tgt := 87) dX10_sums_122 rfl ?_
      exact h
    · have e : lo c (i + 1) = lo c i := by rw [lo, if_neg h0]
      rw [e] at h
      refine g_iload_n (p0 := 88) (i := 3) dX10_sums_87 rfl rfl rfl ?_
      refine g_aload_n (p0 := 89) (i := 0) dX10_sums_88 rfl rfl rfl ?_
      refine g_getR (p0 := 92) dX10_sums_89 fX10_7 (by first | rfl | assumption | exact RW.s (by assumption) | exact TW.s (by assumption)) rfl rfl ?_
      refine g_iconst (p0 := 93) (v := nI 3) dX10_sums_92 rfl rfl ?_
      first | ((with_reducible refine isN1 ?_); refine g_aldN (p0 := 94) dX10_sums_93 (by first | rfl | assumption | exact RW.s (by assumption) | exact TW.s (by assumption)) (by first | decide | assumption) (by omega) (by first | assumption | ((repeat (first | exact up_hit | refine up_nv (by decide) ?_ | refine up_mv (by first | decide | omega) ?_)) <;> first | assumption | rfl)) rfl ?_) | refine g_ald (p0 := 94) dX10_sums_93 (by first | rfl | assumption | exact RW.s (by assumption) | exact TW.s (by assumption)) (by assumption) (by first | assumption | ((repeat (first | exact up_hit | refine up_nv (by decide) ?_ | refine up_mv (by first | decide | omega) ?_)) <;> first | assumption | rfl)) rfl ?_
      first | ((with_reducible refine isN2 ?_); refine g_icmpN_ge (tgt := 125) (p1 := 97) dX10_sums_94 rfl (by omega) (by omega) rfl (fun c_94 => by exfalso; first | omega | contradiction | exact absurd (by assumption) c_94 | (simp_all; done)) (fun c_94 => ?_)) | refine g_icmp_ge (tgt := 125) (p1 := 97) dX10_sums_94 rfl rfl (fun c_94 => by exfalso; first | omega | contradiction | exact absurd (by assumption) c_94 | (simp_all; done)) (fun c_94 => ?_)
      refine g_iload_n (p0 := 98) (i := 1) dX10_sums_97 rfl rfl rfl ?_
      refine g_iconst (p0 := 99) (v := nI 4) dX10_sums_98 rfl rfl ?_
      first | ((with_reducible refine isN2 ?_); refine g_icmpN_ne (tgt := 125) (p1 := 102) dX10_sums_99 rfl (by omega) (by omega) rfl (fun c_99 => by exfalso; first | omega | contradiction | exact absurd (by assumption) c_99 | (simp_all; done)) (fun c_99 => ?_)) | refine g_icmp_ne (tgt := 125) (p1 := 102) dX10_sums_99 rfl rfl (fun c_99 => by exfalso; first | omega | contradiction | exact absurd (by assumption) c_99 | (simp_all; done)) (fun c_99 => ?_)
      refine g_iload_n (p0 := 103) (i := 2) dX10_sums_102 rfl rfl rfl ?_
      refine g_aload_n (p0 := 104) (i := 0) dX10_sums_103 rfl rfl rfl ?_
      refine g_getR (p0 := 107) dX10_sums_104 fX10_25 (by first | rfl | assumption | exact RW.s (by assumption) | exact TW.s (by assumption)) rfl rfl ?_
      refine g_iload_n (p0 := 108) (i := 3) dX10_sums_107 rfl rfl rfl ?_
      first | ((with_reducible refine isN1 ?_); refine g_aldN (p0 := 109) dX10_sums_108 (by first | rfl | assumption | exact RW.s (by assumption) | exact TW.s (by assumption)) (by first | decide | assumption) (by omega) (by first | assumption | ((repeat (first | exact up_hit | refine up_nv (by decide) ?_ | refine up_mv (by first | decide | omega) ?_)) <;> first | assumption | rfl)) rfl ?_) | refine g_ald (p0 := 109) dX10_sums_108 (by first | rfl | assumption | exact RW.s (by assumption) | exact TW.s (by assumption)) (by assumption) (by first | assumption | ((repeat (first | exact up_hit | refine up_nv (by decide) ?_ | refine up_mv (by first | decide | omega) ?_)) <;> first | assumption | rfl)) rfl ?_
      first | ((with_reducible refine isN1 ?_); refine g_ifN_ne (tgt := 116) (p1 := 112) dX10_sums_109 rfl (by omega) rfl (fun c_109 => ?_) (fun c_109 => by exfalso; first | omega | contradiction | exact absurd (by assumption) c_109 | (simp_all; done))) | refine g_if_ne (tgt := 116) (p1 := 112) dX10_sums_109 rfl rfl (fun c_109 => ?_) (fun c_109 => by exfalso; first | omega | contradiction | exact absurd (by assumption) c_109 | (simp_all; done))
      refine g_iconst (p0 := 117) (v := nI 0) dX10_sums_116 rfl rfl ?_
      first | ((with_reducible refine isN2 ?_); refine g_iaddN (p0 := 118) dX10_sums_117 rfl ?_) | refine g_iadd (p0 := 118) dX10_sums_117 rfl ?_
      refine g_istore_n (p0 := 119) (i := 2) (ls2 := [_, _, _, _]) dX10_sums_118 rfl (Nat.le_of_ble_eq_true rfl) rfl rfl ?_
      first | refine g_iinc1 (p0 := 122) (ls2 := [_, _, _, _]) dX10_sums_119 rfl rfl rfl ?_ | refine g_iinc (p0 := 122) (ls2 := [_, _, _, _]) dX10_sums_119 rfl rfl rfl rfl ?_
      refine g_goto (tgt := 87) dX10_sums_122 rfl ?_
      exact h
set_option maxRecDepth 20000 in
set_option maxHeartbeats 2000000 in
theorem sums_4a {s M : Nat} {c : Nat → Nat} {σ : Sg} {Q : SP} (hs : σ 80 3 = nI s) (hs1 : s ≤ 160) (hM : σ 79 11 = nI M) (hM1 : M ≤ 160) (hc : ∀ i, i < s → σ 85 i = nI (c i) ∧ c i ≤ 5) (k : Q (some (ai (nI (lo c s)))) σ) : ∀ q i, i + q = M → WM mX10_sums Q 4 [some (ar 79), some (ai (nI 4)), some (ai (nI (0))), some (ai (nI (i)))] [] σ := by
  intro q
  induction q with
  | zero =>
    intro i hi
    obtain rfl : i = M := by omega
    have h := sums_4b hs hs1 hM hM1 hc k s 0 (by omega)
    refine g_iload_n (p0 := 5) (i := 3) dX10_sums_4 rfl rfl rfl ?_
    refine g_aload_n (p0 := 6) (i := 0) dX10_sums_5 rfl rfl rfl ?_
    refine g_getI (p0 := 9) dX10_sums_6 fX10_121 (by first | rfl | assumption | exact RW.s (by assumption) | exact TW.s (by assumption)) rfl (by first | assumption | ((repeat (first | exact up_hit | refine up_nv (by decide) ?_ | refine up_mv (by first | decide | omega) ?_)) <;> first | assumption | rfl)) rfl ?_
    first | ((with_reducible refine isN2 ?_); refine g_icmpN_ge (tgt := 85) (p1 := 12) dX10_sums_9 rfl (by omega) (by omega) rfl (fun c_9 => ?_) (fun c_9 => by exfalso; first | omega | contradiction | exact absurd (by assumption) c_9 | (simp_all; done))) | refine g_icmp_ge (tgt := 85) (p1 := 12) dX10_sums_9 rfl rfl (fun c_9 => ?_) (fun c_9 => by exfalso; first | omega | contradiction | exact absurd (by assumption) c_9 | (simp_all; done))
    refine g_iconst (p0 := 86) (v := nI 0) dX10_sums_85 rfl rfl ?_
    refine g_istore_n (p0 := 87) (i := 3) (ls2 := [_, _, _, _]) dX10_sums_86 rfl (Nat.le_of_ble_eq_true rfl) rfl rfl ?_
    exact h
  | succ q ih =>
    intro i hi
    have h := ih (i + 1) (by omega)
    refine g_iload_n (p0 := 5) (i := 3) dX10_sums_4 rfl rfl rfl ?_
    refine g_aload_n (p0 := 6) (i := 0) dX10_sums_5 rfl rfl rfl ?_
    refine g_getI (p0 := 9) dX10_sums_6 fX10_121 (by first | rfl | assumption | exact RW.s (by assumption) | exact TW.s (by assumption)) rfl (by first | assumption | ((repeat (first | exact up_hit | refine up_nv (by decide) ?_ | refine up_mv (by first | decide | omega) ?_)) <;> first | assumption | rfl)) rfl ?_
    first | ((with_reducible refine isN2 ?_); refine g_icmpN_ge (tgt := 85) (p1 := 12) dX10_sums_9 rfl (by omega) (by omega) rfl (fun c_9 => by exfalso; first | omega | contradiction | exact absurd (by assumption) c_9 | (simp_all; done)) (fun c_9 => ?_)) | refine g_icmp_ge (tgt := 85) (p1 := 12) dX10_sums_9 rfl rfl (fun c_9 => by exfalso; first | omega | contradiction | exact absurd (by assumption) c_9 | (simp_all; done)) (fun c_9 => ?_)
    refine g_iload_n (p0 := 13) (i := 2) dX10_sums_12 rfl rfl rfl ?_
    refine g_iload_n (p0 := 14) (i := 1) dX10_sums_13 rfl rfl rfl ?_
    refine g_iconst (p0 := 15) (v := nI 3) dX10_sums_14 rfl rfl ?_
    first | ((with_reducible refine isN2 ?_); refine g_icmpN_ne (tgt := 26) (p1 := 18) dX10_sums_15 rfl (by omega) (by omega) rfl (fun c_15 => ?_) (fun c_15 => by exfalso; first | omega | contradiction | exact absurd (by assumption) c_15 | (simp_all; done))) | refine g_icmp_ne (tgt := 26) (p1 := 18) dX10_sums_15 rfl rfl (fun c_15 => ?_) (fun c_15 => by exfalso; first | omega | contradiction | exact absurd (by assumption) c_15 | (simp_all; done))
    refine g_iload_n (p0 := 27) (i := 1) dX10_sums_26 rfl rfl rfl ?_
    refine g_iconst (p0 := 28) (v := nI 5) dX10_sums_27 rfl rfl ?_
    first | ((with_reducible refine isN2 ?_); refine g_icmpN_ne (tgt := 40) (p1 := 31) dX10_sums_28 rfl (by omega) (by omega) rfl (fun c_28 => ?_) (fun c_28 => by exfalso; first | omega | contradiction | exact absurd (by assumption) c_28 | (simp_all; done))) | refine g_icmp_ne (tgt := 40) (p1 := 31) dX10_sums_28 rfl rfl (fun c_28 => ?_) (fun c_28 => by exfalso; first | omega | contradiction | exact absurd (by assumption) c_28 | (simp_all; done))
    refine g_iload_n (p0 := 41) (i := 1) dX10_sums_40 rfl rfl rfl ?_
    refine g_bipush (p0 := 43) (v := nI 6) dX10_sums_41 (by decide) rfl ?_
    first | ((with_reducible refine isN2 ?_); refine g_icmpN_ne (tgt := 55) (p1 := 46) dX10_sums_43 rfl (by omega) (by omega) rfl (fun c_43 => ?_) (fun c_43 => by exfalso; first | omega | contradiction | exact absurd (by assumption) c_43 | (simp_all; done))) | refine g_icmp_ne (tgt := 55) (p1 := 46) dX10_sums_43 rfl rfl (fun c_43 => ?_) (fun c_43 => by exfalso; first | omega | contradiction | exact absurd (by assumption) c_43 | (simp_all; done))
    refine g_iload_n (p0 := 56) (i := 1) dX10_sums_55 rfl rfl rfl ?_
    refine g_bipush (p0 := 58) (v := nI 7) dX10_sums_56 (by decide) rfl ?_
    first | ((with_reducible refine isN2 ?_); refine g_icmpN_ne (tgt := 76) (p1 := 61) dX10_sums_58 rfl (by omega) (by omega) rfl (fun c_58 => ?_) (fun c_58 => by exfalso; first | omega | contradiction | exact absurd (by assumption) c_58 | (simp_all; done))) | refine g_icmp_ne (tgt := 76) (p1 := 61) dX10_sums_58 rfl rfl (fun c_58 => ?_) (fun c_58 => by exfalso; first | omega | contradiction | exact absurd (by assumption) c_58 | (simp_all; done))
    refine g_iconst (p0 := 77) (v := nI 0) dX10_sums_76 rfl rfl ?_
    first | ((with_reducible refine isN2 ?_); refine g_iaddN (p0 := 78) dX10_sums_77 rfl ?_) | refine g_iadd (p0 := 78) dX10_sums_77 rfl ?_
    refine g_istore_n (p0 := 79) (i := 2) (ls2 := [_, _, _, _]) dX10_sums_78 rfl (Nat.le_of_ble_eq_true rfl) rfl rfl ?_
    first | refine g_iinc1 (p0 := 82) (ls2 := [_, _, _, _]) dX10_sums_79 rfl rfl rfl ?_ | refine g_iinc (p0 := 82) (ls2 := [_, _, _, _]) dX10_sums_79 rfl rfl rfl rfl ?_
    refine g_goto (tgt := 4) dX10_sums_82 rfl ?_
    exact h
theorem sums_4 {s M : Nat} {c : Nat → Nat} {σ : Sg} (hs : σ 80 3 = nI s) (hs1 : s ≤ 160) (hM : σ 79 11 = nI M) (hM1 : M ≤ 160) (hc : ∀ i, i < s → σ 85 i = nI (c i) ∧ c i ≤ 5) : CM mX10_sums [ar 79, ai (nI 4)] σ (Ret (nI (lo c s)) σ) := by
  refine CM_in (ls := [some (ar 79), some (ai (nI 4)), none, none]) rfl ?_
  refine g_iconst (p0 := 1) (v := nI 0) dX10_sums_0 rfl rfl ?_
  refine g_istore_n (p0 := 2) (i := 2) (ls2 := [_, _, _, _]) dX10_sums_1 rfl (Nat.le_of_ble_eq_true rfl) rfl rfl ?_
  refine g_iconst (p0 := 3) (v := nI 0) dX10_sums_2 rfl rfl ?_
  refine g_istore_n (p0 := 4) (i := 3) (ls2 := [_, _, _, _]) dX10_sums_3 rfl (Nat.le_of_ble_eq_true rfl) rfl rfl ?_
  exact sums_4a hs hs1 hM hM1 hc ⟨rfl, rfl⟩ M 0 (by omega)
