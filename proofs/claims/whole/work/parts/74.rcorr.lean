/-! CORRECTIONS, the reference -/
set_option maxRecDepth 20000 in
set_option maxHeartbeats 2000000 in
theorem isW_bad {m l0 f2 i : Nat} {x S l : Int32} {x8 : Option AV} {σ : Sg} {Q : SP} (hm : m < 160) (h1 : σ 92 (m + 1) = nI f2) (hf2 : f2 ≤ 160) (hi : i ≤ 160) (k : Q (some (ai (nI 0))) σ) : WM mX10_isRight Q 30 [some (ar 79), some (ai (nI m)), some (ai (nI l0)), some (ai x), some (ai (S)), some (ai (l)), some (ai (nI 0)), some (ai (nI (i))), x8] [] σ := by
  by_cases h : i < f2
  · refine g_iload (p0 := 32) dX10_isRight_30 rfl rfl ?_
    refine g_aload_n (p0 := 33) (i := 0) dX10_isRight_32 rfl rfl rfl ?_
    refine g_getR (p0 := 36) dX10_isRight_33 fX10_46 (by first | rfl | assumption | exact RW.s (by assumption) | exact TW.s (by assumption)) rfl rfl ?_
    refine g_iload_n (p0 := 37) (i := 1) dX10_isRight_36 rfl rfl rfl ?_
    refine g_iconst (p0 := 38) (v := nI 1) dX10_isRight_37 rfl rfl ?_
    first | ((with_reducible refine isN2 ?_); refine g_iaddN (p0 := 39) dX10_isRight_38 rfl ?_) | refine g_iadd (p0 := 39) dX10_isRight_38 rfl ?_
    first | ((with_reducible refine isN1 ?_); refine g_aldN (p0 := 40) dX10_isRight_39 (by first | rfl | assumption | exact RW.s (by assumption) | exact TW.s (by assumption)) (by first | decide | assumption) (by omega) (by first | assumption | ((repeat (first | exact up_hit | refine up_nv (by decide) ?_ | refine up_mv (by first | decide | omega) ?_)) <;> first | assumption | rfl)) rfl ?_) | refine g_ald (p0 := 40) dX10_isRight_39 (by first | rfl | assumption | exact RW.s (by assumption) | exact TW.s (by assumption)) (by assumption) (by first | assumption | ((repeat (first | exact up_hit | refine up_nv (by decide) ?_ | refine up_mv (by first | decide | omega) ?_)) <;> first | assumption | rfl)) rfl ?_
    first | ((with_reducible refine isN2 ?_); refine g_icmpN_ge (tgt := 121) (p1 := 43) dX10_isRight_40 rfl (by omega) (by omega) rfl (fun c_40 => by exfalso; first | omega | contradiction | exact nI_ne_m4 (by omega) c_40 | exact h c_40 | exact c_40 h) (fun c_40 => ?_)) | refine g_icmp_ge (tgt := 121) (p1 := 43) dX10_isRight_40 rfl rfl (fun c_40 => by exfalso; first | omega | contradiction | exact nI_ne_m4 (by omega) c_40 | exact h c_40 | exact c_40 h) (fun c_40 => ?_)
    refine g_iload (p0 := 45) dX10_isRight_43 rfl rfl ?_
    first | ((with_reducible refine isN1 ?_); refine g_ifN_eq (tgt := 121) (p1 := 48) dX10_isRight_45 rfl (by omega) rfl (fun c_45 => ?_) (fun c_45 => by exfalso; first | omega | contradiction | exact nI_ne_m4 (by omega) c_45 | exact h c_45 | exact c_45 h)) | refine g_if_eq (tgt := 121) (p1 := 48) dX10_isRight_45 rfl rfl (fun c_45 => ?_) (fun c_45 => by exfalso; first | omega | contradiction | exact nI_ne_m4 (by omega) c_45 | exact h c_45 | exact c_45 h)
    refine g_iload (p0 := 123) dX10_isRight_121 rfl rfl ?_
    first | ((with_reducible refine isN1 ?_); refine g_ifN_eq (tgt := 143) (p1 := 126) dX10_isRight_123 rfl (by omega) rfl (fun c_123 => ?_) (fun c_123 => by exfalso; first | omega | contradiction | exact nI_ne_m4 (by omega) c_123 | exact h c_123 | exact c_123 h)) | refine g_if_eq (tgt := 143) (p1 := 126) dX10_isRight_123 rfl rfl (fun c_123 => ?_) (fun c_123 => by exfalso; first | omega | contradiction | exact nI_ne_m4 (by omega) c_123 | exact h c_123 | exact c_123 h)
    refine g_iconst (p0 := 144) (v := nI 0) dX10_isRight_143 rfl rfl ?_
    refine g_ireturn dX10_isRight_144 rfl (by first | rfl | exact bool_narrow (by first | exact Or.inl rfl | exact Or.inr rfl | assumption | (split <;> first | exact Or.inl rfl | exact Or.inr rfl))) (?_)
    exact k
  · refine g_iload (p0 := 32) dX10_isRight_30 rfl rfl ?_
    refine g_aload_n (p0 := 33) (i := 0) dX10_isRight_32 rfl rfl rfl ?_
    refine g_getR (p0 := 36) dX10_isRight_33 fX10_46 (by first | rfl | assumption | exact RW.s (by assumption) | exact TW.s (by assumption)) rfl rfl ?_
    refine g_iload_n (p0 := 37) (i := 1) dX10_isRight_36 rfl rfl rfl ?_
    refine g_iconst (p0 := 38) (v := nI 1) dX10_isRight_37 rfl rfl ?_
    first | ((with_reducible refine isN2 ?_); refine g_iaddN (p0 := 39) dX10_isRight_38 rfl ?_) | refine g_iadd (p0 := 39) dX10_isRight_38 rfl ?_
    first | ((with_reducible refine isN1 ?_); refine g_aldN (p0 := 40) dX10_isRight_39 (by first | rfl | assumption | exact RW.s (by assumption) | exact TW.s (by assumption)) (by first | decide | assumption) (by omega) (by first | assumption | ((repeat (first | exact up_hit | refine up_nv (by decide) ?_ | refine up_mv (by first | decide | omega) ?_)) <;> first | assumption | rfl)) rfl ?_) | refine g_ald (p0 := 40) dX10_isRight_39 (by first | rfl | assumption | exact RW.s (by assumption) | exact TW.s (by assumption)) (by assumption) (by first | assumption | ((repeat (first | exact up_hit | refine up_nv (by decide) ?_ | refine up_mv (by first | decide | omega) ?_)) <;> first | assumption | rfl)) rfl ?_
    first | ((with_reducible refine isN2 ?_); refine g_icmpN_ge (tgt := 121) (p1 := 43) dX10_isRight_40 rfl (by omega) (by omega) rfl (fun c_40 => ?_) (fun c_40 => by exfalso; first | omega | contradiction | exact nI_ne_m4 (by omega) c_40 | exact h c_40 | exact c_40 h)) | refine g_icmp_ge (tgt := 121) (p1 := 43) dX10_isRight_40 rfl rfl (fun c_40 => ?_) (fun c_40 => by exfalso; first | omega | contradiction | exact nI_ne_m4 (by omega) c_40 | exact h c_40 | exact c_40 h)
    refine g_iload (p0 := 123) dX10_isRight_121 rfl rfl ?_
    first | ((with_reducible refine isN1 ?_); refine g_ifN_eq (tgt := 143) (p1 := 126) dX10_isRight_123 rfl (by omega) rfl (fun c_123 => ?_) (fun c_123 => by exfalso; first | omega | contradiction | exact nI_ne_m4 (by omega) c_123 | exact h c_123 | exact c_123 h)) | refine g_if_eq (tgt := 143) (p1 := 126) dX10_isRight_123 rfl rfl (fun c_123 => ?_) (fun c_123 => by exfalso; first | omega | contradiction | exact nI_ne_m4 (by omega) c_123 | exact h c_123 | exact c_123 h)
    refine g_iconst (p0 := 144) (v := nI 0) dX10_isRight_143 rfl rfl ?_
    refine g_ireturn dX10_isRight_144 rfl (by first | rfl | exact bool_narrow (by first | exact Or.inl rfl | exact Or.inr rfl | assumption | (split <;> first | exact Or.inl rfl | exact Or.inr rfl))) (?_)
    exact k
set_option maxRecDepth 20000 in
set_option maxHeartbeats 2000000 in
theorem isW_loop {L m l0 f f2 : Nat} {g a b : Nat → Nat} {x : Int32} {v v1 : Nat → Int32} {σ : Sg} {Q : SP} (hV : VAL σ L g a b v) (hne : ∀ l, l ≠ l0 → v1 l = v l) (hl0 : v1 l0 = x) (hx : ¬ x = -1) (hl160 : l0 < 160) (hm : m < 160) (h1 : σ 92 (m + 1) = nI f2) (hf2 : f2 ≤ L) (k0 : ¬ RGT v1 f (f2 - f) → Q (some (ai (nI 0))) σ) (k1 : ∀ n, f + n = f2 → uF v1 f n = 0 → sF v1 f n - la v1 f n - (sF v1 f n - la v1 f n) / nI 25 * nI 25 = la v1 f n → Q (some (ai (nI 1))) σ) : ∀ q n, f + n + q = f2 → uF v1 f n = 0 → ∀ x8, WM mX10_isRight Q 30 [some (ar 79), some (ai (nI m)), some (ai (nI l0)), some (ai x), some (ai (sF v1 f n)), some (ai (la v1 f n)), some (ai (nI 1)), some (ai (nI (f + n))), x8] [] σ := by
  have h160 := hV.2.1
  intro q
  induction q with
  | zero =>
    intro n hn hu x8
    by_cases h : sF v1 f n - la v1 f n - (sF v1 f n - la v1 f n) / nI 25 * nI 25 = la v1 f n
    · have k := k1 n (by omega) hu h
      refine g_iload (p0 := 32) dX10_isRight_30 rfl rfl ?_
      refine g_aload_n (p0 := 33) (i := 0) dX10_isRight_32 rfl rfl rfl ?_
      refine g_getR (p0 := 36) dX10_isRight_33 fX10_46 (by first | rfl | assumption | exact RW.s (by assumption) | exact TW.s (by assumption)) rfl rfl ?_
      refine g_iload_n (p0 := 37) (i := 1) dX10_isRight_36 rfl rfl rfl ?_
      refine g_iconst (p0 := 38) (v := nI 1) dX10_isRight_37 rfl rfl ?_
      first | ((with_reducible refine isN2 ?_); refine g_iaddN (p0 := 39) dX10_isRight_38 rfl ?_) | refine g_iadd (p0 := 39) dX10_isRight_38 rfl ?_
      first | ((with_reducible refine isN1 ?_); refine g_aldN (p0 := 40) dX10_isRight_39 (by first | rfl | assumption | exact RW.s (by assumption) | exact TW.s (by assumption)) (by first | decide | assumption) (by omega) (by first | assumption | ((repeat (first | exact up_hit | refine up_nv (by decide) ?_ | refine up_mv (by first | decide | omega) ?_)) <;> first | assumption | rfl)) rfl ?_) | refine g_ald (p0 := 40) dX10_isRight_39 (by first | rfl | assumption | exact RW.s (by assumption) | exact TW.s (by assumption)) (by assumption) (by first | assumption | ((repeat (first | exact up_hit | refine up_nv (by decide) ?_ | refine up_mv (by first | decide | omega) ?_)) <;> first | assumption | rfl)) rfl ?_
      first | ((with_reducible refine isN2 ?_); refine g_icmpN_ge (tgt := 121) (p1 := 43) dX10_isRight_40 rfl (by omega) (by omega) rfl (fun c_40 => ?_) (fun c_40 => by exfalso; first | omega | contradiction | exact nI_ne_m4 (by omega) c_40 | exact h c_40 | exact c_40 h)) | refine g_icmp_ge (tgt := 121) (p1 := 43) dX10_isRight_40 rfl rfl (fun c_40 => ?_) (fun c_40 => by exfalso; first | omega | contradiction | exact nI_ne_m4 (by omega) c_40 | exact h c_40 | exact c_40 h)
      refine g_iload (p0 := 123) dX10_isRight_121 rfl rfl ?_
      first | ((with_reducible refine isN1 ?_); refine g_ifN_eq (tgt := 143) (p1 := 126) dX10_isRight_123 rfl (by omega) rfl (fun c_123 => by exfalso; first | omega | contradiction | exact nI_ne_m4 (by omega) c_123 | exact h c_123 | exact c_123 h) (fun c_123 => ?_)) | refine g_if_eq (tgt := 143) (p1 := 126) dX10_isRight_123 rfl rfl (fun c_123 => by exfalso; first | omega | contradiction | exact nI_ne_m4 (by omega) c_123 | exact h c_123 | exact c_123 h) (fun c_123 => ?_)
      refine g_iload (p0 := 128) dX10_isRight_126 rfl rfl ?_
      refine g_iload (p0 := 130) dX10_isRight_128 rfl rfl ?_
      first | ((with_reducible refine isN2 ?_); refine g_isubN (p0 := 131) dX10_isRight_130 (by omega) rfl ?_) | refine g_isub (p0 := 131) dX10_isRight_130 rfl ?_
      refine g_bipush (p0 := 133) (v := nI 25) dX10_isRight_131 (by decide) rfl ?_
      first | ((with_reducible refine isN2 ?_); refine g_iremN (p0 := 134) dX10_isRight_133 (by omega) (by omega) (by omega) rfl ?_) | refine g_irem (p0 := 134) dX10_isRight_133 (by decide) rfl ?_
      refine g_iload (p0 := 136) dX10_isRight_134 rfl rfl ?_
      first | ((with_reducible refine isN2 ?_); refine g_icmpN_ne (tgt := 143) (p1 := 139) dX10_isRight_136 rfl (by omega) (by omega) rfl (fun c_136 => by exfalso; first | omega | contradiction | exact nI_ne_m4 (by omega) c_136 | exact h c_136 | exact c_136 h) (fun c_136 => ?_)) | refine g_icmp_ne (tgt := 143) (p1 := 139) dX10_isRight_136 rfl rfl (fun c_136 => by exfalso; first | omega | contradiction | exact nI_ne_m4 (by omega) c_136 | exact h c_136 | exact c_136 h) (fun c_136 => ?_)
      refine g_iconst (p0 := 140) (v := nI 1) dX10_isRight_139 rfl rfl ?_
      refine g_goto (tgt := 144) dX10_isRight_140 rfl ?_
      refine g_ireturn dX10_isRight_144 rfl (by first | rfl | exact bool_narrow (by first | exact Or.inl rfl | exact Or.inr rfl | assumption | (split <;> first | exact Or.inl rfl | exact Or.inr rfl))) (?_)
      exact k
    · refine g_iload (p0 := 32) dX10_isRight_30 rfl rfl ?_
      refine g_aload_n (p0 := 33) (i := 0) dX10_isRight_32 rfl rfl rfl ?_
      refine g_getR (p0 := 36) dX10_isRight_33 fX10_46 (by first | rfl | assumption | exact RW.s (by assumption) | exact TW.s (by assumption)) rfl rfl ?_
      refine g_iload_n (p0 := 37) (i := 1) dX10_isRight_36 rfl rfl rfl ?_
      refine g_iconst (p0 := 38) (v := nI 1) dX10_isRight_37 rfl rfl ?_
      first | ((with_reducible refine isN2 ?_); refine g_iaddN (p0 := 39) dX10_isRight_38 rfl ?_) | refine g_iadd (p0 := 39) dX10_isRight_38 rfl ?_
      first | ((with_reducible refine isN1 ?_); refine g_aldN (p0 := 40) dX10_isRight_39 (by first | rfl | assumption | exact RW.s (by assumption) | exact TW.s (by assumption)) (by first | decide | assumption) (by omega) (by first | assumption | ((repeat (first | exact up_hit | refine up_nv (by decide) ?_ | refine up_mv (by first | decide | omega) ?_)) <;> first | assumption | rfl)) rfl ?_) | refine g_ald (p0 := 40) dX10_isRight_39 (by first | rfl | assumption | exact RW.s (by assumption) | exact TW.s (by assumption)) (by assumption) (by first | assumption | ((repeat (first | exact up_hit | refine up_nv (by decide) ?_ | refine up_mv (by first | decide | omega) ?_)) <;> first | assumption | rfl)) rfl ?_
      first | ((with_reducible refine isN2 ?_); refine g_icmpN_ge (tgt := 121) (p1 := 43) dX10_isRight_40 rfl (by omega) (by omega) rfl (fun c_40 => ?_) (fun c_40 => by exfalso; first | omega | contradiction | exact nI_ne_m4 (by omega) c_40 | exact h c_40 | exact c_40 h)) | refine g_icmp_ge (tgt := 121) (p1 := 43) dX10_isRight_40 rfl rfl (fun c_40 => ?_) (fun c_40 => by exfalso; first | omega | contradiction | exact nI_ne_m4 (by omega) c_40 | exact h c_40 | exact c_40 h)
      refine g_iload (p0 := 123) dX10_isRight_121 rfl rfl ?_
      first | ((with_reducible refine isN1 ?_); refine g_ifN_eq (tgt := 143) (p1 := 126) dX10_isRight_123 rfl (by omega) rfl (fun c_123 => by exfalso; first | omega | contradiction | exact nI_ne_m4 (by omega) c_123 | exact h c_123 | exact c_123 h) (fun c_123 => ?_)) | refine g_if_eq (tgt := 143) (p1 := 126) dX10_isRight_123 rfl rfl (fun c_123 => by exfalso; first | omega | contradiction | exact nI_ne_m4 (by omega) c_123 | exact h c_123 | exact c_123 h) (fun c_123 => ?_)
      refine g_iload (p0 := 128) dX10_isRight_126 rfl rfl ?_
      refine g_iload (p0 := 130) dX10_isRight_128 rfl rfl ?_
      first | ((with_reducible refine isN2 ?_); refine g_isubN (p0 := 131) dX10_isRight_130 (by omega) rfl ?_) | refine g_isub (p0 := 131) dX10_isRight_130 rfl ?_
      refine g_bipush (p0 := 133) (v := nI 25) dX10_isRight_131 (by decide) rfl ?_
      first | ((with_reducible refine isN2 ?_); refine g_iremN (p0 := 134) dX10_isRight_133 (by omega) (by omega) (by omega) rfl ?_) | refine g_irem (p0 := 134) dX10_isRight_133 (by decide) rfl ?_
      refine g_iload (p0 := 136) dX10_isRight_134 rfl rfl ?_
      first | ((with_reducible refine isN2 ?_); refine g_icmpN_ne (tgt := 143) (p1 := 139) dX10_isRight_136 rfl (by omega) (by omega) rfl (fun c_136 => ?_) (fun c_136 => by exfalso; first | omega | contradiction | exact nI_ne_m4 (by omega) c_136 | exact h c_136 | exact c_136 h)) | refine g_icmp_ne (tgt := 143) (p1 := 139) dX10_isRight_136 rfl rfl (fun c_136 => ?_) (fun c_136 => by exfalso; first | omega | contradiction | exact nI_ne_m4 (by omega) c_136 | exact h c_136 | exact c_136 h)
      refine g_iconst (p0 := 144) (v := nI 0) dX10_isRight_143 rfl rfl ?_
      refine g_ireturn dX10_isRight_144 rfl (by first | rfl | exact bool_narrow (by first | exact Or.inl rfl | exact Or.inr rfl | assumption | (split <;> first | exact Or.inl rfl | exact Or.inr rfl))) (?_)
      refine k0 (fun q => h ?_)
      have hn2 : f2 - f = n := by omega
      rw [hn2] at q
      rw [la, if_neg (by have := q.1; omega)]
      exact q.2.2
  | succ q ih =>
    intro n hn hu x8
    by_cases hl : f + n = l0
    · have hv1 : v1 (f + n) = x := by rw [hl]; exact hl0
      have hv : ¬ v1 (f + n) = -1 := by rw [hv1]; exact hx
      have e : sF v1 f (n + 1) = sF v1 f n + x := by rw [sF, if_neg hv, hv1]
      have e2 : la v1 f (n + 1) = x := by rw [la, if_neg (by omega)]; exact hv1
      have h := ih (n + 1) (by omega) (by rw [uF, if_neg hv]; exact hu)
      rw [e, e2] at h
      refine g_iload (p0 := 32) dX10_isRight_30 rfl rfl ?_
      refine g_aload_n (p0 := 33) (i := 0) dX10_isRight_32 rfl rfl rfl ?_
      refine g_getR (p0 := 36) dX10_isRight_33 fX10_46 (by first | rfl | assumption | exact RW.s (by assumption) | exact TW.s (by assumption)) rfl rfl ?_
      refine g_iload_n (p0 := 37) (i := 1) dX10_isRight_36 rfl rfl rfl ?_
      refine g_iconst (p0 := 38) (v := nI 1) dX10_isRight_37 rfl rfl ?_
      first | ((with_reducible refine isN2 ?_); refine g_iaddN (p0 := 39) dX10_isRight_38 rfl ?_) | refine g_iadd (p0 := 39) dX10_isRight_38 rfl ?_
      first | ((with_reducible refine isN1 ?_); refine g_aldN (p0 := 40) dX10_isRight_39 (by first | rfl | assumption | exact RW.s (by assumption) | exact TW.s (by assumption)) (by first | decide | assumption) (by omega) (by first | assumption | ((repeat (first | exact up_hit | refine up_nv (by decide) ?_ | refine up_mv (by first | decide | omega) ?_)) <;> first | assumption | rfl)) rfl ?_) | refine g_ald (p0 := 40) dX10_isRight_39 (by first | rfl | assumption | exact RW.s (by assumption) | exact TW.s (by assumption)) (by assumption) (by first | assumption | ((repeat (first | exact up_hit | refine up_nv (by decide) ?_ | refine up_mv (by first | decide | omega) ?_)) <;> first | assumption | rfl)) rfl ?_
      first | ((with_reducible refine isN2 ?_); refine g_icmpN_ge (tgt := 121) (p1 := 43) dX10_isRight_40 rfl (by omega) (by omega) rfl (fun c_40 => by exfalso; first | omega | contradiction | exact nI_ne_m4 (by omega) c_40 | exact h c_40 | exact c_40 h) (fun c_40 => ?_)) | refine g_icmp_ge (tgt := 121) (p1 := 43) dX10_isRight_40 rfl rfl (fun c_40 => by exfalso; first | omega | contradiction | exact nI_ne_m4 (by omega) c_40 | exact h c_40 | exact c_40 h) (fun c_40 => ?_)
      refine g_iload (p0 := 45) dX10_isRight_43 rfl rfl ?_
      first | ((with_reducible refine isN1 ?_); refine g_ifN_eq (tgt := 121) (p1 := 48) dX10_isRight_45 rfl (by omega) rfl (fun c_45 => by exfalso; first | omega | contradiction | exact nI_ne_m4 (by omega) c_45 | exact h c_45 | exact c_45 h) (fun c_45 => ?_)) | refine g_if_eq (tgt := 121) (p1 := 48) dX10_isRight_45 rfl rfl (fun c_45 => by exfalso; first | omega | contradiction | exact nI_ne_m4 (by omega) c_45 | exact h c_45 | exact c_45 h) (fun c_45 => ?_)
      refine g_iload (p0 := 50) dX10_isRight_48 rfl rfl ?_
      refine g_iload_n (p0 := 51) (i := 2) dX10_isRight_50 rfl rfl rfl ?_
      first | ((with_reducible refine isN2 ?_); refine g_icmpN_ne (tgt := 58) (p1 := 54) dX10_isRight_51 rfl (by omega) (by omega) rfl (fun c_51 => by exfalso; first | omega | contradiction | exact nI_ne_m4 (by omega) c_51 | exact h c_51 | exact c_51 h) (fun c_51 => ?_)) | refine g_icmp_ne (tgt := 58) (p1 := 54) dX10_isRight_51 rfl rfl (fun c_51 => by exfalso; first | omega | contradiction | exact nI_ne_m4 (by omega) c_51 | exact h c_51 | exact c_51 h) (fun c_51 => ?_)
      refine g_iconst (p0 := 55) (v := nI 1) dX10_isRight_54 rfl rfl ?_
      refine g_goto (tgt := 59) dX10_isRight_55 rfl ?_
      refine g_istore (p0 := 61) (i := 8) (ls2 := [_, _, _, _, _, _, _, _, _]) dX10_isRight_59 (Nat.le_of_ble_eq_true rfl) rfl rfl ?_
      refine g_iload (p0 := 63) dX10_isRight_61 rfl rfl ?_
      first | ((with_reducible refine isN1 ?_); refine g_ifN_ne (tgt := 75) (p1 := 66) dX10_isRight_63 rfl (by omega) rfl (fun c_63 => ?_) (fun c_63 => by exfalso; first | omega | contradiction | exact nI_ne_m4 (by omega) c_63 | exact h c_63 | exact c_63 h)) | refine g_if_ne (tgt := 75) (p1 := 66) dX10_isRight_63 rfl rfl (fun c_63 => ?_) (fun c_63 => by exfalso; first | omega | contradiction | exact nI_ne_m4 (by omega) c_63 | exact h c_63 | exact c_63 h)
      refine g_iconst (p0 := 76) (v := nI 1) dX10_isRight_75 rfl rfl ?_
      refine g_goto (tgt := 80) dX10_isRight_76 rfl ?_
      refine g_istore (p0 := 82) (i := 6) (ls2 := [_, _, _, _, _, _, _, _, _]) dX10_isRight_80 (Nat.le_of_ble_eq_true rfl) rfl rfl ?_
      refine g_iload (p0 := 84) dX10_isRight_82 rfl rfl ?_
      first | ((with_reducible refine isN1 ?_); refine g_ifN_eq (tgt := 91) (p1 := 87) dX10_isRight_84 rfl (by omega) rfl (fun c_84 => by exfalso; first | omega | contradiction | exact nI_ne_m4 (by omega) c_84 | exact h c_84 | exact c_84 h) (fun c_84 => ?_)) | refine g_if_eq (tgt := 91) (p1 := 87) dX10_isRight_84 rfl rfl (fun c_84 => by exfalso; first | omega | contradiction | exact nI_ne_m4 (by omega) c_84 | exact h c_84 | exact c_84 h) (fun c_84 => ?_)
      refine g_iload_n (p0 := 88) (i := 3) dX10_isRight_87 rfl rfl rfl ?_
      refine g_goto (tgt := 106) dX10_isRight_88 rfl ?_
      refine g_istore (p0 := 108) (i := 5) (ls2 := [_, _, _, _, _, _, _, _, _]) dX10_isRight_106 (Nat.le_of_ble_eq_true rfl) rfl rfl ?_
      refine g_iload (p0 := 110) dX10_isRight_108 rfl rfl ?_
      refine g_iload (p0 := 112) dX10_isRight_110 rfl rfl ?_
      first | ((with_reducible refine isN2 ?_); refine g_iaddN (p0 := 113) dX10_isRight_112 rfl ?_) | refine g_iadd (p0 := 113) dX10_isRight_112 rfl ?_
      refine g_istore (p0 := 115) (i := 4) (ls2 := [_, _, _, _, _, _, _, _, _]) dX10_isRight_113 (Nat.le_of_ble_eq_true rfl) rfl rfl ?_
      first | refine g_iinc1 (p0 := 118) (ls2 := [_, _, _, _, _, _, _, _, _]) dX10_isRight_115 rfl rfl rfl ?_ | refine g_iinc (p0 := 118) (ls2 := [_, _, _, _, _, _, _, _, _]) dX10_isRight_115 rfl rfl rfl rfl ?_
      refine g_goto (tgt := 30) dX10_isRight_118 rfl ?_
      exact h _
    · have hvv := hne (f + n) hl
      rcases hV.read (l := f + n) (by omega) with ⟨hv, hr⟩ | ⟨hv, _, _, _, _, hr, h0⟩
      · rw [← hvv] at hv
        refine g_iload (p0 := 32) dX10_isRight_30 rfl rfl ?_
        refine g_aload_n (p0 := 33) (i := 0) dX10_isRight_32 rfl rfl rfl ?_
        refine g_getR (p0 := 36) dX10_isRight_33 fX10_46 (by first | rfl | assumption | exact RW.s (by assumption) | exact TW.s (by assumption)) rfl rfl ?_
        refine g_iload_n (p0 := 37) (i := 1) dX10_isRight_36 rfl rfl rfl ?_
        refine g_iconst (p0 := 38) (v := nI 1) dX10_isRight_37 rfl rfl ?_
        first | ((with_reducible refine isN2 ?_); refine g_iaddN (p0 := 39) dX10_isRight_38 rfl ?_) | refine g_iadd (p0 := 39) dX10_isRight_38 rfl ?_
        first | ((with_reducible refine isN1 ?_); refine g_aldN (p0 := 40) dX10_isRight_39 (by first | rfl | assumption | exact RW.s (by assumption) | exact TW.s (by assumption)) (by first | decide | assumption) (by omega) (by first | assumption | ((repeat (first | exact up_hit | refine up_nv (by decide) ?_ | refine up_mv (by first | decide | omega) ?_)) <;> first | assumption | rfl)) rfl ?_) | refine g_ald (p0 := 40) dX10_isRight_39 (by first | rfl | assumption | exact RW.s (by assumption) | exact TW.s (by assumption)) (by assumption) (by first | assumption | ((repeat (first | exact up_hit | refine up_nv (by decide) ?_ | refine up_mv (by first | decide | omega) ?_)) <;> first | assumption | rfl)) rfl ?_
        first | ((with_reducible refine isN2 ?_); refine g_icmpN_ge (tgt := 121) (p1 := 43) dX10_isRight_40 rfl (by omega) (by omega) rfl (fun c_40 => by exfalso; first | omega | contradiction | exact nI_ne_m4 (by omega) c_40 | exact h c_40 | exact c_40 h) (fun c_40 => ?_)) | refine g_icmp_ge (tgt := 121) (p1 := 43) dX10_isRight_40 rfl rfl (fun c_40 => by exfalso; first | omega | contradiction | exact nI_ne_m4 (by omega) c_40 | exact h c_40 | exact c_40 h) (fun c_40 => ?_)
        refine g_iload (p0 := 45) dX10_isRight_43 rfl rfl ?_
        first | ((with_reducible refine isN1 ?_); refine g_ifN_eq (tgt := 121) (p1 := 48) dX10_isRight_45 rfl (by omega) rfl (fun c_45 => by exfalso; first | omega | contradiction | exact nI_ne_m4 (by omega) c_45 | exact h c_45 | exact c_45 h) (fun c_45 => ?_)) | refine g_if_eq (tgt := 121) (p1 := 48) dX10_isRight_45 rfl rfl (fun c_45 => by exfalso; first | omega | contradiction | exact nI_ne_m4 (by omega) c_45 | exact h c_45 | exact c_45 h) (fun c_45 => ?_)
        refine g_iload (p0 := 50) dX10_isRight_48 rfl rfl ?_
        refine g_iload_n (p0 := 51) (i := 2) dX10_isRight_50 rfl rfl rfl ?_
        first | ((with_reducible refine isN2 ?_); refine g_icmpN_ne (tgt := 58) (p1 := 54) dX10_isRight_51 rfl (by omega) (by omega) rfl (fun c_51 => ?_) (fun c_51 => by exfalso; first | omega | contradiction | exact nI_ne_m4 (by omega) c_51 | exact h c_51 | exact c_51 h)) | refine g_icmp_ne (tgt := 58) (p1 := 54) dX10_isRight_51 rfl rfl (fun c_51 => ?_) (fun c_51 => by exfalso; first | omega | contradiction | exact nI_ne_m4 (by omega) c_51 | exact h c_51 | exact c_51 h)
        refine g_iconst (p0 := 59) (v := nI 0) dX10_isRight_58 rfl rfl ?_
        refine g_istore (p0 := 61) (i := 8) (ls2 := [_, _, _, _, _, _, _, _, _]) dX10_isRight_59 (Nat.le_of_ble_eq_true rfl) rfl rfl ?_
        refine g_iload (p0 := 63) dX10_isRight_61 rfl rfl ?_
        first | ((with_reducible refine isN1 ?_); refine g_ifN_ne (tgt := 75) (p1 := 66) dX10_isRight_63 rfl (by omega) rfl (fun c_63 => by exfalso; first | omega | contradiction | exact nI_ne_m4 (by omega) c_63 | exact h c_63 | exact c_63 h) (fun c_63 => ?_)) | refine g_if_ne (tgt := 75) (p1 := 66) dX10_isRight_63 rfl rfl (fun c_63 => by exfalso; first | omega | contradiction | exact nI_ne_m4 (by omega) c_63 | exact h c_63 | exact c_63 h) (fun c_63 => ?_)
        refine g_aload_n (p0 := 67) (i := 0) dX10_isRight_66 rfl rfl rfl ?_
        refine g_iload (p0 := 69) dX10_isRight_67 rfl rfl ?_
        refine g_cV1R (p0 := 72) (r1 := mX10_isReadable) dX10_isRight_69 lX10_145 vX10_isReadable (by first | rfl | assumption | exact RW.s (by assumption) | exact TW.s (by assumption)) ⟨_, _, rfl⟩ (FITi rfl rfl) (Nat.le_of_ble_eq_true rfl) (hr) rfl ?_
        first | ((with_reducible refine isN1 ?_); refine g_ifN_eq (tgt := 79) (p1 := 75) dX10_isRight_72 rfl (by omega) rfl (fun c_72 => ?_) (fun c_72 => by exfalso; first | omega | contradiction | exact nI_ne_m4 (by omega) c_72 | exact h c_72 | exact c_72 h)) | refine g_if_eq (tgt := 79) (p1 := 75) dX10_isRight_72 rfl rfl (fun c_72 => ?_) (fun c_72 => by exfalso; first | omega | contradiction | exact nI_ne_m4 (by omega) c_72 | exact h c_72 | exact c_72 h)
        refine g_iconst (p0 := 80) (v := nI 0) dX10_isRight_79 rfl rfl ?_
        refine g_istore (p0 := 82) (i := 6) (ls2 := [_, _, _, _, _, _, _, _, _]) dX10_isRight_80 (Nat.le_of_ble_eq_true rfl) rfl rfl ?_
        refine g_iload (p0 := 84) dX10_isRight_82 rfl rfl ?_
        first | ((with_reducible refine isN1 ?_); refine g_ifN_eq (tgt := 91) (p1 := 87) dX10_isRight_84 rfl (by omega) rfl (fun c_84 => ?_) (fun c_84 => by exfalso; first | omega | contradiction | exact nI_ne_m4 (by omega) c_84 | exact h c_84 | exact c_84 h)) | refine g_if_eq (tgt := 91) (p1 := 87) dX10_isRight_84 rfl rfl (fun c_84 => ?_) (fun c_84 => by exfalso; first | omega | contradiction | exact nI_ne_m4 (by omega) c_84 | exact h c_84 | exact c_84 h)
        refine g_iload (p0 := 93) dX10_isRight_91 rfl rfl ?_
        first | ((with_reducible refine isN1 ?_); refine g_ifN_eq (tgt := 105) (p1 := 96) dX10_isRight_93 rfl (by omega) rfl (fun c_93 => ?_) (fun c_93 => by exfalso; first | omega | contradiction | exact nI_ne_m4 (by omega) c_93 | exact h c_93 | exact c_93 h)) | refine g_if_eq (tgt := 105) (p1 := 96) dX10_isRight_93 rfl rfl (fun c_93 => ?_) (fun c_93 => by exfalso; first | omega | contradiction | exact nI_ne_m4 (by omega) c_93 | exact h c_93 | exact c_93 h)
        refine g_iconst (p0 := 106) (v := nI 0) dX10_isRight_105 rfl rfl ?_
        refine g_istore (p0 := 108) (i := 5) (ls2 := [_, _, _, _, _, _, _, _, _]) dX10_isRight_106 (Nat.le_of_ble_eq_true rfl) rfl rfl ?_
        refine g_iload (p0 := 110) dX10_isRight_108 rfl rfl ?_
        refine g_iload (p0 := 112) dX10_isRight_110 rfl rfl ?_
        first | ((with_reducible refine isN2 ?_); refine g_iaddN (p0 := 113) dX10_isRight_112 rfl ?_) | refine g_iadd (p0 := 113) dX10_isRight_112 rfl ?_
        refine g_istore (p0 := 115) (i := 4) (ls2 := [_, _, _, _, _, _, _, _, _]) dX10_isRight_113 (Nat.le_of_ble_eq_true rfl) rfl rfl ?_
        first | refine g_iinc1 (p0 := 118) (ls2 := [_, _, _, _, _, _, _, _, _]) dX10_isRight_115 rfl rfl rfl ?_ | refine g_iinc (p0 := 118) (ls2 := [_, _, _, _, _, _, _, _, _]) dX10_isRight_115 rfl rfl rfl rfl ?_
        refine g_goto (tgt := 30) dX10_isRight_118 rfl ?_
        exact isW_bad hm h1 (by omega) (by omega) (k0 (fun q2 => uF_zero _ q2.2.1 n (by omega) hv))
      · rw [← hvv] at hv h0
        have e : sF v1 f (n + 1) = sF v1 f n + v1 (f + n) := by rw [sF, if_neg hv]
        have e2 : la v1 f (n + 1) = v1 (f + n) := by rw [la, if_neg (by omega)]; rfl
        have h := ih (n + 1) (by omega) (by rw [uF, if_neg hv]; exact hu)
        rw [e, e2] at h
        refine g_iload (p0 := 32) dX10_isRight_30 rfl rfl ?_
        refine g_aload_n (p0 := 33) (i := 0) dX10_isRight_32 rfl rfl rfl ?_
        refine g_getR (p0 := 36) dX10_isRight_33 fX10_46 (by first | rfl | assumption | exact RW.s (by assumption) | exact TW.s (by assumption)) rfl rfl ?_
        refine g_iload_n (p0 := 37) (i := 1) dX10_isRight_36 rfl rfl rfl ?_
        refine g_iconst (p0 := 38) (v := nI 1) dX10_isRight_37 rfl rfl ?_
        first | ((with_reducible refine isN2 ?_); refine g_iaddN (p0 := 39) dX10_isRight_38 rfl ?_) | refine g_iadd (p0 := 39) dX10_isRight_38 rfl ?_
        first | ((with_reducible refine isN1 ?_); refine g_aldN (p0 := 40) dX10_isRight_39 (by first | rfl | assumption | exact RW.s (by assumption) | exact TW.s (by assumption)) (by first | decide | assumption) (by omega) (by first | assumption | ((repeat (first | exact up_hit | refine up_nv (by decide) ?_ | refine up_mv (by first | decide | omega) ?_)) <;> first | assumption | rfl)) rfl ?_) | refine g_ald (p0 := 40) dX10_isRight_39 (by first | rfl | assumption | exact RW.s (by assumption) | exact TW.s (by assumption)) (by assumption) (by first | assumption | ((repeat (first | exact up_hit | refine up_nv (by decide) ?_ | refine up_mv (by first | decide | omega) ?_)) <;> first | assumption | rfl)) rfl ?_
        first | ((with_reducible refine isN2 ?_); refine g_icmpN_ge (tgt := 121) (p1 := 43) dX10_isRight_40 rfl (by omega) (by omega) rfl (fun c_40 => by exfalso; first | omega | contradiction | exact nI_ne_m4 (by omega) c_40 | exact h c_40 | exact c_40 h) (fun c_40 => ?_)) | refine g_icmp_ge (tgt := 121) (p1 := 43) dX10_isRight_40 rfl rfl (fun c_40 => by exfalso; first | omega | contradiction | exact nI_ne_m4 (by omega) c_40 | exact h c_40 | exact c_40 h) (fun c_40 => ?_)
        refine g_iload (p0 := 45) dX10_isRight_43 rfl rfl ?_
        first | ((with_reducible refine isN1 ?_); refine g_ifN_eq (tgt := 121) (p1 := 48) dX10_isRight_45 rfl (by omega) rfl (fun c_45 => by exfalso; first | omega | contradiction | exact nI_ne_m4 (by omega) c_45 | exact h c_45 | exact c_45 h) (fun c_45 => ?_)) | refine g_if_eq (tgt := 121) (p1 := 48) dX10_isRight_45 rfl rfl (fun c_45 => by exfalso; first | omega | contradiction | exact nI_ne_m4 (by omega) c_45 | exact h c_45 | exact c_45 h) (fun c_45 => ?_)
        refine g_iload (p0 := 50) dX10_isRight_48 rfl rfl ?_
        refine g_iload_n (p0 := 51) (i := 2) dX10_isRight_50 rfl rfl rfl ?_
        first | ((with_reducible refine isN2 ?_); refine g_icmpN_ne (tgt := 58) (p1 := 54) dX10_isRight_51 rfl (by omega) (by omega) rfl (fun c_51 => ?_) (fun c_51 => by exfalso; first | omega | contradiction | exact nI_ne_m4 (by omega) c_51 | exact h c_51 | exact c_51 h)) | refine g_icmp_ne (tgt := 58) (p1 := 54) dX10_isRight_51 rfl rfl (fun c_51 => ?_) (fun c_51 => by exfalso; first | omega | contradiction | exact nI_ne_m4 (by omega) c_51 | exact h c_51 | exact c_51 h)
        refine g_iconst (p0 := 59) (v := nI 0) dX10_isRight_58 rfl rfl ?_
        refine g_istore (p0 := 61) (i := 8) (ls2 := [_, _, _, _, _, _, _, _, _]) dX10_isRight_59 (Nat.le_of_ble_eq_true rfl) rfl rfl ?_
        refine g_iload (p0 := 63) dX10_isRight_61 rfl rfl ?_
        first | ((with_reducible refine isN1 ?_); refine g_ifN_ne (tgt := 75) (p1 := 66) dX10_isRight_63 rfl (by omega) rfl (fun c_63 => by exfalso; first | omega | contradiction | exact nI_ne_m4 (by omega) c_63 | exact h c_63 | exact c_63 h) (fun c_63 => ?_)) | refine g_if_ne (tgt := 75) (p1 := 66) dX10_isRight_63 rfl rfl (fun c_63 => by exfalso; first | omega | contradiction | exact nI_ne_m4 (by omega) c_63 | exact h c_63 | exact c_63 h) (fun c_63 => ?_)
        refine g_aload_n (p0 := 67) (i := 0) dX10_isRight_66 rfl rfl rfl ?_
        refine g_iload (p0 := 69) dX10_isRight_67 rfl rfl ?_
        refine g_cV1R (p0 := 72) (r1 := mX10_isReadable) dX10_isRight_69 lX10_145 vX10_isReadable (by first | rfl | assumption | exact RW.s (by assumption) | exact TW.s (by assumption)) ⟨_, _, rfl⟩ (FITi rfl rfl) (Nat.le_of_ble_eq_true rfl) (hr) rfl ?_
        first | ((with_reducible refine isN1 ?_); refine g_ifN_eq (tgt := 79) (p1 := 75) dX10_isRight_72 rfl (by omega) rfl (fun c_72 => by exfalso; first | omega | contradiction | exact nI_ne_m4 (by omega) c_72 | exact h c_72 | exact c_72 h) (fun c_72 => ?_)) | refine g_if_eq (tgt := 79) (p1 := 75) dX10_isRight_72 rfl rfl (fun c_72 => by exfalso; first | omega | contradiction | exact nI_ne_m4 (by omega) c_72 | exact h c_72 | exact c_72 h) (fun c_72 => ?_)
        refine g_iconst (p0 := 76) (v := nI 1) dX10_isRight_75 rfl rfl ?_
        refine g_goto (tgt := 80) dX10_isRight_76 rfl ?_
        refine g_istore (p0 := 82) (i := 6) (ls2 := [_, _, _, _, _, _, _, _, _]) dX10_isRight_80 (Nat.le_of_ble_eq_true rfl) rfl rfl ?_
        refine g_iload (p0 := 84) dX10_isRight_82 rfl rfl ?_
        first | ((with_reducible refine isN1 ?_); refine g_ifN_eq (tgt := 91) (p1 := 87) dX10_isRight_84 rfl (by omega) rfl (fun c_84 => ?_) (fun c_84 => by exfalso; first | omega | contradiction | exact nI_ne_m4 (by omega) c_84 | exact h c_84 | exact c_84 h)) | refine g_if_eq (tgt := 91) (p1 := 87) dX10_isRight_84 rfl rfl (fun c_84 => ?_) (fun c_84 => by exfalso; first | omega | contradiction | exact nI_ne_m4 (by omega) c_84 | exact h c_84 | exact c_84 h)
        refine g_iload (p0 := 93) dX10_isRight_91 rfl rfl ?_
        first | ((with_reducible refine isN1 ?_); refine g_ifN_eq (tgt := 105) (p1 := 96) dX10_isRight_93 rfl (by omega) rfl (fun c_93 => by exfalso; first | omega | contradiction | exact nI_ne_m4 (by omega) c_93 | exact h c_93 | exact c_93 h) (fun c_93 => ?_)) | refine g_if_eq (tgt := 105) (p1 := 96) dX10_isRight_93 rfl rfl (fun c_93 => by exfalso; first | omega | contradiction | exact nI_ne_m4 (by omega) c_93 | exact h c_93 | exact c_93 h) (fun c_93 => ?_)
        refine g_aload_n (p0 := 97) (i := 0) dX10_isRight_96 rfl rfl rfl ?_
        refine g_iload (p0 := 99) dX10_isRight_97 rfl rfl ?_
        refine g_cV1R (p0 := 102) (r1 := mX10_read0) dX10_isRight_99 lX10_148 vX10_read0 (by first | rfl | assumption | exact RW.s (by assumption) | exact TW.s (by assumption)) ⟨_, _, rfl⟩ (FITi rfl rfl) (Nat.le_of_ble_eq_true rfl) (h0) rfl ?_
        refine g_goto (tgt := 106) dX10_isRight_102 rfl ?_
        refine g_istore (p0 := 108) (i := 5) (ls2 := [_, _, _, _, _, _, _, _, _]) dX10_isRight_106 (Nat.le_of_ble_eq_true rfl) rfl rfl ?_
        refine g_iload (p0 := 110) dX10_isRight_108 rfl rfl ?_
        refine g_iload (p0 := 112) dX10_isRight_110 rfl rfl ?_
        first | ((with_reducible refine isN2 ?_); refine g_iaddN (p0 := 113) dX10_isRight_112 rfl ?_) | refine g_iadd (p0 := 113) dX10_isRight_112 rfl ?_
        refine g_istore (p0 := 115) (i := 4) (ls2 := [_, _, _, _, _, _, _, _, _]) dX10_isRight_113 (Nat.le_of_ble_eq_true rfl) rfl rfl ?_
        first | refine g_iinc1 (p0 := 118) (ls2 := [_, _, _, _, _, _, _, _, _]) dX10_isRight_115 rfl rfl rfl ?_ | refine g_iinc (p0 := 118) (ls2 := [_, _, _, _, _, _, _, _, _]) dX10_isRight_115 rfl rfl rfl rfl ?_
        refine g_goto (tgt := 30) dX10_isRight_118 rfl ?_
        exact h _
set_option maxRecDepth 20000 in
set_option maxHeartbeats 2000000 in
theorem rW_1 {L m l0 f n : Nat} {g a b : Nat → Nat} {x : Int32} {v v1 : Nat → Int32} {σ : Sg} (hV : VAL σ L g a b v) (hne : ∀ l, l ≠ l0 → v1 l = v l) (hl0 : v1 l0 = x) (hx : ¬ x = -1) (hl160 : l0 < 160) (hm : m < 160) (h0 : σ 92 m = nI f) (h1 : σ 92 (m + 1) = nI (f + n)) (hf2 : f + n ≤ L) (hR : RGT v1 f n) : CM mX10_isRight [ar 79, ai (nI m), ai (nI l0), ai x] σ (Ret (nI 1) σ) := by
  have h160 := hV.2.1
  have hn2 := hR.1
  refine CM_in (ls := [some (ar 79), some (ai (nI m)), some (ai (nI l0)), some (ai x), none, none, none, none, none]) rfl ?_
  refine g_iconst (p0 := 1) (v := nI 0) dX10_isRight_0 rfl rfl ?_
  refine g_istore (p0 := 3) (i := 4) (ls2 := [_, _, _, _, _, _, _, _, _]) dX10_isRight_1 (Nat.le_of_ble_eq_true rfl) rfl rfl ?_
  refine g_iconst (p0 := 4) (v := nI 0) dX10_isRight_3 rfl rfl ?_
  refine g_istore (p0 := 6) (i := 5) (ls2 := [_, _, _, _, _, _, _, _, _]) dX10_isRight_4 (Nat.le_of_ble_eq_true rfl) rfl rfl ?_
  refine g_aload_n (p0 := 7) (i := 0) dX10_isRight_6 rfl rfl rfl ?_
  refine g_iload_n (p0 := 8) (i := 1) dX10_isRight_7 rfl rfl rfl ?_
  refine g_cV1R (p0 := 11) (r1 := mX10_longOf) dX10_isRight_8 lX10_142 vX10_longOf (by first | rfl | assumption | exact RW.s (by assumption) | exact TW.s (by assumption)) ⟨_, _, rfl⟩ (FITi rfl rfl) (Nat.le_of_ble_eq_true rfl) (longOf_sp hm h0 h1 (by omega)) rfl ?_
  refine g_iconst (p0 := 12) (v := nI 1) dX10_isRight_11 rfl rfl ?_
  first | ((with_reducible refine isN2 ?_); refine g_icmpN_le (tgt := 19) (p1 := 15) dX10_isRight_12 rfl (by omega) (by omega) rfl (fun c_12 => by exfalso; first | omega | contradiction | exact nI_ne_m4 (by omega) c_12 | exact h c_12 | exact c_12 h) (fun c_12 => ?_)) | refine g_icmp_le (tgt := 19) (p1 := 15) dX10_isRight_12 rfl rfl (fun c_12 => by exfalso; first | omega | contradiction | exact nI_ne_m4 (by omega) c_12 | exact h c_12 | exact c_12 h) (fun c_12 => ?_)
  refine g_iconst (p0 := 16) (v := nI 1) dX10_isRight_15 rfl rfl ?_
  refine g_goto (tgt := 20) dX10_isRight_16 rfl ?_
  refine g_istore (p0 := 22) (i := 6) (ls2 := [_, _, _, _, _, _, _, _, _]) dX10_isRight_20 (Nat.le_of_ble_eq_true rfl) rfl rfl ?_
  refine g_aload_n (p0 := 23) (i := 0) dX10_isRight_22 rfl rfl rfl ?_
  refine g_getR (p0 := 26) dX10_isRight_23 fX10_46 (by first | rfl | assumption | exact RW.s (by assumption) | exact TW.s (by assumption)) rfl rfl ?_
  refine g_iload_n (p0 := 27) (i := 1) dX10_isRight_26 rfl rfl rfl ?_
  first | ((with_reducible refine isN1 ?_); refine g_aldN (p0 := 28) dX10_isRight_27 (by first | rfl | assumption | exact RW.s (by assumption) | exact TW.s (by assumption)) (by first | decide | assumption) (by omega) (by first | assumption | ((repeat (first | exact up_hit | refine up_nv (by decide) ?_ | refine up_mv (by first | decide | omega) ?_)) <;> first | assumption | rfl)) rfl ?_) | refine g_ald (p0 := 28) dX10_isRight_27 (by first | rfl | assumption | exact RW.s (by assumption) | exact TW.s (by assumption)) (by assumption) (by first | assumption | ((repeat (first | exact up_hit | refine up_nv (by decide) ?_ | refine up_mv (by first | decide | omega) ?_)) <;> first | assumption | rfl)) rfl ?_
  refine g_istore (p0 := 30) (i := 7) (ls2 := [_, _, _, _, _, _, _, _, _]) dX10_isRight_28 (Nat.le_of_ble_eq_true rfl) rfl rfl ?_
  exact isW_loop (f := f) hV hne hl0 hx hl160 hm h1 hf2 (fun q => absurd (by rw [Nat.add_sub_cancel_left]; exact hR) q) (fun _ _ _ _ => ⟨rfl, rfl⟩) n 0 (by omega) rfl _
set_option maxRecDepth 20000 in
set_option maxHeartbeats 2000000 in
theorem rW_0s {L m l0 f n : Nat} {g a b : Nat → Nat} {x : Int32} {v v1 : Nat → Int32} {σ : Sg} (hV : VAL σ L g a b v) (hne : ∀ l, l ≠ l0 → v1 l = v l) (hl0 : v1 l0 = x) (hx : ¬ x = -1) (hl160 : l0 < 160) (hm : m < 160) (h0 : σ 92 m = nI f) (h1 : σ 92 (m + 1) = nI (f + n)) (hf2 : f + n ≤ L) (hn : n < 2) : CM mX10_isRight [ar 79, ai (nI m), ai (nI l0), ai x] σ (Ret (nI 0) σ) := by
  have h160 := hV.2.1
  refine CM_in (ls := [some (ar 79), some (ai (nI m)), some (ai (nI l0)), some (ai x), none, none, none, none, none]) rfl ?_
  refine g_iconst (p0 := 1) (v := nI 0) dX10_isRight_0 rfl rfl ?_
  refine g_istore (p0 := 3) (i := 4) (ls2 := [_, _, _, _, _, _, _, _, _]) dX10_isRight_1 (Nat.le_of_ble_eq_true rfl) rfl rfl ?_
  refine g_iconst (p0 := 4) (v := nI 0) dX10_isRight_3 rfl rfl ?_
  refine g_istore (p0 := 6) (i := 5) (ls2 := [_, _, _, _, _, _, _, _, _]) dX10_isRight_4 (Nat.le_of_ble_eq_true rfl) rfl rfl ?_
  refine g_aload_n (p0 := 7) (i := 0) dX10_isRight_6 rfl rfl rfl ?_
  refine g_iload_n (p0 := 8) (i := 1) dX10_isRight_7 rfl rfl rfl ?_
  refine g_cV1R (p0 := 11) (r1 := mX10_longOf) dX10_isRight_8 lX10_142 vX10_longOf (by first | rfl | assumption | exact RW.s (by assumption) | exact TW.s (by assumption)) ⟨_, _, rfl⟩ (FITi rfl rfl) (Nat.le_of_ble_eq_true rfl) (longOf_sp hm h0 h1 (by omega)) rfl ?_
  refine g_iconst (p0 := 12) (v := nI 1) dX10_isRight_11 rfl rfl ?_
  first | ((with_reducible refine isN2 ?_); refine g_icmpN_le (tgt := 19) (p1 := 15) dX10_isRight_12 rfl (by omega) (by omega) rfl (fun c_12 => ?_) (fun c_12 => by exfalso; first | omega | contradiction | exact nI_ne_m4 (by omega) c_12 | exact h c_12 | exact c_12 h)) | refine g_icmp_le (tgt := 19) (p1 := 15) dX10_isRight_12 rfl rfl (fun c_12 => ?_) (fun c_12 => by exfalso; first | omega | contradiction | exact nI_ne_m4 (by omega) c_12 | exact h c_12 | exact c_12 h)
  refine g_iconst (p0 := 20) (v := nI 0) dX10_isRight_19 rfl rfl ?_
  refine g_istore (p0 := 22) (i := 6) (ls2 := [_, _, _, _, _, _, _, _, _]) dX10_isRight_20 (Nat.le_of_ble_eq_true rfl) rfl rfl ?_
  refine g_aload_n (p0 := 23) (i := 0) dX10_isRight_22 rfl rfl rfl ?_
  refine g_getR (p0 := 26) dX10_isRight_23 fX10_46 (by first | rfl | assumption | exact RW.s (by assumption) | exact TW.s (by assumption)) rfl rfl ?_
  refine g_iload_n (p0 := 27) (i := 1) dX10_isRight_26 rfl rfl rfl ?_
  first | ((with_reducible refine isN1 ?_); refine g_aldN (p0 := 28) dX10_isRight_27 (by first | rfl | assumption | exact RW.s (by assumption) | exact TW.s (by assumption)) (by first | decide | assumption) (by omega) (by first | assumption | ((repeat (first | exact up_hit | refine up_nv (by decide) ?_ | refine up_mv (by first | decide | omega) ?_)) <;> first | assumption | rfl)) rfl ?_) | refine g_ald (p0 := 28) dX10_isRight_27 (by first | rfl | assumption | exact RW.s (by assumption) | exact TW.s (by assumption)) (by assumption) (by first | assumption | ((repeat (first | exact up_hit | refine up_nv (by decide) ?_ | refine up_mv (by first | decide | omega) ?_)) <;> first | assumption | rfl)) rfl ?_
  refine g_istore (p0 := 30) (i := 7) (ls2 := [_, _, _, _, _, _, _, _, _]) dX10_isRight_28 (Nat.le_of_ble_eq_true rfl) rfl rfl ?_
  exact isW_bad hm h1 (by omega) (by omega) ⟨rfl, rfl⟩
set_option maxRecDepth 20000 in
set_option maxHeartbeats 2000000 in
theorem rW_0 {L m l0 f n : Nat} {g a b : Nat → Nat} {x : Int32} {v v1 : Nat → Int32} {σ : Sg} (hV : VAL σ L g a b v) (hne : ∀ l, l ≠ l0 → v1 l = v l) (hl0 : v1 l0 = x) (hx : ¬ x = -1) (hl160 : l0 < 160) (hm : m < 160) (h0 : σ 92 m = nI f) (h1 : σ 92 (m + 1) = nI (f + n)) (hf2 : f + n ≤ L) (hn : 2 ≤ n) (hR : ¬ RGT v1 f n) : CM mX10_isRight [ar 79, ai (nI m), ai (nI l0), ai x] σ (Ret (nI 0) σ) := by
  have h160 := hV.2.1
  refine CM_in (ls := [some (ar 79), some (ai (nI m)), some (ai (nI l0)), some (ai x), none, none, none, none, none]) rfl ?_
  refine g_iconst (p0 := 1) (v := nI 0) dX10_isRight_0 rfl rfl ?_
  refine g_istore (p0 := 3) (i := 4) (ls2 := [_, _, _, _, _, _, _, _, _]) dX10_isRight_1 (Nat.le_of_ble_eq_true rfl) rfl rfl ?_
  refine g_iconst (p0 := 4) (v := nI 0) dX10_isRight_3 rfl rfl ?_
  refine g_istore (p0 := 6) (i := 5) (ls2 := [_, _, _, _, _, _, _, _, _]) dX10_isRight_4 (Nat.le_of_ble_eq_true rfl) rfl rfl ?_
  refine g_aload_n (p0 := 7) (i := 0) dX10_isRight_6 rfl rfl rfl ?_
  refine g_iload_n (p0 := 8) (i := 1) dX10_isRight_7 rfl rfl rfl ?_
  refine g_cV1R (p0 := 11) (r1 := mX10_longOf) dX10_isRight_8 lX10_142 vX10_longOf (by first | rfl | assumption | exact RW.s (by assumption) | exact TW.s (by assumption)) ⟨_, _, rfl⟩ (FITi rfl rfl) (Nat.le_of_ble_eq_true rfl) (longOf_sp hm h0 h1 (by omega)) rfl ?_
  refine g_iconst (p0 := 12) (v := nI 1) dX10_isRight_11 rfl rfl ?_
  first | ((with_reducible refine isN2 ?_); refine g_icmpN_le (tgt := 19) (p1 := 15) dX10_isRight_12 rfl (by omega) (by omega) rfl (fun c_12 => by exfalso; first | omega | contradiction | exact nI_ne_m4 (by omega) c_12 | exact h c_12 | exact c_12 h) (fun c_12 => ?_)) | refine g_icmp_le (tgt := 19) (p1 := 15) dX10_isRight_12 rfl rfl (fun c_12 => by exfalso; first | omega | contradiction | exact nI_ne_m4 (by omega) c_12 | exact h c_12 | exact c_12 h) (fun c_12 => ?_)
  refine g_iconst (p0 := 16) (v := nI 1) dX10_isRight_15 rfl rfl ?_
  refine g_goto (tgt := 20) dX10_isRight_16 rfl ?_
  refine g_istore (p0 := 22) (i := 6) (ls2 := [_, _, _, _, _, _, _, _, _]) dX10_isRight_20 (Nat.le_of_ble_eq_true rfl) rfl rfl ?_
  refine g_aload_n (p0 := 23) (i := 0) dX10_isRight_22 rfl rfl rfl ?_
  refine g_getR (p0 := 26) dX10_isRight_23 fX10_46 (by first | rfl | assumption | exact RW.s (by assumption) | exact TW.s (by assumption)) rfl rfl ?_
  refine g_iload_n (p0 := 27) (i := 1) dX10_isRight_26 rfl rfl rfl ?_
  first | ((with_reducible refine isN1 ?_); refine g_aldN (p0 := 28) dX10_isRight_27 (by first | rfl | assumption | exact RW.s (by assumption) | exact TW.s (by assumption)) (by first | decide | assumption) (by omega) (by first | assumption | ((repeat (first | exact up_hit | refine up_nv (by decide) ?_ | refine up_mv (by first | decide | omega) ?_)) <;> first | assumption | rfl)) rfl ?_) | refine g_ald (p0 := 28) dX10_isRight_27 (by first | rfl | assumption | exact RW.s (by assumption) | exact TW.s (by assumption)) (by assumption) (by first | assumption | ((repeat (first | exact up_hit | refine up_nv (by decide) ?_ | refine up_mv (by first | decide | omega) ?_)) <;> first | assumption | rfl)) rfl ?_
  refine g_istore (p0 := 30) (i := 7) (ls2 := [_, _, _, _, _, _, _, _, _]) dX10_isRight_28 (Nat.le_of_ble_eq_true rfl) rfl rfl ?_
  refine isW_loop (f := f) hV hne hl0 hx hl160 hm h1 hf2 (fun q => ⟨rfl, rfl⟩) (fun n2 e hu h => absurd ?_ hR) n 0 (by omega) rfl _
  have e2 : n2 = n := by omega
  rw [e2] at hu h
  rw [la, if_neg (by omega)] at h
  exact ⟨hn, hu, h⟩
theorem VAL.of {σ σ' : Sg} {L : Nat} {g a b : Nat → Nat} {v : Nat → Int32} (h : VAL σ L g a b v) (e : ∀ z, z ≠ 96 → σ' z = σ z) : VAL σ' L g a b v := by
  obtain ⟨h1, h2, h3, s, lc, h4, h5, h6⟩ := h
  exact ⟨h1.of (by rw [e 79 (by decide)]) (e 89 (by decide)) (e 90 (by decide)) (e 91 (by decide)), h2, h3, s, lc, by rw [e 80 (by decide)]; exact h4, by rw [e 80 (by decide)]; exact h5, h6⟩
theorem REF.of {σ σ' : Sg} {s M L : Nat} {c fs f n p d g a b : Nat → Nat} {v lc : Nat → Int32} (h : REF σ s M L c fs f n p d g a b v lc) (e : ∀ z, z ≠ 96 → σ' z = σ z) : REF σ' s M L c fs f n p d g a b v lc := by
  obtain ⟨⟨c1, c2, c3, c4, k⟩, hM, hV, hG, h5⟩ := h
  refine ⟨⟨by rw [e 80 (by decide)]; exact c1, c2, by rw [e 79 (by decide)]; exact c3, by rw [e 79 (by decide)]; exact c4, k⟩, fun m hm => ?_, hV.of e, ?_, fun i hi => ?_⟩
  · rw [e 93 (by decide), e 92 (by decide), e 94 (by decide), e 95 (by decide)]; exact hM m hm
  · rw [e 80 (by decide)]; exact hG
  · rw [e 85 (by decide)]; exact h5 i hi
theorem rRW_sp {σ : Sg} {s M L : Nat} {c fs f n p d g a b : Nat → Nat} {v lc : Nat → Int32} (hP : REF σ s M L c fs f n p d g a b v lc) {m t : Nat} {x : Int32} (hm : m < M) (ht : t < n m) (hx : ¬ x = -1) : (RGT (upd v (f m + t) x) (f m) (n m) ∧ CM mX10_isRight [ar 79, ai (nI m), ai (nI (f m + t)), ai x] σ (Ret (nI 1) σ)) ∨ (¬ RGT (upd v (f m + t) x) (f m) (n m) ∧ CM mX10_isRight [ar 79, ai (nI m), ai (nI (f m + t)), ai x] σ (Ret (nI 0) σ)) := by
  obtain ⟨⟨q1, q2, q3, q4, q5, q6⟩, hM, hV, _⟩ := hP
  obtain ⟨a1, a2, a3, a4, _⟩ := hM m hm
  have hne : ∀ l, l ≠ f m + t → upd v (f m + t) x l = v l := fun l hl => upd_ne hl
  have hl0 : upd v (f m + t) x (f m + t) = x := upd_hit
  by_cases h : RGT (upd v (f m + t) x) (f m) (n m)
  · exact Or.inl ⟨h, rW_1 hV hne hl0 hx (by omega) (by omega) a2 a3 a4 h⟩
  · by_cases h2 : n m < 2
    · exact Or.inr ⟨h, rW_0s hV hne hl0 hx (by omega) (by omega) a2 a3 a4 h2⟩
    · exact Or.inr ⟨h, rW_0 hV hne hl0 hx (by omega) (by omega) a2 a3 a4 (by omega) h⟩
def CR (σ σ1 : Sg) (F : Nat → Prop) (cd : Nat → Int32) (Q : Nat) (w : Int32) : Prop := (∀ z, z ≠ 96 → σ1 z = σ z) ∧ ∀ q, q < Q → F q → nI (cnF F q) = w → σ1 96 0 = nI (q / 4) ∧ σ1 96 1 = nI (q % 4 / 2) ∧ σ1 96 2 = nI (1 - q % 2) ∧ σ1 96 3 = cd q
theorem CR.skip {σ σ1 : Sg} {F : Nat → Prop} {cd : Nat → Int32} {Q : Nat} {w : Int32} (h : CR σ σ1 F cd Q w) (hF : ¬ F Q) : CR σ σ1 F cd (Q + 1) w := by
  refine ⟨h.1, fun q hq hf hw => h.2 q ?_ hf hw⟩
  have : q ≠ Q := fun e => hF (e ▸ hf)
  omega
theorem CR.cnt {σ σ1 : Sg} {F : Nat → Prop} {cd : Nat → Int32} {Q : Nat} {w : Int32} (h : CR σ σ1 F cd Q w) (hw : ¬ nI (cnF F Q) = w) : CR σ σ1 F cd (Q + 1) w := by
  refine ⟨h.1, fun q hq hf hwq => h.2 q ?_ hf hwq⟩
  have : q ≠ Q := fun e => hw (e ▸ hwq)
  omega
theorem CR.take {σ σ1 : Sg} {F : Nat → Prop} {cd : Nat → Int32} {Q : Nat} {w : Int32} (h : CR σ σ1 F cd Q w) (hQ : Q < 1000) (hw : nI (cnF F Q) = w) {x0 x1 x2 x3 : Int32} (e0 : x0 = nI (Q / 4)) (e1 : x1 = nI (Q % 4 / 2)) (e2 : x2 = nI (1 - Q % 2)) (e3 : x3 = cd Q) : CR σ (up (up (up (up σ1 96 0 x0) 96 1 x1) 96 2 x2) 96 3 x3) F cd (Q + 1) w := by
  refine ⟨fun z hz => by rw [up_ne hz, up_ne hz, up_ne hz, up_ne hz]; exact h.1 z hz, fun q hq hf hwq => ?_⟩
  have hqQ : q = Q := by
    by_cases e : q = Q
    · exact e
    · have h1 := cnF_lt (F := F) (show q < Q by omega) hf
      have h2 := cnF_le (F := F) Q
      have h3 := (nI_inj (by omega) (by omega)).mp (hwq.trans hw.symm)
      omega
  subst hqQ
  rw [up_miss (by decide), up_miss (by decide), up_miss (by decide), up_hit, up_miss (by decide), up_miss (by decide), up_hit, up_miss (by decide), up_hit, up_hit]
  exact ⟨e0, e1, e2, e3⟩
set_option maxRecDepth 20000 in
set_option maxHeartbeats 2000000 in
theorem rk0_A {m l g a b cn : Nat} {w : Int32} {x6 x7 x8 : Option AV} {σ : Sg} {Q : SP} (hm : m < 160) (hl : l < 160) (hg : σ 89 l = nI g) (ha : σ 90 l = nI a) (hb : σ 91 l = nI b) (hg1 : g < 500) (ha1 : a < 500) (hb1 : b < 500) (hg2 : ¬ g = 2) (next : ∀ x6 x7 x8, WM mX10_corrections Q 26 [some (ar 79), some (ai (nI m)), some (ai w), some (ai (nI (cn))), some (ai (nI (l))), some (ai (nI (1))), x6, x7, x8] [] (σ)) : WM mX10_corrections Q 26 [some (ar 79), some (ai (nI m)), some (ai w), some (ai (nI (cn))), some (ai (nI (l))), some (ai (nI (0))), x6, x7, x8] [] σ := by
  refine g_iload (p0 := 28) dX10_corrections_26 rfl rfl ?_
  refine g_iconst (p0 := 29) (v := nI 4) dX10_corrections_28 rfl rfl ?_
  first | ((with_reducible refine isN2 ?_); refine g_icmpN_ge (tgt := 194) (p1 := 32) dX10_corrections_29 rfl (by omega) (by omega) rfl (fun c_29 => by exfalso; first | omega | contradiction | exact hw c_29 | exact c_29 hw) (fun c_29 => ?_)) | refine g_icmp_ge (tgt := 194) (p1 := 32) dX10_corrections_29 rfl rfl (fun c_29 => by exfalso; first | omega | contradiction | exact hw c_29 | exact c_29 hw) (fun c_29 => ?_)
  refine g_iload (p0 := 34) dX10_corrections_32 rfl rfl ?_
  refine g_iconst (p0 := 35) (v := nI 2) dX10_corrections_34 rfl rfl ?_
  first | ((with_reducible refine isN2 ?_); refine g_iremN (p0 := 36) dX10_corrections_35 (by omega) (by omega) (by omega) rfl ?_) | refine g_irem (p0 := 36) dX10_corrections_35 (by decide) rfl ?_
  first | ((with_reducible refine isN1 ?_); refine g_ifN_ne (tgt := 43) (p1 := 39) dX10_corrections_36 rfl (by omega) rfl (fun c_36 => by exfalso; first | omega | contradiction | exact hw c_36 | exact c_36 hw) (fun c_36 => ?_)) | refine g_if_ne (tgt := 43) (p1 := 39) dX10_corrections_36 rfl rfl (fun c_36 => by exfalso; first | omega | contradiction | exact hw c_36 | exact c_36 hw) (fun c_36 => ?_)
  refine g_iconst (p0 := 40) (v := nI 1) dX10_corrections_39 rfl rfl ?_
  refine g_goto (tgt := 44) dX10_corrections_40 rfl ?_
  refine g_istore (p0 := 46) (i := 6) (ls2 := [_, _, _, _, _, _, _, _, _]) dX10_corrections_44 (Nat.le_of_ble_eq_true rfl) rfl rfl ?_
  refine g_aload_n (p0 := 47) (i := 0) dX10_corrections_46 rfl rfl rfl ?_
  refine g_getR (p0 := 50) dX10_corrections_47 fX10_40 (by first | rfl | assumption | exact RW.s (by assumption) | exact TW.s (by assumption)) rfl rfl ?_
  refine g_iload (p0 := 52) dX10_corrections_50 rfl rfl ?_
  first | ((with_reducible refine isN1 ?_); refine g_aldN (p0 := 53) dX10_corrections_52 (by first | rfl | assumption | exact RW.s (by assumption) | exact TW.s (by assumption)) (by first | decide | assumption) (by omega) (by first | assumption | ((repeat (first | exact up_hit | refine up_nv (by decide) ?_ | refine up_mv (by first | decide | omega) ?_)) <;> first | assumption | rfl)) rfl ?_) | refine g_ald (p0 := 53) dX10_corrections_52 (by first | rfl | assumption | exact RW.s (by assumption) | exact TW.s (by assumption)) (by assumption) (by first | assumption | ((repeat (first | exact up_hit | refine up_nv (by decide) ?_ | refine up_mv (by first | decide | omega) ?_)) <;> first | assumption | rfl)) rfl ?_
  refine g_iload (p0 := 55) dX10_corrections_53 rfl rfl ?_
  refine g_iconst (p0 := 56) (v := nI 2) dX10_corrections_55 rfl rfl ?_
  first | ((with_reducible refine isN2 ?_); refine g_icmpN_ge (tgt := 64) (p1 := 59) dX10_corrections_56 rfl (by omega) (by omega) rfl (fun c_56 => by exfalso; first | omega | contradiction | exact hw c_56 | exact c_56 hw) (fun c_56 => ?_)) | refine g_icmp_ge (tgt := 64) (p1 := 59) dX10_corrections_56 rfl rfl (fun c_56 => by exfalso; first | omega | contradiction | exact hw c_56 | exact c_56 hw) (fun c_56 => ?_)
  refine g_iload (p0 := 61) dX10_corrections_59 rfl rfl ?_
  refine g_goto (tgt := 65) dX10_corrections_61 rfl ?_
  first | ((with_reducible refine isN2 ?_); refine g_iaddN (p0 := 66) dX10_corrections_65 rfl ?_) | refine g_iadd (p0 := 66) dX10_corrections_65 rfl ?_
  refine g_istore (p0 := 68) (i := 7) (ls2 := [_, _, _, _, _, _, _, _, _]) dX10_corrections_66 (Nat.le_of_ble_eq_true rfl) rfl rfl ?_
  refine g_aload_n (p0 := 69) (i := 0) dX10_corrections_68 rfl rfl rfl ?_
  refine g_getR (p0 := 72) dX10_corrections_69 fX10_43 (by first | rfl | assumption | exact RW.s (by assumption) | exact TW.s (by assumption)) rfl rfl ?_
  refine g_iload (p0 := 74) dX10_corrections_72 rfl rfl ?_
  first | ((with_reducible refine isN1 ?_); refine g_aldN (p0 := 75) dX10_corrections_74 (by first | rfl | assumption | exact RW.s (by assumption) | exact TW.s (by assumption)) (by first | decide | assumption) (by omega) (by first | assumption | ((repeat (first | exact up_hit | refine up_nv (by decide) ?_ | refine up_mv (by first | decide | omega) ?_)) <;> first | assumption | rfl)) rfl ?_) | refine g_ald (p0 := 75) dX10_corrections_74 (by first | rfl | assumption | exact RW.s (by assumption) | exact TW.s (by assumption)) (by assumption) (by first | assumption | ((repeat (first | exact up_hit | refine up_nv (by decide) ?_ | refine up_mv (by first | decide | omega) ?_)) <;> first | assumption | rfl)) rfl ?_
  refine g_iload (p0 := 77) dX10_corrections_75 rfl rfl ?_
  refine g_iconst (p0 := 78) (v := nI 2) dX10_corrections_77 rfl rfl ?_
  first | ((with_reducible refine isN2 ?_); refine g_icmpN_ge (tgt := 85) (p1 := 81) dX10_corrections_78 rfl (by omega) (by omega) rfl (fun c_78 => by exfalso; first | omega | contradiction | exact hw c_78 | exact c_78 hw) (fun c_78 => ?_)) | refine g_icmp_ge (tgt := 85) (p1 := 81) dX10_corrections_78 rfl rfl (fun c_78 => by exfalso; first | omega | contradiction | exact hw c_78 | exact c_78 hw) (fun c_78 => ?_)
  refine g_iconst (p0 := 82) (v := nI 0) dX10_corrections_81 rfl rfl ?_
  refine g_goto (tgt := 87) dX10_corrections_82 rfl ?_
  first | ((with_reducible refine isN2 ?_); refine g_iaddN (p0 := 88) dX10_corrections_87 rfl ?_) | refine g_iadd (p0 := 88) dX10_corrections_87 rfl ?_
  refine g_istore (p0 := 90) (i := 8) (ls2 := [_, _, _, _, _, _, _, _, _]) dX10_corrections_88 (Nat.le_of_ble_eq_true rfl) rfl rfl ?_
  refine g_aload_n (p0 := 91) (i := 0) dX10_corrections_90 rfl rfl rfl ?_
  refine g_getR (p0 := 94) dX10_corrections_91 fX10_37 (by first | rfl | assumption | exact RW.s (by assumption) | exact TW.s (by assumption)) rfl rfl ?_
  refine g_iload (p0 := 96) dX10_corrections_94 rfl rfl ?_
  first | ((with_reducible refine isN1 ?_); refine g_aldN (p0 := 97) dX10_corrections_96 (by first | rfl | assumption | exact RW.s (by assumption) | exact TW.s (by assumption)) (by first | decide | assumption) (by omega) (by first | assumption | ((repeat (first | exact up_hit | refine up_nv (by decide) ?_ | refine up_mv (by first | decide | omega) ?_)) <;> first | assumption | rfl)) rfl ?_) | refine g_ald (p0 := 97) dX10_corrections_96 (by first | rfl | assumption | exact RW.s (by assumption) | exact TW.s (by assumption)) (by assumption) (by first | assumption | ((repeat (first | exact up_hit | refine up_nv (by decide) ?_ | refine up_mv (by first | decide | omega) ?_)) <;> first | assumption | rfl)) rfl ?_
  refine g_iconst (p0 := 98) (v := nI 2) dX10_corrections_97 rfl rfl ?_
  first | ((with_reducible refine isN2 ?_); refine g_icmpN_ne (tgt := 188) (p1 := 101) dX10_corrections_98 rfl (by omega) (by omega) rfl (fun c_98 => ?_) (fun c_98 => by exfalso; first | omega | contradiction | exact hw c_98 | exact c_98 hw)) | refine g_icmp_ne (tgt := 188) (p1 := 101) dX10_corrections_98 rfl rfl (fun c_98 => ?_) (fun c_98 => by exfalso; first | omega | contradiction | exact hw c_98 | exact c_98 hw)
  first | refine g_iinc1 (p0 := 191) (ls2 := [_, _, _, _, _, _, _, _, _]) dX10_corrections_188 rfl rfl rfl ?_ | refine g_iinc (p0 := 191) (ls2 := [_, _, _, _, _, _, _, _, _]) dX10_corrections_188 rfl rfl rfl rfl ?_
  refine g_goto (tgt := 26) dX10_corrections_191 rfl ?_
  exact next _ _ _
set_option maxRecDepth 20000 in
set_option maxHeartbeats 2000000 in
theorem rk0_B {m l g a b cn : Nat} {w : Int32} {x6 x7 x8 : Option AV} {σ : Sg} {Q : SP} (hm : m < 160) (hl : l < 160) (hg : σ 89 l = nI g) (ha : σ 90 l = nI a) (hb : σ 91 l = nI b) (hg1 : g < 500) (ha1 : a < 500) (hb1 : b < 500) (hg2 : g = 2) (hag : CM mX10_areGood [ai (nI (a + 1)), ai (nI (b + 0))] σ (Ret (nI 0) σ)) (next : ∀ x6 x7 x8, WM mX10_corrections Q 26 [some (ar 79), some (ai (nI m)), some (ai w), some (ai (nI (cn))), some (ai (nI (l))), some (ai (nI (1))), x6, x7, x8] [] (σ)) : WM mX10_corrections Q 26 [some (ar 79), some (ai (nI m)), some (ai w), some (ai (nI (cn))), some (ai (nI (l))), some (ai (nI (0))), x6, x7, x8] [] σ := by
  refine g_iload (p0 := 28) dX10_corrections_26 rfl rfl ?_
  refine g_iconst (p0 := 29) (v := nI 4) dX10_corrections_28 rfl rfl ?_
  first | ((with_reducible refine isN2 ?_); refine g_icmpN_ge (tgt := 194) (p1 := 32) dX10_corrections_29 rfl (by omega) (by omega) rfl (fun c_29 => by exfalso; first | omega | contradiction | exact hw c_29 | exact c_29 hw) (fun c_29 => ?_)) | refine g_icmp_ge (tgt := 194) (p1 := 32) dX10_corrections_29 rfl rfl (fun c_29 => by exfalso; first | omega | contradiction | exact hw c_29 | exact c_29 hw) (fun c_29 => ?_)
  refine g_iload (p0 := 34) dX10_corrections_32 rfl rfl ?_
  refine g_iconst (p0 := 35) (v := nI 2) dX10_corrections_34 rfl rfl ?_
  first | ((with_reducible refine isN2 ?_); refine g_iremN (p0 := 36) dX10_corrections_35 (by omega) (by omega) (by omega) rfl ?_) | refine g_irem (p0 := 36) dX10_corrections_35 (by decide) rfl ?_
  first | ((with_reducible refine isN1 ?_); refine g_ifN_ne (tgt := 43) (p1 := 39) dX10_corrections_36 rfl (by omega) rfl (fun c_36 => by exfalso; first | omega | contradiction | exact hw c_36 | exact c_36 hw) (fun c_36 => ?_)) | refine g_if_ne (tgt := 43) (p1 := 39) dX10_corrections_36 rfl rfl (fun c_36 => by exfalso; first | omega | contradiction | exact hw c_36 | exact c_36 hw) (fun c_36 => ?_)
  refine g_iconst (p0 := 40) (v := nI 1) dX10_corrections_39 rfl rfl ?_
  refine g_goto (tgt := 44) dX10_corrections_40 rfl ?_
  refine g_istore (p0 := 46) (i := 6) (ls2 := [_, _, _, _, _, _, _, _, _]) dX10_corrections_44 (Nat.le_of_ble_eq_true rfl) rfl rfl ?_
  refine g_aload_n (p0 := 47) (i := 0) dX10_corrections_46 rfl rfl rfl ?_
  refine g_getR (p0 := 50) dX10_corrections_47 fX10_40 (by first | rfl | assumption | exact RW.s (by assumption) | exact TW.s (by assumption)) rfl rfl ?_
  refine g_iload (p0 := 52) dX10_corrections_50 rfl rfl ?_
  first | ((with_reducible refine isN1 ?_); refine g_aldN (p0 := 53) dX10_corrections_52 (by first | rfl | assumption | exact RW.s (by assumption) | exact TW.s (by assumption)) (by first | decide | assumption) (by omega) (by first | assumption | ((repeat (first | exact up_hit | refine up_nv (by decide) ?_ | refine up_mv (by first | decide | omega) ?_)) <;> first | assumption | rfl)) rfl ?_) | refine g_ald (p0 := 53) dX10_corrections_52 (by first | rfl | assumption | exact RW.s (by assumption) | exact TW.s (by assumption)) (by assumption) (by first | assumption | ((repeat (first | exact up_hit | refine up_nv (by decide) ?_ | refine up_mv (by first | decide | omega) ?_)) <;> first | assumption | rfl)) rfl ?_
  refine g_iload (p0 := 55) dX10_corrections_53 rfl rfl ?_
  refine g_iconst (p0 := 56) (v := nI 2) dX10_corrections_55 rfl rfl ?_
  first | ((with_reducible refine isN2 ?_); refine g_icmpN_ge (tgt := 64) (p1 := 59) dX10_corrections_56 rfl (by omega) (by omega) rfl (fun c_56 => by exfalso; first | omega | contradiction | exact hw c_56 | exact c_56 hw) (fun c_56 => ?_)) | refine g_icmp_ge (tgt := 64) (p1 := 59) dX10_corrections_56 rfl rfl (fun c_56 => by exfalso; first | omega | contradiction | exact hw c_56 | exact c_56 hw) (fun c_56 => ?_)
  refine g_iload (p0 := 61) dX10_corrections_59 rfl rfl ?_
  refine g_goto (tgt := 65) dX10_corrections_61 rfl ?_
  first | ((with_reducible refine isN2 ?_); refine g_iaddN (p0 := 66) dX10_corrections_65 rfl ?_) | refine g_iadd (p0 := 66) dX10_corrections_65 rfl ?_
  refine g_istore (p0 := 68) (i := 7) (ls2 := [_, _, _, _, _, _, _, _, _]) dX10_corrections_66 (Nat.le_of_ble_eq_true rfl) rfl rfl ?_
  refine g_aload_n (p0 := 69) (i := 0) dX10_corrections_68 rfl rfl rfl ?_
  refine g_getR (p0 := 72) dX10_corrections_69 fX10_43 (by first | rfl | assumption | exact RW.s (by assumption) | exact TW.s (by assumption)) rfl rfl ?_
  refine g_iload (p0 := 74) dX10_corrections_72 rfl rfl ?_
  first | ((with_reducible refine isN1 ?_); refine g_aldN (p0 := 75) dX10_corrections_74 (by first | rfl | assumption | exact RW.s (by assumption) | exact TW.s (by assumption)) (by first | decide | assumption) (by omega) (by first | assumption | ((repeat (first | exact up_hit | refine up_nv (by decide) ?_ | refine up_mv (by first | decide | omega) ?_)) <;> first | assumption | rfl)) rfl ?_) | refine g_ald (p0 := 75) dX10_corrections_74 (by first | rfl | assumption | exact RW.s (by assumption) | exact TW.s (by assumption)) (by assumption) (by first | assumption | ((repeat (first | exact up_hit | refine up_nv (by decide) ?_ | refine up_mv (by first | decide | omega) ?_)) <;> first | assumption | rfl)) rfl ?_
  refine g_iload (p0 := 77) dX10_corrections_75 rfl rfl ?_
  refine g_iconst (p0 := 78) (v := nI 2) dX10_corrections_77 rfl rfl ?_
  first | ((with_reducible refine isN2 ?_); refine g_icmpN_ge (tgt := 85) (p1 := 81) dX10_corrections_78 rfl (by omega) (by omega) rfl (fun c_78 => by exfalso; first | omega | contradiction | exact hw c_78 | exact c_78 hw) (fun c_78 => ?_)) | refine g_icmp_ge (tgt := 85) (p1 := 81) dX10_corrections_78 rfl rfl (fun c_78 => by exfalso; first | omega | contradiction | exact hw c_78 | exact c_78 hw) (fun c_78 => ?_)
  refine g_iconst (p0 := 82) (v := nI 0) dX10_corrections_81 rfl rfl ?_
  refine g_goto (tgt := 87) dX10_corrections_82 rfl ?_
  first | ((with_reducible refine isN2 ?_); refine g_iaddN (p0 := 88) dX10_corrections_87 rfl ?_) | refine g_iadd (p0 := 88) dX10_corrections_87 rfl ?_
  refine g_istore (p0 := 90) (i := 8) (ls2 := [_, _, _, _, _, _, _, _, _]) dX10_corrections_88 (Nat.le_of_ble_eq_true rfl) rfl rfl ?_
  refine g_aload_n (p0 := 91) (i := 0) dX10_corrections_90 rfl rfl rfl ?_
  refine g_getR (p0 := 94) dX10_corrections_91 fX10_37 (by first | rfl | assumption | exact RW.s (by assumption) | exact TW.s (by assumption)) rfl rfl ?_
  refine g_iload (p0 := 96) dX10_corrections_94 rfl rfl ?_
  first | ((with_reducible refine isN1 ?_); refine g_aldN (p0 := 97) dX10_corrections_96 (by first | rfl | assumption | exact RW.s (by assumption) | exact TW.s (by assumption)) (by first | decide | assumption) (by omega) (by first | assumption | ((repeat (first | exact up_hit | refine up_nv (by decide) ?_ | refine up_mv (by first | decide | omega) ?_)) <;> first | assumption | rfl)) rfl ?_) | refine g_ald (p0 := 97) dX10_corrections_96 (by first | rfl | assumption | exact RW.s (by assumption) | exact TW.s (by assumption)) (by assumption) (by first | assumption | ((repeat (first | exact up_hit | refine up_nv (by decide) ?_ | refine up_mv (by first | decide | omega) ?_)) <;> first | assumption | rfl)) rfl ?_
  refine g_iconst (p0 := 98) (v := nI 2) dX10_corrections_97 rfl rfl ?_
  first | ((with_reducible refine isN2 ?_); refine g_icmpN_ne (tgt := 188) (p1 := 101) dX10_corrections_98 rfl (by omega) (by omega) rfl (fun c_98 => by exfalso; first | omega | contradiction | exact hw c_98 | exact c_98 hw) (fun c_98 => ?_)) | refine g_icmp_ne (tgt := 188) (p1 := 101) dX10_corrections_98 rfl rfl (fun c_98 => by exfalso; first | omega | contradiction | exact hw c_98 | exact c_98 hw) (fun c_98 => ?_)
  refine g_iload (p0 := 103) dX10_corrections_101 rfl rfl ?_
  refine g_iload (p0 := 105) dX10_corrections_103 rfl rfl ?_
  refine g_cS2R (p0 := 108) (r1 := mX10_areGood) dX10_corrections_105 (Or.inl lX10_134) vX10_areGood (FITi rfl rfl) (Nat.le_of_ble_eq_true rfl) (hag) rfl ?_
  first | ((with_reducible refine isN1 ?_); refine g_ifN_eq (tgt := 188) (p1 := 111) dX10_corrections_108 rfl (by omega) rfl (fun c_108 => ?_) (fun c_108 => by exfalso; first | omega | contradiction | exact hw c_108 | exact c_108 hw)) | refine g_if_eq (tgt := 188) (p1 := 111) dX10_corrections_108 rfl rfl (fun c_108 => ?_) (fun c_108 => by exfalso; first | omega | contradiction | exact hw c_108 | exact c_108 hw)
  first | refine g_iinc1 (p0 := 191) (ls2 := [_, _, _, _, _, _, _, _, _]) dX10_corrections_188 rfl rfl rfl ?_ | refine g_iinc (p0 := 191) (ls2 := [_, _, _, _, _, _, _, _, _]) dX10_corrections_188 rfl rfl rfl rfl ?_
  refine g_goto (tgt := 26) dX10_corrections_191 rfl ?_
  exact next _ _ _
set_option maxRecDepth 20000 in
set_option maxHeartbeats 2000000 in
theorem rk0_C {m l g a b cn : Nat} {w y : Int32} {x6 x7 x8 : Option AV} {σ : Sg} {Q : SP} (hm : m < 160) (hl : l < 160) (hg : σ 89 l = nI g) (ha : σ 90 l = nI a) (hb : σ 91 l = nI b) (hg1 : g < 500) (ha1 : a < 500) (hb1 : b < 500) (hg2 : g = 2) (hag : CM mX10_areGood [ai (nI (a + 1)), ai (nI (b + 0))] σ (Ret (nI 1) σ)) (hla : ∀ σ1 : Sg, σ1 80 = σ 80 → CM mX10_letterAt [ar 79, ai (nI (a + 1)), ai (nI (b + 0))] σ1 (Ret y σ1)) (hrt : CM mX10_isRight [ar 79, ai (nI m), ai (nI l), ai y] σ (Ret (nI 0) σ)) (next : ∀ x6 x7 x8, WM mX10_corrections Q 26 [some (ar 79), some (ai (nI m)), some (ai w), some (ai (nI (cn))), some (ai (nI (l))), some (ai (nI (1))), x6, x7, x8] [] (σ)) : WM mX10_corrections Q 26 [some (ar 79), some (ai (nI m)), some (ai w), some (ai (nI (cn))), some (ai (nI (l))), some (ai (nI (0))), x6, x7, x8] [] σ := by
  refine g_iload (p0 := 28) dX10_corrections_26 rfl rfl ?_
  refine g_iconst (p0 := 29) (v := nI 4) dX10_corrections_28 rfl rfl ?_
  first | ((with_reducible refine isN2 ?_); refine g_icmpN_ge (tgt := 194) (p1 := 32) dX10_corrections_29 rfl (by omega) (by omega) rfl (fun c_29 => by exfalso; first | omega | contradiction | exact hw c_29 | exact c_29 hw) (fun c_29 => ?_)) | refine g_icmp_ge (tgt := 194) (p1 := 32) dX10_corrections_29 rfl rfl (fun c_29 => by exfalso; first | omega | contradiction | exact hw c_29 | exact c_29 hw) (fun c_29 => ?_)
  refine g_iload (p0 := 34) dX10_corrections_32 rfl rfl ?_
  refine g_iconst (p0 := 35) (v := nI 2) dX10_corrections_34 rfl rfl ?_
  first | ((with_reducible refine isN2 ?_); refine g_iremN (p0 := 36) dX10_corrections_35 (by omega) (by omega) (by omega) rfl ?_) | refine g_irem (p0 := 36) dX10_corrections_35 (by decide) rfl ?_
  first | ((with_reducible refine isN1 ?_); refine g_ifN_ne (tgt := 43) (p1 := 39) dX10_corrections_36 rfl (by omega) rfl (fun c_36 => by exfalso; first | omega | contradiction | exact hw c_36 | exact c_36 hw) (fun c_36 => ?_)) | refine g_if_ne (tgt := 43) (p1 := 39) dX10_corrections_36 rfl rfl (fun c_36 => by exfalso; first | omega | contradiction | exact hw c_36 | exact c_36 hw) (fun c_36 => ?_)
  refine g_iconst (p0 := 40) (v := nI 1) dX10_corrections_39 rfl rfl ?_
  refine g_goto (tgt := 44) dX10_corrections_40 rfl ?_
  refine g_istore (p0 := 46) (i := 6) (ls2 := [_, _, _, _, _, _, _, _, _]) dX10_corrections_44 (Nat.le_of_ble_eq_true rfl) rfl rfl ?_
  refine g_aload_n (p0 := 47) (i := 0) dX10_corrections_46 rfl rfl rfl ?_
  refine g_getR (p0 := 50) dX10_corrections_47 fX10_40 (by first | rfl | assumption | exact RW.s (by assumption) | exact TW.s (by assumption)) rfl rfl ?_
  refine g_iload (p0 := 52) dX10_corrections_50 rfl rfl ?_
  first | ((with_reducible refine isN1 ?_); refine g_aldN (p0 := 53) dX10_corrections_52 (by first | rfl | assumption | exact RW.s (by assumption) | exact TW.s (by assumption)) (by first | decide | assumption) (by omega) (by first | assumption | ((repeat (first | exact up_hit | refine up_nv (by decide) ?_ | refine up_mv (by first | decide | omega) ?_)) <;> first | assumption | rfl)) rfl ?_) | refine g_ald (p0 := 53) dX10_corrections_52 (by first | rfl | assumption | exact RW.s (by assumption) | exact TW.s (by assumption)) (by assumption) (by first | assumption | ((repeat (first | exact up_hit | refine up_nv (by decide) ?_ | refine up_mv (by first | decide | omega) ?_)) <;> first | assumption | rfl)) rfl ?_
  refine g_iload (p0 := 55) dX10_corrections_53 rfl rfl ?_
  refine g_iconst (p0 := 56) (v := nI 2) dX10_corrections_55 rfl rfl ?_
  first | ((with_reducible refine isN2 ?_); refine g_icmpN_ge (tgt := 64) (p1 := 59) dX10_corrections_56 rfl (by omega) (by omega) rfl (fun c_56 => by exfalso; first | omega | contradiction | exact hw c_56 | exact c_56 hw) (fun c_56 => ?_)) | refine g_icmp_ge (tgt := 64) (p1 := 59) dX10_corrections_56 rfl rfl (fun c_56 => by exfalso; first | omega | contradiction | exact hw c_56 | exact c_56 hw) (fun c_56 => ?_)
  refine g_iload (p0 := 61) dX10_corrections_59 rfl rfl ?_
  refine g_goto (tgt := 65) dX10_corrections_61 rfl ?_
  first | ((with_reducible refine isN2 ?_); refine g_iaddN (p0 := 66) dX10_corrections_65 rfl ?_) | refine g_iadd (p0 := 66) dX10_corrections_65 rfl ?_
  refine g_istore (p0 := 68) (i := 7) (ls2 := [_, _, _, _, _, _, _, _, _]) dX10_corrections_66 (Nat.le_of_ble_eq_true rfl) rfl rfl ?_
  refine g_aload_n (p0 := 69) (i := 0) dX10_corrections_68 rfl rfl rfl ?_
  refine g_getR (p0 := 72) dX10_corrections_69 fX10_43 (by first | rfl | assumption | exact RW.s (by assumption) | exact TW.s (by assumption)) rfl rfl ?_
  refine g_iload (p0 := 74) dX10_corrections_72 rfl rfl ?_
  first | ((with_reducible refine isN1 ?_); refine g_aldN (p0 := 75) dX10_corrections_74 (by first | rfl | assumption | exact RW.s (by assumption) | exact TW.s (by assumption)) (by first | decide | assumption) (by omega) (by first | assumption | ((repeat (first | exact up_hit | refine up_nv (by decide) ?_ | refine up_mv (by first | decide | omega) ?_)) <;> first | assumption | rfl)) rfl ?_) | refine g_ald (p0 := 75) dX10_corrections_74 (by first | rfl | assumption | exact RW.s (by assumption) | exact TW.s (by assumption)) (by assumption) (by first | assumption | ((repeat (first | exact up_hit | refine up_nv (by decide) ?_ | refine up_mv (by first | decide | omega) ?_)) <;> first | assumption | rfl)) rfl ?_
  refine g_iload (p0 := 77) dX10_corrections_75 rfl rfl ?_
  refine g_iconst (p0 := 78) (v := nI 2) dX10_corrections_77 rfl rfl ?_
  first | ((with_reducible refine isN2 ?_); refine g_icmpN_ge (tgt := 85) (p1 := 81) dX10_corrections_78 rfl (by omega) (by omega) rfl (fun c_78 => by exfalso; first | omega | contradiction | exact hw c_78 | exact c_78 hw) (fun c_78 => ?_)) | refine g_icmp_ge (tgt := 85) (p1 := 81) dX10_corrections_78 rfl rfl (fun c_78 => by exfalso; first | omega | contradiction | exact hw c_78 | exact c_78 hw) (fun c_78 => ?_)
  refine g_iconst (p0 := 82) (v := nI 0) dX10_corrections_81 rfl rfl ?_
  refine g_goto (tgt := 87) dX10_corrections_82 rfl ?_
  first | ((with_reducible refine isN2 ?_); refine g_iaddN (p0 := 88) dX10_corrections_87 rfl ?_) | refine g_iadd (p0 := 88) dX10_corrections_87 rfl ?_
  refine g_istore (p0 := 90) (i := 8) (ls2 := [_, _, _, _, _, _, _, _, _]) dX10_corrections_88 (Nat.le_of_ble_eq_true rfl) rfl rfl ?_
  refine g_aload_n (p0 := 91) (i := 0) dX10_corrections_90 rfl rfl rfl ?_
  refine g_getR (p0 := 94) dX10_corrections_91 fX10_37 (by first | rfl | assumption | exact RW.s (by assumption) | exact TW.s (by assumption)) rfl rfl ?_
  refine g_iload (p0 := 96) dX10_corrections_94 rfl rfl ?_
  first | ((with_reducible refine isN1 ?_); refine g_aldN (p0 := 97) dX10_corrections_96 (by first | rfl | assumption | exact RW.s (by assumption) | exact TW.s (by assumption)) (by first | decide | assumption) (by omega) (by first | assumption | ((repeat (first | exact up_hit | refine up_nv (by decide) ?_ | refine up_mv (by first | decide | omega) ?_)) <;> first | assumption | rfl)) rfl ?_) | refine g_ald (p0 := 97) dX10_corrections_96 (by first | rfl | assumption | exact RW.s (by assumption) | exact TW.s (by assumption)) (by assumption) (by first | assumption | ((repeat (first | exact up_hit | refine up_nv (by decide) ?_ | refine up_mv (by first | decide | omega) ?_)) <;> first | assumption | rfl)) rfl ?_
  refine g_iconst (p0 := 98) (v := nI 2) dX10_corrections_97 rfl rfl ?_
  first | ((with_reducible refine isN2 ?_); refine g_icmpN_ne (tgt := 188) (p1 := 101) dX10_corrections_98 rfl (by omega) (by omega) rfl (fun c_98 => by exfalso; first | omega | contradiction | exact hw c_98 | exact c_98 hw) (fun c_98 => ?_)) | refine g_icmp_ne (tgt := 188) (p1 := 101) dX10_corrections_98 rfl rfl (fun c_98 => by exfalso; first | omega | contradiction | exact hw c_98 | exact c_98 hw) (fun c_98 => ?_)
  refine g_iload (p0 := 103) dX10_corrections_101 rfl rfl ?_
  refine g_iload (p0 := 105) dX10_corrections_103 rfl rfl ?_
  refine g_cS2R (p0 := 108) (r1 := mX10_areGood) dX10_corrections_105 (Or.inl lX10_134) vX10_areGood (FITi rfl rfl) (Nat.le_of_ble_eq_true rfl) (hag) rfl ?_
  first | ((with_reducible refine isN1 ?_); refine g_ifN_eq (tgt := 188) (p1 := 111) dX10_corrections_108 rfl (by omega) rfl (fun c_108 => by exfalso; first | omega | contradiction | exact hw c_108 | exact c_108 hw) (fun c_108 => ?_)) | refine g_if_eq (tgt := 188) (p1 := 111) dX10_corrections_108 rfl rfl (fun c_108 => by exfalso; first | omega | contradiction | exact hw c_108 | exact c_108 hw) (fun c_108 => ?_)
  refine g_aload_n (p0 := 112) (i := 0) dX10_corrections_111 rfl rfl rfl ?_
  refine g_iload_n (p0 := 113) (i := 1) dX10_corrections_112 rfl rfl rfl ?_
  refine g_iload (p0 := 115) dX10_corrections_113 rfl rfl ?_
  refine g_aload_n (p0 := 116) (i := 0) dX10_corrections_115 rfl rfl rfl ?_
  refine g_iload (p0 := 118) dX10_corrections_116 rfl rfl ?_
  refine g_iload (p0 := 120) dX10_corrections_118 rfl rfl ?_
  refine g_cV2R (p0 := 123) (r1 := mX10_letterAt) dX10_corrections_120 lX10_138 vX10_letterAt (by first | rfl | assumption | exact RW.s (by assumption) | exact TW.s (by assumption)) ⟨_, _, rfl⟩ (FITi rfl rfl) (Nat.le_of_ble_eq_true rfl) (hla _ rfl) rfl ?_
  refine g_cV3R (p0 := 126) (r1 := mX10_isRight) dX10_corrections_123 lX10_155 vX10_isRight (by first | rfl | assumption | exact RW.s (by assumption) | exact TW.s (by assumption)) ⟨_, _, rfl⟩ (FITi rfl rfl) (Nat.le_of_ble_eq_true rfl) (hrt) rfl ?_
  first | ((with_reducible refine isN1 ?_); refine g_ifN_eq (tgt := 188) (p1 := 129) dX10_corrections_126 rfl (by omega) rfl (fun c_126 => ?_) (fun c_126 => by exfalso; first | omega | contradiction | exact hw c_126 | exact c_126 hw)) | refine g_if_eq (tgt := 188) (p1 := 129) dX10_corrections_126 rfl rfl (fun c_126 => ?_) (fun c_126 => by exfalso; first | omega | contradiction | exact hw c_126 | exact c_126 hw)
  first | refine g_iinc1 (p0 := 191) (ls2 := [_, _, _, _, _, _, _, _, _]) dX10_corrections_188 rfl rfl rfl ?_ | refine g_iinc (p0 := 191) (ls2 := [_, _, _, _, _, _, _, _, _]) dX10_corrections_188 rfl rfl rfl rfl ?_
  refine g_goto (tgt := 26) dX10_corrections_191 rfl ?_
  exact next _ _ _
set_option maxRecDepth 20000 in
set_option maxHeartbeats 2000000 in
theorem rk0_D {m l g a b cn : Nat} {w y : Int32} {x6 x7 x8 : Option AV} {σ : Sg} {Q : SP} (hm : m < 160) (hl : l < 160) (hg : σ 89 l = nI g) (ha : σ 90 l = nI a) (hb : σ 91 l = nI b) (hg1 : g < 500) (ha1 : a < 500) (hb1 : b < 500) (hg2 : g = 2) (hag : CM mX10_areGood [ai (nI (a + 1)), ai (nI (b + 0))] σ (Ret (nI 1) σ)) (hla : ∀ σ1 : Sg, σ1 80 = σ 80 → CM mX10_letterAt [ar 79, ai (nI (a + 1)), ai (nI (b + 0))] σ1 (Ret y σ1)) (hrt : CM mX10_isRight [ar 79, ai (nI m), ai (nI l), ai y] σ (Ret (nI 1) σ)) (hw : ¬ nI cn = w) (next : ∀ x6 x7 x8, WM mX10_corrections Q 26 [some (ar 79), some (ai (nI m)), some (ai w), some (ai (nI (cn + 1))), some (ai (nI (l))), some (ai (nI (1))), x6, x7, x8] [] (σ)) : WM mX10_corrections Q 26 [some (ar 79), some (ai (nI m)), some (ai w), some (ai (nI (cn))), some (ai (nI (l))), some (ai (nI (0))), x6, x7, x8] [] σ := by
  refine g_iload (p0 := 28) dX10_corrections_26 rfl rfl ?_
  refine g_iconst (p0 := 29) (v := nI 4) dX10_corrections_28 rfl rfl ?_
  first | ((with_reducible refine isN2 ?_); refine g_icmpN_ge (tgt := 194) (p1 := 32) dX10_corrections_29 rfl (by omega) (by omega) rfl (fun c_29 => by exfalso; first | omega | contradiction | exact hw c_29 | exact c_29 hw) (fun c_29 => ?_)) | refine g_icmp_ge (tgt := 194) (p1 := 32) dX10_corrections_29 rfl rfl (fun c_29 => by exfalso; first | omega | contradiction | exact hw c_29 | exact c_29 hw) (fun c_29 => ?_)
  refine g_iload (p0 := 34) dX10_corrections_32 rfl rfl ?_
  refine g_iconst (p0 := 35) (v := nI 2) dX10_corrections_34 rfl rfl ?_
  first | ((with_reducible refine isN2 ?_); refine g_iremN (p0 := 36) dX10_corrections_35 (by omega) (by omega) (by omega) rfl ?_) | refine g_irem (p0 := 36) dX10_corrections_35 (by decide) rfl ?_
  first | ((with_reducible refine isN1 ?_); refine g_ifN_ne (tgt := 43) (p1 := 39) dX10_corrections_36 rfl (by omega) rfl (fun c_36 => by exfalso; first | omega | contradiction | exact hw c_36 | exact c_36 hw) (fun c_36 => ?_)) | refine g_if_ne (tgt := 43) (p1 := 39) dX10_corrections_36 rfl rfl (fun c_36 => by exfalso; first | omega | contradiction | exact hw c_36 | exact c_36 hw) (fun c_36 => ?_)
  refine g_iconst (p0 := 40) (v := nI 1) dX10_corrections_39 rfl rfl ?_
  refine g_goto (tgt := 44) dX10_corrections_40 rfl ?_
  refine g_istore (p0 := 46) (i := 6) (ls2 := [_, _, _, _, _, _, _, _, _]) dX10_corrections_44 (Nat.le_of_ble_eq_true rfl) rfl rfl ?_
  refine g_aload_n (p0 := 47) (i := 0) dX10_corrections_46 rfl rfl rfl ?_
  refine g_getR (p0 := 50) dX10_corrections_47 fX10_40 (by first | rfl | assumption | exact RW.s (by assumption) | exact TW.s (by assumption)) rfl rfl ?_
  refine g_iload (p0 := 52) dX10_corrections_50 rfl rfl ?_
  first | ((with_reducible refine isN1 ?_); refine g_aldN (p0 := 53) dX10_corrections_52 (by first | rfl | assumption | exact RW.s (by assumption) | exact TW.s (by assumption)) (by first | decide | assumption) (by omega) (by first | assumption | ((repeat (first | exact up_hit | refine up_nv (by decide) ?_ | refine up_mv (by first | decide | omega) ?_)) <;> first | assumption | rfl)) rfl ?_) | refine g_ald (p0 := 53) dX10_corrections_52 (by first | rfl | assumption | exact RW.s (by assumption) | exact TW.s (by assumption)) (by assumption) (by first | assumption | ((repeat (first | exact up_hit | refine up_nv (by decide) ?_ | refine up_mv (by first | decide | omega) ?_)) <;> first | assumption | rfl)) rfl ?_
  refine g_iload (p0 := 55) dX10_corrections_53 rfl rfl ?_
  refine g_iconst (p0 := 56) (v := nI 2) dX10_corrections_55 rfl rfl ?_
  first | ((with_reducible refine isN2 ?_); refine g_icmpN_ge (tgt := 64) (p1 := 59) dX10_corrections_56 rfl (by omega) (by omega) rfl (fun c_56 => by exfalso; first | omega | contradiction | exact hw c_56 | exact c_56 hw) (fun c_56 => ?_)) | refine g_icmp_ge (tgt := 64) (p1 := 59) dX10_corrections_56 rfl rfl (fun c_56 => by exfalso; first | omega | contradiction | exact hw c_56 | exact c_56 hw) (fun c_56 => ?_)
  refine g_iload (p0 := 61) dX10_corrections_59 rfl rfl ?_
  refine g_goto (tgt := 65) dX10_corrections_61 rfl ?_
  first | ((with_reducible refine isN2 ?_); refine g_iaddN (p0 := 66) dX10_corrections_65 rfl ?_) | refine g_iadd (p0 := 66) dX10_corrections_65 rfl ?_
  refine g_istore (p0 := 68) (i := 7) (ls2 := [_, _, _, _, _, _, _, _, _]) dX10_corrections_66 (Nat.le_of_ble_eq_true rfl) rfl rfl ?_
  refine g_aload_n (p0 := 69) (i := 0) dX10_corrections_68 rfl rfl rfl ?_
  refine g_getR (p0 := 72) dX10_corrections_69 fX10_43 (by first | rfl | assumption | exact RW.s (by assumption) | exact TW.s (by assumption)) rfl rfl ?_
  refine g_iload (p0 := 74) dX10_corrections_72 rfl rfl ?_
  first | ((with_reducible refine isN1 ?_); refine g_aldN (p0 := 75) dX10_corrections_74 (by first | rfl | assumption | exact RW.s (by assumption) | exact TW.s (by assumption)) (by first | decide | assumption) (by omega) (by first | assumption | ((repeat (first | exact up_hit | refine up_nv (by decide) ?_ | refine up_mv (by first | decide | omega) ?_)) <;> first | assumption | rfl)) rfl ?_) | refine g_ald (p0 := 75) dX10_corrections_74 (by first | rfl | assumption | exact RW.s (by assumption) | exact TW.s (by assumption)) (by assumption) (by first | assumption | ((repeat (first | exact up_hit | refine up_nv (by decide) ?_ | refine up_mv (by first | decide | omega) ?_)) <;> first | assumption | rfl)) rfl ?_
  refine g_iload (p0 := 77) dX10_corrections_75 rfl rfl ?_
  refine g_iconst (p0 := 78) (v := nI 2) dX10_corrections_77 rfl rfl ?_
  first | ((with_reducible refine isN2 ?_); refine g_icmpN_ge (tgt := 85) (p1 := 81) dX10_corrections_78 rfl (by omega) (by omega) rfl (fun c_78 => by exfalso; first | omega | contradiction | exact hw c_78 | exact c_78 hw) (fun c_78 => ?_)) | refine g_icmp_ge (tgt := 85) (p1 := 81) dX10_corrections_78 rfl rfl (fun c_78 => by exfalso; first | omega | contradiction | exact hw c_78 | exact c_78 hw) (fun c_78 => ?_)
  refine g_iconst (p0 := 82) (v := nI 0) dX10_corrections_81 rfl rfl ?_
  refine g_goto (tgt := 87) dX10_corrections_82 rfl ?_
  first | ((with_reducible refine isN2 ?_); refine g_iaddN (p0 := 88) dX10_corrections_87 rfl ?_) | refine g_iadd (p0 := 88) dX10_corrections_87 rfl ?_
  refine g_istore (p0 := 90) (i := 8) (ls2 := [_, _, _, _, _, _, _, _, _]) dX10_corrections_88 (Nat.le_of_ble_eq_true rfl) rfl rfl ?_
  refine g_aload_n (p0 := 91) (i := 0) dX10_corrections_90 rfl rfl rfl ?_
  refine g_getR (p0 := 94) dX10_corrections_91 fX10_37 (by first | rfl | assumption | exact RW.s (by assumption) | exact TW.s (by assumption)) rfl rfl ?_
  refine g_iload (p0 := 96) dX10_corrections_94 rfl rfl ?_
  first | ((with_reducible refine isN1 ?_); refine g_aldN (p0 := 97) dX10_corrections_96 (by first | rfl | assumption | exact RW.s (by assumption) | exact TW.s (by assumption)) (by first | decide | assumption) (by omega) (by first | assumption | ((repeat (first | exact up_hit | refine up_nv (by decide) ?_ | refine up_mv (by first | decide | omega) ?_)) <;> first | assumption | rfl)) rfl ?_) | refine g_ald (p0 := 97) dX10_corrections_96 (by first | rfl | assumption | exact RW.s (by assumption) | exact TW.s (by assumption)) (by assumption) (by first | assumption | ((repeat (first | exact up_hit | refine up_nv (by decide) ?_ | refine up_mv (by first | decide | omega) ?_)) <;> first | assumption | rfl)) rfl ?_
  refine g_iconst (p0 := 98) (v := nI 2) dX10_corrections_97 rfl rfl ?_
  first | ((with_reducible refine isN2 ?_); refine g_icmpN_ne (tgt := 188) (p1 := 101) dX10_corrections_98 rfl (by omega) (by omega) rfl (fun c_98 => by exfalso; first | omega | contradiction | exact hw c_98 | exact c_98 hw) (fun c_98 => ?_)) | refine g_icmp_ne (tgt := 188) (p1 := 101) dX10_corrections_98 rfl rfl (fun c_98 => by exfalso; first | omega | contradiction | exact hw c_98 | exact c_98 hw) (fun c_98 => ?_)
  refine g_iload (p0 := 103) dX10_corrections_101 rfl rfl ?_
  refine g_iload (p0 := 105) dX10_corrections_103 rfl rfl ?_
  refine g_cS2R (p0 := 108) (r1 := mX10_areGood) dX10_corrections_105 (Or.inl lX10_134) vX10_areGood (FITi rfl rfl) (Nat.le_of_ble_eq_true rfl) (hag) rfl ?_
  first | ((with_reducible refine isN1 ?_); refine g_ifN_eq (tgt := 188) (p1 := 111) dX10_corrections_108 rfl (by omega) rfl (fun c_108 => by exfalso; first | omega | contradiction | exact hw c_108 | exact c_108 hw) (fun c_108 => ?_)) | refine g_if_eq (tgt := 188) (p1 := 111) dX10_corrections_108 rfl rfl (fun c_108 => by exfalso; first | omega | contradiction | exact hw c_108 | exact c_108 hw) (fun c_108 => ?_)
  refine g_aload_n (p0 := 112) (i := 0) dX10_corrections_111 rfl rfl rfl ?_
  refine g_iload_n (p0 := 113) (i := 1) dX10_corrections_112 rfl rfl rfl ?_
  refine g_iload (p0 := 115) dX10_corrections_113 rfl rfl ?_
  refine g_aload_n (p0 := 116) (i := 0) dX10_corrections_115 rfl rfl rfl ?_
  refine g_iload (p0 := 118) dX10_corrections_116 rfl rfl ?_
  refine g_iload (p0 := 120) dX10_corrections_118 rfl rfl ?_
  refine g_cV2R (p0 := 123) (r1 := mX10_letterAt) dX10_corrections_120 lX10_138 vX10_letterAt (by first | rfl | assumption | exact RW.s (by assumption) | exact TW.s (by assumption)) ⟨_, _, rfl⟩ (FITi rfl rfl) (Nat.le_of_ble_eq_true rfl) (hla _ rfl) rfl ?_
  refine g_cV3R (p0 := 126) (r1 := mX10_isRight) dX10_corrections_123 lX10_155 vX10_isRight (by first | rfl | assumption | exact RW.s (by assumption) | exact TW.s (by assumption)) ⟨_, _, rfl⟩ (FITi rfl rfl) (Nat.le_of_ble_eq_true rfl) (hrt) rfl ?_
  first | ((with_reducible refine isN1 ?_); refine g_ifN_eq (tgt := 188) (p1 := 129) dX10_corrections_126 rfl (by omega) rfl (fun c_126 => by exfalso; first | omega | contradiction | exact hw c_126 | exact c_126 hw) (fun c_126 => ?_)) | refine g_if_eq (tgt := 188) (p1 := 129) dX10_corrections_126 rfl rfl (fun c_126 => by exfalso; first | omega | contradiction | exact hw c_126 | exact c_126 hw) (fun c_126 => ?_)
  refine g_iload_n (p0 := 130) (i := 3) dX10_corrections_129 rfl rfl rfl ?_
  refine g_iload_n (p0 := 131) (i := 2) dX10_corrections_130 rfl rfl rfl ?_
  first | ((with_reducible refine isN2 ?_); refine g_icmpN_ne (tgt := 185) (p1 := 134) dX10_corrections_131 rfl (by omega) (by omega) rfl (fun c_131 => ?_) (fun c_131 => by exfalso; first | omega | contradiction | exact hw c_131 | exact c_131 hw)) | refine g_icmp_ne (tgt := 185) (p1 := 134) dX10_corrections_131 rfl rfl (fun c_131 => ?_) (fun c_131 => by exfalso; first | omega | contradiction | exact hw c_131 | exact c_131 hw)
  first | refine g_iinc1 (p0 := 188) (ls2 := [_, _, _, _, _, _, _, _, _]) dX10_corrections_185 rfl rfl rfl ?_ | refine g_iinc (p0 := 188) (ls2 := [_, _, _, _, _, _, _, _, _]) dX10_corrections_185 rfl rfl rfl rfl ?_
  first | refine g_iinc1 (p0 := 191) (ls2 := [_, _, _, _, _, _, _, _, _]) dX10_corrections_188 rfl rfl rfl ?_ | refine g_iinc (p0 := 191) (ls2 := [_, _, _, _, _, _, _, _, _]) dX10_corrections_188 rfl rfl rfl rfl ?_
  refine g_goto (tgt := 26) dX10_corrections_191 rfl ?_
  exact next _ _ _
set_option maxRecDepth 20000 in
set_option maxHeartbeats 2000000 in
theorem rk0_E {m l f g a b cn : Nat} {w y : Int32} {x6 x7 x8 : Option AV} {σ : Sg} {Q : SP} (hm : m < 160) (hl : l < 160) (hg : σ 89 l = nI g) (ha : σ 90 l = nI a) (hb : σ 91 l = nI b) (hg1 : g < 500) (ha1 : a < 500) (hb1 : b < 500) (hg2 : g = 2) (hag : CM mX10_areGood [ai (nI (a + 1)), ai (nI (b + 0))] σ (Ret (nI 1) σ)) (hla : ∀ σ1 : Sg, σ1 80 = σ 80 → CM mX10_letterAt [ar 79, ai (nI (a + 1)), ai (nI (b + 0))] σ1 (Ret y σ1)) (hrt : CM mX10_isRight [ar 79, ai (nI m), ai (nI l), ai y] σ (Ret (nI 1) σ)) (hw : nI cn = w) (hf : σ 92 m = nI f) (hfl : f ≤ l) (next : ∀ x6 x7 x8, WM mX10_corrections Q 26 [some (ar 79), some (ai (nI m)), some (ai w), some (ai (nI (cn + 1))), some (ai (nI (l))), some (ai (nI (1))), x6, x7, x8] [] (up (up (up (up σ 96 0 (nI (l - f))) 96 1 (nI (0 / 2))) 96 2 (nI (1 - 0 % 2))) 96 3 y)) : WM mX10_corrections Q 26 [some (ar 79), some (ai (nI m)), some (ai w), some (ai (nI (cn))), some (ai (nI (l))), some (ai (nI (0))), x6, x7, x8] [] σ := by
  refine g_iload (p0 := 28) dX10_corrections_26 rfl rfl ?_
  refine g_iconst (p0 := 29) (v := nI 4) dX10_corrections_28 rfl rfl ?_
  first | ((with_reducible refine isN2 ?_); refine g_icmpN_ge (tgt := 194) (p1 := 32) dX10_corrections_29 rfl (by omega) (by omega) rfl (fun c_29 => by exfalso; first | omega | contradiction | exact hw c_29 | exact c_29 hw) (fun c_29 => ?_)) | refine g_icmp_ge (tgt := 194) (p1 := 32) dX10_corrections_29 rfl rfl (fun c_29 => by exfalso; first | omega | contradiction | exact hw c_29 | exact c_29 hw) (fun c_29 => ?_)
  refine g_iload (p0 := 34) dX10_corrections_32 rfl rfl ?_
  refine g_iconst (p0 := 35) (v := nI 2) dX10_corrections_34 rfl rfl ?_
  first | ((with_reducible refine isN2 ?_); refine g_iremN (p0 := 36) dX10_corrections_35 (by omega) (by omega) (by omega) rfl ?_) | refine g_irem (p0 := 36) dX10_corrections_35 (by decide) rfl ?_
  first | ((with_reducible refine isN1 ?_); refine g_ifN_ne (tgt := 43) (p1 := 39) dX10_corrections_36 rfl (by omega) rfl (fun c_36 => by exfalso; first | omega | contradiction | exact hw c_36 | exact c_36 hw) (fun c_36 => ?_)) | refine g_if_ne (tgt := 43) (p1 := 39) dX10_corrections_36 rfl rfl (fun c_36 => by exfalso; first | omega | contradiction | exact hw c_36 | exact c_36 hw) (fun c_36 => ?_)
  refine g_iconst (p0 := 40) (v := nI 1) dX10_corrections_39 rfl rfl ?_
  refine g_goto (tgt := 44) dX10_corrections_40 rfl ?_
  refine g_istore (p0 := 46) (i := 6) (ls2 := [_, _, _, _, _, _, _, _, _]) dX10_corrections_44 (Nat.le_of_ble_eq_true rfl) rfl rfl ?_
  refine g_aload_n (p0 := 47) (i := 0) dX10_corrections_46 rfl rfl rfl ?_
  refine g_getR (p0 := 50) dX10_corrections_47 fX10_40 (by first | rfl | assumption | exact RW.s (by assumption) | exact TW.s (by assumption)) rfl rfl ?_
  refine g_iload (p0 := 52) dX10_corrections_50 rfl rfl ?_
  first | ((with_reducible refine isN1 ?_); refine g_aldN (p0 := 53) dX10_corrections_52 (by first | rfl | assumption | exact RW.s (by assumption) | exact TW.s (by assumption)) (by first | decide | assumption) (by omega) (by first | assumption | ((repeat (first | exact up_hit | refine up_nv (by decide) ?_ | refine up_mv (by first | decide | omega) ?_)) <;> first | assumption | rfl)) rfl ?_) | refine g_ald (p0 := 53) dX10_corrections_52 (by first | rfl | assumption | exact RW.s (by assumption) | exact TW.s (by assumption)) (by assumption) (by first | assumption | ((repeat (first | exact up_hit | refine up_nv (by decide) ?_ | refine up_mv (by first | decide | omega) ?_)) <;> first | assumption | rfl)) rfl ?_
  refine g_iload (p0 := 55) dX10_corrections_53 rfl rfl ?_
  refine g_iconst (p0 := 56) (v := nI 2) dX10_corrections_55 rfl rfl ?_
  first | ((with_reducible refine isN2 ?_); refine g_icmpN_ge (tgt := 64) (p1 := 59) dX10_corrections_56 rfl (by omega) (by omega) rfl (fun c_56 => by exfalso; first | omega | contradiction | exact hw c_56 | exact c_56 hw) (fun c_56 => ?_)) | refine g_icmp_ge (tgt := 64) (p1 := 59) dX10_corrections_56 rfl rfl (fun c_56 => by exfalso; first | omega | contradiction | exact hw c_56 | exact c_56 hw) (fun c_56 => ?_)
  refine g_iload (p0 := 61) dX10_corrections_59 rfl rfl ?_
  refine g_goto (tgt := 65) dX10_corrections_61 rfl ?_
  first | ((with_reducible refine isN2 ?_); refine g_iaddN (p0 := 66) dX10_corrections_65 rfl ?_) | refine g_iadd (p0 := 66) dX10_corrections_65 rfl ?_
  refine g_istore (p0 := 68) (i := 7) (ls2 := [_, _, _, _, _, _, _, _, _]) dX10_corrections_66 (Nat.le_of_ble_eq_true rfl) rfl rfl ?_
  refine g_aload_n (p0 := 69) (i := 0) dX10_corrections_68 rfl rfl rfl ?_
  refine g_getR (p0 := 72) dX10_corrections_69 fX10_43 (by first | rfl | assumption | exact RW.s (by assumption) | exact TW.s (by assumption)) rfl rfl ?_
  refine g_iload (p0 := 74) dX10_corrections_72 rfl rfl ?_
  first | ((with_reducible refine isN1 ?_); refine g_aldN (p0 := 75) dX10_corrections_74 (by first | rfl | assumption | exact RW.s (by assumption) | exact TW.s (by assumption)) (by first | decide | assumption) (by omega) (by first | assumption | ((repeat (first | exact up_hit | refine up_nv (by decide) ?_ | refine up_mv (by first | decide | omega) ?_)) <;> first | assumption | rfl)) rfl ?_) | refine g_ald (p0 := 75) dX10_corrections_74 (by first | rfl | assumption | exact RW.s (by assumption) | exact TW.s (by assumption)) (by assumption) (by first | assumption | ((repeat (first | exact up_hit | refine up_nv (by decide) ?_ | refine up_mv (by first | decide | omega) ?_)) <;> first | assumption | rfl)) rfl ?_
  refine g_iload (p0 := 77) dX10_corrections_75 rfl rfl ?_
  refine g_iconst (p0 := 78) (v := nI 2) dX10_corrections_77 rfl rfl ?_
  first | ((with_reducible refine isN2 ?_); refine g_icmpN_ge (tgt := 85) (p1 := 81) dX10_corrections_78 rfl (by omega) (by omega) rfl (fun c_78 => by exfalso; first | omega | contradiction | exact hw c_78 | exact c_78 hw) (fun c_78 => ?_)) | refine g_icmp_ge (tgt := 85) (p1 := 81) dX10_corrections_78 rfl rfl (fun c_78 => by exfalso; first | omega | contradiction | exact hw c_78 | exact c_78 hw) (fun c_78 => ?_)
  refine g_iconst (p0 := 82) (v := nI 0) dX10_corrections_81 rfl rfl ?_
  refine g_goto (tgt := 87) dX10_corrections_82 rfl ?_
  first | ((with_reducible refine isN2 ?_); refine g_iaddN (p0 := 88) dX10_corrections_87 rfl ?_) | refine g_iadd (p0 := 88) dX10_corrections_87 rfl ?_
  refine g_istore (p0 := 90) (i := 8) (ls2 := [_, _, _, _, _, _, _, _, _]) dX10_corrections_88 (Nat.le_of_ble_eq_true rfl) rfl rfl ?_
  refine g_aload_n (p0 := 91) (i := 0) dX10_corrections_90 rfl rfl rfl ?_
  refine g_getR (p0 := 94) dX10_corrections_91 fX10_37 (by first | rfl | assumption | exact RW.s (by assumption) | exact TW.s (by assumption)) rfl rfl ?_
  refine g_iload (p0 := 96) dX10_corrections_94 rfl rfl ?_
  first | ((with_reducible refine isN1 ?_); refine g_aldN (p0 := 97) dX10_corrections_96 (by first | rfl | assumption | exact RW.s (by assumption) | exact TW.s (by assumption)) (by first | decide | assumption) (by omega) (by first | assumption | ((repeat (first | exact up_hit | refine up_nv (by decide) ?_ | refine up_mv (by first | decide | omega) ?_)) <;> first | assumption | rfl)) rfl ?_) | refine g_ald (p0 := 97) dX10_corrections_96 (by first | rfl | assumption | exact RW.s (by assumption) | exact TW.s (by assumption)) (by assumption) (by first | assumption | ((repeat (first | exact up_hit | refine up_nv (by decide) ?_ | refine up_mv (by first | decide | omega) ?_)) <;> first | assumption | rfl)) rfl ?_
  refine g_iconst (p0 := 98) (v := nI 2) dX10_corrections_97 rfl rfl ?_
  first | ((with_reducible refine isN2 ?_); refine g_icmpN_ne (tgt := 188) (p1 := 101) dX10_corrections_98 rfl (by omega) (by omega) rfl (fun c_98 => by exfalso; first | omega | contradiction | exact hw c_98 | exact c_98 hw) (fun c_98 => ?_)) | refine g_icmp_ne (tgt := 188) (p1 := 101) dX10_corrections_98 rfl rfl (fun c_98 => by exfalso; first | omega | contradiction | exact hw c_98 | exact c_98 hw) (fun c_98 => ?_)
  refine g_iload (p0 := 103) dX10_corrections_101 rfl rfl ?_
  refine g_iload (p0 := 105) dX10_corrections_103 rfl rfl ?_
  refine g_cS2R (p0 := 108) (r1 := mX10_areGood) dX10_corrections_105 (Or.inl lX10_134) vX10_areGood (FITi rfl rfl) (Nat.le_of_ble_eq_true rfl) (hag) rfl ?_
  first | ((with_reducible refine isN1 ?_); refine g_ifN_eq (tgt := 188) (p1 := 111) dX10_corrections_108 rfl (by omega) rfl (fun c_108 => by exfalso; first | omega | contradiction | exact hw c_108 | exact c_108 hw) (fun c_108 => ?_)) | refine g_if_eq (tgt := 188) (p1 := 111) dX10_corrections_108 rfl rfl (fun c_108 => by exfalso; first | omega | contradiction | exact hw c_108 | exact c_108 hw) (fun c_108 => ?_)
  refine g_aload_n (p0 := 112) (i := 0) dX10_corrections_111 rfl rfl rfl ?_
  refine g_iload_n (p0 := 113) (i := 1) dX10_corrections_112 rfl rfl rfl ?_
  refine g_iload (p0 := 115) dX10_corrections_113 rfl rfl ?_
  refine g_aload_n (p0 := 116) (i := 0) dX10_corrections_115 rfl rfl rfl ?_
  refine g_iload (p0 := 118) dX10_corrections_116 rfl rfl ?_
  refine g_iload (p0 := 120) dX10_corrections_118 rfl rfl ?_
  refine g_cV2R (p0 := 123) (r1 := mX10_letterAt) dX10_corrections_120 lX10_138 vX10_letterAt (by first | rfl | assumption | exact RW.s (by assumption) | exact TW.s (by assumption)) ⟨_, _, rfl⟩ (FITi rfl rfl) (Nat.le_of_ble_eq_true rfl) (hla _ rfl) rfl ?_
  refine g_cV3R (p0 := 126) (r1 := mX10_isRight) dX10_corrections_123 lX10_155 vX10_isRight (by first | rfl | assumption | exact RW.s (by assumption) | exact TW.s (by assumption)) ⟨_, _, rfl⟩ (FITi rfl rfl) (Nat.le_of_ble_eq_true rfl) (hrt) rfl ?_
  first | ((with_reducible refine isN1 ?_); refine g_ifN_eq (tgt := 188) (p1 := 129) dX10_corrections_126 rfl (by omega) rfl (fun c_126 => by exfalso; first | omega | contradiction | exact hw c_126 | exact c_126 hw) (fun c_126 => ?_)) | refine g_if_eq (tgt := 188) (p1 := 129) dX10_corrections_126 rfl rfl (fun c_126 => by exfalso; first | omega | contradiction | exact hw c_126 | exact c_126 hw) (fun c_126 => ?_)
  refine g_iload_n (p0 := 130) (i := 3) dX10_corrections_129 rfl rfl rfl ?_
  refine g_iload_n (p0 := 131) (i := 2) dX10_corrections_130 rfl rfl rfl ?_
  first | ((with_reducible refine isN2 ?_); refine g_icmpN_ne (tgt := 185) (p1 := 134) dX10_corrections_131 rfl (by omega) (by omega) rfl (fun c_131 => by exfalso; first | omega | contradiction | exact hw c_131 | exact c_131 hw) (fun c_131 => ?_)) | refine g_icmp_ne (tgt := 185) (p1 := 134) dX10_corrections_131 rfl rfl (fun c_131 => by exfalso; first | omega | contradiction | exact hw c_131 | exact c_131 hw) (fun c_131 => ?_)
  refine g_aload_n (p0 := 135) (i := 0) dX10_corrections_134 rfl rfl rfl ?_
  refine g_getR (p0 := 138) dX10_corrections_135 fX10_58 (by first | rfl | assumption | exact RW.s (by assumption) | exact TW.s (by assumption)) rfl rfl ?_
  refine g_iconst (p0 := 139) (v := nI 0) dX10_corrections_138 rfl rfl ?_
  refine g_iload (p0 := 141) dX10_corrections_139 rfl rfl ?_
  refine g_aload_n (p0 := 142) (i := 0) dX10_corrections_141 rfl rfl rfl ?_
  refine g_getR (p0 := 145) dX10_corrections_142 fX10_46 (by first | rfl | assumption | exact RW.s (by assumption) | exact TW.s (by assumption)) rfl rfl ?_
  refine g_iload_n (p0 := 146) (i := 1) dX10_corrections_145 rfl rfl rfl ?_
  first | ((with_reducible refine isN1 ?_); refine g_aldN (p0 := 147) dX10_corrections_146 (by first | rfl | assumption | exact RW.s (by assumption) | exact TW.s (by assumption)) (by first | decide | assumption) (by omega) (by first | assumption | ((repeat (first | exact up_hit | refine up_nv (by decide) ?_ | refine up_mv (by first | decide | omega) ?_)) <;> first | assumption | rfl)) rfl ?_) | refine g_ald (p0 := 147) dX10_corrections_146 (by first | rfl | assumption | exact RW.s (by assumption) | exact TW.s (by assumption)) (by assumption) (by first | assumption | ((repeat (first | exact up_hit | refine up_nv (by decide) ?_ | refine up_mv (by first | decide | omega) ?_)) <;> first | assumption | rfl)) rfl ?_
  first | ((with_reducible refine isN2 ?_); refine g_isubN (p0 := 148) dX10_corrections_147 (by omega) rfl ?_) | refine g_isub (p0 := 148) dX10_corrections_147 rfl ?_
  first | ((with_reducible refine isNS ?_); refine g_astN (p0 := 149) dX10_corrections_148 (by first | rfl | assumption | exact RW.s (by assumption) | exact TW.s (by assumption)) (by first | decide | assumption) (by omega) rfl ?_) | refine g_ast (p0 := 149) dX10_corrections_148 (by first | rfl | assumption | exact RW.s (by assumption) | exact TW.s (by assumption)) (by assumption) rfl ?_
  refine g_aload_n (p0 := 150) (i := 0) dX10_corrections_149 rfl rfl rfl ?_
  refine g_getR (p0 := 153) dX10_corrections_150 fX10_58 (by first | rfl | assumption | exact RW.s (by assumption) | exact TW.s (by assumption)) rfl rfl ?_
  refine g_iconst (p0 := 154) (v := nI 1) dX10_corrections_153 rfl rfl ?_
  refine g_iload (p0 := 156) dX10_corrections_154 rfl rfl ?_
  refine g_iconst (p0 := 157) (v := nI 2) dX10_corrections_156 rfl rfl ?_
  first | ((with_reducible refine isN2 ?_); refine g_idivN (p0 := 158) dX10_corrections_157 (by omega) (by omega) (by omega) rfl ?_) | refine g_idiv (p0 := 158) dX10_corrections_157 (by decide) rfl ?_
  first | ((with_reducible refine isNS ?_); refine g_astN (p0 := 159) dX10_corrections_158 (by first | rfl | assumption | exact RW.s (by assumption) | exact TW.s (by assumption)) (by first | decide | assumption) (by omega) rfl ?_) | refine g_ast (p0 := 159) dX10_corrections_158 (by first | rfl | assumption | exact RW.s (by assumption) | exact TW.s (by assumption)) (by assumption) rfl ?_
  refine g_aload_n (p0 := 160) (i := 0) dX10_corrections_159 rfl rfl rfl ?_
  refine g_getR (p0 := 163) dX10_corrections_160 fX10_58 (by first | rfl | assumption | exact RW.s (by assumption) | exact TW.s (by assumption)) rfl rfl ?_
  refine g_iconst (p0 := 164) (v := nI 2) dX10_corrections_163 rfl rfl ?_
  refine g_iconst (p0 := 165) (v := nI 1) dX10_corrections_164 rfl rfl ?_
  refine g_iload (p0 := 167) dX10_corrections_165 rfl rfl ?_
  refine g_iconst (p0 := 168) (v := nI 2) dX10_corrections_167 rfl rfl ?_
  first | ((with_reducible refine isN2 ?_); refine g_iremN (p0 := 169) dX10_corrections_168 (by omega) (by omega) (by omega) rfl ?_) | refine g_irem (p0 := 169) dX10_corrections_168 (by decide) rfl ?_
  first | ((with_reducible refine isN2 ?_); refine g_isubN (p0 := 170) dX10_corrections_169 (by omega) rfl ?_) | refine g_isub (p0 := 170) dX10_corrections_169 rfl ?_
  first | ((with_reducible refine isNS ?_); refine g_astN (p0 := 171) dX10_corrections_170 (by first | rfl | assumption | exact RW.s (by assumption) | exact TW.s (by assumption)) (by first | decide | assumption) (by omega) rfl ?_) | refine g_ast (p0 := 171) dX10_corrections_170 (by first | rfl | assumption | exact RW.s (by assumption) | exact TW.s (by assumption)) (by assumption) rfl ?_
  refine g_aload_n (p0 := 172) (i := 0) dX10_corrections_171 rfl rfl rfl ?_
  refine g_getR (p0 := 175) dX10_corrections_172 fX10_58 (by first | rfl | assumption | exact RW.s (by assumption) | exact TW.s (by assumption)) rfl rfl ?_
  refine g_iconst (p0 := 176) (v := nI 3) dX10_corrections_175 rfl rfl ?_
  refine g_aload_n (p0 := 177) (i := 0) dX10_corrections_176 rfl rfl rfl ?_
  refine g_iload (p0 := 179) dX10_corrections_177 rfl rfl ?_
  refine g_iload (p0 := 181) dX10_corrections_179 rfl rfl ?_
  refine g_cV2R (p0 := 184) (r1 := mX10_letterAt) dX10_corrections_181 lX10_138 vX10_letterAt (by first | rfl | assumption | exact RW.s (by assumption) | exact TW.s (by assumption)) ⟨_, _, rfl⟩ (FITi rfl rfl) (Nat.le_of_ble_eq_true rfl) (hla _ (by rw [up_ne (by decide), up_ne (by decide), up_ne (by decide)])) rfl ?_
  first | ((with_reducible refine isNS ?_); refine g_astN (p0 := 185) dX10_corrections_184 (by first | rfl | assumption | exact RW.s (by assumption) | exact TW.s (by assumption)) (by first | decide | assumption) (by omega) rfl ?_) | refine g_ast (p0 := 185) dX10_corrections_184 (by first | rfl | assumption | exact RW.s (by assumption) | exact TW.s (by assumption)) (by assumption) rfl ?_
  first | refine g_iinc1 (p0 := 188) (ls2 := [_, _, _, _, _, _, _, _, _]) dX10_corrections_185 rfl rfl rfl ?_ | refine g_iinc (p0 := 188) (ls2 := [_, _, _, _, _, _, _, _, _]) dX10_corrections_185 rfl rfl rfl rfl ?_
  first | refine g_iinc1 (p0 := 191) (ls2 := [_, _, _, _, _, _, _, _, _]) dX10_corrections_188 rfl rfl rfl ?_ | refine g_iinc (p0 := 191) (ls2 := [_, _, _, _, _, _, _, _, _]) dX10_corrections_188 rfl rfl rfl rfl ?_
  refine g_goto (tgt := 26) dX10_corrections_191 rfl ?_
  exact next _ _ _
set_option maxRecDepth 20000 in
set_option maxHeartbeats 2000000 in
theorem rk1_A {m l g a b cn : Nat} {w : Int32} {x6 x7 x8 : Option AV} {σ : Sg} {Q : SP} (hm : m < 160) (hl : l < 160) (hg : σ 89 l = nI g) (ha : σ 90 l = nI a) (hb : σ 91 l = nI b) (hg1 : g < 500) (ha1 : a < 500) (hb1 : b < 500) (hg2 : ¬ g = 2) (next : ∀ x6 x7 x8, WM mX10_corrections Q 26 [some (ar 79), some (ai (nI m)), some (ai w), some (ai (nI (cn))), some (ai (nI (l))), some (ai (nI (2))), x6, x7, x8] [] (σ)) : WM mX10_corrections Q 26 [some (ar 79), some (ai (nI m)), some (ai w), some (ai (nI (cn))), some (ai (nI (l))), some (ai (nI (1))), x6, x7, x8] [] σ := by
  refine g_iload (p0 := 28) dX10_corrections_26 rfl rfl ?_
  refine g_iconst (p0 := 29) (v := nI 4) dX10_corrections_28 rfl rfl ?_
  first | ((with_reducible refine isN2 ?_); refine g_icmpN_ge (tgt := 194) (p1 := 32) dX10_corrections_29 rfl (by omega) (by omega) rfl (fun c_29 => by exfalso; first | omega | contradiction | exact hw c_29 | exact c_29 hw) (fun c_29 => ?_)) | refine g_icmp_ge (tgt := 194) (p1 := 32) dX10_corrections_29 rfl rfl (fun c_29 => by exfalso; first | omega | contradiction | exact hw c_29 | exact c_29 hw) (fun c_29 => ?_)
  refine g_iload (p0 := 34) dX10_corrections_32 rfl rfl ?_
  refine g_iconst (p0 := 35) (v := nI 2) dX10_corrections_34 rfl rfl ?_
  first | ((with_reducible refine isN2 ?_); refine g_iremN (p0 := 36) dX10_corrections_35 (by omega) (by omega) (by omega) rfl ?_) | refine g_irem (p0 := 36) dX10_corrections_35 (by decide) rfl ?_
  first | ((with_reducible refine isN1 ?_); refine g_ifN_ne (tgt := 43) (p1 := 39) dX10_corrections_36 rfl (by omega) rfl (fun c_36 => ?_) (fun c_36 => by exfalso; first | omega | contradiction | exact hw c_36 | exact c_36 hw)) | refine g_if_ne (tgt := 43) (p1 := 39) dX10_corrections_36 rfl rfl (fun c_36 => ?_) (fun c_36 => by exfalso; first | omega | contradiction | exact hw c_36 | exact c_36 hw)
  refine g_iconst (p0 := 44) (v := -1) dX10_corrections_43 rfl rfl ?_
  refine g_istore (p0 := 46) (i := 6) (ls2 := [_, _, _, _, _, _, _, _, _]) dX10_corrections_44 (Nat.le_of_ble_eq_true rfl) rfl rfl ?_
  refine g_aload_n (p0 := 47) (i := 0) dX10_corrections_46 rfl rfl rfl ?_
  refine g_getR (p0 := 50) dX10_corrections_47 fX10_40 (by first | rfl | assumption | exact RW.s (by assumption) | exact TW.s (by assumption)) rfl rfl ?_
  refine g_iload (p0 := 52) dX10_corrections_50 rfl rfl ?_
  first | ((with_reducible refine isN1 ?_); refine g_aldN (p0 := 53) dX10_corrections_52 (by first | rfl | assumption | exact RW.s (by assumption) | exact TW.s (by assumption)) (by first | decide | assumption) (by omega) (by first | assumption | ((repeat (first | exact up_hit | refine up_nv (by decide) ?_ | refine up_mv (by first | decide | omega) ?_)) <;> first | assumption | rfl)) rfl ?_) | refine g_ald (p0 := 53) dX10_corrections_52 (by first | rfl | assumption | exact RW.s (by assumption) | exact TW.s (by assumption)) (by assumption) (by first | assumption | ((repeat (first | exact up_hit | refine up_nv (by decide) ?_ | refine up_mv (by first | decide | omega) ?_)) <;> first | assumption | rfl)) rfl ?_
  refine g_iload (p0 := 55) dX10_corrections_53 rfl rfl ?_
  refine g_iconst (p0 := 56) (v := nI 2) dX10_corrections_55 rfl rfl ?_
  first | ((with_reducible refine isN2 ?_); refine g_icmpN_ge (tgt := 64) (p1 := 59) dX10_corrections_56 rfl (by omega) (by omega) rfl (fun c_56 => by exfalso; first | omega | contradiction | exact hw c_56 | exact c_56 hw) (fun c_56 => ?_)) | refine g_icmp_ge (tgt := 64) (p1 := 59) dX10_corrections_56 rfl rfl (fun c_56 => by exfalso; first | omega | contradiction | exact hw c_56 | exact c_56 hw) (fun c_56 => ?_)
  refine g_iload (p0 := 61) dX10_corrections_59 rfl rfl ?_
  refine g_goto (tgt := 65) dX10_corrections_61 rfl ?_
  first | ((with_reducible refine isN2 ?_); refine g_iaddN (p0 := 66) dX10_corrections_65 rfl ?_) | refine g_iadd (p0 := 66) dX10_corrections_65 rfl ?_
  refine g_istore (p0 := 68) (i := 7) (ls2 := [_, _, _, _, _, _, _, _, _]) dX10_corrections_66 (Nat.le_of_ble_eq_true rfl) rfl rfl ?_
  refine g_aload_n (p0 := 69) (i := 0) dX10_corrections_68 rfl rfl rfl ?_
  refine g_getR (p0 := 72) dX10_corrections_69 fX10_43 (by first | rfl | assumption | exact RW.s (by assumption) | exact TW.s (by assumption)) rfl rfl ?_
  refine g_iload (p0 := 74) dX10_corrections_72 rfl rfl ?_
  first | ((with_reducible refine isN1 ?_); refine g_aldN (p0 := 75) dX10_corrections_74 (by first | rfl | assumption | exact RW.s (by assumption) | exact TW.s (by assumption)) (by first | decide | assumption) (by omega) (by first | assumption | ((repeat (first | exact up_hit | refine up_nv (by decide) ?_ | refine up_mv (by first | decide | omega) ?_)) <;> first | assumption | rfl)) rfl ?_) | refine g_ald (p0 := 75) dX10_corrections_74 (by first | rfl | assumption | exact RW.s (by assumption) | exact TW.s (by assumption)) (by assumption) (by first | assumption | ((repeat (first | exact up_hit | refine up_nv (by decide) ?_ | refine up_mv (by first | decide | omega) ?_)) <;> first | assumption | rfl)) rfl ?_
  refine g_iload (p0 := 77) dX10_corrections_75 rfl rfl ?_
  refine g_iconst (p0 := 78) (v := nI 2) dX10_corrections_77 rfl rfl ?_
  first | ((with_reducible refine isN2 ?_); refine g_icmpN_ge (tgt := 85) (p1 := 81) dX10_corrections_78 rfl (by omega) (by omega) rfl (fun c_78 => by exfalso; first | omega | contradiction | exact hw c_78 | exact c_78 hw) (fun c_78 => ?_)) | refine g_icmp_ge (tgt := 85) (p1 := 81) dX10_corrections_78 rfl rfl (fun c_78 => by exfalso; first | omega | contradiction | exact hw c_78 | exact c_78 hw) (fun c_78 => ?_)
  refine g_iconst (p0 := 82) (v := nI 0) dX10_corrections_81 rfl rfl ?_
  refine g_goto (tgt := 87) dX10_corrections_82 rfl ?_
  first | ((with_reducible refine isN2 ?_); refine g_iaddN (p0 := 88) dX10_corrections_87 rfl ?_) | refine g_iadd (p0 := 88) dX10_corrections_87 rfl ?_
  refine g_istore (p0 := 90) (i := 8) (ls2 := [_, _, _, _, _, _, _, _, _]) dX10_corrections_88 (Nat.le_of_ble_eq_true rfl) rfl rfl ?_
  refine g_aload_n (p0 := 91) (i := 0) dX10_corrections_90 rfl rfl rfl ?_
  refine g_getR (p0 := 94) dX10_corrections_91 fX10_37 (by first | rfl | assumption | exact RW.s (by assumption) | exact TW.s (by assumption)) rfl rfl ?_
  refine g_iload (p0 := 96) dX10_corrections_94 rfl rfl ?_
  first | ((with_reducible refine isN1 ?_); refine g_aldN (p0 := 97) dX10_corrections_96 (by first | rfl | assumption | exact RW.s (by assumption) | exact TW.s (by assumption)) (by first | decide | assumption) (by omega) (by first | assumption | ((repeat (first | exact up_hit | refine up_nv (by decide) ?_ | refine up_mv (by first | decide | omega) ?_)) <;> first | assumption | rfl)) rfl ?_) | refine g_ald (p0 := 97) dX10_corrections_96 (by first | rfl | assumption | exact RW.s (by assumption) | exact TW.s (by assumption)) (by assumption) (by first | assumption | ((repeat (first | exact up_hit | refine up_nv (by decide) ?_ | refine up_mv (by first | decide | omega) ?_)) <;> first | assumption | rfl)) rfl ?_
  refine g_iconst (p0 := 98) (v := nI 2) dX10_corrections_97 rfl rfl ?_
  first | ((with_reducible refine isN2 ?_); refine g_icmpN_ne (tgt := 188) (p1 := 101) dX10_corrections_98 rfl (by omega) (by omega) rfl (fun c_98 => ?_) (fun c_98 => by exfalso; first | omega | contradiction | exact hw c_98 | exact c_98 hw)) | refine g_icmp_ne (tgt := 188) (p1 := 101) dX10_corrections_98 rfl rfl (fun c_98 => ?_) (fun c_98 => by exfalso; first | omega | contradiction | exact hw c_98 | exact c_98 hw)
  first | refine g_iinc1 (p0 := 191) (ls2 := [_, _, _, _, _, _, _, _, _]) dX10_corrections_188 rfl rfl rfl ?_ | refine g_iinc (p0 := 191) (ls2 := [_, _, _, _, _, _, _, _, _]) dX10_corrections_188 rfl rfl rfl rfl ?_
  refine g_goto (tgt := 26) dX10_corrections_191 rfl ?_
  exact next _ _ _
set_option maxRecDepth 20000 in
set_option maxHeartbeats 2000000 in
theorem rk1_B {m l g a b cn : Nat} {w : Int32} {x6 x7 x8 : Option AV} {σ : Sg} {Q : SP} (hm : m < 160) (hl : l < 160) (hg : σ 89 l = nI g) (ha : σ 90 l = nI a) (hb : σ 91 l = nI b) (hg1 : g < 500) (ha1 : a < 500) (hb1 : b < 500) (hg2 : g = 2) (hp : 1 ≤ a) (hag : CM mX10_areGood [ai (nI (a - 1)), ai (nI (b + 0))] σ (Ret (nI 0) σ)) (next : ∀ x6 x7 x8, WM mX10_corrections Q 26 [some (ar 79), some (ai (nI m)), some (ai w), some (ai (nI (cn))), some (ai (nI (l))), some (ai (nI (2))), x6, x7, x8] [] (σ)) : WM mX10_corrections Q 26 [some (ar 79), some (ai (nI m)), some (ai w), some (ai (nI (cn))), some (ai (nI (l))), some (ai (nI (1))), x6, x7, x8] [] σ := by
  refine g_iload (p0 := 28) dX10_corrections_26 rfl rfl ?_
  refine g_iconst (p0 := 29) (v := nI 4) dX10_corrections_28 rfl rfl ?_
  first | ((with_reducible refine isN2 ?_); refine g_icmpN_ge (tgt := 194) (p1 := 32) dX10_corrections_29 rfl (by omega) (by omega) rfl (fun c_29 => by exfalso; first | omega | contradiction | exact hw c_29 | exact c_29 hw) (fun c_29 => ?_)) | refine g_icmp_ge (tgt := 194) (p1 := 32) dX10_corrections_29 rfl rfl (fun c_29 => by exfalso; first | omega | contradiction | exact hw c_29 | exact c_29 hw) (fun c_29 => ?_)
  refine g_iload (p0 := 34) dX10_corrections_32 rfl rfl ?_
  refine g_iconst (p0 := 35) (v := nI 2) dX10_corrections_34 rfl rfl ?_
  first | ((with_reducible refine isN2 ?_); refine g_iremN (p0 := 36) dX10_corrections_35 (by omega) (by omega) (by omega) rfl ?_) | refine g_irem (p0 := 36) dX10_corrections_35 (by decide) rfl ?_
  first | ((with_reducible refine isN1 ?_); refine g_ifN_ne (tgt := 43) (p1 := 39) dX10_corrections_36 rfl (by omega) rfl (fun c_36 => ?_) (fun c_36 => by exfalso; first | omega | contradiction | exact hw c_36 | exact c_36 hw)) | refine g_if_ne (tgt := 43) (p1 := 39) dX10_corrections_36 rfl rfl (fun c_36 => ?_) (fun c_36 => by exfalso; first | omega | contradiction | exact hw c_36 | exact c_36 hw)
  refine g_iconst (p0 := 44) (v := -1) dX10_corrections_43 rfl rfl ?_
  refine g_istore (p0 := 46) (i := 6) (ls2 := [_, _, _, _, _, _, _, _, _]) dX10_corrections_44 (Nat.le_of_ble_eq_true rfl) rfl rfl ?_
  refine g_aload_n (p0 := 47) (i := 0) dX10_corrections_46 rfl rfl rfl ?_
  refine g_getR (p0 := 50) dX10_corrections_47 fX10_40 (by first | rfl | assumption | exact RW.s (by assumption) | exact TW.s (by assumption)) rfl rfl ?_
  refine g_iload (p0 := 52) dX10_corrections_50 rfl rfl ?_
  first | ((with_reducible refine isN1 ?_); refine g_aldN (p0 := 53) dX10_corrections_52 (by first | rfl | assumption | exact RW.s (by assumption) | exact TW.s (by assumption)) (by first | decide | assumption) (by omega) (by first | assumption | ((repeat (first | exact up_hit | refine up_nv (by decide) ?_ | refine up_mv (by first | decide | omega) ?_)) <;> first | assumption | rfl)) rfl ?_) | refine g_ald (p0 := 53) dX10_corrections_52 (by first | rfl | assumption | exact RW.s (by assumption) | exact TW.s (by assumption)) (by assumption) (by first | assumption | ((repeat (first | exact up_hit | refine up_nv (by decide) ?_ | refine up_mv (by first | decide | omega) ?_)) <;> first | assumption | rfl)) rfl ?_
  refine g_iload (p0 := 55) dX10_corrections_53 rfl rfl ?_
  refine g_iconst (p0 := 56) (v := nI 2) dX10_corrections_55 rfl rfl ?_
  first | ((with_reducible refine isN2 ?_); refine g_icmpN_ge (tgt := 64) (p1 := 59) dX10_corrections_56 rfl (by omega) (by omega) rfl (fun c_56 => by exfalso; first | omega | contradiction | exact hw c_56 | exact c_56 hw) (fun c_56 => ?_)) | refine g_icmp_ge (tgt := 64) (p1 := 59) dX10_corrections_56 rfl rfl (fun c_56 => by exfalso; first | omega | contradiction | exact hw c_56 | exact c_56 hw) (fun c_56 => ?_)
  refine g_iload (p0 := 61) dX10_corrections_59 rfl rfl ?_
  refine g_goto (tgt := 65) dX10_corrections_61 rfl ?_
  first | ((with_reducible refine isN2 ?_); refine g_iaddN (p0 := 66) dX10_corrections_65 rfl ?_) | refine g_iadd (p0 := 66) dX10_corrections_65 rfl ?_
  rw [nI_m1 hp]
  refine g_istore (p0 := 68) (i := 7) (ls2 := [_, _, _, _, _, _, _, _, _]) dX10_corrections_66 (Nat.le_of_ble_eq_true rfl) rfl rfl ?_
  refine g_aload_n (p0 := 69) (i := 0) dX10_corrections_68 rfl rfl rfl ?_
  refine g_getR (p0 := 72) dX10_corrections_69 fX10_43 (by first | rfl | assumption | exact RW.s (by assumption) | exact TW.s (by assumption)) rfl rfl ?_
  refine g_iload (p0 := 74) dX10_corrections_72 rfl rfl ?_
  first | ((with_reducible refine isN1 ?_); refine g_aldN (p0 := 75) dX10_corrections_74 (by first | rfl | assumption | exact RW.s (by assumption) | exact TW.s (by assumption)) (by first | decide | assumption) (by omega) (by first | assumption | ((repeat (first | exact up_hit | refine up_nv (by decide) ?_ | refine up_mv (by first | decide | omega) ?_)) <;> first | assumption | rfl)) rfl ?_) | refine g_ald (p0 := 75) dX10_corrections_74 (by first | rfl | assumption | exact RW.s (by assumption) | exact TW.s (by assumption)) (by assumption) (by first | assumption | ((repeat (first | exact up_hit | refine up_nv (by decide) ?_ | refine up_mv (by first | decide | omega) ?_)) <;> first | assumption | rfl)) rfl ?_
  refine g_iload (p0 := 77) dX10_corrections_75 rfl rfl ?_
  refine g_iconst (p0 := 78) (v := nI 2) dX10_corrections_77 rfl rfl ?_
  first | ((with_reducible refine isN2 ?_); refine g_icmpN_ge (tgt := 85) (p1 := 81) dX10_corrections_78 rfl (by omega) (by omega) rfl (fun c_78 => by exfalso; first | omega | contradiction | exact hw c_78 | exact c_78 hw) (fun c_78 => ?_)) | refine g_icmp_ge (tgt := 85) (p1 := 81) dX10_corrections_78 rfl rfl (fun c_78 => by exfalso; first | omega | contradiction | exact hw c_78 | exact c_78 hw) (fun c_78 => ?_)
  refine g_iconst (p0 := 82) (v := nI 0) dX10_corrections_81 rfl rfl ?_
  refine g_goto (tgt := 87) dX10_corrections_82 rfl ?_
  first | ((with_reducible refine isN2 ?_); refine g_iaddN (p0 := 88) dX10_corrections_87 rfl ?_) | refine g_iadd (p0 := 88) dX10_corrections_87 rfl ?_
  refine g_istore (p0 := 90) (i := 8) (ls2 := [_, _, _, _, _, _, _, _, _]) dX10_corrections_88 (Nat.le_of_ble_eq_true rfl) rfl rfl ?_
  refine g_aload_n (p0 := 91) (i := 0) dX10_corrections_90 rfl rfl rfl ?_
  refine g_getR (p0 := 94) dX10_corrections_91 fX10_37 (by first | rfl | assumption | exact RW.s (by assumption) | exact TW.s (by assumption)) rfl rfl ?_
  refine g_iload (p0 := 96) dX10_corrections_94 rfl rfl ?_
  first | ((with_reducible refine isN1 ?_); refine g_aldN (p0 := 97) dX10_corrections_96 (by first | rfl | assumption | exact RW.s (by assumption) | exact TW.s (by assumption)) (by first | decide | assumption) (by omega) (by first | assumption | ((repeat (first | exact up_hit | refine up_nv (by decide) ?_ | refine up_mv (by first | decide | omega) ?_)) <;> first | assumption | rfl)) rfl ?_) | refine g_ald (p0 := 97) dX10_corrections_96 (by first | rfl | assumption | exact RW.s (by assumption) | exact TW.s (by assumption)) (by assumption) (by first | assumption | ((repeat (first | exact up_hit | refine up_nv (by decide) ?_ | refine up_mv (by first | decide | omega) ?_)) <;> first | assumption | rfl)) rfl ?_
  refine g_iconst (p0 := 98) (v := nI 2) dX10_corrections_97 rfl rfl ?_
  first | ((with_reducible refine isN2 ?_); refine g_icmpN_ne (tgt := 188) (p1 := 101) dX10_corrections_98 rfl (by omega) (by omega) rfl (fun c_98 => by exfalso; first | omega | contradiction | exact hw c_98 | exact c_98 hw) (fun c_98 => ?_)) | refine g_icmp_ne (tgt := 188) (p1 := 101) dX10_corrections_98 rfl rfl (fun c_98 => by exfalso; first | omega | contradiction | exact hw c_98 | exact c_98 hw) (fun c_98 => ?_)
  refine g_iload (p0 := 103) dX10_corrections_101 rfl rfl ?_
  refine g_iload (p0 := 105) dX10_corrections_103 rfl rfl ?_
  refine g_cS2R (p0 := 108) (r1 := mX10_areGood) dX10_corrections_105 (Or.inl lX10_134) vX10_areGood (FITi rfl rfl) (Nat.le_of_ble_eq_true rfl) (hag) rfl ?_
  first | ((with_reducible refine isN1 ?_); refine g_ifN_eq (tgt := 188) (p1 := 111) dX10_corrections_108 rfl (by omega) rfl (fun c_108 => ?_) (fun c_108 => by exfalso; first | omega | contradiction | exact hw c_108 | exact c_108 hw)) | refine g_if_eq (tgt := 188) (p1 := 111) dX10_corrections_108 rfl rfl (fun c_108 => ?_) (fun c_108 => by exfalso; first | omega | contradiction | exact hw c_108 | exact c_108 hw)
  first | refine g_iinc1 (p0 := 191) (ls2 := [_, _, _, _, _, _, _, _, _]) dX10_corrections_188 rfl rfl rfl ?_ | refine g_iinc (p0 := 191) (ls2 := [_, _, _, _, _, _, _, _, _]) dX10_corrections_188 rfl rfl rfl rfl ?_
  refine g_goto (tgt := 26) dX10_corrections_191 rfl ?_
  exact next _ _ _
set_option maxRecDepth 20000 in
set_option maxHeartbeats 2000000 in
theorem rk1_C {m l g a b cn : Nat} {w y : Int32} {x6 x7 x8 : Option AV} {σ : Sg} {Q : SP} (hm : m < 160) (hl : l < 160) (hg : σ 89 l = nI g) (ha : σ 90 l = nI a) (hb : σ 91 l = nI b) (hg1 : g < 500) (ha1 : a < 500) (hb1 : b < 500) (hg2 : g = 2) (hp : 1 ≤ a) (hag : CM mX10_areGood [ai (nI (a - 1)), ai (nI (b + 0))] σ (Ret (nI 1) σ)) (hla : ∀ σ1 : Sg, σ1 80 = σ 80 → CM mX10_letterAt [ar 79, ai (nI (a - 1)), ai (nI (b + 0))] σ1 (Ret y σ1)) (hrt : CM mX10_isRight [ar 79, ai (nI m), ai (nI l), ai y] σ (Ret (nI 0) σ)) (next : ∀ x6 x7 x8, WM mX10_corrections Q 26 [some (ar 79), some (ai (nI m)), some (ai w), some (ai (nI (cn))), some (ai (nI (l))), some (ai (nI (2))), x6, x7, x8] [] (σ)) : WM mX10_corrections Q 26 [some (ar 79), some (ai (nI m)), some (ai w), some (ai (nI (cn))), some (ai (nI (l))), some (ai (nI (1))), x6, x7, x8] [] σ := by
  refine g_iload (p0 := 28) dX10_corrections_26 rfl rfl ?_
  refine g_iconst (p0 := 29) (v := nI 4) dX10_corrections_28 rfl rfl ?_
  first | ((with_reducible refine isN2 ?_); refine g_icmpN_ge (tgt := 194) (p1 := 32) dX10_corrections_29 rfl (by omega) (by omega) rfl (fun c_29 => by exfalso; first | omega | contradiction | exact hw c_29 | exact c_29 hw) (fun c_29 => ?_)) | refine g_icmp_ge (tgt := 194) (p1 := 32) dX10_corrections_29 rfl rfl (fun c_29 => by exfalso; first | omega | contradiction | exact hw c_29 | exact c_29 hw) (fun c_29 => ?_)
  refine g_iload (p0 := 34) dX10_corrections_32 rfl rfl ?_
  refine g_iconst (p0 := 35) (v := nI 2) dX10_corrections_34 rfl rfl ?_
  first | ((with_reducible refine isN2 ?_); refine g_iremN (p0 := 36) dX10_corrections_35 (by omega) (by omega) (by omega) rfl ?_) | refine g_irem (p0 := 36) dX10_corrections_35 (by decide) rfl ?_
  first | ((with_reducible refine isN1 ?_); refine g_ifN_ne (tgt := 43) (p1 := 39) dX10_corrections_36 rfl (by omega) rfl (fun c_36 => ?_) (fun c_36 => by exfalso; first | omega | contradiction | exact hw c_36 | exact c_36 hw)) | refine g_if_ne (tgt := 43) (p1 := 39) dX10_corrections_36 rfl rfl (fun c_36 => ?_) (fun c_36 => by exfalso; first | omega | contradiction | exact hw c_36 | exact c_36 hw)
  refine g_iconst (p0 := 44) (v := -1) dX10_corrections_43 rfl rfl ?_
  refine g_istore (p0 := 46) (i := 6) (ls2 := [_, _, _, _, _, _, _, _, _]) dX10_corrections_44 (Nat.le_of_ble_eq_true rfl) rfl rfl ?_
  refine g_aload_n (p0 := 47) (i := 0) dX10_corrections_46 rfl rfl rfl ?_
  refine g_getR (p0 := 50) dX10_corrections_47 fX10_40 (by first | rfl | assumption | exact RW.s (by assumption) | exact TW.s (by assumption)) rfl rfl ?_
  refine g_iload (p0 := 52) dX10_corrections_50 rfl rfl ?_
  first | ((with_reducible refine isN1 ?_); refine g_aldN (p0 := 53) dX10_corrections_52 (by first | rfl | assumption | exact RW.s (by assumption) | exact TW.s (by assumption)) (by first | decide | assumption) (by omega) (by first | assumption | ((repeat (first | exact up_hit | refine up_nv (by decide) ?_ | refine up_mv (by first | decide | omega) ?_)) <;> first | assumption | rfl)) rfl ?_) | refine g_ald (p0 := 53) dX10_corrections_52 (by first | rfl | assumption | exact RW.s (by assumption) | exact TW.s (by assumption)) (by assumption) (by first | assumption | ((repeat (first | exact up_hit | refine up_nv (by decide) ?_ | refine up_mv (by first | decide | omega) ?_)) <;> first | assumption | rfl)) rfl ?_
  refine g_iload (p0 := 55) dX10_corrections_53 rfl rfl ?_
  refine g_iconst (p0 := 56) (v := nI 2) dX10_corrections_55 rfl rfl ?_
  first | ((with_reducible refine isN2 ?_); refine g_icmpN_ge (tgt := 64) (p1 := 59) dX10_corrections_56 rfl (by omega) (by omega) rfl (fun c_56 => by exfalso; first | omega | contradiction | exact hw c_56 | exact c_56 hw) (fun c_56 => ?_)) | refine g_icmp_ge (tgt := 64) (p1 := 59) dX10_corrections_56 rfl rfl (fun c_56 => by exfalso; first | omega | contradiction | exact hw c_56 | exact c_56 hw) (fun c_56 => ?_)
  refine g_iload (p0 := 61) dX10_corrections_59 rfl rfl ?_
  refine g_goto (tgt := 65) dX10_corrections_61 rfl ?_
  first | ((with_reducible refine isN2 ?_); refine g_iaddN (p0 := 66) dX10_corrections_65 rfl ?_) | refine g_iadd (p0 := 66) dX10_corrections_65 rfl ?_
  rw [nI_m1 hp]
  refine g_istore (p0 := 68) (i := 7) (ls2 := [_, _, _, _, _, _, _, _, _]) dX10_corrections_66 (Nat.le_of_ble_eq_true rfl) rfl rfl ?_
  refine g_aload_n (p0 := 69) (i := 0) dX10_corrections_68 rfl rfl rfl ?_
  refine g_getR (p0 := 72) dX10_corrections_69 fX10_43 (by first | rfl | assumption | exact RW.s (by assumption) | exact TW.s (by assumption)) rfl rfl ?_
  refine g_iload (p0 := 74) dX10_corrections_72 rfl rfl ?_
  first | ((with_reducible refine isN1 ?_); refine g_aldN (p0 := 75) dX10_corrections_74 (by first | rfl | assumption | exact RW.s (by assumption) | exact TW.s (by assumption)) (by first | decide | assumption) (by omega) (by first | assumption | ((repeat (first | exact up_hit | refine up_nv (by decide) ?_ | refine up_mv (by first | decide | omega) ?_)) <;> first | assumption | rfl)) rfl ?_) | refine g_ald (p0 := 75) dX10_corrections_74 (by first | rfl | assumption | exact RW.s (by assumption) | exact TW.s (by assumption)) (by assumption) (by first | assumption | ((repeat (first | exact up_hit | refine up_nv (by decide) ?_ | refine up_mv (by first | decide | omega) ?_)) <;> first | assumption | rfl)) rfl ?_
  refine g_iload (p0 := 77) dX10_corrections_75 rfl rfl ?_
  refine g_iconst (p0 := 78) (v := nI 2) dX10_corrections_77 rfl rfl ?_
  first | ((with_reducible refine isN2 ?_); refine g_icmpN_ge (tgt := 85) (p1 := 81) dX10_corrections_78 rfl (by omega) (by omega) rfl (fun c_78 => by exfalso; first | omega | contradiction | exact hw c_78 | exact c_78 hw) (fun c_78 => ?_)) | refine g_icmp_ge (tgt := 85) (p1 := 81) dX10_corrections_78 rfl rfl (fun c_78 => by exfalso; first | omega | contradiction | exact hw c_78 | exact c_78 hw) (fun c_78 => ?_)
  refine g_iconst (p0 := 82) (v := nI 0) dX10_corrections_81 rfl rfl ?_
  refine g_goto (tgt := 87) dX10_corrections_82 rfl ?_
  first | ((with_reducible refine isN2 ?_); refine g_iaddN (p0 := 88) dX10_corrections_87 rfl ?_) | refine g_iadd (p0 := 88) dX10_corrections_87 rfl ?_
  refine g_istore (p0 := 90) (i := 8) (ls2 := [_, _, _, _, _, _, _, _, _]) dX10_corrections_88 (Nat.le_of_ble_eq_true rfl) rfl rfl ?_
  refine g_aload_n (p0 := 91) (i := 0) dX10_corrections_90 rfl rfl rfl ?_
  refine g_getR (p0 := 94) dX10_corrections_91 fX10_37 (by first | rfl | assumption | exact RW.s (by assumption) | exact TW.s (by assumption)) rfl rfl ?_
  refine g_iload (p0 := 96) dX10_corrections_94 rfl rfl ?_
  first | ((with_reducible refine isN1 ?_); refine g_aldN (p0 := 97) dX10_corrections_96 (by first | rfl | assumption | exact RW.s (by assumption) | exact TW.s (by assumption)) (by first | decide | assumption) (by omega) (by first | assumption | ((repeat (first | exact up_hit | refine up_nv (by decide) ?_ | refine up_mv (by first | decide | omega) ?_)) <;> first | assumption | rfl)) rfl ?_) | refine g_ald (p0 := 97) dX10_corrections_96 (by first | rfl | assumption | exact RW.s (by assumption) | exact TW.s (by assumption)) (by assumption) (by first | assumption | ((repeat (first | exact up_hit | refine up_nv (by decide) ?_ | refine up_mv (by first | decide | omega) ?_)) <;> first | assumption | rfl)) rfl ?_
  refine g_iconst (p0 := 98) (v := nI 2) dX10_corrections_97 rfl rfl ?_
  first | ((with_reducible refine isN2 ?_); refine g_icmpN_ne (tgt := 188) (p1 := 101) dX10_corrections_98 rfl (by omega) (by omega) rfl (fun c_98 => by exfalso; first | omega | contradiction | exact hw c_98 | exact c_98 hw) (fun c_98 => ?_)) | refine g_icmp_ne (tgt := 188) (p1 := 101) dX10_corrections_98 rfl rfl (fun c_98 => by exfalso; first | omega | contradiction | exact hw c_98 | exact c_98 hw) (fun c_98 => ?_)
  refine g_iload (p0 := 103) dX10_corrections_101 rfl rfl ?_
  refine g_iload (p0 := 105) dX10_corrections_103 rfl rfl ?_
  refine g_cS2R (p0 := 108) (r1 := mX10_areGood) dX10_corrections_105 (Or.inl lX10_134) vX10_areGood (FITi rfl rfl) (Nat.le_of_ble_eq_true rfl) (hag) rfl ?_
  first | ((with_reducible refine isN1 ?_); refine g_ifN_eq (tgt := 188) (p1 := 111) dX10_corrections_108 rfl (by omega) rfl (fun c_108 => by exfalso; first | omega | contradiction | exact hw c_108 | exact c_108 hw) (fun c_108 => ?_)) | refine g_if_eq (tgt := 188) (p1 := 111) dX10_corrections_108 rfl rfl (fun c_108 => by exfalso; first | omega | contradiction | exact hw c_108 | exact c_108 hw) (fun c_108 => ?_)
  refine g_aload_n (p0 := 112) (i := 0) dX10_corrections_111 rfl rfl rfl ?_
  refine g_iload_n (p0 := 113) (i := 1) dX10_corrections_112 rfl rfl rfl ?_
  refine g_iload (p0 := 115) dX10_corrections_113 rfl rfl ?_
  refine g_aload_n (p0 := 116) (i := 0) dX10_corrections_115 rfl rfl rfl ?_
  refine g_iload (p0 := 118) dX10_corrections_116 rfl rfl ?_
  refine g_iload (p0 := 120) dX10_corrections_118 rfl rfl ?_
  refine g_cV2R (p0 := 123) (r1 := mX10_letterAt) dX10_corrections_120 lX10_138 vX10_letterAt (by first | rfl | assumption | exact RW.s (by assumption) | exact TW.s (by assumption)) ⟨_, _, rfl⟩ (FITi rfl rfl) (Nat.le_of_ble_eq_true rfl) (hla _ rfl) rfl ?_
  refine g_cV3R (p0 := 126) (r1 := mX10_isRight) dX10_corrections_123 lX10_155 vX10_isRight (by first | rfl | assumption | exact RW.s (by assumption) | exact TW.s (by assumption)) ⟨_, _, rfl⟩ (FITi rfl rfl) (Nat.le_of_ble_eq_true rfl) (hrt) rfl ?_
  first | ((with_reducible refine isN1 ?_); refine g_ifN_eq (tgt := 188) (p1 := 129) dX10_corrections_126 rfl (by omega) rfl (fun c_126 => ?_) (fun c_126 => by exfalso; first | omega | contradiction | exact hw c_126 | exact c_126 hw)) | refine g_if_eq (tgt := 188) (p1 := 129) dX10_corrections_126 rfl rfl (fun c_126 => ?_) (fun c_126 => by exfalso; first | omega | contradiction | exact hw c_126 | exact c_126 hw)
  first | refine g_iinc1 (p0 := 191) (ls2 := [_, _, _, _, _, _, _, _, _]) dX10_corrections_188 rfl rfl rfl ?_ | refine g_iinc (p0 := 191) (ls2 := [_, _, _, _, _, _, _, _, _]) dX10_corrections_188 rfl rfl rfl rfl ?_
  refine g_goto (tgt := 26) dX10_corrections_191 rfl ?_
  exact next _ _ _
set_option maxRecDepth 20000 in
set_option maxHeartbeats 2000000 in
theorem rk1_D {m l g a b cn : Nat} {w y : Int32} {x6 x7 x8 : Option AV} {σ : Sg} {Q : SP} (hm : m < 160) (hl : l < 160) (hg : σ 89 l = nI g) (ha : σ 90 l = nI a) (hb : σ 91 l = nI b) (hg1 : g < 500) (ha1 : a < 500) (hb1 : b < 500) (hg2 : g = 2) (hp : 1 ≤ a) (hag : CM mX10_areGood [ai (nI (a - 1)), ai (nI (b + 0))] σ (Ret (nI 1) σ)) (hla : ∀ σ1 : Sg, σ1 80 = σ 80 → CM mX10_letterAt [ar 79, ai (nI (a - 1)), ai (nI (b + 0))] σ1 (Ret y σ1)) (hrt : CM mX10_isRight [ar 79, ai (nI m), ai (nI l), ai y] σ (Ret (nI 1) σ)) (hw : ¬ nI cn = w) (next : ∀ x6 x7 x8, WM mX10_corrections Q 26 [some (ar 79), some (ai (nI m)), some (ai w), some (ai (nI (cn + 1))), some (ai (nI (l))), some (ai (nI (2))), x6, x7, x8] [] (σ)) : WM mX10_corrections Q 26 [some (ar 79), some (ai (nI m)), some (ai w), some (ai (nI (cn))), some (ai (nI (l))), some (ai (nI (1))), x6, x7, x8] [] σ := by
  refine g_iload (p0 := 28) dX10_corrections_26 rfl rfl ?_
  refine g_iconst (p0 := 29) (v := nI 4) dX10_corrections_28 rfl rfl ?_
  first | ((with_reducible refine isN2 ?_); refine g_icmpN_ge (tgt := 194) (p1 := 32) dX10_corrections_29 rfl (by omega) (by omega) rfl (fun c_29 => by exfalso; first | omega | contradiction | exact hw c_29 | exact c_29 hw) (fun c_29 => ?_)) | refine g_icmp_ge (tgt := 194) (p1 := 32) dX10_corrections_29 rfl rfl (fun c_29 => by exfalso; first | omega | contradiction | exact hw c_29 | exact c_29 hw) (fun c_29 => ?_)
  refine g_iload (p0 := 34) dX10_corrections_32 rfl rfl ?_
  refine g_iconst (p0 := 35) (v := nI 2) dX10_corrections_34 rfl rfl ?_
  first | ((with_reducible refine isN2 ?_); refine g_iremN (p0 := 36) dX10_corrections_35 (by omega) (by omega) (by omega) rfl ?_) | refine g_irem (p0 := 36) dX10_corrections_35 (by decide) rfl ?_
  first | ((with_reducible refine isN1 ?_); refine g_ifN_ne (tgt := 43) (p1 := 39) dX10_corrections_36 rfl (by omega) rfl (fun c_36 => ?_) (fun c_36 => by exfalso; first | omega | contradiction | exact hw c_36 | exact c_36 hw)) | refine g_if_ne (tgt := 43) (p1 := 39) dX10_corrections_36 rfl rfl (fun c_36 => ?_) (fun c_36 => by exfalso; first | omega | contradiction | exact hw c_36 | exact c_36 hw)
  refine g_iconst (p0 := 44) (v := -1) dX10_corrections_43 rfl rfl ?_
  refine g_istore (p0 := 46) (i := 6) (ls2 := [_, _, _, _, _, _, _, _, _]) dX10_corrections_44 (Nat.le_of_ble_eq_true rfl) rfl rfl ?_
  refine g_aload_n (p0 := 47) (i := 0) dX10_corrections_46 rfl rfl rfl ?_
  refine g_getR (p0 := 50) dX10_corrections_47 fX10_40 (by first | rfl | assumption | exact RW.s (by assumption) | exact TW.s (by assumption)) rfl rfl ?_
  refine g_iload (p0 := 52) dX10_corrections_50 rfl rfl ?_
  first | ((with_reducible refine isN1 ?_); refine g_aldN (p0 := 53) dX10_corrections_52 (by first | rfl | assumption | exact RW.s (by assumption) | exact TW.s (by assumption)) (by first | decide | assumption) (by omega) (by first | assumption | ((repeat (first | exact up_hit | refine up_nv (by decide) ?_ | refine up_mv (by first | decide | omega) ?_)) <;> first | assumption | rfl)) rfl ?_) | refine g_ald (p0 := 53) dX10_corrections_52 (by first | rfl | assumption | exact RW.s (by assumption) | exact TW.s (by assumption)) (by assumption) (by first | assumption | ((repeat (first | exact up_hit | refine up_nv (by decide) ?_ | refine up_mv (by first | decide | omega) ?_)) <;> first | assumption | rfl)) rfl ?_
  refine g_iload (p0 := 55) dX10_corrections_53 rfl rfl ?_
  refine g_iconst (p0 := 56) (v := nI 2) dX10_corrections_55 rfl rfl ?_
  first | ((with_reducible refine isN2 ?_); refine g_icmpN_ge (tgt := 64) (p1 := 59) dX10_corrections_56 rfl (by omega) (by omega) rfl (fun c_56 => by exfalso; first | omega | contradiction | exact hw c_56 | exact c_56 hw) (fun c_56 => ?_)) | refine g_icmp_ge (tgt := 64) (p1 := 59) dX10_corrections_56 rfl rfl (fun c_56 => by exfalso; first | omega | contradiction | exact hw c_56 | exact c_56 hw) (fun c_56 => ?_)
  refine g_iload (p0 := 61) dX10_corrections_59 rfl rfl ?_
  refine g_goto (tgt := 65) dX10_corrections_61 rfl ?_
  first | ((with_reducible refine isN2 ?_); refine g_iaddN (p0 := 66) dX10_corrections_65 rfl ?_) | refine g_iadd (p0 := 66) dX10_corrections_65 rfl ?_
  rw [nI_m1 hp]
  refine g_istore (p0 := 68) (i := 7) (ls2 := [_, _, _, _, _, _, _, _, _]) dX10_corrections_66 (Nat.le_of_ble_eq_true rfl) rfl rfl ?_
  refine g_aload_n (p0 := 69) (i := 0) dX10_corrections_68 rfl rfl rfl ?_
  refine g_getR (p0 := 72) dX10_corrections_69 fX10_43 (by first | rfl | assumption | exact RW.s (by assumption) | exact TW.s (by assumption)) rfl rfl ?_
  refine g_iload (p0 := 74) dX10_corrections_72 rfl rfl ?_
  first | ((with_reducible refine isN1 ?_); refine g_aldN (p0 := 75) dX10_corrections_74 (by first | rfl | assumption | exact RW.s (by assumption) | exact TW.s (by assumption)) (by first | decide | assumption) (by omega) (by first | assumption | ((repeat (first | exact up_hit | refine up_nv (by decide) ?_ | refine up_mv (by first | decide | omega) ?_)) <;> first | assumption | rfl)) rfl ?_) | refine g_ald (p0 := 75) dX10_corrections_74 (by first | rfl | assumption | exact RW.s (by assumption) | exact TW.s (by assumption)) (by assumption) (by first | assumption | ((repeat (first | exact up_hit | refine up_nv (by decide) ?_ | refine up_mv (by first | decide | omega) ?_)) <;> first | assumption | rfl)) rfl ?_
  refine g_iload (p0 := 77) dX10_corrections_75 rfl rfl ?_
  refine g_iconst (p0 := 78) (v := nI 2) dX10_corrections_77 rfl rfl ?_
  first | ((with_reducible refine isN2 ?_); refine g_icmpN_ge (tgt := 85) (p1 := 81) dX10_corrections_78 rfl (by omega) (by omega) rfl (fun c_78 => by exfalso; first | omega | contradiction | exact hw c_78 | exact c_78 hw) (fun c_78 => ?_)) | refine g_icmp_ge (tgt := 85) (p1 := 81) dX10_corrections_78 rfl rfl (fun c_78 => by exfalso; first | omega | contradiction | exact hw c_78 | exact c_78 hw) (fun c_78 => ?_)
  refine g_iconst (p0 := 82) (v := nI 0) dX10_corrections_81 rfl rfl ?_
  refine g_goto (tgt := 87) dX10_corrections_82 rfl ?_
  first | ((with_reducible refine isN2 ?_); refine g_iaddN (p0 := 88) dX10_corrections_87 rfl ?_) | refine g_iadd (p0 := 88) dX10_corrections_87 rfl ?_
  refine g_istore (p0 := 90) (i := 8) (ls2 := [_, _, _, _, _, _, _, _, _]) dX10_corrections_88 (Nat.le_of_ble_eq_true rfl) rfl rfl ?_
  refine g_aload_n (p0 := 91) (i := 0) dX10_corrections_90 rfl rfl rfl ?_
  refine g_getR (p0 := 94) dX10_corrections_91 fX10_37 (by first | rfl | assumption | exact RW.s (by assumption) | exact TW.s (by assumption)) rfl rfl ?_
  refine g_iload (p0 := 96) dX10_corrections_94 rfl rfl ?_
  first | ((with_reducible refine isN1 ?_); refine g_aldN (p0 := 97) dX10_corrections_96 (by first | rfl | assumption | exact RW.s (by assumption) | exact TW.s (by assumption)) (by first | decide | assumption) (by omega) (by first | assumption | ((repeat (first | exact up_hit | refine up_nv (by decide) ?_ | refine up_mv (by first | decide | omega) ?_)) <;> first | assumption | rfl)) rfl ?_) | refine g_ald (p0 := 97) dX10_corrections_96 (by first | rfl | assumption | exact RW.s (by assumption) | exact TW.s (by assumption)) (by assumption) (by first | assumption | ((repeat (first | exact up_hit | refine up_nv (by decide) ?_ | refine up_mv (by first | decide | omega) ?_)) <;> first | assumption | rfl)) rfl ?_
  refine g_iconst (p0 := 98) (v := nI 2) dX10_corrections_97 rfl rfl ?_
  first | ((with_reducible refine isN2 ?_); refine g_icmpN_ne (tgt := 188) (p1 := 101) dX10_corrections_98 rfl (by omega) (by omega) rfl (fun c_98 => by exfalso; first | omega | contradiction | exact hw c_98 | exact c_98 hw) (fun c_98 => ?_)) | refine g_icmp_ne (tgt := 188) (p1 := 101) dX10_corrections_98 rfl rfl (fun c_98 => by exfalso; first | omega | contradiction | exact hw c_98 | exact c_98 hw) (fun c_98 => ?_)
  refine g_iload (p0 := 103) dX10_corrections_101 rfl rfl ?_
  refine g_iload (p0 := 105) dX10_corrections_103 rfl rfl ?_
  refine g_cS2R (p0 := 108) (r1 := mX10_areGood) dX10_corrections_105 (Or.inl lX10_134) vX10_areGood (FITi rfl rfl) (Nat.le_of_ble_eq_true rfl) (hag) rfl ?_
  first | ((with_reducible refine isN1 ?_); refine g_ifN_eq (tgt := 188) (p1 := 111) dX10_corrections_108 rfl (by omega) rfl (fun c_108 => by exfalso; first | omega | contradiction | exact hw c_108 | exact c_108 hw) (fun c_108 => ?_)) | refine g_if_eq (tgt := 188) (p1 := 111) dX10_corrections_108 rfl rfl (fun c_108 => by exfalso; first | omega | contradiction | exact hw c_108 | exact c_108 hw) (fun c_108 => ?_)
  refine g_aload_n (p0 := 112) (i := 0) dX10_corrections_111 rfl rfl rfl ?_
  refine g_iload_n (p0 := 113) (i := 1) dX10_corrections_112 rfl rfl rfl ?_
  refine g_iload (p0 := 115) dX10_corrections_113 rfl rfl ?_
  refine g_aload_n (p0 := 116) (i := 0) dX10_corrections_115 rfl rfl rfl ?_
  refine g_iload (p0 := 118) dX10_corrections_116 rfl rfl ?_
  refine g_iload (p0 := 120) dX10_corrections_118 rfl rfl ?_
  refine g_cV2R (p0 := 123) (r1 := mX10_letterAt) dX10_corrections_120 lX10_138 vX10_letterAt (by first | rfl | assumption | exact RW.s (by assumption) | exact TW.s (by assumption)) ⟨_, _, rfl⟩ (FITi rfl rfl) (Nat.le_of_ble_eq_true rfl) (hla _ rfl) rfl ?_
  refine g_cV3R (p0 := 126) (r1 := mX10_isRight) dX10_corrections_123 lX10_155 vX10_isRight (by first | rfl | assumption | exact RW.s (by assumption) | exact TW.s (by assumption)) ⟨_, _, rfl⟩ (FITi rfl rfl) (Nat.le_of_ble_eq_true rfl) (hrt) rfl ?_
  first | ((with_reducible refine isN1 ?_); refine g_ifN_eq (tgt := 188) (p1 := 129) dX10_corrections_126 rfl (by omega) rfl (fun c_126 => by exfalso; first | omega | contradiction | exact hw c_126 | exact c_126 hw) (fun c_126 => ?_)) | refine g_if_eq (tgt := 188) (p1 := 129) dX10_corrections_126 rfl rfl (fun c_126 => by exfalso; first | omega | contradiction | exact hw c_126 | exact c_126 hw) (fun c_126 => ?_)
  refine g_iload_n (p0 := 130) (i := 3) dX10_corrections_129 rfl rfl rfl ?_
  refine g_iload_n (p0 := 131) (i := 2) dX10_corrections_130 rfl rfl rfl ?_
  first | ((with_reducible refine isN2 ?_); refine g_icmpN_ne (tgt := 185) (p1 := 134) dX10_corrections_131 rfl (by omega) (by omega) rfl (fun c_131 => ?_) (fun c_131 => by exfalso; first | omega | contradiction | exact hw c_131 | exact c_131 hw)) | refine g_icmp_ne (tgt := 185) (p1 := 134) dX10_corrections_131 rfl rfl (fun c_131 => ?_) (fun c_131 => by exfalso; first | omega | contradiction | exact hw c_131 | exact c_131 hw)
  first | refine g_iinc1 (p0 := 188) (ls2 := [_, _, _, _, _, _, _, _, _]) dX10_corrections_185 rfl rfl rfl ?_ | refine g_iinc (p0 := 188) (ls2 := [_, _, _, _, _, _, _, _, _]) dX10_corrections_185 rfl rfl rfl rfl ?_
  first | refine g_iinc1 (p0 := 191) (ls2 := [_, _, _, _, _, _, _, _, _]) dX10_corrections_188 rfl rfl rfl ?_ | refine g_iinc (p0 := 191) (ls2 := [_, _, _, _, _, _, _, _, _]) dX10_corrections_188 rfl rfl rfl rfl ?_
  refine g_goto (tgt := 26) dX10_corrections_191 rfl ?_
  exact next _ _ _
set_option maxRecDepth 20000 in
set_option maxHeartbeats 2000000 in
theorem rk1_E {m l f g a b cn : Nat} {w y : Int32} {x6 x7 x8 : Option AV} {σ : Sg} {Q : SP} (hm : m < 160) (hl : l < 160) (hg : σ 89 l = nI g) (ha : σ 90 l = nI a) (hb : σ 91 l = nI b) (hg1 : g < 500) (ha1 : a < 500) (hb1 : b < 500) (hg2 : g = 2) (hp : 1 ≤ a) (hag : CM mX10_areGood [ai (nI (a - 1)), ai (nI (b + 0))] σ (Ret (nI 1) σ)) (hla : ∀ σ1 : Sg, σ1 80 = σ 80 → CM mX10_letterAt [ar 79, ai (nI (a - 1)), ai (nI (b + 0))] σ1 (Ret y σ1)) (hrt : CM mX10_isRight [ar 79, ai (nI m), ai (nI l), ai y] σ (Ret (nI 1) σ)) (hw : nI cn = w) (hf : σ 92 m = nI f) (hfl : f ≤ l) (next : ∀ x6 x7 x8, WM mX10_corrections Q 26 [some (ar 79), some (ai (nI m)), some (ai w), some (ai (nI (cn + 1))), some (ai (nI (l))), some (ai (nI (2))), x6, x7, x8] [] (up (up (up (up σ 96 0 (nI (l - f))) 96 1 (nI (1 / 2))) 96 2 (nI (1 - 1 % 2))) 96 3 y)) : WM mX10_corrections Q 26 [some (ar 79), some (ai (nI m)), some (ai w), some (ai (nI (cn))), some (ai (nI (l))), some (ai (nI (1))), x6, x7, x8] [] σ := by
  refine g_iload (p0 := 28) dX10_corrections_26 rfl rfl ?_
  refine g_iconst (p0 := 29) (v := nI 4) dX10_corrections_28 rfl rfl ?_
  first | ((with_reducible refine isN2 ?_); refine g_icmpN_ge (tgt := 194) (p1 := 32) dX10_corrections_29 rfl (by omega) (by omega) rfl (fun c_29 => by exfalso; first | omega | contradiction | exact hw c_29 | exact c_29 hw) (fun c_29 => ?_)) | refine g_icmp_ge (tgt := 194) (p1 := 32) dX10_corrections_29 rfl rfl (fun c_29 => by exfalso; first | omega | contradiction | exact hw c_29 | exact c_29 hw) (fun c_29 => ?_)
  refine g_iload (p0 := 34) dX10_corrections_32 rfl rfl ?_
  refine g_iconst (p0 := 35) (v := nI 2) dX10_corrections_34 rfl rfl ?_
  first | ((with_reducible refine isN2 ?_); refine g_iremN (p0 := 36) dX10_corrections_35 (by omega) (by omega) (by omega) rfl ?_) | refine g_irem (p0 := 36) dX10_corrections_35 (by decide) rfl ?_
  first | ((with_reducible refine isN1 ?_); refine g_ifN_ne (tgt := 43) (p1 := 39) dX10_corrections_36 rfl (by omega) rfl (fun c_36 => ?_) (fun c_36 => by exfalso; first | omega | contradiction | exact hw c_36 | exact c_36 hw)) | refine g_if_ne (tgt := 43) (p1 := 39) dX10_corrections_36 rfl rfl (fun c_36 => ?_) (fun c_36 => by exfalso; first | omega | contradiction | exact hw c_36 | exact c_36 hw)
  refine g_iconst (p0 := 44) (v := -1) dX10_corrections_43 rfl rfl ?_
  refine g_istore (p0 := 46) (i := 6) (ls2 := [_, _, _, _, _, _, _, _, _]) dX10_corrections_44 (Nat.le_of_ble_eq_true rfl) rfl rfl ?_
  refine g_aload_n (p0 := 47) (i := 0) dX10_corrections_46 rfl rfl rfl ?_
  refine g_getR (p0 := 50) dX10_corrections_47 fX10_40 (by first | rfl | assumption | exact RW.s (by assumption) | exact TW.s (by assumption)) rfl rfl ?_
  refine g_iload (p0 := 52) dX10_corrections_50 rfl rfl ?_
  first | ((with_reducible refine isN1 ?_); refine g_aldN (p0 := 53) dX10_corrections_52 (by first | rfl | assumption | exact RW.s (by assumption) | exact TW.s (by assumption)) (by first | decide | assumption) (by omega) (by first | assumption | ((repeat (first | exact up_hit | refine up_nv (by decide) ?_ | refine up_mv (by first | decide | omega) ?_)) <;> first | assumption | rfl)) rfl ?_) | refine g_ald (p0 := 53) dX10_corrections_52 (by first | rfl | assumption | exact RW.s (by assumption) | exact TW.s (by assumption)) (by assumption) (by first | assumption | ((repeat (first | exact up_hit | refine up_nv (by decide) ?_ | refine up_mv (by first | decide | omega) ?_)) <;> first | assumption | rfl)) rfl ?_
  refine g_iload (p0 := 55) dX10_corrections_53 rfl rfl ?_
  refine g_iconst (p0 := 56) (v := nI 2) dX10_corrections_55 rfl rfl ?_
  first | ((with_reducible refine isN2 ?_); refine g_icmpN_ge (tgt := 64) (p1 := 59) dX10_corrections_56 rfl (by omega) (by omega) rfl (fun c_56 => by exfalso; first | omega | contradiction | exact hw c_56 | exact c_56 hw) (fun c_56 => ?_)) | refine g_icmp_ge (tgt := 64) (p1 := 59) dX10_corrections_56 rfl rfl (fun c_56 => by exfalso; first | omega | contradiction | exact hw c_56 | exact c_56 hw) (fun c_56 => ?_)
  refine g_iload (p0 := 61) dX10_corrections_59 rfl rfl ?_
  refine g_goto (tgt := 65) dX10_corrections_61 rfl ?_
  first | ((with_reducible refine isN2 ?_); refine g_iaddN (p0 := 66) dX10_corrections_65 rfl ?_) | refine g_iadd (p0 := 66) dX10_corrections_65 rfl ?_
  rw [nI_m1 hp]
  refine g_istore (p0 := 68) (i := 7) (ls2 := [_, _, _, _, _, _, _, _, _]) dX10_corrections_66 (Nat.le_of_ble_eq_true rfl) rfl rfl ?_
  refine g_aload_n (p0 := 69) (i := 0) dX10_corrections_68 rfl rfl rfl ?_
  refine g_getR (p0 := 72) dX10_corrections_69 fX10_43 (by first | rfl | assumption | exact RW.s (by assumption) | exact TW.s (by assumption)) rfl rfl ?_
  refine g_iload (p0 := 74) dX10_corrections_72 rfl rfl ?_
  first | ((with_reducible refine isN1 ?_); refine g_aldN (p0 := 75) dX10_corrections_74 (by first | rfl | assumption | exact RW.s (by assumption) | exact TW.s (by assumption)) (by first | decide | assumption) (by omega) (by first | assumption | ((repeat (first | exact up_hit | refine up_nv (by decide) ?_ | refine up_mv (by first | decide | omega) ?_)) <;> first | assumption | rfl)) rfl ?_) | refine g_ald (p0 := 75) dX10_corrections_74 (by first | rfl | assumption | exact RW.s (by assumption) | exact TW.s (by assumption)) (by assumption) (by first | assumption | ((repeat (first | exact up_hit | refine up_nv (by decide) ?_ | refine up_mv (by first | decide | omega) ?_)) <;> first | assumption | rfl)) rfl ?_
  refine g_iload (p0 := 77) dX10_corrections_75 rfl rfl ?_
  refine g_iconst (p0 := 78) (v := nI 2) dX10_corrections_77 rfl rfl ?_
  first | ((with_reducible refine isN2 ?_); refine g_icmpN_ge (tgt := 85) (p1 := 81) dX10_corrections_78 rfl (by omega) (by omega) rfl (fun c_78 => by exfalso; first | omega | contradiction | exact hw c_78 | exact c_78 hw) (fun c_78 => ?_)) | refine g_icmp_ge (tgt := 85) (p1 := 81) dX10_corrections_78 rfl rfl (fun c_78 => by exfalso; first | omega | contradiction | exact hw c_78 | exact c_78 hw) (fun c_78 => ?_)
  refine g_iconst (p0 := 82) (v := nI 0) dX10_corrections_81 rfl rfl ?_
  refine g_goto (tgt := 87) dX10_corrections_82 rfl ?_
  first | ((with_reducible refine isN2 ?_); refine g_iaddN (p0 := 88) dX10_corrections_87 rfl ?_) | refine g_iadd (p0 := 88) dX10_corrections_87 rfl ?_
  refine g_istore (p0 := 90) (i := 8) (ls2 := [_, _, _, _, _, _, _, _, _]) dX10_corrections_88 (Nat.le_of_ble_eq_true rfl) rfl rfl ?_
  refine g_aload_n (p0 := 91) (i := 0) dX10_corrections_90 rfl rfl rfl ?_
  refine g_getR (p0 := 94) dX10_corrections_91 fX10_37 (by first | rfl | assumption | exact RW.s (by assumption) | exact TW.s (by assumption)) rfl rfl ?_
  refine g_iload (p0 := 96) dX10_corrections_94 rfl rfl ?_
  first | ((with_reducible refine isN1 ?_); refine g_aldN (p0 := 97) dX10_corrections_96 (by first | rfl | assumption | exact RW.s (by assumption) | exact TW.s (by assumption)) (by first | decide | assumption) (by omega) (by first | assumption | ((repeat (first | exact up_hit | refine up_nv (by decide) ?_ | refine up_mv (by first | decide | omega) ?_)) <;> first | assumption | rfl)) rfl ?_) | refine g_ald (p0 := 97) dX10_corrections_96 (by first | rfl | assumption | exact RW.s (by assumption) | exact TW.s (by assumption)) (by assumption) (by first | assumption | ((repeat (first | exact up_hit | refine up_nv (by decide) ?_ | refine up_mv (by first | decide | omega) ?_)) <;> first | assumption | rfl)) rfl ?_
  refine g_iconst (p0 := 98) (v := nI 2) dX10_corrections_97 rfl rfl ?_
  first | ((with_reducible refine isN2 ?_); refine g_icmpN_ne (tgt := 188) (p1 := 101) dX10_corrections_98 rfl (by omega) (by omega) rfl (fun c_98 => by exfalso; first | omega | contradiction | exact hw c_98 | exact c_98 hw) (fun c_98 => ?_)) | refine g_icmp_ne (tgt := 188) (p1 := 101) dX10_corrections_98 rfl rfl (fun c_98 => by exfalso; first | omega | contradiction | exact hw c_98 | exact c_98 hw) (fun c_98 => ?_)
  refine g_iload (p0 := 103) dX10_corrections_101 rfl rfl ?_
  refine g_iload (p0 := 105) dX10_corrections_103 rfl rfl ?_
  refine g_cS2R (p0 := 108) (r1 := mX10_areGood) dX10_corrections_105 (Or.inl lX10_134) vX10_areGood (FITi rfl rfl) (Nat.le_of_ble_eq_true rfl) (hag) rfl ?_
  first | ((with_reducible refine isN1 ?_); refine g_ifN_eq (tgt := 188) (p1 := 111) dX10_corrections_108 rfl (by omega) rfl (fun c_108 => by exfalso; first | omega | contradiction | exact hw c_108 | exact c_108 hw) (fun c_108 => ?_)) | refine g_if_eq (tgt := 188) (p1 := 111) dX10_corrections_108 rfl rfl (fun c_108 => by exfalso; first | omega | contradiction | exact hw c_108 | exact c_108 hw) (fun c_108 => ?_)
  refine g_aload_n (p0 := 112) (i := 0) dX10_corrections_111 rfl rfl rfl ?_
  refine g_iload_n (p0 := 113) (i := 1) dX10_corrections_112 rfl rfl rfl ?_
  refine g_iload (p0 := 115) dX10_corrections_113 rfl rfl ?_
  refine g_aload_n (p0 := 116) (i := 0) dX10_corrections_115 rfl rfl rfl ?_
  refine g_iload (p0 := 118) dX10_corrections_116 rfl rfl ?_
  refine g_iload (p0 := 120) dX10_corrections_118 rfl rfl ?_
  refine g_cV2R (p0 := 123) (r1 := mX10_letterAt) dX10_corrections_120 lX10_138 vX10_letterAt (by first | rfl | assumption | exact RW.s (by assumption) | exact TW.s (by assumption)) ⟨_, _, rfl⟩ (FITi rfl rfl) (Nat.le_of_ble_eq_true rfl) (hla _ rfl) rfl ?_
  refine g_cV3R (p0 := 126) (r1 := mX10_isRight) dX10_corrections_123 lX10_155 vX10_isRight (by first | rfl | assumption | exact RW.s (by assumption) | exact TW.s (by assumption)) ⟨_, _, rfl⟩ (FITi rfl rfl) (Nat.le_of_ble_eq_true rfl) (hrt) rfl ?_
  first | ((with_reducible refine isN1 ?_); refine g_ifN_eq (tgt := 188) (p1 := 129) dX10_corrections_126 rfl (by omega) rfl (fun c_126 => by exfalso; first | omega | contradiction | exact hw c_126 | exact c_126 hw) (fun c_126 => ?_)) | refine g_if_eq (tgt := 188) (p1 := 129) dX10_corrections_126 rfl rfl (fun c_126 => by exfalso; first | omega | contradiction | exact hw c_126 | exact c_126 hw) (fun c_126 => ?_)
  refine g_iload_n (p0 := 130) (i := 3) dX10_corrections_129 rfl rfl rfl ?_
  refine g_iload_n (p0 := 131) (i := 2) dX10_corrections_130 rfl rfl rfl ?_
  first | ((with_reducible refine isN2 ?_); refine g_icmpN_ne (tgt := 185) (p1 := 134) dX10_corrections_131 rfl (by omega) (by omega) rfl (fun c_131 => by exfalso; first | omega | contradiction | exact hw c_131 | exact c_131 hw) (fun c_131 => ?_)) | refine g_icmp_ne (tgt := 185) (p1 := 134) dX10_corrections_131 rfl rfl (fun c_131 => by exfalso; first | omega | contradiction | exact hw c_131 | exact c_131 hw) (fun c_131 => ?_)
  refine g_aload_n (p0 := 135) (i := 0) dX10_corrections_134 rfl rfl rfl ?_
  refine g_getR (p0 := 138) dX10_corrections_135 fX10_58 (by first | rfl | assumption | exact RW.s (by assumption) | exact TW.s (by assumption)) rfl rfl ?_
  refine g_iconst (p0 := 139) (v := nI 0) dX10_corrections_138 rfl rfl ?_
  refine g_iload (p0 := 141) dX10_corrections_139 rfl rfl ?_
  refine g_aload_n (p0 := 142) (i := 0) dX10_corrections_141 rfl rfl rfl ?_
  refine g_getR (p0 := 145) dX10_corrections_142 fX10_46 (by first | rfl | assumption | exact RW.s (by assumption) | exact TW.s (by assumption)) rfl rfl ?_
  refine g_iload_n (p0 := 146) (i := 1) dX10_corrections_145 rfl rfl rfl ?_
  first | ((with_reducible refine isN1 ?_); refine g_aldN (p0 := 147) dX10_corrections_146 (by first | rfl | assumption | exact RW.s (by assumption) | exact TW.s (by assumption)) (by first | decide | assumption) (by omega) (by first | assumption | ((repeat (first | exact up_hit | refine up_nv (by decide) ?_ | refine up_mv (by first | decide | omega) ?_)) <;> first | assumption | rfl)) rfl ?_) | refine g_ald (p0 := 147) dX10_corrections_146 (by first | rfl | assumption | exact RW.s (by assumption) | exact TW.s (by assumption)) (by assumption) (by first | assumption | ((repeat (first | exact up_hit | refine up_nv (by decide) ?_ | refine up_mv (by first | decide | omega) ?_)) <;> first | assumption | rfl)) rfl ?_
  first | ((with_reducible refine isN2 ?_); refine g_isubN (p0 := 148) dX10_corrections_147 (by omega) rfl ?_) | refine g_isub (p0 := 148) dX10_corrections_147 rfl ?_
  first | ((with_reducible refine isNS ?_); refine g_astN (p0 := 149) dX10_corrections_148 (by first | rfl | assumption | exact RW.s (by assumption) | exact TW.s (by assumption)) (by first | decide | assumption) (by omega) rfl ?_) | refine g_ast (p0 := 149) dX10_corrections_148 (by first | rfl | assumption | exact RW.s (by assumption) | exact TW.s (by assumption)) (by assumption) rfl ?_
  refine g_aload_n (p0 := 150) (i := 0) dX10_corrections_149 rfl rfl rfl ?_
  refine g_getR (p0 := 153) dX10_corrections_150 fX10_58 (by first | rfl | assumption | exact RW.s (by assumption) | exact TW.s (by assumption)) rfl rfl ?_
  refine g_iconst (p0 := 154) (v := nI 1) dX10_corrections_153 rfl rfl ?_
  refine g_iload (p0 := 156) dX10_corrections_154 rfl rfl ?_
  refine g_iconst (p0 := 157) (v := nI 2) dX10_corrections_156 rfl rfl ?_
  first | ((with_reducible refine isN2 ?_); refine g_idivN (p0 := 158) dX10_corrections_157 (by omega) (by omega) (by omega) rfl ?_) | refine g_idiv (p0 := 158) dX10_corrections_157 (by decide) rfl ?_
  first | ((with_reducible refine isNS ?_); refine g_astN (p0 := 159) dX10_corrections_158 (by first | rfl | assumption | exact RW.s (by assumption) | exact TW.s (by assumption)) (by first | decide | assumption) (by omega) rfl ?_) | refine g_ast (p0 := 159) dX10_corrections_158 (by first | rfl | assumption | exact RW.s (by assumption) | exact TW.s (by assumption)) (by assumption) rfl ?_
  refine g_aload_n (p0 := 160) (i := 0) dX10_corrections_159 rfl rfl rfl ?_
  refine g_getR (p0 := 163) dX10_corrections_160 fX10_58 (by first | rfl | assumption | exact RW.s (by assumption) | exact TW.s (by assumption)) rfl rfl ?_
  refine g_iconst (p0 := 164) (v := nI 2) dX10_corrections_163 rfl rfl ?_
  refine g_iconst (p0 := 165) (v := nI 1) dX10_corrections_164 rfl rfl ?_
  refine g_iload (p0 := 167) dX10_corrections_165 rfl rfl ?_
  refine g_iconst (p0 := 168) (v := nI 2) dX10_corrections_167 rfl rfl ?_
  first | ((with_reducible refine isN2 ?_); refine g_iremN (p0 := 169) dX10_corrections_168 (by omega) (by omega) (by omega) rfl ?_) | refine g_irem (p0 := 169) dX10_corrections_168 (by decide) rfl ?_
  first | ((with_reducible refine isN2 ?_); refine g_isubN (p0 := 170) dX10_corrections_169 (by omega) rfl ?_) | refine g_isub (p0 := 170) dX10_corrections_169 rfl ?_
  first | ((with_reducible refine isNS ?_); refine g_astN (p0 := 171) dX10_corrections_170 (by first | rfl | assumption | exact RW.s (by assumption) | exact TW.s (by assumption)) (by first | decide | assumption) (by omega) rfl ?_) | refine g_ast (p0 := 171) dX10_corrections_170 (by first | rfl | assumption | exact RW.s (by assumption) | exact TW.s (by assumption)) (by assumption) rfl ?_
  refine g_aload_n (p0 := 172) (i := 0) dX10_corrections_171 rfl rfl rfl ?_
  refine g_getR (p0 := 175) dX10_corrections_172 fX10_58 (by first | rfl | assumption | exact RW.s (by assumption) | exact TW.s (by assumption)) rfl rfl ?_
  refine g_iconst (p0 := 176) (v := nI 3) dX10_corrections_175 rfl rfl ?_
  refine g_aload_n (p0 := 177) (i := 0) dX10_corrections_176 rfl rfl rfl ?_
  refine g_iload (p0 := 179) dX10_corrections_177 rfl rfl ?_
  refine g_iload (p0 := 181) dX10_corrections_179 rfl rfl ?_
  refine g_cV2R (p0 := 184) (r1 := mX10_letterAt) dX10_corrections_181 lX10_138 vX10_letterAt (by first | rfl | assumption | exact RW.s (by assumption) | exact TW.s (by assumption)) ⟨_, _, rfl⟩ (FITi rfl rfl) (Nat.le_of_ble_eq_true rfl) (hla _ (by rw [up_ne (by decide), up_ne (by decide), up_ne (by decide)])) rfl ?_
  first | ((with_reducible refine isNS ?_); refine g_astN (p0 := 185) dX10_corrections_184 (by first | rfl | assumption | exact RW.s (by assumption) | exact TW.s (by assumption)) (by first | decide | assumption) (by omega) rfl ?_) | refine g_ast (p0 := 185) dX10_corrections_184 (by first | rfl | assumption | exact RW.s (by assumption) | exact TW.s (by assumption)) (by assumption) rfl ?_
  first | refine g_iinc1 (p0 := 188) (ls2 := [_, _, _, _, _, _, _, _, _]) dX10_corrections_185 rfl rfl rfl ?_ | refine g_iinc (p0 := 188) (ls2 := [_, _, _, _, _, _, _, _, _]) dX10_corrections_185 rfl rfl rfl rfl ?_
  first | refine g_iinc1 (p0 := 191) (ls2 := [_, _, _, _, _, _, _, _, _]) dX10_corrections_188 rfl rfl rfl ?_ | refine g_iinc (p0 := 191) (ls2 := [_, _, _, _, _, _, _, _, _]) dX10_corrections_188 rfl rfl rfl rfl ?_
  refine g_goto (tgt := 26) dX10_corrections_191 rfl ?_
  exact next _ _ _
set_option maxRecDepth 20000 in
set_option maxHeartbeats 2000000 in
theorem rk2_A {m l g a b cn : Nat} {w : Int32} {x6 x7 x8 : Option AV} {σ : Sg} {Q : SP} (hm : m < 160) (hl : l < 160) (hg : σ 89 l = nI g) (ha : σ 90 l = nI a) (hb : σ 91 l = nI b) (hg1 : g < 500) (ha1 : a < 500) (hb1 : b < 500) (hg2 : ¬ g = 2) (next : ∀ x6 x7 x8, WM mX10_corrections Q 26 [some (ar 79), some (ai (nI m)), some (ai w), some (ai (nI (cn))), some (ai (nI (l))), some (ai (nI (3))), x6, x7, x8] [] (σ)) : WM mX10_corrections Q 26 [some (ar 79), some (ai (nI m)), some (ai w), some (ai (nI (cn))), some (ai (nI (l))), some (ai (nI (2))), x6, x7, x8] [] σ := by
  refine g_iload (p0 := 28) dX10_corrections_26 rfl rfl ?_
  refine g_iconst (p0 := 29) (v := nI 4) dX10_corrections_28 rfl rfl ?_
  first | ((with_reducible refine isN2 ?_); refine g_icmpN_ge (tgt := 194) (p1 := 32) dX10_corrections_29 rfl (by omega) (by omega) rfl (fun c_29 => by exfalso; first | omega | contradiction | exact hw c_29 | exact c_29 hw) (fun c_29 => ?_)) | refine g_icmp_ge (tgt := 194) (p1 := 32) dX10_corrections_29 rfl rfl (fun c_29 => by exfalso; first | omega | contradiction | exact hw c_29 | exact c_29 hw) (fun c_29 => ?_)
  refine g_iload (p0 := 34) dX10_corrections_32 rfl rfl ?_
  refine g_iconst (p0 := 35) (v := nI 2) dX10_corrections_34 rfl rfl ?_
  first | ((with_reducible refine isN2 ?_); refine g_iremN (p0 := 36) dX10_corrections_35 (by omega) (by omega) (by omega) rfl ?_) | refine g_irem (p0 := 36) dX10_corrections_35 (by decide) rfl ?_
  first | ((with_reducible refine isN1 ?_); refine g_ifN_ne (tgt := 43) (p1 := 39) dX10_corrections_36 rfl (by omega) rfl (fun c_36 => by exfalso; first | omega | contradiction | exact hw c_36 | exact c_36 hw) (fun c_36 => ?_)) | refine g_if_ne (tgt := 43) (p1 := 39) dX10_corrections_36 rfl rfl (fun c_36 => by exfalso; first | omega | contradiction | exact hw c_36 | exact c_36 hw) (fun c_36 => ?_)
  refine g_iconst (p0 := 40) (v := nI 1) dX10_corrections_39 rfl rfl ?_
  refine g_goto (tgt := 44) dX10_corrections_40 rfl ?_
  refine g_istore (p0 := 46) (i := 6) (ls2 := [_, _, _, _, _, _, _, _, _]) dX10_corrections_44 (Nat.le_of_ble_eq_true rfl) rfl rfl ?_
  refine g_aload_n (p0 := 47) (i := 0) dX10_corrections_46 rfl rfl rfl ?_
  refine g_getR (p0 := 50) dX10_corrections_47 fX10_40 (by first | rfl | assumption | exact RW.s (by assumption) | exact TW.s (by assumption)) rfl rfl ?_
  refine g_iload (p0 := 52) dX10_corrections_50 rfl rfl ?_
  first | ((with_reducible refine isN1 ?_); refine g_aldN (p0 := 53) dX10_corrections_52 (by first | rfl | assumption | exact RW.s (by assumption) | exact TW.s (by assumption)) (by first | decide | assumption) (by omega) (by first | assumption | ((repeat (first | exact up_hit | refine up_nv (by decide) ?_ | refine up_mv (by first | decide | omega) ?_)) <;> first | assumption | rfl)) rfl ?_) | refine g_ald (p0 := 53) dX10_corrections_52 (by first | rfl | assumption | exact RW.s (by assumption) | exact TW.s (by assumption)) (by assumption) (by first | assumption | ((repeat (first | exact up_hit | refine up_nv (by decide) ?_ | refine up_mv (by first | decide | omega) ?_)) <;> first | assumption | rfl)) rfl ?_
  refine g_iload (p0 := 55) dX10_corrections_53 rfl rfl ?_
  refine g_iconst (p0 := 56) (v := nI 2) dX10_corrections_55 rfl rfl ?_
  first | ((with_reducible refine isN2 ?_); refine g_icmpN_ge (tgt := 64) (p1 := 59) dX10_corrections_56 rfl (by omega) (by omega) rfl (fun c_56 => ?_) (fun c_56 => by exfalso; first | omega | contradiction | exact hw c_56 | exact c_56 hw)) | refine g_icmp_ge (tgt := 64) (p1 := 59) dX10_corrections_56 rfl rfl (fun c_56 => ?_) (fun c_56 => by exfalso; first | omega | contradiction | exact hw c_56 | exact c_56 hw)
  refine g_iconst (p0 := 65) (v := nI 0) dX10_corrections_64 rfl rfl ?_
  first | ((with_reducible refine isN2 ?_); refine g_iaddN (p0 := 66) dX10_corrections_65 rfl ?_) | refine g_iadd (p0 := 66) dX10_corrections_65 rfl ?_
  refine g_istore (p0 := 68) (i := 7) (ls2 := [_, _, _, _, _, _, _, _, _]) dX10_corrections_66 (Nat.le_of_ble_eq_true rfl) rfl rfl ?_
  refine g_aload_n (p0 := 69) (i := 0) dX10_corrections_68 rfl rfl rfl ?_
  refine g_getR (p0 := 72) dX10_corrections_69 fX10_43 (by first | rfl | assumption | exact RW.s (by assumption) | exact TW.s (by assumption)) rfl rfl ?_
  refine g_iload (p0 := 74) dX10_corrections_72 rfl rfl ?_
  first | ((with_reducible refine isN1 ?_); refine g_aldN (p0 := 75) dX10_corrections_74 (by first | rfl | assumption | exact RW.s (by assumption) | exact TW.s (by assumption)) (by first | decide | assumption) (by omega) (by first | assumption | ((repeat (first | exact up_hit | refine up_nv (by decide) ?_ | refine up_mv (by first | decide | omega) ?_)) <;> first | assumption | rfl)) rfl ?_) | refine g_ald (p0 := 75) dX10_corrections_74 (by first | rfl | assumption | exact RW.s (by assumption) | exact TW.s (by assumption)) (by assumption) (by first | assumption | ((repeat (first | exact up_hit | refine up_nv (by decide) ?_ | refine up_mv (by first | decide | omega) ?_)) <;> first | assumption | rfl)) rfl ?_
  refine g_iload (p0 := 77) dX10_corrections_75 rfl rfl ?_
  refine g_iconst (p0 := 78) (v := nI 2) dX10_corrections_77 rfl rfl ?_
  first | ((with_reducible refine isN2 ?_); refine g_icmpN_ge (tgt := 85) (p1 := 81) dX10_corrections_78 rfl (by omega) (by omega) rfl (fun c_78 => ?_) (fun c_78 => by exfalso; first | omega | contradiction | exact hw c_78 | exact c_78 hw)) | refine g_icmp_ge (tgt := 85) (p1 := 81) dX10_corrections_78 rfl rfl (fun c_78 => ?_) (fun c_78 => by exfalso; first | omega | contradiction | exact hw c_78 | exact c_78 hw)
  refine g_iload (p0 := 87) dX10_corrections_85 rfl rfl ?_
  first | ((with_reducible refine isN2 ?_); refine g_iaddN (p0 := 88) dX10_corrections_87 rfl ?_) | refine g_iadd (p0 := 88) dX10_corrections_87 rfl ?_
  refine g_istore (p0 := 90) (i := 8) (ls2 := [_, _, _, _, _, _, _, _, _]) dX10_corrections_88 (Nat.le_of_ble_eq_true rfl) rfl rfl ?_
  refine g_aload_n (p0 := 91) (i := 0) dX10_corrections_90 rfl rfl rfl ?_
  refine g_getR (p0 := 94) dX10_corrections_91 fX10_37 (by first | rfl | assumption | exact RW.s (by assumption) | exact TW.s (by assumption)) rfl rfl ?_
  refine g_iload (p0 := 96) dX10_corrections_94 rfl rfl ?_
  first | ((with_reducible refine isN1 ?_); refine g_aldN (p0 := 97) dX10_corrections_96 (by first | rfl | assumption | exact RW.s (by assumption) | exact TW.s (by assumption)) (by first | decide | assumption) (by omega) (by first | assumption | ((repeat (first | exact up_hit | refine up_nv (by decide) ?_ | refine up_mv (by first | decide | omega) ?_)) <;> first | assumption | rfl)) rfl ?_) | refine g_ald (p0 := 97) dX10_corrections_96 (by first | rfl | assumption | exact RW.s (by assumption) | exact TW.s (by assumption)) (by assumption) (by first | assumption | ((repeat (first | exact up_hit | refine up_nv (by decide) ?_ | refine up_mv (by first | decide | omega) ?_)) <;> first | assumption | rfl)) rfl ?_
  refine g_iconst (p0 := 98) (v := nI 2) dX10_corrections_97 rfl rfl ?_
  first | ((with_reducible refine isN2 ?_); refine g_icmpN_ne (tgt := 188) (p1 := 101) dX10_corrections_98 rfl (by omega) (by omega) rfl (fun c_98 => ?_) (fun c_98 => by exfalso; first | omega | contradiction | exact hw c_98 | exact c_98 hw)) | refine g_icmp_ne (tgt := 188) (p1 := 101) dX10_corrections_98 rfl rfl (fun c_98 => ?_) (fun c_98 => by exfalso; first | omega | contradiction | exact hw c_98 | exact c_98 hw)
  first | refine g_iinc1 (p0 := 191) (ls2 := [_, _, _, _, _, _, _, _, _]) dX10_corrections_188 rfl rfl rfl ?_ | refine g_iinc (p0 := 191) (ls2 := [_, _, _, _, _, _, _, _, _]) dX10_corrections_188 rfl rfl rfl rfl ?_
  refine g_goto (tgt := 26) dX10_corrections_191 rfl ?_
  exact next _ _ _
set_option maxRecDepth 20000 in
set_option maxHeartbeats 2000000 in
theorem rk2_B {m l g a b cn : Nat} {w : Int32} {x6 x7 x8 : Option AV} {σ : Sg} {Q : SP} (hm : m < 160) (hl : l < 160) (hg : σ 89 l = nI g) (ha : σ 90 l = nI a) (hb : σ 91 l = nI b) (hg1 : g < 500) (ha1 : a < 500) (hb1 : b < 500) (hg2 : g = 2) (hag : CM mX10_areGood [ai (nI (a + 0)), ai (nI (b + 1))] σ (Ret (nI 0) σ)) (next : ∀ x6 x7 x8, WM mX10_corrections Q 26 [some (ar 79), some (ai (nI m)), some (ai w), some (ai (nI (cn))), some (ai (nI (l))), some (ai (nI (3))), x6, x7, x8] [] (σ)) : WM mX10_corrections Q 26 [some (ar 79), some (ai (nI m)), some (ai w), some (ai (nI (cn))), some (ai (nI (l))), some (ai (nI (2))), x6, x7, x8] [] σ := by
  refine g_iload (p0 := 28) dX10_corrections_26 rfl rfl ?_
  refine g_iconst (p0 := 29) (v := nI 4) dX10_corrections_28 rfl rfl ?_
  first | ((with_reducible refine isN2 ?_); refine g_icmpN_ge (tgt := 194) (p1 := 32) dX10_corrections_29 rfl (by omega) (by omega) rfl (fun c_29 => by exfalso; first | omega | contradiction | exact hw c_29 | exact c_29 hw) (fun c_29 => ?_)) | refine g_icmp_ge (tgt := 194) (p1 := 32) dX10_corrections_29 rfl rfl (fun c_29 => by exfalso; first | omega | contradiction | exact hw c_29 | exact c_29 hw) (fun c_29 => ?_)
  refine g_iload (p0 := 34) dX10_corrections_32 rfl rfl ?_
  refine g_iconst (p0 := 35) (v := nI 2) dX10_corrections_34 rfl rfl ?_
  first | ((with_reducible refine isN2 ?_); refine g_iremN (p0 := 36) dX10_corrections_35 (by omega) (by omega) (by omega) rfl ?_) | refine g_irem (p0 := 36) dX10_corrections_35 (by decide) rfl ?_
  first | ((with_reducible refine isN1 ?_); refine g_ifN_ne (tgt := 43) (p1 := 39) dX10_corrections_36 rfl (by omega) rfl (fun c_36 => by exfalso; first | omega | contradiction | exact hw c_36 | exact c_36 hw) (fun c_36 => ?_)) | refine g_if_ne (tgt := 43) (p1 := 39) dX10_corrections_36 rfl rfl (fun c_36 => by exfalso; first | omega | contradiction | exact hw c_36 | exact c_36 hw) (fun c_36 => ?_)
  refine g_iconst (p0 := 40) (v := nI 1) dX10_corrections_39 rfl rfl ?_
  refine g_goto (tgt := 44) dX10_corrections_40 rfl ?_
  refine g_istore (p0 := 46) (i := 6) (ls2 := [_, _, _, _, _, _, _, _, _]) dX10_corrections_44 (Nat.le_of_ble_eq_true rfl) rfl rfl ?_
  refine g_aload_n (p0 := 47) (i := 0) dX10_corrections_46 rfl rfl rfl ?_
  refine g_getR (p0 := 50) dX10_corrections_47 fX10_40 (by first | rfl | assumption | exact RW.s (by assumption) | exact TW.s (by assumption)) rfl rfl ?_
  refine g_iload (p0 := 52) dX10_corrections_50 rfl rfl ?_
  first | ((with_reducible refine isN1 ?_); refine g_aldN (p0 := 53) dX10_corrections_52 (by first | rfl | assumption | exact RW.s (by assumption) | exact TW.s (by assumption)) (by first | decide | assumption) (by omega) (by first | assumption | ((repeat (first | exact up_hit | refine up_nv (by decide) ?_ | refine up_mv (by first | decide | omega) ?_)) <;> first | assumption | rfl)) rfl ?_) | refine g_ald (p0 := 53) dX10_corrections_52 (by first | rfl | assumption | exact RW.s (by assumption) | exact TW.s (by assumption)) (by assumption) (by first | assumption | ((repeat (first | exact up_hit | refine up_nv (by decide) ?_ | refine up_mv (by first | decide | omega) ?_)) <;> first | assumption | rfl)) rfl ?_
  refine g_iload (p0 := 55) dX10_corrections_53 rfl rfl ?_
  refine g_iconst (p0 := 56) (v := nI 2) dX10_corrections_55 rfl rfl ?_
  first | ((with_reducible refine isN2 ?_); refine g_icmpN_ge (tgt := 64) (p1 := 59) dX10_corrections_56 rfl (by omega) (by omega) rfl (fun c_56 => ?_) (fun c_56 => by exfalso; first | omega | contradiction | exact hw c_56 | exact c_56 hw)) | refine g_icmp_ge (tgt := 64) (p1 := 59) dX10_corrections_56 rfl rfl (fun c_56 => ?_) (fun c_56 => by exfalso; first | omega | contradiction | exact hw c_56 | exact c_56 hw)
  refine g_iconst (p0 := 65) (v := nI 0) dX10_corrections_64 rfl rfl ?_
  first | ((with_reducible refine isN2 ?_); refine g_iaddN (p0 := 66) dX10_corrections_65 rfl ?_) | refine g_iadd (p0 := 66) dX10_corrections_65 rfl ?_
  refine g_istore (p0 := 68) (i := 7) (ls2 := [_, _, _, _, _, _, _, _, _]) dX10_corrections_66 (Nat.le_of_ble_eq_true rfl) rfl rfl ?_
  refine g_aload_n (p0 := 69) (i := 0) dX10_corrections_68 rfl rfl rfl ?_
  refine g_getR (p0 := 72) dX10_corrections_69 fX10_43 (by first | rfl | assumption | exact RW.s (by assumption) | exact TW.s (by assumption)) rfl rfl ?_
  refine g_iload (p0 := 74) dX10_corrections_72 rfl rfl ?_
  first | ((with_reducible refine isN1 ?_); refine g_aldN (p0 := 75) dX10_corrections_74 (by first | rfl | assumption | exact RW.s (by assumption) | exact TW.s (by assumption)) (by first | decide | assumption) (by omega) (by first | assumption | ((repeat (first | exact up_hit | refine up_nv (by decide) ?_ | refine up_mv (by first | decide | omega) ?_)) <;> first | assumption | rfl)) rfl ?_) | refine g_ald (p0 := 75) dX10_corrections_74 (by first | rfl | assumption | exact RW.s (by assumption) | exact TW.s (by assumption)) (by assumption) (by first | assumption | ((repeat (first | exact up_hit | refine up_nv (by decide) ?_ | refine up_mv (by first | decide | omega) ?_)) <;> first | assumption | rfl)) rfl ?_
  refine g_iload (p0 := 77) dX10_corrections_75 rfl rfl ?_
  refine g_iconst (p0 := 78) (v := nI 2) dX10_corrections_77 rfl rfl ?_
  first | ((with_reducible refine isN2 ?_); refine g_icmpN_ge (tgt := 85) (p1 := 81) dX10_corrections_78 rfl (by omega) (by omega) rfl (fun c_78 => ?_) (fun c_78 => by exfalso; first | omega | contradiction | exact hw c_78 | exact c_78 hw)) | refine g_icmp_ge (tgt := 85) (p1 := 81) dX10_corrections_78 rfl rfl (fun c_78 => ?_) (fun c_78 => by exfalso; first | omega | contradiction | exact hw c_78 | exact c_78 hw)
  refine g_iload (p0 := 87) dX10_corrections_85 rfl rfl ?_
  first | ((with_reducible refine isN2 ?_); refine g_iaddN (p0 := 88) dX10_corrections_87 rfl ?_) | refine g_iadd (p0 := 88) dX10_corrections_87 rfl ?_
  refine g_istore (p0 := 90) (i := 8) (ls2 := [_, _, _, _, _, _, _, _, _]) dX10_corrections_88 (Nat.le_of_ble_eq_true rfl) rfl rfl ?_
  refine g_aload_n (p0 := 91) (i := 0) dX10_corrections_90 rfl rfl rfl ?_
  refine g_getR (p0 := 94) dX10_corrections_91 fX10_37 (by first | rfl | assumption | exact RW.s (by assumption) | exact TW.s (by assumption)) rfl rfl ?_
  refine g_iload (p0 := 96) dX10_corrections_94 rfl rfl ?_
  first | ((with_reducible refine isN1 ?_); refine g_aldN (p0 := 97) dX10_corrections_96 (by first | rfl | assumption | exact RW.s (by assumption) | exact TW.s (by assumption)) (by first | decide | assumption) (by omega) (by first | assumption | ((repeat (first | exact up_hit | refine up_nv (by decide) ?_ | refine up_mv (by first | decide | omega) ?_)) <;> first | assumption | rfl)) rfl ?_) | refine g_ald (p0 := 97) dX10_corrections_96 (by first | rfl | assumption | exact RW.s (by assumption) | exact TW.s (by assumption)) (by assumption) (by first | assumption | ((repeat (first | exact up_hit | refine up_nv (by decide) ?_ | refine up_mv (by first | decide | omega) ?_)) <;> first | assumption | rfl)) rfl ?_
  refine g_iconst (p0 := 98) (v := nI 2) dX10_corrections_97 rfl rfl ?_
  first | ((with_reducible refine isN2 ?_); refine g_icmpN_ne (tgt := 188) (p1 := 101) dX10_corrections_98 rfl (by omega) (by omega) rfl (fun c_98 => by exfalso; first | omega | contradiction | exact hw c_98 | exact c_98 hw) (fun c_98 => ?_)) | refine g_icmp_ne (tgt := 188) (p1 := 101) dX10_corrections_98 rfl rfl (fun c_98 => by exfalso; first | omega | contradiction | exact hw c_98 | exact c_98 hw) (fun c_98 => ?_)
  refine g_iload (p0 := 103) dX10_corrections_101 rfl rfl ?_
  refine g_iload (p0 := 105) dX10_corrections_103 rfl rfl ?_
  refine g_cS2R (p0 := 108) (r1 := mX10_areGood) dX10_corrections_105 (Or.inl lX10_134) vX10_areGood (FITi rfl rfl) (Nat.le_of_ble_eq_true rfl) (hag) rfl ?_
  first | ((with_reducible refine isN1 ?_); refine g_ifN_eq (tgt := 188) (p1 := 111) dX10_corrections_108 rfl (by omega) rfl (fun c_108 => ?_) (fun c_108 => by exfalso; first | omega | contradiction | exact hw c_108 | exact c_108 hw)) | refine g_if_eq (tgt := 188) (p1 := 111) dX10_corrections_108 rfl rfl (fun c_108 => ?_) (fun c_108 => by exfalso; first | omega | contradiction | exact hw c_108 | exact c_108 hw)
  first | refine g_iinc1 (p0 := 191) (ls2 := [_, _, _, _, _, _, _, _, _]) dX10_corrections_188 rfl rfl rfl ?_ | refine g_iinc (p0 := 191) (ls2 := [_, _, _, _, _, _, _, _, _]) dX10_corrections_188 rfl rfl rfl rfl ?_
  refine g_goto (tgt := 26) dX10_corrections_191 rfl ?_
  exact next _ _ _
set_option maxRecDepth 20000 in
set_option maxHeartbeats 2000000 in
theorem rk2_C {m l g a b cn : Nat} {w y : Int32} {x6 x7 x8 : Option AV} {σ : Sg} {Q : SP} (hm : m < 160) (hl : l < 160) (hg : σ 89 l = nI g) (ha : σ 90 l = nI a) (hb : σ 91 l = nI b) (hg1 : g < 500) (ha1 : a < 500) (hb1 : b < 500) (hg2 : g = 2) (hag : CM mX10_areGood [ai (nI (a + 0)), ai (nI (b + 1))] σ (Ret (nI 1) σ)) (hla : ∀ σ1 : Sg, σ1 80 = σ 80 → CM mX10_letterAt [ar 79, ai (nI (a + 0)), ai (nI (b + 1))] σ1 (Ret y σ1)) (hrt : CM mX10_isRight [ar 79, ai (nI m), ai (nI l), ai y] σ (Ret (nI 0) σ)) (next : ∀ x6 x7 x8, WM mX10_corrections Q 26 [some (ar 79), some (ai (nI m)), some (ai w), some (ai (nI (cn))), some (ai (nI (l))), some (ai (nI (3))), x6, x7, x8] [] (σ)) : WM mX10_corrections Q 26 [some (ar 79), some (ai (nI m)), some (ai w), some (ai (nI (cn))), some (ai (nI (l))), some (ai (nI (2))), x6, x7, x8] [] σ := by
  refine g_iload (p0 := 28) dX10_corrections_26 rfl rfl ?_
  refine g_iconst (p0 := 29) (v := nI 4) dX10_corrections_28 rfl rfl ?_
  first | ((with_reducible refine isN2 ?_); refine g_icmpN_ge (tgt := 194) (p1 := 32) dX10_corrections_29 rfl (by omega) (by omega) rfl (fun c_29 => by exfalso; first | omega | contradiction | exact hw c_29 | exact c_29 hw) (fun c_29 => ?_)) | refine g_icmp_ge (tgt := 194) (p1 := 32) dX10_corrections_29 rfl rfl (fun c_29 => by exfalso; first | omega | contradiction | exact hw c_29 | exact c_29 hw) (fun c_29 => ?_)
  refine g_iload (p0 := 34) dX10_corrections_32 rfl rfl ?_
  refine g_iconst (p0 := 35) (v := nI 2) dX10_corrections_34 rfl rfl ?_
  first | ((with_reducible refine isN2 ?_); refine g_iremN (p0 := 36) dX10_corrections_35 (by omega) (by omega) (by omega) rfl ?_) | refine g_irem (p0 := 36) dX10_corrections_35 (by decide) rfl ?_
  first | ((with_reducible refine isN1 ?_); refine g_ifN_ne (tgt := 43) (p1 := 39) dX10_corrections_36 rfl (by omega) rfl (fun c_36 => by exfalso; first | omega | contradiction | exact hw c_36 | exact c_36 hw) (fun c_36 => ?_)) | refine g_if_ne (tgt := 43) (p1 := 39) dX10_corrections_36 rfl rfl (fun c_36 => by exfalso; first | omega | contradiction | exact hw c_36 | exact c_36 hw) (fun c_36 => ?_)
  refine g_iconst (p0 := 40) (v := nI 1) dX10_corrections_39 rfl rfl ?_
  refine g_goto (tgt := 44) dX10_corrections_40 rfl ?_
  refine g_istore (p0 := 46) (i := 6) (ls2 := [_, _, _, _, _, _, _, _, _]) dX10_corrections_44 (Nat.le_of_ble_eq_true rfl) rfl rfl ?_
  refine g_aload_n (p0 := 47) (i := 0) dX10_corrections_46 rfl rfl rfl ?_
  refine g_getR (p0 := 50) dX10_corrections_47 fX10_40 (by first | rfl | assumption | exact RW.s (by assumption) | exact TW.s (by assumption)) rfl rfl ?_
  refine g_iload (p0 := 52) dX10_corrections_50 rfl rfl ?_
  first | ((with_reducible refine isN1 ?_); refine g_aldN (p0 := 53) dX10_corrections_52 (by first | rfl | assumption | exact RW.s (by assumption) | exact TW.s (by assumption)) (by first | decide | assumption) (by omega) (by first | assumption | ((repeat (first | exact up_hit | refine up_nv (by decide) ?_ | refine up_mv (by first | decide | omega) ?_)) <;> first | assumption | rfl)) rfl ?_) | refine g_ald (p0 := 53) dX10_corrections_52 (by first | rfl | assumption | exact RW.s (by assumption) | exact TW.s (by assumption)) (by assumption) (by first | assumption | ((repeat (first | exact up_hit | refine up_nv (by decide) ?_ | refine up_mv (by first | decide | omega) ?_)) <;> first | assumption | rfl)) rfl ?_
  refine g_iload (p0 := 55) dX10_corrections_53 rfl rfl ?_
  refine g_iconst (p0 := 56) (v := nI 2) dX10_corrections_55 rfl rfl ?_
  first | ((with_reducible refine isN2 ?_); refine g_icmpN_ge (tgt := 64) (p1 := 59) dX10_corrections_56 rfl (by omega) (by omega) rfl (fun c_56 => ?_) (fun c_56 => by exfalso; first | omega | contradiction | exact hw c_56 | exact c_56 hw)) | refine g_icmp_ge (tgt := 64) (p1 := 59) dX10_corrections_56 rfl rfl (fun c_56 => ?_) (fun c_56 => by exfalso; first | omega | contradiction | exact hw c_56 | exact c_56 hw)
  refine g_iconst (p0 := 65) (v := nI 0) dX10_corrections_64 rfl rfl ?_
  first | ((with_reducible refine isN2 ?_); refine g_iaddN (p0 := 66) dX10_corrections_65 rfl ?_) | refine g_iadd (p0 := 66) dX10_corrections_65 rfl ?_
  refine g_istore (p0 := 68) (i := 7) (ls2 := [_, _, _, _, _, _, _, _, _]) dX10_corrections_66 (Nat.le_of_ble_eq_true rfl) rfl rfl ?_
  refine g_aload_n (p0 := 69) (i := 0) dX10_corrections_68 rfl rfl rfl ?_
  refine g_getR (p0 := 72) dX10_corrections_69 fX10_43 (by first | rfl | assumption | exact RW.s (by assumption) | exact TW.s (by assumption)) rfl rfl ?_
  refine g_iload (p0 := 74) dX10_corrections_72 rfl rfl ?_
  first | ((with_reducible refine isN1 ?_); refine g_aldN (p0 := 75) dX10_corrections_74 (by first | rfl | assumption | exact RW.s (by assumption) | exact TW.s (by assumption)) (by first | decide | assumption) (by omega) (by first | assumption | ((repeat (first | exact up_hit | refine up_nv (by decide) ?_ | refine up_mv (by first | decide | omega) ?_)) <;> first | assumption | rfl)) rfl ?_) | refine g_ald (p0 := 75) dX10_corrections_74 (by first | rfl | assumption | exact RW.s (by assumption) | exact TW.s (by assumption)) (by assumption) (by first | assumption | ((repeat (first | exact up_hit | refine up_nv (by decide) ?_ | refine up_mv (by first | decide | omega) ?_)) <;> first | assumption | rfl)) rfl ?_
  refine g_iload (p0 := 77) dX10_corrections_75 rfl rfl ?_
  refine g_iconst (p0 := 78) (v := nI 2) dX10_corrections_77 rfl rfl ?_
  first | ((with_reducible refine isN2 ?_); refine g_icmpN_ge (tgt := 85) (p1 := 81) dX10_corrections_78 rfl (by omega) (by omega) rfl (fun c_78 => ?_) (fun c_78 => by exfalso; first | omega | contradiction | exact hw c_78 | exact c_78 hw)) | refine g_icmp_ge (tgt := 85) (p1 := 81) dX10_corrections_78 rfl rfl (fun c_78 => ?_) (fun c_78 => by exfalso; first | omega | contradiction | exact hw c_78 | exact c_78 hw)
  refine g_iload (p0 := 87) dX10_corrections_85 rfl rfl ?_
  first | ((with_reducible refine isN2 ?_); refine g_iaddN (p0 := 88) dX10_corrections_87 rfl ?_) | refine g_iadd (p0 := 88) dX10_corrections_87 rfl ?_
  refine g_istore (p0 := 90) (i := 8) (ls2 := [_, _, _, _, _, _, _, _, _]) dX10_corrections_88 (Nat.le_of_ble_eq_true rfl) rfl rfl ?_
  refine g_aload_n (p0 := 91) (i := 0) dX10_corrections_90 rfl rfl rfl ?_
  refine g_getR (p0 := 94) dX10_corrections_91 fX10_37 (by first | rfl | assumption | exact RW.s (by assumption) | exact TW.s (by assumption)) rfl rfl ?_
  refine g_iload (p0 := 96) dX10_corrections_94 rfl rfl ?_
  first | ((with_reducible refine isN1 ?_); refine g_aldN (p0 := 97) dX10_corrections_96 (by first | rfl | assumption | exact RW.s (by assumption) | exact TW.s (by assumption)) (by first | decide | assumption) (by omega) (by first | assumption | ((repeat (first | exact up_hit | refine up_nv (by decide) ?_ | refine up_mv (by first | decide | omega) ?_)) <;> first | assumption | rfl)) rfl ?_) | refine g_ald (p0 := 97) dX10_corrections_96 (by first | rfl | assumption | exact RW.s (by assumption) | exact TW.s (by assumption)) (by assumption) (by first | assumption | ((repeat (first | exact up_hit | refine up_nv (by decide) ?_ | refine up_mv (by first | decide | omega) ?_)) <;> first | assumption | rfl)) rfl ?_
  refine g_iconst (p0 := 98) (v := nI 2) dX10_corrections_97 rfl rfl ?_
  first | ((with_reducible refine isN2 ?_); refine g_icmpN_ne (tgt := 188) (p1 := 101) dX10_corrections_98 rfl (by omega) (by omega) rfl (fun c_98 => by exfalso; first | omega | contradiction | exact hw c_98 | exact c_98 hw) (fun c_98 => ?_)) | refine g_icmp_ne (tgt := 188) (p1 := 101) dX10_corrections_98 rfl rfl (fun c_98 => by exfalso; first | omega | contradiction | exact hw c_98 | exact c_98 hw) (fun c_98 => ?_)
  refine g_iload (p0 := 103) dX10_corrections_101 rfl rfl ?_
  refine g_iload (p0 := 105) dX10_corrections_103 rfl rfl ?_
  refine g_cS2R (p0 := 108) (r1 := mX10_areGood) dX10_corrections_105 (Or.inl lX10_134) vX10_areGood (FITi rfl rfl) (Nat.le_of_ble_eq_true rfl) (hag) rfl ?_
  first | ((with_reducible refine isN1 ?_); refine g_ifN_eq (tgt := 188) (p1 := 111) dX10_corrections_108 rfl (by omega) rfl (fun c_108 => by exfalso; first | omega | contradiction | exact hw c_108 | exact c_108 hw) (fun c_108 => ?_)) | refine g_if_eq (tgt := 188) (p1 := 111) dX10_corrections_108 rfl rfl (fun c_108 => by exfalso; first | omega | contradiction | exact hw c_108 | exact c_108 hw) (fun c_108 => ?_)
  refine g_aload_n (p0 := 112) (i := 0) dX10_corrections_111 rfl rfl rfl ?_
  refine g_iload_n (p0 := 113) (i := 1) dX10_corrections_112 rfl rfl rfl ?_
  refine g_iload (p0 := 115) dX10_corrections_113 rfl rfl ?_
  refine g_aload_n (p0 := 116) (i := 0) dX10_corrections_115 rfl rfl rfl ?_
  refine g_iload (p0 := 118) dX10_corrections_116 rfl rfl ?_
  refine g_iload (p0 := 120) dX10_corrections_118 rfl rfl ?_
  refine g_cV2R (p0 := 123) (r1 := mX10_letterAt) dX10_corrections_120 lX10_138 vX10_letterAt (by first | rfl | assumption | exact RW.s (by assumption) | exact TW.s (by assumption)) ⟨_, _, rfl⟩ (FITi rfl rfl) (Nat.le_of_ble_eq_true rfl) (hla _ rfl) rfl ?_
  refine g_cV3R (p0 := 126) (r1 := mX10_isRight) dX10_corrections_123 lX10_155 vX10_isRight (by first | rfl | assumption | exact RW.s (by assumption) | exact TW.s (by assumption)) ⟨_, _, rfl⟩ (FITi rfl rfl) (Nat.le_of_ble_eq_true rfl) (hrt) rfl ?_
  first | ((with_reducible refine isN1 ?_); refine g_ifN_eq (tgt := 188) (p1 := 129) dX10_corrections_126 rfl (by omega) rfl (fun c_126 => ?_) (fun c_126 => by exfalso; first | omega | contradiction | exact hw c_126 | exact c_126 hw)) | refine g_if_eq (tgt := 188) (p1 := 129) dX10_corrections_126 rfl rfl (fun c_126 => ?_) (fun c_126 => by exfalso; first | omega | contradiction | exact hw c_126 | exact c_126 hw)
  first | refine g_iinc1 (p0 := 191) (ls2 := [_, _, _, _, _, _, _, _, _]) dX10_corrections_188 rfl rfl rfl ?_ | refine g_iinc (p0 := 191) (ls2 := [_, _, _, _, _, _, _, _, _]) dX10_corrections_188 rfl rfl rfl rfl ?_
  refine g_goto (tgt := 26) dX10_corrections_191 rfl ?_
  exact next _ _ _
set_option maxRecDepth 20000 in
set_option maxHeartbeats 2000000 in
theorem rk2_D {m l g a b cn : Nat} {w y : Int32} {x6 x7 x8 : Option AV} {σ : Sg} {Q : SP} (hm : m < 160) (hl : l < 160) (hg : σ 89 l = nI g) (ha : σ 90 l = nI a) (hb : σ 91 l = nI b) (hg1 : g < 500) (ha1 : a < 500) (hb1 : b < 500) (hg2 : g = 2) (hag : CM mX10_areGood [ai (nI (a + 0)), ai (nI (b + 1))] σ (Ret (nI 1) σ)) (hla : ∀ σ1 : Sg, σ1 80 = σ 80 → CM mX10_letterAt [ar 79, ai (nI (a + 0)), ai (nI (b + 1))] σ1 (Ret y σ1)) (hrt : CM mX10_isRight [ar 79, ai (nI m), ai (nI l), ai y] σ (Ret (nI 1) σ)) (hw : ¬ nI cn = w) (next : ∀ x6 x7 x8, WM mX10_corrections Q 26 [some (ar 79), some (ai (nI m)), some (ai w), some (ai (nI (cn + 1))), some (ai (nI (l))), some (ai (nI (3))), x6, x7, x8] [] (σ)) : WM mX10_corrections Q 26 [some (ar 79), some (ai (nI m)), some (ai w), some (ai (nI (cn))), some (ai (nI (l))), some (ai (nI (2))), x6, x7, x8] [] σ := by
  refine g_iload (p0 := 28) dX10_corrections_26 rfl rfl ?_
  refine g_iconst (p0 := 29) (v := nI 4) dX10_corrections_28 rfl rfl ?_
  first | ((with_reducible refine isN2 ?_); refine g_icmpN_ge (tgt := 194) (p1 := 32) dX10_corrections_29 rfl (by omega) (by omega) rfl (fun c_29 => by exfalso; first | omega | contradiction | exact hw c_29 | exact c_29 hw) (fun c_29 => ?_)) | refine g_icmp_ge (tgt := 194) (p1 := 32) dX10_corrections_29 rfl rfl (fun c_29 => by exfalso; first | omega | contradiction | exact hw c_29 | exact c_29 hw) (fun c_29 => ?_)
  refine g_iload (p0 := 34) dX10_corrections_32 rfl rfl ?_
  refine g_iconst (p0 := 35) (v := nI 2) dX10_corrections_34 rfl rfl ?_
  first | ((with_reducible refine isN2 ?_); refine g_iremN (p0 := 36) dX10_corrections_35 (by omega) (by omega) (by omega) rfl ?_) | refine g_irem (p0 := 36) dX10_corrections_35 (by decide) rfl ?_
  first | ((with_reducible refine isN1 ?_); refine g_ifN_ne (tgt := 43) (p1 := 39) dX10_corrections_36 rfl (by omega) rfl (fun c_36 => by exfalso; first | omega | contradiction | exact hw c_36 | exact c_36 hw) (fun c_36 => ?_)) | refine g_if_ne (tgt := 43) (p1 := 39) dX10_corrections_36 rfl rfl (fun c_36 => by exfalso; first | omega | contradiction | exact hw c_36 | exact c_36 hw) (fun c_36 => ?_)
  refine g_iconst (p0 := 40) (v := nI 1) dX10_corrections_39 rfl rfl ?_
  refine g_goto (tgt := 44) dX10_corrections_40 rfl ?_
  refine g_istore (p0 := 46) (i := 6) (ls2 := [_, _, _, _, _, _, _, _, _]) dX10_corrections_44 (Nat.le_of_ble_eq_true rfl) rfl rfl ?_
  refine g_aload_n (p0 := 47) (i := 0) dX10_corrections_46 rfl rfl rfl ?_
  refine g_getR (p0 := 50) dX10_corrections_47 fX10_40 (by first | rfl | assumption | exact RW.s (by assumption) | exact TW.s (by assumption)) rfl rfl ?_
  refine g_iload (p0 := 52) dX10_corrections_50 rfl rfl ?_
  first | ((with_reducible refine isN1 ?_); refine g_aldN (p0 := 53) dX10_corrections_52 (by first | rfl | assumption | exact RW.s (by assumption) | exact TW.s (by assumption)) (by first | decide | assumption) (by omega) (by first | assumption | ((repeat (first | exact up_hit | refine up_nv (by decide) ?_ | refine up_mv (by first | decide | omega) ?_)) <;> first | assumption | rfl)) rfl ?_) | refine g_ald (p0 := 53) dX10_corrections_52 (by first | rfl | assumption | exact RW.s (by assumption) | exact TW.s (by assumption)) (by assumption) (by first | assumption | ((repeat (first | exact up_hit | refine up_nv (by decide) ?_ | refine up_mv (by first | decide | omega) ?_)) <;> first | assumption | rfl)) rfl ?_
  refine g_iload (p0 := 55) dX10_corrections_53 rfl rfl ?_
  refine g_iconst (p0 := 56) (v := nI 2) dX10_corrections_55 rfl rfl ?_
  first | ((with_reducible refine isN2 ?_); refine g_icmpN_ge (tgt := 64) (p1 := 59) dX10_corrections_56 rfl (by omega) (by omega) rfl (fun c_56 => ?_) (fun c_56 => by exfalso; first | omega | contradiction | exact hw c_56 | exact c_56 hw)) | refine g_icmp_ge (tgt := 64) (p1 := 59) dX10_corrections_56 rfl rfl (fun c_56 => ?_) (fun c_56 => by exfalso; first | omega | contradiction | exact hw c_56 | exact c_56 hw)
  refine g_iconst (p0 := 65) (v := nI 0) dX10_corrections_64 rfl rfl ?_
  first | ((with_reducible refine isN2 ?_); refine g_iaddN (p0 := 66) dX10_corrections_65 rfl ?_) | refine g_iadd (p0 := 66) dX10_corrections_65 rfl ?_
  refine g_istore (p0 := 68) (i := 7) (ls2 := [_, _, _, _, _, _, _, _, _]) dX10_corrections_66 (Nat.le_of_ble_eq_true rfl) rfl rfl ?_
  refine g_aload_n (p0 := 69) (i := 0) dX10_corrections_68 rfl rfl rfl ?_
  refine g_getR (p0 := 72) dX10_corrections_69 fX10_43 (by first | rfl | assumption | exact RW.s (by assumption) | exact TW.s (by assumption)) rfl rfl ?_
  refine g_iload (p0 := 74) dX10_corrections_72 rfl rfl ?_
  first | ((with_reducible refine isN1 ?_); refine g_aldN (p0 := 75) dX10_corrections_74 (by first | rfl | assumption | exact RW.s (by assumption) | exact TW.s (by assumption)) (by first | decide | assumption) (by omega) (by first | assumption | ((repeat (first | exact up_hit | refine up_nv (by decide) ?_ | refine up_mv (by first | decide | omega) ?_)) <;> first | assumption | rfl)) rfl ?_) | refine g_ald (p0 := 75) dX10_corrections_74 (by first | rfl | assumption | exact RW.s (by assumption) | exact TW.s (by assumption)) (by assumption) (by first | assumption | ((repeat (first | exact up_hit | refine up_nv (by decide) ?_ | refine up_mv (by first | decide | omega) ?_)) <;> first | assumption | rfl)) rfl ?_
  refine g_iload (p0 := 77) dX10_corrections_75 rfl rfl ?_
  refine g_iconst (p0 := 78) (v := nI 2) dX10_corrections_77 rfl rfl ?_
  first | ((with_reducible refine isN2 ?_); refine g_icmpN_ge (tgt := 85) (p1 := 81) dX10_corrections_78 rfl (by omega) (by omega) rfl (fun c_78 => ?_) (fun c_78 => by exfalso; first | omega | contradiction | exact hw c_78 | exact c_78 hw)) | refine g_icmp_ge (tgt := 85) (p1 := 81) dX10_corrections_78 rfl rfl (fun c_78 => ?_) (fun c_78 => by exfalso; first | omega | contradiction | exact hw c_78 | exact c_78 hw)
  refine g_iload (p0 := 87) dX10_corrections_85 rfl rfl ?_
  first | ((with_reducible refine isN2 ?_); refine g_iaddN (p0 := 88) dX10_corrections_87 rfl ?_) | refine g_iadd (p0 := 88) dX10_corrections_87 rfl ?_
  refine g_istore (p0 := 90) (i := 8) (ls2 := [_, _, _, _, _, _, _, _, _]) dX10_corrections_88 (Nat.le_of_ble_eq_true rfl) rfl rfl ?_
  refine g_aload_n (p0 := 91) (i := 0) dX10_corrections_90 rfl rfl rfl ?_
  refine g_getR (p0 := 94) dX10_corrections_91 fX10_37 (by first | rfl | assumption | exact RW.s (by assumption) | exact TW.s (by assumption)) rfl rfl ?_
  refine g_iload (p0 := 96) dX10_corrections_94 rfl rfl ?_
  first | ((with_reducible refine isN1 ?_); refine g_aldN (p0 := 97) dX10_corrections_96 (by first | rfl | assumption | exact RW.s (by assumption) | exact TW.s (by assumption)) (by first | decide | assumption) (by omega) (by first | assumption | ((repeat (first | exact up_hit | refine up_nv (by decide) ?_ | refine up_mv (by first | decide | omega) ?_)) <;> first | assumption | rfl)) rfl ?_) | refine g_ald (p0 := 97) dX10_corrections_96 (by first | rfl | assumption | exact RW.s (by assumption) | exact TW.s (by assumption)) (by assumption) (by first | assumption | ((repeat (first | exact up_hit | refine up_nv (by decide) ?_ | refine up_mv (by first | decide | omega) ?_)) <;> first | assumption | rfl)) rfl ?_
  refine g_iconst (p0 := 98) (v := nI 2) dX10_corrections_97 rfl rfl ?_
  first | ((with_reducible refine isN2 ?_); refine g_icmpN_ne (tgt := 188) (p1 := 101) dX10_corrections_98 rfl (by omega) (by omega) rfl (fun c_98 => by exfalso; first | omega | contradiction | exact hw c_98 | exact c_98 hw) (fun c_98 => ?_)) | refine g_icmp_ne (tgt := 188) (p1 := 101) dX10_corrections_98 rfl rfl (fun c_98 => by exfalso; first | omega | contradiction | exact hw c_98 | exact c_98 hw) (fun c_98 => ?_)
  refine g_iload (p0 := 103) dX10_corrections_101 rfl rfl ?_
  refine g_iload (p0 := 105) dX10_corrections_103 rfl rfl ?_
  refine g_cS2R (p0 := 108) (r1 := mX10_areGood) dX10_corrections_105 (Or.inl lX10_134) vX10_areGood (FITi rfl rfl) (Nat.le_of_ble_eq_true rfl) (hag) rfl ?_
  first | ((with_reducible refine isN1 ?_); refine g_ifN_eq (tgt := 188) (p1 := 111) dX10_corrections_108 rfl (by omega) rfl (fun c_108 => by exfalso; first | omega | contradiction | exact hw c_108 | exact c_108 hw) (fun c_108 => ?_)) | refine g_if_eq (tgt := 188) (p1 := 111) dX10_corrections_108 rfl rfl (fun c_108 => by exfalso; first | omega | contradiction | exact hw c_108 | exact c_108 hw) (fun c_108 => ?_)
  refine g_aload_n (p0 := 112) (i := 0) dX10_corrections_111 rfl rfl rfl ?_
  refine g_iload_n (p0 := 113) (i := 1) dX10_corrections_112 rfl rfl rfl ?_
  refine g_iload (p0 := 115) dX10_corrections_113 rfl rfl ?_
  refine g_aload_n (p0 := 116) (i := 0) dX10_corrections_115 rfl rfl rfl ?_
  refine g_iload (p0 := 118) dX10_corrections_116 rfl rfl ?_
  refine g_iload (p0 := 120) dX10_corrections_118 rfl rfl ?_
  refine g_cV2R (p0 := 123) (r1 := mX10_letterAt) dX10_corrections_120 lX10_138 vX10_letterAt (by first | rfl | assumption | exact RW.s (by assumption) | exact TW.s (by assumption)) ⟨_, _, rfl⟩ (FITi rfl rfl) (Nat.le_of_ble_eq_true rfl) (hla _ rfl) rfl ?_
  refine g_cV3R (p0 := 126) (r1 := mX10_isRight) dX10_corrections_123 lX10_155 vX10_isRight (by first | rfl | assumption | exact RW.s (by assumption) | exact TW.s (by assumption)) ⟨_, _, rfl⟩ (FITi rfl rfl) (Nat.le_of_ble_eq_true rfl) (hrt) rfl ?_
  first | ((with_reducible refine isN1 ?_); refine g_ifN_eq (tgt := 188) (p1 := 129) dX10_corrections_126 rfl (by omega) rfl (fun c_126 => by exfalso; first | omega | contradiction | exact hw c_126 | exact c_126 hw) (fun c_126 => ?_)) | refine g_if_eq (tgt := 188) (p1 := 129) dX10_corrections_126 rfl rfl (fun c_126 => by exfalso; first | omega | contradiction | exact hw c_126 | exact c_126 hw) (fun c_126 => ?_)
  refine g_iload_n (p0 := 130) (i := 3) dX10_corrections_129 rfl rfl rfl ?_
  refine g_iload_n (p0 := 131) (i := 2) dX10_corrections_130 rfl rfl rfl ?_
  first | ((with_reducible refine isN2 ?_); refine g_icmpN_ne (tgt := 185) (p1 := 134) dX10_corrections_131 rfl (by omega) (by omega) rfl (fun c_131 => ?_) (fun c_131 => by exfalso; first | omega | contradiction | exact hw c_131 | exact c_131 hw)) | refine g_icmp_ne (tgt := 185) (p1 := 134) dX10_corrections_131 rfl rfl (fun c_131 => ?_) (fun c_131 => by exfalso; first | omega | contradiction | exact hw c_131 | exact c_131 hw)
  first | refine g_iinc1 (p0 := 188) (ls2 := [_, _, _, _, _, _, _, _, _]) dX10_corrections_185 rfl rfl rfl ?_ | refine g_iinc (p0 := 188) (ls2 := [_, _, _, _, _, _, _, _, _]) dX10_corrections_185 rfl rfl rfl rfl ?_
  first | refine g_iinc1 (p0 := 191) (ls2 := [_, _, _, _, _, _, _, _, _]) dX10_corrections_188 rfl rfl rfl ?_ | refine g_iinc (p0 := 191) (ls2 := [_, _, _, _, _, _, _, _, _]) dX10_corrections_188 rfl rfl rfl rfl ?_
  refine g_goto (tgt := 26) dX10_corrections_191 rfl ?_
  exact next _ _ _
set_option maxRecDepth 20000 in
set_option maxHeartbeats 2000000 in
theorem rk2_E {m l f g a b cn : Nat} {w y : Int32} {x6 x7 x8 : Option AV} {σ : Sg} {Q : SP} (hm : m < 160) (hl : l < 160) (hg : σ 89 l = nI g) (ha : σ 90 l = nI a) (hb : σ 91 l = nI b) (hg1 : g < 500) (ha1 : a < 500) (hb1 : b < 500) (hg2 : g = 2) (hag : CM mX10_areGood [ai (nI (a + 0)), ai (nI (b + 1))] σ (Ret (nI 1) σ)) (hla : ∀ σ1 : Sg, σ1 80 = σ 80 → CM mX10_letterAt [ar 79, ai (nI (a + 0)), ai (nI (b + 1))] σ1 (Ret y σ1)) (hrt : CM mX10_isRight [ar 79, ai (nI m), ai (nI l), ai y] σ (Ret (nI 1) σ)) (hw : nI cn = w) (hf : σ 92 m = nI f) (hfl : f ≤ l) (next : ∀ x6 x7 x8, WM mX10_corrections Q 26 [some (ar 79), some (ai (nI m)), some (ai w), some (ai (nI (cn + 1))), some (ai (nI (l))), some (ai (nI (3))), x6, x7, x8] [] (up (up (up (up σ 96 0 (nI (l - f))) 96 1 (nI (2 / 2))) 96 2 (nI (1 - 2 % 2))) 96 3 y)) : WM mX10_corrections Q 26 [some (ar 79), some (ai (nI m)), some (ai w), some (ai (nI (cn))), some (ai (nI (l))), some (ai (nI (2))), x6, x7, x8] [] σ := by
  refine g_iload (p0 := 28) dX10_corrections_26 rfl rfl ?_
  refine g_iconst (p0 := 29) (v := nI 4) dX10_corrections_28 rfl rfl ?_
  first | ((with_reducible refine isN2 ?_); refine g_icmpN_ge (tgt := 194) (p1 := 32) dX10_corrections_29 rfl (by omega) (by omega) rfl (fun c_29 => by exfalso; first | omega | contradiction | exact hw c_29 | exact c_29 hw) (fun c_29 => ?_)) | refine g_icmp_ge (tgt := 194) (p1 := 32) dX10_corrections_29 rfl rfl (fun c_29 => by exfalso; first | omega | contradiction | exact hw c_29 | exact c_29 hw) (fun c_29 => ?_)
  refine g_iload (p0 := 34) dX10_corrections_32 rfl rfl ?_
  refine g_iconst (p0 := 35) (v := nI 2) dX10_corrections_34 rfl rfl ?_
  first | ((with_reducible refine isN2 ?_); refine g_iremN (p0 := 36) dX10_corrections_35 (by omega) (by omega) (by omega) rfl ?_) | refine g_irem (p0 := 36) dX10_corrections_35 (by decide) rfl ?_
  first | ((with_reducible refine isN1 ?_); refine g_ifN_ne (tgt := 43) (p1 := 39) dX10_corrections_36 rfl (by omega) rfl (fun c_36 => by exfalso; first | omega | contradiction | exact hw c_36 | exact c_36 hw) (fun c_36 => ?_)) | refine g_if_ne (tgt := 43) (p1 := 39) dX10_corrections_36 rfl rfl (fun c_36 => by exfalso; first | omega | contradiction | exact hw c_36 | exact c_36 hw) (fun c_36 => ?_)
  refine g_iconst (p0 := 40) (v := nI 1) dX10_corrections_39 rfl rfl ?_
  refine g_goto (tgt := 44) dX10_corrections_40 rfl ?_
  refine g_istore (p0 := 46) (i := 6) (ls2 := [_, _, _, _, _, _, _, _, _]) dX10_corrections_44 (Nat.le_of_ble_eq_true rfl) rfl rfl ?_
  refine g_aload_n (p0 := 47) (i := 0) dX10_corrections_46 rfl rfl rfl ?_
  refine g_getR (p0 := 50) dX10_corrections_47 fX10_40 (by first | rfl | assumption | exact RW.s (by assumption) | exact TW.s (by assumption)) rfl rfl ?_
  refine g_iload (p0 := 52) dX10_corrections_50 rfl rfl ?_
  first | ((with_reducible refine isN1 ?_); refine g_aldN (p0 := 53) dX10_corrections_52 (by first | rfl | assumption | exact RW.s (by assumption) | exact TW.s (by assumption)) (by first | decide | assumption) (by omega) (by first | assumption | ((repeat (first | exact up_hit | refine up_nv (by decide) ?_ | refine up_mv (by first | decide | omega) ?_)) <;> first | assumption | rfl)) rfl ?_) | refine g_ald (p0 := 53) dX10_corrections_52 (by first | rfl | assumption | exact RW.s (by assumption) | exact TW.s (by assumption)) (by assumption) (by first | assumption | ((repeat (first | exact up_hit | refine up_nv (by decide) ?_ | refine up_mv (by first | decide | omega) ?_)) <;> first | assumption | rfl)) rfl ?_
  refine g_iload (p0 := 55) dX10_corrections_53 rfl rfl ?_
  refine g_iconst (p0 := 56) (v := nI 2) dX10_corrections_55 rfl rfl ?_
  first | ((with_reducible refine isN2 ?_); refine g_icmpN_ge (tgt := 64) (p1 := 59) dX10_corrections_56 rfl (by omega) (by omega) rfl (fun c_56 => ?_) (fun c_56 => by exfalso; first | omega | contradiction | exact hw c_56 | exact c_56 hw)) | refine g_icmp_ge (tgt := 64) (p1 := 59) dX10_corrections_56 rfl rfl (fun c_56 => ?_) (fun c_56 => by exfalso; first | omega | contradiction | exact hw c_56 | exact c_56 hw)
  refine g_iconst (p0 := 65) (v := nI 0) dX10_corrections_64 rfl rfl ?_
  first | ((with_reducible refine isN2 ?_); refine g_iaddN (p0 := 66) dX10_corrections_65 rfl ?_) | refine g_iadd (p0 := 66) dX10_corrections_65 rfl ?_
  refine g_istore (p0 := 68) (i := 7) (ls2 := [_, _, _, _, _, _, _, _, _]) dX10_corrections_66 (Nat.le_of_ble_eq_true rfl) rfl rfl ?_
  refine g_aload_n (p0 := 69) (i := 0) dX10_corrections_68 rfl rfl rfl ?_
  refine g_getR (p0 := 72) dX10_corrections_69 fX10_43 (by first | rfl | assumption | exact RW.s (by assumption) | exact TW.s (by assumption)) rfl rfl ?_
  refine g_iload (p0 := 74) dX10_corrections_72 rfl rfl ?_
  first | ((with_reducible refine isN1 ?_); refine g_aldN (p0 := 75) dX10_corrections_74 (by first | rfl | assumption | exact RW.s (by assumption) | exact TW.s (by assumption)) (by first | decide | assumption) (by omega) (by first | assumption | ((repeat (first | exact up_hit | refine up_nv (by decide) ?_ | refine up_mv (by first | decide | omega) ?_)) <;> first | assumption | rfl)) rfl ?_) | refine g_ald (p0 := 75) dX10_corrections_74 (by first | rfl | assumption | exact RW.s (by assumption) | exact TW.s (by assumption)) (by assumption) (by first | assumption | ((repeat (first | exact up_hit | refine up_nv (by decide) ?_ | refine up_mv (by first | decide | omega) ?_)) <;> first | assumption | rfl)) rfl ?_
  refine g_iload (p0 := 77) dX10_corrections_75 rfl rfl ?_
  refine g_iconst (p0 := 78) (v := nI 2) dX10_corrections_77 rfl rfl ?_
  first | ((with_reducible refine isN2 ?_); refine g_icmpN_ge (tgt := 85) (p1 := 81) dX10_corrections_78 rfl (by omega) (by omega) rfl (fun c_78 => ?_) (fun c_78 => by exfalso; first | omega | contradiction | exact hw c_78 | exact c_78 hw)) | refine g_icmp_ge (tgt := 85) (p1 := 81) dX10_corrections_78 rfl rfl (fun c_78 => ?_) (fun c_78 => by exfalso; first | omega | contradiction | exact hw c_78 | exact c_78 hw)
  refine g_iload (p0 := 87) dX10_corrections_85 rfl rfl ?_
  first | ((with_reducible refine isN2 ?_); refine g_iaddN (p0 := 88) dX10_corrections_87 rfl ?_) | refine g_iadd (p0 := 88) dX10_corrections_87 rfl ?_
  refine g_istore (p0 := 90) (i := 8) (ls2 := [_, _, _, _, _, _, _, _, _]) dX10_corrections_88 (Nat.le_of_ble_eq_true rfl) rfl rfl ?_
  refine g_aload_n (p0 := 91) (i := 0) dX10_corrections_90 rfl rfl rfl ?_
  refine g_getR (p0 := 94) dX10_corrections_91 fX10_37 (by first | rfl | assumption | exact RW.s (by assumption) | exact TW.s (by assumption)) rfl rfl ?_
  refine g_iload (p0 := 96) dX10_corrections_94 rfl rfl ?_
  first | ((with_reducible refine isN1 ?_); refine g_aldN (p0 := 97) dX10_corrections_96 (by first | rfl | assumption | exact RW.s (by assumption) | exact TW.s (by assumption)) (by first | decide | assumption) (by omega) (by first | assumption | ((repeat (first | exact up_hit | refine up_nv (by decide) ?_ | refine up_mv (by first | decide | omega) ?_)) <;> first | assumption | rfl)) rfl ?_) | refine g_ald (p0 := 97) dX10_corrections_96 (by first | rfl | assumption | exact RW.s (by assumption) | exact TW.s (by assumption)) (by assumption) (by first | assumption | ((repeat (first | exact up_hit | refine up_nv (by decide) ?_ | refine up_mv (by first | decide | omega) ?_)) <;> first | assumption | rfl)) rfl ?_
  refine g_iconst (p0 := 98) (v := nI 2) dX10_corrections_97 rfl rfl ?_
  first | ((with_reducible refine isN2 ?_); refine g_icmpN_ne (tgt := 188) (p1 := 101) dX10_corrections_98 rfl (by omega) (by omega) rfl (fun c_98 => by exfalso; first | omega | contradiction | exact hw c_98 | exact c_98 hw) (fun c_98 => ?_)) | refine g_icmp_ne (tgt := 188) (p1 := 101) dX10_corrections_98 rfl rfl (fun c_98 => by exfalso; first | omega | contradiction | exact hw c_98 | exact c_98 hw) (fun c_98 => ?_)
  refine g_iload (p0 := 103) dX10_corrections_101 rfl rfl ?_
  refine g_iload (p0 := 105) dX10_corrections_103 rfl rfl ?_
  refine g_cS2R (p0 := 108) (r1 := mX10_areGood) dX10_corrections_105 (Or.inl lX10_134) vX10_areGood (FITi rfl rfl) (Nat.le_of_ble_eq_true rfl) (hag) rfl ?_
  first | ((with_reducible refine isN1 ?_); refine g_ifN_eq (tgt := 188) (p1 := 111) dX10_corrections_108 rfl (by omega) rfl (fun c_108 => by exfalso; first | omega | contradiction | exact hw c_108 | exact c_108 hw) (fun c_108 => ?_)) | refine g_if_eq (tgt := 188) (p1 := 111) dX10_corrections_108 rfl rfl (fun c_108 => by exfalso; first | omega | contradiction | exact hw c_108 | exact c_108 hw) (fun c_108 => ?_)
  refine g_aload_n (p0 := 112) (i := 0) dX10_corrections_111 rfl rfl rfl ?_
  refine g_iload_n (p0 := 113) (i := 1) dX10_corrections_112 rfl rfl rfl ?_
  refine g_iload (p0 := 115) dX10_corrections_113 rfl rfl ?_
  refine g_aload_n (p0 := 116) (i := 0) dX10_corrections_115 rfl rfl rfl ?_
  refine g_iload (p0 := 118) dX10_corrections_116 rfl rfl ?_
  refine g_iload (p0 := 120) dX10_corrections_118 rfl rfl ?_
  refine g_cV2R (p0 := 123) (r1 := mX10_letterAt) dX10_corrections_120 lX10_138 vX10_letterAt (by first | rfl | assumption | exact RW.s (by assumption) | exact TW.s (by assumption)) ⟨_, _, rfl⟩ (FITi rfl rfl) (Nat.le_of_ble_eq_true rfl) (hla _ rfl) rfl ?_
  refine g_cV3R (p0 := 126) (r1 := mX10_isRight) dX10_corrections_123 lX10_155 vX10_isRight (by first | rfl | assumption | exact RW.s (by assumption) | exact TW.s (by assumption)) ⟨_, _, rfl⟩ (FITi rfl rfl) (Nat.le_of_ble_eq_true rfl) (hrt) rfl ?_
  first | ((with_reducible refine isN1 ?_); refine g_ifN_eq (tgt := 188) (p1 := 129) dX10_corrections_126 rfl (by omega) rfl (fun c_126 => by exfalso; first | omega | contradiction | exact hw c_126 | exact c_126 hw) (fun c_126 => ?_)) | refine g_if_eq (tgt := 188) (p1 := 129) dX10_corrections_126 rfl rfl (fun c_126 => by exfalso; first | omega | contradiction | exact hw c_126 | exact c_126 hw) (fun c_126 => ?_)
  refine g_iload_n (p0 := 130) (i := 3) dX10_corrections_129 rfl rfl rfl ?_
  refine g_iload_n (p0 := 131) (i := 2) dX10_corrections_130 rfl rfl rfl ?_
  first | ((with_reducible refine isN2 ?_); refine g_icmpN_ne (tgt := 185) (p1 := 134) dX10_corrections_131 rfl (by omega) (by omega) rfl (fun c_131 => by exfalso; first | omega | contradiction | exact hw c_131 | exact c_131 hw) (fun c_131 => ?_)) | refine g_icmp_ne (tgt := 185) (p1 := 134) dX10_corrections_131 rfl rfl (fun c_131 => by exfalso; first | omega | contradiction | exact hw c_131 | exact c_131 hw) (fun c_131 => ?_)
  refine g_aload_n (p0 := 135) (i := 0) dX10_corrections_134 rfl rfl rfl ?_
  refine g_getR (p0 := 138) dX10_corrections_135 fX10_58 (by first | rfl | assumption | exact RW.s (by assumption) | exact TW.s (by assumption)) rfl rfl ?_
  refine g_iconst (p0 := 139) (v := nI 0) dX10_corrections_138 rfl rfl ?_
  refine g_iload (p0 := 141) dX10_corrections_139 rfl rfl ?_
  refine g_aload_n (p0 := 142) (i := 0) dX10_corrections_141 rfl rfl rfl ?_
  refine g_getR (p0 := 145) dX10_corrections_142 fX10_46 (by first | rfl | assumption | exact RW.s (by assumption) | exact TW.s (by assumption)) rfl rfl ?_
  refine g_iload_n (p0 := 146) (i := 1) dX10_corrections_145 rfl rfl rfl ?_
  first | ((with_reducible refine isN1 ?_); refine g_aldN (p0 := 147) dX10_corrections_146 (by first | rfl | assumption | exact RW.s (by assumption) | exact TW.s (by assumption)) (by first | decide | assumption) (by omega) (by first | assumption | ((repeat (first | exact up_hit | refine up_nv (by decide) ?_ | refine up_mv (by first | decide | omega) ?_)) <;> first | assumption | rfl)) rfl ?_) | refine g_ald (p0 := 147) dX10_corrections_146 (by first | rfl | assumption | exact RW.s (by assumption) | exact TW.s (by assumption)) (by assumption) (by first | assumption | ((repeat (first | exact up_hit | refine up_nv (by decide) ?_ | refine up_mv (by first | decide | omega) ?_)) <;> first | assumption | rfl)) rfl ?_
  first | ((with_reducible refine isN2 ?_); refine g_isubN (p0 := 148) dX10_corrections_147 (by omega) rfl ?_) | refine g_isub (p0 := 148) dX10_corrections_147 rfl ?_
  first | ((with_reducible refine isNS ?_); refine g_astN (p0 := 149) dX10_corrections_148 (by first | rfl | assumption | exact RW.s (by assumption) | exact TW.s (by assumption)) (by first | decide | assumption) (by omega) rfl ?_) | refine g_ast (p0 := 149) dX10_corrections_148 (by first | rfl | assumption | exact RW.s (by assumption) | exact TW.s (by assumption)) (by assumption) rfl ?_
  refine g_aload_n (p0 := 150) (i := 0) dX10_corrections_149 rfl rfl rfl ?_
  refine g_getR (p0 := 153) dX10_corrections_150 fX10_58 (by first | rfl | assumption | exact RW.s (by assumption) | exact TW.s (by assumption)) rfl rfl ?_
  refine g_iconst (p0 := 154) (v := nI 1) dX10_corrections_153 rfl rfl ?_
  refine g_iload (p0 := 156) dX10_corrections_154 rfl rfl ?_
  refine g_iconst (p0 := 157) (v := nI 2) dX10_corrections_156 rfl rfl ?_
  first | ((with_reducible refine isN2 ?_); refine g_idivN (p0 := 158) dX10_corrections_157 (by omega) (by omega) (by omega) rfl ?_) | refine g_idiv (p0 := 158) dX10_corrections_157 (by decide) rfl ?_
  first | ((with_reducible refine isNS ?_); refine g_astN (p0 := 159) dX10_corrections_158 (by first | rfl | assumption | exact RW.s (by assumption) | exact TW.s (by assumption)) (by first | decide | assumption) (by omega) rfl ?_) | refine g_ast (p0 := 159) dX10_corrections_158 (by first | rfl | assumption | exact RW.s (by assumption) | exact TW.s (by assumption)) (by assumption) rfl ?_
  refine g_aload_n (p0 := 160) (i := 0) dX10_corrections_159 rfl rfl rfl ?_
  refine g_getR (p0 := 163) dX10_corrections_160 fX10_58 (by first | rfl | assumption | exact RW.s (by assumption) | exact TW.s (by assumption)) rfl rfl ?_
  refine g_iconst (p0 := 164) (v := nI 2) dX10_corrections_163 rfl rfl ?_
  refine g_iconst (p0 := 165) (v := nI 1) dX10_corrections_164 rfl rfl ?_
  refine g_iload (p0 := 167) dX10_corrections_165 rfl rfl ?_
  refine g_iconst (p0 := 168) (v := nI 2) dX10_corrections_167 rfl rfl ?_
  first | ((with_reducible refine isN2 ?_); refine g_iremN (p0 := 169) dX10_corrections_168 (by omega) (by omega) (by omega) rfl ?_) | refine g_irem (p0 := 169) dX10_corrections_168 (by decide) rfl ?_
  first | ((with_reducible refine isN2 ?_); refine g_isubN (p0 := 170) dX10_corrections_169 (by omega) rfl ?_) | refine g_isub (p0 := 170) dX10_corrections_169 rfl ?_
  first | ((with_reducible refine isNS ?_); refine g_astN (p0 := 171) dX10_corrections_170 (by first | rfl | assumption | exact RW.s (by assumption) | exact TW.s (by assumption)) (by first | decide | assumption) (by omega) rfl ?_) | refine g_ast (p0 := 171) dX10_corrections_170 (by first | rfl | assumption | exact RW.s (by assumption) | exact TW.s (by assumption)) (by assumption) rfl ?_
  refine g_aload_n (p0 := 172) (i := 0) dX10_corrections_171 rfl rfl rfl ?_
  refine g_getR (p0 := 175) dX10_corrections_172 fX10_58 (by first | rfl | assumption | exact RW.s (by assumption) | exact TW.s (by assumption)) rfl rfl ?_
  refine g_iconst (p0 := 176) (v := nI 3) dX10_corrections_175 rfl rfl ?_
  refine g_aload_n (p0 := 177) (i := 0) dX10_corrections_176 rfl rfl rfl ?_
  refine g_iload (p0 := 179) dX10_corrections_177 rfl rfl ?_
  refine g_iload (p0 := 181) dX10_corrections_179 rfl rfl ?_
  refine g_cV2R (p0 := 184) (r1 := mX10_letterAt) dX10_corrections_181 lX10_138 vX10_letterAt (by first | rfl | assumption | exact RW.s (by assumption) | exact TW.s (by assumption)) ⟨_, _, rfl⟩ (FITi rfl rfl) (Nat.le_of_ble_eq_true rfl) (hla _ (by rw [up_ne (by decide), up_ne (by decide), up_ne (by decide)])) rfl ?_
  first | ((with_reducible refine isNS ?_); refine g_astN (p0 := 185) dX10_corrections_184 (by first | rfl | assumption | exact RW.s (by assumption) | exact TW.s (by assumption)) (by first | decide | assumption) (by omega) rfl ?_) | refine g_ast (p0 := 185) dX10_corrections_184 (by first | rfl | assumption | exact RW.s (by assumption) | exact TW.s (by assumption)) (by assumption) rfl ?_
  first | refine g_iinc1 (p0 := 188) (ls2 := [_, _, _, _, _, _, _, _, _]) dX10_corrections_185 rfl rfl rfl ?_ | refine g_iinc (p0 := 188) (ls2 := [_, _, _, _, _, _, _, _, _]) dX10_corrections_185 rfl rfl rfl rfl ?_
  first | refine g_iinc1 (p0 := 191) (ls2 := [_, _, _, _, _, _, _, _, _]) dX10_corrections_188 rfl rfl rfl ?_ | refine g_iinc (p0 := 191) (ls2 := [_, _, _, _, _, _, _, _, _]) dX10_corrections_188 rfl rfl rfl rfl ?_
  refine g_goto (tgt := 26) dX10_corrections_191 rfl ?_
  exact next _ _ _
set_option maxRecDepth 20000 in
set_option maxHeartbeats 2000000 in
theorem rk3_A {m l g a b cn : Nat} {w : Int32} {x6 x7 x8 : Option AV} {σ : Sg} {Q : SP} (hm : m < 160) (hl : l < 160) (hg : σ 89 l = nI g) (ha : σ 90 l = nI a) (hb : σ 91 l = nI b) (hg1 : g < 500) (ha1 : a < 500) (hb1 : b < 500) (hg2 : ¬ g = 2) (next : ∀ x6 x7 x8, WM mX10_corrections Q 26 [some (ar 79), some (ai (nI m)), some (ai w), some (ai (nI (cn))), some (ai (nI (l))), some (ai (nI (4))), x6, x7, x8] [] (σ)) : WM mX10_corrections Q 26 [some (ar 79), some (ai (nI m)), some (ai w), some (ai (nI (cn))), some (ai (nI (l))), some (ai (nI (3))), x6, x7, x8] [] σ := by
  refine g_iload (p0 := 28) dX10_corrections_26 rfl rfl ?_
  refine g_iconst (p0 := 29) (v := nI 4) dX10_corrections_28 rfl rfl ?_
  first | ((with_reducible refine isN2 ?_); refine g_icmpN_ge (tgt := 194) (p1 := 32) dX10_corrections_29 rfl (by omega) (by omega) rfl (fun c_29 => by exfalso; first | omega | contradiction | exact hw c_29 | exact c_29 hw) (fun c_29 => ?_)) | refine g_icmp_ge (tgt := 194) (p1 := 32) dX10_corrections_29 rfl rfl (fun c_29 => by exfalso; first | omega | contradiction | exact hw c_29 | exact c_29 hw) (fun c_29 => ?_)
  refine g_iload (p0 := 34) dX10_corrections_32 rfl rfl ?_
  refine g_iconst (p0 := 35) (v := nI 2) dX10_corrections_34 rfl rfl ?_
  first | ((with_reducible refine isN2 ?_); refine g_iremN (p0 := 36) dX10_corrections_35 (by omega) (by omega) (by omega) rfl ?_) | refine g_irem (p0 := 36) dX10_corrections_35 (by decide) rfl ?_
  first | ((with_reducible refine isN1 ?_); refine g_ifN_ne (tgt := 43) (p1 := 39) dX10_corrections_36 rfl (by omega) rfl (fun c_36 => ?_) (fun c_36 => by exfalso; first | omega | contradiction | exact hw c_36 | exact c_36 hw)) | refine g_if_ne (tgt := 43) (p1 := 39) dX10_corrections_36 rfl rfl (fun c_36 => ?_) (fun c_36 => by exfalso; first | omega | contradiction | exact hw c_36 | exact c_36 hw)
  refine g_iconst (p0 := 44) (v := -1) dX10_corrections_43 rfl rfl ?_
  refine g_istore (p0 := 46) (i := 6) (ls2 := [_, _, _, _, _, _, _, _, _]) dX10_corrections_44 (Nat.le_of_ble_eq_true rfl) rfl rfl ?_
  refine g_aload_n (p0 := 47) (i := 0) dX10_corrections_46 rfl rfl rfl ?_
  refine g_getR (p0 := 50) dX10_corrections_47 fX10_40 (by first | rfl | assumption | exact RW.s (by assumption) | exact TW.s (by assumption)) rfl rfl ?_
  refine g_iload (p0 := 52) dX10_corrections_50 rfl rfl ?_
  first | ((with_reducible refine isN1 ?_); refine g_aldN (p0 := 53) dX10_corrections_52 (by first | rfl | assumption | exact RW.s (by assumption) | exact TW.s (by assumption)) (by first | decide | assumption) (by omega) (by first | assumption | ((repeat (first | exact up_hit | refine up_nv (by decide) ?_ | refine up_mv (by first | decide | omega) ?_)) <;> first | assumption | rfl)) rfl ?_) | refine g_ald (p0 := 53) dX10_corrections_52 (by first | rfl | assumption | exact RW.s (by assumption) | exact TW.s (by assumption)) (by assumption) (by first | assumption | ((repeat (first | exact up_hit | refine up_nv (by decide) ?_ | refine up_mv (by first | decide | omega) ?_)) <;> first | assumption | rfl)) rfl ?_
  refine g_iload (p0 := 55) dX10_corrections_53 rfl rfl ?_
  refine g_iconst (p0 := 56) (v := nI 2) dX10_corrections_55 rfl rfl ?_
  first | ((with_reducible refine isN2 ?_); refine g_icmpN_ge (tgt := 64) (p1 := 59) dX10_corrections_56 rfl (by omega) (by omega) rfl (fun c_56 => ?_) (fun c_56 => by exfalso; first | omega | contradiction | exact hw c_56 | exact c_56 hw)) | refine g_icmp_ge (tgt := 64) (p1 := 59) dX10_corrections_56 rfl rfl (fun c_56 => ?_) (fun c_56 => by exfalso; first | omega | contradiction | exact hw c_56 | exact c_56 hw)
  refine g_iconst (p0 := 65) (v := nI 0) dX10_corrections_64 rfl rfl ?_
  first | ((with_reducible refine isN2 ?_); refine g_iaddN (p0 := 66) dX10_corrections_65 rfl ?_) | refine g_iadd (p0 := 66) dX10_corrections_65 rfl ?_
  refine g_istore (p0 := 68) (i := 7) (ls2 := [_, _, _, _, _, _, _, _, _]) dX10_corrections_66 (Nat.le_of_ble_eq_true rfl) rfl rfl ?_
  refine g_aload_n (p0 := 69) (i := 0) dX10_corrections_68 rfl rfl rfl ?_
  refine g_getR (p0 := 72) dX10_corrections_69 fX10_43 (by first | rfl | assumption | exact RW.s (by assumption) | exact TW.s (by assumption)) rfl rfl ?_
  refine g_iload (p0 := 74) dX10_corrections_72 rfl rfl ?_
  first | ((with_reducible refine isN1 ?_); refine g_aldN (p0 := 75) dX10_corrections_74 (by first | rfl | assumption | exact RW.s (by assumption) | exact TW.s (by assumption)) (by first | decide | assumption) (by omega) (by first | assumption | ((repeat (first | exact up_hit | refine up_nv (by decide) ?_ | refine up_mv (by first | decide | omega) ?_)) <;> first | assumption | rfl)) rfl ?_) | refine g_ald (p0 := 75) dX10_corrections_74 (by first | rfl | assumption | exact RW.s (by assumption) | exact TW.s (by assumption)) (by assumption) (by first | assumption | ((repeat (first | exact up_hit | refine up_nv (by decide) ?_ | refine up_mv (by first | decide | omega) ?_)) <;> first | assumption | rfl)) rfl ?_
  refine g_iload (p0 := 77) dX10_corrections_75 rfl rfl ?_
  refine g_iconst (p0 := 78) (v := nI 2) dX10_corrections_77 rfl rfl ?_
  first | ((with_reducible refine isN2 ?_); refine g_icmpN_ge (tgt := 85) (p1 := 81) dX10_corrections_78 rfl (by omega) (by omega) rfl (fun c_78 => ?_) (fun c_78 => by exfalso; first | omega | contradiction | exact hw c_78 | exact c_78 hw)) | refine g_icmp_ge (tgt := 85) (p1 := 81) dX10_corrections_78 rfl rfl (fun c_78 => ?_) (fun c_78 => by exfalso; first | omega | contradiction | exact hw c_78 | exact c_78 hw)
  refine g_iload (p0 := 87) dX10_corrections_85 rfl rfl ?_
  first | ((with_reducible refine isN2 ?_); refine g_iaddN (p0 := 88) dX10_corrections_87 rfl ?_) | refine g_iadd (p0 := 88) dX10_corrections_87 rfl ?_
  refine g_istore (p0 := 90) (i := 8) (ls2 := [_, _, _, _, _, _, _, _, _]) dX10_corrections_88 (Nat.le_of_ble_eq_true rfl) rfl rfl ?_
  refine g_aload_n (p0 := 91) (i := 0) dX10_corrections_90 rfl rfl rfl ?_
  refine g_getR (p0 := 94) dX10_corrections_91 fX10_37 (by first | rfl | assumption | exact RW.s (by assumption) | exact TW.s (by assumption)) rfl rfl ?_
  refine g_iload (p0 := 96) dX10_corrections_94 rfl rfl ?_
  first | ((with_reducible refine isN1 ?_); refine g_aldN (p0 := 97) dX10_corrections_96 (by first | rfl | assumption | exact RW.s (by assumption) | exact TW.s (by assumption)) (by first | decide | assumption) (by omega) (by first | assumption | ((repeat (first | exact up_hit | refine up_nv (by decide) ?_ | refine up_mv (by first | decide | omega) ?_)) <;> first | assumption | rfl)) rfl ?_) | refine g_ald (p0 := 97) dX10_corrections_96 (by first | rfl | assumption | exact RW.s (by assumption) | exact TW.s (by assumption)) (by assumption) (by first | assumption | ((repeat (first | exact up_hit | refine up_nv (by decide) ?_ | refine up_mv (by first | decide | omega) ?_)) <;> first | assumption | rfl)) rfl ?_
  refine g_iconst (p0 := 98) (v := nI 2) dX10_corrections_97 rfl rfl ?_
  first | ((with_reducible refine isN2 ?_); refine g_icmpN_ne (tgt := 188) (p1 := 101) dX10_corrections_98 rfl (by omega) (by omega) rfl (fun c_98 => ?_) (fun c_98 => by exfalso; first | omega | contradiction | exact hw c_98 | exact c_98 hw)) | refine g_icmp_ne (tgt := 188) (p1 := 101) dX10_corrections_98 rfl rfl (fun c_98 => ?_) (fun c_98 => by exfalso; first | omega | contradiction | exact hw c_98 | exact c_98 hw)
  first | refine g_iinc1 (p0 := 191) (ls2 := [_, _, _, _, _, _, _, _, _]) dX10_corrections_188 rfl rfl rfl ?_ | refine g_iinc (p0 := 191) (ls2 := [_, _, _, _, _, _, _, _, _]) dX10_corrections_188 rfl rfl rfl rfl ?_
  refine g_goto (tgt := 26) dX10_corrections_191 rfl ?_
  exact next _ _ _
set_option maxRecDepth 20000 in
set_option maxHeartbeats 2000000 in
theorem rk3_B {m l g a b cn : Nat} {w : Int32} {x6 x7 x8 : Option AV} {σ : Sg} {Q : SP} (hm : m < 160) (hl : l < 160) (hg : σ 89 l = nI g) (ha : σ 90 l = nI a) (hb : σ 91 l = nI b) (hg1 : g < 500) (ha1 : a < 500) (hb1 : b < 500) (hg2 : g = 2) (hp : 1 ≤ b) (hag : CM mX10_areGood [ai (nI (a + 0)), ai (nI (b - 1))] σ (Ret (nI 0) σ)) (next : ∀ x6 x7 x8, WM mX10_corrections Q 26 [some (ar 79), some (ai (nI m)), some (ai w), some (ai (nI (cn))), some (ai (nI (l))), some (ai (nI (4))), x6, x7, x8] [] (σ)) : WM mX10_corrections Q 26 [some (ar 79), some (ai (nI m)), some (ai w), some (ai (nI (cn))), some (ai (nI (l))), some (ai (nI (3))), x6, x7, x8] [] σ := by
  refine g_iload (p0 := 28) dX10_corrections_26 rfl rfl ?_
  refine g_iconst (p0 := 29) (v := nI 4) dX10_corrections_28 rfl rfl ?_
  first | ((with_reducible refine isN2 ?_); refine g_icmpN_ge (tgt := 194) (p1 := 32) dX10_corrections_29 rfl (by omega) (by omega) rfl (fun c_29 => by exfalso; first | omega | contradiction | exact hw c_29 | exact c_29 hw) (fun c_29 => ?_)) | refine g_icmp_ge (tgt := 194) (p1 := 32) dX10_corrections_29 rfl rfl (fun c_29 => by exfalso; first | omega | contradiction | exact hw c_29 | exact c_29 hw) (fun c_29 => ?_)
  refine g_iload (p0 := 34) dX10_corrections_32 rfl rfl ?_
  refine g_iconst (p0 := 35) (v := nI 2) dX10_corrections_34 rfl rfl ?_
  first | ((with_reducible refine isN2 ?_); refine g_iremN (p0 := 36) dX10_corrections_35 (by omega) (by omega) (by omega) rfl ?_) | refine g_irem (p0 := 36) dX10_corrections_35 (by decide) rfl ?_
  first | ((with_reducible refine isN1 ?_); refine g_ifN_ne (tgt := 43) (p1 := 39) dX10_corrections_36 rfl (by omega) rfl (fun c_36 => ?_) (fun c_36 => by exfalso; first | omega | contradiction | exact hw c_36 | exact c_36 hw)) | refine g_if_ne (tgt := 43) (p1 := 39) dX10_corrections_36 rfl rfl (fun c_36 => ?_) (fun c_36 => by exfalso; first | omega | contradiction | exact hw c_36 | exact c_36 hw)
  refine g_iconst (p0 := 44) (v := -1) dX10_corrections_43 rfl rfl ?_
  refine g_istore (p0 := 46) (i := 6) (ls2 := [_, _, _, _, _, _, _, _, _]) dX10_corrections_44 (Nat.le_of_ble_eq_true rfl) rfl rfl ?_
  refine g_aload_n (p0 := 47) (i := 0) dX10_corrections_46 rfl rfl rfl ?_
  refine g_getR (p0 := 50) dX10_corrections_47 fX10_40 (by first | rfl | assumption | exact RW.s (by assumption) | exact TW.s (by assumption)) rfl rfl ?_
  refine g_iload (p0 := 52) dX10_corrections_50 rfl rfl ?_
  first | ((with_reducible refine isN1 ?_); refine g_aldN (p0 := 53) dX10_corrections_52 (by first | rfl | assumption | exact RW.s (by assumption) | exact TW.s (by assumption)) (by first | decide | assumption) (by omega) (by first | assumption | ((repeat (first | exact up_hit | refine up_nv (by decide) ?_ | refine up_mv (by first | decide | omega) ?_)) <;> first | assumption | rfl)) rfl ?_) | refine g_ald (p0 := 53) dX10_corrections_52 (by first | rfl | assumption | exact RW.s (by assumption) | exact TW.s (by assumption)) (by assumption) (by first | assumption | ((repeat (first | exact up_hit | refine up_nv (by decide) ?_ | refine up_mv (by first | decide | omega) ?_)) <;> first | assumption | rfl)) rfl ?_
  refine g_iload (p0 := 55) dX10_corrections_53 rfl rfl ?_
  refine g_iconst (p0 := 56) (v := nI 2) dX10_corrections_55 rfl rfl ?_
  first | ((with_reducible refine isN2 ?_); refine g_icmpN_ge (tgt := 64) (p1 := 59) dX10_corrections_56 rfl (by omega) (by omega) rfl (fun c_56 => ?_) (fun c_56 => by exfalso; first | omega | contradiction | exact hw c_56 | exact c_56 hw)) | refine g_icmp_ge (tgt := 64) (p1 := 59) dX10_corrections_56 rfl rfl (fun c_56 => ?_) (fun c_56 => by exfalso; first | omega | contradiction | exact hw c_56 | exact c_56 hw)
  refine g_iconst (p0 := 65) (v := nI 0) dX10_corrections_64 rfl rfl ?_
  first | ((with_reducible refine isN2 ?_); refine g_iaddN (p0 := 66) dX10_corrections_65 rfl ?_) | refine g_iadd (p0 := 66) dX10_corrections_65 rfl ?_
  refine g_istore (p0 := 68) (i := 7) (ls2 := [_, _, _, _, _, _, _, _, _]) dX10_corrections_66 (Nat.le_of_ble_eq_true rfl) rfl rfl ?_
  refine g_aload_n (p0 := 69) (i := 0) dX10_corrections_68 rfl rfl rfl ?_
  refine g_getR (p0 := 72) dX10_corrections_69 fX10_43 (by first | rfl | assumption | exact RW.s (by assumption) | exact TW.s (by assumption)) rfl rfl ?_
  refine g_iload (p0 := 74) dX10_corrections_72 rfl rfl ?_
  first | ((with_reducible refine isN1 ?_); refine g_aldN (p0 := 75) dX10_corrections_74 (by first | rfl | assumption | exact RW.s (by assumption) | exact TW.s (by assumption)) (by first | decide | assumption) (by omega) (by first | assumption | ((repeat (first | exact up_hit | refine up_nv (by decide) ?_ | refine up_mv (by first | decide | omega) ?_)) <;> first | assumption | rfl)) rfl ?_) | refine g_ald (p0 := 75) dX10_corrections_74 (by first | rfl | assumption | exact RW.s (by assumption) | exact TW.s (by assumption)) (by assumption) (by first | assumption | ((repeat (first | exact up_hit | refine up_nv (by decide) ?_ | refine up_mv (by first | decide | omega) ?_)) <;> first | assumption | rfl)) rfl ?_
  refine g_iload (p0 := 77) dX10_corrections_75 rfl rfl ?_
  refine g_iconst (p0 := 78) (v := nI 2) dX10_corrections_77 rfl rfl ?_
  first | ((with_reducible refine isN2 ?_); refine g_icmpN_ge (tgt := 85) (p1 := 81) dX10_corrections_78 rfl (by omega) (by omega) rfl (fun c_78 => ?_) (fun c_78 => by exfalso; first | omega | contradiction | exact hw c_78 | exact c_78 hw)) | refine g_icmp_ge (tgt := 85) (p1 := 81) dX10_corrections_78 rfl rfl (fun c_78 => ?_) (fun c_78 => by exfalso; first | omega | contradiction | exact hw c_78 | exact c_78 hw)
  refine g_iload (p0 := 87) dX10_corrections_85 rfl rfl ?_
  first | ((with_reducible refine isN2 ?_); refine g_iaddN (p0 := 88) dX10_corrections_87 rfl ?_) | refine g_iadd (p0 := 88) dX10_corrections_87 rfl ?_
  rw [nI_m1 hp]
  refine g_istore (p0 := 90) (i := 8) (ls2 := [_, _, _, _, _, _, _, _, _]) dX10_corrections_88 (Nat.le_of_ble_eq_true rfl) rfl rfl ?_
  refine g_aload_n (p0 := 91) (i := 0) dX10_corrections_90 rfl rfl rfl ?_
  refine g_getR (p0 := 94) dX10_corrections_91 fX10_37 (by first | rfl | assumption | exact RW.s (by assumption) | exact TW.s (by assumption)) rfl rfl ?_
  refine g_iload (p0 := 96) dX10_corrections_94 rfl rfl ?_
  first | ((with_reducible refine isN1 ?_); refine g_aldN (p0 := 97) dX10_corrections_96 (by first | rfl | assumption | exact RW.s (by assumption) | exact TW.s (by assumption)) (by first | decide | assumption) (by omega) (by first | assumption | ((repeat (first | exact up_hit | refine up_nv (by decide) ?_ | refine up_mv (by first | decide | omega) ?_)) <;> first | assumption | rfl)) rfl ?_) | refine g_ald (p0 := 97) dX10_corrections_96 (by first | rfl | assumption | exact RW.s (by assumption) | exact TW.s (by assumption)) (by assumption) (by first | assumption | ((repeat (first | exact up_hit | refine up_nv (by decide) ?_ | refine up_mv (by first | decide | omega) ?_)) <;> first | assumption | rfl)) rfl ?_
  refine g_iconst (p0 := 98) (v := nI 2) dX10_corrections_97 rfl rfl ?_
  first | ((with_reducible refine isN2 ?_); refine g_icmpN_ne (tgt := 188) (p1 := 101) dX10_corrections_98 rfl (by omega) (by omega) rfl (fun c_98 => by exfalso; first | omega | contradiction | exact hw c_98 | exact c_98 hw) (fun c_98 => ?_)) | refine g_icmp_ne (tgt := 188) (p1 := 101) dX10_corrections_98 rfl rfl (fun c_98 => by exfalso; first | omega | contradiction | exact hw c_98 | exact c_98 hw) (fun c_98 => ?_)
  refine g_iload (p0 := 103) dX10_corrections_101 rfl rfl ?_
  refine g_iload (p0 := 105) dX10_corrections_103 rfl rfl ?_
  refine g_cS2R (p0 := 108) (r1 := mX10_areGood) dX10_corrections_105 (Or.inl lX10_134) vX10_areGood (FITi rfl rfl) (Nat.le_of_ble_eq_true rfl) (hag) rfl ?_
  first | ((with_reducible refine isN1 ?_); refine g_ifN_eq (tgt := 188) (p1 := 111) dX10_corrections_108 rfl (by omega) rfl (fun c_108 => ?_) (fun c_108 => by exfalso; first | omega | contradiction | exact hw c_108 | exact c_108 hw)) | refine g_if_eq (tgt := 188) (p1 := 111) dX10_corrections_108 rfl rfl (fun c_108 => ?_) (fun c_108 => by exfalso; first | omega | contradiction | exact hw c_108 | exact c_108 hw)
  first | refine g_iinc1 (p0 := 191) (ls2 := [_, _, _, _, _, _, _, _, _]) dX10_corrections_188 rfl rfl rfl ?_ | refine g_iinc (p0 := 191) (ls2 := [_, _, _, _, _, _, _, _, _]) dX10_corrections_188 rfl rfl rfl rfl ?_
  refine g_goto (tgt := 26) dX10_corrections_191 rfl ?_
  exact next _ _ _
set_option maxRecDepth 20000 in
set_option maxHeartbeats 2000000 in
theorem rk3_C {m l g a b cn : Nat} {w y : Int32} {x6 x7 x8 : Option AV} {σ : Sg} {Q : SP} (hm : m < 160) (hl : l < 160) (hg : σ 89 l = nI g) (ha : σ 90 l = nI a) (hb : σ 91 l = nI b) (hg1 : g < 500) (ha1 : a < 500) (hb1 : b < 500) (hg2 : g = 2) (hp : 1 ≤ b) (hag : CM mX10_areGood [ai (nI (a + 0)), ai (nI (b - 1))] σ (Ret (nI 1) σ)) (hla : ∀ σ1 : Sg, σ1 80 = σ 80 → CM mX10_letterAt [ar 79, ai (nI (a + 0)), ai (nI (b - 1))] σ1 (Ret y σ1)) (hrt : CM mX10_isRight [ar 79, ai (nI m), ai (nI l), ai y] σ (Ret (nI 0) σ)) (next : ∀ x6 x7 x8, WM mX10_corrections Q 26 [some (ar 79), some (ai (nI m)), some (ai w), some (ai (nI (cn))), some (ai (nI (l))), some (ai (nI (4))), x6, x7, x8] [] (σ)) : WM mX10_corrections Q 26 [some (ar 79), some (ai (nI m)), some (ai w), some (ai (nI (cn))), some (ai (nI (l))), some (ai (nI (3))), x6, x7, x8] [] σ := by
  refine g_iload (p0 := 28) dX10_corrections_26 rfl rfl ?_
  refine g_iconst (p0 := 29) (v := nI 4) dX10_corrections_28 rfl rfl ?_
  first | ((with_reducible refine isN2 ?_); refine g_icmpN_ge (tgt := 194) (p1 := 32) dX10_corrections_29 rfl (by omega) (by omega) rfl (fun c_29 => by exfalso; first | omega | contradiction | exact hw c_29 | exact c_29 hw) (fun c_29 => ?_)) | refine g_icmp_ge (tgt := 194) (p1 := 32) dX10_corrections_29 rfl rfl (fun c_29 => by exfalso; first | omega | contradiction | exact hw c_29 | exact c_29 hw) (fun c_29 => ?_)
  refine g_iload (p0 := 34) dX10_corrections_32 rfl rfl ?_
  refine g_iconst (p0 := 35) (v := nI 2) dX10_corrections_34 rfl rfl ?_
  first | ((with_reducible refine isN2 ?_); refine g_iremN (p0 := 36) dX10_corrections_35 (by omega) (by omega) (by omega) rfl ?_) | refine g_irem (p0 := 36) dX10_corrections_35 (by decide) rfl ?_
  first | ((with_reducible refine isN1 ?_); refine g_ifN_ne (tgt := 43) (p1 := 39) dX10_corrections_36 rfl (by omega) rfl (fun c_36 => ?_) (fun c_36 => by exfalso; first | omega | contradiction | exact hw c_36 | exact c_36 hw)) | refine g_if_ne (tgt := 43) (p1 := 39) dX10_corrections_36 rfl rfl (fun c_36 => ?_) (fun c_36 => by exfalso; first | omega | contradiction | exact hw c_36 | exact c_36 hw)
  refine g_iconst (p0 := 44) (v := -1) dX10_corrections_43 rfl rfl ?_
  refine g_istore (p0 := 46) (i := 6) (ls2 := [_, _, _, _, _, _, _, _, _]) dX10_corrections_44 (Nat.le_of_ble_eq_true rfl) rfl rfl ?_
  refine g_aload_n (p0 := 47) (i := 0) dX10_corrections_46 rfl rfl rfl ?_
  refine g_getR (p0 := 50) dX10_corrections_47 fX10_40 (by first | rfl | assumption | exact RW.s (by assumption) | exact TW.s (by assumption)) rfl rfl ?_
  refine g_iload (p0 := 52) dX10_corrections_50 rfl rfl ?_
  first | ((with_reducible refine isN1 ?_); refine g_aldN (p0 := 53) dX10_corrections_52 (by first | rfl | assumption | exact RW.s (by assumption) | exact TW.s (by assumption)) (by first | decide | assumption) (by omega) (by first | assumption | ((repeat (first | exact up_hit | refine up_nv (by decide) ?_ | refine up_mv (by first | decide | omega) ?_)) <;> first | assumption | rfl)) rfl ?_) | refine g_ald (p0 := 53) dX10_corrections_52 (by first | rfl | assumption | exact RW.s (by assumption) | exact TW.s (by assumption)) (by assumption) (by first | assumption | ((repeat (first | exact up_hit | refine up_nv (by decide) ?_ | refine up_mv (by first | decide | omega) ?_)) <;> first | assumption | rfl)) rfl ?_
  refine g_iload (p0 := 55) dX10_corrections_53 rfl rfl ?_
  refine g_iconst (p0 := 56) (v := nI 2) dX10_corrections_55 rfl rfl ?_
  first | ((with_reducible refine isN2 ?_); refine g_icmpN_ge (tgt := 64) (p1 := 59) dX10_corrections_56 rfl (by omega) (by omega) rfl (fun c_56 => ?_) (fun c_56 => by exfalso; first | omega | contradiction | exact hw c_56 | exact c_56 hw)) | refine g_icmp_ge (tgt := 64) (p1 := 59) dX10_corrections_56 rfl rfl (fun c_56 => ?_) (fun c_56 => by exfalso; first | omega | contradiction | exact hw c_56 | exact c_56 hw)
  refine g_iconst (p0 := 65) (v := nI 0) dX10_corrections_64 rfl rfl ?_
  first | ((with_reducible refine isN2 ?_); refine g_iaddN (p0 := 66) dX10_corrections_65 rfl ?_) | refine g_iadd (p0 := 66) dX10_corrections_65 rfl ?_
  refine g_istore (p0 := 68) (i := 7) (ls2 := [_, _, _, _, _, _, _, _, _]) dX10_corrections_66 (Nat.le_of_ble_eq_true rfl) rfl rfl ?_
  refine g_aload_n (p0 := 69) (i := 0) dX10_corrections_68 rfl rfl rfl ?_
  refine g_getR (p0 := 72) dX10_corrections_69 fX10_43 (by first | rfl | assumption | exact RW.s (by assumption) | exact TW.s (by assumption)) rfl rfl ?_
  refine g_iload (p0 := 74) dX10_corrections_72 rfl rfl ?_
  first | ((with_reducible refine isN1 ?_); refine g_aldN (p0 := 75) dX10_corrections_74 (by first | rfl | assumption | exact RW.s (by assumption) | exact TW.s (by assumption)) (by first | decide | assumption) (by omega) (by first | assumption | ((repeat (first | exact up_hit | refine up_nv (by decide) ?_ | refine up_mv (by first | decide | omega) ?_)) <;> first | assumption | rfl)) rfl ?_) | refine g_ald (p0 := 75) dX10_corrections_74 (by first | rfl | assumption | exact RW.s (by assumption) | exact TW.s (by assumption)) (by assumption) (by first | assumption | ((repeat (first | exact up_hit | refine up_nv (by decide) ?_ | refine up_mv (by first | decide | omega) ?_)) <;> first | assumption | rfl)) rfl ?_
  refine g_iload (p0 := 77) dX10_corrections_75 rfl rfl ?_
  refine g_iconst (p0 := 78) (v := nI 2) dX10_corrections_77 rfl rfl ?_
  first | ((with_reducible refine isN2 ?_); refine g_icmpN_ge (tgt := 85) (p1 := 81) dX10_corrections_78 rfl (by omega) (by omega) rfl (fun c_78 => ?_) (fun c_78 => by exfalso; first | omega | contradiction | exact hw c_78 | exact c_78 hw)) | refine g_icmp_ge (tgt := 85) (p1 := 81) dX10_corrections_78 rfl rfl (fun c_78 => ?_) (fun c_78 => by exfalso; first | omega | contradiction | exact hw c_78 | exact c_78 hw)
  refine g_iload (p0 := 87) dX10_corrections_85 rfl rfl ?_
  first | ((with_reducible refine isN2 ?_); refine g_iaddN (p0 := 88) dX10_corrections_87 rfl ?_) | refine g_iadd (p0 := 88) dX10_corrections_87 rfl ?_
  rw [nI_m1 hp]
  refine g_istore (p0 := 90) (i := 8) (ls2 := [_, _, _, _, _, _, _, _, _]) dX10_corrections_88 (Nat.le_of_ble_eq_true rfl) rfl rfl ?_
  refine g_aload_n (p0 := 91) (i := 0) dX10_corrections_90 rfl rfl rfl ?_
  refine g_getR (p0 := 94) dX10_corrections_91 fX10_37 (by first | rfl | assumption | exact RW.s (by assumption) | exact TW.s (by assumption)) rfl rfl ?_
  refine g_iload (p0 := 96) dX10_corrections_94 rfl rfl ?_
  first | ((with_reducible refine isN1 ?_); refine g_aldN (p0 := 97) dX10_corrections_96 (by first | rfl | assumption | exact RW.s (by assumption) | exact TW.s (by assumption)) (by first | decide | assumption) (by omega) (by first | assumption | ((repeat (first | exact up_hit | refine up_nv (by decide) ?_ | refine up_mv (by first | decide | omega) ?_)) <;> first | assumption | rfl)) rfl ?_) | refine g_ald (p0 := 97) dX10_corrections_96 (by first | rfl | assumption | exact RW.s (by assumption) | exact TW.s (by assumption)) (by assumption) (by first | assumption | ((repeat (first | exact up_hit | refine up_nv (by decide) ?_ | refine up_mv (by first | decide | omega) ?_)) <;> first | assumption | rfl)) rfl ?_
  refine g_iconst (p0 := 98) (v := nI 2) dX10_corrections_97 rfl rfl ?_
  first | ((with_reducible refine isN2 ?_); refine g_icmpN_ne (tgt := 188) (p1 := 101) dX10_corrections_98 rfl (by omega) (by omega) rfl (fun c_98 => by exfalso; first | omega | contradiction | exact hw c_98 | exact c_98 hw) (fun c_98 => ?_)) | refine g_icmp_ne (tgt := 188) (p1 := 101) dX10_corrections_98 rfl rfl (fun c_98 => by exfalso; first | omega | contradiction | exact hw c_98 | exact c_98 hw) (fun c_98 => ?_)
  refine g_iload (p0 := 103) dX10_corrections_101 rfl rfl ?_
  refine g_iload (p0 := 105) dX10_corrections_103 rfl rfl ?_
  refine g_cS2R (p0 := 108) (r1 := mX10_areGood) dX10_corrections_105 (Or.inl lX10_134) vX10_areGood (FITi rfl rfl) (Nat.le_of_ble_eq_true rfl) (hag) rfl ?_
  first | ((with_reducible refine isN1 ?_); refine g_ifN_eq (tgt := 188) (p1 := 111) dX10_corrections_108 rfl (by omega) rfl (fun c_108 => by exfalso; first | omega | contradiction | exact hw c_108 | exact c_108 hw) (fun c_108 => ?_)) | refine g_if_eq (tgt := 188) (p1 := 111) dX10_corrections_108 rfl rfl (fun c_108 => by exfalso; first | omega | contradiction | exact hw c_108 | exact c_108 hw) (fun c_108 => ?_)
  refine g_aload_n (p0 := 112) (i := 0) dX10_corrections_111 rfl rfl rfl ?_
  refine g_iload_n (p0 := 113) (i := 1) dX10_corrections_112 rfl rfl rfl ?_
  refine g_iload (p0 := 115) dX10_corrections_113 rfl rfl ?_
  refine g_aload_n (p0 := 116) (i := 0) dX10_corrections_115 rfl rfl rfl ?_
  refine g_iload (p0 := 118) dX10_corrections_116 rfl rfl ?_
  refine g_iload (p0 := 120) dX10_corrections_118 rfl rfl ?_
  refine g_cV2R (p0 := 123) (r1 := mX10_letterAt) dX10_corrections_120 lX10_138 vX10_letterAt (by first | rfl | assumption | exact RW.s (by assumption) | exact TW.s (by assumption)) ⟨_, _, rfl⟩ (FITi rfl rfl) (Nat.le_of_ble_eq_true rfl) (hla _ rfl) rfl ?_
  refine g_cV3R (p0 := 126) (r1 := mX10_isRight) dX10_corrections_123 lX10_155 vX10_isRight (by first | rfl | assumption | exact RW.s (by assumption) | exact TW.s (by assumption)) ⟨_, _, rfl⟩ (FITi rfl rfl) (Nat.le_of_ble_eq_true rfl) (hrt) rfl ?_
  first | ((with_reducible refine isN1 ?_); refine g_ifN_eq (tgt := 188) (p1 := 129) dX10_corrections_126 rfl (by omega) rfl (fun c_126 => ?_) (fun c_126 => by exfalso; first | omega | contradiction | exact hw c_126 | exact c_126 hw)) | refine g_if_eq (tgt := 188) (p1 := 129) dX10_corrections_126 rfl rfl (fun c_126 => ?_) (fun c_126 => by exfalso; first | omega | contradiction | exact hw c_126 | exact c_126 hw)
  first | refine g_iinc1 (p0 := 191) (ls2 := [_, _, _, _, _, _, _, _, _]) dX10_corrections_188 rfl rfl rfl ?_ | refine g_iinc (p0 := 191) (ls2 := [_, _, _, _, _, _, _, _, _]) dX10_corrections_188 rfl rfl rfl rfl ?_
  refine g_goto (tgt := 26) dX10_corrections_191 rfl ?_
  exact next _ _ _
set_option maxRecDepth 20000 in
set_option maxHeartbeats 2000000 in
theorem rk3_D {m l g a b cn : Nat} {w y : Int32} {x6 x7 x8 : Option AV} {σ : Sg} {Q : SP} (hm : m < 160) (hl : l < 160) (hg : σ 89 l = nI g) (ha : σ 90 l = nI a) (hb : σ 91 l = nI b) (hg1 : g < 500) (ha1 : a < 500) (hb1 : b < 500) (hg2 : g = 2) (hp : 1 ≤ b) (hag : CM mX10_areGood [ai (nI (a + 0)), ai (nI (b - 1))] σ (Ret (nI 1) σ)) (hla : ∀ σ1 : Sg, σ1 80 = σ 80 → CM mX10_letterAt [ar 79, ai (nI (a + 0)), ai (nI (b - 1))] σ1 (Ret y σ1)) (hrt : CM mX10_isRight [ar 79, ai (nI m), ai (nI l), ai y] σ (Ret (nI 1) σ)) (hw : ¬ nI cn = w) (next : ∀ x6 x7 x8, WM mX10_corrections Q 26 [some (ar 79), some (ai (nI m)), some (ai w), some (ai (nI (cn + 1))), some (ai (nI (l))), some (ai (nI (4))), x6, x7, x8] [] (σ)) : WM mX10_corrections Q 26 [some (ar 79), some (ai (nI m)), some (ai w), some (ai (nI (cn))), some (ai (nI (l))), some (ai (nI (3))), x6, x7, x8] [] σ := by
  refine g_iload (p0 := 28) dX10_corrections_26 rfl rfl ?_
  refine g_iconst (p0 := 29) (v := nI 4) dX10_corrections_28 rfl rfl ?_
  first | ((with_reducible refine isN2 ?_); refine g_icmpN_ge (tgt := 194) (p1 := 32) dX10_corrections_29 rfl (by omega) (by omega) rfl (fun c_29 => by exfalso; first | omega | contradiction | exact hw c_29 | exact c_29 hw) (fun c_29 => ?_)) | refine g_icmp_ge (tgt := 194) (p1 := 32) dX10_corrections_29 rfl rfl (fun c_29 => by exfalso; first | omega | contradiction | exact hw c_29 | exact c_29 hw) (fun c_29 => ?_)
  refine g_iload (p0 := 34) dX10_corrections_32 rfl rfl ?_
  refine g_iconst (p0 := 35) (v := nI 2) dX10_corrections_34 rfl rfl ?_
  first | ((with_reducible refine isN2 ?_); refine g_iremN (p0 := 36) dX10_corrections_35 (by omega) (by omega) (by omega) rfl ?_) | refine g_irem (p0 := 36) dX10_corrections_35 (by decide) rfl ?_
  first | ((with_reducible refine isN1 ?_); refine g_ifN_ne (tgt := 43) (p1 := 39) dX10_corrections_36 rfl (by omega) rfl (fun c_36 => ?_) (fun c_36 => by exfalso; first | omega | contradiction | exact hw c_36 | exact c_36 hw)) | refine g_if_ne (tgt := 43) (p1 := 39) dX10_corrections_36 rfl rfl (fun c_36 => ?_) (fun c_36 => by exfalso; first | omega | contradiction | exact hw c_36 | exact c_36 hw)
  refine g_iconst (p0 := 44) (v := -1) dX10_corrections_43 rfl rfl ?_
  refine g_istore (p0 := 46) (i := 6) (ls2 := [_, _, _, _, _, _, _, _, _]) dX10_corrections_44 (Nat.le_of_ble_eq_true rfl) rfl rfl ?_
  refine g_aload_n (p0 := 47) (i := 0) dX10_corrections_46 rfl rfl rfl ?_
  refine g_getR (p0 := 50) dX10_corrections_47 fX10_40 (by first | rfl | assumption | exact RW.s (by assumption) | exact TW.s (by assumption)) rfl rfl ?_
  refine g_iload (p0 := 52) dX10_corrections_50 rfl rfl ?_
  first | ((with_reducible refine isN1 ?_); refine g_aldN (p0 := 53) dX10_corrections_52 (by first | rfl | assumption | exact RW.s (by assumption) | exact TW.s (by assumption)) (by first | decide | assumption) (by omega) (by first | assumption | ((repeat (first | exact up_hit | refine up_nv (by decide) ?_ | refine up_mv (by first | decide | omega) ?_)) <;> first | assumption | rfl)) rfl ?_) | refine g_ald (p0 := 53) dX10_corrections_52 (by first | rfl | assumption | exact RW.s (by assumption) | exact TW.s (by assumption)) (by assumption) (by first | assumption | ((repeat (first | exact up_hit | refine up_nv (by decide) ?_ | refine up_mv (by first | decide | omega) ?_)) <;> first | assumption | rfl)) rfl ?_
  refine g_iload (p0 := 55) dX10_corrections_53 rfl rfl ?_
  refine g_iconst (p0 := 56) (v := nI 2) dX10_corrections_55 rfl rfl ?_
  first | ((with_reducible refine isN2 ?_); refine g_icmpN_ge (tgt := 64) (p1 := 59) dX10_corrections_56 rfl (by omega) (by omega) rfl (fun c_56 => ?_) (fun c_56 => by exfalso; first | omega | contradiction | exact hw c_56 | exact c_56 hw)) | refine g_icmp_ge (tgt := 64) (p1 := 59) dX10_corrections_56 rfl rfl (fun c_56 => ?_) (fun c_56 => by exfalso; first | omega | contradiction | exact hw c_56 | exact c_56 hw)
  refine g_iconst (p0 := 65) (v := nI 0) dX10_corrections_64 rfl rfl ?_
  first | ((with_reducible refine isN2 ?_); refine g_iaddN (p0 := 66) dX10_corrections_65 rfl ?_) | refine g_iadd (p0 := 66) dX10_corrections_65 rfl ?_
  refine g_istore (p0 := 68) (i := 7) (ls2 := [_, _, _, _, _, _, _, _, _]) dX10_corrections_66 (Nat.le_of_ble_eq_true rfl) rfl rfl ?_
  refine g_aload_n (p0 := 69) (i := 0) dX10_corrections_68 rfl rfl rfl ?_
  refine g_getR (p0 := 72) dX10_corrections_69 fX10_43 (by first | rfl | assumption | exact RW.s (by assumption) | exact TW.s (by assumption)) rfl rfl ?_
  refine g_iload (p0 := 74) dX10_corrections_72 rfl rfl ?_
  first | ((with_reducible refine isN1 ?_); refine g_aldN (p0 := 75) dX10_corrections_74 (by first | rfl | assumption | exact RW.s (by assumption) | exact TW.s (by assumption)) (by first | decide | assumption) (by omega) (by first | assumption | ((repeat (first | exact up_hit | refine up_nv (by decide) ?_ | refine up_mv (by first | decide | omega) ?_)) <;> first | assumption | rfl)) rfl ?_) | refine g_ald (p0 := 75) dX10_corrections_74 (by first | rfl | assumption | exact RW.s (by assumption) | exact TW.s (by assumption)) (by assumption) (by first | assumption | ((repeat (first | exact up_hit | refine up_nv (by decide) ?_ | refine up_mv (by first | decide | omega) ?_)) <;> first | assumption | rfl)) rfl ?_
  refine g_iload (p0 := 77) dX10_corrections_75 rfl rfl ?_
  refine g_iconst (p0 := 78) (v := nI 2) dX10_corrections_77 rfl rfl ?_
  first | ((with_reducible refine isN2 ?_); refine g_icmpN_ge (tgt := 85) (p1 := 81) dX10_corrections_78 rfl (by omega) (by omega) rfl (fun c_78 => ?_) (fun c_78 => by exfalso; first | omega | contradiction | exact hw c_78 | exact c_78 hw)) | refine g_icmp_ge (tgt := 85) (p1 := 81) dX10_corrections_78 rfl rfl (fun c_78 => ?_) (fun c_78 => by exfalso; first | omega | contradiction | exact hw c_78 | exact c_78 hw)
  refine g_iload (p0 := 87) dX10_corrections_85 rfl rfl ?_
  first | ((with_reducible refine isN2 ?_); refine g_iaddN (p0 := 88) dX10_corrections_87 rfl ?_) | refine g_iadd (p0 := 88) dX10_corrections_87 rfl ?_
  rw [nI_m1 hp]
  refine g_istore (p0 := 90) (i := 8) (ls2 := [_, _, _, _, _, _, _, _, _]) dX10_corrections_88 (Nat.le_of_ble_eq_true rfl) rfl rfl ?_
  refine g_aload_n (p0 := 91) (i := 0) dX10_corrections_90 rfl rfl rfl ?_
  refine g_getR (p0 := 94) dX10_corrections_91 fX10_37 (by first | rfl | assumption | exact RW.s (by assumption) | exact TW.s (by assumption)) rfl rfl ?_
  refine g_iload (p0 := 96) dX10_corrections_94 rfl rfl ?_
  first | ((with_reducible refine isN1 ?_); refine g_aldN (p0 := 97) dX10_corrections_96 (by first | rfl | assumption | exact RW.s (by assumption) | exact TW.s (by assumption)) (by first | decide | assumption) (by omega) (by first | assumption | ((repeat (first | exact up_hit | refine up_nv (by decide) ?_ | refine up_mv (by first | decide | omega) ?_)) <;> first | assumption | rfl)) rfl ?_) | refine g_ald (p0 := 97) dX10_corrections_96 (by first | rfl | assumption | exact RW.s (by assumption) | exact TW.s (by assumption)) (by assumption) (by first | assumption | ((repeat (first | exact up_hit | refine up_nv (by decide) ?_ | refine up_mv (by first | decide | omega) ?_)) <;> first | assumption | rfl)) rfl ?_
  refine g_iconst (p0 := 98) (v := nI 2) dX10_corrections_97 rfl rfl ?_
  first | ((with_reducible refine isN2 ?_); refine g_icmpN_ne (tgt := 188) (p1 := 101) dX10_corrections_98 rfl (by omega) (by omega) rfl (fun c_98 => by exfalso; first | omega | contradiction | exact hw c_98 | exact c_98 hw) (fun c_98 => ?_)) | refine g_icmp_ne (tgt := 188) (p1 := 101) dX10_corrections_98 rfl rfl (fun c_98 => by exfalso; first | omega | contradiction | exact hw c_98 | exact c_98 hw) (fun c_98 => ?_)
  refine g_iload (p0 := 103) dX10_corrections_101 rfl rfl ?_
  refine g_iload (p0 := 105) dX10_corrections_103 rfl rfl ?_
  refine g_cS2R (p0 := 108) (r1 := mX10_areGood) dX10_corrections_105 (Or.inl lX10_134) vX10_areGood (FITi rfl rfl) (Nat.le_of_ble_eq_true rfl) (hag) rfl ?_
  first | ((with_reducible refine isN1 ?_); refine g_ifN_eq (tgt := 188) (p1 := 111) dX10_corrections_108 rfl (by omega) rfl (fun c_108 => by exfalso; first | omega | contradiction | exact hw c_108 | exact c_108 hw) (fun c_108 => ?_)) | refine g_if_eq (tgt := 188) (p1 := 111) dX10_corrections_108 rfl rfl (fun c_108 => by exfalso; first | omega | contradiction | exact hw c_108 | exact c_108 hw) (fun c_108 => ?_)
  refine g_aload_n (p0 := 112) (i := 0) dX10_corrections_111 rfl rfl rfl ?_
  refine g_iload_n (p0 := 113) (i := 1) dX10_corrections_112 rfl rfl rfl ?_
  refine g_iload (p0 := 115) dX10_corrections_113 rfl rfl ?_
  refine g_aload_n (p0 := 116) (i := 0) dX10_corrections_115 rfl rfl rfl ?_
  refine g_iload (p0 := 118) dX10_corrections_116 rfl rfl ?_
  refine g_iload (p0 := 120) dX10_corrections_118 rfl rfl ?_
  refine g_cV2R (p0 := 123) (r1 := mX10_letterAt) dX10_corrections_120 lX10_138 vX10_letterAt (by first | rfl | assumption | exact RW.s (by assumption) | exact TW.s (by assumption)) ⟨_, _, rfl⟩ (FITi rfl rfl) (Nat.le_of_ble_eq_true rfl) (hla _ rfl) rfl ?_
  refine g_cV3R (p0 := 126) (r1 := mX10_isRight) dX10_corrections_123 lX10_155 vX10_isRight (by first | rfl | assumption | exact RW.s (by assumption) | exact TW.s (by assumption)) ⟨_, _, rfl⟩ (FITi rfl rfl) (Nat.le_of_ble_eq_true rfl) (hrt) rfl ?_
  first | ((with_reducible refine isN1 ?_); refine g_ifN_eq (tgt := 188) (p1 := 129) dX10_corrections_126 rfl (by omega) rfl (fun c_126 => by exfalso; first | omega | contradiction | exact hw c_126 | exact c_126 hw) (fun c_126 => ?_)) | refine g_if_eq (tgt := 188) (p1 := 129) dX10_corrections_126 rfl rfl (fun c_126 => by exfalso; first | omega | contradiction | exact hw c_126 | exact c_126 hw) (fun c_126 => ?_)
  refine g_iload_n (p0 := 130) (i := 3) dX10_corrections_129 rfl rfl rfl ?_
  refine g_iload_n (p0 := 131) (i := 2) dX10_corrections_130 rfl rfl rfl ?_
  first | ((with_reducible refine isN2 ?_); refine g_icmpN_ne (tgt := 185) (p1 := 134) dX10_corrections_131 rfl (by omega) (by omega) rfl (fun c_131 => ?_) (fun c_131 => by exfalso; first | omega | contradiction | exact hw c_131 | exact c_131 hw)) | refine g_icmp_ne (tgt := 185) (p1 := 134) dX10_corrections_131 rfl rfl (fun c_131 => ?_) (fun c_131 => by exfalso; first | omega | contradiction | exact hw c_131 | exact c_131 hw)
  first | refine g_iinc1 (p0 := 188) (ls2 := [_, _, _, _, _, _, _, _, _]) dX10_corrections_185 rfl rfl rfl ?_ | refine g_iinc (p0 := 188) (ls2 := [_, _, _, _, _, _, _, _, _]) dX10_corrections_185 rfl rfl rfl rfl ?_
  first | refine g_iinc1 (p0 := 191) (ls2 := [_, _, _, _, _, _, _, _, _]) dX10_corrections_188 rfl rfl rfl ?_ | refine g_iinc (p0 := 191) (ls2 := [_, _, _, _, _, _, _, _, _]) dX10_corrections_188 rfl rfl rfl rfl ?_
  refine g_goto (tgt := 26) dX10_corrections_191 rfl ?_
  exact next _ _ _
set_option maxRecDepth 20000 in
set_option maxHeartbeats 2000000 in
theorem rk3_E {m l f g a b cn : Nat} {w y : Int32} {x6 x7 x8 : Option AV} {σ : Sg} {Q : SP} (hm : m < 160) (hl : l < 160) (hg : σ 89 l = nI g) (ha : σ 90 l = nI a) (hb : σ 91 l = nI b) (hg1 : g < 500) (ha1 : a < 500) (hb1 : b < 500) (hg2 : g = 2) (hp : 1 ≤ b) (hag : CM mX10_areGood [ai (nI (a + 0)), ai (nI (b - 1))] σ (Ret (nI 1) σ)) (hla : ∀ σ1 : Sg, σ1 80 = σ 80 → CM mX10_letterAt [ar 79, ai (nI (a + 0)), ai (nI (b - 1))] σ1 (Ret y σ1)) (hrt : CM mX10_isRight [ar 79, ai (nI m), ai (nI l), ai y] σ (Ret (nI 1) σ)) (hw : nI cn = w) (hf : σ 92 m = nI f) (hfl : f ≤ l) (next : ∀ x6 x7 x8, WM mX10_corrections Q 26 [some (ar 79), some (ai (nI m)), some (ai w), some (ai (nI (cn + 1))), some (ai (nI (l))), some (ai (nI (4))), x6, x7, x8] [] (up (up (up (up σ 96 0 (nI (l - f))) 96 1 (nI (3 / 2))) 96 2 (nI (1 - 3 % 2))) 96 3 y)) : WM mX10_corrections Q 26 [some (ar 79), some (ai (nI m)), some (ai w), some (ai (nI (cn))), some (ai (nI (l))), some (ai (nI (3))), x6, x7, x8] [] σ := by
  refine g_iload (p0 := 28) dX10_corrections_26 rfl rfl ?_
  refine g_iconst (p0 := 29) (v := nI 4) dX10_corrections_28 rfl rfl ?_
  first | ((with_reducible refine isN2 ?_); refine g_icmpN_ge (tgt := 194) (p1 := 32) dX10_corrections_29 rfl (by omega) (by omega) rfl (fun c_29 => by exfalso; first | omega | contradiction | exact hw c_29 | exact c_29 hw) (fun c_29 => ?_)) | refine g_icmp_ge (tgt := 194) (p1 := 32) dX10_corrections_29 rfl rfl (fun c_29 => by exfalso; first | omega | contradiction | exact hw c_29 | exact c_29 hw) (fun c_29 => ?_)
  refine g_iload (p0 := 34) dX10_corrections_32 rfl rfl ?_
  refine g_iconst (p0 := 35) (v := nI 2) dX10_corrections_34 rfl rfl ?_
  first | ((with_reducible refine isN2 ?_); refine g_iremN (p0 := 36) dX10_corrections_35 (by omega) (by omega) (by omega) rfl ?_) | refine g_irem (p0 := 36) dX10_corrections_35 (by decide) rfl ?_
  first | ((with_reducible refine isN1 ?_); refine g_ifN_ne (tgt := 43) (p1 := 39) dX10_corrections_36 rfl (by omega) rfl (fun c_36 => ?_) (fun c_36 => by exfalso; first | omega | contradiction | exact hw c_36 | exact c_36 hw)) | refine g_if_ne (tgt := 43) (p1 := 39) dX10_corrections_36 rfl rfl (fun c_36 => ?_) (fun c_36 => by exfalso; first | omega | contradiction | exact hw c_36 | exact c_36 hw)
  refine g_iconst (p0 := 44) (v := -1) dX10_corrections_43 rfl rfl ?_
  refine g_istore (p0 := 46) (i := 6) (ls2 := [_, _, _, _, _, _, _, _, _]) dX10_corrections_44 (Nat.le_of_ble_eq_true rfl) rfl rfl ?_
  refine g_aload_n (p0 := 47) (i := 0) dX10_corrections_46 rfl rfl rfl ?_
  refine g_getR (p0 := 50) dX10_corrections_47 fX10_40 (by first | rfl | assumption | exact RW.s (by assumption) | exact TW.s (by assumption)) rfl rfl ?_
  refine g_iload (p0 := 52) dX10_corrections_50 rfl rfl ?_
  first | ((with_reducible refine isN1 ?_); refine g_aldN (p0 := 53) dX10_corrections_52 (by first | rfl | assumption | exact RW.s (by assumption) | exact TW.s (by assumption)) (by first | decide | assumption) (by omega) (by first | assumption | ((repeat (first | exact up_hit | refine up_nv (by decide) ?_ | refine up_mv (by first | decide | omega) ?_)) <;> first | assumption | rfl)) rfl ?_) | refine g_ald (p0 := 53) dX10_corrections_52 (by first | rfl | assumption | exact RW.s (by assumption) | exact TW.s (by assumption)) (by assumption) (by first | assumption | ((repeat (first | exact up_hit | refine up_nv (by decide) ?_ | refine up_mv (by first | decide | omega) ?_)) <;> first | assumption | rfl)) rfl ?_
  refine g_iload (p0 := 55) dX10_corrections_53 rfl rfl ?_
  refine g_iconst (p0 := 56) (v := nI 2) dX10_corrections_55 rfl rfl ?_
  first | ((with_reducible refine isN2 ?_); refine g_icmpN_ge (tgt := 64) (p1 := 59) dX10_corrections_56 rfl (by omega) (by omega) rfl (fun c_56 => ?_) (fun c_56 => by exfalso; first | omega | contradiction | exact hw c_56 | exact c_56 hw)) | refine g_icmp_ge (tgt := 64) (p1 := 59) dX10_corrections_56 rfl rfl (fun c_56 => ?_) (fun c_56 => by exfalso; first | omega | contradiction | exact hw c_56 | exact c_56 hw)
  refine g_iconst (p0 := 65) (v := nI 0) dX10_corrections_64 rfl rfl ?_
  first | ((with_reducible refine isN2 ?_); refine g_iaddN (p0 := 66) dX10_corrections_65 rfl ?_) | refine g_iadd (p0 := 66) dX10_corrections_65 rfl ?_
  refine g_istore (p0 := 68) (i := 7) (ls2 := [_, _, _, _, _, _, _, _, _]) dX10_corrections_66 (Nat.le_of_ble_eq_true rfl) rfl rfl ?_
  refine g_aload_n (p0 := 69) (i := 0) dX10_corrections_68 rfl rfl rfl ?_
  refine g_getR (p0 := 72) dX10_corrections_69 fX10_43 (by first | rfl | assumption | exact RW.s (by assumption) | exact TW.s (by assumption)) rfl rfl ?_
  refine g_iload (p0 := 74) dX10_corrections_72 rfl rfl ?_
  first | ((with_reducible refine isN1 ?_); refine g_aldN (p0 := 75) dX10_corrections_74 (by first | rfl | assumption | exact RW.s (by assumption) | exact TW.s (by assumption)) (by first | decide | assumption) (by omega) (by first | assumption | ((repeat (first | exact up_hit | refine up_nv (by decide) ?_ | refine up_mv (by first | decide | omega) ?_)) <;> first | assumption | rfl)) rfl ?_) | refine g_ald (p0 := 75) dX10_corrections_74 (by first | rfl | assumption | exact RW.s (by assumption) | exact TW.s (by assumption)) (by assumption) (by first | assumption | ((repeat (first | exact up_hit | refine up_nv (by decide) ?_ | refine up_mv (by first | decide | omega) ?_)) <;> first | assumption | rfl)) rfl ?_
  refine g_iload (p0 := 77) dX10_corrections_75 rfl rfl ?_
  refine g_iconst (p0 := 78) (v := nI 2) dX10_corrections_77 rfl rfl ?_
  first | ((with_reducible refine isN2 ?_); refine g_icmpN_ge (tgt := 85) (p1 := 81) dX10_corrections_78 rfl (by omega) (by omega) rfl (fun c_78 => ?_) (fun c_78 => by exfalso; first | omega | contradiction | exact hw c_78 | exact c_78 hw)) | refine g_icmp_ge (tgt := 85) (p1 := 81) dX10_corrections_78 rfl rfl (fun c_78 => ?_) (fun c_78 => by exfalso; first | omega | contradiction | exact hw c_78 | exact c_78 hw)
  refine g_iload (p0 := 87) dX10_corrections_85 rfl rfl ?_
  first | ((with_reducible refine isN2 ?_); refine g_iaddN (p0 := 88) dX10_corrections_87 rfl ?_) | refine g_iadd (p0 := 88) dX10_corrections_87 rfl ?_
  rw [nI_m1 hp]
  refine g_istore (p0 := 90) (i := 8) (ls2 := [_, _, _, _, _, _, _, _, _]) dX10_corrections_88 (Nat.le_of_ble_eq_true rfl) rfl rfl ?_
  refine g_aload_n (p0 := 91) (i := 0) dX10_corrections_90 rfl rfl rfl ?_
  refine g_getR (p0 := 94) dX10_corrections_91 fX10_37 (by first | rfl | assumption | exact RW.s (by assumption) | exact TW.s (by assumption)) rfl rfl ?_
  refine g_iload (p0 := 96) dX10_corrections_94 rfl rfl ?_
  first | ((with_reducible refine isN1 ?_); refine g_aldN (p0 := 97) dX10_corrections_96 (by first | rfl | assumption | exact RW.s (by assumption) | exact TW.s (by assumption)) (by first | decide | assumption) (by omega) (by first | assumption | ((repeat (first | exact up_hit | refine up_nv (by decide) ?_ | refine up_mv (by first | decide | omega) ?_)) <;> first | assumption | rfl)) rfl ?_) | refine g_ald (p0 := 97) dX10_corrections_96 (by first | rfl | assumption | exact RW.s (by assumption) | exact TW.s (by assumption)) (by assumption) (by first | assumption | ((repeat (first | exact up_hit | refine up_nv (by decide) ?_ | refine up_mv (by first | decide | omega) ?_)) <;> first | assumption | rfl)) rfl ?_
  refine g_iconst (p0 := 98) (v := nI 2) dX10_corrections_97 rfl rfl ?_
  first | ((with_reducible refine isN2 ?_); refine g_icmpN_ne (tgt := 188) (p1 := 101) dX10_corrections_98 rfl (by omega) (by omega) rfl (fun c_98 => by exfalso; first | omega | contradiction | exact hw c_98 | exact c_98 hw) (fun c_98 => ?_)) | refine g_icmp_ne (tgt := 188) (p1 := 101) dX10_corrections_98 rfl rfl (fun c_98 => by exfalso; first | omega | contradiction | exact hw c_98 | exact c_98 hw) (fun c_98 => ?_)
  refine g_iload (p0 := 103) dX10_corrections_101 rfl rfl ?_
  refine g_iload (p0 := 105) dX10_corrections_103 rfl rfl ?_
  refine g_cS2R (p0 := 108) (r1 := mX10_areGood) dX10_corrections_105 (Or.inl lX10_134) vX10_areGood (FITi rfl rfl) (Nat.le_of_ble_eq_true rfl) (hag) rfl ?_
  first | ((with_reducible refine isN1 ?_); refine g_ifN_eq (tgt := 188) (p1 := 111) dX10_corrections_108 rfl (by omega) rfl (fun c_108 => by exfalso; first | omega | contradiction | exact hw c_108 | exact c_108 hw) (fun c_108 => ?_)) | refine g_if_eq (tgt := 188) (p1 := 111) dX10_corrections_108 rfl rfl (fun c_108 => by exfalso; first | omega | contradiction | exact hw c_108 | exact c_108 hw) (fun c_108 => ?_)
  refine g_aload_n (p0 := 112) (i := 0) dX10_corrections_111 rfl rfl rfl ?_
  refine g_iload_n (p0 := 113) (i := 1) dX10_corrections_112 rfl rfl rfl ?_
  refine g_iload (p0 := 115) dX10_corrections_113 rfl rfl ?_
  refine g_aload_n (p0 := 116) (i := 0) dX10_corrections_115 rfl rfl rfl ?_
  refine g_iload (p0 := 118) dX10_corrections_116 rfl rfl ?_
  refine g_iload (p0 := 120) dX10_corrections_118 rfl rfl ?_
  refine g_cV2R (p0 := 123) (r1 := mX10_letterAt) dX10_corrections_120 lX10_138 vX10_letterAt (by first | rfl | assumption | exact RW.s (by assumption) | exact TW.s (by assumption)) ⟨_, _, rfl⟩ (FITi rfl rfl) (Nat.le_of_ble_eq_true rfl) (hla _ rfl) rfl ?_
  refine g_cV3R (p0 := 126) (r1 := mX10_isRight) dX10_corrections_123 lX10_155 vX10_isRight (by first | rfl | assumption | exact RW.s (by assumption) | exact TW.s (by assumption)) ⟨_, _, rfl⟩ (FITi rfl rfl) (Nat.le_of_ble_eq_true rfl) (hrt) rfl ?_
  first | ((with_reducible refine isN1 ?_); refine g_ifN_eq (tgt := 188) (p1 := 129) dX10_corrections_126 rfl (by omega) rfl (fun c_126 => by exfalso; first | omega | contradiction | exact hw c_126 | exact c_126 hw) (fun c_126 => ?_)) | refine g_if_eq (tgt := 188) (p1 := 129) dX10_corrections_126 rfl rfl (fun c_126 => by exfalso; first | omega | contradiction | exact hw c_126 | exact c_126 hw) (fun c_126 => ?_)
  refine g_iload_n (p0 := 130) (i := 3) dX10_corrections_129 rfl rfl rfl ?_
  refine g_iload_n (p0 := 131) (i := 2) dX10_corrections_130 rfl rfl rfl ?_
  first | ((with_reducible refine isN2 ?_); refine g_icmpN_ne (tgt := 185) (p1 := 134) dX10_corrections_131 rfl (by omega) (by omega) rfl (fun c_131 => by exfalso; first | omega | contradiction | exact hw c_131 | exact c_131 hw) (fun c_131 => ?_)) | refine g_icmp_ne (tgt := 185) (p1 := 134) dX10_corrections_131 rfl rfl (fun c_131 => by exfalso; first | omega | contradiction | exact hw c_131 | exact c_131 hw) (fun c_131 => ?_)
  refine g_aload_n (p0 := 135) (i := 0) dX10_corrections_134 rfl rfl rfl ?_
  refine g_getR (p0 := 138) dX10_corrections_135 fX10_58 (by first | rfl | assumption | exact RW.s (by assumption) | exact TW.s (by assumption)) rfl rfl ?_
  refine g_iconst (p0 := 139) (v := nI 0) dX10_corrections_138 rfl rfl ?_
  refine g_iload (p0 := 141) dX10_corrections_139 rfl rfl ?_
  refine g_aload_n (p0 := 142) (i := 0) dX10_corrections_141 rfl rfl rfl ?_
  refine g_getR (p0 := 145) dX10_corrections_142 fX10_46 (by first | rfl | assumption | exact RW.s (by assumption) | exact TW.s (by assumption)) rfl rfl ?_
  refine g_iload_n (p0 := 146) (i := 1) dX10_corrections_145 rfl rfl rfl ?_
  first | ((with_reducible refine isN1 ?_); refine g_aldN (p0 := 147) dX10_corrections_146 (by first | rfl | assumption | exact RW.s (by assumption) | exact TW.s (by assumption)) (by first | decide | assumption) (by omega) (by first | assumption | ((repeat (first | exact up_hit | refine up_nv (by decide) ?_ | refine up_mv (by first | decide | omega) ?_)) <;> first | assumption | rfl)) rfl ?_) | refine g_ald (p0 := 147) dX10_corrections_146 (by first | rfl | assumption | exact RW.s (by assumption) | exact TW.s (by assumption)) (by assumption) (by first | assumption | ((repeat (first | exact up_hit | refine up_nv (by decide) ?_ | refine up_mv (by first | decide | omega) ?_)) <;> first | assumption | rfl)) rfl ?_
  first | ((with_reducible refine isN2 ?_); refine g_isubN (p0 := 148) dX10_corrections_147 (by omega) rfl ?_) | refine g_isub (p0 := 148) dX10_corrections_147 rfl ?_
  first | ((with_reducible refine isNS ?_); refine g_astN (p0 := 149) dX10_corrections_148 (by first | rfl | assumption | exact RW.s (by assumption) | exact TW.s (by assumption)) (by first | decide | assumption) (by omega) rfl ?_) | refine g_ast (p0 := 149) dX10_corrections_148 (by first | rfl | assumption | exact RW.s (by assumption) | exact TW.s (by assumption)) (by assumption) rfl ?_
  refine g_aload_n (p0 := 150) (i := 0) dX10_corrections_149 rfl rfl rfl ?_
  refine g_getR (p0 := 153) dX10_corrections_150 fX10_58 (by first | rfl | assumption | exact RW.s (by assumption) | exact TW.s (by assumption)) rfl rfl ?_
  refine g_iconst (p0 := 154) (v := nI 1) dX10_corrections_153 rfl rfl ?_
  refine g_iload (p0 := 156) dX10_corrections_154 rfl rfl ?_
  refine g_iconst (p0 := 157) (v := nI 2) dX10_corrections_156 rfl rfl ?_
  first | ((with_reducible refine isN2 ?_); refine g_idivN (p0 := 158) dX10_corrections_157 (by omega) (by omega) (by omega) rfl ?_) | refine g_idiv (p0 := 158) dX10_corrections_157 (by decide) rfl ?_
  first | ((with_reducible refine isNS ?_); refine g_astN (p0 := 159) dX10_corrections_158 (by first | rfl | assumption | exact RW.s (by assumption) | exact TW.s (by assumption)) (by first | decide | assumption) (by omega) rfl ?_) | refine g_ast (p0 := 159) dX10_corrections_158 (by first | rfl | assumption | exact RW.s (by assumption) | exact TW.s (by assumption)) (by assumption) rfl ?_
  refine g_aload_n (p0 := 160) (i := 0) dX10_corrections_159 rfl rfl rfl ?_
  refine g_getR (p0 := 163) dX10_corrections_160 fX10_58 (by first | rfl | assumption | exact RW.s (by assumption) | exact TW.s (by assumption)) rfl rfl ?_
  refine g_iconst (p0 := 164) (v := nI 2) dX10_corrections_163 rfl rfl ?_
  refine g_iconst (p0 := 165) (v := nI 1) dX10_corrections_164 rfl rfl ?_
  refine g_iload (p0 := 167) dX10_corrections_165 rfl rfl ?_
  refine g_iconst (p0 := 168) (v := nI 2) dX10_corrections_167 rfl rfl ?_
  first | ((with_reducible refine isN2 ?_); refine g_iremN (p0 := 169) dX10_corrections_168 (by omega) (by omega) (by omega) rfl ?_) | refine g_irem (p0 := 169) dX10_corrections_168 (by decide) rfl ?_
  first | ((with_reducible refine isN2 ?_); refine g_isubN (p0 := 170) dX10_corrections_169 (by omega) rfl ?_) | refine g_isub (p0 := 170) dX10_corrections_169 rfl ?_
  first | ((with_reducible refine isNS ?_); refine g_astN (p0 := 171) dX10_corrections_170 (by first | rfl | assumption | exact RW.s (by assumption) | exact TW.s (by assumption)) (by first | decide | assumption) (by omega) rfl ?_) | refine g_ast (p0 := 171) dX10_corrections_170 (by first | rfl | assumption | exact RW.s (by assumption) | exact TW.s (by assumption)) (by assumption) rfl ?_
  refine g_aload_n (p0 := 172) (i := 0) dX10_corrections_171 rfl rfl rfl ?_
  refine g_getR (p0 := 175) dX10_corrections_172 fX10_58 (by first | rfl | assumption | exact RW.s (by assumption) | exact TW.s (by assumption)) rfl rfl ?_
  refine g_iconst (p0 := 176) (v := nI 3) dX10_corrections_175 rfl rfl ?_
  refine g_aload_n (p0 := 177) (i := 0) dX10_corrections_176 rfl rfl rfl ?_
  refine g_iload (p0 := 179) dX10_corrections_177 rfl rfl ?_
  refine g_iload (p0 := 181) dX10_corrections_179 rfl rfl ?_
  refine g_cV2R (p0 := 184) (r1 := mX10_letterAt) dX10_corrections_181 lX10_138 vX10_letterAt (by first | rfl | assumption | exact RW.s (by assumption) | exact TW.s (by assumption)) ⟨_, _, rfl⟩ (FITi rfl rfl) (Nat.le_of_ble_eq_true rfl) (hla _ (by rw [up_ne (by decide), up_ne (by decide), up_ne (by decide)])) rfl ?_
  first | ((with_reducible refine isNS ?_); refine g_astN (p0 := 185) dX10_corrections_184 (by first | rfl | assumption | exact RW.s (by assumption) | exact TW.s (by assumption)) (by first | decide | assumption) (by omega) rfl ?_) | refine g_ast (p0 := 185) dX10_corrections_184 (by first | rfl | assumption | exact RW.s (by assumption) | exact TW.s (by assumption)) (by assumption) rfl ?_
  first | refine g_iinc1 (p0 := 188) (ls2 := [_, _, _, _, _, _, _, _, _]) dX10_corrections_185 rfl rfl rfl ?_ | refine g_iinc (p0 := 188) (ls2 := [_, _, _, _, _, _, _, _, _]) dX10_corrections_185 rfl rfl rfl rfl ?_
  first | refine g_iinc1 (p0 := 191) (ls2 := [_, _, _, _, _, _, _, _, _]) dX10_corrections_188 rfl rfl rfl ?_ | refine g_iinc (p0 := 191) (ls2 := [_, _, _, _, _, _, _, _, _]) dX10_corrections_188 rfl rfl rfl rfl ?_
  refine g_goto (tgt := 26) dX10_corrections_191 rfl ?_
  exact next _ _ _
theorem rk0_r {s M L : Nat} {c fs f n p d g a b : Nat → Nat} {v lc : Nat → Int32} {m t : Nat} {w : Int32} {x6 x7 x8 : Option AV} {σ σ1 : Sg} {Q : SP} (hP : REF σ s M L c fs f n p d g a b v lc) (hpos : ∀ l, l < L → 1 ≤ a l ∧ (g l = 2 → 1 ≤ b l) ∧ g l < 500 ∧ a l < 500 ∧ b l < 500) (hm : m < M) (ht : t < n m) (hS : CR σ σ1 (FIQ v lc g a b (f m) (n m)) (cdq lc g a b (f m)) (4 * t + 0) w) (next : ∀ σ2 x6 x7 x8, CR σ σ2 (FIQ v lc g a b (f m) (n m)) (cdq lc g a b (f m)) (4 * t + 1) w → WM mX10_corrections Q 26 [some (ar 79), some (ai (nI m)), some (ai w), some (ai (nI (cnF (FIQ v lc g a b (f m) (n m)) (4 * t + 1)))), some (ai (nI (f m + t))), some (ai (nI (1))), x6, x7, x8] [] σ2) : WM mX10_corrections Q 26 [some (ar 79), some (ai (nI m)), some (ai w), some (ai (nI (cnF (FIQ v lc g a b (f m) (n m)) (4 * t + 0)))), some (ai (nI (f m + t))), some (ai (nI (0))), x6, x7, x8] [] σ1 := by
  have hP1 := hP.of hS.1
  obtain ⟨⟨q1, q2, q3, q4, q5, q6⟩, hM, hV, hG, _⟩ := id hP1
  obtain ⟨a1, a2, a3, a4, _⟩ := hM m hm
  obtain ⟨l1, l2, l3⟩ := hV.1.2 (f m + t) (by omega)
  obtain ⟨p1, p2, p3, p4, p5⟩ := hpos (f m + t) (by omega)
  have hcd : cdq lc g a b (f m) (4 * t + 0) = val lc (g (f m + t)) (a (f m + t) + 1) (b (f m + t) + 0) := cdq_k (by decide)
  have hq4 : (4 * t + 0) / 4 = t := by omega
  have hqm : (4 * t + 0) % 4 = 0 := by omega
  have hq2 : (4 * t + 0) % 2 = 0 := by omega
  by_cases hg2 : g (f m + t) = 2
  · rw [hg2] at hcd
    by_cases hG2 : GD (a (f m + t) + 1) (b (f m + t) + 0)
    · obtain ⟨g1, g2⟩ := hG (by omega) _ _ hG2
      have hla : ∀ σ2 : Sg, σ2 80 = σ1 80 → CM mX10_letterAt [ar 79, ai (nI (a (f m + t) + 1)), ai (nI (b (f m + t) + 0))] σ2 (Ret (cdq lc g a b (f m) (4 * t + 0)) σ2) := by
        intro σ2 e
        rw [hcd, g1, ← e]
        exact letterAt_sp ⟨hG2.1, by have := hG2.2.1; omega⟩ ⟨hG2.2.2.1, by have := hG2.2.2.2; omega⟩
      have hy : ¬ cdq lc g a b (f m) (4 * t + 0) = -1 := by rw [hcd, g1]; exact nI_ne_m1 (by omega)
      have hag := areGood_T (σ := σ1) ⟨hG2.1, hG2.2.1⟩ hG2.2.2
      rcases rRW_sp hP1 hm ht hy with ⟨h1, h2⟩ | ⟨h1, h2⟩
      · have hF : FIQ v lc g a b (f m) (n m) (4 * t + 0) := ⟨hy, by rw [hq4]; exact h1⟩
        have eT : cnF (FIQ v lc g a b (f m) (n m)) (4 * t + 1) = cnF (FIQ v lc g a b (f m) (n m)) (4 * t + 0) + 1 := cnF_T hF
        rw [eT] at next
        by_cases hw : nI (cnF (FIQ v lc g a b (f m) (n m)) (4 * t + 0)) = w
        · refine rk0_E (by omega) (by omega) l1 l2 l3 p3 p4 p5 hg2 hag hla h2 hw a2 (by omega) (fun x6 x7 x8 => next _ x6 x7 x8 (hS.take (by omega) hw ?_ ?_ ?_ rfl))
          · rw [hq4, Nat.add_sub_cancel_left]
          · rw [hqm]
          · rw [hq2]
        · exact rk0_D (by omega) (by omega) l1 l2 l3 p3 p4 p5 hg2 hag hla h2 hw (fun x6 x7 x8 => next _ x6 x7 x8 (hS.cnt hw))
      · have hF : ¬ FIQ v lc g a b (f m) (n m) (4 * t + 0) := fun z => h1 (by have z2 := z.2; rw [hq4] at z2; exact z2)
        have eT : cnF (FIQ v lc g a b (f m) (n m)) (4 * t + 1) = cnF (FIQ v lc g a b (f m) (n m)) (4 * t + 0) := cnF_F hF
        rw [eT] at next
        exact rk0_C (by omega) (by omega) l1 l2 l3 p3 p4 p5 hg2 hag hla h2 (fun x6 x7 x8 => next _ x6 x7 x8 (hS.skip hF))
    · have hF : ¬ FIQ v lc g a b (f m) (n m) (4 * t + 0) := fun z => z.1 (by rw [hcd, val, if_neg (fun q => hG2 q.2)])
      have eT : cnF (FIQ v lc g a b (f m) (n m)) (4 * t + 1) = cnF (FIQ v lc g a b (f m) (n m)) (4 * t + 0) := cnF_F hF
      rw [eT] at next
      exact rk0_B (by omega) (by omega) l1 l2 l3 p3 p4 p5 hg2 (areGood_F (by omega) (by omega) hG2) (fun x6 x7 x8 => next _ x6 x7 x8 (hS.skip hF))
  · have hF : ¬ FIQ v lc g a b (f m) (n m) (4 * t + 0) := fun z => z.1 (by rw [hcd, val, if_neg (fun q => hg2 q.1)])
    have eT : cnF (FIQ v lc g a b (f m) (n m)) (4 * t + 1) = cnF (FIQ v lc g a b (f m) (n m)) (4 * t + 0) := cnF_F hF
    rw [eT] at next
    exact rk0_A (by omega) (by omega) l1 l2 l3 p3 p4 p5 hg2 (fun x6 x7 x8 => next _ x6 x7 x8 (hS.skip hF))
theorem rk1_r {s M L : Nat} {c fs f n p d g a b : Nat → Nat} {v lc : Nat → Int32} {m t : Nat} {w : Int32} {x6 x7 x8 : Option AV} {σ σ1 : Sg} {Q : SP} (hP : REF σ s M L c fs f n p d g a b v lc) (hpos : ∀ l, l < L → 1 ≤ a l ∧ (g l = 2 → 1 ≤ b l) ∧ g l < 500 ∧ a l < 500 ∧ b l < 500) (hm : m < M) (ht : t < n m) (hS : CR σ σ1 (FIQ v lc g a b (f m) (n m)) (cdq lc g a b (f m)) (4 * t + 1) w) (next : ∀ σ2 x6 x7 x8, CR σ σ2 (FIQ v lc g a b (f m) (n m)) (cdq lc g a b (f m)) (4 * t + 2) w → WM mX10_corrections Q 26 [some (ar 79), some (ai (nI m)), some (ai w), some (ai (nI (cnF (FIQ v lc g a b (f m) (n m)) (4 * t + 2)))), some (ai (nI (f m + t))), some (ai (nI (2))), x6, x7, x8] [] σ2) : WM mX10_corrections Q 26 [some (ar 79), some (ai (nI m)), some (ai w), some (ai (nI (cnF (FIQ v lc g a b (f m) (n m)) (4 * t + 1)))), some (ai (nI (f m + t))), some (ai (nI (1))), x6, x7, x8] [] σ1 := by
  have hP1 := hP.of hS.1
  obtain ⟨⟨q1, q2, q3, q4, q5, q6⟩, hM, hV, hG, _⟩ := id hP1
  obtain ⟨a1, a2, a3, a4, _⟩ := hM m hm
  obtain ⟨l1, l2, l3⟩ := hV.1.2 (f m + t) (by omega)
  obtain ⟨p1, p2, p3, p4, p5⟩ := hpos (f m + t) (by omega)
  have hcd : cdq lc g a b (f m) (4 * t + 1) = val lc (g (f m + t)) (a (f m + t) - 1) (b (f m + t) + 0) := cdq_k (by decide)
  have hq4 : (4 * t + 1) / 4 = t := by omega
  have hqm : (4 * t + 1) % 4 = 1 := by omega
  have hq2 : (4 * t + 1) % 2 = 1 := by omega
  by_cases hg2 : g (f m + t) = 2
  · rw [hg2] at hcd
    have hp : 1 ≤ a (f m + t) := p1
    by_cases hG2 : GD (a (f m + t) - 1) (b (f m + t) + 0)
    · obtain ⟨g1, g2⟩ := hG (by omega) _ _ hG2
      have hla : ∀ σ2 : Sg, σ2 80 = σ1 80 → CM mX10_letterAt [ar 79, ai (nI (a (f m + t) - 1)), ai (nI (b (f m + t) + 0))] σ2 (Ret (cdq lc g a b (f m) (4 * t + 1)) σ2) := by
        intro σ2 e
        rw [hcd, g1, ← e]
        exact letterAt_sp ⟨hG2.1, by have := hG2.2.1; omega⟩ ⟨hG2.2.2.1, by have := hG2.2.2.2; omega⟩
      have hy : ¬ cdq lc g a b (f m) (4 * t + 1) = -1 := by rw [hcd, g1]; exact nI_ne_m1 (by omega)
      have hag := areGood_T (σ := σ1) ⟨hG2.1, hG2.2.1⟩ hG2.2.2
      rcases rRW_sp hP1 hm ht hy with ⟨h1, h2⟩ | ⟨h1, h2⟩
      · have hF : FIQ v lc g a b (f m) (n m) (4 * t + 1) := ⟨hy, by rw [hq4]; exact h1⟩
        have eT : cnF (FIQ v lc g a b (f m) (n m)) (4 * t + 2) = cnF (FIQ v lc g a b (f m) (n m)) (4 * t + 1) + 1 := cnF_T hF
        rw [eT] at next
        by_cases hw : nI (cnF (FIQ v lc g a b (f m) (n m)) (4 * t + 1)) = w
        · refine rk1_E (by omega) (by omega) l1 l2 l3 p3 p4 p5 hg2 hp hag hla h2 hw a2 (by omega) (fun x6 x7 x8 => next _ x6 x7 x8 (hS.take (by omega) hw ?_ ?_ ?_ rfl))
          · rw [hq4, Nat.add_sub_cancel_left]
          · rw [hqm]
          · rw [hq2]
        · exact rk1_D (by omega) (by omega) l1 l2 l3 p3 p4 p5 hg2 hp hag hla h2 hw (fun x6 x7 x8 => next _ x6 x7 x8 (hS.cnt hw))
      · have hF : ¬ FIQ v lc g a b (f m) (n m) (4 * t + 1) := fun z => h1 (by have z2 := z.2; rw [hq4] at z2; exact z2)
        have eT : cnF (FIQ v lc g a b (f m) (n m)) (4 * t + 2) = cnF (FIQ v lc g a b (f m) (n m)) (4 * t + 1) := cnF_F hF
        rw [eT] at next
        exact rk1_C (by omega) (by omega) l1 l2 l3 p3 p4 p5 hg2 hp hag hla h2 (fun x6 x7 x8 => next _ x6 x7 x8 (hS.skip hF))
    · have hF : ¬ FIQ v lc g a b (f m) (n m) (4 * t + 1) := fun z => z.1 (by rw [hcd, val, if_neg (fun q => hG2 q.2)])
      have eT : cnF (FIQ v lc g a b (f m) (n m)) (4 * t + 2) = cnF (FIQ v lc g a b (f m) (n m)) (4 * t + 1) := cnF_F hF
      rw [eT] at next
      exact rk1_B (by omega) (by omega) l1 l2 l3 p3 p4 p5 hg2 hp (areGood_F (by omega) (by omega) hG2) (fun x6 x7 x8 => next _ x6 x7 x8 (hS.skip hF))
  · have hF : ¬ FIQ v lc g a b (f m) (n m) (4 * t + 1) := fun z => z.1 (by rw [hcd, val, if_neg (fun q => hg2 q.1)])
    have eT : cnF (FIQ v lc g a b (f m) (n m)) (4 * t + 2) = cnF (FIQ v lc g a b (f m) (n m)) (4 * t + 1) := cnF_F hF
    rw [eT] at next
    exact rk1_A (by omega) (by omega) l1 l2 l3 p3 p4 p5 hg2 (fun x6 x7 x8 => next _ x6 x7 x8 (hS.skip hF))
theorem rk2_r {s M L : Nat} {c fs f n p d g a b : Nat → Nat} {v lc : Nat → Int32} {m t : Nat} {w : Int32} {x6 x7 x8 : Option AV} {σ σ1 : Sg} {Q : SP} (hP : REF σ s M L c fs f n p d g a b v lc) (hpos : ∀ l, l < L → 1 ≤ a l ∧ (g l = 2 → 1 ≤ b l) ∧ g l < 500 ∧ a l < 500 ∧ b l < 500) (hm : m < M) (ht : t < n m) (hS : CR σ σ1 (FIQ v lc g a b (f m) (n m)) (cdq lc g a b (f m)) (4 * t + 2) w) (next : ∀ σ2 x6 x7 x8, CR σ σ2 (FIQ v lc g a b (f m) (n m)) (cdq lc g a b (f m)) (4 * t + 3) w → WM mX10_corrections Q 26 [some (ar 79), some (ai (nI m)), some (ai w), some (ai (nI (cnF (FIQ v lc g a b (f m) (n m)) (4 * t + 3)))), some (ai (nI (f m + t))), some (ai (nI (3))), x6, x7, x8] [] σ2) : WM mX10_corrections Q 26 [some (ar 79), some (ai (nI m)), some (ai w), some (ai (nI (cnF (FIQ v lc g a b (f m) (n m)) (4 * t + 2)))), some (ai (nI (f m + t))), some (ai (nI (2))), x6, x7, x8] [] σ1 := by
  have hP1 := hP.of hS.1
  obtain ⟨⟨q1, q2, q3, q4, q5, q6⟩, hM, hV, hG, _⟩ := id hP1
  obtain ⟨a1, a2, a3, a4, _⟩ := hM m hm
  obtain ⟨l1, l2, l3⟩ := hV.1.2 (f m + t) (by omega)
  obtain ⟨p1, p2, p3, p4, p5⟩ := hpos (f m + t) (by omega)
  have hcd : cdq lc g a b (f m) (4 * t + 2) = val lc (g (f m + t)) (a (f m + t) + 0) (b (f m + t) + 1) := cdq_k (by decide)
  have hq4 : (4 * t + 2) / 4 = t := by omega
  have hqm : (4 * t + 2) % 4 = 2 := by omega
  have hq2 : (4 * t + 2) % 2 = 0 := by omega
  by_cases hg2 : g (f m + t) = 2
  · rw [hg2] at hcd
    by_cases hG2 : GD (a (f m + t) + 0) (b (f m + t) + 1)
    · obtain ⟨g1, g2⟩ := hG (by omega) _ _ hG2
      have hla : ∀ σ2 : Sg, σ2 80 = σ1 80 → CM mX10_letterAt [ar 79, ai (nI (a (f m + t) + 0)), ai (nI (b (f m + t) + 1))] σ2 (Ret (cdq lc g a b (f m) (4 * t + 2)) σ2) := by
        intro σ2 e
        rw [hcd, g1, ← e]
        exact letterAt_sp ⟨hG2.1, by have := hG2.2.1; omega⟩ ⟨hG2.2.2.1, by have := hG2.2.2.2; omega⟩
      have hy : ¬ cdq lc g a b (f m) (4 * t + 2) = -1 := by rw [hcd, g1]; exact nI_ne_m1 (by omega)
      have hag := areGood_T (σ := σ1) ⟨hG2.1, hG2.2.1⟩ hG2.2.2
      rcases rRW_sp hP1 hm ht hy with ⟨h1, h2⟩ | ⟨h1, h2⟩
      · have hF : FIQ v lc g a b (f m) (n m) (4 * t + 2) := ⟨hy, by rw [hq4]; exact h1⟩
        have eT : cnF (FIQ v lc g a b (f m) (n m)) (4 * t + 3) = cnF (FIQ v lc g a b (f m) (n m)) (4 * t + 2) + 1 := cnF_T hF
        rw [eT] at next
        by_cases hw : nI (cnF (FIQ v lc g a b (f m) (n m)) (4 * t + 2)) = w
        · refine rk2_E (by omega) (by omega) l1 l2 l3 p3 p4 p5 hg2 hag hla h2 hw a2 (by omega) (fun x6 x7 x8 => next _ x6 x7 x8 (hS.take (by omega) hw ?_ ?_ ?_ rfl))
          · rw [hq4, Nat.add_sub_cancel_left]
          · rw [hqm]
          · rw [hq2]
        · exact rk2_D (by omega) (by omega) l1 l2 l3 p3 p4 p5 hg2 hag hla h2 hw (fun x6 x7 x8 => next _ x6 x7 x8 (hS.cnt hw))
      · have hF : ¬ FIQ v lc g a b (f m) (n m) (4 * t + 2) := fun z => h1 (by have z2 := z.2; rw [hq4] at z2; exact z2)
        have eT : cnF (FIQ v lc g a b (f m) (n m)) (4 * t + 3) = cnF (FIQ v lc g a b (f m) (n m)) (4 * t + 2) := cnF_F hF
        rw [eT] at next
        exact rk2_C (by omega) (by omega) l1 l2 l3 p3 p4 p5 hg2 hag hla h2 (fun x6 x7 x8 => next _ x6 x7 x8 (hS.skip hF))
    · have hF : ¬ FIQ v lc g a b (f m) (n m) (4 * t + 2) := fun z => z.1 (by rw [hcd, val, if_neg (fun q => hG2 q.2)])
      have eT : cnF (FIQ v lc g a b (f m) (n m)) (4 * t + 3) = cnF (FIQ v lc g a b (f m) (n m)) (4 * t + 2) := cnF_F hF
      rw [eT] at next
      exact rk2_B (by omega) (by omega) l1 l2 l3 p3 p4 p5 hg2 (areGood_F (by omega) (by omega) hG2) (fun x6 x7 x8 => next _ x6 x7 x8 (hS.skip hF))
  · have hF : ¬ FIQ v lc g a b (f m) (n m) (4 * t + 2) := fun z => z.1 (by rw [hcd, val, if_neg (fun q => hg2 q.1)])
    have eT : cnF (FIQ v lc g a b (f m) (n m)) (4 * t + 3) = cnF (FIQ v lc g a b (f m) (n m)) (4 * t + 2) := cnF_F hF
    rw [eT] at next
    exact rk2_A (by omega) (by omega) l1 l2 l3 p3 p4 p5 hg2 (fun x6 x7 x8 => next _ x6 x7 x8 (hS.skip hF))
theorem rk3_r {s M L : Nat} {c fs f n p d g a b : Nat → Nat} {v lc : Nat → Int32} {m t : Nat} {w : Int32} {x6 x7 x8 : Option AV} {σ σ1 : Sg} {Q : SP} (hP : REF σ s M L c fs f n p d g a b v lc) (hpos : ∀ l, l < L → 1 ≤ a l ∧ (g l = 2 → 1 ≤ b l) ∧ g l < 500 ∧ a l < 500 ∧ b l < 500) (hm : m < M) (ht : t < n m) (hS : CR σ σ1 (FIQ v lc g a b (f m) (n m)) (cdq lc g a b (f m)) (4 * t + 3) w) (next : ∀ σ2 x6 x7 x8, CR σ σ2 (FIQ v lc g a b (f m) (n m)) (cdq lc g a b (f m)) (4 * t + 4) w → WM mX10_corrections Q 26 [some (ar 79), some (ai (nI m)), some (ai w), some (ai (nI (cnF (FIQ v lc g a b (f m) (n m)) (4 * t + 4)))), some (ai (nI (f m + t))), some (ai (nI (4))), x6, x7, x8] [] σ2) : WM mX10_corrections Q 26 [some (ar 79), some (ai (nI m)), some (ai w), some (ai (nI (cnF (FIQ v lc g a b (f m) (n m)) (4 * t + 3)))), some (ai (nI (f m + t))), some (ai (nI (3))), x6, x7, x8] [] σ1 := by
  have hP1 := hP.of hS.1
  obtain ⟨⟨q1, q2, q3, q4, q5, q6⟩, hM, hV, hG, _⟩ := id hP1
  obtain ⟨a1, a2, a3, a4, _⟩ := hM m hm
  obtain ⟨l1, l2, l3⟩ := hV.1.2 (f m + t) (by omega)
  obtain ⟨p1, p2, p3, p4, p5⟩ := hpos (f m + t) (by omega)
  have hcd : cdq lc g a b (f m) (4 * t + 3) = val lc (g (f m + t)) (a (f m + t) + 0) (b (f m + t) - 1) := cdq_k (by decide)
  have hq4 : (4 * t + 3) / 4 = t := by omega
  have hqm : (4 * t + 3) % 4 = 3 := by omega
  have hq2 : (4 * t + 3) % 2 = 1 := by omega
  by_cases hg2 : g (f m + t) = 2
  · rw [hg2] at hcd
    have hp : 1 ≤ b (f m + t) := p2 hg2
    by_cases hG2 : GD (a (f m + t) + 0) (b (f m + t) - 1)
    · obtain ⟨g1, g2⟩ := hG (by omega) _ _ hG2
      have hla : ∀ σ2 : Sg, σ2 80 = σ1 80 → CM mX10_letterAt [ar 79, ai (nI (a (f m + t) + 0)), ai (nI (b (f m + t) - 1))] σ2 (Ret (cdq lc g a b (f m) (4 * t + 3)) σ2) := by
        intro σ2 e
        rw [hcd, g1, ← e]
        exact letterAt_sp ⟨hG2.1, by have := hG2.2.1; omega⟩ ⟨hG2.2.2.1, by have := hG2.2.2.2; omega⟩
      have hy : ¬ cdq lc g a b (f m) (4 * t + 3) = -1 := by rw [hcd, g1]; exact nI_ne_m1 (by omega)
      have hag := areGood_T (σ := σ1) ⟨hG2.1, hG2.2.1⟩ hG2.2.2
      rcases rRW_sp hP1 hm ht hy with ⟨h1, h2⟩ | ⟨h1, h2⟩
      · have hF : FIQ v lc g a b (f m) (n m) (4 * t + 3) := ⟨hy, by rw [hq4]; exact h1⟩
        have eT : cnF (FIQ v lc g a b (f m) (n m)) (4 * t + 4) = cnF (FIQ v lc g a b (f m) (n m)) (4 * t + 3) + 1 := cnF_T hF
        rw [eT] at next
        by_cases hw : nI (cnF (FIQ v lc g a b (f m) (n m)) (4 * t + 3)) = w
        · refine rk3_E (by omega) (by omega) l1 l2 l3 p3 p4 p5 hg2 hp hag hla h2 hw a2 (by omega) (fun x6 x7 x8 => next _ x6 x7 x8 (hS.take (by omega) hw ?_ ?_ ?_ rfl))
          · rw [hq4, Nat.add_sub_cancel_left]
          · rw [hqm]
          · rw [hq2]
        · exact rk3_D (by omega) (by omega) l1 l2 l3 p3 p4 p5 hg2 hp hag hla h2 hw (fun x6 x7 x8 => next _ x6 x7 x8 (hS.cnt hw))
      · have hF : ¬ FIQ v lc g a b (f m) (n m) (4 * t + 3) := fun z => h1 (by have z2 := z.2; rw [hq4] at z2; exact z2)
        have eT : cnF (FIQ v lc g a b (f m) (n m)) (4 * t + 4) = cnF (FIQ v lc g a b (f m) (n m)) (4 * t + 3) := cnF_F hF
        rw [eT] at next
        exact rk3_C (by omega) (by omega) l1 l2 l3 p3 p4 p5 hg2 hp hag hla h2 (fun x6 x7 x8 => next _ x6 x7 x8 (hS.skip hF))
    · have hF : ¬ FIQ v lc g a b (f m) (n m) (4 * t + 3) := fun z => z.1 (by rw [hcd, val, if_neg (fun q => hG2 q.2)])
      have eT : cnF (FIQ v lc g a b (f m) (n m)) (4 * t + 4) = cnF (FIQ v lc g a b (f m) (n m)) (4 * t + 3) := cnF_F hF
      rw [eT] at next
      exact rk3_B (by omega) (by omega) l1 l2 l3 p3 p4 p5 hg2 hp (areGood_F (by omega) (by omega) hG2) (fun x6 x7 x8 => next _ x6 x7 x8 (hS.skip hF))
  · have hF : ¬ FIQ v lc g a b (f m) (n m) (4 * t + 3) := fun z => z.1 (by rw [hcd, val, if_neg (fun q => hg2 q.1)])
    have eT : cnF (FIQ v lc g a b (f m) (n m)) (4 * t + 4) = cnF (FIQ v lc g a b (f m) (n m)) (4 * t + 3) := cnF_F hF
    rw [eT] at next
    exact rk3_A (by omega) (by omega) l1 l2 l3 p3 p4 p5 hg2 (fun x6 x7 x8 => next _ x6 x7 x8 (hS.skip hF))
set_option maxRecDepth 20000 in
set_option maxHeartbeats 2000000 in
theorem corr_l {s M L : Nat} {c fs f n p d g a b : Nat → Nat} {v lc : Nat → Int32} {m : Nat} {w : Int32} {σ : Sg} {Q : SP} (hP : REF σ s M L c fs f n p d g a b v lc) (hpos : ∀ l, l < L → 1 ≤ a l ∧ (g l = 2 → 1 ≤ b l) ∧ g l < 500 ∧ a l < 500 ∧ b l < 500) (hm : m < M) (k : ∀ σ1, CR σ σ1 (FIQ v lc g a b (f m) (n m)) (cdq lc g a b (f m)) (4 * n m) w → Q (some (ai (nI (cnF (FIQ v lc g a b (f m) (n m)) (4 * n m))))) σ1) : ∀ j t, t + j = n m → ∀ σ1, CR σ σ1 (FIQ v lc g a b (f m) (n m)) (cdq lc g a b (f m)) (4 * t) w → ∀ x5 x6 x7 x8, WM mX10_corrections Q 10 [some (ar 79), some (ai (nI m)), some (ai w), some (ai (nI (cnF (FIQ v lc g a b (f m) (n m)) (4 * t)))), some (ai (nI (f m + t))), x5, x6, x7, x8] [] σ1 := by
  have hM := hP.2.1 m hm
  have hk := hP.1
  intro j
  induction j with
  | zero =>
    intro t ht σ1 hS x5 x6 x7 x8
    obtain rfl : t = n m := by omega
    have h2 : σ1 92 (m + 1) = nI (f m + n m) := by rw [hS.1 92 (by decide)]; exact hM.2.2.1
    refine g_iload (p0 := 12) dX10_corrections_10 rfl rfl ?_
    refine g_aload_n (p0 := 13) (i := 0) dX10_corrections_12 rfl rfl rfl ?_
    refine g_getR (p0 := 16) dX10_corrections_13 fX10_46 (by first | rfl | assumption | exact RW.s (by assumption) | exact TW.s (by assumption)) rfl rfl ?_
    refine g_iload_n (p0 := 17) (i := 1) dX10_corrections_16 rfl rfl rfl ?_
    refine g_iconst (p0 := 18) (v := nI 1) dX10_corrections_17 rfl rfl ?_
    first | ((with_reducible refine isN2 ?_); refine g_iaddN (p0 := 19) dX10_corrections_18 rfl ?_) | refine g_iadd (p0 := 19) dX10_corrections_18 rfl ?_
    first | ((with_reducible refine isN1 ?_); refine g_aldN (p0 := 20) dX10_corrections_19 (by first | rfl | assumption | exact RW.s (by assumption) | exact TW.s (by assumption)) (by first | decide | assumption) (by omega) (by first | assumption | ((repeat (first | exact up_hit | refine up_nv (by decide) ?_ | refine up_mv (by first | decide | omega) ?_)) <;> first | assumption | rfl)) rfl ?_) | refine g_ald (p0 := 20) dX10_corrections_19 (by first | rfl | assumption | exact RW.s (by assumption) | exact TW.s (by assumption)) (by assumption) (by first | assumption | ((repeat (first | exact up_hit | refine up_nv (by decide) ?_ | refine up_mv (by first | decide | omega) ?_)) <;> first | assumption | rfl)) rfl ?_
    first | ((with_reducible refine isN2 ?_); refine g_icmpN_ge (tgt := 200) (p1 := 23) dX10_corrections_20 rfl (by omega) (by omega) rfl (fun c_20 => ?_) (fun c_20 => by exfalso; first | omega | contradiction | exact absurd (by assumption) c_20 | (simp_all; done))) | refine g_icmp_ge (tgt := 200) (p1 := 23) dX10_corrections_20 rfl rfl (fun c_20 => ?_) (fun c_20 => by exfalso; first | omega | contradiction | exact absurd (by assumption) c_20 | (simp_all; done))
    refine g_iload_n (p0 := 201) (i := 3) dX10_corrections_200 rfl rfl rfl ?_
    refine g_ireturn dX10_corrections_201 rfl rfl (?_)
    exact k σ1 hS
  | succ j ih =>
    intro t ht σ1 hS x5 x6 x7 x8
    have h2 : σ1 92 (m + 1) = nI (f m + n m) := by rw [hS.1 92 (by decide)]; exact hM.2.2.1
    have hb := hM.2.2.2.1
    refine g_iload (p0 := 12) dX10_corrections_10 rfl rfl ?_
    refine g_aload_n (p0 := 13) (i := 0) dX10_corrections_12 rfl rfl rfl ?_
    refine g_getR (p0 := 16) dX10_corrections_13 fX10_46 (by first | rfl | assumption | exact RW.s (by assumption) | exact TW.s (by assumption)) rfl rfl ?_
    refine g_iload_n (p0 := 17) (i := 1) dX10_corrections_16 rfl rfl rfl ?_
    refine g_iconst (p0 := 18) (v := nI 1) dX10_corrections_17 rfl rfl ?_
    first | ((with_reducible refine isN2 ?_); refine g_iaddN (p0 := 19) dX10_corrections_18 rfl ?_) | refine g_iadd (p0 := 19) dX10_corrections_18 rfl ?_
    first | ((with_reducible refine isN1 ?_); refine g_aldN (p0 := 20) dX10_corrections_19 (by first | rfl | assumption | exact RW.s (by assumption) | exact TW.s (by assumption)) (by first | decide | assumption) (by omega) (by first | assumption | ((repeat (first | exact up_hit | refine up_nv (by decide) ?_ | refine up_mv (by first | decide | omega) ?_)) <;> first | assumption | rfl)) rfl ?_) | refine g_ald (p0 := 20) dX10_corrections_19 (by first | rfl | assumption | exact RW.s (by assumption) | exact TW.s (by assumption)) (by assumption) (by first | assumption | ((repeat (first | exact up_hit | refine up_nv (by decide) ?_ | refine up_mv (by first | decide | omega) ?_)) <;> first | assumption | rfl)) rfl ?_
    first | ((with_reducible refine isN2 ?_); refine g_icmpN_ge (tgt := 200) (p1 := 23) dX10_corrections_20 rfl (by omega) (by omega) rfl (fun c_20 => by exfalso; first | omega | contradiction | exact absurd (by assumption) c_20 | (simp_all; done)) (fun c_20 => ?_)) | refine g_icmp_ge (tgt := 200) (p1 := 23) dX10_corrections_20 rfl rfl (fun c_20 => by exfalso; first | omega | contradiction | exact absurd (by assumption) c_20 | (simp_all; done)) (fun c_20 => ?_)
    refine g_iconst (p0 := 24) (v := nI 0) dX10_corrections_23 rfl rfl ?_
    refine g_istore (p0 := 26) (i := 5) (ls2 := [_, _, _, _, _, _, _, _, _]) dX10_corrections_24 (Nat.le_of_ble_eq_true rfl) rfl rfl ?_
    refine rk0_r hP hpos hm (by omega) hS (fun σ2 x6 x7 x8 hS => ?_)
    refine rk1_r hP hpos hm (by omega) hS (fun σ3 x6 x7 x8 hS => ?_)
    refine rk2_r hP hpos hm (by omega) hS (fun σ4 x6 x7 x8 hS => ?_)
    refine rk3_r hP hpos hm (by omega) hS (fun σ5 x6 x7 x8 hS => ?_)
    refine g_iload (p0 := 28) dX10_corrections_26 rfl rfl ?_
    refine g_iconst (p0 := 29) (v := nI 4) dX10_corrections_28 rfl rfl ?_
    first | ((with_reducible refine isN2 ?_); refine g_icmpN_ge (tgt := 194) (p1 := 32) dX10_corrections_29 rfl (by omega) (by omega) rfl (fun c_29 => ?_) (fun c_29 => by exfalso; first | omega | contradiction | exact absurd (by assumption) c_29 | (simp_all; done))) | refine g_icmp_ge (tgt := 194) (p1 := 32) dX10_corrections_29 rfl rfl (fun c_29 => ?_) (fun c_29 => by exfalso; first | omega | contradiction | exact absurd (by assumption) c_29 | (simp_all; done))
    first | refine g_iinc1 (p0 := 197) (ls2 := [_, _, _, _, _, _, _, _, _]) dX10_corrections_194 rfl rfl rfl ?_ | refine g_iinc (p0 := 197) (ls2 := [_, _, _, _, _, _, _, _, _]) dX10_corrections_194 rfl rfl rfl rfl ?_
    refine g_goto (tgt := 10) dX10_corrections_197 rfl ?_
    exact ih (t + 1) (by omega) σ5 hS _ _ _ _
set_option maxRecDepth 20000 in
set_option maxHeartbeats 2000000 in
theorem corrections_r {s M L : Nat} {c fs f n p d g a b : Nat → Nat} {v lc : Nat → Int32} {m : Nat} {w : Int32} {σ : Sg} (hP : REF σ s M L c fs f n p d g a b v lc) (hpos : ∀ l, l < L → 1 ≤ a l ∧ (g l = 2 → 1 ≤ b l) ∧ g l < 500 ∧ a l < 500 ∧ b l < 500) (hm : m < M)  : CM mX10_corrections [ar 79, ai (nI m), ai w] σ (RelI (fun u σ1 => u = nI (cnF (FIQ v lc g a b (f m) (n m)) (4 * n m)) ∧ CR σ σ1 (FIQ v lc g a b (f m) (n m)) (cdq lc g a b (f m)) (4 * n m) w)) := by
  have hM := hP.2.1 m hm
  have hk := hP.1
  have a2 := hM.2.1
  refine CM_in (ls := [some (ar 79), some (ai (nI m)), some (ai w), none, none, none, none, none, none]) rfl ?_
  refine g_iconst (p0 := 1) (v := nI 0) dX10_corrections_0 rfl rfl ?_
  refine g_istore_n (p0 := 2) (i := 3) (ls2 := [_, _, _, _, _, _, _, _, _]) dX10_corrections_1 rfl (Nat.le_of_ble_eq_true rfl) rfl rfl ?_
  refine g_aload_n (p0 := 3) (i := 0) dX10_corrections_2 rfl rfl rfl ?_
  refine g_getR (p0 := 6) dX10_corrections_3 fX10_46 (by first | rfl | assumption | exact RW.s (by assumption) | exact TW.s (by assumption)) rfl rfl ?_
  refine g_iload_n (p0 := 7) (i := 1) dX10_corrections_6 rfl rfl rfl ?_
  first | ((with_reducible refine isN1 ?_); refine g_aldN (p0 := 8) dX10_corrections_7 (by first | rfl | assumption | exact RW.s (by assumption) | exact TW.s (by assumption)) (by first | decide | assumption) (by omega) (by first | assumption | ((repeat (first | exact up_hit | refine up_nv (by decide) ?_ | refine up_mv (by first | decide | omega) ?_)) <;> first | assumption | rfl)) rfl ?_) | refine g_ald (p0 := 8) dX10_corrections_7 (by first | rfl | assumption | exact RW.s (by assumption) | exact TW.s (by assumption)) (by assumption) (by first | assumption | ((repeat (first | exact up_hit | refine up_nv (by decide) ?_ | refine up_mv (by first | decide | omega) ?_)) <;> first | assumption | rfl)) rfl ?_
  refine g_istore (p0 := 10) (i := 4) (ls2 := [_, _, _, _, _, _, _, _, _]) dX10_corrections_8 (Nat.le_of_ble_eq_true rfl) rfl rfl ?_
  exact corr_l (Q := RelI (fun u σ1 => u = nI (cnF (FIQ v lc g a b (f m) (n m)) (4 * n m)) ∧ CR σ σ1 (FIQ v lc g a b (f m) (n m)) (cdq lc g a b (f m)) (4 * n m) w)) hP hpos hm (fun σ1 hS => ⟨_, rfl, rfl, hS⟩) (n m) 0 (by omega) σ ⟨fun z hz => rfl, fun q hq => absurd hq (Nat.not_lt_zero q)⟩ _ _ _ _
