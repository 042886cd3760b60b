/-! QUESTIONS: right messages, the reference -/
theorem nI_ne_m4 {n : Nat} (h : n < 1000) : nI n ≠ -1000004 := by
  intro e
  have e2 := congrArg Int32.toInt e
  rw [nI_toInt (by omega)] at e2
  have e3 : (-1000004 : Int32).toInt = -1000004 := by decide
  omega
def la (v : Nat → Int32) (f n : Nat) : Int32 := if n = 0 then nI 0 else v (f + (n - 1))
set_option maxRecDepth 20000 in
set_option maxHeartbeats 2000000 in
theorem isR_bad {m f2 i : Nat} {S l : Int32} {x8 : Option AV} {σ : Sg} {Q : SP} (hm : m < 160) (h1 : σ 92 (m + 1) = nI f2) (hf2 : f2 ≤ 160) (hi : i ≤ 160) (k : Q (some (ai (nI 0))) σ) : WM mX10_isRight Q 30 [some (ar 79), some (ai (nI m)), some (ai (-1000004)), some (ai (nI 0)), some (ai (S)), some (ai (l)), some (ai (nI 0)), some (ai (nI (i))), x8] [] σ := by
  by_cases h : i < f2
  · refine g_iload (p0 := 32) dX10_isRight_30 rfl rfl ?_
    refine g_aload_n (p0 := 33) (i := 0) dX10_isRight_32 rfl rfl rfl ?_
    refine g_getR (p0 := 36) dX10_isRight_33 fX10_46 (by first | rfl | assumption | exact RW.s (by assumption) | exact TW.s (by assumption)) rfl rfl ?_
    refine g_iload_n (p0 := 37) (i := 1) dX10_isRight_36 rfl rfl rfl ?_
    refine g_iconst (p0 := 38) (v := nI 1) dX10_isRight_37 rfl rfl ?_
    first | ((with_reducible refine isN2 ?_); refine g_iaddN (p0 := 39) dX10_isRight_38 rfl ?_) | refine g_iadd (p0 := 39) dX10_isRight_38 rfl ?_
    first | ((with_reducible refine isN1 ?_); refine g_aldN (p0 := 40) dX10_isRight_39 (by first | rfl | assumption | exact RW.s (by assumption) | exact TW.s (by assumption)) (by first | decide | assumption) (by omega) (by first | assumption | ((repeat (first | exact up_hit | refine up_nv (by decide) ?_ | refine up_mv (by first | decide | omega) ?_)) <;> first | assumption | rfl)) rfl ?_) | refine g_ald (p0 := 40) dX10_isRight_39 (by first | rfl | assumption | exact RW.s (by assumption) | exact TW.s (by assumption)) (by assumption) (by first | assumption | ((repeat (first | exact up_hit | refine up_nv (by decide) ?_ | refine up_mv (by first | decide | omega) ?_)) <;> first | assumption | rfl)) rfl ?_
    first | ((with_reducible refine isN2 ?_); refine g_icmpN_ge (tgt := 121) (p1 := 43) dX10_isRight_40 rfl (by omega) (by omega) rfl (fun c_40 => by exfalso; first | omega | contradiction | exact nI_ne_m4 (by omega) c_40 | exact h c_40 | exact c_40 h) (fun c_40 => ?_)) | refine g_icmp_ge (tgt := 121) (p1 := 43) dX10_isRight_40 rfl rfl (fun c_40 => by exfalso; first | omega | contradiction | exact nI_ne_m4 (by omega) c_40 | exact h c_40 | exact c_40 h) (fun c_40 => ?_)
    refine g_iload (p0 := 45) dX10_isRight_43 rfl rfl ?_
    first | ((with_reducible refine isN1 ?_); refine g_ifN_eq (tgt := 121) (p1 := 48) dX10_isRight_45 rfl (by omega) rfl (fun c_45 => ?_) (fun c_45 => by exfalso; first | omega | contradiction | exact nI_ne_m4 (by omega) c_45 | exact h c_45 | exact c_45 h)) | refine g_if_eq (tgt := 121) (p1 := 48) dX10_isRight_45 rfl rfl (fun c_45 => ?_) (fun c_45 => by exfalso; first | omega | contradiction | exact nI_ne_m4 (by omega) c_45 | exact h c_45 | exact c_45 h)
    refine g_iload (p0 := 123) dX10_isRight_121 rfl rfl ?_
    first | ((with_reducible refine isN1 ?_); refine g_ifN_eq (tgt := 143) (p1 := 126) dX10_isRight_123 rfl (by omega) rfl (fun c_123 => ?_) (fun c_123 => by exfalso; first | omega | contradiction | exact nI_ne_m4 (by omega) c_123 | exact h c_123 | exact c_123 h)) | refine g_if_eq (tgt := 143) (p1 := 126) dX10_isRight_123 rfl rfl (fun c_123 => ?_) (fun c_123 => by exfalso; first | omega | contradiction | exact nI_ne_m4 (by omega) c_123 | exact h c_123 | exact c_123 h)
    refine g_iconst (p0 := 144) (v := nI 0) dX10_isRight_143 rfl rfl ?_
    refine g_ireturn dX10_isRight_144 rfl (by first | rfl | exact bool_narrow (by first | exact Or.inl rfl | exact Or.inr rfl | assumption | (split <;> first | exact Or.inl rfl | exact Or.inr rfl))) (?_)
    exact k
  · refine g_iload (p0 := 32) dX10_isRight_30 rfl rfl ?_
    refine g_aload_n (p0 := 33) (i := 0) dX10_isRight_32 rfl rfl rfl ?_
    refine g_getR (p0 := 36) dX10_isRight_33 fX10_46 (by first | rfl | assumption | exact RW.s (by assumption) | exact TW.s (by assumption)) rfl rfl ?_
    refine g_iload_n (p0 := 37) (i := 1) dX10_isRight_36 rfl rfl rfl ?_
    refine g_iconst (p0 := 38) (v := nI 1) dX10_isRight_37 rfl rfl ?_
    first | ((with_reducible refine isN2 ?_); refine g_iaddN (p0 := 39) dX10_isRight_38 rfl ?_) | refine g_iadd (p0 := 39) dX10_isRight_38 rfl ?_
    first | ((with_reducible refine isN1 ?_); refine g_aldN (p0 := 40) dX10_isRight_39 (by first | rfl | assumption | exact RW.s (by assumption) | exact TW.s (by assumption)) (by first | decide | assumption) (by omega) (by first | assumption | ((repeat (first | exact up_hit | refine up_nv (by decide) ?_ | refine up_mv (by first | decide | omega) ?_)) <;> first | assumption | rfl)) rfl ?_) | refine g_ald (p0 := 40) dX10_isRight_39 (by first | rfl | assumption | exact RW.s (by assumption) | exact TW.s (by assumption)) (by assumption) (by first | assumption | ((repeat (first | exact up_hit | refine up_nv (by decide) ?_ | refine up_mv (by first | decide | omega) ?_)) <;> first | assumption | rfl)) rfl ?_
    first | ((with_reducible refine isN2 ?_); refine g_icmpN_ge (tgt := 121) (p1 := 43) dX10_isRight_40 rfl (by omega) (by omega) rfl (fun c_40 => ?_) (fun c_40 => by exfalso; first | omega | contradiction | exact nI_ne_m4 (by omega) c_40 | exact h c_40 | exact c_40 h)) | refine g_icmp_ge (tgt := 121) (p1 := 43) dX10_isRight_40 rfl rfl (fun c_40 => ?_) (fun c_40 => by exfalso; first | omega | contradiction | exact nI_ne_m4 (by omega) c_40 | exact h c_40 | exact c_40 h)
    refine g_iload (p0 := 123) dX10_isRight_121 rfl rfl ?_
    first | ((with_reducible refine isN1 ?_); refine g_ifN_eq (tgt := 143) (p1 := 126) dX10_isRight_123 rfl (by omega) rfl (fun c_123 => ?_) (fun c_123 => by exfalso; first | omega | contradiction | exact nI_ne_m4 (by omega) c_123 | exact h c_123 | exact c_123 h)) | refine g_if_eq (tgt := 143) (p1 := 126) dX10_isRight_123 rfl rfl (fun c_123 => ?_) (fun c_123 => by exfalso; first | omega | contradiction | exact nI_ne_m4 (by omega) c_123 | exact h c_123 | exact c_123 h)
    refine g_iconst (p0 := 144) (v := nI 0) dX10_isRight_143 rfl rfl ?_
    refine g_ireturn dX10_isRight_144 rfl (by first | rfl | exact bool_narrow (by first | exact Or.inl rfl | exact Or.inr rfl | assumption | (split <;> first | exact Or.inl rfl | exact Or.inr rfl))) (?_)
    exact k
set_option maxRecDepth 20000 in
set_option maxHeartbeats 2000000 in
theorem isR_loop {L m f f2 : Nat} {g a b : Nat → Nat} {v : Nat → Int32} {σ : Sg} {Q : SP} (hV : VAL σ L g a b v) (hm : m < 160) (h1 : σ 92 (m + 1) = nI f2) (hf2 : f2 ≤ L) (k0 : ¬ RGT v f (f2 - f) → Q (some (ai (nI 0))) σ) (k1 : ∀ n, f + n = f2 → uF v f n = 0 → sF v f n - la v f n - (sF v f n - la v f n) / nI 25 * nI 25 = la v f n → Q (some (ai (nI 1))) σ) : ∀ q n, f + n + q = f2 → uF v f n = 0 → ∀ x8, WM mX10_isRight Q 30 [some (ar 79), some (ai (nI m)), some (ai (-1000004)), some (ai (nI 0)), some (ai (sF v f n)), some (ai (la v f n)), some (ai (nI 1)), some (ai (nI (f + n))), x8] [] σ := by
  have h160 := hV.2.1
  intro q
  induction q with
  | zero =>
    intro n hn hu x8
    by_cases h : sF v f n - la v f n - (sF v f n - la v f n) / nI 25 * nI 25 = la v f n
    · have k := k1 n (by omega) hu h
      refine g_iload (p0 := 32) dX10_isRight_30 rfl rfl ?_
      refine g_aload_n (p0 := 33) (i := 0) dX10_isRight_32 rfl rfl rfl ?_
      refine g_getR (p0 := 36) dX10_isRight_33 fX10_46 (by first | rfl | assumption | exact RW.s (by assumption) | exact TW.s (by assumption)) rfl rfl ?_
      refine g_iload_n (p0 := 37) (i := 1) dX10_isRight_36 rfl rfl rfl ?_
      refine g_iconst (p0 := 38) (v := nI 1) dX10_isRight_37 rfl rfl ?_
      first | ((with_reducible refine isN2 ?_); refine g_iaddN (p0 := 39) dX10_isRight_38 rfl ?_) | refine g_iadd (p0 := 39) dX10_isRight_38 rfl ?_
      first | ((with_reducible refine isN1 ?_); refine g_aldN (p0 := 40) dX10_isRight_39 (by first | rfl | assumption | exact RW.s (by assumption) | exact TW.s (by assumption)) (by first | decide | assumption) (by omega) (by first | assumption | ((repeat (first | exact up_hit | refine up_nv (by decide) ?_ | refine up_mv (by first | decide | omega) ?_)) <;> first | assumption | rfl)) rfl ?_) | refine g_ald (p0 := 40) dX10_isRight_39 (by first | rfl | assumption | exact RW.s (by assumption) | exact TW.s (by assumption)) (by assumption) (by first | assumption | ((repeat (first | exact up_hit | refine up_nv (by decide) ?_ | refine up_mv (by first | decide | omega) ?_)) <;> first | assumption | rfl)) rfl ?_
      first | ((with_reducible refine isN2 ?_); refine g_icmpN_ge (tgt := 121) (p1 := 43) dX10_isRight_40 rfl (by omega) (by omega) rfl (fun c_40 => ?_) (fun c_40 => by exfalso; first | omega | contradiction | exact nI_ne_m4 (by omega) c_40 | exact h c_40 | exact c_40 h)) | refine g_icmp_ge (tgt := 121) (p1 := 43) dX10_isRight_40 rfl rfl (fun c_40 => ?_) (fun c_40 => by exfalso; first | omega | contradiction | exact nI_ne_m4 (by omega) c_40 | exact h c_40 | exact c_40 h)
      refine g_iload (p0 := 123) dX10_isRight_121 rfl rfl ?_
      first | ((with_reducible refine isN1 ?_); refine g_ifN_eq (tgt := 143) (p1 := 126) dX10_isRight_123 rfl (by omega) rfl (fun c_123 => by exfalso; first | omega | contradiction | exact nI_ne_m4 (by omega) c_123 | exact h c_123 | exact c_123 h) (fun c_123 => ?_)) | refine g_if_eq (tgt := 143) (p1 := 126) dX10_isRight_123 rfl rfl (fun c_123 => by exfalso; first | omega | contradiction | exact nI_ne_m4 (by omega) c_123 | exact h c_123 | exact c_123 h) (fun c_123 => ?_)
      refine g_iload (p0 := 128) dX10_isRight_126 rfl rfl ?_
      refine g_iload (p0 := 130) dX10_isRight_128 rfl rfl ?_
      first | ((with_reducible refine isN2 ?_); refine g_isubN (p0 := 131) dX10_isRight_130 (by omega) rfl ?_) | refine g_isub (p0 := 131) dX10_isRight_130 rfl ?_
      refine g_bipush (p0 := 133) (v := nI 25) dX10_isRight_131 (by decide) rfl ?_
      first | ((with_reducible refine isN2 ?_); refine g_iremN (p0 := 134) dX10_isRight_133 (by omega) (by omega) (by omega) rfl ?_) | refine g_irem (p0 := 134) dX10_isRight_133 (by decide) rfl ?_
      refine g_iload (p0 := 136) dX10_isRight_134 rfl rfl ?_
      first | ((with_reducible refine isN2 ?_); refine g_icmpN_ne (tgt := 143) (p1 := 139) dX10_isRight_136 rfl (by omega) (by omega) rfl (fun c_136 => by exfalso; first | omega | contradiction | exact nI_ne_m4 (by omega) c_136 | exact h c_136 | exact c_136 h) (fun c_136 => ?_)) | refine g_icmp_ne (tgt := 143) (p1 := 139) dX10_isRight_136 rfl rfl (fun c_136 => by exfalso; first | omega | contradiction | exact nI_ne_m4 (by omega) c_136 | exact h c_136 | exact c_136 h) (fun c_136 => ?_)
      refine g_iconst (p0 := 140) (v := nI 1) dX10_isRight_139 rfl rfl ?_
      refine g_goto (tgt := 144) dX10_isRight_140 rfl ?_
      refine g_ireturn dX10_isRight_144 rfl (by first | rfl | exact bool_narrow (by first | exact Or.inl rfl | exact Or.inr rfl | assumption | (split <;> first | exact Or.inl rfl | exact Or.inr rfl))) (?_)
      exact k
    · refine g_iload (p0 := 32) dX10_isRight_30 rfl rfl ?_
      refine g_aload_n (p0 := 33) (i := 0) dX10_isRight_32 rfl rfl rfl ?_
      refine g_getR (p0 := 36) dX10_isRight_33 fX10_46 (by first | rfl | assumption | exact RW.s (by assumption) | exact TW.s (by assumption)) rfl rfl ?_
      refine g_iload_n (p0 := 37) (i := 1) dX10_isRight_36 rfl rfl rfl ?_
      refine g_iconst (p0 := 38) (v := nI 1) dX10_isRight_37 rfl rfl ?_
      first | ((with_reducible refine isN2 ?_); refine g_iaddN (p0 := 39) dX10_isRight_38 rfl ?_) | refine g_iadd (p0 := 39) dX10_isRight_38 rfl ?_
      first | ((with_reducible refine isN1 ?_); refine g_aldN (p0 := 40) dX10_isRight_39 (by first | rfl | assumption | exact RW.s (by assumption) | exact TW.s (by assumption)) (by first | decide | assumption) (by omega) (by first | assumption | ((repeat (first | exact up_hit | refine up_nv (by decide) ?_ | refine up_mv (by first | decide | omega) ?_)) <;> first | assumption | rfl)) rfl ?_) | refine g_ald (p0 := 40) dX10_isRight_39 (by first | rfl | assumption | exact RW.s (by assumption) | exact TW.s (by assumption)) (by assumption) (by first | assumption | ((repeat (first | exact up_hit | refine up_nv (by decide) ?_ | refine up_mv (by first | decide | omega) ?_)) <;> first | assumption | rfl)) rfl ?_
      first | ((with_reducible refine isN2 ?_); refine g_icmpN_ge (tgt := 121) (p1 := 43) dX10_isRight_40 rfl (by omega) (by omega) rfl (fun c_40 => ?_) (fun c_40 => by exfalso; first | omega | contradiction | exact nI_ne_m4 (by omega) c_40 | exact h c_40 | exact c_40 h)) | refine g_icmp_ge (tgt := 121) (p1 := 43) dX10_isRight_40 rfl rfl (fun c_40 => ?_) (fun c_40 => by exfalso; first | omega | contradiction | exact nI_ne_m4 (by omega) c_40 | exact h c_40 | exact c_40 h)
      refine g_iload (p0 := 123) dX10_isRight_121 rfl rfl ?_
      first | ((with_reducible refine isN1 ?_); refine g_ifN_eq (tgt := 143) (p1 := 126) dX10_isRight_123 rfl (by omega) rfl (fun c_123 => by exfalso; first | omega | contradiction | exact nI_ne_m4 (by omega) c_123 | exact h c_123 | exact c_123 h) (fun c_123 => ?_)) | refine g_if_eq (tgt := 143) (p1 := 126) dX10_isRight_123 rfl rfl (fun c_123 => by exfalso; first | omega | contradiction | exact nI_ne_m4 (by omega) c_123 | exact h c_123 | exact c_123 h) (fun c_123 => ?_)
      refine g_iload (p0 := 128) dX10_isRight_126 rfl rfl ?_
      refine g_iload (p0 := 130) dX10_isRight_128 rfl rfl ?_
      first | ((with_reducible refine isN2 ?_); refine g_isubN (p0 := 131) dX10_isRight_130 (by omega) rfl ?_) | refine g_isub (p0 := 131) dX10_isRight_130 rfl ?_
      refine g_bipush (p0 := 133) (v := nI 25) dX10_isRight_131 (by decide) rfl ?_
      first | ((with_reducible refine isN2 ?_); refine g_iremN (p0 := 134) dX10_isRight_133 (by omega) (by omega) (by omega) rfl ?_) | refine g_irem (p0 := 134) dX10_isRight_133 (by decide) rfl ?_
      refine g_iload (p0 := 136) dX10_isRight_134 rfl rfl ?_
      first | ((with_reducible refine isN2 ?_); refine g_icmpN_ne (tgt := 143) (p1 := 139) dX10_isRight_136 rfl (by omega) (by omega) rfl (fun c_136 => ?_) (fun c_136 => by exfalso; first | omega | contradiction | exact nI_ne_m4 (by omega) c_136 | exact h c_136 | exact c_136 h)) | refine g_icmp_ne (tgt := 143) (p1 := 139) dX10_isRight_136 rfl rfl (fun c_136 => ?_) (fun c_136 => by exfalso; first | omega | contradiction | exact nI_ne_m4 (by omega) c_136 | exact h c_136 | exact c_136 h)
      refine g_iconst (p0 := 144) (v := nI 0) dX10_isRight_143 rfl rfl ?_
      refine g_ireturn dX10_isRight_144 rfl (by first | rfl | exact bool_narrow (by first | exact Or.inl rfl | exact Or.inr rfl | assumption | (split <;> first | exact Or.inl rfl | exact Or.inr rfl))) (?_)
      refine k0 (fun q => h ?_)
      have hn2 : f2 - f = n := by omega
      rw [hn2] at q
      rw [la, if_neg (by have := q.1; omega)]
      exact q.2.2
  | succ q ih =>
    intro n hn hu x8
    rcases hV.read (l := f + n) (by omega) with ⟨hv, hr⟩ | ⟨hv, _, _, _, _, hr, h0⟩
    · refine g_iload (p0 := 32) dX10_isRight_30 rfl rfl ?_
      refine g_aload_n (p0 := 33) (i := 0) dX10_isRight_32 rfl rfl rfl ?_
      refine g_getR (p0 := 36) dX10_isRight_33 fX10_46 (by first | rfl | assumption | exact RW.s (by assumption) | exact TW.s (by assumption)) rfl rfl ?_
      refine g_iload_n (p0 := 37) (i := 1) dX10_isRight_36 rfl rfl rfl ?_
      refine g_iconst (p0 := 38) (v := nI 1) dX10_isRight_37 rfl rfl ?_
      first | ((with_reducible refine isN2 ?_); refine g_iaddN (p0 := 39) dX10_isRight_38 rfl ?_) | refine g_iadd (p0 := 39) dX10_isRight_38 rfl ?_
      first | ((with_reducible refine isN1 ?_); refine g_aldN (p0 := 40) dX10_isRight_39 (by first | rfl | assumption | exact RW.s (by assumption) | exact TW.s (by assumption)) (by first | decide | assumption) (by omega) (by first | assumption | ((repeat (first | exact up_hit | refine up_nv (by decide) ?_ | refine up_mv (by first | decide | omega) ?_)) <;> first | assumption | rfl)) rfl ?_) | refine g_ald (p0 := 40) dX10_isRight_39 (by first | rfl | assumption | exact RW.s (by assumption) | exact TW.s (by assumption)) (by assumption) (by first | assumption | ((repeat (first | exact up_hit | refine up_nv (by decide) ?_ | refine up_mv (by first | decide | omega) ?_)) <;> first | assumption | rfl)) rfl ?_
      first | ((with_reducible refine isN2 ?_); refine g_icmpN_ge (tgt := 121) (p1 := 43) dX10_isRight_40 rfl (by omega) (by omega) rfl (fun c_40 => by exfalso; first | omega | contradiction | exact nI_ne_m4 (by omega) c_40 | exact h c_40 | exact c_40 h) (fun c_40 => ?_)) | refine g_icmp_ge (tgt := 121) (p1 := 43) dX10_isRight_40 rfl rfl (fun c_40 => by exfalso; first | omega | contradiction | exact nI_ne_m4 (by omega) c_40 | exact h c_40 | exact c_40 h) (fun c_40 => ?_)
      refine g_iload (p0 := 45) dX10_isRight_43 rfl rfl ?_
      first | ((with_reducible refine isN1 ?_); refine g_ifN_eq (tgt := 121) (p1 := 48) dX10_isRight_45 rfl (by omega) rfl (fun c_45 => by exfalso; first | omega | contradiction | exact nI_ne_m4 (by omega) c_45 | exact h c_45 | exact c_45 h) (fun c_45 => ?_)) | refine g_if_eq (tgt := 121) (p1 := 48) dX10_isRight_45 rfl rfl (fun c_45 => by exfalso; first | omega | contradiction | exact nI_ne_m4 (by omega) c_45 | exact h c_45 | exact c_45 h) (fun c_45 => ?_)
      refine g_iload (p0 := 50) dX10_isRight_48 rfl rfl ?_
      refine g_iload_n (p0 := 51) (i := 2) dX10_isRight_50 rfl rfl rfl ?_
      first | ((with_reducible refine isN2 ?_); refine g_icmpN_ne (tgt := 58) (p1 := 54) dX10_isRight_51 rfl (by omega) (by omega) rfl (fun c_51 => ?_) (fun c_51 => by exfalso; first | omega | contradiction | exact nI_ne_m4 (by omega) c_51 | exact h c_51 | exact c_51 h)) | refine g_icmp_ne (tgt := 58) (p1 := 54) dX10_isRight_51 rfl rfl (fun c_51 => ?_) (fun c_51 => by exfalso; first | omega | contradiction | exact nI_ne_m4 (by omega) c_51 | exact h c_51 | exact c_51 h)
      refine g_iconst (p0 := 59) (v := nI 0) dX10_isRight_58 rfl rfl ?_
      refine g_istore (p0 := 61) (i := 8) (ls2 := [_, _, _, _, _, _, _, _, _]) dX10_isRight_59 (Nat.le_of_ble_eq_true rfl) rfl rfl ?_
      refine g_iload (p0 := 63) dX10_isRight_61 rfl rfl ?_
      first | ((with_reducible refine isN1 ?_); refine g_ifN_ne (tgt := 75) (p1 := 66) dX10_isRight_63 rfl (by omega) rfl (fun c_63 => by exfalso; first | omega | contradiction | exact nI_ne_m4 (by omega) c_63 | exact h c_63 | exact c_63 h) (fun c_63 => ?_)) | refine g_if_ne (tgt := 75) (p1 := 66) dX10_isRight_63 rfl rfl (fun c_63 => by exfalso; first | omega | contradiction | exact nI_ne_m4 (by omega) c_63 | exact h c_63 | exact c_63 h) (fun c_63 => ?_)
      refine g_aload_n (p0 := 67) (i := 0) dX10_isRight_66 rfl rfl rfl ?_
      refine g_iload (p0 := 69) dX10_isRight_67 rfl rfl ?_
      refine g_cV1R (p0 := 72) (r1 := mX10_isReadable) dX10_isRight_69 lX10_145 vX10_isReadable (by first | rfl | assumption | exact RW.s (by assumption) | exact TW.s (by assumption)) ⟨_, _, rfl⟩ (FITi rfl rfl) (Nat.le_of_ble_eq_true rfl) (hr) rfl ?_
      first | ((with_reducible refine isN1 ?_); refine g_ifN_eq (tgt := 79) (p1 := 75) dX10_isRight_72 rfl (by omega) rfl (fun c_72 => ?_) (fun c_72 => by exfalso; first | omega | contradiction | exact nI_ne_m4 (by omega) c_72 | exact h c_72 | exact c_72 h)) | refine g_if_eq (tgt := 79) (p1 := 75) dX10_isRight_72 rfl rfl (fun c_72 => ?_) (fun c_72 => by exfalso; first | omega | contradiction | exact nI_ne_m4 (by omega) c_72 | exact h c_72 | exact c_72 h)
      refine g_iconst (p0 := 80) (v := nI 0) dX10_isRight_79 rfl rfl ?_
      refine g_istore (p0 := 82) (i := 6) (ls2 := [_, _, _, _, _, _, _, _, _]) dX10_isRight_80 (Nat.le_of_ble_eq_true rfl) rfl rfl ?_
      refine g_iload (p0 := 84) dX10_isRight_82 rfl rfl ?_
      first | ((with_reducible refine isN1 ?_); refine g_ifN_eq (tgt := 91) (p1 := 87) dX10_isRight_84 rfl (by omega) rfl (fun c_84 => ?_) (fun c_84 => by exfalso; first | omega | contradiction | exact nI_ne_m4 (by omega) c_84 | exact h c_84 | exact c_84 h)) | refine g_if_eq (tgt := 91) (p1 := 87) dX10_isRight_84 rfl rfl (fun c_84 => ?_) (fun c_84 => by exfalso; first | omega | contradiction | exact nI_ne_m4 (by omega) c_84 | exact h c_84 | exact c_84 h)
      refine g_iload (p0 := 93) dX10_isRight_91 rfl rfl ?_
      first | ((with_reducible refine isN1 ?_); refine g_ifN_eq (tgt := 105) (p1 := 96) dX10_isRight_93 rfl (by omega) rfl (fun c_93 => ?_) (fun c_93 => by exfalso; first | omega | contradiction | exact nI_ne_m4 (by omega) c_93 | exact h c_93 | exact c_93 h)) | refine g_if_eq (tgt := 105) (p1 := 96) dX10_isRight_93 rfl rfl (fun c_93 => ?_) (fun c_93 => by exfalso; first | omega | contradiction | exact nI_ne_m4 (by omega) c_93 | exact h c_93 | exact c_93 h)
      refine g_iconst (p0 := 106) (v := nI 0) dX10_isRight_105 rfl rfl ?_
      refine g_istore (p0 := 108) (i := 5) (ls2 := [_, _, _, _, _, _, _, _, _]) dX10_isRight_106 (Nat.le_of_ble_eq_true rfl) rfl rfl ?_
      refine g_iload (p0 := 110) dX10_isRight_108 rfl rfl ?_
      refine g_iload (p0 := 112) dX10_isRight_110 rfl rfl ?_
      first | ((with_reducible refine isN2 ?_); refine g_iaddN (p0 := 113) dX10_isRight_112 rfl ?_) | refine g_iadd (p0 := 113) dX10_isRight_112 rfl ?_
      refine g_istore (p0 := 115) (i := 4) (ls2 := [_, _, _, _, _, _, _, _, _]) dX10_isRight_113 (Nat.le_of_ble_eq_true rfl) rfl rfl ?_
      first | refine g_iinc1 (p0 := 118) (ls2 := [_, _, _, _, _, _, _, _, _]) dX10_isRight_115 rfl rfl rfl ?_ | refine g_iinc (p0 := 118) (ls2 := [_, _, _, _, _, _, _, _, _]) dX10_isRight_115 rfl rfl rfl rfl ?_
      refine g_goto (tgt := 30) dX10_isRight_118 rfl ?_
      exact isR_bad hm h1 (by omega) (by omega) (k0 (fun q2 => uF_zero _ q2.2.1 n (by omega) hv))
    · have e : sF v f (n + 1) = sF v f n + v (f + n) := by rw [sF, if_neg hv]
      have e2 : la v f (n + 1) = v (f + n) := by rw [la, if_neg (by omega)]; rfl
      have h := ih (n + 1) (by omega) (by rw [uF, if_neg hv]; exact hu)
      rw [e, e2] at h
      refine g_iload (p0 := 32) dX10_isRight_30 rfl rfl ?_
      refine g_aload_n (p0 := 33) (i := 0) dX10_isRight_32 rfl rfl rfl ?_
      refine g_getR (p0 := 36) dX10_isRight_33 fX10_46 (by first | rfl | assumption | exact RW.s (by assumption) | exact TW.s (by assumption)) rfl rfl ?_
      refine g_iload_n (p0 := 37) (i := 1) dX10_isRight_36 rfl rfl rfl ?_
      refine g_iconst (p0 := 38) (v := nI 1) dX10_isRight_37 rfl rfl ?_
      first | ((with_reducible refine isN2 ?_); refine g_iaddN (p0 := 39) dX10_isRight_38 rfl ?_) | refine g_iadd (p0 := 39) dX10_isRight_38 rfl ?_
      first | ((with_reducible refine isN1 ?_); refine g_aldN (p0 := 40) dX10_isRight_39 (by first | rfl | assumption | exact RW.s (by assumption) | exact TW.s (by assumption)) (by first | decide | assumption) (by omega) (by first | assumption | ((repeat (first | exact up_hit | refine up_nv (by decide) ?_ | refine up_mv (by first | decide | omega) ?_)) <;> first | assumption | rfl)) rfl ?_) | refine g_ald (p0 := 40) dX10_isRight_39 (by first | rfl | assumption | exact RW.s (by assumption) | exact TW.s (by assumption)) (by assumption) (by first | assumption | ((repeat (first | exact up_hit | refine up_nv (by decide) ?_ | refine up_mv (by first | decide | omega) ?_)) <;> first | assumption | rfl)) rfl ?_
      first | ((with_reducible refine isN2 ?_); refine g_icmpN_ge (tgt := 121) (p1 := 43) dX10_isRight_40 rfl (by omega) (by omega) rfl (fun c_40 => by exfalso; first | omega | contradiction | exact nI_ne_m4 (by omega) c_40 | exact h c_40 | exact c_40 h) (fun c_40 => ?_)) | refine g_icmp_ge (tgt := 121) (p1 := 43) dX10_isRight_40 rfl rfl (fun c_40 => by exfalso; first | omega | contradiction | exact nI_ne_m4 (by omega) c_40 | exact h c_40 | exact c_40 h) (fun c_40 => ?_)
      refine g_iload (p0 := 45) dX10_isRight_43 rfl rfl ?_
      first | ((with_reducible refine isN1 ?_); refine g_ifN_eq (tgt := 121) (p1 := 48) dX10_isRight_45 rfl (by omega) rfl (fun c_45 => by exfalso; first | omega | contradiction | exact nI_ne_m4 (by omega) c_45 | exact h c_45 | exact c_45 h) (fun c_45 => ?_)) | refine g_if_eq (tgt := 121) (p1 := 48) dX10_isRight_45 rfl rfl (fun c_45 => by exfalso; first | omega | contradiction | exact nI_ne_m4 (by omega) c_45 | exact h c_45 | exact c_45 h) (fun c_45 => ?_)
      refine g_iload (p0 := 50) dX10_isRight_48 rfl rfl ?_
      refine g_iload_n (p0 := 51) (i := 2) dX10_isRight_50 rfl rfl rfl ?_
      first | ((with_reducible refine isN2 ?_); refine g_icmpN_ne (tgt := 58) (p1 := 54) dX10_isRight_51 rfl (by omega) (by omega) rfl (fun c_51 => ?_) (fun c_51 => by exfalso; first | omega | contradiction | exact nI_ne_m4 (by omega) c_51 | exact h c_51 | exact c_51 h)) | refine g_icmp_ne (tgt := 58) (p1 := 54) dX10_isRight_51 rfl rfl (fun c_51 => ?_) (fun c_51 => by exfalso; first | omega | contradiction | exact nI_ne_m4 (by omega) c_51 | exact h c_51 | exact c_51 h)
      refine g_iconst (p0 := 59) (v := nI 0) dX10_isRight_58 rfl rfl ?_
      refine g_istore (p0 := 61) (i := 8) (ls2 := [_, _, _, _, _, _, _, _, _]) dX10_isRight_59 (Nat.le_of_ble_eq_true rfl) rfl rfl ?_
      refine g_iload (p0 := 63) dX10_isRight_61 rfl rfl ?_
      first | ((with_reducible refine isN1 ?_); refine g_ifN_ne (tgt := 75) (p1 := 66) dX10_isRight_63 rfl (by omega) rfl (fun c_63 => by exfalso; first | omega | contradiction | exact nI_ne_m4 (by omega) c_63 | exact h c_63 | exact c_63 h) (fun c_63 => ?_)) | refine g_if_ne (tgt := 75) (p1 := 66) dX10_isRight_63 rfl rfl (fun c_63 => by exfalso; first | omega | contradiction | exact nI_ne_m4 (by omega) c_63 | exact h c_63 | exact c_63 h) (fun c_63 => ?_)
      refine g_aload_n (p0 := 67) (i := 0) dX10_isRight_66 rfl rfl rfl ?_
      refine g_iload (p0 := 69) dX10_isRight_67 rfl rfl ?_
      refine g_cV1R (p0 := 72) (r1 := mX10_isReadable) dX10_isRight_69 lX10_145 vX10_isReadable (by first | rfl | assumption | exact RW.s (by assumption) | exact TW.s (by assumption)) ⟨_, _, rfl⟩ (FITi rfl rfl) (Nat.le_of_ble_eq_true rfl) (hr) rfl ?_
      first | ((with_reducible refine isN1 ?_); refine g_ifN_eq (tgt := 79) (p1 := 75) dX10_isRight_72 rfl (by omega) rfl (fun c_72 => by exfalso; first | omega | contradiction | exact nI_ne_m4 (by omega) c_72 | exact h c_72 | exact c_72 h) (fun c_72 => ?_)) | refine g_if_eq (tgt := 79) (p1 := 75) dX10_isRight_72 rfl rfl (fun c_72 => by exfalso; first | omega | contradiction | exact nI_ne_m4 (by omega) c_72 | exact h c_72 | exact c_72 h) (fun c_72 => ?_)
      refine g_iconst (p0 := 76) (v := nI 1) dX10_isRight_75 rfl rfl ?_
      refine g_goto (tgt := 80) dX10_isRight_76 rfl ?_
      refine g_istore (p0 := 82) (i := 6) (ls2 := [_, _, _, _, _, _, _, _, _]) dX10_isRight_80 (Nat.le_of_ble_eq_true rfl) rfl rfl ?_
      refine g_iload (p0 := 84) dX10_isRight_82 rfl rfl ?_
      first | ((with_reducible refine isN1 ?_); refine g_ifN_eq (tgt := 91) (p1 := 87) dX10_isRight_84 rfl (by omega) rfl (fun c_84 => ?_) (fun c_84 => by exfalso; first | omega | contradiction | exact nI_ne_m4 (by omega) c_84 | exact h c_84 | exact c_84 h)) | refine g_if_eq (tgt := 91) (p1 := 87) dX10_isRight_84 rfl rfl (fun c_84 => ?_) (fun c_84 => by exfalso; first | omega | contradiction | exact nI_ne_m4 (by omega) c_84 | exact h c_84 | exact c_84 h)
      refine g_iload (p0 := 93) dX10_isRight_91 rfl rfl ?_
      first | ((with_reducible refine isN1 ?_); refine g_ifN_eq (tgt := 105) (p1 := 96) dX10_isRight_93 rfl (by omega) rfl (fun c_93 => by exfalso; first | omega | contradiction | exact nI_ne_m4 (by omega) c_93 | exact h c_93 | exact c_93 h) (fun c_93 => ?_)) | refine g_if_eq (tgt := 105) (p1 := 96) dX10_isRight_93 rfl rfl (fun c_93 => by exfalso; first | omega | contradiction | exact nI_ne_m4 (by omega) c_93 | exact h c_93 | exact c_93 h) (fun c_93 => ?_)
      refine g_aload_n (p0 := 97) (i := 0) dX10_isRight_96 rfl rfl rfl ?_
      refine g_iload (p0 := 99) dX10_isRight_97 rfl rfl ?_
      refine g_cV1R (p0 := 102) (r1 := mX10_read0) dX10_isRight_99 lX10_148 vX10_read0 (by first | rfl | assumption | exact RW.s (by assumption) | exact TW.s (by assumption)) ⟨_, _, rfl⟩ (FITi rfl rfl) (Nat.le_of_ble_eq_true rfl) (h0) rfl ?_
      refine g_goto (tgt := 106) dX10_isRight_102 rfl ?_
      refine g_istore (p0 := 108) (i := 5) (ls2 := [_, _, _, _, _, _, _, _, _]) dX10_isRight_106 (Nat.le_of_ble_eq_true rfl) rfl rfl ?_
      refine g_iload (p0 := 110) dX10_isRight_108 rfl rfl ?_
      refine g_iload (p0 := 112) dX10_isRight_110 rfl rfl ?_
      first | ((with_reducible refine isN2 ?_); refine g_iaddN (p0 := 113) dX10_isRight_112 rfl ?_) | refine g_iadd (p0 := 113) dX10_isRight_112 rfl ?_
      refine g_istore (p0 := 115) (i := 4) (ls2 := [_, _, _, _, _, _, _, _, _]) dX10_isRight_113 (Nat.le_of_ble_eq_true rfl) rfl rfl ?_
      first | refine g_iinc1 (p0 := 118) (ls2 := [_, _, _, _, _, _, _, _, _]) dX10_isRight_115 rfl rfl rfl ?_ | refine g_iinc (p0 := 118) (ls2 := [_, _, _, _, _, _, _, _, _]) dX10_isRight_115 rfl rfl rfl rfl ?_
      refine g_goto (tgt := 30) dX10_isRight_118 rfl ?_
      exact h _
set_option maxRecDepth 20000 in
set_option maxHeartbeats 2000000 in
theorem rR_1 {L m f n : Nat} {g a b : Nat → Nat} {v : Nat → Int32} {σ : Sg} (hV : VAL σ L g a b v) (hm : m < 160) (h0 : σ 92 m = nI f) (h1 : σ 92 (m + 1) = nI (f + n)) (hf2 : f + n ≤ L) (hR : RGT v f n) : CM mX10_isRight [ar 79, ai (nI m), ai (-1000004), ai (nI 0)] σ (Ret (nI 1) σ) := by
  have h160 := hV.2.1
  have hn2 := hR.1
  refine CM_in (ls := [some (ar 79), some (ai (nI m)), some (ai (-1000004)), some (ai (nI 0)), none, none, none, none, none]) rfl ?_
  refine g_iconst (p0 := 1) (v := nI 0) dX10_isRight_0 rfl rfl ?_
  refine g_istore (p0 := 3) (i := 4) (ls2 := [_, _, _, _, _, _, _, _, _]) dX10_isRight_1 (Nat.le_of_ble_eq_true rfl) rfl rfl ?_
  refine g_iconst (p0 := 4) (v := nI 0) dX10_isRight_3 rfl rfl ?_
  refine g_istore (p0 := 6) (i := 5) (ls2 := [_, _, _, _, _, _, _, _, _]) dX10_isRight_4 (Nat.le_of_ble_eq_true rfl) rfl rfl ?_
  refine g_aload_n (p0 := 7) (i := 0) dX10_isRight_6 rfl rfl rfl ?_
  refine g_iload_n (p0 := 8) (i := 1) dX10_isRight_7 rfl rfl rfl ?_
  refine g_cV1R (p0 := 11) (r1 := mX10_longOf) dX10_isRight_8 lX10_142 vX10_longOf (by first | rfl | assumption | exact RW.s (by assumption) | exact TW.s (by assumption)) ⟨_, _, rfl⟩ (FITi rfl rfl) (Nat.le_of_ble_eq_true rfl) (longOf_sp hm h0 h1 (by omega)) rfl ?_
  refine g_iconst (p0 := 12) (v := nI 1) dX10_isRight_11 rfl rfl ?_
  first | ((with_reducible refine isN2 ?_); refine g_icmpN_le (tgt := 19) (p1 := 15) dX10_isRight_12 rfl (by omega) (by omega) rfl (fun c_12 => by exfalso; first | omega | contradiction | exact nI_ne_m4 (by omega) c_12 | exact h c_12 | exact c_12 h) (fun c_12 => ?_)) | refine g_icmp_le (tgt := 19) (p1 := 15) dX10_isRight_12 rfl rfl (fun c_12 => by exfalso; first | omega | contradiction | exact nI_ne_m4 (by omega) c_12 | exact h c_12 | exact c_12 h) (fun c_12 => ?_)
  refine g_iconst (p0 := 16) (v := nI 1) dX10_isRight_15 rfl rfl ?_
  refine g_goto (tgt := 20) dX10_isRight_16 rfl ?_
  refine g_istore (p0 := 22) (i := 6) (ls2 := [_, _, _, _, _, _, _, _, _]) dX10_isRight_20 (Nat.le_of_ble_eq_true rfl) rfl rfl ?_
  refine g_aload_n (p0 := 23) (i := 0) dX10_isRight_22 rfl rfl rfl ?_
  refine g_getR (p0 := 26) dX10_isRight_23 fX10_46 (by first | rfl | assumption | exact RW.s (by assumption) | exact TW.s (by assumption)) rfl rfl ?_
  refine g_iload_n (p0 := 27) (i := 1) dX10_isRight_26 rfl rfl rfl ?_
  first | ((with_reducible refine isN1 ?_); refine g_aldN (p0 := 28) dX10_isRight_27 (by first | rfl | assumption | exact RW.s (by assumption) | exact TW.s (by assumption)) (by first | decide | assumption) (by omega) (by first | assumption | ((repeat (first | exact up_hit | refine up_nv (by decide) ?_ | refine up_mv (by first | decide | omega) ?_)) <;> first | assumption | rfl)) rfl ?_) | refine g_ald (p0 := 28) dX10_isRight_27 (by first | rfl | assumption | exact RW.s (by assumption) | exact TW.s (by assumption)) (by assumption) (by first | assumption | ((repeat (first | exact up_hit | refine up_nv (by decide) ?_ | refine up_mv (by first | decide | omega) ?_)) <;> first | assumption | rfl)) rfl ?_
  refine g_istore (p0 := 30) (i := 7) (ls2 := [_, _, _, _, _, _, _, _, _]) dX10_isRight_28 (Nat.le_of_ble_eq_true rfl) rfl rfl ?_
  exact isR_loop (f := f) hV hm h1 hf2 (fun q => absurd (by rw [Nat.add_sub_cancel_left]; exact hR) q) (fun _ _ _ _ => ⟨rfl, rfl⟩) n 0 (by omega) rfl _
set_option maxRecDepth 20000 in
set_option maxHeartbeats 2000000 in
theorem rR_0s {L m f n : Nat} {g a b : Nat → Nat} {v : Nat → Int32} {σ : Sg} (hV : VAL σ L g a b v) (hm : m < 160) (h0 : σ 92 m = nI f) (h1 : σ 92 (m + 1) = nI (f + n)) (hf2 : f + n ≤ L) (hn : n < 2) : CM mX10_isRight [ar 79, ai (nI m), ai (-1000004), ai (nI 0)] σ (Ret (nI 0) σ) := by
  have h160 := hV.2.1
  refine CM_in (ls := [some (ar 79), some (ai (nI m)), some (ai (-1000004)), some (ai (nI 0)), none, none, none, none, none]) rfl ?_
  refine g_iconst (p0 := 1) (v := nI 0) dX10_isRight_0 rfl rfl ?_
  refine g_istore (p0 := 3) (i := 4) (ls2 := [_, _, _, _, _, _, _, _, _]) dX10_isRight_1 (Nat.le_of_ble_eq_true rfl) rfl rfl ?_
  refine g_iconst (p0 := 4) (v := nI 0) dX10_isRight_3 rfl rfl ?_
  refine g_istore (p0 := 6) (i := 5) (ls2 := [_, _, _, _, _, _, _, _, _]) dX10_isRight_4 (Nat.le_of_ble_eq_true rfl) rfl rfl ?_
  refine g_aload_n (p0 := 7) (i := 0) dX10_isRight_6 rfl rfl rfl ?_
  refine g_iload_n (p0 := 8) (i := 1) dX10_isRight_7 rfl rfl rfl ?_
  refine g_cV1R (p0 := 11) (r1 := mX10_longOf) dX10_isRight_8 lX10_142 vX10_longOf (by first | rfl | assumption | exact RW.s (by assumption) | exact TW.s (by assumption)) ⟨_, _, rfl⟩ (FITi rfl rfl) (Nat.le_of_ble_eq_true rfl) (longOf_sp hm h0 h1 (by omega)) rfl ?_
  refine g_iconst (p0 := 12) (v := nI 1) dX10_isRight_11 rfl rfl ?_
  first | ((with_reducible refine isN2 ?_); refine g_icmpN_le (tgt := 19) (p1 := 15) dX10_isRight_12 rfl (by omega) (by omega) rfl (fun c_12 => ?_) (fun c_12 => by exfalso; first | omega | contradiction | exact nI_ne_m4 (by omega) c_12 | exact h c_12 | exact c_12 h)) | refine g_icmp_le (tgt := 19) (p1 := 15) dX10_isRight_12 rfl rfl (fun c_12 => ?_) (fun c_12 => by exfalso; first | omega | contradiction | exact nI_ne_m4 (by omega) c_12 | exact h c_12 | exact c_12 h)
  refine g_iconst (p0 := 20) (v := nI 0) dX10_isRight_19 rfl rfl ?_
  refine g_istore (p0 := 22) (i := 6) (ls2 := [_, _, _, _, _, _, _, _, _]) dX10_isRight_20 (Nat.le_of_ble_eq_true rfl) rfl rfl ?_
  refine g_aload_n (p0 := 23) (i := 0) dX10_isRight_22 rfl rfl rfl ?_
  refine g_getR (p0 := 26) dX10_isRight_23 fX10_46 (by first | rfl | assumption | exact RW.s (by assumption) | exact TW.s (by assumption)) rfl rfl ?_
  refine g_iload_n (p0 := 27) (i := 1) dX10_isRight_26 rfl rfl rfl ?_
  first | ((with_reducible refine isN1 ?_); refine g_aldN (p0 := 28) dX10_isRight_27 (by first | rfl | assumption | exact RW.s (by assumption) | exact TW.s (by assumption)) (by first | decide | assumption) (by omega) (by first | assumption | ((repeat (first | exact up_hit | refine up_nv (by decide) ?_ | refine up_mv (by first | decide | omega) ?_)) <;> first | assumption | rfl)) rfl ?_) | refine g_ald (p0 := 28) dX10_isRight_27 (by first | rfl | assumption | exact RW.s (by assumption) | exact TW.s (by assumption)) (by assumption) (by first | assumption | ((repeat (first | exact up_hit | refine up_nv (by decide) ?_ | refine up_mv (by first | decide | omega) ?_)) <;> first | assumption | rfl)) rfl ?_
  refine g_istore (p0 := 30) (i := 7) (ls2 := [_, _, _, _, _, _, _, _, _]) dX10_isRight_28 (Nat.le_of_ble_eq_true rfl) rfl rfl ?_
  exact isR_bad hm h1 (by omega) (by omega) ⟨rfl, rfl⟩
set_option maxRecDepth 20000 in
set_option maxHeartbeats 2000000 in
theorem rR_0 {L m f n : Nat} {g a b : Nat → Nat} {v : Nat → Int32} {σ : Sg} (hV : VAL σ L g a b v) (hm : m < 160) (h0 : σ 92 m = nI f) (h1 : σ 92 (m + 1) = nI (f + n)) (hf2 : f + n ≤ L) (hn : 2 ≤ n) (hR : ¬ RGT v f n) : CM mX10_isRight [ar 79, ai (nI m), ai (-1000004), ai (nI 0)] σ (Ret (nI 0) σ) := by
  have h160 := hV.2.1
  refine CM_in (ls := [some (ar 79), some (ai (nI m)), some (ai (-1000004)), some (ai (nI 0)), none, none, none, none, none]) rfl ?_
  refine g_iconst (p0 := 1) (v := nI 0) dX10_isRight_0 rfl rfl ?_
  refine g_istore (p0 := 3) (i := 4) (ls2 := [_, _, _, _, _, _, _, _, _]) dX10_isRight_1 (Nat.le_of_ble_eq_true rfl) rfl rfl ?_
  refine g_iconst (p0 := 4) (v := nI 0) dX10_isRight_3 rfl rfl ?_
  refine g_istore (p0 := 6) (i := 5) (ls2 := [_, _, _, _, _, _, _, _, _]) dX10_isRight_4 (Nat.le_of_ble_eq_true rfl) rfl rfl ?_
  refine g_aload_n (p0 := 7) (i := 0) dX10_isRight_6 rfl rfl rfl ?_
  refine g_iload_n (p0 := 8) (i := 1) dX10_isRight_7 rfl rfl rfl ?_
  refine g_cV1R (p0 := 11) (r1 := mX10_longOf) dX10_isRight_8 lX10_142 vX10_longOf (by first | rfl | assumption | exact RW.s (by assumption) | exact TW.s (by assumption)) ⟨_, _, rfl⟩ (FITi rfl rfl) (Nat.le_of_ble_eq_true rfl) (longOf_sp hm h0 h1 (by omega)) rfl ?_
  refine g_iconst (p0 := 12) (v := nI 1) dX10_isRight_11 rfl rfl ?_
  first | ((with_reducible refine isN2 ?_); refine g_icmpN_le (tgt := 19) (p1 := 15) dX10_isRight_12 rfl (by omega) (by omega) rfl (fun c_12 => by exfalso; first | omega | contradiction | exact nI_ne_m4 (by omega) c_12 | exact h c_12 | exact c_12 h) (fun c_12 => ?_)) | refine g_icmp_le (tgt := 19) (p1 := 15) dX10_isRight_12 rfl rfl (fun c_12 => by exfalso; first | omega | contradiction | exact nI_ne_m4 (by omega) c_12 | exact h c_12 | exact c_12 h) (fun c_12 => ?_)
  refine g_iconst (p0 := 16) (v := nI 1) dX10_isRight_15 rfl rfl ?_
  refine g_goto (tgt := 20) dX10_isRight_16 rfl ?_
  refine g_istore (p0 := 22) (i := 6) (ls2 := [_, _, _, _, _, _, _, _, _]) dX10_isRight_20 (Nat.le_of_ble_eq_true rfl) rfl rfl ?_
  refine g_aload_n (p0 := 23) (i := 0) dX10_isRight_22 rfl rfl rfl ?_
  refine g_getR (p0 := 26) dX10_isRight_23 fX10_46 (by first | rfl | assumption | exact RW.s (by assumption) | exact TW.s (by assumption)) rfl rfl ?_
  refine g_iload_n (p0 := 27) (i := 1) dX10_isRight_26 rfl rfl rfl ?_
  first | ((with_reducible refine isN1 ?_); refine g_aldN (p0 := 28) dX10_isRight_27 (by first | rfl | assumption | exact RW.s (by assumption) | exact TW.s (by assumption)) (by first | decide | assumption) (by omega) (by first | assumption | ((repeat (first | exact up_hit | refine up_nv (by decide) ?_ | refine up_mv (by first | decide | omega) ?_)) <;> first | assumption | rfl)) rfl ?_) | refine g_ald (p0 := 28) dX10_isRight_27 (by first | rfl | assumption | exact RW.s (by assumption) | exact TW.s (by assumption)) (by assumption) (by first | assumption | ((repeat (first | exact up_hit | refine up_nv (by decide) ?_ | refine up_mv (by first | decide | omega) ?_)) <;> first | assumption | rfl)) rfl ?_
  refine g_istore (p0 := 30) (i := 7) (ls2 := [_, _, _, _, _, _, _, _, _]) dX10_isRight_28 (Nat.le_of_ble_eq_true rfl) rfl rfl ?_
  refine isR_loop (f := f) hV hm h1 hf2 (fun q => ⟨rfl, rfl⟩) (fun n2 e hu h => absurd ?_ hR) n 0 (by omega) rfl _
  have e2 : n2 = n := by omega
  rw [e2] at hu h
  rw [la, if_neg (by omega)] at h
  exact ⟨hn, hu, h⟩
