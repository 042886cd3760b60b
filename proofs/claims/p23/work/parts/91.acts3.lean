/-! THE LAW ACTS: shift, ring, all -/
def r12 (a : Nat) : Nat := if 99 ≤ a then 99 + (a - 99) % 12 else 99 - (99 - a) % 12
theorem rem12 : ∀ a : Nat, a < 199 → nI a - nI 99 - (nI a - nI 99) / nI 12 * nI 12 = nI (r12 a) - nI 99 := by decide +kernel
theorem r12_lt {a : Nat} (h : a < 199) : r12 a < 199 := by
  unfold r12
  split <;> omega
theorem tk_add {t p : Nat} (ht : t ≤ 9999) (hp : p < 199) : nI t + (nI p - nI 99) = nI (t + p) - nI 99 := by
  apply Int32.toInt_inj.mp
  rw [Int32.toInt_add, pk_sub_toInt (by omega) (by omega), nI_toInt (by omega), pk_sub_toInt (by omega) (by omega), Int.bmod_eq_of_le (by omega) (by omega)]
  omega
theorem tk_lo {p : Nat} (hp : p < 199) : ¬ nI p - nI 99 < -99 := by
  rw [Int32.lt_iff_toInt_lt, pk_sub_toInt (by omega) (by omega), show ((-99 : Int32)).toInt = -99 by decide]
  omega
theorem tk_hi {p : Nat} (hp : p < 199) : ¬ nI 99 < nI p - nI 99 := by
  rw [Int32.lt_iff_toInt_lt, pk_sub_toInt (by omega) (by omega), nI_toInt (by decide)]
  omega
theorem tk_0 {p : Nat} (hp : p < 199) (h : ¬ p = 99) : ¬ nI p - nI 99 = 0 := by
  intro q
  have h1 := congrArg Int32.toInt q
  rw [pk_sub_toInt (by omega) (by omega), Int32.toInt_zero] at h1
  omega
set_option maxRecDepth 20000 in
set_option maxHeartbeats 2000000 in
theorem act_sh1 {s v w k : Nat} {zz : Int32} {σ : Sg} {Q : SP} {x7 x8 x9 x10 : Option AV} (g3 : σ 79 3 = nI s) (hs : s ≤ 60) (hv : v < 10000000) (h0 : 0 < s) (hk : v % s = k) (next : ∀ p, p < 199 → WM mL_acts Q 489 [some (ar 0), some (ar 79), some (ar 80), some (ar 81), some (ai zz), some (ai (nI v)), some (ai (nI w)), some (ai (nI k)), some (ai (nI p - nI 99)), x9, x10] [] σ) (h3 : v % 3 = 0) : WM mL_acts Q 448 [some (ar 0), some (ar 79), some (ar 80), some (ar 81), some (ai zz), some (ai (nI v)), some (ai (nI w)), x7, x8, x9, x10] [] σ := by
  have ha : v / 64 % 199 < 199 := Nat.mod_lt _ (by decide)
  refine g_iload (p0 := 450) dL_acts_448 rfl rfl ?_
  refine g_aload_n (p0 := 451) (i := 1) dL_acts_450 rfl rfl rfl ?_
  refine g_iconst (p0 := 452) (v := nI 3) dL_acts_451 rfl rfl ?_
  first | ((with_reducible refine isN1 ?_); refine g_aldN (p0 := 453) dL_acts_452 (by first | rfl | assumption | exact RW.s (by assumption) | exact TW.s (by assumption)) (by first | decide | assumption) (by omega) (by first | assumption | ((repeat (first | exact up_hit | (apply up_nv; omega) | (apply up_mv; omega))) <;> first | assumption | rfl)) rfl ?_) | refine g_ald (p0 := 453) dL_acts_452 (by first | rfl | assumption | exact RW.s (by assumption) | exact TW.s (by assumption)) (by assumption) (by first | assumption | ((repeat (first | exact up_hit | (apply up_nv; omega) | (apply up_mv; omega))) <;> first | assumption | rfl)) rfl ?_
  first | ((with_reducible refine isN2 ?_); refine g_iremN (p0 := 454) dL_acts_453 (by omega) (by omega) (by omega) rfl ?_) | refine g_irem (p0 := 454) dL_acts_453 (by decide) rfl ?_
  rw [hk]
  refine g_istore (p0 := 456) (i := 7) (ls2 := [_, _, _, _, _, _, _, _, _, _, _]) dL_acts_454 (Nat.le_of_ble_eq_true rfl) rfl rfl ?_
  refine g_iload (p0 := 458) dL_acts_456 rfl rfl ?_
  refine g_bipush (p0 := 460) (v := nI 64) dL_acts_458 (by decide) rfl ?_
  first | ((with_reducible refine isN2 ?_); refine g_idivN (p0 := 461) dL_acts_460 (by omega) (by omega) (by omega) rfl ?_) | refine g_idiv (p0 := 461) dL_acts_460 (by decide) rfl ?_
  refine g_sipush (p0 := 464) (v := nI 199) dL_acts_461 (by decide) rfl ?_
  first | ((with_reducible refine isN2 ?_); refine g_iremN (p0 := 465) dL_acts_464 (by omega) (by omega) (by omega) rfl ?_) | refine g_irem (p0 := 465) dL_acts_464 (by decide) rfl ?_
  refine g_bipush (p0 := 467) (v := nI 99) dL_acts_465 (by decide) rfl ?_
  first | ((with_reducible refine isN2 ?_); refine g_isubN (p0 := 468) dL_acts_467 (by omega) rfl ?_) | refine g_isub (p0 := 468) dL_acts_467 rfl ?_
  refine g_istore (p0 := 470) (i := 8) (ls2 := [_, _, _, _, _, _, _, _, _, _, _]) dL_acts_468 (Nat.le_of_ble_eq_true rfl) rfl rfl ?_
  refine g_iload (p0 := 472) dL_acts_470 rfl rfl ?_
  refine g_iconst (p0 := 473) (v := nI 3) dL_acts_472 rfl rfl ?_
  first | ((with_reducible refine isN2 ?_); refine g_iremN (p0 := 474) dL_acts_473 (by omega) (by omega) (by omega) rfl ?_) | refine g_irem (p0 := 474) dL_acts_473 (by decide) rfl ?_
  first | ((with_reducible refine isN1 ?_); refine g_ifN_le (tgt := 485) (p1 := 477) dL_acts_474 rfl (by omega) rfl (fun c_474 => ?_) (fun c_474 => by exfalso; first | exact c_474 rfl | omega | contradiction)) | refine g_if_le (tgt := 485) (p1 := 477) dL_acts_474 rfl rfl (fun c_474 => ?_) (fun c_474 => by exfalso; first | exact c_474 rfl | omega | contradiction)
  refine g_iload (p0 := 487) dL_acts_485 rfl rfl ?_
  refine g_istore (p0 := 489) (i := 8) (ls2 := [_, _, _, _, _, _, _, _, _, _, _]) dL_acts_487 (Nat.le_of_ble_eq_true rfl) rfl rfl ?_
  exact next _ ha
set_option maxRecDepth 20000 in
set_option maxHeartbeats 2000000 in
theorem act_sh2 {s v w k : Nat} {zz : Int32} {σ : Sg} {Q : SP} {x7 x8 x9 x10 : Option AV} (g3 : σ 79 3 = nI s) (hs : s ≤ 60) (hv : v < 10000000) (h0 : 0 < s) (hk : v % s = k) (next : ∀ p, p < 199 → WM mL_acts Q 489 [some (ar 0), some (ar 79), some (ar 80), some (ar 81), some (ai zz), some (ai (nI v)), some (ai (nI w)), some (ai (nI k)), some (ai (nI p - nI 99)), x9, x10] [] σ) (h3 : ¬ v % 3 = 0) : WM mL_acts Q 448 [some (ar 0), some (ar 79), some (ar 80), some (ar 81), some (ai zz), some (ai (nI v)), some (ai (nI w)), x7, x8, x9, x10] [] σ := by
  have ha : v / 64 % 199 < 199 := Nat.mod_lt _ (by decide)
  refine g_iload (p0 := 450) dL_acts_448 rfl rfl ?_
  refine g_aload_n (p0 := 451) (i := 1) dL_acts_450 rfl rfl rfl ?_
  refine g_iconst (p0 := 452) (v := nI 3) dL_acts_451 rfl rfl ?_
  first | ((with_reducible refine isN1 ?_); refine g_aldN (p0 := 453) dL_acts_452 (by first | rfl | assumption | exact RW.s (by assumption) | exact TW.s (by assumption)) (by first | decide | assumption) (by omega) (by first | assumption | ((repeat (first | exact up_hit | (apply up_nv; omega) | (apply up_mv; omega))) <;> first | assumption | rfl)) rfl ?_) | refine g_ald (p0 := 453) dL_acts_452 (by first | rfl | assumption | exact RW.s (by assumption) | exact TW.s (by assumption)) (by assumption) (by first | assumption | ((repeat (first | exact up_hit | (apply up_nv; omega) | (apply up_mv; omega))) <;> first | assumption | rfl)) rfl ?_
  first | ((with_reducible refine isN2 ?_); refine g_iremN (p0 := 454) dL_acts_453 (by omega) (by omega) (by omega) rfl ?_) | refine g_irem (p0 := 454) dL_acts_453 (by decide) rfl ?_
  rw [hk]
  refine g_istore (p0 := 456) (i := 7) (ls2 := [_, _, _, _, _, _, _, _, _, _, _]) dL_acts_454 (Nat.le_of_ble_eq_true rfl) rfl rfl ?_
  refine g_iload (p0 := 458) dL_acts_456 rfl rfl ?_
  refine g_bipush (p0 := 460) (v := nI 64) dL_acts_458 (by decide) rfl ?_
  first | ((with_reducible refine isN2 ?_); refine g_idivN (p0 := 461) dL_acts_460 (by omega) (by omega) (by omega) rfl ?_) | refine g_idiv (p0 := 461) dL_acts_460 (by decide) rfl ?_
  refine g_sipush (p0 := 464) (v := nI 199) dL_acts_461 (by decide) rfl ?_
  first | ((with_reducible refine isN2 ?_); refine g_iremN (p0 := 465) dL_acts_464 (by omega) (by omega) (by omega) rfl ?_) | refine g_irem (p0 := 465) dL_acts_464 (by decide) rfl ?_
  refine g_bipush (p0 := 467) (v := nI 99) dL_acts_465 (by decide) rfl ?_
  first | ((with_reducible refine isN2 ?_); refine g_isubN (p0 := 468) dL_acts_467 (by omega) rfl ?_) | refine g_isub (p0 := 468) dL_acts_467 rfl ?_
  refine g_istore (p0 := 470) (i := 8) (ls2 := [_, _, _, _, _, _, _, _, _, _, _]) dL_acts_468 (Nat.le_of_ble_eq_true rfl) rfl rfl ?_
  refine g_iload (p0 := 472) dL_acts_470 rfl rfl ?_
  refine g_iconst (p0 := 473) (v := nI 3) dL_acts_472 rfl rfl ?_
  first | ((with_reducible refine isN2 ?_); refine g_iremN (p0 := 474) dL_acts_473 (by omega) (by omega) (by omega) rfl ?_) | refine g_irem (p0 := 474) dL_acts_473 (by decide) rfl ?_
  first | ((with_reducible refine isN1 ?_); refine g_ifN_le (tgt := 485) (p1 := 477) dL_acts_474 rfl (by omega) rfl (fun c_474 => by exfalso; first | exact c_474 rfl | omega | contradiction) (fun c_474 => ?_)) | refine g_if_le (tgt := 485) (p1 := 477) dL_acts_474 rfl rfl (fun c_474 => by exfalso; first | exact c_474 rfl | omega | contradiction) (fun c_474 => ?_)
  refine g_iload (p0 := 479) dL_acts_477 rfl rfl ?_
  refine g_bipush (p0 := 481) (v := nI 12) dL_acts_479 (by decide) rfl ?_
  first | ((with_reducible refine isN2 ?_); refine g_iremN (p0 := 482) dL_acts_481 (by omega) (by omega) (by omega) rfl ?_) | refine g_irem (p0 := 482) dL_acts_481 (by decide) rfl ?_
  rw [rem12 _ ha]
  refine g_goto (tgt := 487) dL_acts_482 rfl ?_
  refine g_istore (p0 := 489) (i := 8) (ls2 := [_, _, _, _, _, _, _, _, _, _, _]) dL_acts_487 (Nat.le_of_ble_eq_true rfl) rfl rfl ?_
  exact next _ (r12_lt ha)
set_option maxRecDepth 20000 in
set_option maxHeartbeats 2000000 in
theorem act_shZ {s v w : Nat} {zz : Int32} {ρ : Nat → Int32} {σ : Sg} {Q : SP} {x7 x8 x9 x10 : Option AV} (hK : KI σ ρ s) (hG : GL σ ρ s) (hS : SRT ρ s) (hs : s ≤ 60) (hv : v < 10000000) (next : ∀ σ', gN σ' = gN σ → LJ σ' → Q (some (ai (nI 1))) σ') {k : Nat} {T : Nat → Nat} (hT : ∀ k, k < s → T k ≤ 9999 ∧ ρ (29 + k) = nI (T k)) (hm : ∀ i j, i < j → j < s → T i < T j) (hks : k < s)  : WM mL_acts Q 489 [some (ar 0), some (ar 79), some (ar 80), some (ar 81), some (ai zz), some (ai (nI v)), some (ai (nI w)), some (ai (nI k)), some (ai (nI 0)), x9, x10] [] σ := by
  obtain ⟨⟨g0, g1, g2, g3⟩, h81, h80⟩ := id hG
  have hx : σ 80 k = nI (T k) := by rw [h80 k hks]; exact (hT k hks).2
  have hTk := (hT k hks).1
  have h3k : σ 3 k = nI (T k) := by rw [hK.2.1.2.2.2.2.2 k hks]; exact (hT k hks).2
  refine g_aload_n (p0 := 490) (i := 2) dL_acts_489 rfl rfl rfl ?_
  refine g_iload (p0 := 492) dL_acts_490 rfl rfl ?_
  first | ((with_reducible refine isN1 ?_); refine g_aldN (p0 := 493) dL_acts_492 (by first | rfl | assumption | exact RW.s (by assumption) | exact TW.s (by assumption)) (by first | decide | assumption) (by omega) (by first | assumption | ((repeat (first | exact up_hit | (apply up_nv; omega) | (apply up_mv; omega))) <;> first | assumption | rfl)) rfl ?_) | refine g_ald (p0 := 493) dL_acts_492 (by first | rfl | assumption | exact RW.s (by assumption) | exact TW.s (by assumption)) (by assumption) (by first | assumption | ((repeat (first | exact up_hit | (apply up_nv; omega) | (apply up_mv; omega))) <;> first | assumption | rfl)) rfl ?_
  refine g_iload (p0 := 495) dL_acts_493 rfl rfl ?_
  first | ((with_reducible refine isN2 ?_); refine g_iaddN (p0 := 496) dL_acts_495 rfl ?_) | refine g_iadd (p0 := 496) dL_acts_495 rfl ?_
  refine g_istore (p0 := 498) (i := 9) (ls2 := [_, _, _, _, _, _, _, _, _, _, _]) dL_acts_496 (Nat.le_of_ble_eq_true rfl) rfl rfl ?_
  refine g_iload (p0 := 500) dL_acts_498 rfl rfl ?_
  first | ((with_reducible refine isN1 ?_); refine g_ifN_eq (tgt := 526) (p1 := 503) dL_acts_500 rfl (by omega) rfl (fun c_500 => ?_) (fun c_500 => by exfalso; first | exact c_500 rfl | omega | contradiction)) | refine g_if_eq (tgt := 526) (p1 := 503) dL_acts_500 rfl rfl (fun c_500 => ?_) (fun c_500 => by exfalso; first | exact c_500 rfl | omega | contradiction)
  refine g_aload_n (p0 := 527) (i := 0) dL_acts_526 rfl rfl rfl ?_
  refine g_iload (p0 := 529) dL_acts_527 rfl rfl ?_
  refine g_iload (p0 := 531) dL_acts_529 rfl rfl ?_
  refine g_cV2R (p0 := 534) (r1 := mX9_shift) dL_acts_531 lL_55 vX9_shift (by first | rfl | assumption | exact RW.s (by assumption) | exact TW.s (by assumption)) ⟨_, _, rfl⟩ (FITi rfl rfl) (Nat.le_of_ble_eq_true rfl) (shift_cb hK.2.1.1 (by omega) hks) rfl ?_
  refine g_iload (p0 := 536) dL_acts_534 rfl rfl ?_
  first | ((with_reducible refine isN1 ?_); refine g_ifN_ne (tgt := 544) (p1 := 539) dL_acts_536 rfl (by omega) rfl (fun c_536 => by exfalso; first | exact c_536 rfl | omega | contradiction) (fun c_536 => ?_)) | refine g_if_ne (tgt := 544) (p1 := 539) dL_acts_536 rfl rfl (fun c_536 => by exfalso; first | exact c_536 rfl | omega | contradiction) (fun c_536 => ?_)
  refine g_ldc (p0 := 541) dL_acts_539 qL_51 rfl ?_
  refine g_goto (tgt := 546) dL_acts_541 rfl ?_
  first | ((with_reducible refine isN2 ?_); refine g_icmpN_ne (tgt := 553) (p1 := 549) dL_acts_546 rfl (by omega) (by omega) rfl (fun c_546 => by exfalso; first | exact c_546 rfl | omega | contradiction) (fun c_546 => ?_)) | refine g_icmp_ne (tgt := 553) (p1 := 549) dL_acts_546 rfl rfl (fun c_546 => by exfalso; first | exact c_546 rfl | omega | contradiction) (fun c_546 => ?_)
  refine g_iconst (p0 := 550) (v := nI 1) dL_acts_549 rfl rfl ?_
  refine g_goto (tgt := 554) dL_acts_550 rfl ?_
  refine g_ireturn dL_acts_554 rfl (by first | rfl | exact bool_narrow (by first | exact Or.inl rfl | exact Or.inr rfl | assumption | (split <;> first | exact Or.inl rfl | exact Or.inr rfl))) (?_)
  exact next σ rfl ⟨ρ, s, hK, hG, hS, hs⟩
set_option maxRecDepth 20000 in
set_option maxHeartbeats 2000000 in
theorem act_shN {s v w : Nat} {zz : Int32} {ρ : Nat → Int32} {σ : Sg} {Q : SP} {x7 x8 x9 x10 : Option AV} (hK : KI σ ρ s) (hG : GL σ ρ s) (hS : SRT ρ s) (hs : s ≤ 60) (hv : v < 10000000) (next : ∀ σ', gN σ' = gN σ → LJ σ' → Q (some (ai (nI 1))) σ') {k p : Nat} {T : Nat → Nat} (hT : ∀ k, k < s → T k ≤ 9999 ∧ ρ (29 + k) = nI (T k)) (hm : ∀ i j, i < j → j < s → T i < T j) (hks : k < s) (hp : p < 199) (hp0 : ¬ p = 99) (hn : T k + p < 99) : WM mL_acts Q 489 [some (ar 0), some (ar 79), some (ar 80), some (ar 81), some (ai zz), some (ai (nI v)), some (ai (nI w)), some (ai (nI k)), some (ai (nI p - nI 99)), x9, x10] [] σ := by
  obtain ⟨⟨g0, g1, g2, g3⟩, h81, h80⟩ := id hG
  have hx : σ 80 k = nI (T k) := by rw [h80 k hks]; exact (hT k hks).2
  have hTk := (hT k hks).1
  have h3k : σ 3 k = nI (T k) := by rw [hK.2.1.2.2.2.2.2 k hks]; exact (hT k hks).2
  have hneg : nI (T k + p) - nI 99 < 0 := pk_sneg (by decide) hn
  have hwz := tk_0 hp hp0
  refine g_aload_n (p0 := 490) (i := 2) dL_acts_489 rfl rfl rfl ?_
  refine g_iload (p0 := 492) dL_acts_490 rfl rfl ?_
  first | ((with_reducible refine isN1 ?_); refine g_aldN (p0 := 493) dL_acts_492 (by first | rfl | assumption | exact RW.s (by assumption) | exact TW.s (by assumption)) (by first | decide | assumption) (by omega) (by first | assumption | ((repeat (first | exact up_hit | (apply up_nv; omega) | (apply up_mv; omega))) <;> first | assumption | rfl)) rfl ?_) | refine g_ald (p0 := 493) dL_acts_492 (by first | rfl | assumption | exact RW.s (by assumption) | exact TW.s (by assumption)) (by assumption) (by first | assumption | ((repeat (first | exact up_hit | (apply up_nv; omega) | (apply up_mv; omega))) <;> first | assumption | rfl)) rfl ?_
  refine g_iload (p0 := 495) dL_acts_493 rfl rfl ?_
  first | ((with_reducible refine isN2 ?_); refine g_iaddN (p0 := 496) dL_acts_495 rfl ?_) | refine g_iadd (p0 := 496) dL_acts_495 rfl ?_
  rw [tk_add hTk hp]
  refine g_istore (p0 := 498) (i := 9) (ls2 := [_, _, _, _, _, _, _, _, _, _, _]) dL_acts_496 (Nat.le_of_ble_eq_true rfl) rfl rfl ?_
  refine g_iload (p0 := 500) dL_acts_498 rfl rfl ?_
  first | ((with_reducible refine isN1 ?_); refine g_ifN_eq (tgt := 526) (p1 := 503) dL_acts_500 rfl (by omega) rfl (fun c_500 => by exfalso; first | exact c_500 rfl | exact hwz c_500 | exact c_500 hneg | exact c_500 hwz | omega | contradiction) (fun c_500 => ?_)) | refine g_if_eq (tgt := 526) (p1 := 503) dL_acts_500 rfl rfl (fun c_500 => by exfalso; first | exact c_500 rfl | exact hwz c_500 | exact c_500 hneg | exact c_500 hwz | omega | contradiction) (fun c_500 => ?_)
  refine g_iload (p0 := 505) dL_acts_503 rfl rfl ?_
  first | ((with_reducible refine isN1 ?_); refine g_ifN_lt (tgt := 526) (p1 := 508) dL_acts_505 rfl (by omega) rfl (fun c_505 => ?_) (fun c_505 => by exfalso; first | exact c_505 rfl | exact hwz c_505 | exact c_505 hneg | exact c_505 hwz | omega | contradiction)) | refine g_if_lt (tgt := 526) (p1 := 508) dL_acts_505 rfl rfl (fun c_505 => ?_) (fun c_505 => by exfalso; first | exact c_505 rfl | exact hwz c_505 | exact c_505 hneg | exact c_505 hwz | omega | contradiction)
  refine g_aload_n (p0 := 527) (i := 0) dL_acts_526 rfl rfl rfl ?_
  refine g_iload (p0 := 529) dL_acts_527 rfl rfl ?_
  refine g_iload (p0 := 531) dL_acts_529 rfl rfl ?_
  refine g_cV2R (p0 := 534) (r1 := mX9_shift) dL_acts_531 lL_55 vX9_shift (by first | rfl | assumption | exact RW.s (by assumption) | exact TW.s (by assumption)) ⟨_, _, rfl⟩ (FITi rfl rfl) (Nat.le_of_ble_eq_true rfl) (shift_ce hK.2.1.1 (by omega) hks (tk_0 hp hp0) (tk_lo hp) (tk_hi hp) h3k (by rw [tk_add hTk hp]; exact hneg)) rfl ?_
  refine g_iload (p0 := 536) dL_acts_534 rfl rfl ?_
  first | ((with_reducible refine isN1 ?_); refine g_ifN_ne (tgt := 544) (p1 := 539) dL_acts_536 rfl (by omega) rfl (fun c_536 => ?_) (fun c_536 => by exfalso; first | exact c_536 rfl | exact hwz c_536 | exact c_536 hneg | exact c_536 hwz | omega | contradiction)) | refine g_if_ne (tgt := 544) (p1 := 539) dL_acts_536 rfl rfl (fun c_536 => ?_) (fun c_536 => by exfalso; first | exact c_536 rfl | exact hwz c_536 | exact c_536 hneg | exact c_536 hwz | omega | contradiction)
  refine g_ldc (p0 := 546) dL_acts_544 qL_71 rfl ?_
  first | ((with_reducible refine isN2 ?_); refine g_icmpN_ne (tgt := 553) (p1 := 549) dL_acts_546 rfl (by omega) (by omega) rfl (fun c_546 => by exfalso; first | exact c_546 rfl | exact hwz c_546 | exact c_546 hneg | exact c_546 hwz | omega | contradiction) (fun c_546 => ?_)) | refine g_icmp_ne (tgt := 553) (p1 := 549) dL_acts_546 rfl rfl (fun c_546 => by exfalso; first | exact c_546 rfl | exact hwz c_546 | exact c_546 hneg | exact c_546 hwz | omega | contradiction) (fun c_546 => ?_)
  refine g_iconst (p0 := 550) (v := nI 1) dL_acts_549 rfl rfl ?_
  refine g_goto (tgt := 554) dL_acts_550 rfl ?_
  refine g_ireturn dL_acts_554 rfl (by first | rfl | exact bool_narrow (by first | exact Or.inl rfl | exact Or.inr rfl | assumption | (split <;> first | exact Or.inl rfl | exact Or.inr rfl))) (?_)
  exact next σ rfl ⟨ρ, s, hK, hG, hS, hs⟩
set_option maxRecDepth 20000 in
set_option maxHeartbeats 2000000 in
theorem act_shB {s v w : Nat} {zz : Int32} {ρ : Nat → Int32} {σ : Sg} {Q : SP} {x7 x8 x9 x10 : Option AV} (hK : KI σ ρ s) (hG : GL σ ρ s) (hS : SRT ρ s) (hs : s ≤ 60) (hv : v < 10000000) (next : ∀ σ', gN σ' = gN σ → LJ σ' → Q (some (ai (nI 1))) σ') {k p : Nat} {T : Nat → Nat} (hT : ∀ k, k < s → T k ≤ 9999 ∧ ρ (29 + k) = nI (T k)) (hm : ∀ i j, i < j → j < s → T i < T j) (hks : k < s) (hp : p < 199) (hp0 : ¬ p = 99) {X : Nat} (hX : T k + p = X + 99) (hb : 9999 < X) : WM mL_acts Q 489 [some (ar 0), some (ar 79), some (ar 80), some (ar 81), some (ai zz), some (ai (nI v)), some (ai (nI w)), some (ai (nI k)), some (ai (nI p - nI 99)), x9, x10] [] σ := by
  obtain ⟨⟨g0, g1, g2, g3⟩, h81, h80⟩ := id hG
  have hx : σ 80 k = nI (T k) := by rw [h80 k hks]; exact (hT k hks).2
  have hTk := (hT k hks).1
  have h3k : σ 3 k = nI (T k) := by rw [hK.2.1.2.2.2.2.2 k hks]; exact (hT k hks).2
  have hwz := tk_0 hp hp0
  have heq : nI (T k) + (nI p - nI 99) = nI X := by rw [tk_add hTk hp, hX, pk_sub (by omega), Nat.add_sub_cancel]
  refine g_aload_n (p0 := 490) (i := 2) dL_acts_489 rfl rfl rfl ?_
  refine g_iload (p0 := 492) dL_acts_490 rfl rfl ?_
  first | ((with_reducible refine isN1 ?_); refine g_aldN (p0 := 493) dL_acts_492 (by first | rfl | assumption | exact RW.s (by assumption) | exact TW.s (by assumption)) (by first | decide | assumption) (by omega) (by first | assumption | ((repeat (first | exact up_hit | (apply up_nv; omega) | (apply up_mv; omega))) <;> first | assumption | rfl)) rfl ?_) | refine g_ald (p0 := 493) dL_acts_492 (by first | rfl | assumption | exact RW.s (by assumption) | exact TW.s (by assumption)) (by assumption) (by first | assumption | ((repeat (first | exact up_hit | (apply up_nv; omega) | (apply up_mv; omega))) <;> first | assumption | rfl)) rfl ?_
  refine g_iload (p0 := 495) dL_acts_493 rfl rfl ?_
  first | ((with_reducible refine isN2 ?_); refine g_iaddN (p0 := 496) dL_acts_495 rfl ?_) | refine g_iadd (p0 := 496) dL_acts_495 rfl ?_
  rw [heq]
  refine g_istore (p0 := 498) (i := 9) (ls2 := [_, _, _, _, _, _, _, _, _, _, _]) dL_acts_496 (Nat.le_of_ble_eq_true rfl) rfl rfl ?_
  refine g_iload (p0 := 500) dL_acts_498 rfl rfl ?_
  first | ((with_reducible refine isN1 ?_); refine g_ifN_eq (tgt := 526) (p1 := 503) dL_acts_500 rfl (by omega) rfl (fun c_500 => by exfalso; first | exact c_500 rfl | exact hwz c_500 | exact c_500 hwz | omega | contradiction) (fun c_500 => ?_)) | refine g_if_eq (tgt := 526) (p1 := 503) dL_acts_500 rfl rfl (fun c_500 => by exfalso; first | exact c_500 rfl | exact hwz c_500 | exact c_500 hwz | omega | contradiction) (fun c_500 => ?_)
  refine g_iload (p0 := 505) dL_acts_503 rfl rfl ?_
  first | ((with_reducible refine isN1 ?_); refine g_ifN_lt (tgt := 526) (p1 := 508) dL_acts_505 rfl (by omega) rfl (fun c_505 => by exfalso; first | exact c_505 rfl | exact hwz c_505 | exact c_505 hwz | omega | contradiction) (fun c_505 => ?_)) | refine g_if_lt (tgt := 526) (p1 := 508) dL_acts_505 rfl rfl (fun c_505 => by exfalso; first | exact c_505 rfl | exact hwz c_505 | exact c_505 hwz | omega | contradiction) (fun c_505 => ?_)
  refine g_iload (p0 := 510) dL_acts_508 rfl rfl ?_
  refine g_sipush (p0 := 513) (v := nI 9999) dL_acts_510 (by decide) rfl ?_
  first | ((with_reducible refine isN2 ?_); refine g_icmpN_gt (tgt := 526) (p1 := 516) dL_acts_513 rfl (by omega) (by omega) rfl (fun c_513 => ?_) (fun c_513 => by exfalso; first | exact c_513 rfl | exact hwz c_513 | exact c_513 hwz | omega | contradiction)) | refine g_icmp_gt (tgt := 526) (p1 := 516) dL_acts_513 rfl rfl (fun c_513 => ?_) (fun c_513 => by exfalso; first | exact c_513 rfl | exact hwz c_513 | exact c_513 hwz | omega | contradiction)
  refine g_aload_n (p0 := 527) (i := 0) dL_acts_526 rfl rfl rfl ?_
  refine g_iload (p0 := 529) dL_acts_527 rfl rfl ?_
  refine g_iload (p0 := 531) dL_acts_529 rfl rfl ?_
  refine g_cV2R (p0 := 534) (r1 := mX9_shift) dL_acts_531 lL_55 vX9_shift (by first | rfl | assumption | exact RW.s (by assumption) | exact TW.s (by assumption)) ⟨_, _, rfl⟩ (FITi rfl rfl) (Nat.le_of_ble_eq_true rfl) (shift_cf hK.2.1.1 (by omega) hks (tk_0 hp hp0) (tk_lo hp) (tk_hi hp) h3k heq (by omega) hb) rfl ?_
  refine g_iload (p0 := 536) dL_acts_534 rfl rfl ?_
  first | ((with_reducible refine isN1 ?_); refine g_ifN_ne (tgt := 544) (p1 := 539) dL_acts_536 rfl (by omega) rfl (fun c_536 => ?_) (fun c_536 => by exfalso; first | exact c_536 rfl | exact hwz c_536 | exact c_536 hwz | omega | contradiction)) | refine g_if_ne (tgt := 544) (p1 := 539) dL_acts_536 rfl rfl (fun c_536 => ?_) (fun c_536 => by exfalso; first | exact c_536 rfl | exact hwz c_536 | exact c_536 hwz | omega | contradiction)
  refine g_ldc (p0 := 546) dL_acts_544 qL_71 rfl ?_
  first | ((with_reducible refine isN2 ?_); refine g_icmpN_ne (tgt := 553) (p1 := 549) dL_acts_546 rfl (by omega) (by omega) rfl (fun c_546 => by exfalso; first | exact c_546 rfl | exact hwz c_546 | exact c_546 hwz | omega | contradiction) (fun c_546 => ?_)) | refine g_icmp_ne (tgt := 553) (p1 := 549) dL_acts_546 rfl rfl (fun c_546 => by exfalso; first | exact c_546 rfl | exact hwz c_546 | exact c_546 hwz | omega | contradiction) (fun c_546 => ?_)
  refine g_iconst (p0 := 550) (v := nI 1) dL_acts_549 rfl rfl ?_
  refine g_goto (tgt := 554) dL_acts_550 rfl ?_
  refine g_ireturn dL_acts_554 rfl (by first | rfl | exact bool_narrow (by first | exact Or.inl rfl | exact Or.inr rfl | assumption | (split <;> first | exact Or.inl rfl | exact Or.inr rfl))) (?_)
  exact next σ rfl ⟨ρ, s, hK, hG, hS, hs⟩
set_option maxRecDepth 20000 in
set_option maxHeartbeats 2000000 in
theorem act_shO {s v w : Nat} {zz : Int32} {ρ : Nat → Int32} {σ : Sg} {Q : SP} {x7 x8 x9 x10 : Option AV} (hK : KI σ ρ s) (hG : GL σ ρ s) (hS : SRT ρ s) (hs : s ≤ 60) (hv : v < 10000000) (next : ∀ σ', gN σ' = gN σ → LJ σ' → Q (some (ai (nI 1))) σ') {k p : Nat} {T : Nat → Nat} (hT : ∀ k, k < s → T k ≤ 9999 ∧ ρ (29 + k) = nI (T k)) (hm : ∀ i j, i < j → j < s → T i < T j) (hks : k < s) (hp : p < 199) (hp0 : ¬ p = 99) {X : Nat} (hX : T k + p = X + 99) (hb : X ≤ 9999) {p0 : Nat} (hp1 : p0 < s) (hp2 : T p0 = X) : WM mL_acts Q 489 [some (ar 0), some (ar 79), some (ar 80), some (ar 81), some (ai zz), some (ai (nI v)), some (ai (nI w)), some (ai (nI k)), some (ai (nI p - nI 99)), x9, x10] [] σ := by
  obtain ⟨⟨g0, g1, g2, g3⟩, h81, h80⟩ := id hG
  have hx : σ 80 k = nI (T k) := by rw [h80 k hks]; exact (hT k hks).2
  have hTk := (hT k hks).1
  have h3k : σ 3 k = nI (T k) := by rw [hK.2.1.2.2.2.2.2 k hks]; exact (hT k hks).2
  have hwz := tk_0 hp hp0
  have heq : nI (T k) + (nI p - nI 99) = nI X := by rw [tk_add hTk hp, hX, pk_sub (by omega), Nat.add_sub_cancel]
  refine g_aload_n (p0 := 490) (i := 2) dL_acts_489 rfl rfl rfl ?_
  refine g_iload (p0 := 492) dL_acts_490 rfl rfl ?_
  first | ((with_reducible refine isN1 ?_); refine g_aldN (p0 := 493) dL_acts_492 (by first | rfl | assumption | exact RW.s (by assumption) | exact TW.s (by assumption)) (by first | decide | assumption) (by omega) (by first | assumption | ((repeat (first | exact up_hit | (apply up_nv; omega) | (apply up_mv; omega))) <;> first | assumption | rfl)) rfl ?_) | refine g_ald (p0 := 493) dL_acts_492 (by first | rfl | assumption | exact RW.s (by assumption) | exact TW.s (by assumption)) (by assumption) (by first | assumption | ((repeat (first | exact up_hit | (apply up_nv; omega) | (apply up_mv; omega))) <;> first | assumption | rfl)) rfl ?_
  refine g_iload (p0 := 495) dL_acts_493 rfl rfl ?_
  first | ((with_reducible refine isN2 ?_); refine g_iaddN (p0 := 496) dL_acts_495 rfl ?_) | refine g_iadd (p0 := 496) dL_acts_495 rfl ?_
  rw [heq]
  refine g_istore (p0 := 498) (i := 9) (ls2 := [_, _, _, _, _, _, _, _, _, _, _]) dL_acts_496 (Nat.le_of_ble_eq_true rfl) rfl rfl ?_
  refine g_iload (p0 := 500) dL_acts_498 rfl rfl ?_
  first | ((with_reducible refine isN1 ?_); refine g_ifN_eq (tgt := 526) (p1 := 503) dL_acts_500 rfl (by omega) rfl (fun c_500 => by exfalso; first | exact c_500 rfl | exact hwz c_500 | exact c_500 hwz | omega | contradiction) (fun c_500 => ?_)) | refine g_if_eq (tgt := 526) (p1 := 503) dL_acts_500 rfl rfl (fun c_500 => by exfalso; first | exact c_500 rfl | exact hwz c_500 | exact c_500 hwz | omega | contradiction) (fun c_500 => ?_)
  refine g_iload (p0 := 505) dL_acts_503 rfl rfl ?_
  first | ((with_reducible refine isN1 ?_); refine g_ifN_lt (tgt := 526) (p1 := 508) dL_acts_505 rfl (by omega) rfl (fun c_505 => by exfalso; first | exact c_505 rfl | exact hwz c_505 | exact c_505 hwz | omega | contradiction) (fun c_505 => ?_)) | refine g_if_lt (tgt := 526) (p1 := 508) dL_acts_505 rfl rfl (fun c_505 => by exfalso; first | exact c_505 rfl | exact hwz c_505 | exact c_505 hwz | omega | contradiction) (fun c_505 => ?_)
  refine g_iload (p0 := 510) dL_acts_508 rfl rfl ?_
  refine g_sipush (p0 := 513) (v := nI 9999) dL_acts_510 (by decide) rfl ?_
  first | ((with_reducible refine isN2 ?_); refine g_icmpN_gt (tgt := 526) (p1 := 516) dL_acts_513 rfl (by omega) (by omega) rfl (fun c_513 => by exfalso; first | exact c_513 rfl | exact hwz c_513 | exact c_513 hwz | omega | contradiction) (fun c_513 => ?_)) | refine g_icmp_gt (tgt := 526) (p1 := 516) dL_acts_513 rfl rfl (fun c_513 => by exfalso; first | exact c_513 rfl | exact hwz c_513 | exact c_513 hwz | omega | contradiction) (fun c_513 => ?_)
  refine g_aload_n (p0 := 517) (i := 1) dL_acts_516 rfl rfl rfl ?_
  refine g_aload_n (p0 := 518) (i := 2) dL_acts_517 rfl rfl rfl ?_
  refine g_iload (p0 := 520) dL_acts_518 rfl rfl ?_
  refine g_cS3R (p0 := 523) (r1 := mL_place) dL_acts_520 (Or.inl lL_72) vL_place (FITi rfl rfl) (Nat.le_of_ble_eq_true rfl) (placeY_K hG (by omega) hT hm hp1 hp2) rfl ?_
  first | ((with_reducible refine isN1 ?_); refine g_ifN_lt (tgt := 555) (p1 := 526) dL_acts_523 rfl (by omega) rfl (fun c_523 => by exfalso; first | exact c_523 rfl | exact hwz c_523 | exact c_523 hwz | omega | contradiction) (fun c_523 => ?_)) | refine g_if_lt (tgt := 555) (p1 := 526) dL_acts_523 rfl rfl (fun c_523 => by exfalso; first | exact c_523 rfl | exact hwz c_523 | exact c_523 hwz | omega | contradiction) (fun c_523 => ?_)
  refine g_aload_n (p0 := 527) (i := 0) dL_acts_526 rfl rfl rfl ?_
  refine g_iload (p0 := 529) dL_acts_527 rfl rfl ?_
  refine g_iload (p0 := 531) dL_acts_529 rfl rfl ?_
  refine g_cV2R (p0 := 534) (r1 := mX9_shift) dL_acts_531 lL_55 vX9_shift (by first | rfl | assumption | exact RW.s (by assumption) | exact TW.s (by assumption)) ⟨_, _, rfl⟩ (FITi rfl rfl) (Nat.le_of_ble_eq_true rfl) (shift_cg hK.2.1.1 (by omega) hks (tk_0 hp hp0) (tk_lo hp) (tk_hi hp) h3k heq (by omega) hb (HS_T hK hT hm hp1 hp2)) rfl ?_
  refine g_iload (p0 := 536) dL_acts_534 rfl rfl ?_
  first | ((with_reducible refine isN1 ?_); refine g_ifN_ne (tgt := 544) (p1 := 539) dL_acts_536 rfl (by omega) rfl (fun c_536 => ?_) (fun c_536 => by exfalso; first | exact c_536 rfl | exact hwz c_536 | exact c_536 hwz | omega | contradiction)) | refine g_if_ne (tgt := 544) (p1 := 539) dL_acts_536 rfl rfl (fun c_536 => ?_) (fun c_536 => by exfalso; first | exact c_536 rfl | exact hwz c_536 | exact c_536 hwz | omega | contradiction)
  refine g_ldc (p0 := 546) dL_acts_544 qL_71 rfl ?_
  first | ((with_reducible refine isN2 ?_); refine g_icmpN_ne (tgt := 553) (p1 := 549) dL_acts_546 rfl (by omega) (by omega) rfl (fun c_546 => by exfalso; first | exact c_546 rfl | exact hwz c_546 | exact c_546 hwz | omega | contradiction) (fun c_546 => ?_)) | refine g_icmp_ne (tgt := 553) (p1 := 549) dL_acts_546 rfl rfl (fun c_546 => by exfalso; first | exact c_546 rfl | exact hwz c_546 | exact c_546 hwz | omega | contradiction) (fun c_546 => ?_)
  refine g_iconst (p0 := 550) (v := nI 1) dL_acts_549 rfl rfl ?_
  refine g_goto (tgt := 554) dL_acts_550 rfl ?_
  refine g_ireturn dL_acts_554 rfl (by first | rfl | exact bool_narrow (by first | exact Or.inl rfl | exact Or.inr rfl | assumption | (split <;> first | exact Or.inl rfl | exact Or.inr rfl))) (?_)
  exact next σ rfl ⟨ρ, s, hK, hG, hS, hs⟩
theorem rem_ne {ρ : Nat → Int32} {s k X : Nat} {T T' : Nat → Nat} (hT : ∀ k, k < s → T k ≤ 9999 ∧ ρ (29 + k) = nI (T k)) (hT' : ∀ q, q < s - 1 → T' q ≤ 9999 ∧ REM ρ s k (29 + q) = nI (T' q)) (hne : ∀ k, k < s → T k ≠ X) : ∀ q, q < s - 1 → T' q ≠ X := by
  intro q hq e
  obtain ⟨b1, b2⟩ := hT' q hq
  rw [REM_hi, remR] at b2
  by_cases h : k ≤ q ∧ q + 1 < s
  · rw [if_pos h] at b2
    have a := hT (q + 1) h.2
    have b3 : nI (T (q + 1)) = nI (T' q) := a.2.symm.trans b2
    rw [nI_inj (by omega) (by omega)] at b3
    exact hne (q + 1) h.2 (b3.trans e)
  · rw [if_neg h] at b2
    have a := hT q (by omega)
    have b3 : nI (T q) = nI (T' q) := a.2.symm.trans b2
    rw [nI_inj (by omega) (by omega)] at b3
    exact hne q (by omega) (b3.trans e)
set_option maxRecDepth 20000 in
set_option maxHeartbeats 2000000 in
theorem act_shF {s v w : Nat} {zz : Int32} {ρ : Nat → Int32} {σ : Sg} {Q : SP} {x7 x8 x9 x10 : Option AV} (hK : KI σ ρ s) (hG : GL σ ρ s) (hS : SRT ρ s) (hs : s ≤ 60) (hv : v < 10000000) (next : ∀ σ', gN σ' = gN σ → LJ σ' → Q (some (ai (nI 1))) σ') {k p : Nat} {T : Nat → Nat} (hT : ∀ k, k < s → T k ≤ 9999 ∧ ρ (29 + k) = nI (T k)) (hm : ∀ i j, i < j → j < s → T i < T j) (hks : k < s) (hp : p < 199) (hp0 : ¬ p = 99) {X : Nat} (hX : T k + p = X + 99) (hb : X ≤ 9999) (hne : ∀ k, k < s → T k ≠ X) : WM mL_acts Q 489 [some (ar 0), some (ar 79), some (ar 80), some (ar 81), some (ai zz), some (ai (nI v)), some (ai (nI w)), some (ai (nI k)), some (ai (nI p - nI 99)), x9, x10] [] σ := by
  obtain ⟨⟨g0, g1, g2, g3⟩, h81, h80⟩ := id hG
  have hx : σ 80 k = nI (T k) := by rw [h80 k hks]; exact (hT k hks).2
  have hTk := (hT k hks).1
  have h3k : σ 3 k = nI (T k) := by rw [hK.2.1.2.2.2.2.2 k hks]; exact (hT k hks).2
  have hwz := tk_0 hp hp0
  have heq : nI (T k) + (nI p - nI 99) = nI X := by rw [tk_add hTk hp, hX, pk_sub (by omega), Nat.add_sub_cancel]
  obtain ⟨hbt, T', hT', hm'⟩ := SRT_rem (p := k) hS
  have hne' := rem_ne hT hT' hne
  obtain ⟨σm, hσm⟩ : ∃ z, z = (setR (up σ 79 3 (nI (s - 1))) 80 (remR (σ 80) s k)) := ⟨_, rfl⟩
  have hGm : GL σm (REM ρ s k) (s - 1) := by rw [hσm]; exact GL_rem hG
  obtain ⟨σp, hσp⟩ : ∃ z, z = (up (setR σm 80 (insR (σm 80) (s - 1) (ah (tm (REM ρ s k)) (s - 1) (nI X)) (nI X))) 79 3 (nI (s - 1 + 1))) := ⟨_, rfl⟩
  have hGp : GL σp (INS (REM ρ s k) (s - 1) (nI X)) (s - 1 + 1) := by rw [hσp]; exact GL_ins hGm
  have fp : ∀ z, z ≠ 79 → z ≠ 80 → σp z = σ z := fun z h1 h2 => by rw [hσp, up_ne h1, setR_ne h2, hσm, setR_ne h2, up_ne h1]
  have hKp : KI σp ρ s := hK.of (fun z hz => fp z (by omega) (by omega))
  have hput := put_K hGm (by omega) hT' hm' hb hne'
  rw [← hσp] at hput
  have hmt := lmute_sp g3 (by omega) hks hx
  rw [← hσm] at hmt
  have hsh := shift_K hKp hks hwz (tk_lo hp) (tk_hi hp) (by rw [(hT k hks).2]; exact heq) hT hb hne
  refine g_aload_n (p0 := 490) (i := 2) dL_acts_489 rfl rfl rfl ?_
  refine g_iload (p0 := 492) dL_acts_490 rfl rfl ?_
  first | ((with_reducible refine isN1 ?_); refine g_aldN (p0 := 493) dL_acts_492 (by first | rfl | assumption | exact RW.s (by assumption) | exact TW.s (by assumption)) (by first | decide | assumption) (by omega) (by first | assumption | ((repeat (first | exact up_hit | (apply up_nv; omega) | (apply up_mv; omega))) <;> first | assumption | rfl)) rfl ?_) | refine g_ald (p0 := 493) dL_acts_492 (by first | rfl | assumption | exact RW.s (by assumption) | exact TW.s (by assumption)) (by assumption) (by first | assumption | ((repeat (first | exact up_hit | (apply up_nv; omega) | (apply up_mv; omega))) <;> first | assumption | rfl)) rfl ?_
  refine g_iload (p0 := 495) dL_acts_493 rfl rfl ?_
  first | ((with_reducible refine isN2 ?_); refine g_iaddN (p0 := 496) dL_acts_495 rfl ?_) | refine g_iadd (p0 := 496) dL_acts_495 rfl ?_
  rw [heq]
  refine g_istore (p0 := 498) (i := 9) (ls2 := [_, _, _, _, _, _, _, _, _, _, _]) dL_acts_496 (Nat.le_of_ble_eq_true rfl) rfl rfl ?_
  refine g_iload (p0 := 500) dL_acts_498 rfl rfl ?_
  first | ((with_reducible refine isN1 ?_); refine g_ifN_eq (tgt := 526) (p1 := 503) dL_acts_500 rfl (by omega) rfl (fun c_500 => by exfalso; first | exact c_500 rfl | exact hwz c_500 | exact c_500 hwz | omega | contradiction | exact c_500 (by decide)) (fun c_500 => ?_)) | refine g_if_eq (tgt := 526) (p1 := 503) dL_acts_500 rfl rfl (fun c_500 => by exfalso; first | exact c_500 rfl | exact hwz c_500 | exact c_500 hwz | omega | contradiction | exact c_500 (by decide)) (fun c_500 => ?_)
  refine g_iload (p0 := 505) dL_acts_503 rfl rfl ?_
  first | ((with_reducible refine isN1 ?_); refine g_ifN_lt (tgt := 526) (p1 := 508) dL_acts_505 rfl (by omega) rfl (fun c_505 => by exfalso; first | exact c_505 rfl | exact hwz c_505 | exact c_505 hwz | omega | contradiction | exact c_505 (by decide)) (fun c_505 => ?_)) | refine g_if_lt (tgt := 526) (p1 := 508) dL_acts_505 rfl rfl (fun c_505 => by exfalso; first | exact c_505 rfl | exact hwz c_505 | exact c_505 hwz | omega | contradiction | exact c_505 (by decide)) (fun c_505 => ?_)
  refine g_iload (p0 := 510) dL_acts_508 rfl rfl ?_
  refine g_sipush (p0 := 513) (v := nI 9999) dL_acts_510 (by decide) rfl ?_
  first | ((with_reducible refine isN2 ?_); refine g_icmpN_gt (tgt := 526) (p1 := 516) dL_acts_513 rfl (by omega) (by omega) rfl (fun c_513 => by exfalso; first | exact c_513 rfl | exact hwz c_513 | exact c_513 hwz | omega | contradiction | exact c_513 (by decide)) (fun c_513 => ?_)) | refine g_icmp_gt (tgt := 526) (p1 := 516) dL_acts_513 rfl rfl (fun c_513 => by exfalso; first | exact c_513 rfl | exact hwz c_513 | exact c_513 hwz | omega | contradiction | exact c_513 (by decide)) (fun c_513 => ?_)
  refine g_aload_n (p0 := 517) (i := 1) dL_acts_516 rfl rfl rfl ?_
  refine g_aload_n (p0 := 518) (i := 2) dL_acts_517 rfl rfl rfl ?_
  refine g_iload (p0 := 520) dL_acts_518 rfl rfl ?_
  refine g_cS3R (p0 := 523) (r1 := mL_place) dL_acts_520 (Or.inl lL_72) vL_place (FITi rfl rfl) (Nat.le_of_ble_eq_true rfl) (placeN_K hG (by omega) hT hb hne) rfl ?_
  first | ((with_reducible refine isN1 ?_); refine g_ifN_lt (tgt := 555) (p1 := 526) dL_acts_523 rfl (by omega) rfl (fun c_523 => ?_) (fun c_523 => by exfalso; first | exact c_523 rfl | exact hwz c_523 | exact c_523 hwz | omega | contradiction | exact c_523 (by decide))) | refine g_if_lt (tgt := 555) (p1 := 526) dL_acts_523 rfl rfl (fun c_523 => ?_) (fun c_523 => by exfalso; first | exact c_523 rfl | exact hwz c_523 | exact c_523 hwz | omega | contradiction | exact c_523 (by decide))
  refine g_aload_n (p0 := 556) (i := 1) dL_acts_555 rfl rfl rfl ?_
  refine g_aload_n (p0 := 557) (i := 2) dL_acts_556 rfl rfl rfl ?_
  refine g_iload (p0 := 559) dL_acts_557 rfl rfl ?_
  refine g_cS3R (p0 := 562) (r1 := mL_mute) dL_acts_559 (Or.inl lL_58) vL_mute (FITi rfl rfl) (Nat.le_of_ble_eq_true rfl) (hmt) rfl ?_
  first | ((with_reducible refine isN1 ?_); refine g_ifN_lt (tgt := 569) (p1 := 565) dL_acts_562 rfl (by omega) rfl (fun c_562 => by exfalso; first | exact c_562 rfl | exact hwz c_562 | exact c_562 hwz | omega | contradiction | exact c_562 (by decide)) (fun c_562 => ?_)) | refine g_if_lt (tgt := 569) (p1 := 565) dL_acts_562 rfl rfl (fun c_562 => by exfalso; first | exact c_562 rfl | exact hwz c_562 | exact c_562 hwz | omega | contradiction | exact c_562 (by decide)) (fun c_562 => ?_)
  refine g_iconst (p0 := 566) (v := nI 1) dL_acts_565 rfl rfl ?_
  refine g_goto (tgt := 570) dL_acts_566 rfl ?_
  refine g_istore (p0 := 572) (i := 10) (ls2 := [_, _, _, _, _, _, _, _, _, _, _]) dL_acts_570 (Nat.le_of_ble_eq_true rfl) rfl rfl ?_
  refine g_aload_n (p0 := 573) (i := 1) dL_acts_572 rfl rfl rfl ?_
  refine g_aload_n (p0 := 574) (i := 2) dL_acts_573 rfl rfl rfl ?_
  refine g_iload (p0 := 576) dL_acts_574 rfl rfl ?_
  refine g_cS3V (p0 := 579) (r1 := mL_put) dL_acts_576 (Or.inl lL_34) vL_put (FITi rfl rfl) (Nat.le_of_ble_eq_true rfl) (hput) rfl ?_
  refine g_iload (p0 := 581) dL_acts_579 rfl rfl ?_
  first | ((with_reducible refine isN1 ?_); refine g_ifN_eq (tgt := 606) (p1 := 584) dL_acts_581 rfl (by omega) rfl (fun c_581 => by exfalso; first | exact c_581 rfl | exact hwz c_581 | exact c_581 hwz | omega | contradiction | exact c_581 (by decide)) (fun c_581 => ?_)) | refine g_if_eq (tgt := 606) (p1 := 584) dL_acts_581 rfl rfl (fun c_581 => by exfalso; first | exact c_581 rfl | exact hwz c_581 | exact c_581 hwz | omega | contradiction | exact c_581 (by decide)) (fun c_581 => ?_)
  refine g_aload_n (p0 := 585) (i := 0) dL_acts_584 rfl rfl rfl ?_
  refine g_iload (p0 := 587) dL_acts_585 rfl rfl ?_
  refine g_iload (p0 := 589) dL_acts_587 rfl rfl ?_
  refine g_cV2I (p0 := 592) (r1 := mX9_shift) dL_acts_589 lL_55 vX9_shift (by first | rfl | assumption | exact RW.s (by assumption) | exact TW.s (by assumption)) ⟨_, _, rfl⟩ (FITi rfl rfl) (Nat.le_of_ble_eq_true rfl) (hsh) rfl ?_
  rintro u σ3 ⟨rfl, hK4, hf3⟩
  have hG3 := hGp.of hf3
  refine g_aload_n (p0 := 593) (i := 1) dL_acts_592 rfl rfl rfl ?_
  refine g_aload_n (p0 := 594) (i := 2) dL_acts_593 rfl rfl rfl ?_
  refine g_iload (p0 := 596) dL_acts_594 rfl rfl ?_
  refine g_cS3R (p0 := 599) (r1 := mL_place) dL_acts_596 (Or.inl lL_72) vL_place (FITi rfl rfl) (Nat.le_of_ble_eq_true rfl) (place_K hG3 (by omega) hT' hm' hb) rfl ?_
  first | ((with_reducible refine isN2 ?_); refine g_icmpN_ne (tgt := 606) (p1 := 602) dL_acts_599 rfl (by omega) (by omega) rfl (fun c_599 => by exfalso; first | exact c_599 rfl | exact hwz c_599 | exact c_599 hwz | omega | contradiction | exact c_599 (by decide)) (fun c_599 => ?_)) | refine g_icmp_ne (tgt := 606) (p1 := 602) dL_acts_599 rfl rfl (fun c_599 => by exfalso; first | exact c_599 rfl | exact hwz c_599 | exact c_599 hwz | omega | contradiction | exact c_599 (by decide)) (fun c_599 => ?_)
  refine g_iconst (p0 := 603) (v := nI 1) dL_acts_602 rfl rfl ?_
  refine g_goto (tgt := 607) dL_acts_603 rfl ?_
  refine g_ireturn dL_acts_607 rfl (by first | rfl | exact bool_narrow (by first | exact Or.inl rfl | exact Or.inr rfl | assumption | (split <;> first | exact Or.inl rfl | exact Or.inr rfl))) (?_)
  exact next σ3 (gN_of (by rw [hf3 99999 (by decide)]; exact fp _ (by decide) (by decide))) ⟨_, s - 1 + 1, hK4, hG3, SRT_ins hbt hT' hm' hb hne', by omega⟩
theorem act_shift {s v w : Nat} {zz : Int32} {ρ : Nat → Int32} {σ : Sg} {Q : SP} {x7 x8 x9 x10 : Option AV} (hK : KI σ ρ s) (hG : GL σ ρ s) (hS : SRT ρ s) (hs : s ≤ 60) (hv : v < 10000000) (next : ∀ σ', gN σ' = gN σ → LJ σ' → Q (some (ai (nI 1))) σ') (h0 : 0 < s) : WM mL_acts Q 448 [some (ar 0), some (ar 79), some (ar 80), some (ar 81), some (ai zz), some (ai (nI v)), some (ai (nI w)), x7, x8, x9, x10] [] σ := by
  obtain ⟨hbt, T, hT, hm⟩ := id hS
  have hks : v % s < s := Nat.mod_lt _ h0
  have h489 : ∀ p, p < 199 → WM mL_acts Q 489 [some (ar 0), some (ar 79), some (ar 80), some (ar 81), some (ai zz), some (ai (nI v)), some (ai (nI w)), some (ai (nI (v % s))), some (ai (nI p - nI 99)), x9, x10] [] σ := by
    intro p hp
    by_cases hp0 : p = 99
    · subst hp0
      rw [show nI 99 - nI 99 = nI 0 by decide]
      exact act_shZ (x7 := none) (x8 := none) hK hG hS hs hv next hT hm hks
    · by_cases hn : T (v % s) + p < 99
      · exact act_shN (x7 := none) (x8 := none) hK hG hS hs hv next hT hm hks hp hp0 hn
      · obtain ⟨X, hX⟩ : ∃ X, T (v % s) + p = X + 99 := ⟨T (v % s) + p - 99, by omega⟩
        by_cases hb : 9999 < X
        · exact act_shB (x7 := none) (x8 := none) hK hG hS hs hv next hT hm hks hp hp0 hX hb
        · by_cases ho : ∃ p0, p0 < s ∧ T p0 = X
          · obtain ⟨p0, h1, h2⟩ := ho
            exact act_shO (x7 := none) (x8 := none) hK hG hS hs hv next hT hm hks hp hp0 hX (by omega) h1 h2
          · exact act_shF (x7 := none) (x8 := none) hK hG hS hs hv next hT hm hks hp hp0 hX (by omega) (fun q hq e => ho ⟨q, hq, e⟩)
  by_cases h3 : v % 3 = 0
  · exact act_sh1 hG.1.2.2.2 hs hv h0 rfl h489 h3
  · exact act_sh2 hG.1.2.2.2 hs hv h0 rfl h489 h3
