/-! THE LAW: its small methods -/
set_option maxRecDepth 20000 in
set_option maxHeartbeats 2000000 in
theorem low_sp {j N : Nat} {x : Int32} {σ : Sg} (hx : x &&& 2147483647 = nI j) (hj : j < 2147483648) (h0 : 0 < N) (hN : N < 2147483648) : CM mL_low [ai x, ai (nI N)] σ (Ret (nI (j % N)) σ) := by
  refine CM_in (ls := [some (ai x), some (ai (nI N))]) rfl ?_
  refine g_iload_n (p0 := 1) (i := 0) dL_low_0 rfl rfl rfl ?_
  refine g_ldc (p0 := 3) dL_low_1 qL_8 rfl ?_
  refine g_iand (p0 := 4) dL_low_3 rfl ?_
  rw [hx]
  refine g_iload_n (p0 := 5) (i := 1) dL_low_4 rfl rfl rfl ?_
  first | ((with_reducible refine isN2 ?_); refine g_iremN (p0 := 6) dL_low_5 (by omega) (by omega) (by omega) rfl ?_) | refine g_irem (p0 := 6) dL_low_5 (by decide) rfl ?_
  refine g_ireturn dL_low_6 rfl rfl (?_)
  exact ⟨rfl, rfl⟩
theorem low_ex (x : Int32) (N : Nat) (h0 : 0 < N) (hN : N < 2147483648) : ∃ j, j < N ∧ ∀ σ, CM mL_low [ai x, ai (nI N)] σ (Ret (nI j) σ) := by
  obtain ⟨j, hj, ej⟩ := pk_andE x (m := 2147483647) 31 (by decide)
  exact ⟨j % N, Nat.mod_lt _ h0, fun σ => low_sp ej (by simpa using hj) h0 hN⟩
set_option maxRecDepth 20000 in
set_option maxHeartbeats 2000000 in
theorem at_loop {a b l : Nat} {cf : Nat → Nat} {σ : Sg} {Q : SP} (hp : ∀ k, k < 25 → σ 81 k = nI (cf k) ∧ cf k < 25) (hi : ∀ k m, k < 25 → m < 25 → cf k = cf m → k = m) (ha : 1 ≤ a ∧ a ≤ 5) (hb : 1 ≤ b ∧ b ≤ 5) (hl : l < 25) (hx : cf l + 6 = 5 * a + b) (k : Q (some (ai (nI l))) σ) : ∀ m j, j + m = l → WM mL_at Q 2 [some (ar 81), some (ai (nI a)), some (ai (nI b)), some (ai (nI j))] [] σ := by
  intro m
  induction m with
  | zero =>
    intro j hj
    obtain rfl : j = l := by omega
    have hv := (hp j hl).1
    have hv2 := (hp j hl).2
    refine g_iload_n (p0 := 3) (i := 3) dL_at_2 rfl rfl rfl ?_
    refine g_bipush (p0 := 5) (v := nI 25) dL_at_3 (by decide) rfl ?_
    first | ((with_reducible refine isN2 ?_); refine g_icmpN_ge (tgt := 30) (p1 := 8) dL_at_5 rfl (by omega) (by omega) rfl (fun c_5 => by exfalso; first | omega | contradiction | exact absurd (by assumption) c_5 | (simp_all; done)) (fun c_5 => ?_)) | refine g_icmp_ge (tgt := 30) (p1 := 8) dL_at_5 rfl rfl (fun c_5 => by exfalso; first | omega | contradiction | exact absurd (by assumption) c_5 | (simp_all; done)) (fun c_5 => ?_)
    refine g_aload_n (p0 := 9) (i := 0) dL_at_8 rfl rfl rfl ?_
    refine g_iload_n (p0 := 10) (i := 3) dL_at_9 rfl rfl rfl ?_
    first | ((with_reducible refine isN1 ?_); refine g_aldN (p0 := 11) dL_at_10 (by first | rfl | assumption | exact RW.s (by assumption) | exact TW.s (by assumption)) (by first | decide | assumption) (by omega) (by first | assumption | ((repeat (first | exact up_hit | refine up_nv (by decide) ?_ | refine up_mv (by first | decide | omega) ?_)) <;> first | assumption | rfl)) rfl ?_) | refine g_ald (p0 := 11) dL_at_10 (by first | rfl | assumption | exact RW.s (by assumption) | exact TW.s (by assumption)) (by assumption) (by first | assumption | ((repeat (first | exact up_hit | refine up_nv (by decide) ?_ | refine up_mv (by first | decide | omega) ?_)) <;> first | assumption | rfl)) rfl ?_
    refine g_iconst (p0 := 12) (v := nI 5) dL_at_11 rfl rfl ?_
    refine g_iload_n (p0 := 13) (i := 1) dL_at_12 rfl rfl rfl ?_
    first | ((with_reducible refine isN2 ?_); refine g_imulN (p0 := 14) dL_at_13 rfl ?_) | refine g_imul (p0 := 14) dL_at_13 rfl ?_
    refine g_iload_n (p0 := 15) (i := 2) dL_at_14 rfl rfl rfl ?_
    first | ((with_reducible refine isN2 ?_); refine g_iaddN (p0 := 16) dL_at_15 rfl ?_) | refine g_iadd (p0 := 16) dL_at_15 rfl ?_
    refine g_bipush (p0 := 18) (v := nI 6) dL_at_16 (by decide) rfl ?_
    first | ((with_reducible refine isN2 ?_); refine g_isubN (p0 := 19) dL_at_18 (by omega) rfl ?_) | refine g_isub (p0 := 19) dL_at_18 rfl ?_
    first | ((with_reducible refine isN2 ?_); refine g_icmpN_ne (tgt := 24) (p1 := 22) dL_at_19 rfl (by omega) (by omega) rfl (fun c_19 => by exfalso; first | omega | contradiction | exact absurd (by assumption) c_19 | (simp_all; done)) (fun c_19 => ?_)) | refine g_icmp_ne (tgt := 24) (p1 := 22) dL_at_19 rfl rfl (fun c_19 => by exfalso; first | omega | contradiction | exact absurd (by assumption) c_19 | (simp_all; done)) (fun c_19 => ?_)
    refine g_iload_n (p0 := 23) (i := 3) dL_at_22 rfl rfl rfl ?_
    refine g_ireturn dL_at_23 rfl rfl (?_)
    exact k
  | succ m ih =>
    intro j hj
    have hv := (hp j (by omega)).1
    have hv2 := (hp j (by omega)).2
    have hne : ¬ cf j + 6 = 5 * a + b := fun e => by
      have := hi j l (by omega) hl (by omega)
      omega
    refine g_iload_n (p0 := 3) (i := 3) dL_at_2 rfl rfl rfl ?_
    refine g_bipush (p0 := 5) (v := nI 25) dL_at_3 (by decide) rfl ?_
    first | ((with_reducible refine isN2 ?_); refine g_icmpN_ge (tgt := 30) (p1 := 8) dL_at_5 rfl (by omega) (by omega) rfl (fun c_5 => by exfalso; first | omega | contradiction | exact absurd (by assumption) c_5 | (simp_all; done)) (fun c_5 => ?_)) | refine g_icmp_ge (tgt := 30) (p1 := 8) dL_at_5 rfl rfl (fun c_5 => by exfalso; first | omega | contradiction | exact absurd (by assumption) c_5 | (simp_all; done)) (fun c_5 => ?_)
    refine g_aload_n (p0 := 9) (i := 0) dL_at_8 rfl rfl rfl ?_
    refine g_iload_n (p0 := 10) (i := 3) dL_at_9 rfl rfl rfl ?_
    first | ((with_reducible refine isN1 ?_); refine g_aldN (p0 := 11) dL_at_10 (by first | rfl | assumption | exact RW.s (by assumption) | exact TW.s (by assumption)) (by first | decide | assumption) (by omega) (by first | assumption | ((repeat (first | exact up_hit | refine up_nv (by decide) ?_ | refine up_mv (by first | decide | omega) ?_)) <;> first | assumption | rfl)) rfl ?_) | refine g_ald (p0 := 11) dL_at_10 (by first | rfl | assumption | exact RW.s (by assumption) | exact TW.s (by assumption)) (by assumption) (by first | assumption | ((repeat (first | exact up_hit | refine up_nv (by decide) ?_ | refine up_mv (by first | decide | omega) ?_)) <;> first | assumption | rfl)) rfl ?_
    refine g_iconst (p0 := 12) (v := nI 5) dL_at_11 rfl rfl ?_
    refine g_iload_n (p0 := 13) (i := 1) dL_at_12 rfl rfl rfl ?_
    first | ((with_reducible refine isN2 ?_); refine g_imulN (p0 := 14) dL_at_13 rfl ?_) | refine g_imul (p0 := 14) dL_at_13 rfl ?_
    refine g_iload_n (p0 := 15) (i := 2) dL_at_14 rfl rfl rfl ?_
    first | ((with_reducible refine isN2 ?_); refine g_iaddN (p0 := 16) dL_at_15 rfl ?_) | refine g_iadd (p0 := 16) dL_at_15 rfl ?_
    refine g_bipush (p0 := 18) (v := nI 6) dL_at_16 (by decide) rfl ?_
    first | ((with_reducible refine isN2 ?_); refine g_isubN (p0 := 19) dL_at_18 (by omega) rfl ?_) | refine g_isub (p0 := 19) dL_at_18 rfl ?_
    first | ((with_reducible refine isN2 ?_); refine g_icmpN_ne (tgt := 24) (p1 := 22) dL_at_19 rfl (by omega) (by omega) rfl (fun c_19 => ?_) (fun c_19 => by exfalso; first | omega | contradiction | exact absurd (by assumption) c_19 | (simp_all; done))) | refine g_icmp_ne (tgt := 24) (p1 := 22) dL_at_19 rfl rfl (fun c_19 => ?_) (fun c_19 => by exfalso; first | omega | contradiction | exact absurd (by assumption) c_19 | (simp_all; done))
    first | refine g_iinc1 (p0 := 27) (ls2 := [_, _, _, _]) dL_at_24 rfl rfl rfl ?_ | refine g_iinc (p0 := 27) (ls2 := [_, _, _, _]) dL_at_24 rfl rfl rfl rfl ?_
    refine g_goto (tgt := 2) dL_at_27 rfl ?_
    exact ih (j + 1) (by omega)
set_option maxRecDepth 20000 in
set_option maxHeartbeats 2000000 in
theorem lat_sp {a b l : Nat} {cf : Nat → Nat} {σ : Sg} (hp : ∀ k, k < 25 → σ 81 k = nI (cf k) ∧ cf k < 25) (hi : ∀ k m, k < 25 → m < 25 → cf k = cf m → k = m) (ha : 1 ≤ a ∧ a ≤ 5) (hb : 1 ≤ b ∧ b ≤ 5) (hl : l < 25) (hx : cf l + 6 = 5 * a + b) : CM mL_at [ar 81, ai (nI a), ai (nI b)] σ (Ret (nI l) σ) := by
  refine CM_in (ls := [some (ar 81), some (ai (nI a)), some (ai (nI b)), none]) rfl ?_
  refine g_iconst (p0 := 1) (v := nI 0) dL_at_0 rfl rfl ?_
  refine g_istore_n (p0 := 2) (i := 3) (ls2 := [_, _, _, _]) dL_at_1 rfl (Nat.le_of_ble_eq_true rfl) rfl rfl ?_
  exact at_loop hp hi ha hb hl hx ⟨rfl, rfl⟩ l 0 (by omega)
set_option maxRecDepth 20000 in
set_option maxHeartbeats 2000000 in
theorem kind_sp {g bt : Int32} {σ : Sg} (hb : σ 79 0 = bt) : CM mL_kind [ar 79, ai g] σ (Ret (nI (cs bt g)) σ) := by
  refine CM_in (ls := [some (ar 79), some (ai g), none]) rfl ?_
  refine g_iconst (p0 := 1) (v := nI 4) dL_kind_0 rfl rfl ?_
  refine g_iload_n (p0 := 2) (i := 1) dL_kind_1 rfl rfl rfl ?_
  first | ((with_reducible refine isN2 ?_); refine g_imulN (p0 := 3) dL_kind_2 rfl ?_) | refine g_imul (p0 := 3) dL_kind_2 rfl ?_
  refine g_istore_n (p0 := 4) (i := 2) (ls2 := [_, _, _]) dL_kind_3 rfl (Nat.le_of_ble_eq_true rfl) rfl rfl ?_
  refine g_iload_n (p0 := 5) (i := 2) dL_kind_4 rfl rfl rfl ?_
  refine g_iconst (p0 := 6) (v := nI 3) dL_kind_5 rfl rfl ?_
  refine g_aload_n (p0 := 7) (i := 0) dL_kind_6 rfl rfl rfl ?_
  refine g_iconst (p0 := 8) (v := nI 0) dL_kind_7 rfl rfl ?_
  first | ((with_reducible refine isN1 ?_); refine g_aldN (p0 := 9) dL_kind_8 (by first | rfl | assumption | exact RW.s (by assumption) | exact TW.s (by assumption)) (by first | decide | assumption) (by omega) (by first | assumption | ((repeat (first | exact up_hit | refine up_nv (by decide) ?_ | refine up_mv (by first | decide | omega) ?_)) <;> first | assumption | rfl)) rfl ?_) | refine g_ald (p0 := 9) dL_kind_8 (by first | rfl | assumption | exact RW.s (by assumption) | exact TW.s (by assumption)) (by assumption) (by first | assumption | ((repeat (first | exact up_hit | refine up_nv (by decide) ?_ | refine up_mv (by first | decide | omega) ?_)) <;> first | assumption | rfl)) rfl ?_
  first | ((with_reducible refine isN2 ?_); refine g_imulN (p0 := 10) dL_kind_9 rfl ?_) | refine g_imul (p0 := 10) dL_kind_9 rfl ?_
  first | ((with_reducible refine isN2 ?_); refine g_icmpN_ge (tgt := 17) (p1 := 13) dL_kind_10 rfl (by omega) (by omega) rfl (fun c_10 => ?_) (fun c_10 => ?_)) | refine g_icmp_ge (tgt := 17) (p1 := 13) dL_kind_10 rfl rfl (fun c_10 => ?_) (fun c_10 => ?_)
  · refine g_iload_n (p0 := 18) (i := 2) dL_kind_17 rfl rfl rfl ?_
    refine g_bipush (p0 := 20) (v := nI 6) dL_kind_18 (by decide) rfl ?_
    refine g_aload_n (p0 := 21) (i := 0) dL_kind_20 rfl rfl rfl ?_
    refine g_iconst (p0 := 22) (v := nI 0) dL_kind_21 rfl rfl ?_
    first | ((with_reducible refine isN1 ?_); refine g_aldN (p0 := 23) dL_kind_22 (by first | rfl | assumption | exact RW.s (by assumption) | exact TW.s (by assumption)) (by first | decide | assumption) (by omega) (by first | assumption | ((repeat (first | exact up_hit | refine up_nv (by decide) ?_ | refine up_mv (by first | decide | omega) ?_)) <;> first | assumption | rfl)) rfl ?_) | refine g_ald (p0 := 23) dL_kind_22 (by first | rfl | assumption | exact RW.s (by assumption) | exact TW.s (by assumption)) (by assumption) (by first | assumption | ((repeat (first | exact up_hit | refine up_nv (by decide) ?_ | refine up_mv (by first | decide | omega) ?_)) <;> first | assumption | rfl)) rfl ?_
    first | ((with_reducible refine isN2 ?_); refine g_imulN (p0 := 24) dL_kind_23 rfl ?_) | refine g_imul (p0 := 24) dL_kind_23 rfl ?_
    first | ((with_reducible refine isN2 ?_); refine g_icmpN_ge (tgt := 31) (p1 := 27) dL_kind_24 rfl (by omega) (by omega) rfl (fun c_24 => ?_) (fun c_24 => ?_)) | refine g_icmp_ge (tgt := 31) (p1 := 27) dL_kind_24 rfl rfl (fun c_24 => ?_) (fun c_24 => ?_)
    · refine g_iload_n (p0 := 32) (i := 2) dL_kind_31 rfl rfl rfl ?_
      refine g_bipush (p0 := 34) (v := nI 10) dL_kind_32 (by decide) rfl ?_
      refine g_aload_n (p0 := 35) (i := 0) dL_kind_34 rfl rfl rfl ?_
      refine g_iconst (p0 := 36) (v := nI 0) dL_kind_35 rfl rfl ?_
      first | ((with_reducible refine isN1 ?_); refine g_aldN (p0 := 37) dL_kind_36 (by first | rfl | assumption | exact RW.s (by assumption) | exact TW.s (by assumption)) (by first | decide | assumption) (by omega) (by first | assumption | ((repeat (first | exact up_hit | refine up_nv (by decide) ?_ | refine up_mv (by first | decide | omega) ?_)) <;> first | assumption | rfl)) rfl ?_) | refine g_ald (p0 := 37) dL_kind_36 (by first | rfl | assumption | exact RW.s (by assumption) | exact TW.s (by assumption)) (by assumption) (by first | assumption | ((repeat (first | exact up_hit | refine up_nv (by decide) ?_ | refine up_mv (by first | decide | omega) ?_)) <;> first | assumption | rfl)) rfl ?_
      first | ((with_reducible refine isN2 ?_); refine g_imulN (p0 := 38) dL_kind_37 rfl ?_) | refine g_imul (p0 := 38) dL_kind_37 rfl ?_
      first | ((with_reducible refine isN2 ?_); refine g_icmpN_ge (tgt := 45) (p1 := 41) dL_kind_38 rfl (by omega) (by omega) rfl (fun c_38 => ?_) (fun c_38 => ?_)) | refine g_icmp_ge (tgt := 45) (p1 := 41) dL_kind_38 rfl rfl (fun c_38 => ?_) (fun c_38 => ?_)
      · refine g_iload_n (p0 := 46) (i := 2) dL_kind_45 rfl rfl rfl ?_
        refine g_bipush (p0 := 48) (v := nI 18) dL_kind_46 (by decide) rfl ?_
        refine g_aload_n (p0 := 49) (i := 0) dL_kind_48 rfl rfl rfl ?_
        refine g_iconst (p0 := 50) (v := nI 0) dL_kind_49 rfl rfl ?_
        first | ((with_reducible refine isN1 ?_); refine g_aldN (p0 := 51) dL_kind_50 (by first | rfl | assumption | exact RW.s (by assumption) | exact TW.s (by assumption)) (by first | decide | assumption) (by omega) (by first | assumption | ((repeat (first | exact up_hit | refine up_nv (by decide) ?_ | refine up_mv (by first | decide | omega) ?_)) <;> first | assumption | rfl)) rfl ?_) | refine g_ald (p0 := 51) dL_kind_50 (by first | rfl | assumption | exact RW.s (by assumption) | exact TW.s (by assumption)) (by assumption) (by first | assumption | ((repeat (first | exact up_hit | refine up_nv (by decide) ?_ | refine up_mv (by first | decide | omega) ?_)) <;> first | assumption | rfl)) rfl ?_
        first | ((with_reducible refine isN2 ?_); refine g_imulN (p0 := 52) dL_kind_51 rfl ?_) | refine g_imul (p0 := 52) dL_kind_51 rfl ?_
        first | ((with_reducible refine isN2 ?_); refine g_icmpN_ge (tgt := 59) (p1 := 55) dL_kind_52 rfl (by omega) (by omega) rfl (fun c_52 => ?_) (fun c_52 => ?_)) | refine g_icmp_ge (tgt := 59) (p1 := 55) dL_kind_52 rfl rfl (fun c_52 => ?_) (fun c_52 => ?_)
        · refine g_iload_n (p0 := 60) (i := 2) dL_kind_59 rfl rfl rfl ?_
          refine g_bipush (p0 := 62) (v := nI 32) dL_kind_60 (by decide) rfl ?_
          refine g_aload_n (p0 := 63) (i := 0) dL_kind_62 rfl rfl rfl ?_
          refine g_iconst (p0 := 64) (v := nI 0) dL_kind_63 rfl rfl ?_
          first | ((with_reducible refine isN1 ?_); refine g_aldN (p0 := 65) dL_kind_64 (by first | rfl | assumption | exact RW.s (by assumption) | exact TW.s (by assumption)) (by first | decide | assumption) (by omega) (by first | assumption | ((repeat (first | exact up_hit | refine up_nv (by decide) ?_ | refine up_mv (by first | decide | omega) ?_)) <;> first | assumption | rfl)) rfl ?_) | refine g_ald (p0 := 65) dL_kind_64 (by first | rfl | assumption | exact RW.s (by assumption) | exact TW.s (by assumption)) (by assumption) (by first | assumption | ((repeat (first | exact up_hit | refine up_nv (by decide) ?_ | refine up_mv (by first | decide | omega) ?_)) <;> first | assumption | rfl)) rfl ?_
          first | ((with_reducible refine isN2 ?_); refine g_imulN (p0 := 66) dL_kind_65 rfl ?_) | refine g_imul (p0 := 66) dL_kind_65 rfl ?_
          first | ((with_reducible refine isN2 ?_); refine g_icmpN_ge (tgt := 73) (p1 := 69) dL_kind_66 rfl (by omega) (by omega) rfl (fun c_66 => ?_) (fun c_66 => ?_)) | refine g_icmp_ge (tgt := 73) (p1 := 69) dL_kind_66 rfl rfl (fun c_66 => ?_) (fun c_66 => ?_)
          · refine g_iconst (p0 := 74) (v := nI 5) dL_kind_73 rfl rfl ?_
            refine g_ireturn dL_kind_74 rfl rfl (?_)
            exact Ret.i (by simp [cs, *]) rfl
          · refine g_iconst (p0 := 70) (v := nI 4) dL_kind_69 rfl rfl ?_
            refine g_goto (tgt := 74) dL_kind_70 rfl ?_
            refine g_ireturn dL_kind_74 rfl rfl (?_)
            exact Ret.i (by simp [cs, *]) rfl
        · refine g_iconst (p0 := 56) (v := nI 3) dL_kind_55 rfl rfl ?_
          refine g_goto (tgt := 74) dL_kind_56 rfl ?_
          refine g_ireturn dL_kind_74 rfl rfl (?_)
          exact Ret.i (by simp [cs, *]) rfl
      · refine g_iconst (p0 := 42) (v := nI 2) dL_kind_41 rfl rfl ?_
        refine g_goto (tgt := 74) dL_kind_42 rfl ?_
        refine g_ireturn dL_kind_74 rfl rfl (?_)
        exact Ret.i (by simp [cs, *]) rfl
    · refine g_iconst (p0 := 28) (v := nI 1) dL_kind_27 rfl rfl ?_
      refine g_goto (tgt := 74) dL_kind_28 rfl ?_
      refine g_ireturn dL_kind_74 rfl rfl (?_)
      exact Ret.i (by simp [cs, *]) rfl
  · refine g_iconst (p0 := 14) (v := nI 0) dL_kind_13 rfl rfl ?_
    refine g_goto (tgt := 74) dL_kind_14 rfl ?_
    refine g_ireturn dL_kind_74 rfl rfl (?_)
    exact Ret.i (by simp [cs, *]) rfl
set_option maxRecDepth 20000 in
set_option maxHeartbeats 2000000 in
theorem doubt_0 {g bt tl : Int32} {σ : Sg} (hb : σ 79 0 = bt) (ht : σ 79 1 = tl) (h1 : cs bt g = cs bt (g - tl)) (h2 : cs bt g = cs bt (g + tl)) : CM mL_doubt [ar 79, ai g] σ (Ret (nI 0) σ) := by
  have q1 := cs_le bt g
  have q2 := cs_le bt (g - tl)
  have q3 := cs_le bt (g + tl)
  refine CM_in (ls := [some (ar 79), some (ai g)]) rfl ?_
  refine g_aload_n (p0 := 1) (i := 0) dL_doubt_0 rfl rfl rfl ?_
  refine g_iload_n (p0 := 2) (i := 1) dL_doubt_1 rfl rfl rfl ?_
  refine g_cS2R (p0 := 5) (r1 := mL_kind) dL_doubt_2 (Or.inl lL_9) vL_kind (FITi rfl rfl) (Nat.le_of_ble_eq_true rfl) (kind_sp hb) rfl ?_
  refine g_aload_n (p0 := 6) (i := 0) dL_doubt_5 rfl rfl rfl ?_
  refine g_iload_n (p0 := 7) (i := 1) dL_doubt_6 rfl rfl rfl ?_
  refine g_aload_n (p0 := 8) (i := 0) dL_doubt_7 rfl rfl rfl ?_
  refine g_iconst (p0 := 9) (v := nI 1) dL_doubt_8 rfl rfl ?_
  first | ((with_reducible refine isN1 ?_); refine g_aldN (p0 := 10) dL_doubt_9 (by first | rfl | assumption | exact RW.s (by assumption) | exact TW.s (by assumption)) (by first | decide | assumption) (by omega) (by first | assumption | ((repeat (first | exact up_hit | refine up_nv (by decide) ?_ | refine up_mv (by first | decide | omega) ?_)) <;> first | assumption | rfl)) rfl ?_) | refine g_ald (p0 := 10) dL_doubt_9 (by first | rfl | assumption | exact RW.s (by assumption) | exact TW.s (by assumption)) (by assumption) (by first | assumption | ((repeat (first | exact up_hit | refine up_nv (by decide) ?_ | refine up_mv (by first | decide | omega) ?_)) <;> first | assumption | rfl)) rfl ?_
  first | ((with_reducible refine isN2 ?_); refine g_isubN (p0 := 11) dL_doubt_10 (by omega) rfl ?_) | refine g_isub (p0 := 11) dL_doubt_10 rfl ?_
  refine g_cS2R (p0 := 14) (r1 := mL_kind) dL_doubt_11 (Or.inl lL_9) vL_kind (FITi rfl rfl) (Nat.le_of_ble_eq_true rfl) (kind_sp hb) rfl ?_
  first | ((with_reducible refine isN2 ?_); refine g_icmpN_ne (tgt := 34) (p1 := 17) dL_doubt_14 rfl (by omega) (by omega) rfl (fun c_14 => by exfalso; first | omega | contradiction | exact absurd (by assumption) c_14 | (simp_all; done)) (fun c_14 => ?_)) | refine g_icmp_ne (tgt := 34) (p1 := 17) dL_doubt_14 rfl rfl (fun c_14 => by exfalso; first | omega | contradiction | exact absurd (by assumption) c_14 | (simp_all; done)) (fun c_14 => ?_)
  refine g_aload_n (p0 := 18) (i := 0) dL_doubt_17 rfl rfl rfl ?_
  refine g_iload_n (p0 := 19) (i := 1) dL_doubt_18 rfl rfl rfl ?_
  refine g_cS2R (p0 := 22) (r1 := mL_kind) dL_doubt_19 (Or.inl lL_9) vL_kind (FITi rfl rfl) (Nat.le_of_ble_eq_true rfl) (kind_sp hb) rfl ?_
  refine g_aload_n (p0 := 23) (i := 0) dL_doubt_22 rfl rfl rfl ?_
  refine g_iload_n (p0 := 24) (i := 1) dL_doubt_23 rfl rfl rfl ?_
  refine g_aload_n (p0 := 25) (i := 0) dL_doubt_24 rfl rfl rfl ?_
  refine g_iconst (p0 := 26) (v := nI 1) dL_doubt_25 rfl rfl ?_
  first | ((with_reducible refine isN1 ?_); refine g_aldN (p0 := 27) dL_doubt_26 (by first | rfl | assumption | exact RW.s (by assumption) | exact TW.s (by assumption)) (by first | decide | assumption) (by omega) (by first | assumption | ((repeat (first | exact up_hit | refine up_nv (by decide) ?_ | refine up_mv (by first | decide | omega) ?_)) <;> first | assumption | rfl)) rfl ?_) | refine g_ald (p0 := 27) dL_doubt_26 (by first | rfl | assumption | exact RW.s (by assumption) | exact TW.s (by assumption)) (by assumption) (by first | assumption | ((repeat (first | exact up_hit | refine up_nv (by decide) ?_ | refine up_mv (by first | decide | omega) ?_)) <;> first | assumption | rfl)) rfl ?_
  first | ((with_reducible refine isN2 ?_); refine g_iaddN (p0 := 28) dL_doubt_27 rfl ?_) | refine g_iadd (p0 := 28) dL_doubt_27 rfl ?_
  refine g_cS2R (p0 := 31) (r1 := mL_kind) dL_doubt_28 (Or.inl lL_9) vL_kind (FITi rfl rfl) (Nat.le_of_ble_eq_true rfl) (kind_sp hb) rfl ?_
  first | ((with_reducible refine isN2 ?_); refine g_icmpN_eq (tgt := 38) (p1 := 34) dL_doubt_31 rfl (by omega) (by omega) rfl (fun c_31 => ?_) (fun c_31 => by exfalso; first | omega | contradiction | exact absurd (by assumption) c_31 | (simp_all; done))) | refine g_icmp_eq (tgt := 38) (p1 := 34) dL_doubt_31 rfl rfl (fun c_31 => ?_) (fun c_31 => by exfalso; first | omega | contradiction | exact absurd (by assumption) c_31 | (simp_all; done))
  refine g_iconst (p0 := 39) (v := nI 0) dL_doubt_38 rfl rfl ?_
  refine g_ireturn dL_doubt_39 rfl (by first | rfl | exact bool_narrow (by first | exact Or.inl rfl | exact Or.inr rfl | assumption | (split <;> first | exact Or.inl rfl | exact Or.inr rfl))) (?_)
  exact ⟨rfl, rfl⟩
set_option maxRecDepth 20000 in
set_option maxHeartbeats 2000000 in
theorem doubt_1a {g bt tl : Int32} {σ : Sg} (hb : σ 79 0 = bt) (ht : σ 79 1 = tl) (h1 : ¬ cs bt g = cs bt (g - tl)) : CM mL_doubt [ar 79, ai g] σ (Ret (nI 1) σ) := by
  have q1 := cs_le bt g
  have q2 := cs_le bt (g - tl)
  have q3 := cs_le bt (g + tl)
  refine CM_in (ls := [some (ar 79), some (ai g)]) rfl ?_
  refine g_aload_n (p0 := 1) (i := 0) dL_doubt_0 rfl rfl rfl ?_
  refine g_iload_n (p0 := 2) (i := 1) dL_doubt_1 rfl rfl rfl ?_
  refine g_cS2R (p0 := 5) (r1 := mL_kind) dL_doubt_2 (Or.inl lL_9) vL_kind (FITi rfl rfl) (Nat.le_of_ble_eq_true rfl) (kind_sp hb) rfl ?_
  refine g_aload_n (p0 := 6) (i := 0) dL_doubt_5 rfl rfl rfl ?_
  refine g_iload_n (p0 := 7) (i := 1) dL_doubt_6 rfl rfl rfl ?_
  refine g_aload_n (p0 := 8) (i := 0) dL_doubt_7 rfl rfl rfl ?_
  refine g_iconst (p0 := 9) (v := nI 1) dL_doubt_8 rfl rfl ?_
  first | ((with_reducible refine isN1 ?_); refine g_aldN (p0 := 10) dL_doubt_9 (by first | rfl | assumption | exact RW.s (by assumption) | exact TW.s (by assumption)) (by first | decide | assumption) (by omega) (by first | assumption | ((repeat (first | exact up_hit | refine up_nv (by decide) ?_ | refine up_mv (by first | decide | omega) ?_)) <;> first | assumption | rfl)) rfl ?_) | refine g_ald (p0 := 10) dL_doubt_9 (by first | rfl | assumption | exact RW.s (by assumption) | exact TW.s (by assumption)) (by assumption) (by first | assumption | ((repeat (first | exact up_hit | refine up_nv (by decide) ?_ | refine up_mv (by first | decide | omega) ?_)) <;> first | assumption | rfl)) rfl ?_
  first | ((with_reducible refine isN2 ?_); refine g_isubN (p0 := 11) dL_doubt_10 (by omega) rfl ?_) | refine g_isub (p0 := 11) dL_doubt_10 rfl ?_
  refine g_cS2R (p0 := 14) (r1 := mL_kind) dL_doubt_11 (Or.inl lL_9) vL_kind (FITi rfl rfl) (Nat.le_of_ble_eq_true rfl) (kind_sp hb) rfl ?_
  first | ((with_reducible refine isN2 ?_); refine g_icmpN_ne (tgt := 34) (p1 := 17) dL_doubt_14 rfl (by omega) (by omega) rfl (fun c_14 => ?_) (fun c_14 => by exfalso; first | omega | contradiction | exact absurd (by assumption) c_14 | (simp_all; done))) | refine g_icmp_ne (tgt := 34) (p1 := 17) dL_doubt_14 rfl rfl (fun c_14 => ?_) (fun c_14 => by exfalso; first | omega | contradiction | exact absurd (by assumption) c_14 | (simp_all; done))
  refine g_iconst (p0 := 35) (v := nI 1) dL_doubt_34 rfl rfl ?_
  refine g_goto (tgt := 39) dL_doubt_35 rfl ?_
  refine g_ireturn dL_doubt_39 rfl (by first | rfl | exact bool_narrow (by first | exact Or.inl rfl | exact Or.inr rfl | assumption | (split <;> first | exact Or.inl rfl | exact Or.inr rfl))) (?_)
  exact ⟨rfl, rfl⟩
set_option maxRecDepth 20000 in
set_option maxHeartbeats 2000000 in
theorem doubt_1b {g bt tl : Int32} {σ : Sg} (hb : σ 79 0 = bt) (ht : σ 79 1 = tl) (h1 : cs bt g = cs bt (g - tl)) (h2 : ¬ cs bt g = cs bt (g + tl)) : CM mL_doubt [ar 79, ai g] σ (Ret (nI 1) σ) := by
  have q1 := cs_le bt g
  have q2 := cs_le bt (g - tl)
  have q3 := cs_le bt (g + tl)
  refine CM_in (ls := [some (ar 79), some (ai g)]) rfl ?_
  refine g_aload_n (p0 := 1) (i := 0) dL_doubt_0 rfl rfl rfl ?_
  refine g_iload_n (p0 := 2) (i := 1) dL_doubt_1 rfl rfl rfl ?_
  refine g_cS2R (p0 := 5) (r1 := mL_kind) dL_doubt_2 (Or.inl lL_9) vL_kind (FITi rfl rfl) (Nat.le_of_ble_eq_true rfl) (kind_sp hb) rfl ?_
  refine g_aload_n (p0 := 6) (i := 0) dL_doubt_5 rfl rfl rfl ?_
  refine g_iload_n (p0 := 7) (i := 1) dL_doubt_6 rfl rfl rfl ?_
  refine g_aload_n (p0 := 8) (i := 0) dL_doubt_7 rfl rfl rfl ?_
  refine g_iconst (p0 := 9) (v := nI 1) dL_doubt_8 rfl rfl ?_
  first | ((with_reducible refine isN1 ?_); refine g_aldN (p0 := 10) dL_doubt_9 (by first | rfl | assumption | exact RW.s (by assumption) | exact TW.s (by assumption)) (by first | decide | assumption) (by omega) (by first | assumption | ((repeat (first | exact up_hit | refine up_nv (by decide) ?_ | refine up_mv (by first | decide | omega) ?_)) <;> first | assumption | rfl)) rfl ?_) | refine g_ald (p0 := 10) dL_doubt_9 (by first | rfl | assumption | exact RW.s (by assumption) | exact TW.s (by assumption)) (by assumption) (by first | assumption | ((repeat (first | exact up_hit | refine up_nv (by decide) ?_ | refine up_mv (by first | decide | omega) ?_)) <;> first | assumption | rfl)) rfl ?_
  first | ((with_reducible refine isN2 ?_); refine g_isubN (p0 := 11) dL_doubt_10 (by omega) rfl ?_) | refine g_isub (p0 := 11) dL_doubt_10 rfl ?_
  refine g_cS2R (p0 := 14) (r1 := mL_kind) dL_doubt_11 (Or.inl lL_9) vL_kind (FITi rfl rfl) (Nat.le_of_ble_eq_true rfl) (kind_sp hb) rfl ?_
  first | ((with_reducible refine isN2 ?_); refine g_icmpN_ne (tgt := 34) (p1 := 17) dL_doubt_14 rfl (by omega) (by omega) rfl (fun c_14 => by exfalso; first | omega | contradiction | exact absurd (by assumption) c_14 | (simp_all; done)) (fun c_14 => ?_)) | refine g_icmp_ne (tgt := 34) (p1 := 17) dL_doubt_14 rfl rfl (fun c_14 => by exfalso; first | omega | contradiction | exact absurd (by assumption) c_14 | (simp_all; done)) (fun c_14 => ?_)
  refine g_aload_n (p0 := 18) (i := 0) dL_doubt_17 rfl rfl rfl ?_
  refine g_iload_n (p0 := 19) (i := 1) dL_doubt_18 rfl rfl rfl ?_
  refine g_cS2R (p0 := 22) (r1 := mL_kind) dL_doubt_19 (Or.inl lL_9) vL_kind (FITi rfl rfl) (Nat.le_of_ble_eq_true rfl) (kind_sp hb) rfl ?_
  refine g_aload_n (p0 := 23) (i := 0) dL_doubt_22 rfl rfl rfl ?_
  refine g_iload_n (p0 := 24) (i := 1) dL_doubt_23 rfl rfl rfl ?_
  refine g_aload_n (p0 := 25) (i := 0) dL_doubt_24 rfl rfl rfl ?_
  refine g_iconst (p0 := 26) (v := nI 1) dL_doubt_25 rfl rfl ?_
  first | ((with_reducible refine isN1 ?_); refine g_aldN (p0 := 27) dL_doubt_26 (by first | rfl | assumption | exact RW.s (by assumption) | exact TW.s (by assumption)) (by first | decide | assumption) (by omega) (by first | assumption | ((repeat (first | exact up_hit | refine up_nv (by decide) ?_ | refine up_mv (by first | decide | omega) ?_)) <;> first | assumption | rfl)) rfl ?_) | refine g_ald (p0 := 27) dL_doubt_26 (by first | rfl | assumption | exact RW.s (by assumption) | exact TW.s (by assumption)) (by assumption) (by first | assumption | ((repeat (first | exact up_hit | refine up_nv (by decide) ?_ | refine up_mv (by first | decide | omega) ?_)) <;> first | assumption | rfl)) rfl ?_
  first | ((with_reducible refine isN2 ?_); refine g_iaddN (p0 := 28) dL_doubt_27 rfl ?_) | refine g_iadd (p0 := 28) dL_doubt_27 rfl ?_
  refine g_cS2R (p0 := 31) (r1 := mL_kind) dL_doubt_28 (Or.inl lL_9) vL_kind (FITi rfl rfl) (Nat.le_of_ble_eq_true rfl) (kind_sp hb) rfl ?_
  first | ((with_reducible refine isN2 ?_); refine g_icmpN_eq (tgt := 38) (p1 := 34) dL_doubt_31 rfl (by omega) (by omega) rfl (fun c_31 => by exfalso; first | omega | contradiction | exact absurd (by assumption) c_31 | (simp_all; done)) (fun c_31 => ?_)) | refine g_icmp_eq (tgt := 38) (p1 := 34) dL_doubt_31 rfl rfl (fun c_31 => by exfalso; first | omega | contradiction | exact absurd (by assumption) c_31 | (simp_all; done)) (fun c_31 => ?_)
  refine g_iconst (p0 := 35) (v := nI 1) dL_doubt_34 rfl rfl ?_
  refine g_goto (tgt := 39) dL_doubt_35 rfl ?_
  refine g_ireturn dL_doubt_39 rfl (by first | rfl | exact bool_narrow (by first | exact Or.inl rfl | exact Or.inr rfl | assumption | (split <;> first | exact Or.inl rfl | exact Or.inr rfl))) (?_)
  exact ⟨rfl, rfl⟩
theorem doubt_sp {g bt tl : Int32} {σ : Sg} (hb : σ 79 0 = bt) (ht : σ 79 1 = tl) : CM mL_doubt [ar 79, ai g] σ (Ret (nI (dbt bt tl g)) σ) := by
  by_cases h1 : cs bt g = cs bt (g - tl)
  · by_cases h2 : cs bt g = cs bt (g + tl)
    · rw [dbt, if_pos ⟨h1, h2⟩]
      exact doubt_0 hb ht h1 h2
    · rw [dbt, if_neg (fun q => h2 q.2)]
      exact doubt_1b hb ht h1 h2
  · rw [dbt, if_neg (fun q => h1 q.1)]
    exact doubt_1a hb ht h1
set_option maxRecDepth 20000 in
set_option maxHeartbeats 2000000 in
theorem one_sp {x g a b : Nat} {σ : Sg} (hx : x = g + 256 * a + 65536 * b) (hg : g < 256) (ha : a < 256) (hb : b < 256) : CM mL_one [ai (nI x)] σ (Ret (nI a) σ) := by
  refine CM_in (ls := [some (ai (nI x))]) rfl ?_
  refine g_iload_n (p0 := 1) (i := 0) dL_one_0 rfl rfl rfl ?_
  refine g_bipush (p0 := 3) (v := nI 8) dL_one_1 (by decide) rfl ?_
  refine g_ishr (p0 := 4) dL_one_3 rfl ?_
  rw [pk_shrN (by omega) (nI 8 &&& 31) 8 (by decide)]
  refine g_sipush (p0 := 7) (v := nI 255) dL_one_4 (by decide) rfl ?_
  refine g_iand (p0 := 8) dL_one_7 rfl ?_
  rw [pk_andN (by omega) 8 (by decide), show x / 2 ^ 8 % 2 ^ 8 = a by omega]
  refine g_ireturn dL_one_8 rfl rfl (?_)
  exact ⟨rfl, rfl⟩
set_option maxRecDepth 20000 in
set_option maxHeartbeats 2000000 in
theorem two_sp {x g a b : Nat} {σ : Sg} (hx : x = g + 256 * a + 65536 * b) (hg : g < 256) (ha : a < 256) (hb : b < 256) : CM mL_two [ai (nI x)] σ (Ret (nI b) σ) := by
  refine CM_in (ls := [some (ai (nI x))]) rfl ?_
  refine g_iload_n (p0 := 1) (i := 0) dL_two_0 rfl rfl rfl ?_
  refine g_bipush (p0 := 3) (v := nI 16) dL_two_1 (by decide) rfl ?_
  refine g_ishr (p0 := 4) dL_two_3 rfl ?_
  rw [pk_shrN (by omega) (nI 16 &&& 31) 16 (by decide)]
  refine g_sipush (p0 := 7) (v := nI 255) dL_two_4 (by decide) rfl ?_
  refine g_iand (p0 := 8) dL_two_7 rfl ?_
  rw [pk_andN (by omega) 8 (by decide), show x / 2 ^ 16 % 2 ^ 8 = b by omega]
  refine g_ireturn dL_two_8 rfl rfl (?_)
  exact ⟨rfl, rfl⟩
set_option maxRecDepth 20000 in
set_option maxHeartbeats 2000000 in
theorem good_T {x g a b : Nat} {σ : Sg} (hx : x = g + 256 * a + 65536 * b) (hg : g < 256) (ha : a < 256) (hb : b < 256) (h : g = 2 ∧ 1 ≤ a ∧ a ≤ 5 ∧ 1 ≤ b ∧ b ≤ 5) : CM mL_good [ai (nI x)] σ (Ret (nI 1) σ) := by
  refine CM_in (ls := [some (ai (nI x))]) rfl ?_
  refine g_iload_n (p0 := 1) (i := 0) dL_good_0 rfl rfl rfl ?_
  refine g_sipush (p0 := 4) (v := nI 255) dL_good_1 (by decide) rfl ?_
  refine g_iand (p0 := 5) dL_good_4 rfl ?_
  rw [pk_andN (by omega) 8 (by decide), show x % 2 ^ 8 = g by omega]
  refine g_iconst (p0 := 6) (v := nI 2) dL_good_5 rfl rfl ?_
  first | ((with_reducible refine isN2 ?_); refine g_icmpN_ne (tgt := 45) (p1 := 9) dL_good_6 rfl (by omega) (by omega) rfl (fun c_6 => by exfalso; first | omega | contradiction | exact absurd (by assumption) c_6 | (simp_all; done)) (fun c_6 => ?_)) | refine g_icmp_ne (tgt := 45) (p1 := 9) dL_good_6 rfl rfl (fun c_6 => by exfalso; first | omega | contradiction | exact absurd (by assumption) c_6 | (simp_all; done)) (fun c_6 => ?_)
  refine g_iload_n (p0 := 10) (i := 0) dL_good_9 rfl rfl rfl ?_
  refine g_cS1R (p0 := 13) (r1 := mL_one) dL_good_10 (Or.inl lL_15) vL_one (FITi rfl rfl) (Nat.le_of_ble_eq_true rfl) (one_sp hx hg ha hb) rfl ?_
  refine g_bipush (p0 := 15) (v := nI 6) dL_good_13 (by decide) rfl ?_
  first | ((with_reducible refine isN2 ?_); refine g_icmpN_ge (tgt := 45) (p1 := 18) dL_good_15 rfl (by omega) (by omega) rfl (fun c_15 => by exfalso; first | omega | contradiction | exact absurd (by assumption) c_15 | (simp_all; done)) (fun c_15 => ?_)) | refine g_icmp_ge (tgt := 45) (p1 := 18) dL_good_15 rfl rfl (fun c_15 => by exfalso; first | omega | contradiction | exact absurd (by assumption) c_15 | (simp_all; done)) (fun c_15 => ?_)
  refine g_iload_n (p0 := 19) (i := 0) dL_good_18 rfl rfl rfl ?_
  refine g_cS1R (p0 := 22) (r1 := mL_two) dL_good_19 (Or.inl lL_19) vL_two (FITi rfl rfl) (Nat.le_of_ble_eq_true rfl) (two_sp hx hg ha hb) rfl ?_
  refine g_bipush (p0 := 24) (v := nI 6) dL_good_22 (by decide) rfl ?_
  first | ((with_reducible refine isN2 ?_); refine g_icmpN_ge (tgt := 45) (p1 := 27) dL_good_24 rfl (by omega) (by omega) rfl (fun c_24 => by exfalso; first | omega | contradiction | exact absurd (by assumption) c_24 | (simp_all; done)) (fun c_24 => ?_)) | refine g_icmp_ge (tgt := 45) (p1 := 27) dL_good_24 rfl rfl (fun c_24 => by exfalso; first | omega | contradiction | exact absurd (by assumption) c_24 | (simp_all; done)) (fun c_24 => ?_)
  refine g_iload_n (p0 := 28) (i := 0) dL_good_27 rfl rfl rfl ?_
  refine g_cS1R (p0 := 31) (r1 := mL_one) dL_good_28 (Or.inl lL_15) vL_one (FITi rfl rfl) (Nat.le_of_ble_eq_true rfl) (one_sp hx hg ha hb) rfl ?_
  first | ((with_reducible refine isN1 ?_); refine g_ifN_le (tgt := 45) (p1 := 34) dL_good_31 rfl (by omega) rfl (fun c_31 => by exfalso; first | omega | contradiction | exact absurd (by assumption) c_31 | (simp_all; done)) (fun c_31 => ?_)) | refine g_if_le (tgt := 45) (p1 := 34) dL_good_31 rfl rfl (fun c_31 => by exfalso; first | omega | contradiction | exact absurd (by assumption) c_31 | (simp_all; done)) (fun c_31 => ?_)
  refine g_iload_n (p0 := 35) (i := 0) dL_good_34 rfl rfl rfl ?_
  refine g_cS1R (p0 := 38) (r1 := mL_two) dL_good_35 (Or.inl lL_19) vL_two (FITi rfl rfl) (Nat.le_of_ble_eq_true rfl) (two_sp hx hg ha hb) rfl ?_
  first | ((with_reducible refine isN1 ?_); refine g_ifN_le (tgt := 45) (p1 := 41) dL_good_38 rfl (by omega) rfl (fun c_38 => by exfalso; first | omega | contradiction | exact absurd (by assumption) c_38 | (simp_all; done)) (fun c_38 => ?_)) | refine g_if_le (tgt := 45) (p1 := 41) dL_good_38 rfl rfl (fun c_38 => by exfalso; first | omega | contradiction | exact absurd (by assumption) c_38 | (simp_all; done)) (fun c_38 => ?_)
  refine g_iconst (p0 := 42) (v := nI 1) dL_good_41 rfl rfl ?_
  refine g_goto (tgt := 46) dL_good_42 rfl ?_
  refine g_ireturn dL_good_46 rfl (by first | rfl | exact bool_narrow (by first | exact Or.inl rfl | exact Or.inr rfl | assumption | (split <;> first | exact Or.inl rfl | exact Or.inr rfl))) (?_)
  exact ⟨rfl, rfl⟩
set_option maxRecDepth 20000 in
set_option maxHeartbeats 2000000 in
theorem good_F {x g a b : Nat} {σ : Sg} (hx : x = g + 256 * a + 65536 * b) (hg : g < 256) (ha : a < 256) (hb : b < 256) (h : ¬ (g = 2 ∧ 1 ≤ a ∧ a ≤ 5 ∧ 1 ≤ b ∧ b ≤ 5)) : CM mL_good [ai (nI x)] σ (Ret (nI 0) σ) := by
  refine CM_in (ls := [some (ai (nI x))]) rfl ?_
  refine g_iload_n (p0 := 1) (i := 0) dL_good_0 rfl rfl rfl ?_
  refine g_sipush (p0 := 4) (v := nI 255) dL_good_1 (by decide) rfl ?_
  refine g_iand (p0 := 5) dL_good_4 rfl ?_
  rw [pk_andN (by omega) 8 (by decide), show x % 2 ^ 8 = g by omega]
  refine g_iconst (p0 := 6) (v := nI 2) dL_good_5 rfl rfl ?_
  first | ((with_reducible refine isN2 ?_); refine g_icmpN_ne (tgt := 45) (p1 := 9) dL_good_6 rfl (by omega) (by omega) rfl (fun c_6 => ?_) (fun c_6 => ?_)) | refine g_icmp_ne (tgt := 45) (p1 := 9) dL_good_6 rfl rfl (fun c_6 => ?_) (fun c_6 => ?_)
  · refine g_iconst (p0 := 46) (v := nI 0) dL_good_45 rfl rfl ?_
    refine g_ireturn dL_good_46 rfl (by first | rfl | exact bool_narrow (by first | exact Or.inl rfl | exact Or.inr rfl | assumption | (split <;> first | exact Or.inl rfl | exact Or.inr rfl))) (?_)
    first | (exfalso; omega) | exact ⟨rfl, rfl⟩
  · refine g_iload_n (p0 := 10) (i := 0) dL_good_9 rfl rfl rfl ?_
    refine g_cS1R (p0 := 13) (r1 := mL_one) dL_good_10 (Or.inl lL_15) vL_one (FITi rfl rfl) (Nat.le_of_ble_eq_true rfl) (one_sp hx hg ha hb) rfl ?_
    refine g_bipush (p0 := 15) (v := nI 6) dL_good_13 (by decide) rfl ?_
    first | ((with_reducible refine isN2 ?_); refine g_icmpN_ge (tgt := 45) (p1 := 18) dL_good_15 rfl (by omega) (by omega) rfl (fun c_15 => ?_) (fun c_15 => ?_)) | refine g_icmp_ge (tgt := 45) (p1 := 18) dL_good_15 rfl rfl (fun c_15 => ?_) (fun c_15 => ?_)
    · refine g_iconst (p0 := 46) (v := nI 0) dL_good_45 rfl rfl ?_
      refine g_ireturn dL_good_46 rfl (by first | rfl | exact bool_narrow (by first | exact Or.inl rfl | exact Or.inr rfl | assumption | (split <;> first | exact Or.inl rfl | exact Or.inr rfl))) (?_)
      first | (exfalso; omega) | exact ⟨rfl, rfl⟩
    · refine g_iload_n (p0 := 19) (i := 0) dL_good_18 rfl rfl rfl ?_
      refine g_cS1R (p0 := 22) (r1 := mL_two) dL_good_19 (Or.inl lL_19) vL_two (FITi rfl rfl) (Nat.le_of_ble_eq_true rfl) (two_sp hx hg ha hb) rfl ?_
      refine g_bipush (p0 := 24) (v := nI 6) dL_good_22 (by decide) rfl ?_
      first | ((with_reducible refine isN2 ?_); refine g_icmpN_ge (tgt := 45) (p1 := 27) dL_good_24 rfl (by omega) (by omega) rfl (fun c_24 => ?_) (fun c_24 => ?_)) | refine g_icmp_ge (tgt := 45) (p1 := 27) dL_good_24 rfl rfl (fun c_24 => ?_) (fun c_24 => ?_)
      · refine g_iconst (p0 := 46) (v := nI 0) dL_good_45 rfl rfl ?_
        refine g_ireturn dL_good_46 rfl (by first | rfl | exact bool_narrow (by first | exact Or.inl rfl | exact Or.inr rfl | assumption | (split <;> first | exact Or.inl rfl | exact Or.inr rfl))) (?_)
        first | (exfalso; omega) | exact ⟨rfl, rfl⟩
      · refine g_iload_n (p0 := 28) (i := 0) dL_good_27 rfl rfl rfl ?_
        refine g_cS1R (p0 := 31) (r1 := mL_one) dL_good_28 (Or.inl lL_15) vL_one (FITi rfl rfl) (Nat.le_of_ble_eq_true rfl) (one_sp hx hg ha hb) rfl ?_
        first | ((with_reducible refine isN1 ?_); refine g_ifN_le (tgt := 45) (p1 := 34) dL_good_31 rfl (by omega) rfl (fun c_31 => ?_) (fun c_31 => ?_)) | refine g_if_le (tgt := 45) (p1 := 34) dL_good_31 rfl rfl (fun c_31 => ?_) (fun c_31 => ?_)
        · refine g_iconst (p0 := 46) (v := nI 0) dL_good_45 rfl rfl ?_
          refine g_ireturn dL_good_46 rfl (by first | rfl | exact bool_narrow (by first | exact Or.inl rfl | exact Or.inr rfl | assumption | (split <;> first | exact Or.inl rfl | exact Or.inr rfl))) (?_)
          first | (exfalso; omega) | exact ⟨rfl, rfl⟩
        · refine g_iload_n (p0 := 35) (i := 0) dL_good_34 rfl rfl rfl ?_
          refine g_cS1R (p0 := 38) (r1 := mL_two) dL_good_35 (Or.inl lL_19) vL_two (FITi rfl rfl) (Nat.le_of_ble_eq_true rfl) (two_sp hx hg ha hb) rfl ?_
          first | ((with_reducible refine isN1 ?_); refine g_ifN_le (tgt := 45) (p1 := 41) dL_good_38 rfl (by omega) rfl (fun c_38 => ?_) (fun c_38 => ?_)) | refine g_if_le (tgt := 45) (p1 := 41) dL_good_38 rfl rfl (fun c_38 => ?_) (fun c_38 => ?_)
          · refine g_iconst (p0 := 46) (v := nI 0) dL_good_45 rfl rfl ?_
            refine g_ireturn dL_good_46 rfl (by first | rfl | exact bool_narrow (by first | exact Or.inl rfl | exact Or.inr rfl | assumption | (split <;> first | exact Or.inl rfl | exact Or.inr rfl))) (?_)
            first | (exfalso; omega) | exact ⟨rfl, rfl⟩
          · refine g_iconst (p0 := 42) (v := nI 1) dL_good_41 rfl rfl ?_
            refine g_goto (tgt := 46) dL_good_42 rfl ?_
            refine g_ireturn dL_good_46 rfl (by first | rfl | exact bool_narrow (by first | exact Or.inl rfl | exact Or.inr rfl | assumption | (split <;> first | exact Or.inl rfl | exact Or.inr rfl))) (?_)
            first | (exfalso; omega) | exact ⟨rfl, rfl⟩
set_option maxRecDepth 20000 in
set_option maxHeartbeats 2000000 in
theorem letter_T {x g a b : Nat} {σ : Sg} (hx : x = g + 256 * a + 65536 * b) (hg : g < 256) (ha : a < 256) (hb : b < 256) {l : Nat} {cf : Nat → Nat} (h : g = 2 ∧ 1 ≤ a ∧ a ≤ 5 ∧ 1 ≤ b ∧ b ≤ 5) (hp : ∀ k, k < 25 → σ 81 k = nI (cf k) ∧ cf k < 25) (hi : ∀ k m, k < 25 → m < 25 → cf k = cf m → k = m) (hl : l < 25) (hlx : cf l + 6 = 5 * a + b) : CM mL_letter [ar 81, ai (nI x)] σ (Ret (nI l) σ) := by
  refine CM_in (ls := [some (ar 81), some (ai (nI x))]) rfl ?_
  refine g_iload_n (p0 := 1) (i := 1) dL_letter_0 rfl rfl rfl ?_
  refine g_cS1R (p0 := 4) (r1 := mL_good) dL_letter_1 (Or.inl lL_22) vL_good (FITi rfl rfl) (Nat.le_of_ble_eq_true rfl) (good_T hx hg ha hb h) rfl ?_
  first | ((with_reducible refine isN1 ?_); refine g_ifN_eq (tgt := 22) (p1 := 7) dL_letter_4 rfl (by omega) rfl (fun c_4 => by exfalso; first | omega | contradiction | exact absurd (by assumption) c_4 | (simp_all; done)) (fun c_4 => ?_)) | refine g_if_eq (tgt := 22) (p1 := 7) dL_letter_4 rfl rfl (fun c_4 => by exfalso; first | omega | contradiction | exact absurd (by assumption) c_4 | (simp_all; done)) (fun c_4 => ?_)
  refine g_aload_n (p0 := 8) (i := 0) dL_letter_7 rfl rfl rfl ?_
  refine g_iload_n (p0 := 9) (i := 1) dL_letter_8 rfl rfl rfl ?_
  refine g_cS1R (p0 := 12) (r1 := mL_one) dL_letter_9 (Or.inl lL_15) vL_one (FITi rfl rfl) (Nat.le_of_ble_eq_true rfl) (one_sp hx hg ha hb) rfl ?_
  refine g_iload_n (p0 := 13) (i := 1) dL_letter_12 rfl rfl rfl ?_
  refine g_cS1R (p0 := 16) (r1 := mL_two) dL_letter_13 (Or.inl lL_19) vL_two (FITi rfl rfl) (Nat.le_of_ble_eq_true rfl) (two_sp hx hg ha hb) rfl ?_
  refine g_cS3R (p0 := 19) (r1 := mL_at) dL_letter_16 (Or.inl lL_26) vL_at (FITi rfl rfl) (Nat.le_of_ble_eq_true rfl) (lat_sp hp hi ⟨h.2.1, h.2.2.1⟩ ⟨h.2.2.2.1, h.2.2.2.2⟩ hl hlx) rfl ?_
  refine g_goto (tgt := 24) dL_letter_19 rfl ?_
  refine g_ireturn dL_letter_24 rfl rfl (?_)
  exact ⟨rfl, rfl⟩
set_option maxRecDepth 20000 in
set_option maxHeartbeats 2000000 in
theorem letter_F {x g a b : Nat} {σ : Sg} (hx : x = g + 256 * a + 65536 * b) (hg : g < 256) (ha : a < 256) (hb : b < 256) (h : ¬ (g = 2 ∧ 1 ≤ a ∧ a ≤ 5 ∧ 1 ≤ b ∧ b ≤ 5)) : CM mL_letter [ar 81, ai (nI x)] σ (Ret (-1000004) σ) := by
  refine CM_in (ls := [some (ar 81), some (ai (nI x))]) rfl ?_
  refine g_iload_n (p0 := 1) (i := 1) dL_letter_0 rfl rfl rfl ?_
  refine g_cS1R (p0 := 4) (r1 := mL_good) dL_letter_1 (Or.inl lL_22) vL_good (FITi rfl rfl) (Nat.le_of_ble_eq_true rfl) (good_F hx hg ha hb h) rfl ?_
  first | ((with_reducible refine isN1 ?_); refine g_ifN_eq (tgt := 22) (p1 := 7) dL_letter_4 rfl (by omega) rfl (fun c_4 => ?_) (fun c_4 => by exfalso; first | omega | contradiction | exact absurd (by assumption) c_4 | (simp_all; done))) | refine g_if_eq (tgt := 22) (p1 := 7) dL_letter_4 rfl rfl (fun c_4 => ?_) (fun c_4 => by exfalso; first | omega | contradiction | exact absurd (by assumption) c_4 | (simp_all; done))
  refine g_ldc (p0 := 24) dL_letter_22 qL_30 rfl ?_
  refine g_ireturn dL_letter_24 rfl rfl (?_)
  exact ⟨rfl, rfl⟩
set_option maxRecDepth 20000 in
set_option maxHeartbeats 2000000 in
theorem first_loop {e L q t : Nat} {fm : Nat → Nat} {σ : Sg} {Q : SP} (hB : XB σ e) (hL : L ≤ 64) (ht : t < 1000) (hf : ∀ l, l < L → σ (e + 5) l = nI (fm l) ∧ fm l < 1000) (hq : q ≤ L) (h1 : ∀ l, l < q → fm l < t) (h2 : q < L → t ≤ fm q) (k : Q (some (ai (nI q))) σ) : ∀ m j, j + m = q → WM mL_first Q 2 [some (ar (e + 5)), some (ai (nI L)), some (ai (nI t)), some (ai (nI j))] [] σ := by
  intro m
  induction m with
  | zero =>
    intro j hj
    obtain rfl : j = q := by omega
    by_cases hjL : j = L
    · subst hjL
      refine g_iload_n (p0 := 3) (i := 3) dL_first_2 rfl rfl rfl ?_
      refine g_iload_n (p0 := 4) (i := 1) dL_first_3 rfl rfl rfl ?_
      first | ((with_reducible refine isN2 ?_); refine g_icmpN_ge (tgt := 20) (p1 := 7) dL_first_4 rfl (by omega) (by omega) rfl (fun c_4 => ?_) (fun c_4 => by exfalso; first | omega | contradiction | exact absurd (by assumption) c_4 | (simp_all; done))) | refine g_icmp_ge (tgt := 20) (p1 := 7) dL_first_4 rfl rfl (fun c_4 => ?_) (fun c_4 => by exfalso; first | omega | contradiction | exact absurd (by assumption) c_4 | (simp_all; done))
      refine g_iload_n (p0 := 21) (i := 3) dL_first_20 rfl rfl rfl ?_
      refine g_ireturn dL_first_21 rfl rfl (?_)
      exact k
    · have hv := (hf j (by omega)).1
      have hv2 := (hf j (by omega)).2
      have h3 := h2 (by omega)
      refine g_iload_n (p0 := 3) (i := 3) dL_first_2 rfl rfl rfl ?_
      refine g_iload_n (p0 := 4) (i := 1) dL_first_3 rfl rfl rfl ?_
      first | ((with_reducible refine isN2 ?_); refine g_icmpN_ge (tgt := 20) (p1 := 7) dL_first_4 rfl (by omega) (by omega) rfl (fun c_4 => by exfalso; first | omega | contradiction | exact absurd (by assumption) c_4 | (simp_all; done)) (fun c_4 => ?_)) | refine g_icmp_ge (tgt := 20) (p1 := 7) dL_first_4 rfl rfl (fun c_4 => by exfalso; first | omega | contradiction | exact absurd (by assumption) c_4 | (simp_all; done)) (fun c_4 => ?_)
      refine g_aload_n (p0 := 8) (i := 0) dL_first_7 rfl rfl rfl ?_
      refine g_iload_n (p0 := 9) (i := 3) dL_first_8 rfl rfl rfl ?_
      refine g_aldX (p0 := 10) dL_first_9 (by repeat (first | assumption | refine XB.up (by omega) ?_)) ⟨rfl, by decide⟩ (by omega) (by first | assumption | ((repeat (first | exact up_hit | (apply up_nv; omega) | (apply up_mv; omega))) <;> first | assumption | rfl)) rfl ?_
      refine g_iload_n (p0 := 11) (i := 2) dL_first_10 rfl rfl rfl ?_
      first | ((with_reducible refine isN2 ?_); refine g_icmpN_ge (tgt := 20) (p1 := 14) dL_first_11 rfl (by omega) (by omega) rfl (fun c_11 => ?_) (fun c_11 => by exfalso; first | omega | contradiction | exact absurd (by assumption) c_11 | (simp_all; done))) | refine g_icmp_ge (tgt := 20) (p1 := 14) dL_first_11 rfl rfl (fun c_11 => ?_) (fun c_11 => by exfalso; first | omega | contradiction | exact absurd (by assumption) c_11 | (simp_all; done))
      refine g_iload_n (p0 := 21) (i := 3) dL_first_20 rfl rfl rfl ?_
      refine g_ireturn dL_first_21 rfl rfl (?_)
      exact k
  | succ m ih =>
    intro j hj
    have hv := (hf j (by omega)).1
    have hv2 := (hf j (by omega)).2
    have h3 := h1 j (by omega)
    refine g_iload_n (p0 := 3) (i := 3) dL_first_2 rfl rfl rfl ?_
    refine g_iload_n (p0 := 4) (i := 1) dL_first_3 rfl rfl rfl ?_
    first | ((with_reducible refine isN2 ?_); refine g_icmpN_ge (tgt := 20) (p1 := 7) dL_first_4 rfl (by omega) (by omega) rfl (fun c_4 => by exfalso; first | omega | contradiction | exact absurd (by assumption) c_4 | (simp_all; done)) (fun c_4 => ?_)) | refine g_icmp_ge (tgt := 20) (p1 := 7) dL_first_4 rfl rfl (fun c_4 => by exfalso; first | omega | contradiction | exact absurd (by assumption) c_4 | (simp_all; done)) (fun c_4 => ?_)
    refine g_aload_n (p0 := 8) (i := 0) dL_first_7 rfl rfl rfl ?_
    refine g_iload_n (p0 := 9) (i := 3) dL_first_8 rfl rfl rfl ?_
    refine g_aldX (p0 := 10) dL_first_9 (by repeat (first | assumption | refine XB.up (by omega) ?_)) ⟨rfl, by decide⟩ (by omega) (by first | assumption | ((repeat (first | exact up_hit | (apply up_nv; omega) | (apply up_mv; omega))) <;> first | assumption | rfl)) rfl ?_
    refine g_iload_n (p0 := 11) (i := 2) dL_first_10 rfl rfl rfl ?_
    first | ((with_reducible refine isN2 ?_); refine g_icmpN_ge (tgt := 20) (p1 := 14) dL_first_11 rfl (by omega) (by omega) rfl (fun c_11 => by exfalso; first | omega | contradiction | exact absurd (by assumption) c_11 | (simp_all; done)) (fun c_11 => ?_)) | refine g_icmp_ge (tgt := 20) (p1 := 14) dL_first_11 rfl rfl (fun c_11 => by exfalso; first | omega | contradiction | exact absurd (by assumption) c_11 | (simp_all; done)) (fun c_11 => ?_)
    first | refine g_iinc1 (p0 := 17) (ls2 := [_, _, _, _]) dL_first_14 rfl rfl rfl ?_ | refine g_iinc (p0 := 17) (ls2 := [_, _, _, _]) dL_first_14 rfl rfl rfl rfl ?_
    refine g_goto (tgt := 2) dL_first_17 rfl ?_
    exact ih (j + 1) (by omega)
set_option maxRecDepth 20000 in
set_option maxHeartbeats 2000000 in
theorem first_sp {e L q t : Nat} {fm : Nat → Nat} {σ : Sg} (hB : XB σ e) (hL : L ≤ 64) (ht : t < 1000) (hf : ∀ l, l < L → σ (e + 5) l = nI (fm l) ∧ fm l < 1000) (hq : q ≤ L) (h1 : ∀ l, l < q → fm l < t) (h2 : q < L → t ≤ fm q) : CM mL_first [ar (e + 5), ai (nI L), ai (nI t)] σ (Ret (nI q) σ) := by
  refine CM_in (ls := [some (ar (e + 5)), some (ai (nI L)), some (ai (nI t)), none]) rfl ?_
  refine g_iconst (p0 := 1) (v := nI 0) dL_first_0 rfl rfl ?_
  refine g_istore_n (p0 := 2) (i := 3) (ls2 := [_, _, _, _]) dL_first_1 rfl (Nat.le_of_ble_eq_true rfl) rfl rfl ?_
  exact first_loop hB hL ht hf hq h1 h2 ⟨rfl, rfl⟩ q 0 (by omega)
set_option maxRecDepth 20000 in
set_option maxHeartbeats 2000000 in
theorem place_loopT {s p : Nat} {x : Int32} {σ : Sg} {Q : SP} (hs : σ 79 3 = nI s) (hs1 : s ≤ 64) (hp : p < s) (hv : σ 80 p = x) (h : ∀ k, k < p → ¬ σ 80 k = x) (k : Q (some (ai (nI p))) σ) : ∀ m j, j + m = p → WM mL_place Q 2 [some (ar 79), some (ar 80), some (ai x), some (ai (nI j))] [] σ := by
  intro m
  induction m with
  | zero =>
    intro j hj
    obtain rfl : j = p := by omega
    refine g_iload_n (p0 := 3) (i := 3) dL_place_2 rfl rfl rfl ?_
    refine g_aload_n (p0 := 4) (i := 0) dL_place_3 rfl rfl rfl ?_
    refine g_iconst (p0 := 5) (v := nI 3) dL_place_4 rfl rfl ?_
    first | ((with_reducible refine isN1 ?_); refine g_aldN (p0 := 6) dL_place_5 (by first | rfl | assumption | exact RW.s (by assumption) | exact TW.s (by assumption)) (by first | decide | assumption) (by omega) (by first | assumption | ((repeat (first | exact up_hit | refine up_nv (by decide) ?_ | refine up_mv (by first | decide | omega) ?_)) <;> first | assumption | rfl)) rfl ?_) | refine g_ald (p0 := 6) dL_place_5 (by first | rfl | assumption | exact RW.s (by assumption) | exact TW.s (by assumption)) (by assumption) (by first | assumption | ((repeat (first | exact up_hit | refine up_nv (by decide) ?_ | refine up_mv (by first | decide | omega) ?_)) <;> first | assumption | rfl)) rfl ?_
    first | ((with_reducible refine isN2 ?_); refine g_icmpN_ge (tgt := 24) (p1 := 9) dL_place_6 rfl (by omega) (by omega) rfl (fun c_6 => by exfalso; first | omega | exact c_6 rfl) (fun c_6 => ?_)) | refine g_icmp_ge (tgt := 24) (p1 := 9) dL_place_6 rfl rfl (fun c_6 => by exfalso; first | omega | exact c_6 rfl) (fun c_6 => ?_)
    refine g_aload_n (p0 := 10) (i := 1) dL_place_9 rfl rfl rfl ?_
    refine g_iload_n (p0 := 11) (i := 3) dL_place_10 rfl rfl rfl ?_
    first | ((with_reducible refine isN1 ?_); refine g_aldN (p0 := 12) dL_place_11 (by first | rfl | assumption | exact RW.s (by assumption) | exact TW.s (by assumption)) (by first | decide | assumption) (by omega) (by first | assumption | ((repeat (first | exact up_hit | refine up_nv (by decide) ?_ | refine up_mv (by first | decide | omega) ?_)) <;> first | assumption | rfl)) rfl ?_) | refine g_ald (p0 := 12) dL_place_11 (by first | rfl | assumption | exact RW.s (by assumption) | exact TW.s (by assumption)) (by assumption) (by first | assumption | ((repeat (first | exact up_hit | refine up_nv (by decide) ?_ | refine up_mv (by first | decide | omega) ?_)) <;> first | assumption | rfl)) rfl ?_
    refine g_iload_n (p0 := 13) (i := 2) dL_place_12 rfl rfl rfl ?_
    first | ((with_reducible refine isN2 ?_); refine g_icmpN_ne (tgt := 18) (p1 := 16) dL_place_13 rfl (by omega) (by omega) rfl (fun c_13 => by exfalso; first | omega | exact c_13 rfl) (fun c_13 => ?_)) | refine g_icmp_ne (tgt := 18) (p1 := 16) dL_place_13 rfl rfl (fun c_13 => by exfalso; first | omega | exact c_13 rfl) (fun c_13 => ?_)
    refine g_iload_n (p0 := 17) (i := 3) dL_place_16 rfl rfl rfl ?_
    refine g_ireturn dL_place_17 rfl rfl (?_)
    exact k
  | succ m ih =>
    intro j hj
    obtain ⟨y, hy⟩ : ∃ y, σ 80 j = y := ⟨_, rfl⟩
    have hne := h j (by omega)
    rw [hy] at hne
    refine g_iload_n (p0 := 3) (i := 3) dL_place_2 rfl rfl rfl ?_
    refine g_aload_n (p0 := 4) (i := 0) dL_place_3 rfl rfl rfl ?_
    refine g_iconst (p0 := 5) (v := nI 3) dL_place_4 rfl rfl ?_
    first | ((with_reducible refine isN1 ?_); refine g_aldN (p0 := 6) dL_place_5 (by first | rfl | assumption | exact RW.s (by assumption) | exact TW.s (by assumption)) (by first | decide | assumption) (by omega) (by first | assumption | ((repeat (first | exact up_hit | refine up_nv (by decide) ?_ | refine up_mv (by first | decide | omega) ?_)) <;> first | assumption | rfl)) rfl ?_) | refine g_ald (p0 := 6) dL_place_5 (by first | rfl | assumption | exact RW.s (by assumption) | exact TW.s (by assumption)) (by assumption) (by first | assumption | ((repeat (first | exact up_hit | refine up_nv (by decide) ?_ | refine up_mv (by first | decide | omega) ?_)) <;> first | assumption | rfl)) rfl ?_
    first | ((with_reducible refine isN2 ?_); refine g_icmpN_ge (tgt := 24) (p1 := 9) dL_place_6 rfl (by omega) (by omega) rfl (fun c_6 => by exfalso; first | omega | exact hne c_6) (fun c_6 => ?_)) | refine g_icmp_ge (tgt := 24) (p1 := 9) dL_place_6 rfl rfl (fun c_6 => by exfalso; first | omega | exact hne c_6) (fun c_6 => ?_)
    refine g_aload_n (p0 := 10) (i := 1) dL_place_9 rfl rfl rfl ?_
    refine g_iload_n (p0 := 11) (i := 3) dL_place_10 rfl rfl rfl ?_
    first | ((with_reducible refine isN1 ?_); refine g_aldN (p0 := 12) dL_place_11 (by first | rfl | assumption | exact RW.s (by assumption) | exact TW.s (by assumption)) (by first | decide | assumption) (by omega) (by first | assumption | ((repeat (first | exact up_hit | refine up_nv (by decide) ?_ | refine up_mv (by first | decide | omega) ?_)) <;> first | assumption | rfl)) rfl ?_) | refine g_ald (p0 := 12) dL_place_11 (by first | rfl | assumption | exact RW.s (by assumption) | exact TW.s (by assumption)) (by assumption) (by first | assumption | ((repeat (first | exact up_hit | refine up_nv (by decide) ?_ | refine up_mv (by first | decide | omega) ?_)) <;> first | assumption | rfl)) rfl ?_
    refine g_iload_n (p0 := 13) (i := 2) dL_place_12 rfl rfl rfl ?_
    first | ((with_reducible refine isN2 ?_); refine g_icmpN_ne (tgt := 18) (p1 := 16) dL_place_13 rfl (by omega) (by omega) rfl (fun c_13 => ?_) (fun c_13 => by exfalso; first | omega | exact hne c_13)) | refine g_icmp_ne (tgt := 18) (p1 := 16) dL_place_13 rfl rfl (fun c_13 => ?_) (fun c_13 => by exfalso; first | omega | exact hne c_13)
    first | refine g_iinc1 (p0 := 21) (ls2 := [_, _, _, _]) dL_place_18 rfl rfl rfl ?_ | refine g_iinc (p0 := 21) (ls2 := [_, _, _, _]) dL_place_18 rfl rfl rfl rfl ?_
    refine g_goto (tgt := 2) dL_place_21 rfl ?_
    exact ih (j + 1) (by omega)
set_option maxRecDepth 20000 in
set_option maxHeartbeats 2000000 in
theorem place_T {s p : Nat} {x : Int32} {σ : Sg} (hs : σ 79 3 = nI s) (hs1 : s ≤ 64) (hp : p < s) (hv : σ 80 p = x) (h : ∀ k, k < p → ¬ σ 80 k = x) : CM mL_place [ar 79, ar 80, ai x] σ (Ret (nI p) σ) := by
  refine CM_in (ls := [some (ar 79), some (ar 80), some (ai x), none]) rfl ?_
  refine g_iconst (p0 := 1) (v := nI 0) dL_place_0 rfl rfl ?_
  refine g_istore_n (p0 := 2) (i := 3) (ls2 := [_, _, _, _]) dL_place_1 rfl (Nat.le_of_ble_eq_true rfl) rfl rfl ?_
  exact place_loopT hs hs1 hp hv h ⟨rfl, rfl⟩ p 0 (by omega)
set_option maxRecDepth 20000 in
set_option maxHeartbeats 2000000 in
theorem place_loopF {s : Nat} {x : Int32} {σ : Sg} {Q : SP} (hs : σ 79 3 = nI s) (hs1 : s ≤ 64) (h : ∀ k, k < s → ¬ σ 80 k = x) (k : Q (some (ai (-1))) σ) : ∀ m j, j + m = s → WM mL_place Q 2 [some (ar 79), some (ar 80), some (ai x), some (ai (nI j))] [] σ := by
  intro m
  induction m with
  | zero =>
    intro j hj
    obtain rfl : j = s := by omega
    refine g_iload_n (p0 := 3) (i := 3) dL_place_2 rfl rfl rfl ?_
    refine g_aload_n (p0 := 4) (i := 0) dL_place_3 rfl rfl rfl ?_
    refine g_iconst (p0 := 5) (v := nI 3) dL_place_4 rfl rfl ?_
    first | ((with_reducible refine isN1 ?_); refine g_aldN (p0 := 6) dL_place_5 (by first | rfl | assumption | exact RW.s (by assumption) | exact TW.s (by assumption)) (by first | decide | assumption) (by omega) (by first | assumption | ((repeat (first | exact up_hit | refine up_nv (by decide) ?_ | refine up_mv (by first | decide | omega) ?_)) <;> first | assumption | rfl)) rfl ?_) | refine g_ald (p0 := 6) dL_place_5 (by first | rfl | assumption | exact RW.s (by assumption) | exact TW.s (by assumption)) (by assumption) (by first | assumption | ((repeat (first | exact up_hit | refine up_nv (by decide) ?_ | refine up_mv (by first | decide | omega) ?_)) <;> first | assumption | rfl)) rfl ?_
    first | ((with_reducible refine isN2 ?_); refine g_icmpN_ge (tgt := 24) (p1 := 9) dL_place_6 rfl (by omega) (by omega) rfl (fun c_6 => ?_) (fun c_6 => by exfalso; first | omega | contradiction | exact absurd (by assumption) c_6 | (simp_all; done))) | refine g_icmp_ge (tgt := 24) (p1 := 9) dL_place_6 rfl rfl (fun c_6 => ?_) (fun c_6 => by exfalso; first | omega | contradiction | exact absurd (by assumption) c_6 | (simp_all; done))
    refine g_iconst (p0 := 25) (v := -1) dL_place_24 rfl rfl ?_
    refine g_ireturn dL_place_25 rfl rfl (?_)
    exact k
  | succ m ih =>
    intro j hj
    obtain ⟨y, hy⟩ : ∃ y, σ 80 j = y := ⟨_, rfl⟩
    have hne := h j (by omega)
    rw [hy] at hne
    refine g_iload_n (p0 := 3) (i := 3) dL_place_2 rfl rfl rfl ?_
    refine g_aload_n (p0 := 4) (i := 0) dL_place_3 rfl rfl rfl ?_
    refine g_iconst (p0 := 5) (v := nI 3) dL_place_4 rfl rfl ?_
    first | ((with_reducible refine isN1 ?_); refine g_aldN (p0 := 6) dL_place_5 (by first | rfl | assumption | exact RW.s (by assumption) | exact TW.s (by assumption)) (by first | decide | assumption) (by omega) (by first | assumption | ((repeat (first | exact up_hit | refine up_nv (by decide) ?_ | refine up_mv (by first | decide | omega) ?_)) <;> first | assumption | rfl)) rfl ?_) | refine g_ald (p0 := 6) dL_place_5 (by first | rfl | assumption | exact RW.s (by assumption) | exact TW.s (by assumption)) (by assumption) (by first | assumption | ((repeat (first | exact up_hit | refine up_nv (by decide) ?_ | refine up_mv (by first | decide | omega) ?_)) <;> first | assumption | rfl)) rfl ?_
    first | ((with_reducible refine isN2 ?_); refine g_icmpN_ge (tgt := 24) (p1 := 9) dL_place_6 rfl (by omega) (by omega) rfl (fun c_6 => by exfalso; first | omega | exact hne c_6) (fun c_6 => ?_)) | refine g_icmp_ge (tgt := 24) (p1 := 9) dL_place_6 rfl rfl (fun c_6 => by exfalso; first | omega | exact hne c_6) (fun c_6 => ?_)
    refine g_aload_n (p0 := 10) (i := 1) dL_place_9 rfl rfl rfl ?_
    refine g_iload_n (p0 := 11) (i := 3) dL_place_10 rfl rfl rfl ?_
    first | ((with_reducible refine isN1 ?_); refine g_aldN (p0 := 12) dL_place_11 (by first | rfl | assumption | exact RW.s (by assumption) | exact TW.s (by assumption)) (by first | decide | assumption) (by omega) (by first | assumption | ((repeat (first | exact up_hit | refine up_nv (by decide) ?_ | refine up_mv (by first | decide | omega) ?_)) <;> first | assumption | rfl)) rfl ?_) | refine g_ald (p0 := 12) dL_place_11 (by first | rfl | assumption | exact RW.s (by assumption) | exact TW.s (by assumption)) (by assumption) (by first | assumption | ((repeat (first | exact up_hit | refine up_nv (by decide) ?_ | refine up_mv (by first | decide | omega) ?_)) <;> first | assumption | rfl)) rfl ?_
    refine g_iload_n (p0 := 13) (i := 2) dL_place_12 rfl rfl rfl ?_
    first | ((with_reducible refine isN2 ?_); refine g_icmpN_ne (tgt := 18) (p1 := 16) dL_place_13 rfl (by omega) (by omega) rfl (fun c_13 => ?_) (fun c_13 => by exfalso; first | omega | exact hne c_13)) | refine g_icmp_ne (tgt := 18) (p1 := 16) dL_place_13 rfl rfl (fun c_13 => ?_) (fun c_13 => by exfalso; first | omega | exact hne c_13)
    first | refine g_iinc1 (p0 := 21) (ls2 := [_, _, _, _]) dL_place_18 rfl rfl rfl ?_ | refine g_iinc (p0 := 21) (ls2 := [_, _, _, _]) dL_place_18 rfl rfl rfl rfl ?_
    refine g_goto (tgt := 2) dL_place_21 rfl ?_
    exact ih (j + 1) (by omega)
set_option maxRecDepth 20000 in
set_option maxHeartbeats 2000000 in
theorem place_F {s : Nat} {x : Int32} {σ : Sg} (hs : σ 79 3 = nI s) (hs1 : s ≤ 64) (h : ∀ k, k < s → ¬ σ 80 k = x) : CM mL_place [ar 79, ar 80, ai x] σ (Ret (-1) σ) := by
  refine CM_in (ls := [some (ar 79), some (ar 80), some (ai x), none]) rfl ?_
  refine g_iconst (p0 := 1) (v := nI 0) dL_place_0 rfl rfl ?_
  refine g_istore_n (p0 := 2) (i := 3) (ls2 := [_, _, _, _]) dL_place_1 rfl (Nat.le_of_ble_eq_true rfl) rfl rfl ?_
  exact place_loopF hs hs1 h ⟨rfl, rfl⟩ s 0 (by omega)
/-- removed, as far as the law has come -/
def rmL (τ : Nat → Int32) (p j : Nat) : Nat → Int32 := fun k => if p ≤ k ∧ k < j then τ (k + 1) else τ k
theorem rmL_0 (τ : Nat → Int32) (p : Nat) : rmL τ p p = τ := by
  funext k
  rw [rmL, if_neg (by omega)]
theorem rmL_step {τ : Nat → Int32} {p j : Nat} (h : p ≤ j) : upd (rmL τ p j) j (rmL τ p j (j + 1)) = rmL τ p (j + 1) := by
  funext k
  by_cases hk : k = j
  · subst hk
    rw [upd_hit, rmL, if_neg (by omega), rmL, if_pos (by omega)]
  · rw [upd_ne hk, rmL, rmL]
    by_cases h2 : p ≤ k ∧ k < j
    · rw [if_pos h2, if_pos (by omega)]
    · rw [if_neg h2, if_neg (by omega)]
theorem rmL_rem {τ : Nat → Int32} {s p : Nat} (hs : 0 < s) : rmL τ p (s - 1) = remR τ s p := by
  funext k
  rw [rmL, remR]
  by_cases h : p ≤ k ∧ k < s - 1
  · rw [if_pos h, if_pos (by omega)]
  · rw [if_neg h, if_neg (by omega)]
set_option maxRecDepth 20000 in
set_option maxHeartbeats 2000000 in
theorem lmute_loop {s p : Nat} {x : Int32} {σ : Sg} {Q : SP} (hs : σ 79 3 = nI s) (hs1 : s ≤ 63) (hp : p ≤ s) (k : Q (some (ai x)) (setR σ 80 (rmL (σ 80) p s))) : ∀ m j, j + m = s → p ≤ j → WM mL_mute Q 14 [some (ar 79), some (ar 80), some (ai (nI p)), some (ai x), some (ai (nI j))] [] (setR σ 80 (rmL (σ 80) p j)) := by
  intro m
  induction m with
  | zero =>
    intro j hj hpj
    obtain rfl : j = s := by omega
    have hs2 : setR σ 80 (rmL (σ 80) p j) 79 3 = nI j := by rw [setR_ne (by decide)]; exact hs
    refine g_iload (p0 := 16) dL_mute_14 rfl rfl ?_
    refine g_aload_n (p0 := 17) (i := 0) dL_mute_16 rfl rfl rfl ?_
    refine g_iconst (p0 := 18) (v := nI 3) dL_mute_17 rfl rfl ?_
    first | ((with_reducible refine isN1 ?_); refine g_aldN (p0 := 19) dL_mute_18 (by first | rfl | assumption | exact RW.s (by assumption) | exact TW.s (by assumption)) (by first | decide | assumption) (by omega) (by first | assumption | ((repeat (first | exact up_hit | refine up_nv (by decide) ?_ | refine up_mv (by first | decide | omega) ?_)) <;> first | assumption | rfl)) rfl ?_) | refine g_ald (p0 := 19) dL_mute_18 (by first | rfl | assumption | exact RW.s (by assumption) | exact TW.s (by assumption)) (by assumption) (by first | assumption | ((repeat (first | exact up_hit | refine up_nv (by decide) ?_ | refine up_mv (by first | decide | omega) ?_)) <;> first | assumption | rfl)) rfl ?_
    first | ((with_reducible refine isN2 ?_); refine g_icmpN_ge (tgt := 38) (p1 := 22) dL_mute_19 rfl (by omega) (by omega) rfl (fun c_19 => ?_) (fun c_19 => by exfalso; first | omega | contradiction | exact absurd (by assumption) c_19 | (simp_all; done))) | refine g_icmp_ge (tgt := 38) (p1 := 22) dL_mute_19 rfl rfl (fun c_19 => ?_) (fun c_19 => by exfalso; first | omega | contradiction | exact absurd (by assumption) c_19 | (simp_all; done))
    refine g_iload_n (p0 := 39) (i := 3) dL_mute_38 rfl rfl rfl ?_
    refine g_ireturn dL_mute_39 rfl rfl (?_)
    exact k
  | succ m ih =>
    intro j hj hpj
    have hs2 : setR σ 80 (rmL (σ 80) p j) 79 3 = nI s := by rw [setR_ne (by decide)]; exact hs
    have hv : setR σ 80 (rmL (σ 80) p j) 80 (j + 1) = rmL (σ 80) p j (j + 1) := by rw [setR_hit]
    have e3 : up (setR σ 80 (rmL (σ 80) p j)) 80 j (rmL (σ 80) p j (j + 1)) = setR σ 80 (rmL (σ 80) p (j + 1)) := by
      rw [up_setR, setR_setR, setR_hit, rmL_step hpj]
    refine g_iload (p0 := 16) dL_mute_14 rfl rfl ?_
    refine g_aload_n (p0 := 17) (i := 0) dL_mute_16 rfl rfl rfl ?_
    refine g_iconst (p0 := 18) (v := nI 3) dL_mute_17 rfl rfl ?_
    first | ((with_reducible refine isN1 ?_); refine g_aldN (p0 := 19) dL_mute_18 (by first | rfl | assumption | exact RW.s (by assumption) | exact TW.s (by assumption)) (by first | decide | assumption) (by omega) (by first | assumption | ((repeat (first | exact up_hit | refine up_nv (by decide) ?_ | refine up_mv (by first | decide | omega) ?_)) <;> first | assumption | rfl)) rfl ?_) | refine g_ald (p0 := 19) dL_mute_18 (by first | rfl | assumption | exact RW.s (by assumption) | exact TW.s (by assumption)) (by assumption) (by first | assumption | ((repeat (first | exact up_hit | refine up_nv (by decide) ?_ | refine up_mv (by first | decide | omega) ?_)) <;> first | assumption | rfl)) rfl ?_
    first | ((with_reducible refine isN2 ?_); refine g_icmpN_ge (tgt := 38) (p1 := 22) dL_mute_19 rfl (by omega) (by omega) rfl (fun c_19 => by exfalso; first | omega | contradiction | exact absurd (by assumption) c_19 | (simp_all; done)) (fun c_19 => ?_)) | refine g_icmp_ge (tgt := 38) (p1 := 22) dL_mute_19 rfl rfl (fun c_19 => by exfalso; first | omega | contradiction | exact absurd (by assumption) c_19 | (simp_all; done)) (fun c_19 => ?_)
    refine g_aload_n (p0 := 23) (i := 1) dL_mute_22 rfl rfl rfl ?_
    refine g_iload (p0 := 25) dL_mute_23 rfl rfl ?_
    refine g_aload_n (p0 := 26) (i := 1) dL_mute_25 rfl rfl rfl ?_
    refine g_iload (p0 := 28) dL_mute_26 rfl rfl ?_
    refine g_iconst (p0 := 29) (v := nI 1) dL_mute_28 rfl rfl ?_
    first | ((with_reducible refine isN2 ?_); refine g_iaddN (p0 := 30) dL_mute_29 rfl ?_) | refine g_iadd (p0 := 30) dL_mute_29 rfl ?_
    first | ((with_reducible refine isN1 ?_); refine g_aldN (p0 := 31) dL_mute_30 (by first | rfl | assumption | exact RW.s (by assumption) | exact TW.s (by assumption)) (by first | decide | assumption) (by omega) hv rfl ?_) | refine g_ald (p0 := 31) dL_mute_30 (by first | rfl | assumption | exact RW.s (by assumption) | exact TW.s (by assumption)) (by assumption) hv rfl ?_
    first | ((with_reducible refine isNS ?_); refine g_astN (p0 := 32) dL_mute_31 (by first | rfl | assumption | exact RW.s (by assumption) | exact TW.s (by assumption)) (by first | decide | assumption) (by omega) rfl ?_) | refine g_ast (p0 := 32) dL_mute_31 (by first | rfl | assumption | exact RW.s (by assumption) | exact TW.s (by assumption)) (by assumption) rfl ?_
    first | refine g_iinc1 (p0 := 35) (ls2 := [_, _, _, _, _]) dL_mute_32 rfl rfl rfl ?_ | refine g_iinc (p0 := 35) (ls2 := [_, _, _, _, _]) dL_mute_32 rfl rfl rfl rfl ?_
    refine g_goto (tgt := 14) dL_mute_35 rfl ?_
    rw [e3]
    exact ih (j + 1) (by omega) (by omega)
set_option maxRecDepth 20000 in
set_option maxHeartbeats 2000000 in
theorem lmute_sp {s p : Nat} {x : Int32} {σ : Sg} (hs : σ 79 3 = nI s) (hs1 : s ≤ 64) (hp : p < s) (hx : σ 80 p = x) : CM mL_mute [ar 79, ar 80, ai (nI p)] σ (Ret x (setR (up σ 79 3 (nI (s - 1))) 80 (remR (σ 80) s p))) := by
  refine CM_in (ls := [some (ar 79), some (ar 80), some (ai (nI p)), none, none]) rfl ?_
  refine g_aload_n (p0 := 1) (i := 1) dL_mute_0 rfl rfl rfl ?_
  refine g_iload_n (p0 := 2) (i := 2) dL_mute_1 rfl rfl rfl ?_
  first | ((with_reducible refine isN1 ?_); refine g_aldN (p0 := 3) dL_mute_2 (by first | rfl | assumption | exact RW.s (by assumption) | exact TW.s (by assumption)) (by first | decide | assumption) (by omega) (by first | assumption | ((repeat (first | exact up_hit | refine up_nv (by decide) ?_ | refine up_mv (by first | decide | omega) ?_)) <;> first | assumption | rfl)) rfl ?_) | refine g_ald (p0 := 3) dL_mute_2 (by first | rfl | assumption | exact RW.s (by assumption) | exact TW.s (by assumption)) (by assumption) (by first | assumption | ((repeat (first | exact up_hit | refine up_nv (by decide) ?_ | refine up_mv (by first | decide | omega) ?_)) <;> first | assumption | rfl)) rfl ?_
  refine g_istore_n (p0 := 4) (i := 3) (ls2 := [_, _, _, _, _]) dL_mute_3 rfl (Nat.le_of_ble_eq_true rfl) rfl rfl ?_
  refine g_aload_n (p0 := 5) (i := 0) dL_mute_4 rfl rfl rfl ?_
  refine g_iconst (p0 := 6) (v := nI 3) dL_mute_5 rfl rfl ?_
  refine g_dup2 (p0 := 7) dL_mute_6 rfl ?_
  first | ((with_reducible refine isN1 ?_); refine g_aldN (p0 := 8) dL_mute_7 (by first | rfl | assumption | exact RW.s (by assumption) | exact TW.s (by assumption)) (by first | decide | assumption) (by omega) (by first | assumption | ((repeat (first | exact up_hit | refine up_nv (by decide) ?_ | refine up_mv (by first | decide | omega) ?_)) <;> first | assumption | rfl)) rfl ?_) | refine g_ald (p0 := 8) dL_mute_7 (by first | rfl | assumption | exact RW.s (by assumption) | exact TW.s (by assumption)) (by assumption) (by first | assumption | ((repeat (first | exact up_hit | refine up_nv (by decide) ?_ | refine up_mv (by first | decide | omega) ?_)) <;> first | assumption | rfl)) rfl ?_
  refine g_iconst (p0 := 9) (v := nI 1) dL_mute_8 rfl rfl ?_
  first | ((with_reducible refine isN2 ?_); refine g_isubN (p0 := 10) dL_mute_9 (by omega) rfl ?_) | refine g_isub (p0 := 10) dL_mute_9 rfl ?_
  first | ((with_reducible refine isNS ?_); refine g_astN (p0 := 11) dL_mute_10 (by first | rfl | assumption | exact RW.s (by assumption) | exact TW.s (by assumption)) (by first | decide | assumption) (by omega) rfl ?_) | refine g_ast (p0 := 11) dL_mute_10 (by first | rfl | assumption | exact RW.s (by assumption) | exact TW.s (by assumption)) (by assumption) rfl ?_
  refine g_iload_n (p0 := 12) (i := 2) dL_mute_11 rfl rfl rfl ?_
  refine g_istore (p0 := 14) (i := 4) (ls2 := [_, _, _, _, _]) dL_mute_12 (Nat.le_of_ble_eq_true rfl) rfl rfl ?_
  have h := lmute_loop (σ := up σ 79 3 (nI (s - 1))) (x := x) (p := p) (Q := Ret x (setR (up σ 79 3 (nI (s - 1))) 80 (remR (σ 80) s p))) up_hit (by omega) (by omega) ⟨rfl, by rw [up_ne (show (80 : Nat) ≠ 79 by decide), rmL_rem (by omega)]⟩ (s - 1 - p) p (by omega) (Nat.le_refl p)
  rw [rmL_0, setR_id rfl] at h
  exact h
/-- shifted up, as far as the law has come from above -/
def shV (τ : Nat → Int32) (s j : Nat) : Nat → Int32 := fun k => if j < k ∧ k ≤ s then τ (k - 1) else τ k
theorem shV_0 (τ : Nat → Int32) (s : Nat) : shV τ s s = τ := by
  funext k
  rw [shV, if_neg (by omega)]
theorem shV_step {τ : Nat → Int32} {s j : Nat} (h : j + 1 ≤ s) : upd (shV τ s (j + 1)) (j + 1) (shV τ s (j + 1) j) = shV τ s j := by
  funext k
  by_cases hk : k = j + 1
  · subst hk
    rw [upd_hit, shV, if_neg (by omega), shV, if_pos (by omega), Nat.add_sub_cancel]
  · rw [upd_ne hk, shV, shV]
    by_cases h2 : j + 1 < k ∧ k ≤ s
    · rw [if_pos h2, if_pos (by omega)]
    · rw [if_neg h2, if_neg (by omega)]
theorem shV_ins {τ : Nat → Int32} {s p : Nat} {x : Int32} (hp : p ≤ s) : upd (shV τ s p) p x = insR τ s p x := by
  funext k
  by_cases hk : k = p
  · subst hk
    rw [upd_hit, insR, if_neg (by omega), if_pos rfl]
  · rw [upd_ne hk, shV, insR]
    by_cases h2 : k < p
    · rw [if_neg (by omega), if_pos h2]
    · rw [if_neg h2, if_neg hk]
      by_cases h3 : k ≤ s
      · rw [if_pos (by omega), if_pos h3]
      · rw [if_neg (by omega), if_neg h3]
set_option maxRecDepth 20000 in
set_option maxHeartbeats 2000000 in
theorem put_end {s p : Nat} {x : Int32} {σ : Sg} {Q : SP} (hs : σ 79 3 = nI s) (hs1 : s < 64) (hp : p ≤ s) (h1 : ∀ k, p ≤ k → k < s → x < σ 80 k) (h2 : 0 < p → σ 80 (p - 1) ≤ x) (k : Q none (up (setR σ 80 (insR (σ 80) s p x)) 79 3 (nI (s + 1)))) : WM mL_put Q 31 [some (ar 79), some (ar 80), some (ai x), some (ai (nI p))] [] (setR σ 80 (shV (σ 80) s p)) := by
  have hs2 : setR σ 80 (shV (σ 80) s p) 79 3 = nI s := by rw [setR_ne (by decide)]; exact hs
  have e3 : up (setR σ 80 (shV (σ 80) s p)) 80 p x = setR σ 80 (insR (σ 80) s p x) := by
    rw [up_setR, setR_setR, setR_hit, shV_ins hp]
  refine g_aload_n (p0 := 32) (i := 1) dL_put_31 rfl rfl rfl ?_
  refine g_iload_n (p0 := 33) (i := 3) dL_put_32 rfl rfl rfl ?_
  refine g_iload_n (p0 := 34) (i := 2) dL_put_33 rfl rfl rfl ?_
  first | ((with_reducible refine isNS ?_); refine g_astN (p0 := 35) dL_put_34 (by first | rfl | assumption | exact RW.s (by assumption) | exact TW.s (by assumption)) (by first | decide | assumption) (by omega) rfl ?_) | refine g_ast (p0 := 35) dL_put_34 (by first | rfl | assumption | exact RW.s (by assumption) | exact TW.s (by assumption)) (by assumption) rfl ?_
  refine g_aload_n (p0 := 36) (i := 0) dL_put_35 rfl rfl rfl ?_
  refine g_iconst (p0 := 37) (v := nI 3) dL_put_36 rfl rfl ?_
  refine g_dup2 (p0 := 38) dL_put_37 rfl ?_
  first | ((with_reducible refine isN1 ?_); refine g_aldN (p0 := 39) dL_put_38 (by first | rfl | assumption | exact RW.s (by assumption) | exact TW.s (by assumption)) (by first | decide | assumption) (by omega) (by first | assumption | ((repeat (first | exact up_hit | refine up_nv (by decide) ?_ | refine up_mv (by first | decide | omega) ?_)) <;> first | assumption | rfl)) rfl ?_) | refine g_ald (p0 := 39) dL_put_38 (by first | rfl | assumption | exact RW.s (by assumption) | exact TW.s (by assumption)) (by assumption) (by first | assumption | ((repeat (first | exact up_hit | refine up_nv (by decide) ?_ | refine up_mv (by first | decide | omega) ?_)) <;> first | assumption | rfl)) rfl ?_
  refine g_iconst (p0 := 40) (v := nI 1) dL_put_39 rfl rfl ?_
  first | ((with_reducible refine isN2 ?_); refine g_iaddN (p0 := 41) dL_put_40 rfl ?_) | refine g_iadd (p0 := 41) dL_put_40 rfl ?_
  first | ((with_reducible refine isNS ?_); refine g_astN (p0 := 42) dL_put_41 (by first | rfl | assumption | exact RW.s (by assumption) | exact TW.s (by assumption)) (by first | decide | assumption) (by omega) rfl ?_) | refine g_ast (p0 := 42) dL_put_41 (by first | rfl | assumption | exact RW.s (by assumption) | exact TW.s (by assumption)) (by assumption) rfl ?_
  refine g_return dL_put_42 rfl ?_
  rw [e3]
  exact k
set_option maxRecDepth 20000 in
set_option maxHeartbeats 2000000 in
theorem lput_loop {s p : Nat} {x : Int32} {σ : Sg} {Q : SP} (hs : σ 79 3 = nI s) (hs1 : s < 64) (hp : p ≤ s) (h1 : ∀ k, p ≤ k → k < s → x < σ 80 k) (h2 : 0 < p → σ 80 (p - 1) ≤ x) (k : Q none (up (setR σ 80 (insR (σ 80) s p x)) 79 3 (nI (s + 1)))) : ∀ m j, j = p + m → j ≤ s → WM mL_put Q 4 [some (ar 79), some (ar 80), some (ai x), some (ai (nI j))] [] (setR σ 80 (shV (σ 80) s j)) := by
  intro m
  induction m with
  | zero =>
    intro j hj hjs
    obtain rfl : j = p := by omega
    by_cases hj0 : j = 0
    · subst hj0
      refine g_iload_n (p0 := 5) (i := 3) dL_put_4 rfl rfl rfl ?_
      first | ((with_reducible refine isN1 ?_); refine g_ifN_le (tgt := 31) (p1 := 8) dL_put_5 rfl (by omega) rfl (fun c_5 => ?_) (fun c_5 => by exfalso; first | omega | contradiction | exact absurd (by assumption) c_5 | (simp_all; done))) | refine g_if_le (tgt := 31) (p1 := 8) dL_put_5 rfl rfl (fun c_5 => ?_) (fun c_5 => by exfalso; first | omega | contradiction | exact absurd (by assumption) c_5 | (simp_all; done))
      exact put_end hs hs1 hp h1 h2 k
    · obtain ⟨y, hy⟩ : ∃ y, σ 80 (j - 1) = y := ⟨_, rfl⟩
      have hle := h2 (by omega)
      rw [hy] at hle
      have hv : setR σ 80 (shV (σ 80) s j) 80 (j - 1) = y := by rw [setR_hit, shV, if_neg (by omega)]; exact hy
      refine g_iload_n (p0 := 5) (i := 3) dL_put_4 rfl rfl rfl ?_
      first | ((with_reducible refine isN1 ?_); refine g_ifN_le (tgt := 31) (p1 := 8) dL_put_5 rfl (by omega) rfl (fun c_5 => by exfalso; first | omega | exact c_5 hle) (fun c_5 => ?_)) | refine g_if_le (tgt := 31) (p1 := 8) dL_put_5 rfl rfl (fun c_5 => by exfalso; first | omega | exact c_5 hle) (fun c_5 => ?_)
      refine g_aload_n (p0 := 9) (i := 1) dL_put_8 rfl rfl rfl ?_
      refine g_iload_n (p0 := 10) (i := 3) dL_put_9 rfl rfl rfl ?_
      refine g_iconst (p0 := 11) (v := nI 1) dL_put_10 rfl rfl ?_
      first | ((with_reducible refine isN2 ?_); refine g_isubN (p0 := 12) dL_put_11 (by omega) rfl ?_) | refine g_isub (p0 := 12) dL_put_11 rfl ?_
      first | ((with_reducible refine isN1 ?_); refine g_aldN (p0 := 13) dL_put_12 (by first | rfl | assumption | exact RW.s (by assumption) | exact TW.s (by assumption)) (by first | decide | assumption) (by omega) hv rfl ?_) | refine g_ald (p0 := 13) dL_put_12 (by first | rfl | assumption | exact RW.s (by assumption) | exact TW.s (by assumption)) (by assumption) hv rfl ?_
      refine g_iload_n (p0 := 14) (i := 2) dL_put_13 rfl rfl rfl ?_
      first | ((with_reducible refine isN2 ?_); refine g_icmpN_le (tgt := 31) (p1 := 17) dL_put_14 rfl (by omega) (by omega) rfl (fun c_14 => ?_) (fun c_14 => by exfalso; first | omega | exact c_14 hle)) | refine g_icmp_le (tgt := 31) (p1 := 17) dL_put_14 rfl rfl (fun c_14 => ?_) (fun c_14 => by exfalso; first | omega | exact c_14 hle)
      exact put_end hs hs1 hp h1 h2 k
  | succ m ih =>
    intro j hj hjs
    obtain ⟨i, rfl⟩ : ∃ i, j = i + 1 := ⟨j - 1, by omega⟩
    obtain ⟨y, hy⟩ : ∃ y, σ 80 i = y := ⟨_, rfl⟩
    have hlt := h1 i (by omega) (by omega)
    rw [hy] at hlt
    have hv : setR σ 80 (shV (σ 80) s (i + 1)) 80 (i + 1 - 1) = y := by rw [setR_hit, shV, if_neg (by omega)]; exact hy
    have e3 : up (setR σ 80 (shV (σ 80) s (i + 1))) 80 (i + 1) y = setR σ 80 (shV (σ 80) s i) := by
      have h := shV_step (τ := σ 80) (s := s) (j := i) (by omega)
      have e4 : shV (σ 80) s (i + 1) i = y := by rw [shV, if_neg (by omega)]; exact hy
      rw [e4] at h
      rw [up_setR, setR_setR, setR_hit, h]
    refine g_iload_n (p0 := 5) (i := 3) dL_put_4 rfl rfl rfl ?_
    first | ((with_reducible refine isN1 ?_); refine g_ifN_le (tgt := 31) (p1 := 8) dL_put_5 rfl (by omega) rfl (fun c_5 => by exfalso; first | omega | exact absurd hlt (Int32.not_lt.mpr c_5)) (fun c_5 => ?_)) | refine g_if_le (tgt := 31) (p1 := 8) dL_put_5 rfl rfl (fun c_5 => by exfalso; first | omega | exact absurd hlt (Int32.not_lt.mpr c_5)) (fun c_5 => ?_)
    refine g_aload_n (p0 := 9) (i := 1) dL_put_8 rfl rfl rfl ?_
    refine g_iload_n (p0 := 10) (i := 3) dL_put_9 rfl rfl rfl ?_
    refine g_iconst (p0 := 11) (v := nI 1) dL_put_10 rfl rfl ?_
    first | ((with_reducible refine isN2 ?_); refine g_isubN (p0 := 12) dL_put_11 (by omega) rfl ?_) | refine g_isub (p0 := 12) dL_put_11 rfl ?_
    first | ((with_reducible refine isN1 ?_); refine g_aldN (p0 := 13) dL_put_12 (by first | rfl | assumption | exact RW.s (by assumption) | exact TW.s (by assumption)) (by first | decide | assumption) (by omega) hv rfl ?_) | refine g_ald (p0 := 13) dL_put_12 (by first | rfl | assumption | exact RW.s (by assumption) | exact TW.s (by assumption)) (by assumption) hv rfl ?_
    refine g_iload_n (p0 := 14) (i := 2) dL_put_13 rfl rfl rfl ?_
    first | ((with_reducible refine isN2 ?_); refine g_icmpN_le (tgt := 31) (p1 := 17) dL_put_14 rfl (by omega) (by omega) rfl (fun c_14 => by exfalso; first | omega | exact absurd hlt (Int32.not_lt.mpr c_14)) (fun c_14 => ?_)) | refine g_icmp_le (tgt := 31) (p1 := 17) dL_put_14 rfl rfl (fun c_14 => by exfalso; first | omega | exact absurd hlt (Int32.not_lt.mpr c_14)) (fun c_14 => ?_)
    refine g_aload_n (p0 := 18) (i := 1) dL_put_17 rfl rfl rfl ?_
    refine g_iload_n (p0 := 19) (i := 3) dL_put_18 rfl rfl rfl ?_
    refine g_aload_n (p0 := 20) (i := 1) dL_put_19 rfl rfl rfl ?_
    refine g_iload_n (p0 := 21) (i := 3) dL_put_20 rfl rfl rfl ?_
    refine g_iconst (p0 := 22) (v := nI 1) dL_put_21 rfl rfl ?_
    first | ((with_reducible refine isN2 ?_); refine g_isubN (p0 := 23) dL_put_22 (by omega) rfl ?_) | refine g_isub (p0 := 23) dL_put_22 rfl ?_
    first | ((with_reducible refine isN1 ?_); refine g_aldN (p0 := 24) dL_put_23 (by first | rfl | assumption | exact RW.s (by assumption) | exact TW.s (by assumption)) (by first | decide | assumption) (by omega) hv rfl ?_) | refine g_ald (p0 := 24) dL_put_23 (by first | rfl | assumption | exact RW.s (by assumption) | exact TW.s (by assumption)) (by assumption) hv rfl ?_
    first | ((with_reducible refine isNS ?_); refine g_astN (p0 := 25) dL_put_24 (by first | rfl | assumption | exact RW.s (by assumption) | exact TW.s (by assumption)) (by first | decide | assumption) (by omega) rfl ?_) | refine g_ast (p0 := 25) dL_put_24 (by first | rfl | assumption | exact RW.s (by assumption) | exact TW.s (by assumption)) (by assumption) rfl ?_
    first | refine g_iincM (p0 := 28) (ls2 := [_, _, _, _]) dL_put_25 rfl (by omega) rfl rfl ?_ | refine g_iinc (p0 := 28) (ls2 := [_, _, _, _]) dL_put_25 rfl rfl rfl rfl ?_
    refine g_goto (tgt := 4) dL_put_28 rfl ?_
    rw [e3]
    exact ih i (by omega) (by omega)
set_option maxRecDepth 20000 in
set_option maxHeartbeats 2000000 in
theorem lput_sp {s p : Nat} {x : Int32} {σ : Sg} (hs : σ 79 3 = nI s) (hs1 : s < 64) (hp : p ≤ s) (h1 : ∀ k, p ≤ k → k < s → x < σ 80 k) (h2 : 0 < p → σ 80 (p - 1) ≤ x) : CM mL_put [ar 79, ar 80, ai x] σ (RetV (up (setR σ 80 (insR (σ 80) s p x)) 79 3 (nI (s + 1)))) := by
  refine CM_in (ls := [some (ar 79), some (ar 80), some (ai x), none]) rfl ?_
  refine g_aload_n (p0 := 1) (i := 0) dL_put_0 rfl rfl rfl ?_
  refine g_iconst (p0 := 2) (v := nI 3) dL_put_1 rfl rfl ?_
  first | ((with_reducible refine isN1 ?_); refine g_aldN (p0 := 3) dL_put_2 (by first | rfl | assumption | exact RW.s (by assumption) | exact TW.s (by assumption)) (by first | decide | assumption) (by omega) (by first | assumption | ((repeat (first | exact up_hit | refine up_nv (by decide) ?_ | refine up_mv (by first | decide | omega) ?_)) <;> first | assumption | rfl)) rfl ?_) | refine g_ald (p0 := 3) dL_put_2 (by first | rfl | assumption | exact RW.s (by assumption) | exact TW.s (by assumption)) (by assumption) (by first | assumption | ((repeat (first | exact up_hit | refine up_nv (by decide) ?_ | refine up_mv (by first | decide | omega) ?_)) <;> first | assumption | rfl)) rfl ?_
  refine g_istore_n (p0 := 4) (i := 3) (ls2 := [_, _, _, _]) dL_put_3 rfl (Nat.le_of_ble_eq_true rfl) rfl rfl ?_
  have h := lput_loop (Q := RetV (up (setR σ 80 (insR (σ 80) s p x)) 79 3 (nI (s + 1)))) hs hs1 hp h1 h2 ⟨rfl, rfl⟩ (s - p) s (by omega) (Nat.le_refl s)
  rw [shV_0, setR_id rfl] at h
  exact h
