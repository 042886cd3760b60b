/-! ORDERS: all of them on both sides -/
def FR (σ σ1 : Sg) : Prop := (∀ z, z ≠ 6 → z ≠ 8 → z ≠ 76 → σ1 z = σ z) ∧ σ1 76 1 = σ 76 1
def FG (σ σ1 : Sg) : Prop := (∀ z, z ≠ 79 → z ≠ 80 → σ1 z = σ z) ∧ (∀ q, q ≠ 23 → q ≠ 24 → σ1 79 q = σ 79 q) ∧ ∀ k, 189 ≤ k → σ1 80 k = σ 80 k
theorem FR.refl (σ : Sg) : FR σ σ := ⟨fun _ _ _ _ => rfl, rfl⟩
theorem FG.refl (σ : Sg) : FG σ σ := ⟨fun _ _ _ => rfl, fun _ _ _ => rfl, fun _ _ => rfl⟩
theorem FR.trans {σ σ1 σ2 : Sg} (h : FR σ σ1) (h2 : FR σ1 σ2) : FR σ σ2 := ⟨fun z a b c => (h2.1 z a b c).trans (h.1 z a b c), h2.2.trans h.2⟩
theorem FG.trans {σ σ1 σ2 : Sg} (h : FG σ σ1) (h2 : FG σ1 σ2) : FG σ σ2 := ⟨fun z a b => (h2.1 z a b).trans (h.1 z a b), fun q a b => (h2.2.1 q a b).trans (h.2.1 q a b), fun k a => (h2.2.2 k a).trans (h.2.2 k a)⟩
theorem F6.fr {σ σ1 : Sg} {k : Nat} {x : Int32} (h : F6 σ σ1) (hk : k ≠ 1) : FR σ (up σ1 76 k x) := ⟨fun z a b c => by rw [up_ne c]; exact h z a b, by rw [up_miss (Ne.symm hk), h 76 (by decide) (by decide)]⟩
theorem FR.up {σ σ1 : Sg} {k : Nat} {x : Int32} (h : FR σ σ1) (hk : k ≠ 1) : FR σ (up σ1 76 k x) := ⟨fun z a b c => by rw [up_ne c]; exact h.1 z a b c, by rw [up_miss (Ne.symm hk)]; exact h.2⟩
theorem FD.fg {σ σ1 : Sg} {x : Int32} (h : FD σ σ1) : FG σ (up σ1 79 24 x) := ⟨fun z a b => by rw [up_ne a]; exact h.1 z a b, fun q a b => by rw [up_miss b]; exact h.2.1 q a, fun k a => by rw [up_ne (by decide)]; exact h.2.2 k a⟩
theorem TC.of2 {σ σ1 : Sg} {T : Nat → Nat} {len : Nat} (h : TC σ T len) (e : FR σ σ1) : TC σ1 T len := ⟨e.2.trans h.1, fun i hi => by rw [e.1 78 (by decide) (by decide) (by decide)]; exact h.2 i hi⟩
theorem TR.of2 {σ σ1 : Sg} {T : Nat → Nat} {len : Nat} (h : TR σ T len) (e : FG σ σ1) : TR σ1 T len := ⟨by rw [e.2.1 5 (by decide) (by decide)]; exact h.1, fun i hi => by rw [e.1 83 (by decide) (by decide)]; exact h.2 i hi⟩
set_option maxRecDepth 20000 in
set_option maxHeartbeats 2000000 in
theorem scan_l {T : Nat → Nat} {len e : Nat} {σ : Sg} {Q : SP} (hT : TOK T len) (hC : TC σ T len) (h3 : σ 76 3 = nI 0) (he : e ≤ len) (k : WM mX5_rehearse Q 17 [some (ar 76), some (ar 1), some (ar 6), some (ai (nI e))] [] σ) : ∀ q j, j + q = e → (∀ i, j ≤ i → i < e → ¬ T i = 59) → WM mX5_rehearse Q 17 [some (ar 76), some (ar 1), some (ar 6), some (ai (nI j))] [] σ := by
  have hl := hT.1
  intro q
  induction q with
  | zero =>
    intro j hj _
    obtain rfl : j = e := by omega
    exact k
  | succ q ih =>
    intro j hj hno
    have hl1 := hC.1
    have et := hC.2 j (by omega)
    have hti := hT.2 j (by omega)
    have hn := hno j (Nat.le_refl j) (by omega)
    refine g_iload_n (p0 := 18) (i := 3) dX5_rehearse_17 rfl rfl rfl ?_
    refine g_aload_n (p0 := 19) (i := 0) dX5_rehearse_18 rfl rfl rfl ?_
    refine g_getI (p0 := 22) dX5_rehearse_19 fX5_20 (by first | rfl | assumption | exact RW.s (by assumption) | exact TW.s (by assumption)) rfl (by first | assumption | ((repeat (first | exact up_hit | refine up_nv (by decide) ?_ | refine up_mv (by first | decide | omega) ?_)) <;> first | assumption | rfl)) rfl ?_
    first | ((with_reducible refine isN2 ?_); refine g_icmpN_ge (tgt := 82) (p1 := 25) dX5_rehearse_22 rfl (by omega) (by omega) rfl (fun c_22 => by exfalso; first | omega | contradiction | exact absurd h c_22 | exact h c_22 | exact c_22 h | exact c_22 (by decide) | exact c_22 rfl | exact absurd rfl c_22) (fun c_22 => ?_)) | refine g_icmp_ge (tgt := 82) (p1 := 25) dX5_rehearse_22 rfl rfl (fun c_22 => by exfalso; first | omega | contradiction | exact absurd h c_22 | exact h c_22 | exact c_22 h | exact c_22 (by decide) | exact c_22 rfl | exact absurd rfl c_22) (fun c_22 => ?_)
    refine g_aload_n (p0 := 26) (i := 0) dX5_rehearse_25 rfl rfl rfl ?_
    refine g_getI (p0 := 29) dX5_rehearse_26 fX5_27 (by first | rfl | assumption | exact RW.s (by assumption) | exact TW.s (by assumption)) rfl (by first | assumption | ((repeat (first | exact up_hit | refine up_nv (by decide) ?_ | refine up_mv (by first | decide | omega) ?_)) <;> first | assumption | rfl)) rfl ?_
    first | ((with_reducible refine isN1 ?_); refine g_ifN_ne (tgt := 82) (p1 := 32) dX5_rehearse_29 rfl (by omega) rfl (fun c_29 => by exfalso; first | omega | contradiction | exact absurd h c_29 | exact h c_29 | exact c_29 h | exact c_29 (by decide) | exact c_29 rfl | exact absurd rfl c_29) (fun c_29 => ?_)) | refine g_if_ne (tgt := 82) (p1 := 32) dX5_rehearse_29 rfl rfl (fun c_29 => by exfalso; first | omega | contradiction | exact absurd h c_29 | exact h c_29 | exact c_29 h | exact c_29 (by decide) | exact c_29 rfl | exact absurd rfl c_29) (fun c_29 => ?_)
    refine g_aload_n (p0 := 33) (i := 0) dX5_rehearse_32 rfl rfl rfl ?_
    refine g_getR (p0 := 36) dX5_rehearse_33 fX5_14 (by first | rfl | assumption | exact RW.s (by assumption) | exact TW.s (by assumption)) rfl rfl ?_
    refine g_iload_n (p0 := 37) (i := 3) dX5_rehearse_36 rfl rfl rfl ?_
    refine g_cV1R (p0 := 40) (r1 := mX7_at) dX5_rehearse_37 lX5_40 vX7_at (by first | rfl | assumption | exact RW.s (by assumption) | exact TW.s (by assumption)) ⟨_, _, rfl⟩ (FITi rfl rfl) (Nat.le_of_ble_eq_true rfl) (at_N ⟨rfl, rfl, by decide⟩ (by omega) et) rfl ?_
    refine g_bipush (p0 := 42) (v := nI 59) dX5_rehearse_40 (by decide) rfl ?_
    first | ((with_reducible refine isN2 ?_); refine g_icmpN_ne (tgt := 76) (p1 := 45) dX5_rehearse_42 rfl (by omega) (by omega) rfl (fun c_42 => ?_) (fun c_42 => by exfalso; first | omega | contradiction | exact absurd h c_42 | exact h c_42 | exact c_42 h | exact c_42 (by decide) | exact c_42 rfl | exact absurd rfl c_42)) | refine g_icmp_ne (tgt := 76) (p1 := 45) dX5_rehearse_42 rfl rfl (fun c_42 => ?_) (fun c_42 => by exfalso; first | omega | contradiction | exact absurd h c_42 | exact h c_42 | exact c_42 h | exact c_42 (by decide) | exact c_42 rfl | exact absurd rfl c_42)
    first | refine g_iinc1 (p0 := 79) (ls2 := [_, _, _, _]) dX5_rehearse_76 rfl rfl rfl ?_ | refine g_iinc (p0 := 79) (ls2 := [_, _, _, _]) dX5_rehearse_76 rfl rfl rfl rfl ?_
    refine g_goto (tgt := 17) dX5_rehearse_79 rfl ?_
    exact ih (j + 1) (by omega) (fun i a b => hno i (by omega) b)
set_option maxRecDepth 20000 in
set_option maxHeartbeats 2000000 in
theorem reh_end {len p : Nat} {σ : Sg} {Q : SP} (h1 : σ 76 1 = nI len) (h2 : σ 76 2 = nI p) (h3 : σ 76 3 = nI 0) (hl : len ≤ 60) (hp : p = len) (k : Q none σ) : WM mX5_rehearse Q 17 [some (ar 76), some (ar 1), some (ar 6), some (ai (nI len))] [] σ := by
  refine g_iload_n (p0 := 18) (i := 3) dX5_rehearse_17 rfl rfl rfl ?_
  refine g_aload_n (p0 := 19) (i := 0) dX5_rehearse_18 rfl rfl rfl ?_
  refine g_getI (p0 := 22) dX5_rehearse_19 fX5_20 (by first | rfl | assumption | exact RW.s (by assumption) | exact TW.s (by assumption)) rfl (by first | assumption | ((repeat (first | exact up_hit | refine up_nv (by decide) ?_ | refine up_mv (by first | decide | omega) ?_)) <;> first | assumption | rfl)) rfl ?_
  first | ((with_reducible refine isN2 ?_); refine g_icmpN_ge (tgt := 82) (p1 := 25) dX5_rehearse_22 rfl (by omega) (by omega) rfl (fun c_22 => ?_) (fun c_22 => by exfalso; first | omega | contradiction | exact absurd h c_22 | exact h c_22 | exact c_22 h | exact c_22 (by decide) | exact c_22 rfl | exact absurd rfl c_22)) | refine g_icmp_ge (tgt := 82) (p1 := 25) dX5_rehearse_22 rfl rfl (fun c_22 => ?_) (fun c_22 => by exfalso; first | omega | contradiction | exact absurd h c_22 | exact h c_22 | exact c_22 h | exact c_22 (by decide) | exact c_22 rfl | exact absurd rfl c_22)
  refine g_aload_n (p0 := 83) (i := 0) dX5_rehearse_82 rfl rfl rfl ?_
  refine g_getI (p0 := 86) dX5_rehearse_83 fX5_27 (by first | rfl | assumption | exact RW.s (by assumption) | exact TW.s (by assumption)) rfl (by first | assumption | ((repeat (first | exact up_hit | refine up_nv (by decide) ?_ | refine up_mv (by first | decide | omega) ?_)) <;> first | assumption | rfl)) rfl ?_
  first | ((with_reducible refine isN1 ?_); refine g_ifN_ne (tgt := 105) (p1 := 89) dX5_rehearse_86 rfl (by omega) rfl (fun c_86 => by exfalso; first | omega | contradiction | exact absurd h c_86 | exact h c_86 | exact c_86 h | exact c_86 (by decide) | exact c_86 rfl | exact absurd rfl c_86) (fun c_86 => ?_)) | refine g_if_ne (tgt := 105) (p1 := 89) dX5_rehearse_86 rfl rfl (fun c_86 => by exfalso; first | omega | contradiction | exact absurd h c_86 | exact h c_86 | exact c_86 h | exact c_86 (by decide) | exact c_86 rfl | exact absurd rfl c_86) (fun c_86 => ?_)
  refine g_aload_n (p0 := 90) (i := 0) dX5_rehearse_89 rfl rfl rfl ?_
  refine g_getI (p0 := 93) dX5_rehearse_90 fX5_24 (by first | rfl | assumption | exact RW.s (by assumption) | exact TW.s (by assumption)) rfl (by first | assumption | ((repeat (first | exact up_hit | refine up_nv (by decide) ?_ | refine up_mv (by first | decide | omega) ?_)) <;> first | assumption | rfl)) rfl ?_
  refine g_aload_n (p0 := 94) (i := 0) dX5_rehearse_93 rfl rfl rfl ?_
  refine g_getI (p0 := 97) dX5_rehearse_94 fX5_20 (by first | rfl | assumption | exact RW.s (by assumption) | exact TW.s (by assumption)) rfl (by first | assumption | ((repeat (first | exact up_hit | refine up_nv (by decide) ?_ | refine up_mv (by first | decide | omega) ?_)) <;> first | assumption | rfl)) rfl ?_
  first | ((with_reducible refine isN2 ?_); refine g_icmpN_ge (tgt := 105) (p1 := 100) dX5_rehearse_97 rfl (by omega) (by omega) rfl (fun c_97 => ?_) (fun c_97 => by exfalso; first | omega | contradiction | exact absurd h c_97 | exact h c_97 | exact c_97 h | exact c_97 (by decide) | exact c_97 rfl | exact absurd rfl c_97)) | refine g_icmp_ge (tgt := 105) (p1 := 100) dX5_rehearse_97 rfl rfl (fun c_97 => ?_) (fun c_97 => by exfalso; first | omega | contradiction | exact absurd h c_97 | exact h c_97 | exact c_97 h | exact c_97 (by decide) | exact c_97 rfl | exact absurd rfl c_97)
  refine g_return dX5_rehearse_105 rfl ?_
  exact k
set_option maxRecDepth 20000 in
set_option maxHeartbeats 2000000 in
theorem reh_no {len p : Nat} {σ : Sg} {Q : SP} (h1 : σ 76 1 = nI len) (h2 : σ 76 2 = nI p) (h3 : σ 76 3 = nI 0) (hl : len ≤ 60) (hp : p < len) (k : Q none (up σ 76 3 (nI 1))) : WM mX5_rehearse Q 17 [some (ar 76), some (ar 1), some (ar 6), some (ai (nI len))] [] σ := by
  refine g_iload_n (p0 := 18) (i := 3) dX5_rehearse_17 rfl rfl rfl ?_
  refine g_aload_n (p0 := 19) (i := 0) dX5_rehearse_18 rfl rfl rfl ?_
  refine g_getI (p0 := 22) dX5_rehearse_19 fX5_20 (by first | rfl | assumption | exact RW.s (by assumption) | exact TW.s (by assumption)) rfl (by first | assumption | ((repeat (first | exact up_hit | refine up_nv (by decide) ?_ | refine up_mv (by first | decide | omega) ?_)) <;> first | assumption | rfl)) rfl ?_
  first | ((with_reducible refine isN2 ?_); refine g_icmpN_ge (tgt := 82) (p1 := 25) dX5_rehearse_22 rfl (by omega) (by omega) rfl (fun c_22 => ?_) (fun c_22 => by exfalso; first | omega | contradiction | exact absurd h c_22 | exact h c_22 | exact c_22 h | exact c_22 (by decide) | exact c_22 rfl | exact absurd rfl c_22)) | refine g_icmp_ge (tgt := 82) (p1 := 25) dX5_rehearse_22 rfl rfl (fun c_22 => ?_) (fun c_22 => by exfalso; first | omega | contradiction | exact absurd h c_22 | exact h c_22 | exact c_22 h | exact c_22 (by decide) | exact c_22 rfl | exact absurd rfl c_22)
  refine g_aload_n (p0 := 83) (i := 0) dX5_rehearse_82 rfl rfl rfl ?_
  refine g_getI (p0 := 86) dX5_rehearse_83 fX5_27 (by first | rfl | assumption | exact RW.s (by assumption) | exact TW.s (by assumption)) rfl (by first | assumption | ((repeat (first | exact up_hit | refine up_nv (by decide) ?_ | refine up_mv (by first | decide | omega) ?_)) <;> first | assumption | rfl)) rfl ?_
  first | ((with_reducible refine isN1 ?_); refine g_ifN_ne (tgt := 105) (p1 := 89) dX5_rehearse_86 rfl (by omega) rfl (fun c_86 => by exfalso; first | omega | contradiction | exact absurd h c_86 | exact h c_86 | exact c_86 h | exact c_86 (by decide) | exact c_86 rfl | exact absurd rfl c_86) (fun c_86 => ?_)) | refine g_if_ne (tgt := 105) (p1 := 89) dX5_rehearse_86 rfl rfl (fun c_86 => by exfalso; first | omega | contradiction | exact absurd h c_86 | exact h c_86 | exact c_86 h | exact c_86 (by decide) | exact c_86 rfl | exact absurd rfl c_86) (fun c_86 => ?_)
  refine g_aload_n (p0 := 90) (i := 0) dX5_rehearse_89 rfl rfl rfl ?_
  refine g_getI (p0 := 93) dX5_rehearse_90 fX5_24 (by first | rfl | assumption | exact RW.s (by assumption) | exact TW.s (by assumption)) rfl (by first | assumption | ((repeat (first | exact up_hit | refine up_nv (by decide) ?_ | refine up_mv (by first | decide | omega) ?_)) <;> first | assumption | rfl)) rfl ?_
  refine g_aload_n (p0 := 94) (i := 0) dX5_rehearse_93 rfl rfl rfl ?_
  refine g_getI (p0 := 97) dX5_rehearse_94 fX5_20 (by first | rfl | assumption | exact RW.s (by assumption) | exact TW.s (by assumption)) rfl (by first | assumption | ((repeat (first | exact up_hit | refine up_nv (by decide) ?_ | refine up_mv (by first | decide | omega) ?_)) <;> first | assumption | rfl)) rfl ?_
  first | ((with_reducible refine isN2 ?_); refine g_icmpN_ge (tgt := 105) (p1 := 100) dX5_rehearse_97 rfl (by omega) (by omega) rfl (fun c_97 => by exfalso; first | omega | contradiction | exact absurd h c_97 | exact h c_97 | exact c_97 h | exact c_97 (by decide) | exact c_97 rfl | exact absurd rfl c_97) (fun c_97 => ?_)) | refine g_icmp_ge (tgt := 105) (p1 := 100) dX5_rehearse_97 rfl rfl (fun c_97 => by exfalso; first | omega | contradiction | exact absurd h c_97 | exact h c_97 | exact c_97 h | exact c_97 (by decide) | exact c_97 rfl | exact absurd rfl c_97) (fun c_97 => ?_)
  refine g_aload_n (p0 := 101) (i := 0) dX5_rehearse_100 rfl rfl rfl ?_
  refine g_iconst (p0 := 102) (v := nI 1) dX5_rehearse_101 rfl rfl ?_
  refine g_put (p0 := 105) dX5_rehearse_102 fX5_27 (by first | rfl | assumption | exact RW.s (by assumption) | exact TW.s (by assumption)) rfl nX5_3 (pX5_3 _) rfl ?_
  refine g_return dX5_rehearse_105 rfl ?_
  exact k
set_option maxRecDepth 20000 in
set_option maxHeartbeats 2000000 in
theorem reh_bad {len r i : Nat} {σ : Sg} {Q : SP} (h1 : σ 76 1 = nI len) (h3 : σ 76 3 = nI r) (hr : r ≤ 3) (hr0 : ¬ r = 0) (hl : len ≤ 60) (hi : i ≤ 100) (k : Q none σ) : WM mX5_rehearse Q 17 [some (ar 76), some (ar 1), some (ar 6), some (ai (nI i))] [] σ := by
  by_cases h : len ≤ i
  · refine g_iload_n (p0 := 18) (i := 3) dX5_rehearse_17 rfl rfl rfl ?_
    refine g_aload_n (p0 := 19) (i := 0) dX5_rehearse_18 rfl rfl rfl ?_
    refine g_getI (p0 := 22) dX5_rehearse_19 fX5_20 (by first | rfl | assumption | exact RW.s (by assumption) | exact TW.s (by assumption)) rfl (by first | assumption | ((repeat (first | exact up_hit | refine up_nv (by decide) ?_ | refine up_mv (by first | decide | omega) ?_)) <;> first | assumption | rfl)) rfl ?_
    first | ((with_reducible refine isN2 ?_); refine g_icmpN_ge (tgt := 82) (p1 := 25) dX5_rehearse_22 rfl (by omega) (by omega) rfl (fun c_22 => ?_) (fun c_22 => by exfalso; first | omega | contradiction | exact absurd h c_22 | exact h c_22 | exact c_22 h | exact c_22 (by decide) | exact c_22 rfl | exact absurd rfl c_22)) | refine g_icmp_ge (tgt := 82) (p1 := 25) dX5_rehearse_22 rfl rfl (fun c_22 => ?_) (fun c_22 => by exfalso; first | omega | contradiction | exact absurd h c_22 | exact h c_22 | exact c_22 h | exact c_22 (by decide) | exact c_22 rfl | exact absurd rfl c_22)
    refine g_aload_n (p0 := 83) (i := 0) dX5_rehearse_82 rfl rfl rfl ?_
    refine g_getI (p0 := 86) dX5_rehearse_83 fX5_27 (by first | rfl | assumption | exact RW.s (by assumption) | exact TW.s (by assumption)) rfl (by first | assumption | ((repeat (first | exact up_hit | refine up_nv (by decide) ?_ | refine up_mv (by first | decide | omega) ?_)) <;> first | assumption | rfl)) rfl ?_
    first | ((with_reducible refine isN1 ?_); refine g_ifN_ne (tgt := 105) (p1 := 89) dX5_rehearse_86 rfl (by omega) rfl (fun c_86 => ?_) (fun c_86 => by exfalso; first | omega | contradiction | exact absurd h c_86 | exact h c_86 | exact c_86 h | exact c_86 (by decide) | exact c_86 rfl | exact absurd rfl c_86)) | refine g_if_ne (tgt := 105) (p1 := 89) dX5_rehearse_86 rfl rfl (fun c_86 => ?_) (fun c_86 => by exfalso; first | omega | contradiction | exact absurd h c_86 | exact h c_86 | exact c_86 h | exact c_86 (by decide) | exact c_86 rfl | exact absurd rfl c_86)
    refine g_return dX5_rehearse_105 rfl ?_
    exact k
  · refine g_iload_n (p0 := 18) (i := 3) dX5_rehearse_17 rfl rfl rfl ?_
    refine g_aload_n (p0 := 19) (i := 0) dX5_rehearse_18 rfl rfl rfl ?_
    refine g_getI (p0 := 22) dX5_rehearse_19 fX5_20 (by first | rfl | assumption | exact RW.s (by assumption) | exact TW.s (by assumption)) rfl (by first | assumption | ((repeat (first | exact up_hit | refine up_nv (by decide) ?_ | refine up_mv (by first | decide | omega) ?_)) <;> first | assumption | rfl)) rfl ?_
    first | ((with_reducible refine isN2 ?_); refine g_icmpN_ge (tgt := 82) (p1 := 25) dX5_rehearse_22 rfl (by omega) (by omega) rfl (fun c_22 => by exfalso; first | omega | contradiction | exact absurd h c_22 | exact h c_22 | exact c_22 h | exact c_22 (by decide) | exact c_22 rfl | exact absurd rfl c_22) (fun c_22 => ?_)) | refine g_icmp_ge (tgt := 82) (p1 := 25) dX5_rehearse_22 rfl rfl (fun c_22 => by exfalso; first | omega | contradiction | exact absurd h c_22 | exact h c_22 | exact c_22 h | exact c_22 (by decide) | exact c_22 rfl | exact absurd rfl c_22) (fun c_22 => ?_)
    refine g_aload_n (p0 := 26) (i := 0) dX5_rehearse_25 rfl rfl rfl ?_
    refine g_getI (p0 := 29) dX5_rehearse_26 fX5_27 (by first | rfl | assumption | exact RW.s (by assumption) | exact TW.s (by assumption)) rfl (by first | assumption | ((repeat (first | exact up_hit | refine up_nv (by decide) ?_ | refine up_mv (by first | decide | omega) ?_)) <;> first | assumption | rfl)) rfl ?_
    first | ((with_reducible refine isN1 ?_); refine g_ifN_ne (tgt := 82) (p1 := 32) dX5_rehearse_29 rfl (by omega) rfl (fun c_29 => ?_) (fun c_29 => by exfalso; first | omega | contradiction | exact absurd h c_29 | exact h c_29 | exact c_29 h | exact c_29 (by decide) | exact c_29 rfl | exact absurd rfl c_29)) | refine g_if_ne (tgt := 82) (p1 := 32) dX5_rehearse_29 rfl rfl (fun c_29 => ?_) (fun c_29 => by exfalso; first | omega | contradiction | exact absurd h c_29 | exact h c_29 | exact c_29 h | exact c_29 (by decide) | exact c_29 rfl | exact absurd rfl c_29)
    refine g_aload_n (p0 := 83) (i := 0) dX5_rehearse_82 rfl rfl rfl ?_
    refine g_getI (p0 := 86) dX5_rehearse_83 fX5_27 (by first | rfl | assumption | exact RW.s (by assumption) | exact TW.s (by assumption)) rfl (by first | assumption | ((repeat (first | exact up_hit | refine up_nv (by decide) ?_ | refine up_mv (by first | decide | omega) ?_)) <;> first | assumption | rfl)) rfl ?_
    first | ((with_reducible refine isN1 ?_); refine g_ifN_ne (tgt := 105) (p1 := 89) dX5_rehearse_86 rfl (by omega) rfl (fun c_86 => ?_) (fun c_86 => by exfalso; first | omega | contradiction | exact absurd h c_86 | exact h c_86 | exact c_86 h | exact c_86 (by decide) | exact c_86 rfl | exact absurd rfl c_86)) | refine g_if_ne (tgt := 105) (p1 := 89) dX5_rehearse_86 rfl rfl (fun c_86 => ?_) (fun c_86 => by exfalso; first | omega | contradiction | exact absurd h c_86 | exact h c_86 | exact c_86 h | exact c_86 (by decide) | exact c_86 rfl | exact absurd rfl c_86)
    refine g_return dX5_rehearse_105 rfl ?_
    exact k
set_option maxRecDepth 20000 in
set_option maxHeartbeats 2000000 in
theorem reh_ok {T : Nat → Nat} {len p e r s' : Nat} {ρ' : Nat → Int32} {σ : Sg} {Q : SP} (hT : TOK T len) (hC : TC σ T len) (h3 : σ 76 3 = nI 0) (h2 : σ 76 2 = nI p) (he : e < len) (h59 : T e = 59) (hr : r ≤ 3) (h : CM mX5_performOne [ar 76, ar 6, ai (nI e)] σ (RelI (fun u σ1 => u = nI r ∧ F6 σ σ1 ∧ (r = 0 → Rep σ1 6 ρ' s')))) (hr0 : r = 0) (k : ∀ σ1, FR σ σ1 → σ1 76 2 = nI (e + 1) → σ1 76 3 = nI 0 → Rep σ1 6 ρ' s' → WM mX5_rehearse Q 17 [some (ar 76), some (ar 1), some (ar 6), some (ai (nI (e + 1)))] [] σ1) : WM mX5_rehearse Q 17 [some (ar 76), some (ar 1), some (ar 6), some (ai (nI e))] [] σ := by
  have hl := hT.1
  have hl1 := hC.1
  have et : σ 78 e = nI 59 := by rw [hC.2 e he, h59]
  subst hr0
  refine g_iload_n (p0 := 18) (i := 3) dX5_rehearse_17 rfl rfl rfl ?_
  refine g_aload_n (p0 := 19) (i := 0) dX5_rehearse_18 rfl rfl rfl ?_
  refine g_getI (p0 := 22) dX5_rehearse_19 fX5_20 (by first | rfl | assumption | exact RW.s (by assumption) | exact TW.s (by assumption)) rfl (by first | assumption | ((repeat (first | exact up_hit | refine up_nv (by decide) ?_ | refine up_mv (by first | decide | omega) ?_)) <;> first | assumption | rfl)) rfl ?_
  first | ((with_reducible refine isN2 ?_); refine g_icmpN_ge (tgt := 82) (p1 := 25) dX5_rehearse_22 rfl (by omega) (by omega) rfl (fun c_22 => by exfalso; first | omega | contradiction | exact absurd h c_22 | exact h c_22 | exact c_22 h | exact c_22 (by decide) | exact c_22 rfl | exact absurd rfl c_22) (fun c_22 => ?_)) | refine g_icmp_ge (tgt := 82) (p1 := 25) dX5_rehearse_22 rfl rfl (fun c_22 => by exfalso; first | omega | contradiction | exact absurd h c_22 | exact h c_22 | exact c_22 h | exact c_22 (by decide) | exact c_22 rfl | exact absurd rfl c_22) (fun c_22 => ?_)
  refine g_aload_n (p0 := 26) (i := 0) dX5_rehearse_25 rfl rfl rfl ?_
  refine g_getI (p0 := 29) dX5_rehearse_26 fX5_27 (by first | rfl | assumption | exact RW.s (by assumption) | exact TW.s (by assumption)) rfl (by first | assumption | ((repeat (first | exact up_hit | refine up_nv (by decide) ?_ | refine up_mv (by first | decide | omega) ?_)) <;> first | assumption | rfl)) rfl ?_
  first | ((with_reducible refine isN1 ?_); refine g_ifN_ne (tgt := 82) (p1 := 32) dX5_rehearse_29 rfl (by omega) rfl (fun c_29 => by exfalso; first | omega | contradiction | exact absurd h c_29 | exact h c_29 | exact c_29 h | exact c_29 (by decide) | exact c_29 rfl | exact absurd rfl c_29) (fun c_29 => ?_)) | refine g_if_ne (tgt := 82) (p1 := 32) dX5_rehearse_29 rfl rfl (fun c_29 => by exfalso; first | omega | contradiction | exact absurd h c_29 | exact h c_29 | exact c_29 h | exact c_29 (by decide) | exact c_29 rfl | exact absurd rfl c_29) (fun c_29 => ?_)
  refine g_aload_n (p0 := 33) (i := 0) dX5_rehearse_32 rfl rfl rfl ?_
  refine g_getR (p0 := 36) dX5_rehearse_33 fX5_14 (by first | rfl | assumption | exact RW.s (by assumption) | exact TW.s (by assumption)) rfl rfl ?_
  refine g_iload_n (p0 := 37) (i := 3) dX5_rehearse_36 rfl rfl rfl ?_
  refine g_cV1R (p0 := 40) (r1 := mX7_at) dX5_rehearse_37 lX5_40 vX7_at (by first | rfl | assumption | exact RW.s (by assumption) | exact TW.s (by assumption)) ⟨_, _, rfl⟩ (FITi rfl rfl) (Nat.le_of_ble_eq_true rfl) (at_N ⟨rfl, rfl, by decide⟩ (by omega) et) rfl ?_
  refine g_bipush (p0 := 42) (v := nI 59) dX5_rehearse_40 (by decide) rfl ?_
  first | ((with_reducible refine isN2 ?_); refine g_icmpN_ne (tgt := 76) (p1 := 45) dX5_rehearse_42 rfl (by omega) (by omega) rfl (fun c_42 => by exfalso; first | omega | contradiction | exact absurd h c_42 | exact h c_42 | exact c_42 h | exact c_42 (by decide) | exact c_42 rfl | exact absurd rfl c_42) (fun c_42 => ?_)) | refine g_icmp_ne (tgt := 76) (p1 := 45) dX5_rehearse_42 rfl rfl (fun c_42 => by exfalso; first | omega | contradiction | exact absurd h c_42 | exact h c_42 | exact c_42 h | exact c_42 (by decide) | exact c_42 rfl | exact absurd rfl c_42) (fun c_42 => ?_)
  refine g_aload_n (p0 := 46) (i := 0) dX5_rehearse_45 rfl rfl rfl ?_
  refine g_aload_n (p0 := 47) (i := 0) dX5_rehearse_46 rfl rfl rfl ?_
  refine g_aload_n (p0 := 48) (i := 2) dX5_rehearse_47 rfl rfl rfl ?_
  refine g_iload_n (p0 := 49) (i := 3) dX5_rehearse_48 rfl rfl rfl ?_
  refine g_cV2I (p0 := 52) (r1 := mX5_performOne) dX5_rehearse_49 lX5_44 vX5_performOne (by first | rfl | assumption | exact RW.s (by assumption) | exact TW.s (by assumption)) ⟨_, _, rfl⟩ (FITi rfl rfl) (Nat.le_of_ble_eq_true rfl) (h) rfl ?_
  rintro u σ1 ⟨rfl, hf, hrep⟩
  refine g_put (p0 := 55) dX5_rehearse_52 fX5_27 (by first | rfl | assumption | exact RW.s (by assumption) | exact TW.s (by assumption)) rfl nX5_3 (pX5_3 _) rfl ?_
  refine g_aload_n (p0 := 56) (i := 0) dX5_rehearse_55 rfl rfl rfl ?_
  refine g_aload_n (p0 := 57) (i := 0) dX5_rehearse_56 rfl rfl rfl ?_
  refine g_getI (p0 := 60) dX5_rehearse_57 fX5_27 (by first | rfl | assumption | exact RW.s (by assumption) | exact TW.s (by assumption)) rfl (by first | assumption | ((repeat (first | exact up_hit | refine up_nv (by decide) ?_ | refine up_mv (by first | decide | omega) ?_)) <;> first | assumption | rfl)) rfl ?_
  first | ((with_reducible refine isN1 ?_); refine g_ifN_ne (tgt := 69) (p1 := 63) dX5_rehearse_60 rfl (by omega) rfl (fun c_60 => by exfalso; first | omega | contradiction | exact absurd h c_60 | exact h c_60 | exact c_60 h | exact c_60 (by decide) | exact c_60 rfl | exact absurd rfl c_60) (fun c_60 => ?_)) | refine g_if_ne (tgt := 69) (p1 := 63) dX5_rehearse_60 rfl rfl (fun c_60 => by exfalso; first | omega | contradiction | exact absurd h c_60 | exact h c_60 | exact c_60 h | exact c_60 (by decide) | exact c_60 rfl | exact absurd rfl c_60) (fun c_60 => ?_)
  refine g_iload_n (p0 := 64) (i := 3) dX5_rehearse_63 rfl rfl rfl ?_
  refine g_iconst (p0 := 65) (v := nI 1) dX5_rehearse_64 rfl rfl ?_
  first | ((with_reducible refine isN2 ?_); refine g_iaddN (p0 := 66) dX5_rehearse_65 rfl ?_) | refine g_iadd (p0 := 66) dX5_rehearse_65 rfl ?_
  refine g_goto (tgt := 73) dX5_rehearse_66 rfl ?_
  refine g_put (p0 := 76) dX5_rehearse_73 fX5_24 (by first | rfl | assumption | exact RW.s (by assumption) | exact TW.s (by assumption)) rfl nX5_2 (pX5_2 _) rfl ?_
  first | refine g_iinc1 (p0 := 79) (ls2 := [_, _, _, _]) dX5_rehearse_76 rfl rfl rfl ?_ | refine g_iinc (p0 := 79) (ls2 := [_, _, _, _]) dX5_rehearse_76 rfl rfl rfl rfl ?_
  refine g_goto (tgt := 17) dX5_rehearse_79 rfl ?_
  exact k _ ((hf.fr (by decide)).up (by decide)) up_hit (by rw [up_miss (by decide), up_hit]) ((hrep rfl).of6 (by rw [up_ne (by decide), up_ne (by decide)]) (by rw [up_ne (by decide), up_ne (by decide)]) (by rw [up_ne (by decide), up_ne (by decide)]))
set_option maxRecDepth 20000 in
set_option maxHeartbeats 2000000 in
theorem reh_f {T : Nat → Nat} {len p e r s' : Nat} {ρ' : Nat → Int32} {σ : Sg} {Q : SP} (hT : TOK T len) (hC : TC σ T len) (h3 : σ 76 3 = nI 0) (h2 : σ 76 2 = nI p) (he : e < len) (h59 : T e = 59) (hr : r ≤ 3) (h : CM mX5_performOne [ar 76, ar 6, ai (nI e)] σ (RelI (fun u σ1 => u = nI r ∧ F6 σ σ1 ∧ (r = 0 → Rep σ1 6 ρ' s')))) (hr0 : ¬ r = 0) (k : ∀ σ1, FR σ σ1 → σ1 76 2 = nI p → σ1 76 3 = nI r → Q none σ1) : WM mX5_rehearse Q 17 [some (ar 76), some (ar 1), some (ar 6), some (ai (nI e))] [] σ := by
  have hl := hT.1
  have hl1 := hC.1
  have et : σ 78 e = nI 59 := by rw [hC.2 e he, h59]
  refine g_iload_n (p0 := 18) (i := 3) dX5_rehearse_17 rfl rfl rfl ?_
  refine g_aload_n (p0 := 19) (i := 0) dX5_rehearse_18 rfl rfl rfl ?_
  refine g_getI (p0 := 22) dX5_rehearse_19 fX5_20 (by first | rfl | assumption | exact RW.s (by assumption) | exact TW.s (by assumption)) rfl (by first | assumption | ((repeat (first | exact up_hit | refine up_nv (by decide) ?_ | refine up_mv (by first | decide | omega) ?_)) <;> first | assumption | rfl)) rfl ?_
  first | ((with_reducible refine isN2 ?_); refine g_icmpN_ge (tgt := 82) (p1 := 25) dX5_rehearse_22 rfl (by omega) (by omega) rfl (fun c_22 => by exfalso; first | omega | contradiction | exact absurd h c_22 | exact h c_22 | exact c_22 h | exact c_22 (by decide) | exact c_22 rfl | exact absurd rfl c_22) (fun c_22 => ?_)) | refine g_icmp_ge (tgt := 82) (p1 := 25) dX5_rehearse_22 rfl rfl (fun c_22 => by exfalso; first | omega | contradiction | exact absurd h c_22 | exact h c_22 | exact c_22 h | exact c_22 (by decide) | exact c_22 rfl | exact absurd rfl c_22) (fun c_22 => ?_)
  refine g_aload_n (p0 := 26) (i := 0) dX5_rehearse_25 rfl rfl rfl ?_
  refine g_getI (p0 := 29) dX5_rehearse_26 fX5_27 (by first | rfl | assumption | exact RW.s (by assumption) | exact TW.s (by assumption)) rfl (by first | assumption | ((repeat (first | exact up_hit | refine up_nv (by decide) ?_ | refine up_mv (by first | decide | omega) ?_)) <;> first | assumption | rfl)) rfl ?_
  first | ((with_reducible refine isN1 ?_); refine g_ifN_ne (tgt := 82) (p1 := 32) dX5_rehearse_29 rfl (by omega) rfl (fun c_29 => by exfalso; first | omega | contradiction | exact absurd h c_29 | exact h c_29 | exact c_29 h | exact c_29 (by decide) | exact c_29 rfl | exact absurd rfl c_29) (fun c_29 => ?_)) | refine g_if_ne (tgt := 82) (p1 := 32) dX5_rehearse_29 rfl rfl (fun c_29 => by exfalso; first | omega | contradiction | exact absurd h c_29 | exact h c_29 | exact c_29 h | exact c_29 (by decide) | exact c_29 rfl | exact absurd rfl c_29) (fun c_29 => ?_)
  refine g_aload_n (p0 := 33) (i := 0) dX5_rehearse_32 rfl rfl rfl ?_
  refine g_getR (p0 := 36) dX5_rehearse_33 fX5_14 (by first | rfl | assumption | exact RW.s (by assumption) | exact TW.s (by assumption)) rfl rfl ?_
  refine g_iload_n (p0 := 37) (i := 3) dX5_rehearse_36 rfl rfl rfl ?_
  refine g_cV1R (p0 := 40) (r1 := mX7_at) dX5_rehearse_37 lX5_40 vX7_at (by first | rfl | assumption | exact RW.s (by assumption) | exact TW.s (by assumption)) ⟨_, _, rfl⟩ (FITi rfl rfl) (Nat.le_of_ble_eq_true rfl) (at_N ⟨rfl, rfl, by decide⟩ (by omega) et) rfl ?_
  refine g_bipush (p0 := 42) (v := nI 59) dX5_rehearse_40 (by decide) rfl ?_
  first | ((with_reducible refine isN2 ?_); refine g_icmpN_ne (tgt := 76) (p1 := 45) dX5_rehearse_42 rfl (by omega) (by omega) rfl (fun c_42 => by exfalso; first | omega | contradiction | exact absurd h c_42 | exact h c_42 | exact c_42 h | exact c_42 (by decide) | exact c_42 rfl | exact absurd rfl c_42) (fun c_42 => ?_)) | refine g_icmp_ne (tgt := 76) (p1 := 45) dX5_rehearse_42 rfl rfl (fun c_42 => by exfalso; first | omega | contradiction | exact absurd h c_42 | exact h c_42 | exact c_42 h | exact c_42 (by decide) | exact c_42 rfl | exact absurd rfl c_42) (fun c_42 => ?_)
  refine g_aload_n (p0 := 46) (i := 0) dX5_rehearse_45 rfl rfl rfl ?_
  refine g_aload_n (p0 := 47) (i := 0) dX5_rehearse_46 rfl rfl rfl ?_
  refine g_aload_n (p0 := 48) (i := 2) dX5_rehearse_47 rfl rfl rfl ?_
  refine g_iload_n (p0 := 49) (i := 3) dX5_rehearse_48 rfl rfl rfl ?_
  refine g_cV2I (p0 := 52) (r1 := mX5_performOne) dX5_rehearse_49 lX5_44 vX5_performOne (by first | rfl | assumption | exact RW.s (by assumption) | exact TW.s (by assumption)) ⟨_, _, rfl⟩ (FITi rfl rfl) (Nat.le_of_ble_eq_true rfl) (h) rfl ?_
  rintro u σ1 ⟨rfl, hf, hrep⟩
  have hst : σ1 76 2 = nI p := by rw [hf 76 (by decide) (by decide)]; exact h2
  refine g_put (p0 := 55) dX5_rehearse_52 fX5_27 (by first | rfl | assumption | exact RW.s (by assumption) | exact TW.s (by assumption)) rfl nX5_3 (pX5_3 _) rfl ?_
  refine g_aload_n (p0 := 56) (i := 0) dX5_rehearse_55 rfl rfl rfl ?_
  refine g_aload_n (p0 := 57) (i := 0) dX5_rehearse_56 rfl rfl rfl ?_
  refine g_getI (p0 := 60) dX5_rehearse_57 fX5_27 (by first | rfl | assumption | exact RW.s (by assumption) | exact TW.s (by assumption)) rfl (by first | assumption | ((repeat (first | exact up_hit | refine up_nv (by decide) ?_ | refine up_mv (by first | decide | omega) ?_)) <;> first | assumption | rfl)) rfl ?_
  first | ((with_reducible refine isN1 ?_); refine g_ifN_ne (tgt := 69) (p1 := 63) dX5_rehearse_60 rfl (by omega) rfl (fun c_60 => ?_) (fun c_60 => by exfalso; first | omega | contradiction | exact absurd h c_60 | exact h c_60 | exact c_60 h | exact c_60 (by decide) | exact c_60 rfl | exact absurd rfl c_60)) | refine g_if_ne (tgt := 69) (p1 := 63) dX5_rehearse_60 rfl rfl (fun c_60 => ?_) (fun c_60 => by exfalso; first | omega | contradiction | exact absurd h c_60 | exact h c_60 | exact c_60 h | exact c_60 (by decide) | exact c_60 rfl | exact absurd rfl c_60)
  refine g_aload_n (p0 := 70) (i := 0) dX5_rehearse_69 rfl rfl rfl ?_
  refine g_getI (p0 := 73) dX5_rehearse_70 fX5_24 (by first | rfl | assumption | exact RW.s (by assumption) | exact TW.s (by assumption)) rfl (by first | assumption | ((repeat (first | exact up_hit | refine up_nv (by decide) ?_ | refine up_mv (by first | decide | omega) ?_)) <;> first | assumption | rfl)) rfl ?_
  refine g_put (p0 := 76) dX5_rehearse_73 fX5_24 (by first | rfl | assumption | exact RW.s (by assumption) | exact TW.s (by assumption)) rfl nX5_2 (pX5_2 _) rfl ?_
  first | refine g_iinc1 (p0 := 79) (ls2 := [_, _, _, _]) dX5_rehearse_76 rfl rfl rfl ?_ | refine g_iinc (p0 := 79) (ls2 := [_, _, _, _]) dX5_rehearse_76 rfl rfl rfl rfl ?_
  refine g_goto (tgt := 17) dX5_rehearse_79 rfl ?_
  have hfr := (hf.fr (k := 3) (x := nI r) (by decide)).up (k := 2) (x := nI p) (by decide)
  exact reh_bad (r := r) (by rw [hfr.2]; exact hl1) (by rw [up_miss (by decide), up_hit]) hr hr0 hl (by omega) (k _ hfr up_hit (by rw [up_miss (by decide), up_hit]))
set_option maxRecDepth 20000 in
set_option maxHeartbeats 2000000 in
theorem goes_46 {r st : Nat} {σ : Sg} {Q : SP} (h24 : σ 79 24 = nI r) (hr : r ≤ 3) (hr0 : ¬ r = 0) (k : Q (some (ai (nI st))) σ) : WM mX10_goes Q 46 [some (ar 79), some (ai (nI st))] [] σ := by
  refine g_aload_n (p0 := 47) (i := 0) dX10_goes_46 rfl rfl rfl ?_
  refine g_getI (p0 := 50) dX10_goes_47 fX10_202 (by first | rfl | assumption | exact RW.s (by assumption) | exact TW.s (by assumption)) rfl (by first | assumption | ((repeat (first | exact up_hit | refine up_nv (by decide) ?_ | refine up_mv (by first | decide | omega) ?_)) <;> first | assumption | rfl)) rfl ?_
  first | ((with_reducible refine isN1 ?_); refine g_ifN_ne (tgt := 58) (p1 := 53) dX10_goes_50 rfl (by omega) rfl (fun c_50 => ?_) (fun c_50 => by exfalso; first | omega | contradiction | exact absurd h c_50 | exact h c_50 | exact c_50 h | exact c_50 (by decide) | exact c_50 rfl | exact absurd rfl c_50)) | refine g_if_ne (tgt := 58) (p1 := 53) dX10_goes_50 rfl rfl (fun c_50 => ?_) (fun c_50 => by exfalso; first | omega | contradiction | exact absurd h c_50 | exact h c_50 | exact c_50 h | exact c_50 (by decide) | exact c_50 rfl | exact absurd rfl c_50)
  refine g_iload_n (p0 := 59) (i := 1) dX10_goes_58 rfl rfl rfl ?_
  refine g_ireturn dX10_goes_59 rfl rfl (?_)
  exact k
set_option maxRecDepth 20000 in
set_option maxHeartbeats 2000000 in
theorem goes_bad {r st : Nat} {σ : Sg} {Q : SP} (h24 : σ 79 24 = nI r) (hr : r ≤ 3) (hr0 : ¬ r = 0) (k : Q (some (ai (nI st))) σ) : WM mX10_goes Q 12 [some (ar 79), some (ai (nI st))] [] σ := by
  have k46 := goes_46 (st := st) h24 hr hr0 k
  refine g_aload_n (p0 := 13) (i := 0) dX10_goes_12 rfl rfl rfl ?_
  refine g_getI (p0 := 16) dX10_goes_13 fX10_190 (by first | rfl | assumption | exact RW.s (by assumption) | exact TW.s (by assumption)) rfl (by first | assumption | ((repeat (first | exact up_hit | refine up_nv (by decide) ?_ | refine up_mv (by first | decide | omega) ?_)) <;> first | assumption | rfl)) rfl ?_
  refine g_aload_n (p0 := 17) (i := 0) dX10_goes_16 rfl rfl rfl ?_
  refine g_getI (p0 := 20) dX10_goes_17 fX10_187 (by first | rfl | assumption | exact RW.s (by assumption) | exact TW.s (by assumption)) rfl (by first | assumption | ((repeat (first | exact up_hit | refine up_nv (by decide) ?_ | refine up_mv (by first | decide | omega) ?_)) <;> first | assumption | rfl)) rfl ?_
  first | ((with_reducible refine isN2 ?_); refine g_icmpN_ge (tgt := 46) (p1 := 23) dX10_goes_20 rfl (by omega) (by omega) rfl (fun c_20 => ?_) (fun c_20 => ?_)) | refine g_icmp_ge (tgt := 46) (p1 := 23) dX10_goes_20 rfl rfl (fun c_20 => ?_) (fun c_20 => ?_)
  · exact k46
  · refine g_aload_n (p0 := 24) (i := 0) dX10_goes_23 rfl rfl rfl ?_
    refine g_getI (p0 := 27) dX10_goes_24 fX10_202 (by first | rfl | assumption | exact RW.s (by assumption) | exact TW.s (by assumption)) rfl (by first | assumption | ((repeat (first | exact up_hit | refine up_nv (by decide) ?_ | refine up_mv (by first | decide | omega) ?_)) <;> first | assumption | rfl)) rfl ?_
    first | ((with_reducible refine isN1 ?_); refine g_ifN_ne (tgt := 46) (p1 := 30) dX10_goes_27 rfl (by omega) rfl (fun c_27 => ?_) (fun c_27 => by exfalso; first | omega | contradiction | exact absurd h c_27 | exact h c_27 | exact c_27 h | exact c_27 (by decide) | exact c_27 rfl | exact absurd rfl c_27)) | refine g_if_ne (tgt := 46) (p1 := 30) dX10_goes_27 rfl rfl (fun c_27 => ?_) (fun c_27 => by exfalso; first | omega | contradiction | exact absurd h c_27 | exact h c_27 | exact c_27 h | exact c_27 (by decide) | exact c_27 rfl | exact absurd rfl c_27)
    exact k46
set_option maxRecDepth 20000 in
set_option maxHeartbeats 2000000 in
theorem goes_end {len : Nat} {y : Int32} {σ : Sg} {Q : SP} (h5 : σ 79 5 = nI len) (h23 : σ 79 23 = nI len) (h24 : σ 79 24 = nI 0) (hl : len ≤ 60) (k : Q (some (ai (-1000004))) σ) : WM mX10_goes Q 12 [some (ar 79), some (ai y)] [] σ := by
  refine g_aload_n (p0 := 13) (i := 0) dX10_goes_12 rfl rfl rfl ?_
  refine g_getI (p0 := 16) dX10_goes_13 fX10_190 (by first | rfl | assumption | exact RW.s (by assumption) | exact TW.s (by assumption)) rfl (by first | assumption | ((repeat (first | exact up_hit | refine up_nv (by decide) ?_ | refine up_mv (by first | decide | omega) ?_)) <;> first | assumption | rfl)) rfl ?_
  refine g_aload_n (p0 := 17) (i := 0) dX10_goes_16 rfl rfl rfl ?_
  refine g_getI (p0 := 20) dX10_goes_17 fX10_187 (by first | rfl | assumption | exact RW.s (by assumption) | exact TW.s (by assumption)) rfl (by first | assumption | ((repeat (first | exact up_hit | refine up_nv (by decide) ?_ | refine up_mv (by first | decide | omega) ?_)) <;> first | assumption | rfl)) rfl ?_
  first | ((with_reducible refine isN2 ?_); refine g_icmpN_ge (tgt := 46) (p1 := 23) dX10_goes_20 rfl (by omega) (by omega) rfl (fun c_20 => ?_) (fun c_20 => by exfalso; first | omega | contradiction | exact absurd h c_20 | exact h c_20 | exact c_20 h | exact c_20 (by decide) | exact c_20 rfl | exact absurd rfl c_20)) | refine g_icmp_ge (tgt := 46) (p1 := 23) dX10_goes_20 rfl rfl (fun c_20 => ?_) (fun c_20 => by exfalso; first | omega | contradiction | exact absurd h c_20 | exact h c_20 | exact c_20 h | exact c_20 (by decide) | exact c_20 rfl | exact absurd rfl c_20)
  refine g_aload_n (p0 := 47) (i := 0) dX10_goes_46 rfl rfl rfl ?_
  refine g_getI (p0 := 50) dX10_goes_47 fX10_202 (by first | rfl | assumption | exact RW.s (by assumption) | exact TW.s (by assumption)) rfl (by first | assumption | ((repeat (first | exact up_hit | refine up_nv (by decide) ?_ | refine up_mv (by first | decide | omega) ?_)) <;> first | assumption | rfl)) rfl ?_
  first | ((with_reducible refine isN1 ?_); refine g_ifN_ne (tgt := 58) (p1 := 53) dX10_goes_50 rfl (by omega) rfl (fun c_50 => by exfalso; first | omega | contradiction | exact absurd h c_50 | exact h c_50 | exact c_50 h | exact c_50 (by decide) | exact c_50 rfl | exact absurd rfl c_50) (fun c_50 => ?_)) | refine g_if_ne (tgt := 58) (p1 := 53) dX10_goes_50 rfl rfl (fun c_50 => by exfalso; first | omega | contradiction | exact absurd h c_50 | exact h c_50 | exact c_50 h | exact c_50 (by decide) | exact c_50 rfl | exact absurd rfl c_50) (fun c_50 => ?_)
  refine g_ldc (p0 := 55) dX10_goes_53 qX10_154 rfl ?_
  refine g_goto (tgt := 59) dX10_goes_55 rfl ?_
  refine g_ireturn dX10_goes_59 rfl rfl (?_)
  exact k
set_option maxRecDepth 20000 in
set_option maxHeartbeats 2000000 in
theorem goes_ok {len p r e0 : Nat} {ρ' : Nat → Int32} {y : Int32} {σ : Sg} {Q : SP} (h5 : σ 79 5 = nI len) (h23 : σ 79 23 = nI p) (h24 : σ 79 24 = nI 0) (hl : len ≤ 60) (hp : p < len) (hr : r ≤ 3) (h : CM mX10_does [ar 79] σ (DQ σ e0 r ρ')) (hr0 : r = 0) (k : ∀ σ1, FG σ σ1 → σ1 79 23 = nI (e0 + 1) → σ1 79 24 = nI 0 → σ1 80 = ρ' → WM mX10_goes Q 12 [some (ar 79), some (ai (nI p))] [] σ1) : WM mX10_goes Q 12 [some (ar 79), some (ai y)] [] σ := by
  subst hr0
  refine g_aload_n (p0 := 13) (i := 0) dX10_goes_12 rfl rfl rfl ?_
  refine g_getI (p0 := 16) dX10_goes_13 fX10_190 (by first | rfl | assumption | exact RW.s (by assumption) | exact TW.s (by assumption)) rfl (by first | assumption | ((repeat (first | exact up_hit | refine up_nv (by decide) ?_ | refine up_mv (by first | decide | omega) ?_)) <;> first | assumption | rfl)) rfl ?_
  refine g_aload_n (p0 := 17) (i := 0) dX10_goes_16 rfl rfl rfl ?_
  refine g_getI (p0 := 20) dX10_goes_17 fX10_187 (by first | rfl | assumption | exact RW.s (by assumption) | exact TW.s (by assumption)) rfl (by first | assumption | ((repeat (first | exact up_hit | refine up_nv (by decide) ?_ | refine up_mv (by first | decide | omega) ?_)) <;> first | assumption | rfl)) rfl ?_
  first | ((with_reducible refine isN2 ?_); refine g_icmpN_ge (tgt := 46) (p1 := 23) dX10_goes_20 rfl (by omega) (by omega) rfl (fun c_20 => by exfalso; first | omega | contradiction | exact absurd h c_20 | exact h c_20 | exact c_20 h | exact c_20 (by decide) | exact c_20 rfl | exact absurd rfl c_20) (fun c_20 => ?_)) | refine g_icmp_ge (tgt := 46) (p1 := 23) dX10_goes_20 rfl rfl (fun c_20 => by exfalso; first | omega | contradiction | exact absurd h c_20 | exact h c_20 | exact c_20 h | exact c_20 (by decide) | exact c_20 rfl | exact absurd rfl c_20) (fun c_20 => ?_)
  refine g_aload_n (p0 := 24) (i := 0) dX10_goes_23 rfl rfl rfl ?_
  refine g_getI (p0 := 27) dX10_goes_24 fX10_202 (by first | rfl | assumption | exact RW.s (by assumption) | exact TW.s (by assumption)) rfl (by first | assumption | ((repeat (first | exact up_hit | refine up_nv (by decide) ?_ | refine up_mv (by first | decide | omega) ?_)) <;> first | assumption | rfl)) rfl ?_
  first | ((with_reducible refine isN1 ?_); refine g_ifN_ne (tgt := 46) (p1 := 30) dX10_goes_27 rfl (by omega) rfl (fun c_27 => by exfalso; first | omega | contradiction | exact absurd h c_27 | exact h c_27 | exact c_27 h | exact c_27 (by decide) | exact c_27 rfl | exact absurd rfl c_27) (fun c_27 => ?_)) | refine g_if_ne (tgt := 46) (p1 := 30) dX10_goes_27 rfl rfl (fun c_27 => by exfalso; first | omega | contradiction | exact absurd h c_27 | exact h c_27 | exact c_27 h | exact c_27 (by decide) | exact c_27 rfl | exact absurd rfl c_27) (fun c_27 => ?_)
  refine g_aload_n (p0 := 31) (i := 0) dX10_goes_30 rfl rfl rfl ?_
  refine g_getI (p0 := 34) dX10_goes_31 fX10_190 (by first | rfl | assumption | exact RW.s (by assumption) | exact TW.s (by assumption)) rfl (by first | assumption | ((repeat (first | exact up_hit | refine up_nv (by decide) ?_ | refine up_mv (by first | decide | omega) ?_)) <;> first | assumption | rfl)) rfl ?_
  refine g_istore_n (p0 := 35) (i := 1) (ls2 := [_, _]) dX10_goes_34 rfl (Nat.le_of_ble_eq_true rfl) rfl rfl ?_
  refine g_aload_n (p0 := 36) (i := 0) dX10_goes_35 rfl rfl rfl ?_
  refine g_aload_n (p0 := 37) (i := 0) dX10_goes_36 rfl rfl rfl ?_
  refine g_cV0I (p0 := 40) (r1 := mX10_does) dX10_goes_37 lX10_205 vX10_does (by first | rfl | assumption | exact RW.s (by assumption) | exact TW.s (by assumption)) ⟨_, _, rfl⟩ (FITi rfl rfl) (Nat.le_of_ble_eq_true rfl) (h) rfl ?_
  rintro u σ1 ⟨rfl, hf, hd⟩
  refine g_put (p0 := 43) dX10_goes_40 fX10_202 (by first | rfl | assumption | exact RW.s (by assumption) | exact TW.s (by assumption)) rfl nX10_24 (pX10_24 _) rfl ?_
  refine g_goto (tgt := 12) dX10_goes_43 rfl ?_
  exact k _ hf.fg (by rw [up_miss (by decide)]; exact (hd rfl).1) up_hit (by rw [up_ne (by decide)]; exact (hd rfl).2)
set_option maxRecDepth 20000 in
set_option maxHeartbeats 2000000 in
theorem goes_f {len p r e0 : Nat} {ρ' : Nat → Int32} {y : Int32} {σ : Sg} {Q : SP} (h5 : σ 79 5 = nI len) (h23 : σ 79 23 = nI p) (h24 : σ 79 24 = nI 0) (hl : len ≤ 60) (hp : p < len) (hr : r ≤ 3) (h : CM mX10_does [ar 79] σ (DQ σ e0 r ρ')) (hr0 : ¬ r = 0) (k : ∀ σ1, FG σ σ1 → σ1 79 24 = nI r → Q (some (ai (nI p))) σ1) : WM mX10_goes Q 12 [some (ar 79), some (ai y)] [] σ := by
  refine g_aload_n (p0 := 13) (i := 0) dX10_goes_12 rfl rfl rfl ?_
  refine g_getI (p0 := 16) dX10_goes_13 fX10_190 (by first | rfl | assumption | exact RW.s (by assumption) | exact TW.s (by assumption)) rfl (by first | assumption | ((repeat (first | exact up_hit | refine up_nv (by decide) ?_ | refine up_mv (by first | decide | omega) ?_)) <;> first | assumption | rfl)) rfl ?_
  refine g_aload_n (p0 := 17) (i := 0) dX10_goes_16 rfl rfl rfl ?_
  refine g_getI (p0 := 20) dX10_goes_17 fX10_187 (by first | rfl | assumption | exact RW.s (by assumption) | exact TW.s (by assumption)) rfl (by first | assumption | ((repeat (first | exact up_hit | refine up_nv (by decide) ?_ | refine up_mv (by first | decide | omega) ?_)) <;> first | assumption | rfl)) rfl ?_
  first | ((with_reducible refine isN2 ?_); refine g_icmpN_ge (tgt := 46) (p1 := 23) dX10_goes_20 rfl (by omega) (by omega) rfl (fun c_20 => by exfalso; first | omega | contradiction | exact absurd h c_20 | exact h c_20 | exact c_20 h | exact c_20 (by decide) | exact c_20 rfl | exact absurd rfl c_20) (fun c_20 => ?_)) | refine g_icmp_ge (tgt := 46) (p1 := 23) dX10_goes_20 rfl rfl (fun c_20 => by exfalso; first | omega | contradiction | exact absurd h c_20 | exact h c_20 | exact c_20 h | exact c_20 (by decide) | exact c_20 rfl | exact absurd rfl c_20) (fun c_20 => ?_)
  refine g_aload_n (p0 := 24) (i := 0) dX10_goes_23 rfl rfl rfl ?_
  refine g_getI (p0 := 27) dX10_goes_24 fX10_202 (by first | rfl | assumption | exact RW.s (by assumption) | exact TW.s (by assumption)) rfl (by first | assumption | ((repeat (first | exact up_hit | refine up_nv (by decide) ?_ | refine up_mv (by first | decide | omega) ?_)) <;> first | assumption | rfl)) rfl ?_
  first | ((with_reducible refine isN1 ?_); refine g_ifN_ne (tgt := 46) (p1 := 30) dX10_goes_27 rfl (by omega) rfl (fun c_27 => by exfalso; first | omega | contradiction | exact absurd h c_27 | exact h c_27 | exact c_27 h | exact c_27 (by decide) | exact c_27 rfl | exact absurd rfl c_27) (fun c_27 => ?_)) | refine g_if_ne (tgt := 46) (p1 := 30) dX10_goes_27 rfl rfl (fun c_27 => by exfalso; first | omega | contradiction | exact absurd h c_27 | exact h c_27 | exact c_27 h | exact c_27 (by decide) | exact c_27 rfl | exact absurd rfl c_27) (fun c_27 => ?_)
  refine g_aload_n (p0 := 31) (i := 0) dX10_goes_30 rfl rfl rfl ?_
  refine g_getI (p0 := 34) dX10_goes_31 fX10_190 (by first | rfl | assumption | exact RW.s (by assumption) | exact TW.s (by assumption)) rfl (by first | assumption | ((repeat (first | exact up_hit | refine up_nv (by decide) ?_ | refine up_mv (by first | decide | omega) ?_)) <;> first | assumption | rfl)) rfl ?_
  refine g_istore_n (p0 := 35) (i := 1) (ls2 := [_, _]) dX10_goes_34 rfl (Nat.le_of_ble_eq_true rfl) rfl rfl ?_
  refine g_aload_n (p0 := 36) (i := 0) dX10_goes_35 rfl rfl rfl ?_
  refine g_aload_n (p0 := 37) (i := 0) dX10_goes_36 rfl rfl rfl ?_
  refine g_cV0I (p0 := 40) (r1 := mX10_does) dX10_goes_37 lX10_205 vX10_does (by first | rfl | assumption | exact RW.s (by assumption) | exact TW.s (by assumption)) ⟨_, _, rfl⟩ (FITi rfl rfl) (Nat.le_of_ble_eq_true rfl) (h) rfl ?_
  rintro u σ1 ⟨rfl, hf, hd⟩
  refine g_put (p0 := 43) dX10_goes_40 fX10_202 (by first | rfl | assumption | exact RW.s (by assumption) | exact TW.s (by assumption)) rfl nX10_24 (pX10_24 _) rfl ?_
  refine g_goto (tgt := 12) dX10_goes_43 rfl ?_
  exact goes_bad (r := r) up_hit hr hr0 (k _ hf.fg up_hit)
theorem run {T : Nat → Nat} {len : Nat} (hT : TOK T len) : ∀ q p ρ s, len ≤ p + q → p ≤ len → RowOK ρ s → ∃ r st ρ' s', r ≤ 3 ∧ st ≤ 60 ∧ (r = 0 → RowOK ρ' s') ∧ (∀ (Q : SP) (σ : Sg), TC σ T len → σ 76 2 = nI p → σ 76 3 = nI 0 → Rep σ 6 ρ s → (∀ σ1, FR σ σ1 → σ1 76 2 = nI st → σ1 76 3 = nI r → (r = 0 → Rep σ1 6 ρ' s') → Q none σ1) → WM mX5_rehearse Q 17 [some (ar 76), some (ar 1), some (ar 6), some (ai (nI p))] [] σ) ∧ (∀ (Q : SP) (σ : Sg) (y : Int32), TR σ T len → σ 79 23 = nI p → σ 79 24 = nI 0 → σ 80 = ρ → (∀ σ1, FG σ σ1 → σ1 79 24 = nI r → (r = 0 → σ1 80 = ρ') → Q (some (ai (if r = 0 then -1000004 else nI st))) σ1) → WM mX10_goes Q 12 [some (ar 79), some (ai y)] [] σ) := by
  have hl := hT.1
  intro q
  induction q with
  | zero =>
    intro p ρ s h1 h2 hR
    obtain rfl : p = len := by omega
    refine ⟨0, p, ρ, s, by decide, hl, fun _ => hR, fun Q σ hC h2 h3 hRep k => ?_, fun Q σ y hC h23 h24 h80 k => ?_⟩
    · exact reh_end hC.1 h2 h3 hl rfl (k σ (FR.refl σ) h2 h3 (fun _ => hRep))
    · have k := k σ (FG.refl σ) h24 (fun _ => h80)
      rw [if_pos rfl] at k
      exact goes_end hC.1 h23 h24 hl k
  | succ q ih =>
    intro p ρ s h1 h2 hR
    by_cases hpl : p = len
    · subst hpl
      refine ⟨0, p, ρ, s, by decide, hl, fun _ => hR, fun Q σ hC h2 h3 hRep k => ?_, fun Q σ y hC h23 h24 h80 k => ?_⟩
      · exact reh_end hC.1 h2 h3 hl rfl (k σ (FR.refl σ) h2 h3 (fun _ => hRep))
      · have k := k σ (FG.refl σ) h24 (fun _ => h80)
        rw [if_pos rfl] at k
        exact goes_end hC.1 h23 h24 hl k
    · have hpl : p < len := by omega
      rcases first_ex (fun i => p ≤ i ∧ T i = 59) len with ⟨e, he, ⟨hpe, h59⟩, hno⟩ | hno
      · have hno : ∀ i, p ≤ i → i < e → ¬ T i = 59 := fun i a b z => hno i b ⟨a, z⟩
        obtain ⟨r, ρ1, s1, f1, f2, f3, f4⟩ := ord hT hpe he h59 hno hR
        by_cases hr0 : r = 0
        · obtain ⟨r2, st, ρ', s', g1, g2, g3, g4, g5⟩ := ih (e + 1) ρ1 s1 (by omega) (by omega) (f2 hr0)
          refine ⟨r2, st, ρ', s', g1, g2, g3, fun Q σ hC h2 h3 hRep k => ?_, fun Q σ y hC h23 h24 h80 k => ?_⟩
          · refine scan_l hT hC h3 (by omega) (reh_ok hT hC h3 h2 he h59 f1 (f3 σ hC h2 hRep) hr0 (fun σ1 a b c d => ?_)) (e - p) p (by omega) hno
            exact g4 Q σ1 (hC.of2 a) b c d (fun σ2 a2 b2 c2 d2 => k σ2 (a.trans a2) b2 c2 d2)
          · refine goes_ok hC.1 h23 h24 hl hpl f1 (f4 σ hC h23 h80) hr0 (fun σ1 a b c d => ?_)
            exact g5 Q σ1 _ (hC.of2 a) b c d (fun σ2 a2 b2 c2 => k σ2 (a.trans a2) b2 c2)
        · refine ⟨r, p, ρ1, s1, f1, by omega, fun z => absurd z hr0, fun Q σ hC h2 h3 hRep k => ?_, fun Q σ y hC h23 h24 h80 k => ?_⟩
          · exact scan_l hT hC h3 (by omega) (reh_f hT hC h3 h2 he h59 f1 (f3 σ hC h2 hRep) hr0 (fun σ1 a b c => k σ1 a b c (fun z => absurd z hr0))) (e - p) p (by omega) hno
          · refine goes_f hC.1 h23 h24 hl hpl f1 (f4 σ hC h23 h80) hr0 (fun σ1 a b => ?_)
            have k := k σ1 a b (fun z => absurd z hr0)
            rw [if_neg hr0] at k
            exact k
      · have hno : ∀ i, p ≤ i → i < len → ¬ T i = 59 := fun i a b z => hno i b ⟨a, z⟩
        refine ⟨1, p, ρ, s, by decide, by omega, fun z => absurd z (by decide), fun Q σ hC h2 h3 hRep k => ?_, fun Q σ y hC h23 h24 h80 k => ?_⟩
        · exact scan_l hT hC h3 (Nat.le_refl len) (reh_no hC.1 h2 h3 hl hpl (k _ ((FR.refl σ).up (by decide)) (by rw [up_miss (by decide)]; exact h2) up_hit (fun z => absurd z (by decide)))) (len - p) p (by omega) hno
        · refine goes_f hC.1 h23 h24 hl hpl (by decide) (ord_no (ρ := ρ) hT hpl hno hC h23) (by decide) (fun σ1 a b => ?_)
          have k := k σ1 a b (fun z => absurd z (by decide))
          rw [if_neg (by decide)] at k
          exact k
def FRo (σ σ1 : Sg) : Prop := (∀ z, z ≠ 6 → z ≠ 8 → z ≠ 10 → z ≠ 76 → σ1 z = σ z) ∧ σ1 76 1 = σ 76 1
set_option maxRecDepth 20000 in
set_option maxHeartbeats 2000000 in
theorem all {T : Nat → Nat} {len s : Nat} {ρ : Nat → Int32} (hT : TOK T len) (hR : RowOK ρ s) : ∃ r st ρ' s', r ≤ 3 ∧ st ≤ 60 ∧ (r = 0 → RowOK ρ' s') ∧ (∀ σ : Sg, TC σ T len → Rep σ 1 ρ s → CM mX5_rehearse [ar 76, ar 1, ar 6] σ (RelV (fun σ1 => FRo σ σ1 ∧ σ1 76 2 = nI st ∧ σ1 76 3 = nI r ∧ (r = 0 → Rep σ1 6 ρ' s')))) ∧ (∀ σ : Sg, TR σ T len → σ 80 = ρ → CM mX10_goes [ar 79] σ (RelI (fun u σ1 => u = (if r = 0 then -1000004 else nI st) ∧ FG σ σ1 ∧ σ1 79 24 = nI r ∧ (r = 0 → σ1 80 = ρ')))) := by
  obtain ⟨r, st, ρ', s', g1, g2, g3, g4, g5⟩ := run hT len 0 ρ s (by omega) (Nat.zero_le _) hR
  refine ⟨r, st, ρ', s', g1, g2, g3, fun σ hC hRep => ?_, fun σ hC h80 => ?_⟩
  · have hb := become_sp (t := 6) (u := 1) TW6 TW1 (Or.inr (by decide)) hRep.1 hR.2.1 (by rw [hRep.2.2.2.1]; exact hR.2.2.1)
    have hRep6 : Rep (twr σ 6 1 s) 6 ρ s := Rep_twr hRep (Or.inr (by decide))
    obtain ⟨σ1, hσ1⟩ : ∃ z, z = twr σ 6 1 s := ⟨_, rfl⟩
    rw [← hσ1] at hb hRep6
    have f1 : ∀ z, z ≠ 6 → z ≠ 8 → z ≠ 10 → σ1 z = σ z := fun z a b c => by rw [hσ1]; exact twr_ne a b c
    have hC1 : TC σ1 T len := ⟨by rw [f1 76 (by decide) (by decide) (by decide)]; exact hC.1, fun i hi => by rw [f1 78 (by decide) (by decide) (by decide)]; exact hC.2 i hi⟩
    have a0 := ((FR.refl σ1).up (k := 2) (x := nI 0) (by decide)).up (k := 3) (x := nI 0) (by decide)
    refine CM_in (ls := [some (ar 76), some (ar 1), some (ar 6), none]) rfl ?_
    refine g_aload_n (p0 := 1) (i := 2) dX5_rehearse_0 rfl rfl rfl ?_
    refine g_aload_n (p0 := 2) (i := 1) dX5_rehearse_1 rfl rfl rfl ?_
    refine g_cV1V (p0 := 5) (r1 := mX8_become) dX5_rehearse_2 lX5_34 vX8_become (by first | rfl | assumption | exact RW.s (by assumption) | exact TW.s (by assumption)) ⟨_, _, rfl⟩ (FITi rfl rfl) (Nat.le_of_ble_eq_true rfl) (hb) rfl ?_
    refine g_aload_n (p0 := 6) (i := 0) dX5_rehearse_5 rfl rfl rfl ?_
    refine g_iconst (p0 := 7) (v := nI 0) dX5_rehearse_6 rfl rfl ?_
    refine g_put (p0 := 10) dX5_rehearse_7 fX5_24 (by first | rfl | assumption | exact RW.s (by assumption) | exact TW.s (by assumption)) rfl nX5_2 (pX5_2 _) rfl ?_
    refine g_aload_n (p0 := 11) (i := 0) dX5_rehearse_10 rfl rfl rfl ?_
    refine g_iconst (p0 := 12) (v := nI 0) dX5_rehearse_11 rfl rfl ?_
    refine g_put (p0 := 15) dX5_rehearse_12 fX5_27 (by first | rfl | assumption | exact RW.s (by assumption) | exact TW.s (by assumption)) rfl nX5_3 (pX5_3 _) rfl ?_
    refine g_iconst (p0 := 16) (v := nI 0) dX5_rehearse_15 rfl rfl ?_
    refine g_istore_n (p0 := 17) (i := 3) (ls2 := [_, _, _, _]) dX5_rehearse_16 rfl (Nat.le_of_ble_eq_true rfl) rfl rfl ?_
    refine g4 _ _ (hC1.of2 a0) (by rw [up_miss (by decide), up_hit]) up_hit (hRep6.of6 (by rw [up_ne (by decide), up_ne (by decide)]) (by rw [up_ne (by decide), up_ne (by decide)]) (by rw [up_ne (by decide), up_ne (by decide)])) (fun σ2 a b c d => ⟨rfl, ⟨fun z h6 h8 h10 h76 => ?_, ?_⟩, b, c, d⟩)
    · rw [(a0.trans a).1 z h6 h8 h76, f1 z h6 h8 h10]
    · rw [(a0.trans a).2, f1 76 (by decide) (by decide) (by decide)]
  · have a0 : FG σ (up (up σ 79 23 (nI 0)) 79 24 (nI 0)) := ⟨fun z a b => by rw [up_ne a, up_ne a], fun q a b => by rw [up_miss b, up_miss a], fun k _ => by rw [up_ne (by decide), up_ne (by decide)]⟩
    refine CM_in (ls := [some (ar 79), none]) rfl ?_
    refine g_aload_n (p0 := 1) (i := 0) dX10_goes_0 rfl rfl rfl ?_
    refine g_iconst (p0 := 2) (v := nI 0) dX10_goes_1 rfl rfl ?_
    refine g_put (p0 := 5) dX10_goes_2 fX10_190 (by first | rfl | assumption | exact RW.s (by assumption) | exact TW.s (by assumption)) rfl nX10_23 (pX10_23 _) rfl ?_
    refine g_aload_n (p0 := 6) (i := 0) dX10_goes_5 rfl rfl rfl ?_
    refine g_iconst (p0 := 7) (v := nI 0) dX10_goes_6 rfl rfl ?_
    refine g_put (p0 := 10) dX10_goes_7 fX10_202 (by first | rfl | assumption | exact RW.s (by assumption) | exact TW.s (by assumption)) rfl nX10_24 (pX10_24 _) rfl ?_
    refine g_iconst (p0 := 11) (v := nI 0) dX10_goes_10 rfl rfl ?_
    refine g_istore_n (p0 := 12) (i := 1) (ls2 := [_, _]) dX10_goes_11 rfl (Nat.le_of_ble_eq_true rfl) rfl rfl ?_
    exact g5 _ _ _ (hC.of2 a0) (by rw [up_miss (by decide), up_hit]) up_hit (by rw [up_ne (by decide), up_ne (by decide)]; exact h80) (fun σ2 a b c => ⟨_, rfl, rfl, a0.trans a, b, c⟩)
