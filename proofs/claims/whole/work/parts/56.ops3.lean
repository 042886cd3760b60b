/-! OPERATIONS: undo -/
def cpP (f g : Nat → Int32) (b j : Nat) : Nat → Int32 := fun i => if i < j then g (b + i) else f i
theorem cpP_0 (f g : Nat → Int32) (b : Nat) : cpP f g b 0 = f := by funext i; simp [cpP]
theorem cpP_step (f g : Nat → Int32) (b j : Nat) : upd (cpP f g b j) j (g (b + j)) = cpP f g b (j + 1) := by
  funext i
  by_cases h : i = j
  · subst h
    rw [upd_hit, cpP, if_pos (by omega)]
  · rw [upd_ne h, cpP, cpP]
    by_cases h2 : i < j
    · rw [if_pos h2, if_pos (by omega)]
    · rw [if_neg h2, if_neg (by omega)]
set_option maxRecDepth 20000 in
set_option maxHeartbeats 2000000 in
theorem undo_l {n : Nat} {σ : Sg} {Q : SP} (hn : σ 79 3 = nI n) (hn3 : n ≤ 3) (next : Q (some (ai (nI n))) (setR σ 80 (cpP (σ 80) (σ 81) (189 * n) 189))) : ∀ m j, j + m = 189 → WM mX10_undo Q 22 [some (ar 79), some (ai (nI j))] [] (setR σ 80 (cpP (σ 80) (σ 81) (189 * n) j)) := by
  intro m
  induction m with
  | zero =>
    intro j hj
    obtain rfl : j = 189 := by omega
    have hn2 : setR σ 80 (cpP (σ 80) (σ 81) (189 * n) 189) 79 3 = nI n := by rw [setR_ne (by decide)]; exact hn
    refine g_iload_n (p0 := 23) (i := 1) dX10_undo_22 rfl rfl rfl ?_
    refine g_sipush (p0 := 26) (v := nI 189) dX10_undo_23 (by decide) rfl ?_
    first | ((with_reducible refine isN2 ?_); refine g_icmpN_ge (tgt := 56) (p1 := 29) dX10_undo_26 rfl (by omega) (by omega) rfl (fun c_26 => ?_) (fun c_26 => by exfalso; first | omega | contradiction | exact absurd (by assumption) c_26 | (simp_all; done))) | refine g_icmp_ge (tgt := 56) (p1 := 29) dX10_undo_26 rfl rfl (fun c_26 => ?_) (fun c_26 => by exfalso; first | omega | contradiction | exact absurd (by assumption) c_26 | (simp_all; done))
    refine g_aload_n (p0 := 57) (i := 0) dX10_undo_56 rfl rfl rfl ?_
    refine g_getI (p0 := 60) dX10_undo_57 fX10_61 (by first | rfl | assumption | exact RW.s (by assumption) | exact TW.s (by assumption)) rfl (by first | assumption | ((repeat (first | exact up_hit | refine up_nv (by decide) ?_ | refine up_mv (by first | decide | omega) ?_)) <;> first | assumption | rfl)) rfl ?_
    refine g_ireturn dX10_undo_60 rfl rfl (?_)
    exact next
  | succ m ih =>
    intro j hj
    have hn2 : setR σ 80 (cpP (σ 80) (σ 81) (189 * n) j) 79 3 = nI n := by rw [setR_ne (by decide)]; exact hn
    have hv : setR σ 80 (cpP (σ 80) (σ 81) (189 * n) j) 81 (189 * n + j) = σ 81 (189 * n + j) := by rw [setR_ne (by decide)]
    have e3 : up (setR σ 80 (cpP (σ 80) (σ 81) (189 * n) j)) 80 j (σ 81 (189 * n + j)) = setR σ 80 (cpP (σ 80) (σ 81) (189 * n) (j + 1)) := by
      rw [up_setR, setR_setR, setR_hit, cpP_step]
    refine g_iload_n (p0 := 23) (i := 1) dX10_undo_22 rfl rfl rfl ?_
    refine g_sipush (p0 := 26) (v := nI 189) dX10_undo_23 (by decide) rfl ?_
    first | ((with_reducible refine isN2 ?_); refine g_icmpN_ge (tgt := 56) (p1 := 29) dX10_undo_26 rfl (by omega) (by omega) rfl (fun c_26 => by exfalso; first | omega | contradiction | exact absurd (by assumption) c_26 | (simp_all; done)) (fun c_26 => ?_)) | refine g_icmp_ge (tgt := 56) (p1 := 29) dX10_undo_26 rfl rfl (fun c_26 => by exfalso; first | omega | contradiction | exact absurd (by assumption) c_26 | (simp_all; done)) (fun c_26 => ?_)
    refine g_aload_n (p0 := 30) (i := 0) dX10_undo_29 rfl rfl rfl ?_
    refine g_getR (p0 := 33) dX10_undo_30 fX10_7 (by first | rfl | assumption | exact RW.s (by assumption) | exact TW.s (by assumption)) rfl rfl ?_
    refine g_iload_n (p0 := 34) (i := 1) dX10_undo_33 rfl rfl rfl ?_
    refine g_aload_n (p0 := 35) (i := 0) dX10_undo_34 rfl rfl rfl ?_
    refine g_getR (p0 := 38) dX10_undo_35 fX10_13 (by first | rfl | assumption | exact RW.s (by assumption) | exact TW.s (by assumption)) rfl rfl ?_
    refine g_sipush (p0 := 41) (v := nI 189) dX10_undo_38 (by decide) rfl ?_
    refine g_aload_n (p0 := 42) (i := 0) dX10_undo_41 rfl rfl rfl ?_
    refine g_getI (p0 := 45) dX10_undo_42 fX10_61 (by first | rfl | assumption | exact RW.s (by assumption) | exact TW.s (by assumption)) rfl (by first | assumption | ((repeat (first | exact up_hit | refine up_nv (by decide) ?_ | refine up_mv (by first | decide | omega) ?_)) <;> first | assumption | rfl)) rfl ?_
    first | ((with_reducible refine isN2 ?_); refine g_imulN (p0 := 46) dX10_undo_45 rfl ?_) | refine g_imul (p0 := 46) dX10_undo_45 rfl ?_
    refine g_iload_n (p0 := 47) (i := 1) dX10_undo_46 rfl rfl rfl ?_
    first | ((with_reducible refine isN2 ?_); refine g_iaddN (p0 := 48) dX10_undo_47 rfl ?_) | refine g_iadd (p0 := 48) dX10_undo_47 rfl ?_
    first | ((with_reducible refine isN1 ?_); refine g_aldN (p0 := 49) dX10_undo_48 (by first | rfl | assumption | exact RW.s (by assumption) | exact TW.s (by assumption)) (by first | decide | assumption) (by omega) hv rfl ?_) | refine g_ald (p0 := 49) dX10_undo_48 (by first | rfl | assumption | exact RW.s (by assumption) | exact TW.s (by assumption)) (by assumption) hv rfl ?_
    first | ((with_reducible refine isNS ?_); refine g_astN (p0 := 50) dX10_undo_49 (by first | rfl | assumption | exact RW.s (by assumption) | exact TW.s (by assumption)) (by first | decide | assumption) (by omega) rfl ?_) | refine g_ast (p0 := 50) dX10_undo_49 (by first | rfl | assumption | exact RW.s (by assumption) | exact TW.s (by assumption)) (by assumption) rfl ?_
    first | refine g_iinc1 (p0 := 53) (ls2 := [_, _]) dX10_undo_50 rfl rfl rfl ?_ | refine g_iinc (p0 := 53) (ls2 := [_, _]) dX10_undo_50 rfl rfl rfl rfl ?_
    refine g_goto (tgt := 22) dX10_undo_53 rfl ?_
    rw [e3]
    exact ih (j + 1) (by omega)
set_option maxRecDepth 20000 in
set_option maxHeartbeats 2000000 in
theorem undo_r0 {σ : Sg} (h : σ 79 3 = nI 0) : CM mX10_undo [ar 79] σ (Ret (-1000002) σ) := by
  refine CM_in (ls := [some (ar 79), none]) rfl ?_
  refine g_aload_n (p0 := 1) (i := 0) dX10_undo_0 rfl rfl rfl ?_
  refine g_getI (p0 := 4) dX10_undo_1 fX10_61 (by first | rfl | assumption | exact RW.s (by assumption) | exact TW.s (by assumption)) rfl (by first | assumption | ((repeat (first | exact up_hit | refine up_nv (by decide) ?_ | refine up_mv (by first | decide | omega) ?_)) <;> first | assumption | rfl)) rfl ?_
  first | ((with_reducible refine isN1 ?_); refine g_ifN_ne (tgt := 10) (p1 := 7) dX10_undo_4 rfl (by omega) rfl (fun c_4 => by exfalso; first | omega | contradiction | exact absurd (by assumption) c_4 | (simp_all; done)) (fun c_4 => ?_)) | refine g_if_ne (tgt := 10) (p1 := 7) dX10_undo_4 rfl rfl (fun c_4 => by exfalso; first | omega | contradiction | exact absurd (by assumption) c_4 | (simp_all; done)) (fun c_4 => ?_)
  refine g_ldc (p0 := 9) dX10_undo_7 qX10_102 rfl ?_
  refine g_ireturn dX10_undo_9 rfl rfl (?_)
  exact ⟨rfl, rfl⟩
set_option maxRecDepth 20000 in
set_option maxHeartbeats 2000000 in
theorem undo_c0 {σ : Sg} (h : σ 11 2 = nI 0) : CM mX9_undo [ar 0] σ (Ret (-1000002) σ) := by
  refine CM_in (ls := [some (ar 0)]) rfl ?_
  refine g_aload_n (p0 := 1) (i := 0) dX9_undo_0 rfl rfl rfl ?_
  refine g_getR (p0 := 4) dX9_undo_1 fX9_22 (by first | rfl | assumption | exact RW.s (by assumption) | exact TW.s (by assumption)) rfl rfl ?_
  refine g_getI (p0 := 7) dX9_undo_4 fX9_253 (by first | rfl | assumption | exact RW.s (by assumption) | exact TW.s (by assumption)) rfl (by first | assumption | ((repeat (first | exact up_hit | refine up_nv (by decide) ?_ | refine up_mv (by first | decide | omega) ?_)) <;> first | assumption | rfl)) rfl ?_
  first | ((with_reducible refine isN1 ?_); refine g_ifN_ne (tgt := 13) (p1 := 10) dX9_undo_7 rfl (by omega) rfl (fun c_7 => by exfalso; first | omega | contradiction | exact absurd (by assumption) c_7 | (simp_all; done)) (fun c_7 => ?_)) | refine g_if_ne (tgt := 13) (p1 := 10) dX9_undo_7 rfl rfl (fun c_7 => by exfalso; first | omega | contradiction | exact absurd (by assumption) c_7 | (simp_all; done)) (fun c_7 => ?_)
  refine g_ldc (p0 := 12) dX9_undo_10 qX9_96 rfl ?_
  refine g_ireturn dX9_undo_12 rfl rfl (?_)
  exact ⟨rfl, rfl⟩
set_option maxRecDepth 20000 in
set_option maxHeartbeats 2000000 in
theorem undo_r {n : Nat} {σ : Sg} (h : σ 79 3 = nI (n + 1)) (hn : n ≤ 3) : CM mX10_undo [ar 79] σ (Ret (nI n) (setR (up σ 79 3 (nI n)) 80 (cpP (σ 80) (σ 81) (189 * n) 189))) := by
  refine CM_in (ls := [some (ar 79), none]) rfl ?_
  refine g_aload_n (p0 := 1) (i := 0) dX10_undo_0 rfl rfl rfl ?_
  refine g_getI (p0 := 4) dX10_undo_1 fX10_61 (by first | rfl | assumption | exact RW.s (by assumption) | exact TW.s (by assumption)) rfl (by first | assumption | ((repeat (first | exact up_hit | refine up_nv (by decide) ?_ | refine up_mv (by first | decide | omega) ?_)) <;> first | assumption | rfl)) rfl ?_
  first | ((with_reducible refine isN1 ?_); refine g_ifN_ne (tgt := 10) (p1 := 7) dX10_undo_4 rfl (by omega) rfl (fun c_4 => ?_) (fun c_4 => by exfalso; first | omega | contradiction | exact absurd (by assumption) c_4 | (simp_all; done))) | refine g_if_ne (tgt := 10) (p1 := 7) dX10_undo_4 rfl rfl (fun c_4 => ?_) (fun c_4 => by exfalso; first | omega | contradiction | exact absurd (by assumption) c_4 | (simp_all; done))
  refine g_aload_n (p0 := 11) (i := 0) dX10_undo_10 rfl rfl rfl ?_
  refine g_dup (p0 := 12) dX10_undo_11 rfl ?_
  refine g_getI (p0 := 15) dX10_undo_12 fX10_61 (by first | rfl | assumption | exact RW.s (by assumption) | exact TW.s (by assumption)) rfl (by first | assumption | ((repeat (first | exact up_hit | refine up_nv (by decide) ?_ | refine up_mv (by first | decide | omega) ?_)) <;> first | assumption | rfl)) rfl ?_
  refine g_iconst (p0 := 16) (v := nI 1) dX10_undo_15 rfl rfl ?_
  first | ((with_reducible refine isN2 ?_); refine g_isubN (p0 := 17) dX10_undo_16 (by omega) rfl ?_) | refine g_isub (p0 := 17) dX10_undo_16 rfl ?_
  refine g_put (p0 := 20) dX10_undo_17 fX10_61 (by first | rfl | assumption | exact RW.s (by assumption) | exact TW.s (by assumption)) rfl nX10_3 (pX10_3 _) rfl ?_
  refine g_iconst (p0 := 21) (v := nI 0) dX10_undo_20 rfl rfl ?_
  refine g_istore_n (p0 := 22) (i := 1) (ls2 := [_, _]) dX10_undo_21 rfl (Nat.le_of_ble_eq_true rfl) rfl rfl ?_
  have h := undo_l (σ := up σ 79 3 (nI n)) (n := n) (Q := Ret (nI n) (setR (up σ 79 3 (nI n)) 80 (cpP (σ 80) (σ 81) (189 * n) 189))) up_hit hn ⟨rfl, rfl⟩ 189 0 (by omega)
  rw [cpP_0, setR_id rfl] at h
  exact h
set_option maxRecDepth 20000 in
set_option maxHeartbeats 2000000 in
theorem undo_c {n : Nat} {H : Nat → (Nat → Int32) × Nat} {σ : Sg} (hHC : HC σ (n + 1) H) (hHR : HRf σ (n + 1) H) (h65 : σ 65 0 = nI 0) : RowOK (cpP (σ 80) (σ 81) (189 * n) 189) (H n).2 ∧ CM mX9_undo [ar 0] σ (fun w σ3 => w = some (ai (nI n)) ∧ Rep σ3 1 (cpP (σ 80) (σ 81) (189 * n) 189) (H n).2 ∧ HC σ3 n H ∧ RDC σ3 (cpP (σ 80) (σ 81) (189 * n) 189) (H n).2 ∧ ∀ z, 72 ≤ z → σ3 z = σ z) := by
  obtain ⟨q, hq, o1, o2, hn4, hall⟩ := id hHC
  obtain ⟨hRn, hRepn⟩ := hall n (by omega)
  have hm : (q + n) % 4 < 4 := Nat.mod_lt _ (by decide)
  have eq : ∀ k, k < 189 → (cpP (σ 80) (σ 81) (189 * n) 189) k = (H n).1 k := fun k hk => by rw [cpP, if_pos hk, hHR.2 n (by omega) k hk]
  have ss := hRn.2.1
  have hRow : RowOK (cpP (σ 80) (σ 81) (189 * n) 189) (H n).2 := by
    obtain ⟨h1, h2, h3, ⟨cf, h4, h5⟩, h6, h7⟩ := hRn
    exact ⟨by rw [eq 3 (by decide)]; exact h1, h2, by rw [eq 2 (by decide)]; exact h3, ⟨cf, fun l hl => by rw [eq (4 + l) (by omega)]; exact h4 l hl, h5⟩, by rw [eq 0 (by decide)]; exact h6, fun q hq => by rw [eq (29 + q) (by omega)]; exact h7 q hq⟩
  have hRep0 : Rep σ (13 + 5 * ((q + n) % 4)) (cpP (σ 80) (σ 81) (189 * n) 189) (H n).2 := by
    obtain ⟨b1, b2, b3, b4, b5, b6⟩ := hRepn
    exact ⟨b1, by rw [eq 0 (by decide)]; exact b2, by rw [eq 1 (by decide)]; exact b3, by rw [eq 2 (by decide)]; exact b4, fun l hl => by rw [eq (4 + l) (by omega)]; exact b5 l hl, fun k hk => by rw [eq (29 + k) (by omega)]; exact b6 k hk⟩
  refine ⟨hRow, ?_⟩
  obtain ⟨u, hu⟩ : ∃ u, u = 13 + 5 * ((q + n) % 4) := ⟨_, rfl⟩
  rw [← hu] at hRep0
  have hres := restore_sp (n := n + 1) o1 hq o2 (by omega) hn4 (s := (H n).2) (by rw [Nat.add_sub_cancel, ← hu]; exact hRep0.1) ss (by rw [Nat.add_sub_cancel, ← hu, hRep0.2.2.2.1]; exact hRow.2.2.1)
  rw [Nat.add_sub_cancel, ← hu] at hres
  obtain ⟨σ1, hσ1⟩ : ∃ z, z = up (twr σ 1 u (H n).2) 11 2 (nI n) := ⟨_, rfl⟩
  rw [← hσ1] at hres
  have fr1 : ∀ z, 5 < z → z ≠ 11 → σ1 z = σ z := fun z h1 h2 => by rw [hσ1, up_ne h2, twr_ne (by omega) (by omega) (by omega)]
  have hRep1 : Rep σ1 1 (cpP (σ 80) (σ 81) (189 * n) 189) (H n).2 := by
    rw [hσ1]
    exact (Rep_twr hRep0 (by omega)).of_eq (up_ne (by decide)) (up_ne (by decide)) (up_ne (by decide))
  have h651 : σ1 65 0 = nI 0 := by rw [fr1 65 (by decide) (by decide)]; exact h65
  have h111 : σ1 11 1 = nI q := by rw [hσ1, up_miss (by decide), twr_ne (by decide) (by decide) (by decide)]; exact o1
  have h112 : σ1 11 2 = nI n := by rw [hσ1, up_hit]
  refine CM_in (ls := [some (ar 0)]) rfl ?_
  refine g_aload_n (p0 := 1) (i := 0) dX9_undo_0 rfl rfl rfl ?_
  refine g_getR (p0 := 4) dX9_undo_1 fX9_22 (by first | rfl | assumption | exact RW.s (by assumption) | exact TW.s (by assumption)) rfl rfl ?_
  refine g_getI (p0 := 7) dX9_undo_4 fX9_253 (by first | rfl | assumption | exact RW.s (by assumption) | exact TW.s (by assumption)) rfl (by first | assumption | ((repeat (first | exact up_hit | refine up_nv (by decide) ?_ | refine up_mv (by first | decide | omega) ?_)) <;> first | assumption | rfl)) rfl ?_
  first | ((with_reducible refine isN1 ?_); refine g_ifN_ne (tgt := 13) (p1 := 10) dX9_undo_7 rfl (by omega) rfl (fun c_7 => ?_) (fun c_7 => by exfalso; first | omega | contradiction | exact absurd (by assumption) c_7 | (simp_all; done))) | refine g_if_ne (tgt := 13) (p1 := 10) dX9_undo_7 rfl rfl (fun c_7 => ?_) (fun c_7 => by exfalso; first | omega | contradiction | exact absurd (by assumption) c_7 | (simp_all; done))
  refine g_aload_n (p0 := 14) (i := 0) dX9_undo_13 rfl rfl rfl ?_
  refine g_getR (p0 := 17) dX9_undo_14 fX9_22 (by first | rfl | assumption | exact RW.s (by assumption) | exact TW.s (by assumption)) rfl rfl ?_
  refine g_aload_n (p0 := 18) (i := 0) dX9_undo_17 rfl rfl rfl ?_
  refine g_getR (p0 := 21) dX9_undo_18 fX9_10 (by first | rfl | assumption | exact RW.s (by assumption) | exact TW.s (by assumption)) rfl rfl ?_
  refine g_cV1V (p0 := 24) (r1 := mX2_restore) dX9_undo_21 lX9_256 vX2_restore (by first | rfl | assumption | exact RW.s (by assumption) | exact TW.s (by assumption)) ⟨_, _, rfl⟩ (FITi rfl rfl) (Nat.le_of_ble_eq_true rfl) (hres) rfl ?_
  refine g_aload_n (p0 := 25) (i := 0) dX9_undo_24 rfl rfl rfl ?_
  refine g_getR (p0 := 28) dX9_undo_25 fX9_29 (by first | rfl | assumption | exact RW.s (by assumption) | exact TW.s (by assumption)) rfl rfl ?_
  refine g_aload_n (p0 := 29) (i := 0) dX9_undo_28 rfl rfl rfl ?_
  refine g_getR (p0 := 32) dX9_undo_29 fX9_10 (by first | rfl | assumption | exact RW.s (by assumption) | exact TW.s (by assumption)) rfl rfl ?_
  refine g_cV1P (p0 := 35) (r1 := mX6_refresh) dX9_undo_32 lX9_62 vX6_refresh (by first | rfl | assumption | exact RW.s (by assumption) | exact TW.s (by assumption)) ⟨_, _, rfl⟩ (FITi rfl rfl) (Nat.le_of_ble_eq_true rfl) (refresh_sp hRep1 hRow h651) rfl ?_
  rintro σ2 ⟨hRD2, fr2⟩
  have v2 : σ2 11 2 = nI n := by rw [fr2 11 (by decide)]; exact h112
  refine g_aload_n (p0 := 36) (i := 0) dX9_undo_35 rfl rfl rfl ?_
  refine g_getR (p0 := 39) dX9_undo_36 fX9_22 (by first | rfl | assumption | exact RW.s (by assumption) | exact TW.s (by assumption)) rfl rfl ?_
  refine g_getI (p0 := 42) dX9_undo_39 fX9_253 (by first | rfl | assumption | exact RW.s (by assumption) | exact TW.s (by assumption)) rfl (by first | assumption | ((repeat (first | exact up_hit | refine up_nv (by decide) ?_ | refine up_mv (by first | decide | omega) ?_)) <;> first | assumption | rfl)) rfl ?_
  refine g_ireturn dX9_undo_42 rfl rfl (?_)
  refine ⟨rfl, hRep1.of_eq (fr2 _ (by decide)) (fr2 _ (by decide)) (fr2 _ (by decide)), ⟨q, hq, by rw [fr2 11 (by decide)]; exact h111, v2, by omega, fun i hi => ⟨(hall i (by omega)).1, ?_⟩⟩, hRD2, fun z hz => ?_⟩
  · have hm2 : (q + i) % 4 < 4 := Nat.mod_lt _ (by decide)
    refine (hall i (by omega)).2.of_eq ?_ ?_ ?_ <;> (rw [fr2 _ (by omega), fr1 _ (by omega) (by omega)])
  · rw [fr2 z (by omega), fr1 z (by omega) (by omega)]
theorem op_undo (u : Unit) : OpOK Inv mX9_undo mX10_undo [] := by
  intro σ hI
  obtain ⟨s, n, H, len, hR, hRep, hHC, hHR, hRD, hT⟩ := id hI
  have h65 := hRD.2.2.2.2.2.2
  cases n with
  | zero =>
    obtain ⟨q, hq, o1, o2, hn4, hall⟩ := id hHC
    exact op_same hI (undo_c0 o2) (undo_r0 hHR.1)
  | succ n =>
    obtain ⟨hRow, hc⟩ := undo_c hHC hHR h65
    have hn4 := HC_le hHC
    refine CM.mono hc ?_
    rintro w σ3 ⟨rfl, a1, a2, a3, a4⟩
    have e79 := a4 79 (by decide)
    have e80 := a4 80 (by decide)
    have e81 := a4 81 (by decide)
    refine ⟨_, rfl, CM.mono (undo_r (n := n) (by rw [e79]; exact hHR.1) (by omega)) ?_⟩
    rintro w2 σ4 ⟨rfl, rfl⟩
    rw [e80, e81]
    have fr : ∀ z, z ≠ 79 → z ≠ 80 → (setR (up σ3 79 3 (nI n)) 80 (cpP (σ 80) (σ 81) (189 * n) 189)) z = σ3 z := fun z h1 h2 => by rw [setR_ne h2, up_ne h1]
    refine ⟨rfl, (H n).2, n, H, len, by rw [setR_hit]; exact hRow, ?_, a2.of (fun z h1 h2 => fr z (by omega) (by omega)), ⟨?_, fun i hi k hk => ?_⟩, ?_, ?_⟩
    · rw [setR_hit]; exact a1.of_eq (fr _ (by decide) (by decide)) (fr _ (by decide) (by decide)) (fr _ (by decide) (by decide))
    · rw [setR_ne (by decide), up_hit]
    · rw [fr 81 (by decide) (by decide), e81]; exact hHR.2 i (by omega) k hk
    · rw [setR_hit]; exact a3.of (fun z h1 h2 => fr z (by omega) (by omega))
    · obtain ⟨t1, t2, t3, t4⟩ := hT
      refine ⟨by rw [fr 76 (by decide) (by decide), a4 76 (by decide)]; exact t1, by rw [setR_ne (by decide), up_miss (by decide), e79]; exact t2, t3, fun i hi => ?_⟩
      rw [fr 78 (by decide) (by decide), fr 83 (by decide) (by decide), a4 78 (by decide), a4 83 (by decide)]
      exact t4 i hi
