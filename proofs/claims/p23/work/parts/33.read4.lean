/-! THE CLASS: out of the rows of whole -/
/-- letters by the cells of the table -/
def icF (f : Nat → Int32) (cf : Nat → Nat) : Nat → Nat → Int32
  | 0 => f
  | j + 1 => upd (icF f cf j) (cf j) (nI j)
theorem icF_at {f : Nat → Int32} {cf : Nat → Nat} (hinj : ∀ l m, l < 25 → m < 25 → cf l = cf m → l = m) : ∀ n, n ≤ 25 → ∀ l, l < n → icF f cf n (cf l) = nI l
  | 0, _, l, h => absurd h (Nat.not_lt_zero l)
  | n + 1, hn, l, h => by
    rw [icF]
    by_cases e : l = n
    · subst e; exact upd_hit
    · rw [upd_ne (fun q => e (hinj l n (by omega) (by omega) q))]
      exact icF_at hinj n (by omega) l (by omega)
/-- a letter by its groups' counts, or -1 -/
def val (lc : Nat → Int32) (g a b : Nat) : Int32 := if g = 2 ∧ (1 ≤ a ∧ a ≤ 5 ∧ 1 ≤ b ∧ b ≤ 5) then lc (5 * (a - 1) + b - 1) else -1
set_option maxRecDepth 20000 in
set_option maxHeartbeats 2000000 in
theorem restart_loop {cf : Nat → Nat} {σ : Sg} {Q : SP} (hc : ∀ l, l < 25 → σ 5 l = nI (cf l) ∧ cf l < 25) (k : Q none (setR σ 44 (icF (σ 44) cf 25))) : ∀ m j, j + m = 25 → WM mX3_restart Q 7 [some (ar 34), some (ar 1), some (ai (nI j))] [] (setR σ 44 (icF (σ 44) cf j)) := by
  intro m
  induction m with
  | zero =>
    intro j hj
    obtain rfl : j = 25 := by omega
    refine g_iload_n (p0 := 8) (i := 2) dX3_restart_7 rfl rfl rfl ?_
    refine g_bipush (p0 := 10) (v := nI 25) dX3_restart_8 (by decide) rfl ?_
    first | ((with_reducible refine isN2 ?_); refine g_icmpN_ge (tgt := 35) (p1 := 13) dX3_restart_10 rfl (by omega) (by omega) rfl (fun c_10 => ?_) (fun c_10 => by exfalso; first | omega | contradiction | exact absurd (by assumption) c_10 | (simp_all; done))) | refine g_icmp_ge (tgt := 35) (p1 := 13) dX3_restart_10 rfl rfl (fun c_10 => ?_) (fun c_10 => by exfalso; first | omega | contradiction | exact absurd (by assumption) c_10 | (simp_all; done))
    refine g_return dX3_restart_35 rfl ?_
    exact k
  | succ m ih =>
    intro j hj
    obtain ⟨h1, h2⟩ := hc j (by omega)
    have h3 : setR σ 44 (icF (σ 44) cf j) 5 j = nI (cf j) := by rw [setR_ne (by decide)]; exact h1
    have e : up (setR σ 44 (icF (σ 44) cf j)) 44 (cf j) (nI j) = setR σ 44 (icF (σ 44) cf (j + 1)) := by
      rw [up_setR, setR_setR, setR_hit, icF]
    refine g_iload_n (p0 := 8) (i := 2) dX3_restart_7 rfl rfl rfl ?_
    refine g_bipush (p0 := 10) (v := nI 25) dX3_restart_8 (by decide) rfl ?_
    first | ((with_reducible refine isN2 ?_); refine g_icmpN_ge (tgt := 35) (p1 := 13) dX3_restart_10 rfl (by omega) (by omega) rfl (fun c_10 => by exfalso; first | omega | contradiction | exact absurd (by assumption) c_10 | (simp_all; done)) (fun c_10 => ?_)) | refine g_icmp_ge (tgt := 35) (p1 := 13) dX3_restart_10 rfl rfl (fun c_10 => by exfalso; first | omega | contradiction | exact absurd (by assumption) c_10 | (simp_all; done)) (fun c_10 => ?_)
    refine g_aload_n (p0 := 14) (i := 0) dX3_restart_13 rfl rfl rfl ?_
    refine g_getR (p0 := 17) dX3_restart_14 fX3_29 (by first | rfl | assumption | exact RW.s (by assumption) | exact TW.s (by assumption)) rfl rfl ?_
    refine g_aload_n (p0 := 18) (i := 1) dX3_restart_17 rfl rfl rfl ?_
    refine g_getR (p0 := 21) dX3_restart_18 fX3_36 (by first | rfl | assumption | exact RW.s (by assumption) | exact TW.s (by assumption)) rfl rfl ?_
    refine g_iload_n (p0 := 22) (i := 2) dX3_restart_21 rfl rfl rfl ?_
    refine g_cV1R (p0 := 25) (r1 := mX7_at) dX3_restart_22 lX3_41 vX7_at (by first | rfl | assumption | exact RW.s (by assumption) | exact TW.s (by assumption)) ⟨_, _, rfl⟩ (FITi rfl rfl) (Nat.le_of_ble_eq_true rfl) (at_N (by first | exact ⟨rfl, rfl, by decide⟩ | assumption) (by omega) (by first | assumption | exact up_hit | exact up_nv (by omega) (by assumption) | exact up_mv (by omega) (by assumption) | exact up_nv (by omega) (up_nv (by omega) (by assumption)) | exact up_nv (by omega) up_hit | rfl)) rfl ?_
    refine g_iload_n (p0 := 26) (i := 2) dX3_restart_25 rfl rfl rfl ?_
    refine g_cV2V (p0 := 29) (r1 := mX7_put) dX3_restart_26 lX3_45 vX7_put (by first | rfl | assumption | exact RW.s (by assumption) | exact TW.s (by assumption)) ⟨_, _, rfl⟩ (FITi rfl rfl) (Nat.le_of_ble_eq_true rfl) (put_N (by first | exact ⟨rfl, rfl, by decide⟩ | assumption) (by omega)) rfl ?_
    first | refine g_iinc1 (p0 := 32) (ls2 := [_, _, _]) dX3_restart_29 rfl rfl rfl ?_ | refine g_iinc (p0 := 32) (ls2 := [_, _, _]) dX3_restart_29 rfl rfl rfl rfl ?_
    refine g_goto (tgt := 7) dX3_restart_32 rfl ?_
    rw [e]
    exact ih (j + 1) (by omega)
set_option maxRecDepth 20000 in
set_option maxHeartbeats 2000000 in
theorem restart_sp {cf : Nat → Nat} {σ : Sg} (hc : ∀ l, l < 25 → σ 5 l = nI (cf l) ∧ cf l < 25) : CM mX3_restart [ar 34, ar 1] σ (RetV (setR (up σ 34 5 (nI 0)) 44 (icF (σ 44) cf 25))) := by
  refine CM_in (ls := [some (ar 34), some (ar 1), none]) rfl ?_
  refine g_aload_n (p0 := 1) (i := 0) dX3_restart_0 rfl rfl rfl ?_
  refine g_iconst (p0 := 2) (v := nI 0) dX3_restart_1 rfl rfl ?_
  refine g_put (p0 := 5) dX3_restart_2 fX3_32 (by first | rfl | assumption | exact RW.s (by assumption) | exact TW.s (by assumption)) rfl nX3_5 (pX3_5 _) rfl ?_
  refine g_iconst (p0 := 6) (v := nI 0) dX3_restart_5 rfl rfl ?_
  refine g_istore_n (p0 := 7) (i := 2) (ls2 := [_, _, _]) dX3_restart_6 rfl (Nat.le_of_ble_eq_true rfl) rfl rfl ?_
  have h := restart_loop (σ := up σ 34 5 (nI 0)) (Q := RetV (setR (up σ 34 5 (nI 0)) 44 (icF (σ 44) cf 25))) (cf := cf) (fun l hl => by rw [up_ne (by decide)]; exact hc l hl) (by rw [up_ne (by decide)]; exact ⟨rfl, rfl⟩) 25 0 rfl
  have e0 : setR (up σ 34 5 (nI 0)) 44 (icF (up σ 34 5 (nI 0) 44) cf 0) = up σ 34 5 (nI 0) := setR_id rfl
  rw [e0] at h
  exact h
set_option maxRecDepth 20000 in
set_option maxHeartbeats 2000000 in
theorem letterBy_T {r q : Nat} {σ : Sg} (hr : r < 1000) (hq : q < 1000) (h : 1 ≤ r ∧ r ≤ 5 ∧ 1 ≤ q ∧ q ≤ 5) : CM mX3_letterBy [ar 34, ai (nI r), ai (nI q)] σ (Ret (σ 44 (5 * (r - 1) + q - 1)) σ) := by
  refine CM_in (ls := [some (ar 34), some (ai (nI r)), some (ai (nI q))]) rfl ?_
  refine g_iload_n (p0 := 1) (i := 1) dX3_letterBy_0 rfl rfl rfl ?_
  refine g_iconst (p0 := 2) (v := nI 1) dX3_letterBy_1 rfl rfl ?_
  first | ((with_reducible refine isN2 ?_); refine g_icmpN_lt (tgt := 20) (p1 := 5) dX3_letterBy_2 rfl (by omega) (by omega) rfl (fun c_2 => by exfalso; first | omega | contradiction | exact absurd (by assumption) c_2 | (simp_all; done)) (fun c_2 => ?_)) | refine g_icmp_lt (tgt := 20) (p1 := 5) dX3_letterBy_2 rfl rfl (fun c_2 => by exfalso; first | omega | contradiction | exact absurd (by assumption) c_2 | (simp_all; done)) (fun c_2 => ?_)
  refine g_iload_n (p0 := 6) (i := 1) dX3_letterBy_5 rfl rfl rfl ?_
  refine g_iconst (p0 := 7) (v := nI 5) dX3_letterBy_6 rfl rfl ?_
  first | ((with_reducible refine isN2 ?_); refine g_icmpN_gt (tgt := 20) (p1 := 10) dX3_letterBy_7 rfl (by omega) (by omega) rfl (fun c_7 => by exfalso; first | omega | contradiction | exact absurd (by assumption) c_7 | (simp_all; done)) (fun c_7 => ?_)) | refine g_icmp_gt (tgt := 20) (p1 := 10) dX3_letterBy_7 rfl rfl (fun c_7 => by exfalso; first | omega | contradiction | exact absurd (by assumption) c_7 | (simp_all; done)) (fun c_7 => ?_)
  refine g_iload_n (p0 := 11) (i := 2) dX3_letterBy_10 rfl rfl rfl ?_
  refine g_iconst (p0 := 12) (v := nI 1) dX3_letterBy_11 rfl rfl ?_
  first | ((with_reducible refine isN2 ?_); refine g_icmpN_lt (tgt := 20) (p1 := 15) dX3_letterBy_12 rfl (by omega) (by omega) rfl (fun c_12 => by exfalso; first | omega | contradiction | exact absurd (by assumption) c_12 | (simp_all; done)) (fun c_12 => ?_)) | refine g_icmp_lt (tgt := 20) (p1 := 15) dX3_letterBy_12 rfl rfl (fun c_12 => by exfalso; first | omega | contradiction | exact absurd (by assumption) c_12 | (simp_all; done)) (fun c_12 => ?_)
  refine g_iload_n (p0 := 16) (i := 2) dX3_letterBy_15 rfl rfl rfl ?_
  refine g_iconst (p0 := 17) (v := nI 5) dX3_letterBy_16 rfl rfl ?_
  first | ((with_reducible refine isN2 ?_); refine g_icmpN_le (tgt := 22) (p1 := 20) dX3_letterBy_17 rfl (by omega) (by omega) rfl (fun c_17 => ?_) (fun c_17 => by exfalso; first | omega | contradiction | exact absurd (by assumption) c_17 | (simp_all; done))) | refine g_icmp_le (tgt := 22) (p1 := 20) dX3_letterBy_17 rfl rfl (fun c_17 => ?_) (fun c_17 => by exfalso; first | omega | contradiction | exact absurd (by assumption) c_17 | (simp_all; done))
  refine g_aload_n (p0 := 23) (i := 0) dX3_letterBy_22 rfl rfl rfl ?_
  refine g_getR (p0 := 26) dX3_letterBy_23 fX3_29 (by first | rfl | assumption | exact RW.s (by assumption) | exact TW.s (by assumption)) rfl rfl ?_
  refine g_iconst (p0 := 27) (v := nI 5) dX3_letterBy_26 rfl rfl ?_
  refine g_iload_n (p0 := 28) (i := 1) dX3_letterBy_27 rfl rfl rfl ?_
  refine g_iconst (p0 := 29) (v := nI 1) dX3_letterBy_28 rfl rfl ?_
  first | ((with_reducible refine isN2 ?_); refine g_isubN (p0 := 30) dX3_letterBy_29 (by omega) rfl ?_) | refine g_isub (p0 := 30) dX3_letterBy_29 rfl ?_
  first | ((with_reducible refine isN2 ?_); refine g_imulN (p0 := 31) dX3_letterBy_30 rfl ?_) | refine g_imul (p0 := 31) dX3_letterBy_30 rfl ?_
  refine g_iload_n (p0 := 32) (i := 2) dX3_letterBy_31 rfl rfl rfl ?_
  first | ((with_reducible refine isN2 ?_); refine g_iaddN (p0 := 33) dX3_letterBy_32 rfl ?_) | refine g_iadd (p0 := 33) dX3_letterBy_32 rfl ?_
  refine g_iconst (p0 := 34) (v := nI 1) dX3_letterBy_33 rfl rfl ?_
  first | ((with_reducible refine isN2 ?_); refine g_isubN (p0 := 35) dX3_letterBy_34 (by omega) rfl ?_) | refine g_isub (p0 := 35) dX3_letterBy_34 rfl ?_
  refine g_cV1R (p0 := 38) (r1 := mX7_at) dX3_letterBy_35 lX3_41 vX7_at (by first | rfl | assumption | exact RW.s (by assumption) | exact TW.s (by assumption)) ⟨_, _, rfl⟩ (FITi rfl rfl) (Nat.le_of_ble_eq_true rfl) (at_N (by first | exact ⟨rfl, rfl, by decide⟩ | assumption) (by omega) (by first | assumption | exact up_hit | exact up_nv (by omega) (by assumption) | exact up_mv (by omega) (by assumption) | exact up_nv (by omega) (up_nv (by omega) (by assumption)) | exact up_nv (by omega) up_hit | rfl)) rfl ?_
  refine g_ireturn dX3_letterBy_38 rfl rfl (?_)
  exact ⟨rfl, rfl⟩
set_option maxRecDepth 20000 in
set_option maxHeartbeats 2000000 in
theorem letterBy_F1 {r q : Nat} {σ : Sg} (hr : r < 1000) (hq : q < 1000) (h : r < 1) : CM mX3_letterBy [ar 34, ai (nI r), ai (nI q)] σ (Ret (-1) σ) := by
  refine CM_in (ls := [some (ar 34), some (ai (nI r)), some (ai (nI q))]) rfl ?_
  refine g_iload_n (p0 := 1) (i := 1) dX3_letterBy_0 rfl rfl rfl ?_
  refine g_iconst (p0 := 2) (v := nI 1) dX3_letterBy_1 rfl rfl ?_
  first | ((with_reducible refine isN2 ?_); refine g_icmpN_lt (tgt := 20) (p1 := 5) dX3_letterBy_2 rfl (by omega) (by omega) rfl (fun c_2 => ?_) (fun c_2 => by exfalso; first | omega | contradiction | exact absurd (by assumption) c_2 | (simp_all; done))) | refine g_icmp_lt (tgt := 20) (p1 := 5) dX3_letterBy_2 rfl rfl (fun c_2 => ?_) (fun c_2 => by exfalso; first | omega | contradiction | exact absurd (by assumption) c_2 | (simp_all; done))
  refine g_iconst (p0 := 21) (v := -1) dX3_letterBy_20 rfl rfl ?_
  refine g_ireturn dX3_letterBy_21 rfl rfl (?_)
  exact ⟨rfl, rfl⟩
set_option maxRecDepth 20000 in
set_option maxHeartbeats 2000000 in
theorem letterBy_F2 {r q : Nat} {σ : Sg} (hr : r < 1000) (hq : q < 1000) (h : 5 < r) : CM mX3_letterBy [ar 34, ai (nI r), ai (nI q)] σ (Ret (-1) σ) := by
  refine CM_in (ls := [some (ar 34), some (ai (nI r)), some (ai (nI q))]) rfl ?_
  refine g_iload_n (p0 := 1) (i := 1) dX3_letterBy_0 rfl rfl rfl ?_
  refine g_iconst (p0 := 2) (v := nI 1) dX3_letterBy_1 rfl rfl ?_
  first | ((with_reducible refine isN2 ?_); refine g_icmpN_lt (tgt := 20) (p1 := 5) dX3_letterBy_2 rfl (by omega) (by omega) rfl (fun c_2 => by exfalso; first | omega | contradiction | exact absurd (by assumption) c_2 | (simp_all; done)) (fun c_2 => ?_)) | refine g_icmp_lt (tgt := 20) (p1 := 5) dX3_letterBy_2 rfl rfl (fun c_2 => by exfalso; first | omega | contradiction | exact absurd (by assumption) c_2 | (simp_all; done)) (fun c_2 => ?_)
  refine g_iload_n (p0 := 6) (i := 1) dX3_letterBy_5 rfl rfl rfl ?_
  refine g_iconst (p0 := 7) (v := nI 5) dX3_letterBy_6 rfl rfl ?_
  first | ((with_reducible refine isN2 ?_); refine g_icmpN_gt (tgt := 20) (p1 := 10) dX3_letterBy_7 rfl (by omega) (by omega) rfl (fun c_7 => ?_) (fun c_7 => by exfalso; first | omega | contradiction | exact absurd (by assumption) c_7 | (simp_all; done))) | refine g_icmp_gt (tgt := 20) (p1 := 10) dX3_letterBy_7 rfl rfl (fun c_7 => ?_) (fun c_7 => by exfalso; first | omega | contradiction | exact absurd (by assumption) c_7 | (simp_all; done))
  refine g_iconst (p0 := 21) (v := -1) dX3_letterBy_20 rfl rfl ?_
  refine g_ireturn dX3_letterBy_21 rfl rfl (?_)
  exact ⟨rfl, rfl⟩
set_option maxRecDepth 20000 in
set_option maxHeartbeats 2000000 in
theorem letterBy_F3 {r q : Nat} {σ : Sg} (hr : r < 1000) (hq : q < 1000) (h : 1 ≤ r ∧ r ≤ 5) (h2 : q < 1) : CM mX3_letterBy [ar 34, ai (nI r), ai (nI q)] σ (Ret (-1) σ) := by
  refine CM_in (ls := [some (ar 34), some (ai (nI r)), some (ai (nI q))]) rfl ?_
  refine g_iload_n (p0 := 1) (i := 1) dX3_letterBy_0 rfl rfl rfl ?_
  refine g_iconst (p0 := 2) (v := nI 1) dX3_letterBy_1 rfl rfl ?_
  first | ((with_reducible refine isN2 ?_); refine g_icmpN_lt (tgt := 20) (p1 := 5) dX3_letterBy_2 rfl (by omega) (by omega) rfl (fun c_2 => by exfalso; first | omega | contradiction | exact absurd (by assumption) c_2 | (simp_all; done)) (fun c_2 => ?_)) | refine g_icmp_lt (tgt := 20) (p1 := 5) dX3_letterBy_2 rfl rfl (fun c_2 => by exfalso; first | omega | contradiction | exact absurd (by assumption) c_2 | (simp_all; done)) (fun c_2 => ?_)
  refine g_iload_n (p0 := 6) (i := 1) dX3_letterBy_5 rfl rfl rfl ?_
  refine g_iconst (p0 := 7) (v := nI 5) dX3_letterBy_6 rfl rfl ?_
  first | ((with_reducible refine isN2 ?_); refine g_icmpN_gt (tgt := 20) (p1 := 10) dX3_letterBy_7 rfl (by omega) (by omega) rfl (fun c_7 => by exfalso; first | omega | contradiction | exact absurd (by assumption) c_7 | (simp_all; done)) (fun c_7 => ?_)) | refine g_icmp_gt (tgt := 20) (p1 := 10) dX3_letterBy_7 rfl rfl (fun c_7 => by exfalso; first | omega | contradiction | exact absurd (by assumption) c_7 | (simp_all; done)) (fun c_7 => ?_)
  refine g_iload_n (p0 := 11) (i := 2) dX3_letterBy_10 rfl rfl rfl ?_
  refine g_iconst (p0 := 12) (v := nI 1) dX3_letterBy_11 rfl rfl ?_
  first | ((with_reducible refine isN2 ?_); refine g_icmpN_lt (tgt := 20) (p1 := 15) dX3_letterBy_12 rfl (by omega) (by omega) rfl (fun c_12 => ?_) (fun c_12 => by exfalso; first | omega | contradiction | exact absurd (by assumption) c_12 | (simp_all; done))) | refine g_icmp_lt (tgt := 20) (p1 := 15) dX3_letterBy_12 rfl rfl (fun c_12 => ?_) (fun c_12 => by exfalso; first | omega | contradiction | exact absurd (by assumption) c_12 | (simp_all; done))
  refine g_iconst (p0 := 21) (v := -1) dX3_letterBy_20 rfl rfl ?_
  refine g_ireturn dX3_letterBy_21 rfl rfl (?_)
  exact ⟨rfl, rfl⟩
set_option maxRecDepth 20000 in
set_option maxHeartbeats 2000000 in
theorem letterBy_F4 {r q : Nat} {σ : Sg} (hr : r < 1000) (hq : q < 1000) (h : 1 ≤ r ∧ r ≤ 5) (h2 : 5 < q) : CM mX3_letterBy [ar 34, ai (nI r), ai (nI q)] σ (Ret (-1) σ) := by
  refine CM_in (ls := [some (ar 34), some (ai (nI r)), some (ai (nI q))]) rfl ?_
  refine g_iload_n (p0 := 1) (i := 1) dX3_letterBy_0 rfl rfl rfl ?_
  refine g_iconst (p0 := 2) (v := nI 1) dX3_letterBy_1 rfl rfl ?_
  first | ((with_reducible refine isN2 ?_); refine g_icmpN_lt (tgt := 20) (p1 := 5) dX3_letterBy_2 rfl (by omega) (by omega) rfl (fun c_2 => by exfalso; first | omega | contradiction | exact absurd (by assumption) c_2 | (simp_all; done)) (fun c_2 => ?_)) | refine g_icmp_lt (tgt := 20) (p1 := 5) dX3_letterBy_2 rfl rfl (fun c_2 => by exfalso; first | omega | contradiction | exact absurd (by assumption) c_2 | (simp_all; done)) (fun c_2 => ?_)
  refine g_iload_n (p0 := 6) (i := 1) dX3_letterBy_5 rfl rfl rfl ?_
  refine g_iconst (p0 := 7) (v := nI 5) dX3_letterBy_6 rfl rfl ?_
  first | ((with_reducible refine isN2 ?_); refine g_icmpN_gt (tgt := 20) (p1 := 10) dX3_letterBy_7 rfl (by omega) (by omega) rfl (fun c_7 => by exfalso; first | omega | contradiction | exact absurd (by assumption) c_7 | (simp_all; done)) (fun c_7 => ?_)) | refine g_icmp_gt (tgt := 20) (p1 := 10) dX3_letterBy_7 rfl rfl (fun c_7 => by exfalso; first | omega | contradiction | exact absurd (by assumption) c_7 | (simp_all; done)) (fun c_7 => ?_)
  refine g_iload_n (p0 := 11) (i := 2) dX3_letterBy_10 rfl rfl rfl ?_
  refine g_iconst (p0 := 12) (v := nI 1) dX3_letterBy_11 rfl rfl ?_
  first | ((with_reducible refine isN2 ?_); refine g_icmpN_lt (tgt := 20) (p1 := 15) dX3_letterBy_12 rfl (by omega) (by omega) rfl (fun c_12 => by exfalso; first | omega | contradiction | exact absurd (by assumption) c_12 | (simp_all; done)) (fun c_12 => ?_)) | refine g_icmp_lt (tgt := 20) (p1 := 15) dX3_letterBy_12 rfl rfl (fun c_12 => by exfalso; first | omega | contradiction | exact absurd (by assumption) c_12 | (simp_all; done)) (fun c_12 => ?_)
  refine g_iload_n (p0 := 16) (i := 2) dX3_letterBy_15 rfl rfl rfl ?_
  refine g_iconst (p0 := 17) (v := nI 5) dX3_letterBy_16 rfl rfl ?_
  first | ((with_reducible refine isN2 ?_); refine g_icmpN_le (tgt := 22) (p1 := 20) dX3_letterBy_17 rfl (by omega) (by omega) rfl (fun c_17 => by exfalso; first | omega | contradiction | exact absurd (by assumption) c_17 | (simp_all; done)) (fun c_17 => ?_)) | refine g_icmp_le (tgt := 22) (p1 := 20) dX3_letterBy_17 rfl rfl (fun c_17 => by exfalso; first | omega | contradiction | exact absurd (by assumption) c_17 | (simp_all; done)) (fun c_17 => ?_)
  refine g_iconst (p0 := 21) (v := -1) dX3_letterBy_20 rfl rfl ?_
  refine g_ireturn dX3_letterBy_21 rfl rfl (?_)
  exact ⟨rfl, rfl⟩
theorem letterBy_sp {r q : Nat} {σ : Sg} (hr : r < 1000) (hq : q < 1000) : CM mX3_letterBy [ar 34, ai (nI r), ai (nI q)] σ (Ret (val (σ 44) 2 r q) σ) := by
  by_cases h : 1 ≤ r ∧ r ≤ 5 ∧ 1 ≤ q ∧ q ≤ 5
  · rw [val, if_pos ⟨rfl, h⟩]
    exact letterBy_T hr hq h
  · rw [val, if_neg (fun z => h z.2)]
    by_cases h1 : r < 1
    · exact letterBy_F1 hr hq h1
    · by_cases h2 : 5 < r
      · exact letterBy_F2 hr hq h2
      · by_cases h3 : q < 1
        · exact letterBy_F3 hr hq ⟨by omega, by omega⟩ h3
        · exact letterBy_F4 hr hq ⟨by omega, by omega⟩ (by omega)
set_option maxRecDepth 20000 in
set_option maxHeartbeats 2000000 in
theorem letterWith_0 {i g a b : Nat} {σ : Sg} (hi : i < 160) (hg : σ 36 i = nI g) (ha : σ 38 i = nI a) (hb : σ 40 i = nI b) (hg1 : g < 500) (ha1 : a < 500) (hb1 : b < 500)  : CM mX3_letterWith [ar 34, ai (nI i), ai (nI 0), ai (nI 0)] σ (Ret (val (σ 44) g a b) σ) := by
  by_cases hg2 : g = 2
  · subst hg2
    refine CM_in (ls := [some (ar 34), some (ai (nI i)), some (ai (nI 0)), some (ai (nI 0)), none, none]) rfl ?_
    refine g_aload_n (p0 := 1) (i := 0) dX3_letterWith_0 rfl rfl rfl ?_
    refine g_getR (p0 := 4) dX3_letterWith_1 fX3_14 (by first | rfl | assumption | exact RW.s (by assumption) | exact TW.s (by assumption)) rfl rfl ?_
    refine g_iload_n (p0 := 5) (i := 1) dX3_letterWith_4 rfl rfl rfl ?_
    refine g_cV1R (p0 := 8) (r1 := mX7_at) dX3_letterWith_5 lX3_41 vX7_at (by first | rfl | assumption | exact RW.s (by assumption) | exact TW.s (by assumption)) ⟨_, _, rfl⟩ (FITi rfl rfl) (Nat.le_of_ble_eq_true rfl) (at_N (by first | exact ⟨rfl, rfl, by decide⟩ | assumption) (by omega) (by first | assumption | exact up_hit | exact up_nv (by omega) (by assumption) | exact up_mv (by omega) (by assumption) | exact up_nv (by omega) (up_nv (by omega) (by assumption)) | exact up_nv (by omega) up_hit | rfl)) rfl ?_
    refine g_iconst (p0 := 9) (v := nI 2) dX3_letterWith_8 rfl rfl ?_
    first | ((with_reducible refine isN2 ?_); refine g_icmpN_eq (tgt := 14) (p1 := 12) dX3_letterWith_9 rfl (by omega) (by omega) rfl (fun c_9 => ?_) (fun c_9 => by exfalso; first | omega | contradiction | exact absurd (by assumption) c_9 | (simp_all; done))) | refine g_icmp_eq (tgt := 14) (p1 := 12) dX3_letterWith_9 rfl rfl (fun c_9 => ?_) (fun c_9 => by exfalso; first | omega | contradiction | exact absurd (by assumption) c_9 | (simp_all; done))
    refine g_aload_n (p0 := 15) (i := 0) dX3_letterWith_14 rfl rfl rfl ?_
    refine g_getR (p0 := 18) dX3_letterWith_15 fX3_20 (by first | rfl | assumption | exact RW.s (by assumption) | exact TW.s (by assumption)) rfl rfl ?_
    refine g_iload_n (p0 := 19) (i := 1) dX3_letterWith_18 rfl rfl rfl ?_
    refine g_cV1R (p0 := 22) (r1 := mX7_at) dX3_letterWith_19 lX3_41 vX7_at (by first | rfl | assumption | exact RW.s (by assumption) | exact TW.s (by assumption)) ⟨_, _, rfl⟩ (FITi rfl rfl) (Nat.le_of_ble_eq_true rfl) (at_N (by first | exact ⟨rfl, rfl, by decide⟩ | assumption) (by omega) (by first | assumption | exact up_hit | exact up_nv (by omega) (by assumption) | exact up_mv (by omega) (by assumption) | exact up_nv (by omega) (up_nv (by omega) (by assumption)) | exact up_nv (by omega) up_hit | rfl)) rfl ?_
    refine g_iload_n (p0 := 23) (i := 2) dX3_letterWith_22 rfl rfl rfl ?_
    first | ((with_reducible refine isN1 ?_); refine g_ifN_ne (tgt := 30) (p1 := 26) dX3_letterWith_23 rfl (by omega) rfl (fun c_23 => by exfalso; first | omega | contradiction | exact absurd (by assumption) c_23 | (simp_all; done)) (fun c_23 => ?_)) | refine g_if_ne (tgt := 30) (p1 := 26) dX3_letterWith_23 rfl rfl (fun c_23 => by exfalso; first | omega | contradiction | exact absurd (by assumption) c_23 | (simp_all; done)) (fun c_23 => ?_)
    refine g_iload_n (p0 := 27) (i := 3) dX3_letterWith_26 rfl rfl rfl ?_
    refine g_goto (tgt := 31) dX3_letterWith_27 rfl ?_
    first | ((with_reducible refine isN2 ?_); refine g_iaddN (p0 := 32) dX3_letterWith_31 rfl ?_) | refine g_iadd (p0 := 32) dX3_letterWith_31 rfl ?_
    refine g_istore (p0 := 34) (i := 4) (ls2 := [_, _, _, _, _, _]) dX3_letterWith_32 (Nat.le_of_ble_eq_true rfl) rfl rfl ?_
    refine g_aload_n (p0 := 35) (i := 0) dX3_letterWith_34 rfl rfl rfl ?_
    refine g_getR (p0 := 38) dX3_letterWith_35 fX3_23 (by first | rfl | assumption | exact RW.s (by assumption) | exact TW.s (by assumption)) rfl rfl ?_
    refine g_iload_n (p0 := 39) (i := 1) dX3_letterWith_38 rfl rfl rfl ?_
    refine g_cV1R (p0 := 42) (r1 := mX7_at) dX3_letterWith_39 lX3_41 vX7_at (by first | rfl | assumption | exact RW.s (by assumption) | exact TW.s (by assumption)) ⟨_, _, rfl⟩ (FITi rfl rfl) (Nat.le_of_ble_eq_true rfl) (at_N (by first | exact ⟨rfl, rfl, by decide⟩ | assumption) (by omega) (by first | assumption | exact up_hit | exact up_nv (by omega) (by assumption) | exact up_mv (by omega) (by assumption) | exact up_nv (by omega) (up_nv (by omega) (by assumption)) | exact up_nv (by omega) up_hit | rfl)) rfl ?_
    refine g_iload_n (p0 := 43) (i := 2) dX3_letterWith_42 rfl rfl rfl ?_
    refine g_iconst (p0 := 44) (v := nI 1) dX3_letterWith_43 rfl rfl ?_
    first | ((with_reducible refine isN2 ?_); refine g_icmpN_ne (tgt := 51) (p1 := 47) dX3_letterWith_44 rfl (by omega) (by omega) rfl (fun c_44 => ?_) (fun c_44 => by exfalso; first | omega | contradiction | exact absurd (by assumption) c_44 | (simp_all; done))) | refine g_icmp_ne (tgt := 51) (p1 := 47) dX3_letterWith_44 rfl rfl (fun c_44 => ?_) (fun c_44 => by exfalso; first | omega | contradiction | exact absurd (by assumption) c_44 | (simp_all; done))
    refine g_iconst (p0 := 52) (v := nI 0) dX3_letterWith_51 rfl rfl ?_
    first | ((with_reducible refine isN2 ?_); refine g_iaddN (p0 := 53) dX3_letterWith_52 rfl ?_) | refine g_iadd (p0 := 53) dX3_letterWith_52 rfl ?_
    refine g_istore (p0 := 55) (i := 5) (ls2 := [_, _, _, _, _, _]) dX3_letterWith_53 (Nat.le_of_ble_eq_true rfl) rfl rfl ?_
    refine g_aload_n (p0 := 56) (i := 0) dX3_letterWith_55 rfl rfl rfl ?_
    refine g_iload (p0 := 58) dX3_letterWith_56 rfl rfl ?_
    refine g_iload (p0 := 60) dX3_letterWith_58 rfl rfl ?_
    refine g_cV2R (p0 := 63) (r1 := mX3_letterBy) dX3_letterWith_60 lX3_59 vX3_letterBy (by first | rfl | assumption | exact RW.s (by assumption) | exact TW.s (by assumption)) ⟨_, _, rfl⟩ (FITi rfl rfl) (Nat.le_of_ble_eq_true rfl) (letterBy_sp (by omega) (by omega)) rfl ?_
    refine g_ireturn dX3_letterWith_63 rfl rfl (?_)
    exact ⟨rfl, rfl⟩
  rw [val, if_neg (fun z => hg2 z.1)]
  refine CM_in (ls := [some (ar 34), some (ai (nI i)), some (ai (nI 0)), some (ai (nI 0)), none, none]) rfl ?_
  refine g_aload_n (p0 := 1) (i := 0) dX3_letterWith_0 rfl rfl rfl ?_
  refine g_getR (p0 := 4) dX3_letterWith_1 fX3_14 (by first | rfl | assumption | exact RW.s (by assumption) | exact TW.s (by assumption)) rfl rfl ?_
  refine g_iload_n (p0 := 5) (i := 1) dX3_letterWith_4 rfl rfl rfl ?_
  refine g_cV1R (p0 := 8) (r1 := mX7_at) dX3_letterWith_5 lX3_41 vX7_at (by first | rfl | assumption | exact RW.s (by assumption) | exact TW.s (by assumption)) ⟨_, _, rfl⟩ (FITi rfl rfl) (Nat.le_of_ble_eq_true rfl) (at_N (by first | exact ⟨rfl, rfl, by decide⟩ | assumption) (by omega) (by first | assumption | exact up_hit | exact up_nv (by omega) (by assumption) | exact up_mv (by omega) (by assumption) | exact up_nv (by omega) (up_nv (by omega) (by assumption)) | exact up_nv (by omega) up_hit | rfl)) rfl ?_
  refine g_iconst (p0 := 9) (v := nI 2) dX3_letterWith_8 rfl rfl ?_
  first | ((with_reducible refine isN2 ?_); refine g_icmpN_eq (tgt := 14) (p1 := 12) dX3_letterWith_9 rfl (by omega) (by omega) rfl (fun c_9 => by exfalso; first | omega | contradiction | exact absurd (by assumption) c_9 | (simp_all; done)) (fun c_9 => ?_)) | refine g_icmp_eq (tgt := 14) (p1 := 12) dX3_letterWith_9 rfl rfl (fun c_9 => by exfalso; first | omega | contradiction | exact absurd (by assumption) c_9 | (simp_all; done)) (fun c_9 => ?_)
  refine g_iconst (p0 := 13) (v := -1) dX3_letterWith_12 rfl rfl ?_
  refine g_ireturn dX3_letterWith_13 rfl rfl (?_)
  exact ⟨rfl, rfl⟩
set_option maxRecDepth 20000 in
set_option maxHeartbeats 2000000 in
theorem settle_loop {L : Nat} {g a b : Nat → Nat} {σ : Sg} {Q : SP} (h : LT σ L g a b) (hL : L ≤ 160) (hb : ∀ l, l < L → g l < 500 ∧ a l < 500 ∧ b l < 500) (k : Q none (setR σ 42 (fun i => if i < L then val (σ 44) (g i) (a i) (b i) else σ 42 i))) : ∀ m j, j + m = L → WM mX3_settle Q 2 [some (ar 34), some (ai (nI j))] [] (setR σ 42 (fun i => if i < j then val (σ 44) (g i) (a i) (b i) else σ 42 i)) := by
  intro m
  induction m with
  | zero =>
    intro j hj
    obtain rfl : j = L := by omega
    have v : setR σ 42 (fun i => if i < j then val (σ 44) (g i) (a i) (b i) else σ 42 i) 34 5 = nI j := by rw [setR_ne (by decide)]; exact h.1
    refine g_iload_n (p0 := 3) (i := 1) dX3_settle_2 rfl rfl rfl ?_
    refine g_aload_n (p0 := 4) (i := 0) dX3_settle_3 rfl rfl rfl ?_
    refine g_getI (p0 := 7) dX3_settle_4 fX3_32 (by first | rfl | assumption | exact RW.s (by assumption) | exact TW.s (by assumption)) rfl (by first | assumption | ((repeat (first | exact up_hit | refine up_nv (by decide) ?_ | refine up_mv (by first | decide | omega) ?_)) <;> first | assumption | rfl)) rfl ?_
    first | ((with_reducible refine isN2 ?_); refine g_icmpN_ge (tgt := 31) (p1 := 10) dX3_settle_7 rfl (by omega) (by omega) rfl (fun c_7 => ?_) (fun c_7 => by exfalso; first | omega | contradiction | exact absurd (by assumption) c_7 | (simp_all; done))) | refine g_icmp_ge (tgt := 31) (p1 := 10) dX3_settle_7 rfl rfl (fun c_7 => ?_) (fun c_7 => by exfalso; first | omega | contradiction | exact absurd (by assumption) c_7 | (simp_all; done))
    refine g_return dX3_settle_31 rfl ?_
    exact k
  | succ m ih =>
    intro j hj
    obtain ⟨h1, h2, h3⟩ := h.2 j (by omega)
    obtain ⟨b1, b2, b3⟩ := hb j (by omega)
    obtain ⟨σj, hσ⟩ : ∃ z, z = setR σ 42 (fun i => if i < j then val (σ 44) (g i) (a i) (b i) else σ 42 i) := ⟨_, rfl⟩
    have f : ∀ z, z ≠ 42 → σj z = σ z := fun z hz => by rw [hσ, setR_ne hz]
    have v : σj 34 5 = nI L := by rw [f _ (by decide)]; exact h.1
    have w1 : σj 36 j = nI (g j) := by rw [f _ (by decide)]; exact h1
    have w2 : σj 38 j = nI (a j) := by rw [f _ (by decide)]; exact h2
    have w3 : σj 40 j = nI (b j) := by rw [f _ (by decide)]; exact h3
    have e : up σj 42 j (val (σj 44) (g j) (a j) (b j)) = setR σ 42 (fun i => if i < j + 1 then val (σ 44) (g i) (a i) (b i) else σ 42 i) := by
      rw [up_setR, f 44 (by decide), hσ, setR_setR, setR_hit]
      congr 1
      funext i
      by_cases hi : i = j
      · subst hi; simp [upd]
      · have : (i < j + 1) ↔ i < j := by omega
        simp [upd, hi, this]
    rw [← hσ]
    refine g_iload_n (p0 := 3) (i := 1) dX3_settle_2 rfl rfl rfl ?_
    refine g_aload_n (p0 := 4) (i := 0) dX3_settle_3 rfl rfl rfl ?_
    refine g_getI (p0 := 7) dX3_settle_4 fX3_32 (by first | rfl | assumption | exact RW.s (by assumption) | exact TW.s (by assumption)) rfl (by first | assumption | ((repeat (first | exact up_hit | refine up_nv (by decide) ?_ | refine up_mv (by first | decide | omega) ?_)) <;> first | assumption | rfl)) rfl ?_
    first | ((with_reducible refine isN2 ?_); refine g_icmpN_ge (tgt := 31) (p1 := 10) dX3_settle_7 rfl (by omega) (by omega) rfl (fun c_7 => by exfalso; first | omega | contradiction | exact absurd (by assumption) c_7 | (simp_all; done)) (fun c_7 => ?_)) | refine g_icmp_ge (tgt := 31) (p1 := 10) dX3_settle_7 rfl rfl (fun c_7 => by exfalso; first | omega | contradiction | exact absurd (by assumption) c_7 | (simp_all; done)) (fun c_7 => ?_)
    refine g_aload_n (p0 := 11) (i := 0) dX3_settle_10 rfl rfl rfl ?_
    refine g_getR (p0 := 14) dX3_settle_11 fX3_26 (by first | rfl | assumption | exact RW.s (by assumption) | exact TW.s (by assumption)) rfl rfl ?_
    refine g_iload_n (p0 := 15) (i := 1) dX3_settle_14 rfl rfl rfl ?_
    refine g_aload_n (p0 := 16) (i := 0) dX3_settle_15 rfl rfl rfl ?_
    refine g_iload_n (p0 := 17) (i := 1) dX3_settle_16 rfl rfl rfl ?_
    refine g_iconst (p0 := 18) (v := nI 0) dX3_settle_17 rfl rfl ?_
    refine g_iconst (p0 := 19) (v := nI 0) dX3_settle_18 rfl rfl ?_
    refine g_cV3R (p0 := 22) (r1 := mX3_letterWith) dX3_settle_19 lX3_55 vX3_letterWith (by first | rfl | assumption | exact RW.s (by assumption) | exact TW.s (by assumption)) ⟨_, _, rfl⟩ (FITi rfl rfl) (Nat.le_of_ble_eq_true rfl) (letterWith_0 (by omega) w1 w2 w3 b1 b2 b3) rfl ?_
    refine g_cV2V (p0 := 25) (r1 := mX7_put) dX3_settle_22 lX3_45 vX7_put (by first | rfl | assumption | exact RW.s (by assumption) | exact TW.s (by assumption)) ⟨_, _, rfl⟩ (FITi rfl rfl) (Nat.le_of_ble_eq_true rfl) (put_N (by first | exact ⟨rfl, rfl, by decide⟩ | assumption) (by omega)) rfl ?_
    first | refine g_iinc1 (p0 := 28) (ls2 := [_, _]) dX3_settle_25 rfl rfl rfl ?_ | refine g_iinc (p0 := 28) (ls2 := [_, _]) dX3_settle_25 rfl rfl rfl rfl ?_
    refine g_goto (tgt := 2) dX3_settle_28 rfl ?_
    rw [e]
    exact ih (j + 1) (by omega)
set_option maxRecDepth 20000 in
set_option maxHeartbeats 2000000 in
theorem settle_sp {L : Nat} {g a b : Nat → Nat} {σ : Sg} (h : LT σ L g a b) (hL : L ≤ 160) (hb : ∀ l, l < L → g l < 500 ∧ a l < 500 ∧ b l < 500) : CM mX3_settle [ar 34] σ (RetV (setR σ 42 (fun i => if i < L then val (σ 44) (g i) (a i) (b i) else σ 42 i))) := by
  refine CM_in (ls := [some (ar 34), none]) rfl ?_
  refine g_iconst (p0 := 1) (v := nI 0) dX3_settle_0 rfl rfl ?_
  refine g_istore_n (p0 := 2) (i := 1) (ls2 := [_, _]) dX3_settle_1 rfl (Nat.le_of_ble_eq_true rfl) rfl rfl ?_
  have e := settle_loop h hL hb (Q := RetV (setR σ 42 (fun i => if i < L then val (σ 44) (g i) (a i) (b i) else σ 42 i))) ⟨rfl, rfl⟩ L 0 (by omega)
  have e0 : setR σ 42 (fun i => if i < 0 then val (σ 44) (g i) (a i) (b i) else σ 42 i) = σ := setR_id (by funext i; simp)
  rw [e0] at e
  exact e
set_option maxRecDepth 20000 in
set_option maxHeartbeats 2000000 in
theorem indexOf_sp {m p f : Nat} {σ : Sg} (hm : m < 160) (hv : σ 49 m = nI f) : CM mX6_indexOf [ar 33, ai (nI m), ai (nI p)] σ (Ret (nI (f + p)) σ) := by
  refine CM_in (ls := [some (ar 33), some (ai (nI m)), some (ai (nI p))]) rfl ?_
  refine g_aload_n (p0 := 1) (i := 0) dX6_indexOf_0 rfl rfl rfl ?_
  refine g_getR (p0 := 4) dX6_indexOf_1 fX6_21 (by first | rfl | assumption | exact RW.s (by assumption) | exact TW.s (by assumption)) rfl rfl ?_
  refine g_getR (p0 := 7) dX6_indexOf_4 fX6_152 (by first | rfl | assumption | exact RW.s (by assumption) | exact TW.s (by assumption)) rfl rfl ?_
  refine g_iload_n (p0 := 8) (i := 1) dX6_indexOf_7 rfl rfl rfl ?_
  refine g_cV1R (p0 := 11) (r1 := mX7_at) dX6_indexOf_8 lX6_68 vX7_at (by first | rfl | assumption | exact RW.s (by assumption) | exact TW.s (by assumption)) ⟨_, _, rfl⟩ (FITi rfl rfl) (Nat.le_of_ble_eq_true rfl) (at_N (by first | exact ⟨rfl, rfl, by decide⟩ | assumption) (by omega) (by first | assumption | exact up_hit | exact up_nv (by omega) (by assumption) | exact up_mv (by omega) (by assumption) | exact up_nv (by omega) (up_nv (by omega) (by assumption)) | exact up_nv (by omega) up_hit | rfl)) rfl ?_
  refine g_iload_n (p0 := 12) (i := 2) dX6_indexOf_11 rfl rfl rfl ?_
  first | ((with_reducible refine isN2 ?_); refine g_iaddN (p0 := 13) dX6_indexOf_12 rfl ?_) | refine g_iadd (p0 := 13) dX6_indexOf_12 rfl ?_
  refine g_ireturn dX6_indexOf_13 rfl rfl (?_)
  exact ⟨rfl, rfl⟩
set_option maxRecDepth 20000 in
set_option maxHeartbeats 2000000 in
theorem letterIn_sp {m p f : Nat} {v : Int32} {σ : Sg} (hm : m < 160) (hv : σ 49 m = nI f) (hp : f + p < 160) (hw : σ 42 (f + p) = v) : CM mX6_letterIn [ar 33, ai (nI m), ai (nI p)] σ (Ret v σ) := by
  refine CM_in (ls := [some (ar 33), some (ai (nI m)), some (ai (nI p))]) rfl ?_
  refine g_aload_n (p0 := 1) (i := 0) dX6_letterIn_0 rfl rfl rfl ?_
  refine g_getR (p0 := 4) dX6_letterIn_1 fX6_12 (by first | rfl | assumption | exact RW.s (by assumption) | exact TW.s (by assumption)) rfl rfl ?_
  refine g_getR (p0 := 7) dX6_letterIn_4 fX6_155 (by first | rfl | assumption | exact RW.s (by assumption) | exact TW.s (by assumption)) rfl rfl ?_
  refine g_aload_n (p0 := 8) (i := 0) dX6_letterIn_7 rfl rfl rfl ?_
  refine g_iload_n (p0 := 9) (i := 1) dX6_letterIn_8 rfl rfl rfl ?_
  refine g_iload_n (p0 := 10) (i := 2) dX6_letterIn_9 rfl rfl rfl ?_
  refine g_cV2R (p0 := 13) (r1 := mX6_indexOf) dX6_letterIn_10 lX6_158 vX6_indexOf (by first | rfl | assumption | exact RW.s (by assumption) | exact TW.s (by assumption)) ⟨_, _, rfl⟩ (FITi rfl rfl) (Nat.le_of_ble_eq_true rfl) (indexOf_sp (by omega) (by first | assumption | ((repeat (first | exact up_hit | refine up_nv (by decide) ?_ | refine up_mv (by first | decide | omega) ?_)) <;> first | assumption | rfl))) rfl ?_
  refine g_cV1R (p0 := 16) (r1 := mX7_at) dX6_letterIn_13 lX6_68 vX7_at (by first | rfl | assumption | exact RW.s (by assumption) | exact TW.s (by assumption)) ⟨_, _, rfl⟩ (FITi rfl rfl) (Nat.le_of_ble_eq_true rfl) (at_N (by first | exact ⟨rfl, rfl, by decide⟩ | assumption) (by omega) (by first | assumption | exact up_hit | exact up_nv (by omega) (by assumption) | exact up_mv (by omega) (by assumption) | exact up_nv (by omega) (up_nv (by omega) (by assumption)) | exact up_nv (by omega) up_hit | rfl)) rfl ?_
  refine g_ireturn dX6_letterIn_16 rfl rfl (?_)
  exact ⟨rfl, rfl⟩
/-- how many of n letters from f on are unreadable, and the sum of the others -/
def uF (v : Nat → Int32) (f : Nat) : Nat → Nat
  | 0 => 0
  | n + 1 => if v (f + n) = -1 then uF v f n + 1 else uF v f n
def sF (v : Nat → Int32) (f : Nat) : Nat → Int32
  | 0 => nI 0
  | n + 1 => if v (f + n) = -1 then sF v f n else sF v f n + v (f + n)
theorem uF_le (v : Nat → Int32) (f : Nat) : ∀ n, uF v f n ≤ n
  | 0 => Nat.le_refl 0
  | n + 1 => by
    have h := uF_le v f n
    rw [uF]
    split <;> omega
set_option maxRecDepth 20000 in
set_option maxHeartbeats 2000000 in
theorem sumUp_in {M m L n f : Nat} {y : Option AV} {σ : Sg} {Q : SP} (hM : σ 45 7 = nI M) (hm : m < 160) (hn : σ 51 m = nI n) (hf : σ 49 m = nI f) (hL : f + n ≤ 160) (h57 : σ 57 m = nI 0) (h59 : σ 59 m = nI 0)
    (k : ∀ y, WM mX6_sumUp Q 69 [some (ar 33), some (ai (nI m)), some (ai (nI n)), y] [] (up (up σ 57 m (nI (uF (σ 42) f n))) 59 m (sF (σ 42) f n))) : ∀ q p, p + q = n → ∀ y, WM mX6_sumUp Q 15 [some (ar 33), some (ai (nI m)), some (ai (nI p)), y] [] (up (up σ 57 m (nI (uF (σ 42) f p))) 59 m (sF (σ 42) f p)) := by
  intro q
  induction q with
  | zero =>
    intro p hp y
    obtain rfl : p = n := by omega
    refine g_iload_n (p0 := 16) (i := 2) dX6_sumUp_15 rfl rfl rfl ?_
    refine g_aload_n (p0 := 17) (i := 0) dX6_sumUp_16 rfl rfl rfl ?_
    refine g_iload_n (p0 := 18) (i := 1) dX6_sumUp_17 rfl rfl rfl ?_
    refine g_cV1R (p0 := 21) (r1 := mX6_lengthOf) dX6_sumUp_18 lX6_131 vX6_lengthOf (by first | rfl | assumption | exact RW.s (by assumption) | exact TW.s (by assumption)) ⟨_, _, rfl⟩ (FITi rfl rfl) (Nat.le_of_ble_eq_true rfl) (lengthOf_sp (by omega) (by first | assumption | ((repeat (first | exact up_hit | refine up_nv (by decide) ?_ | refine up_mv (by first | decide | omega) ?_)) <;> first | assumption | rfl))) rfl ?_
    first | ((with_reducible refine isN2 ?_); refine g_icmpN_ge (tgt := 69) (p1 := 24) dX6_sumUp_21 rfl (by omega) (by omega) rfl (fun c_21 => ?_) (fun c_21 => by exfalso; first | omega | contradiction | exact absurd (by assumption) c_21 | (simp_all; done))) | refine g_icmp_ge (tgt := 69) (p1 := 24) dX6_sumUp_21 rfl rfl (fun c_21 => ?_) (fun c_21 => by exfalso; first | omega | contradiction | exact absurd (by assumption) c_21 | (simp_all; done))
    exact k _
  | succ q ih =>
    intro p hp y
    have hu := uF_le (σ 42) f p
    by_cases hv : σ 42 (f + p) = -1
    · have e : up (up (up σ 57 m (nI (uF (σ 42) f p))) 59 m (sF (σ 42) f p)) 57 m (nI (uF (σ 42) f p) + nI 1) = up (up σ 57 m (nI (uF (σ 42) f (p + 1)))) 59 m (sF (σ 42) f (p + 1)) := by
        rw [uF, sF, if_pos hv, if_pos hv, nI_add, up_setR, up_setR, up_setR, up_setR]
        simp only [setR_ne (show (57 : Nat) ≠ 59 by decide), setR_ne (show (59 : Nat) ≠ 57 by decide), setR_hit]
        rw [setR_comm (show (59 : Nat) ≠ 57 by decide), setR_setR, upd_upd]
        rw [up_setR]
        simp only [setR_ne (show (59 : Nat) ≠ 57 by decide)]
      refine g_iload_n (p0 := 16) (i := 2) dX6_sumUp_15 rfl rfl rfl ?_
      refine g_aload_n (p0 := 17) (i := 0) dX6_sumUp_16 rfl rfl rfl ?_
      refine g_iload_n (p0 := 18) (i := 1) dX6_sumUp_17 rfl rfl rfl ?_
      refine g_cV1R (p0 := 21) (r1 := mX6_lengthOf) dX6_sumUp_18 lX6_131 vX6_lengthOf (by first | rfl | assumption | exact RW.s (by assumption) | exact TW.s (by assumption)) ⟨_, _, rfl⟩ (FITi rfl rfl) (Nat.le_of_ble_eq_true rfl) (lengthOf_sp (by omega) (by first | assumption | ((repeat (first | exact up_hit | refine up_nv (by decide) ?_ | refine up_mv (by first | decide | omega) ?_)) <;> first | assumption | rfl))) rfl ?_
      first | ((with_reducible refine isN2 ?_); refine g_icmpN_ge (tgt := 69) (p1 := 24) dX6_sumUp_21 rfl (by omega) (by omega) rfl (fun c_21 => by exfalso; first | omega | contradiction | exact c_21 rfl) (fun c_21 => ?_)) | refine g_icmp_ge (tgt := 69) (p1 := 24) dX6_sumUp_21 rfl rfl (fun c_21 => by exfalso; first | omega | contradiction | exact c_21 rfl) (fun c_21 => ?_)
      refine g_aload_n (p0 := 25) (i := 0) dX6_sumUp_24 rfl rfl rfl ?_
      refine g_iload_n (p0 := 26) (i := 1) dX6_sumUp_25 rfl rfl rfl ?_
      refine g_iload_n (p0 := 27) (i := 2) dX6_sumUp_26 rfl rfl rfl ?_
      refine g_cV2R (p0 := 30) (r1 := mX6_letterIn) dX6_sumUp_27 lX6_140 vX6_letterIn (by first | rfl | assumption | exact RW.s (by assumption) | exact TW.s (by assumption)) ⟨_, _, rfl⟩ (FITi rfl rfl) (Nat.le_of_ble_eq_true rfl) (letterIn_sp (by omega) (by first | assumption | ((repeat (first | exact up_hit | refine up_nv (by decide) ?_ | refine up_mv (by first | decide | omega) ?_)) <;> first | assumption | rfl)) (by omega) (by first | assumption | ((repeat (first | exact up_hit | refine up_nv (by decide) ?_ | refine up_mv (by first | decide | omega) ?_)) <;> first | assumption | rfl))) rfl ?_
      refine g_istore_n (p0 := 31) (i := 3) (ls2 := [_, _, _, _]) dX6_sumUp_30 rfl (Nat.le_of_ble_eq_true rfl) rfl rfl ?_
      refine g_iload_n (p0 := 32) (i := 3) dX6_sumUp_31 rfl rfl rfl ?_
      refine g_iconst (p0 := 33) (v := -1) dX6_sumUp_32 rfl rfl ?_
      first | ((with_reducible refine isN2 ?_); refine g_icmpN_ne (tgt := 51) (p1 := 36) dX6_sumUp_33 rfl (by omega) (by omega) rfl (fun c_33 => by exfalso; first | omega | contradiction | exact c_33 rfl) (fun c_33 => ?_)) | refine g_icmp_ne (tgt := 51) (p1 := 36) dX6_sumUp_33 rfl rfl (fun c_33 => by exfalso; first | omega | contradiction | exact c_33 rfl) (fun c_33 => ?_)
      refine g_aload_n (p0 := 37) (i := 0) dX6_sumUp_36 rfl rfl rfl ?_
      refine g_getR (p0 := 40) dX6_sumUp_37 fX6_21 (by first | rfl | assumption | exact RW.s (by assumption) | exact TW.s (by assumption)) rfl rfl ?_
      refine g_getR (p0 := 43) dX6_sumUp_40 fX6_143 (by first | rfl | assumption | exact RW.s (by assumption) | exact TW.s (by assumption)) rfl rfl ?_
      refine g_iload_n (p0 := 44) (i := 1) dX6_sumUp_43 rfl rfl rfl ?_
      refine g_iconst (p0 := 45) (v := nI 1) dX6_sumUp_44 rfl rfl ?_
      refine g_cV2V (p0 := 48) (r1 := mX7_add) dX6_sumUp_45 lX6_146 vX7_add (by first | rfl | assumption | exact RW.s (by assumption) | exact TW.s (by assumption)) ⟨_, _, rfl⟩ (FITi rfl rfl) (Nat.le_of_ble_eq_true rfl) (add_N (by first | exact ⟨rfl, rfl, by decide⟩ | assumption) (by omega) (by first | assumption | exact up_hit | exact up_nv (by omega) (by assumption) | exact up_mv (by omega) (by assumption) | exact up_nv (by omega) (up_nv (by omega) (by assumption)) | exact up_nv (by omega) up_hit | rfl)) rfl ?_
      refine g_goto (tgt := 63) dX6_sumUp_48 rfl ?_
      first | refine g_iinc1 (p0 := 66) (ls2 := [_, _, _, _]) dX6_sumUp_63 rfl rfl rfl ?_ | refine g_iinc (p0 := 66) (ls2 := [_, _, _, _]) dX6_sumUp_63 rfl rfl rfl rfl ?_
      refine g_goto (tgt := 15) dX6_sumUp_66 rfl ?_
      rw [e]
      exact ih (p + 1) (by omega) _
    · have e : up (up (up σ 57 m (nI (uF (σ 42) f p))) 59 m (sF (σ 42) f p)) 59 m (sF (σ 42) f p + σ 42 (f + p)) = up (up σ 57 m (nI (uF (σ 42) f (p + 1)))) 59 m (sF (σ 42) f (p + 1)) := by
        rw [uF, sF, if_neg hv, if_neg hv, up_setR, up_setR, up_setR, up_setR]
        simp only [setR_ne (show (59 : Nat) ≠ 57 by decide), setR_hit]
        rw [setR_setR, upd_upd]
      obtain ⟨v, ev⟩ : ∃ v, σ 42 (f + p) = v := ⟨_, rfl⟩
      rw [ev] at hv e
      refine g_iload_n (p0 := 16) (i := 2) dX6_sumUp_15 rfl rfl rfl ?_
      refine g_aload_n (p0 := 17) (i := 0) dX6_sumUp_16 rfl rfl rfl ?_
      refine g_iload_n (p0 := 18) (i := 1) dX6_sumUp_17 rfl rfl rfl ?_
      refine g_cV1R (p0 := 21) (r1 := mX6_lengthOf) dX6_sumUp_18 lX6_131 vX6_lengthOf (by first | rfl | assumption | exact RW.s (by assumption) | exact TW.s (by assumption)) ⟨_, _, rfl⟩ (FITi rfl rfl) (Nat.le_of_ble_eq_true rfl) (lengthOf_sp (by omega) (by first | assumption | ((repeat (first | exact up_hit | refine up_nv (by decide) ?_ | refine up_mv (by first | decide | omega) ?_)) <;> first | assumption | rfl))) rfl ?_
      first | ((with_reducible refine isN2 ?_); refine g_icmpN_ge (tgt := 69) (p1 := 24) dX6_sumUp_21 rfl (by omega) (by omega) rfl (fun c_21 => by exfalso; first | omega | contradiction | exact hv c_21) (fun c_21 => ?_)) | refine g_icmp_ge (tgt := 69) (p1 := 24) dX6_sumUp_21 rfl rfl (fun c_21 => by exfalso; first | omega | contradiction | exact hv c_21) (fun c_21 => ?_)
      refine g_aload_n (p0 := 25) (i := 0) dX6_sumUp_24 rfl rfl rfl ?_
      refine g_iload_n (p0 := 26) (i := 1) dX6_sumUp_25 rfl rfl rfl ?_
      refine g_iload_n (p0 := 27) (i := 2) dX6_sumUp_26 rfl rfl rfl ?_
      refine g_cV2R (p0 := 30) (r1 := mX6_letterIn) dX6_sumUp_27 lX6_140 vX6_letterIn (by first | rfl | assumption | exact RW.s (by assumption) | exact TW.s (by assumption)) ⟨_, _, rfl⟩ (FITi rfl rfl) (Nat.le_of_ble_eq_true rfl) (letterIn_sp (by omega) (by first | assumption | ((repeat (first | exact up_hit | refine up_nv (by decide) ?_ | refine up_mv (by first | decide | omega) ?_)) <;> first | assumption | rfl)) (by omega) (by first | assumption | ((repeat (first | exact up_hit | refine up_nv (by decide) ?_ | refine up_mv (by first | decide | omega) ?_)) <;> first | assumption | rfl))) rfl ?_
      refine g_istore_n (p0 := 31) (i := 3) (ls2 := [_, _, _, _]) dX6_sumUp_30 rfl (Nat.le_of_ble_eq_true rfl) rfl rfl ?_
      refine g_iload_n (p0 := 32) (i := 3) dX6_sumUp_31 rfl rfl rfl ?_
      refine g_iconst (p0 := 33) (v := -1) dX6_sumUp_32 rfl rfl ?_
      first | ((with_reducible refine isN2 ?_); refine g_icmpN_ne (tgt := 51) (p1 := 36) dX6_sumUp_33 rfl (by omega) (by omega) rfl (fun c_33 => ?_) (fun c_33 => by exfalso; first | omega | contradiction | exact hv c_33)) | refine g_icmp_ne (tgt := 51) (p1 := 36) dX6_sumUp_33 rfl rfl (fun c_33 => ?_) (fun c_33 => by exfalso; first | omega | contradiction | exact hv c_33)
      refine g_aload_n (p0 := 52) (i := 0) dX6_sumUp_51 rfl rfl rfl ?_
      refine g_getR (p0 := 55) dX6_sumUp_52 fX6_21 (by first | rfl | assumption | exact RW.s (by assumption) | exact TW.s (by assumption)) rfl rfl ?_
      refine g_getR (p0 := 58) dX6_sumUp_55 fX6_149 (by first | rfl | assumption | exact RW.s (by assumption) | exact TW.s (by assumption)) rfl rfl ?_
      refine g_iload_n (p0 := 59) (i := 1) dX6_sumUp_58 rfl rfl rfl ?_
      refine g_iload_n (p0 := 60) (i := 3) dX6_sumUp_59 rfl rfl rfl ?_
      refine g_cV2V (p0 := 63) (r1 := mX7_add) dX6_sumUp_60 lX6_146 vX7_add (by first | rfl | assumption | exact RW.s (by assumption) | exact TW.s (by assumption)) ⟨_, _, rfl⟩ (FITi rfl rfl) (Nat.le_of_ble_eq_true rfl) (add_N (by first | exact ⟨rfl, rfl, by decide⟩ | assumption) (by omega) (by first | assumption | exact up_hit | exact up_nv (by omega) (by assumption) | exact up_mv (by omega) (by assumption) | exact up_nv (by omega) (up_nv (by omega) (by assumption)) | exact up_nv (by omega) up_hit | rfl)) rfl ?_
      first | refine g_iinc1 (p0 := 66) (ls2 := [_, _, _, _]) dX6_sumUp_63 rfl rfl rfl ?_ | refine g_iinc (p0 := 66) (ls2 := [_, _, _, _]) dX6_sumUp_63 rfl rfl rfl rfl ?_
      refine g_goto (tgt := 15) dX6_sumUp_66 rfl ?_
      rw [e]
      exact ih (p + 1) (by omega) _

