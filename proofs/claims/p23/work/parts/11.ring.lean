/-! THE CLASS: out of the rows of whole -/
/-- when the next stroke would come -/
def nxt (τ : Nat → Int32) (s : Nat) (pz bt : Int32) : Int32 := if s = 0 then nI 0 else τ (s - 1) + (if pz = 0 then nI 6 else nI 12) * bt
/-- where a letter with so many strokes would end -/
def endT (τ : Nat → Int32) (s : Nat) (pz bt : Int32) (more : Nat) : Int32 := nxt τ s pz bt + nI (more + 1) * bt
def rgR (τ : Nat → Int32) (s : Nat) (t0 bt : Int32) (n : Nat) : Nat → Int32 := fun k => if s ≤ k ∧ k < s + n then t0 + nI (k - s) * bt else τ k
theorem rgR_0 {τ : Nat → Int32} {s : Nat} {t0 bt : Int32} : rgR τ s t0 bt 0 = τ := by
  funext k
  have : ¬ (s ≤ k ∧ k < s + 0) := by omega
  simp only [rgR, if_neg this]
theorem rgR_step {τ : Nat → Int32} {s : Nat} {t0 bt : Int32} {n : Nat} : upd (rgR τ s t0 bt n) (s + n) (t0 + nI n * bt) = rgR τ s t0 bt (n + 1) := by
  funext k
  by_cases hk : k = s + n
  · subst hk
    have h1 : s ≤ s + n ∧ s + n < s + (n + 1) := by omega
    simp only [upd, rgR, if_pos h1, if_true, Nat.add_sub_cancel_left]
  · have : (s ≤ k ∧ k < s + (n + 1)) ↔ (s ≤ k ∧ k < s + n) := by omega
    simp only [upd, rgR, if_neg hk, this]
/-- more strokes of a cell of the table -/
abbrev mor (c : Nat) : Nat := (c / 5 + 1) + (c % 5 + 1)
set_option maxRecDepth 20000 in
set_option maxHeartbeats 2000000 in
theorem nextTime_sp {t s : Nat} {σ : Sg} (ht : TW t) (hs : σ t 2 = nI s) (hs1 : s ≤ 160) : CM mX8_nextTime [ar t] σ (Ret (nxt (σ (t + 2)) s (σ t 5) (σ t 3)) σ) := by
  obtain ⟨hT, hR1, hR2⟩ := ht
  refine CM_in (ls := [some (ar t)]) rfl ?_
  refine g_aload_n (p0 := 1) (i := 0) dX8_nextTime_0 rfl rfl rfl ?_
  refine g_getI (p0 := 4) dX8_nextTime_1 fX8_23 (by first | assumption | exact RW.s (by assumption) | exact TW.s (by assumption) | rfl) rfl (by first | assumption | exact up_hit | exact up_nv (by omega) (by assumption) | exact up_mv (by omega) (by assumption) | exact up_nv (by omega) (up_nv (by omega) (by assumption)) | exact up_nv (by omega) up_hit | rfl) rfl ?_
  first | ((with_reducible refine isN1 ?_); refine g_ifN_ne (tgt := 11) (p1 := 7) dX8_nextTime_4 rfl (by omega) rfl (fun c_4 => ?_) (fun c_4 => ?_)) | refine g_if_ne (tgt := 11) (p1 := 7) dX8_nextTime_4 rfl rfl (fun c_4 => ?_) (fun c_4 => ?_)
  · refine g_aload_n (p0 := 12) (i := 0) dX8_nextTime_11 rfl rfl rfl ?_
    refine g_getR (p0 := 15) dX8_nextTime_12 fX8_14 (by first | assumption | exact RW.s (by assumption) | exact TW.s (by assumption) | rfl) rfl rfl ?_
    refine g_aload_n (p0 := 16) (i := 0) dX8_nextTime_15 rfl rfl rfl ?_
    refine g_getI (p0 := 19) dX8_nextTime_16 fX8_23 (by first | assumption | exact RW.s (by assumption) | exact TW.s (by assumption) | rfl) rfl (by first | assumption | exact up_hit | exact up_nv (by omega) (by assumption) | exact up_mv (by omega) (by assumption) | exact up_nv (by omega) (up_nv (by omega) (by assumption)) | exact up_nv (by omega) up_hit | rfl) rfl ?_
    refine g_iconst (p0 := 20) (v := nI 1) dX8_nextTime_19 rfl rfl ?_
    first | ((with_reducible refine isN2 ?_); refine g_isubN (p0 := 21) dX8_nextTime_20 (by omega) rfl ?_) | refine g_isub (p0 := 21) dX8_nextTime_20 rfl ?_
    refine g_cV1R (p0 := 24) (r1 := mX7_at) dX8_nextTime_21 lX8_45 vX7_at (by first | assumption | exact RW.s (by assumption) | exact TW.s (by assumption) | rfl) ⟨_, _, rfl⟩ (FITi rfl rfl) (Nat.le_of_ble_eq_true rfl) (at_N (by first | exact ⟨rfl, rfl, by decide⟩ | assumption) (by omega) (by first | assumption | exact up_hit | exact up_nv (by omega) (by assumption) | exact up_mv (by omega) (by assumption) | exact up_nv (by omega) (up_nv (by omega) (by assumption)) | exact up_nv (by omega) up_hit | rfl)) rfl ?_
    refine g_aload_n (p0 := 25) (i := 0) dX8_nextTime_24 rfl rfl rfl ?_
    refine g_getI (p0 := 28) dX8_nextTime_25 fX8_33 (by first | assumption | exact RW.s (by assumption) | exact TW.s (by assumption) | rfl) rfl (by first | assumption | exact up_hit | exact up_nv (by omega) (by assumption) | exact up_mv (by omega) (by assumption) | exact up_nv (by omega) (up_nv (by omega) (by assumption)) | exact up_nv (by omega) up_hit | rfl) rfl ?_
    first | ((with_reducible refine isN1 ?_); refine g_ifN_eq (tgt := 36) (p1 := 31) dX8_nextTime_28 rfl (by omega) rfl (fun c_28 => ?_) (fun c_28 => ?_)) | refine g_if_eq (tgt := 36) (p1 := 31) dX8_nextTime_28 rfl rfl (fun c_28 => ?_) (fun c_28 => ?_)
    · refine g_bipush (p0 := 38) (v := nI 6) dX8_nextTime_36 (by decide) rfl ?_
      refine g_aload_n (p0 := 39) (i := 0) dX8_nextTime_38 rfl rfl rfl ?_
      refine g_getI (p0 := 42) dX8_nextTime_39 fX8_27 (by first | assumption | exact RW.s (by assumption) | exact TW.s (by assumption) | rfl) rfl (by first | assumption | exact up_hit | exact up_nv (by omega) (by assumption) | exact up_mv (by omega) (by assumption) | exact up_nv (by omega) (up_nv (by omega) (by assumption)) | exact up_nv (by omega) up_hit | rfl) rfl ?_
      first | ((with_reducible refine isN2 ?_); refine g_imulN (p0 := 43) dX8_nextTime_42 rfl ?_) | refine g_imul (p0 := 43) dX8_nextTime_42 rfl ?_
      first | ((with_reducible refine isN2 ?_); refine g_iaddN (p0 := 44) dX8_nextTime_43 rfl ?_) | refine g_iadd (p0 := 44) dX8_nextTime_43 rfl ?_
      refine g_ireturn dX8_nextTime_44 rfl rfl (?_)
      exact Ret.i (by first | rw [nxt, if_neg (by omega), if_pos (by assumption)] | rw [nxt, if_neg (by omega), if_neg (by assumption)] | rw [nxt, if_pos (by omega)]) rfl
    · refine g_bipush (p0 := 33) (v := nI 12) dX8_nextTime_31 (by decide) rfl ?_
      refine g_goto (tgt := 38) dX8_nextTime_33 rfl ?_
      refine g_aload_n (p0 := 39) (i := 0) dX8_nextTime_38 rfl rfl rfl ?_
      refine g_getI (p0 := 42) dX8_nextTime_39 fX8_27 (by first | assumption | exact RW.s (by assumption) | exact TW.s (by assumption) | rfl) rfl (by first | assumption | exact up_hit | exact up_nv (by omega) (by assumption) | exact up_mv (by omega) (by assumption) | exact up_nv (by omega) (up_nv (by omega) (by assumption)) | exact up_nv (by omega) up_hit | rfl) rfl ?_
      first | ((with_reducible refine isN2 ?_); refine g_imulN (p0 := 43) dX8_nextTime_42 rfl ?_) | refine g_imul (p0 := 43) dX8_nextTime_42 rfl ?_
      first | ((with_reducible refine isN2 ?_); refine g_iaddN (p0 := 44) dX8_nextTime_43 rfl ?_) | refine g_iadd (p0 := 44) dX8_nextTime_43 rfl ?_
      refine g_ireturn dX8_nextTime_44 rfl rfl (?_)
      exact Ret.i (by first | rw [nxt, if_neg (by omega), if_pos (by assumption)] | rw [nxt, if_neg (by omega), if_neg (by assumption)] | rw [nxt, if_pos (by omega)]) rfl
  · refine g_iconst (p0 := 8) (v := nI 0) dX8_nextTime_7 rfl rfl ?_
    refine g_goto (tgt := 44) dX8_nextTime_8 rfl ?_
    refine g_ireturn dX8_nextTime_44 rfl rfl (?_)
    exact Ret.i (by first | rw [nxt, if_neg (by omega), if_pos (by assumption)] | rw [nxt, if_neg (by omega), if_neg (by assumption)] | rw [nxt, if_pos (by omega)]) rfl
set_option maxRecDepth 20000 in
set_option maxHeartbeats 2000000 in
theorem hasRoom_T {t s j c : Nat} {σ : Sg} (ht : TW t) (hs : σ t 2 = nI s) (hs1 : s ≤ 160) (hj : j < 25) (hc : σ (t + 4) j = nI c) (hc1 : c < 25) (h1 : s + mor c ≤ 160) (h2 : ¬ nI 9999 < endT (σ (t + 2)) s (σ t 5) (σ t 3) (mor c)) : CM mX8_hasRoomFor [ar t, ai (nI j)] σ (Ret (nI 1) σ) := by
  have ht0 := ht
  obtain ⟨hT, hR1, hR2⟩ := ht0
  have h1m : s + (c / 5 + 1 + (c % 5 + 1)) ≤ 160 := h1
  refine CM_in (ls := [some (ar t), some (ai (nI j)), none, none]) rfl ?_
  refine g_aload_n (p0 := 1) (i := 0) dX8_hasRoomFor_0 rfl rfl rfl ?_
  refine g_iload_n (p0 := 2) (i := 1) dX8_hasRoomFor_1 rfl rfl rfl ?_
  refine g_cV1R (p0 := 5) (r1 := mX8_rowOf) dX8_hasRoomFor_2 lX8_49 vX8_rowOf (by first | assumption | exact RW.s (by assumption) | exact TW.s (by assumption) | rfl) ⟨_, _, rfl⟩ (FITi rfl rfl) (Nat.le_of_ble_eq_true rfl) (rowOf_sp ht hj hc hc1) rfl ?_
  refine g_aload_n (p0 := 6) (i := 0) dX8_hasRoomFor_5 rfl rfl rfl ?_
  refine g_iload_n (p0 := 7) (i := 1) dX8_hasRoomFor_6 rfl rfl rfl ?_
  refine g_cV1R (p0 := 10) (r1 := mX8_columnOf) dX8_hasRoomFor_7 lX8_52 vX8_columnOf (by first | assumption | exact RW.s (by assumption) | exact TW.s (by assumption) | rfl) ⟨_, _, rfl⟩ (FITi rfl rfl) (Nat.le_of_ble_eq_true rfl) (columnOf_sp ht hj hc hc1) rfl ?_
  first | ((with_reducible refine isN2 ?_); refine g_iaddN (p0 := 11) dX8_hasRoomFor_10 rfl ?_) | refine g_iadd (p0 := 11) dX8_hasRoomFor_10 rfl ?_
  refine g_istore_n (p0 := 12) (i := 2) (ls2 := [_, _, _, _]) dX8_hasRoomFor_11 rfl (Nat.le_of_ble_eq_true rfl) rfl rfl ?_
  refine g_aload_n (p0 := 13) (i := 0) dX8_hasRoomFor_12 rfl rfl rfl ?_
  refine g_cV0R (p0 := 16) (r1 := mX8_nextTime) dX8_hasRoomFor_13 lX8_58 vX8_nextTime (by first | assumption | exact RW.s (by assumption) | exact TW.s (by assumption) | rfl) ⟨_, _, rfl⟩ (FITi rfl rfl) (Nat.le_of_ble_eq_true rfl) (nextTime_sp (by first | exact TW1 | exact TW6 | assumption) (by first | assumption | exact up_hit | exact up_nv (by omega) (by assumption) | exact up_mv (by omega) (by assumption) | exact up_nv (by omega) (up_nv (by omega) (by assumption)) | exact up_nv (by omega) up_hit | rfl) (by first | assumption | omega)) rfl ?_
  refine g_iload_n (p0 := 17) (i := 2) dX8_hasRoomFor_16 rfl rfl rfl ?_
  refine g_iconst (p0 := 18) (v := nI 1) dX8_hasRoomFor_17 rfl rfl ?_
  first | ((with_reducible refine isN2 ?_); refine g_iaddN (p0 := 19) dX8_hasRoomFor_18 rfl ?_) | refine g_iadd (p0 := 19) dX8_hasRoomFor_18 rfl ?_
  refine g_aload_n (p0 := 20) (i := 0) dX8_hasRoomFor_19 rfl rfl rfl ?_
  refine g_getI (p0 := 23) dX8_hasRoomFor_20 fX8_27 (by first | assumption | exact RW.s (by assumption) | exact TW.s (by assumption) | rfl) rfl (by first | assumption | exact up_hit | exact up_nv (by omega) (by assumption) | exact up_mv (by omega) (by assumption) | exact up_nv (by omega) (up_nv (by omega) (by assumption)) | exact up_nv (by omega) up_hit | rfl) rfl ?_
  first | ((with_reducible refine isN2 ?_); refine g_imulN (p0 := 24) dX8_hasRoomFor_23 rfl ?_) | refine g_imul (p0 := 24) dX8_hasRoomFor_23 rfl ?_
  first | ((with_reducible refine isN2 ?_); refine g_iaddN (p0 := 25) dX8_hasRoomFor_24 rfl ?_) | refine g_iadd (p0 := 25) dX8_hasRoomFor_24 rfl ?_
  refine g_istore_n (p0 := 26) (i := 3) (ls2 := [_, _, _, _]) dX8_hasRoomFor_25 rfl (Nat.le_of_ble_eq_true rfl) rfl rfl ?_
  refine g_aload_n (p0 := 27) (i := 0) dX8_hasRoomFor_26 rfl rfl rfl ?_
  refine g_getI (p0 := 30) dX8_hasRoomFor_27 fX8_23 (by first | assumption | exact RW.s (by assumption) | exact TW.s (by assumption) | rfl) rfl (by first | assumption | exact up_hit | exact up_nv (by omega) (by assumption) | exact up_mv (by omega) (by assumption) | exact up_nv (by omega) (up_nv (by omega) (by assumption)) | exact up_nv (by omega) up_hit | rfl) rfl ?_
  refine g_iload_n (p0 := 31) (i := 2) dX8_hasRoomFor_30 rfl rfl rfl ?_
  first | ((with_reducible refine isN2 ?_); refine g_iaddN (p0 := 32) dX8_hasRoomFor_31 rfl ?_) | refine g_iadd (p0 := 32) dX8_hasRoomFor_31 rfl ?_
  refine g_sipush (p0 := 35) (v := nI 160) dX8_hasRoomFor_32 (by decide) rfl ?_
  first | ((with_reducible refine isN2 ?_); refine g_icmpN_gt (tgt := 49) (p1 := 38) dX8_hasRoomFor_35 rfl (by omega) (by omega) rfl (fun c_35 => by exfalso; first | omega | exact h2 c_35) (fun c_35 => ?_)) | refine g_icmp_gt (tgt := 49) (p1 := 38) dX8_hasRoomFor_35 rfl rfl (fun c_35 => by exfalso; first | omega | exact h2 c_35) (fun c_35 => ?_)
  refine g_iload_n (p0 := 39) (i := 3) dX8_hasRoomFor_38 rfl rfl rfl ?_
  refine g_sipush (p0 := 42) (v := nI 9999) dX8_hasRoomFor_39 (by decide) rfl ?_
  first | ((with_reducible refine isN2 ?_); refine g_icmpN_gt (tgt := 49) (p1 := 45) dX8_hasRoomFor_42 rfl (by omega) (by omega) rfl (fun c_42 => by exfalso; first | omega | exact h2 c_42) (fun c_42 => ?_)) | refine g_icmp_gt (tgt := 49) (p1 := 45) dX8_hasRoomFor_42 rfl rfl (fun c_42 => by exfalso; first | omega | exact h2 c_42) (fun c_42 => ?_)
  refine g_iconst (p0 := 46) (v := nI 1) dX8_hasRoomFor_45 rfl rfl ?_
  refine g_goto (tgt := 50) dX8_hasRoomFor_46 rfl ?_
  refine g_ireturn dX8_hasRoomFor_50 rfl (by first | rfl | exact bool_narrow (by first | exact Or.inl rfl | exact Or.inr rfl | assumption | (split <;> first | exact Or.inl rfl | exact Or.inr rfl))) (?_)
  exact ⟨rfl, rfl⟩
set_option maxRecDepth 20000 in
set_option maxHeartbeats 2000000 in
theorem ringGroup_loop {t s n : Nat} {t0 : Int32} {σ : Sg} {Q : SP} (ht : TW t) (hs : σ t 2 = nI s) (hn : s + n ≤ 160) (k : Q none (setR (setR σ (t + 2) (rgR (σ (t + 2)) s t0 (σ t 3) n)) t (upd (σ t) 2 (nI (s + n))))) : ∀ m j, j + m = n → WM mX8_ringGroup Q 2 [some (ar t), some (ai t0), some (ai (nI n)), some (ai (nI j))] [] (setR (setR σ (t + 2) (rgR (σ (t + 2)) s t0 (σ t 3) j)) t (upd (σ t) 2 (nI (s + j)))) := by
  obtain ⟨hT, hR1, hR2⟩ := ht
  intro m
  induction m with
  | zero =>
    intro j hj
    obtain rfl : j = n := by omega
    refine g_iload_n (p0 := 3) (i := 3) dX8_ringGroup_2 rfl rfl rfl ?_
    refine g_iload_n (p0 := 4) (i := 2) dX8_ringGroup_3 rfl rfl rfl ?_
    first | ((with_reducible refine isN2 ?_); refine g_icmpN_ge (tgt := 42) (p1 := 7) dX8_ringGroup_4 rfl (by omega) (by omega) rfl (fun c_4 => ?_) (fun c_4 => by exfalso; first | omega | contradiction | exact absurd (by assumption) c_4 | (simp_all; done))) | refine g_icmp_ge (tgt := 42) (p1 := 7) dX8_ringGroup_4 rfl rfl (fun c_4 => ?_) (fun c_4 => by exfalso; first | omega | contradiction | exact absurd (by assumption) c_4 | (simp_all; done))
    refine g_return dX8_ringGroup_42 rfl ?_
    exact k
  | succ m ih =>
    intro j hj
    obtain ⟨σj, hσ⟩ : ∃ z, z = setR (setR σ (t + 2) (rgR (σ (t + 2)) s t0 (σ t 3) j)) t (upd (σ t) 2 (nI (s + j))) := ⟨_, rfl⟩
    rw [← hσ]
    have e2 : σj t 2 = nI (s + j) := by rw [hσ, setR_hit, upd_hit]
    have e3 : σj t 3 = σ t 3 := by rw [hσ, setR_hit, upd_ne (by decide)]
    have e4 : up (up σj (t + 2) (s + j) (t0 + nI j * σ t 3)) t 2 (nI (s + j + 1)) = setR (setR σ (t + 2) (rgR (σ (t + 2)) s t0 (σ t 3) (j + 1))) t (upd (σ t) 2 (nI (s + (j + 1)))) := by
      rw [hσ, up_setR, up_setR, setR_ne (show t + 2 ≠ t by omega), setR_hit, rgR_step]
      rw [setR_comm (show t ≠ t + 2 by omega), setR_setR, setR_setR, setR_hit, upd_upd]
      rfl
    refine g_iload_n (p0 := 3) (i := 3) dX8_ringGroup_2 rfl rfl rfl ?_
    refine g_iload_n (p0 := 4) (i := 2) dX8_ringGroup_3 rfl rfl rfl ?_
    first | ((with_reducible refine isN2 ?_); refine g_icmpN_ge (tgt := 42) (p1 := 7) dX8_ringGroup_4 rfl (by omega) (by omega) rfl (fun c_4 => by exfalso; first | omega | contradiction | exact absurd (by assumption) c_4 | (simp_all; done)) (fun c_4 => ?_)) | refine g_icmp_ge (tgt := 42) (p1 := 7) dX8_ringGroup_4 rfl rfl (fun c_4 => by exfalso; first | omega | contradiction | exact absurd (by assumption) c_4 | (simp_all; done)) (fun c_4 => ?_)
    refine g_aload_n (p0 := 8) (i := 0) dX8_ringGroup_7 rfl rfl rfl ?_
    refine g_getR (p0 := 11) dX8_ringGroup_8 fX8_14 (by first | assumption | exact RW.s (by assumption) | exact TW.s (by assumption) | rfl) rfl rfl ?_
    refine g_aload_n (p0 := 12) (i := 0) dX8_ringGroup_11 rfl rfl rfl ?_
    refine g_getI (p0 := 15) dX8_ringGroup_12 fX8_23 (by first | assumption | exact RW.s (by assumption) | exact TW.s (by assumption) | rfl) rfl (by first | assumption | exact up_hit | exact up_nv (by omega) (by assumption) | exact up_mv (by omega) (by assumption) | exact up_nv (by omega) (up_nv (by omega) (by assumption)) | exact up_nv (by omega) up_hit | rfl) rfl ?_
    refine g_iload_n (p0 := 16) (i := 1) dX8_ringGroup_15 rfl rfl rfl ?_
    refine g_iload_n (p0 := 17) (i := 3) dX8_ringGroup_16 rfl rfl rfl ?_
    refine g_aload_n (p0 := 18) (i := 0) dX8_ringGroup_17 rfl rfl rfl ?_
    refine g_getI (p0 := 21) dX8_ringGroup_18 fX8_27 (by first | assumption | exact RW.s (by assumption) | exact TW.s (by assumption) | rfl) rfl (by first | assumption | exact up_hit | exact up_nv (by omega) (by assumption) | exact up_mv (by omega) (by assumption) | exact up_nv (by omega) (up_nv (by omega) (by assumption)) | exact up_nv (by omega) up_hit | rfl) rfl ?_
    first | ((with_reducible refine isN2 ?_); refine g_imulN (p0 := 22) dX8_ringGroup_21 rfl ?_) | refine g_imul (p0 := 22) dX8_ringGroup_21 rfl ?_
    first | ((with_reducible refine isN2 ?_); refine g_iaddN (p0 := 23) dX8_ringGroup_22 rfl ?_) | refine g_iadd (p0 := 23) dX8_ringGroup_22 rfl ?_
    refine g_cV2V (p0 := 26) (r1 := mX7_put) dX8_ringGroup_23 lX8_37 vX7_put (by first | assumption | exact RW.s (by assumption) | exact TW.s (by assumption) | rfl) ⟨_, _, rfl⟩ (FITi rfl rfl) (Nat.le_of_ble_eq_true rfl) (put_N (by first | exact ⟨rfl, rfl, by decide⟩ | assumption) (by omega)) rfl ?_
    refine g_aload_n (p0 := 27) (i := 0) dX8_ringGroup_26 rfl rfl rfl ?_
    refine g_dup (p0 := 28) dX8_ringGroup_27 rfl ?_
    refine g_getI (p0 := 31) dX8_ringGroup_28 fX8_23 (by first | assumption | exact RW.s (by assumption) | exact TW.s (by assumption) | rfl) rfl (by first | assumption | exact up_hit | exact up_nv (by omega) (by assumption) | exact up_mv (by omega) (by assumption) | exact up_nv (by omega) (up_nv (by omega) (by assumption)) | exact up_nv (by omega) up_hit | rfl) rfl ?_
    refine g_iconst (p0 := 32) (v := nI 1) dX8_ringGroup_31 rfl rfl ?_
    first | ((with_reducible refine isN2 ?_); refine g_iaddN (p0 := 33) dX8_ringGroup_32 rfl ?_) | refine g_iadd (p0 := 33) dX8_ringGroup_32 rfl ?_
    refine g_put (p0 := 36) dX8_ringGroup_33 fX8_23 (by first | assumption | exact RW.s (by assumption) | exact TW.s (by assumption) | rfl) rfl nX8_2 (pX8_2 _) rfl ?_
    first | refine g_iinc1 (p0 := 39) (ls2 := [_, _, _, _]) dX8_ringGroup_36 rfl rfl rfl ?_ | refine g_iinc (p0 := 39) (ls2 := [_, _, _, _]) dX8_ringGroup_36 rfl rfl rfl rfl ?_
    refine g_goto (tgt := 2) dX8_ringGroup_39 rfl ?_
    rw [e4]
    exact ih (j + 1) (by omega)
set_option maxRecDepth 20000 in
set_option maxHeartbeats 2000000 in
theorem ringGroup_sp {t s n : Nat} {t0 : Int32} {σ : Sg} (ht : TW t) (hs : σ t 2 = nI s) (hn : s + n ≤ 160) : CM mX8_ringGroup [ar t, ai t0, ai (nI n)] σ (RetV (setR (setR σ (t + 2) (rgR (σ (t + 2)) s t0 (σ t 3) n)) t (upd (σ t) 2 (nI (s + n))))) := by
  refine CM_in (ls := [some (ar t), some (ai t0), some (ai (nI n)), none]) rfl ?_
  refine g_iconst (p0 := 1) (v := nI 0) dX8_ringGroup_0 rfl rfl ?_
  refine g_istore_n (p0 := 2) (i := 3) (ls2 := [_, _, _, _]) dX8_ringGroup_1 rfl (Nat.le_of_ble_eq_true rfl) rfl rfl ?_
  have h := ringGroup_loop (t0 := t0) (σ := σ) (Q := RetV (setR (setR σ (t + 2) (rgR (σ (t + 2)) s t0 (σ t 3) n)) t (upd (σ t) 2 (nI (s + n))))) ht hs hn ⟨rfl, rfl⟩ n 0 (by omega)
  have e0 : setR σ t (upd (σ t) 2 (nI (s + 0))) = σ := setR_id (upd_self hs)
  rw [rgR_0, setR_id (rfl : σ (t + 2) = σ (t + 2)), e0] at h
  exact h
/-- a letter rung: the times, behind it -/
def ringR (τ : Nat → Int32) (s : Nat) (pz bt : Int32) (c : Nat) : Nat → Int32 := rgR (rgR τ s (nxt τ s pz bt) bt (c / 5 + 1)) (s + (c / 5 + 1)) (nxt τ s pz bt + nI (c / 5 + 1 + 2) * bt) bt (c % 5 + 1)
def ringS (σ : Sg) (t s c : Nat) : Sg := setR (setR σ (t + 2) (ringR (σ (t + 2)) s (σ t 5) (σ t 3) c)) t (upd (upd (σ t) 2 (nI (s + mor c))) 5 (nI 0))
set_option maxRecDepth 20000 in
set_option maxHeartbeats 2000000 in
theorem ringLetter_sp {t s j c : Nat} {σ : Sg} (ht : TW t) (hs : σ t 2 = nI s) (hs1 : s ≤ 160) (hj : j < 25) (hc : σ (t + 4) j = nI c) (hc1 : c < 25) (h1 : s + mor c ≤ 160) : CM mX8_ringLetter [ar t, ai (nI j)] σ (RetV (ringS σ t s c)) := by
  have ht0 := ht
  obtain ⟨hT, hR1, hR2⟩ := ht0
  have h1m : s + (c / 5 + 1 + (c % 5 + 1)) ≤ 160 := h1
  obtain ⟨t0, ht0⟩ : ∃ z, z = nxt (σ (t + 2)) s (σ t 5) (σ t 3) := ⟨_, rfl⟩
  obtain ⟨σ1, hσ1⟩ : ∃ z, z = setR (setR σ (t + 2) (rgR (σ (t + 2)) s t0 (σ t 3) (c / 5 + 1))) t (upd (σ t) 2 (nI (s + (c / 5 + 1)))) := ⟨_, rfl⟩
  have g1 := ringGroup_sp (t0 := t0) (n := c / 5 + 1) (σ := σ) ht hs (by simp only [mor] at h1; omega)
  rw [← hσ1] at g1
  have g0 := nextTime_sp (σ := σ) ht hs hs1
  rw [← ht0] at g0
  have e2 : σ1 t 2 = nI (s + (c / 5 + 1)) := by rw [hσ1, setR_hit, upd_hit]
  have e3 : σ1 t 3 = σ t 3 := by rw [hσ1, setR_hit, upd_ne (by decide)]
  have e4 : σ1 (t + 4) j = nI c := by rw [hσ1, setR_ne (by omega), setR_ne (by omega), hc]
  refine CM_in (ls := [some (ar t), some (ai (nI j)), none, none]) rfl ?_
  refine g_aload_n (p0 := 1) (i := 0) dX8_ringLetter_0 rfl rfl rfl ?_
  refine g_cV0R (p0 := 4) (r1 := mX8_nextTime) dX8_ringLetter_1 lX8_58 vX8_nextTime (by first | assumption | exact RW.s (by assumption) | exact TW.s (by assumption) | rfl) ⟨_, _, rfl⟩ (FITi rfl rfl) (Nat.le_of_ble_eq_true rfl) (g0) rfl ?_
  refine g_istore_n (p0 := 5) (i := 2) (ls2 := [_, _, _, _]) dX8_ringLetter_4 rfl (Nat.le_of_ble_eq_true rfl) rfl rfl ?_
  refine g_aload_n (p0 := 6) (i := 0) dX8_ringLetter_5 rfl rfl rfl ?_
  refine g_iload_n (p0 := 7) (i := 1) dX8_ringLetter_6 rfl rfl rfl ?_
  refine g_cV1R (p0 := 10) (r1 := mX8_rowOf) dX8_ringLetter_7 lX8_49 vX8_rowOf (by first | assumption | exact RW.s (by assumption) | exact TW.s (by assumption) | rfl) ⟨_, _, rfl⟩ (FITi rfl rfl) (Nat.le_of_ble_eq_true rfl) (rowOf_sp ht hj hc hc1) rfl ?_
  refine g_istore_n (p0 := 11) (i := 3) (ls2 := [_, _, _, _]) dX8_ringLetter_10 rfl (Nat.le_of_ble_eq_true rfl) rfl rfl ?_
  refine g_aload_n (p0 := 12) (i := 0) dX8_ringLetter_11 rfl rfl rfl ?_
  refine g_iload_n (p0 := 13) (i := 2) dX8_ringLetter_12 rfl rfl rfl ?_
  refine g_iload_n (p0 := 14) (i := 3) dX8_ringLetter_13 rfl rfl rfl ?_
  refine g_cV2V (p0 := 17) (r1 := mX8_ringGroup) dX8_ringLetter_14 lX8_62 vX8_ringGroup (by first | assumption | exact RW.s (by assumption) | exact TW.s (by assumption) | rfl) ⟨_, _, rfl⟩ (FITi rfl rfl) (Nat.le_of_ble_eq_true rfl) (g1) rfl ?_
  refine g_aload_n (p0 := 18) (i := 0) dX8_ringLetter_17 rfl rfl rfl ?_
  refine g_iload_n (p0 := 19) (i := 2) dX8_ringLetter_18 rfl rfl rfl ?_
  refine g_iload_n (p0 := 20) (i := 3) dX8_ringLetter_19 rfl rfl rfl ?_
  refine g_iconst (p0 := 21) (v := nI 2) dX8_ringLetter_20 rfl rfl ?_
  first | ((with_reducible refine isN2 ?_); refine g_iaddN (p0 := 22) dX8_ringLetter_21 rfl ?_) | refine g_iadd (p0 := 22) dX8_ringLetter_21 rfl ?_
  refine g_aload_n (p0 := 23) (i := 0) dX8_ringLetter_22 rfl rfl rfl ?_
  refine g_getI (p0 := 26) dX8_ringLetter_23 fX8_27 (by first | assumption | exact RW.s (by assumption) | exact TW.s (by assumption) | rfl) rfl (by first | assumption | exact up_hit | exact up_nv (by omega) (by assumption) | exact up_mv (by omega) (by assumption) | exact up_nv (by omega) (up_nv (by omega) (by assumption)) | exact up_nv (by omega) up_hit | rfl) rfl ?_
  first | ((with_reducible refine isN2 ?_); refine g_imulN (p0 := 27) dX8_ringLetter_26 rfl ?_) | refine g_imul (p0 := 27) dX8_ringLetter_26 rfl ?_
  first | ((with_reducible refine isN2 ?_); refine g_iaddN (p0 := 28) dX8_ringLetter_27 rfl ?_) | refine g_iadd (p0 := 28) dX8_ringLetter_27 rfl ?_
  refine g_aload_n (p0 := 29) (i := 0) dX8_ringLetter_28 rfl rfl rfl ?_
  refine g_iload_n (p0 := 30) (i := 1) dX8_ringLetter_29 rfl rfl rfl ?_
  refine g_cV1R (p0 := 33) (r1 := mX8_columnOf) dX8_ringLetter_30 lX8_52 vX8_columnOf (by first | assumption | exact RW.s (by assumption) | exact TW.s (by assumption) | rfl) ⟨_, _, rfl⟩ (FITi rfl rfl) (Nat.le_of_ble_eq_true rfl) (columnOf_sp ht hj e4 hc1) rfl ?_
  refine g_cV2V (p0 := 36) (r1 := mX8_ringGroup) dX8_ringLetter_33 lX8_62 vX8_ringGroup (by first | assumption | exact RW.s (by assumption) | exact TW.s (by assumption) | rfl) ⟨_, _, rfl⟩ (FITi rfl rfl) (Nat.le_of_ble_eq_true rfl) (ringGroup_sp ht e2 (by omega)) rfl ?_
  refine g_aload_n (p0 := 37) (i := 0) dX8_ringLetter_36 rfl rfl rfl ?_
  refine g_iconst (p0 := 38) (v := nI 0) dX8_ringLetter_37 rfl rfl ?_
  refine g_put (p0 := 41) dX8_ringLetter_38 fX8_33 (by first | assumption | exact RW.s (by assumption) | exact TW.s (by assumption) | rfl) rfl nX8_5 (pX8_5 (by first | decide | assumption)) rfl ?_
  refine g_return dX8_ringLetter_41 rfl ?_
  refine ⟨rfl, ?_⟩
  rw [ringS, ringR, ← ht0, up_setR, setR_setR, setR_hit, e3, hσ1]
  rw [setR_ne (show t + 2 ≠ t by omega), setR_hit, setR_hit, upd_upd, setR_comm (show t ≠ t + 2 by omega), setR_setR, setR_setR]
  rw [show s + (c / 5 + 1) + (c % 5 + 1) = s + mor c by simp only [mor]; omega]

