/-! THE REFERENCE: changes and the way back -/
/-- the reference keeps n states to go back to -/
def HRf (σ : Sg) (n : Nat) (H : Nat → (Nat → Int32) × Nat) : Prop := σ 79 3 = nI n ∧ ∀ i, i < n → ∀ k, k < 189 → σ 81 (189 * i + k) = (H i).1 k
def shF (f : Nat → Int32) (j : Nat) : Nat → Int32 := fun i => if i < j then f (i + 189) else f i
def cpF (f g : Nat → Int32) (b j : Nat) : Nat → Int32 := fun i => if b ≤ i ∧ i < b + j then g (i - b) else f i
theorem shF_0 (f : Nat → Int32) : shF f 0 = f := by funext i; simp [shF]
theorem cpF_0 (f g : Nat → Int32) (b : Nat) : cpF f g b 0 = f := by
  funext i
  rw [cpF, if_neg (by omega)]
theorem shF_step (f : Nat → Int32) (j : Nat) : upd (shF f j) j (f (j + 189)) = shF f (j + 1) := by
  funext i
  by_cases h : i = j
  · subst h
    rw [upd_hit, shF, if_pos (by omega)]
  · rw [upd_ne h, shF, shF]
    by_cases h2 : i < j
    · rw [if_pos h2, if_pos (by omega)]
    · rw [if_neg h2, if_neg (by omega)]
theorem cpF_step (f g : Nat → Int32) (b j : Nat) : upd (cpF f g b j) (b + j) (g j) = cpF f g b (j + 1) := by
  funext i
  by_cases h : i = b + j
  · subst h
    rw [upd_hit, cpF, if_pos (by omega), Nat.add_sub_cancel_left]
  · rw [upd_ne h, cpF, cpF]
    by_cases h2 : b ≤ i ∧ i < b + j
    · rw [if_pos h2, if_pos (by omega)]
    · rw [if_neg h2, if_neg (by omega)]
set_option maxRecDepth 20000 in
set_option maxHeartbeats 2000000 in
theorem changes_l1 {σ : Sg} {Q : SP} (next : WM mX10_changes Q 39 [some (ar 79), some (ai (nI 567))] [] (setR σ 81 (shF (σ 81) 567))) : ∀ m j, j + m = 567 → WM mX10_changes Q 10 [some (ar 79), some (ai (nI j))] [] (setR σ 81 (shF (σ 81) j)) := by
  intro m
  induction m with
  | zero =>
    intro j hj
    obtain rfl : j = 567 := by omega
    refine g_iload_n (p0 := 11) (i := 1) dX10_changes_10 rfl rfl rfl ?_
    refine g_sipush (p0 := 14) (v := nI 567) dX10_changes_11 (by decide) rfl ?_
    first | ((with_reducible refine isN2 ?_); refine g_icmpN_ge (tgt := 39) (p1 := 17) dX10_changes_14 rfl (by omega) (by omega) rfl (fun c_14 => ?_) (fun c_14 => by exfalso; first | omega | contradiction | exact absurd (by assumption) c_14 | (simp_all; done))) | refine g_icmp_ge (tgt := 39) (p1 := 17) dX10_changes_14 rfl rfl (fun c_14 => ?_) (fun c_14 => by exfalso; first | omega | contradiction | exact absurd (by assumption) c_14 | (simp_all; done))
    exact next
  | succ m ih =>
    intro j hj
    have hv : setR σ 81 (shF (σ 81) j) 81 (j + 189) = σ 81 (j + 189) := by rw [setR_hit, shF, if_neg (by omega)]
    have e3 : up (setR σ 81 (shF (σ 81) j)) 81 j (σ 81 (j + 189)) = setR σ 81 (shF (σ 81) (j + 1)) := by
      rw [up_setR, setR_setR, setR_hit, shF_step]
    refine g_iload_n (p0 := 11) (i := 1) dX10_changes_10 rfl rfl rfl ?_
    refine g_sipush (p0 := 14) (v := nI 567) dX10_changes_11 (by decide) rfl ?_
    first | ((with_reducible refine isN2 ?_); refine g_icmpN_ge (tgt := 39) (p1 := 17) dX10_changes_14 rfl (by omega) (by omega) rfl (fun c_14 => by exfalso; first | omega | contradiction | exact absurd (by assumption) c_14 | (simp_all; done)) (fun c_14 => ?_)) | refine g_icmp_ge (tgt := 39) (p1 := 17) dX10_changes_14 rfl rfl (fun c_14 => by exfalso; first | omega | contradiction | exact absurd (by assumption) c_14 | (simp_all; done)) (fun c_14 => ?_)
    refine g_aload_n (p0 := 18) (i := 0) dX10_changes_17 rfl rfl rfl ?_
    refine g_getR (p0 := 21) dX10_changes_18 fX10_13 (by first | rfl | assumption | exact RW.s (by assumption) | exact TW.s (by assumption)) rfl rfl ?_
    refine g_iload_n (p0 := 22) (i := 1) dX10_changes_21 rfl rfl rfl ?_
    refine g_aload_n (p0 := 23) (i := 0) dX10_changes_22 rfl rfl rfl ?_
    refine g_getR (p0 := 26) dX10_changes_23 fX10_13 (by first | rfl | assumption | exact RW.s (by assumption) | exact TW.s (by assumption)) rfl rfl ?_
    refine g_iload_n (p0 := 27) (i := 1) dX10_changes_26 rfl rfl rfl ?_
    refine g_sipush (p0 := 30) (v := nI 189) dX10_changes_27 (by decide) rfl ?_
    first | ((with_reducible refine isN2 ?_); refine g_iaddN (p0 := 31) dX10_changes_30 rfl ?_) | refine g_iadd (p0 := 31) dX10_changes_30 rfl ?_
    first | ((with_reducible refine isN1 ?_); refine g_aldN (p0 := 32) dX10_changes_31 (by first | rfl | assumption | exact RW.s (by assumption) | exact TW.s (by assumption)) (by first | decide | assumption) (by omega) hv rfl ?_) | refine g_ald (p0 := 32) dX10_changes_31 (by first | rfl | assumption | exact RW.s (by assumption) | exact TW.s (by assumption)) (by assumption) hv rfl ?_
    first | ((with_reducible refine isNS ?_); refine g_astN (p0 := 33) dX10_changes_32 (by first | rfl | assumption | exact RW.s (by assumption) | exact TW.s (by assumption)) (by first | decide | assumption) (by omega) rfl ?_) | refine g_ast (p0 := 33) dX10_changes_32 (by first | rfl | assumption | exact RW.s (by assumption) | exact TW.s (by assumption)) (by assumption) rfl ?_
    first | refine g_iinc1 (p0 := 36) (ls2 := [_, _]) dX10_changes_33 rfl rfl rfl ?_ | refine g_iinc (p0 := 36) (ls2 := [_, _]) dX10_changes_33 rfl rfl rfl rfl ?_
    refine g_goto (tgt := 10) dX10_changes_36 rfl ?_
    rw [e3]
    exact ih (j + 1) (by omega)
set_option maxRecDepth 20000 in
set_option maxHeartbeats 2000000 in
theorem changes_l2 {n : Nat} {σ : Sg} {Q : SP} (hn : σ 79 3 = nI n) (hn3 : n ≤ 3) (next : Q none (up (setR σ 81 (cpF (σ 81) (σ 80) (189 * n) 189)) 79 3 (nI (n + 1)))) : ∀ m j, j + m = 189 → WM mX10_changes Q 51 [some (ar 79), some (ai (nI j))] [] (setR σ 81 (cpF (σ 81) (σ 80) (189 * n) j)) := by
  intro m
  induction m with
  | zero =>
    intro j hj
    obtain rfl : j = 189 := by omega
    have hn2 : setR σ 81 (cpF (σ 81) (σ 80) (189 * n) 189) 79 3 = nI n := by rw [setR_ne (by decide)]; exact hn
    refine g_iload_n (p0 := 52) (i := 1) dX10_changes_51 rfl rfl rfl ?_
    refine g_sipush (p0 := 55) (v := nI 189) dX10_changes_52 (by decide) rfl ?_
    first | ((with_reducible refine isN2 ?_); refine g_icmpN_ge (tgt := 85) (p1 := 58) dX10_changes_55 rfl (by omega) (by omega) rfl (fun c_55 => ?_) (fun c_55 => by exfalso; first | omega | contradiction | exact absurd (by assumption) c_55 | (simp_all; done))) | refine g_icmp_ge (tgt := 85) (p1 := 58) dX10_changes_55 rfl rfl (fun c_55 => ?_) (fun c_55 => by exfalso; first | omega | contradiction | exact absurd (by assumption) c_55 | (simp_all; done))
    refine g_aload_n (p0 := 86) (i := 0) dX10_changes_85 rfl rfl rfl ?_
    refine g_dup (p0 := 87) dX10_changes_86 rfl ?_
    refine g_getI (p0 := 90) dX10_changes_87 fX10_61 (by first | rfl | assumption | exact RW.s (by assumption) | exact TW.s (by assumption)) rfl (by first | assumption | ((repeat (first | exact up_hit | refine up_nv (by decide) ?_ | refine up_mv (by first | decide | omega) ?_)) <;> first | assumption | rfl)) rfl ?_
    refine g_iconst (p0 := 91) (v := nI 1) dX10_changes_90 rfl rfl ?_
    first | ((with_reducible refine isN2 ?_); refine g_iaddN (p0 := 92) dX10_changes_91 rfl ?_) | refine g_iadd (p0 := 92) dX10_changes_91 rfl ?_
    refine g_put (p0 := 95) dX10_changes_92 fX10_61 (by first | rfl | assumption | exact RW.s (by assumption) | exact TW.s (by assumption)) rfl nX10_3 (pX10_3 _) rfl ?_
    refine g_return dX10_changes_95 rfl ?_
    exact next
  | succ m ih =>
    intro j hj
    have hn2 : setR σ 81 (cpF (σ 81) (σ 80) (189 * n) j) 79 3 = nI n := by rw [setR_ne (by decide)]; exact hn
    have hv : setR σ 81 (cpF (σ 81) (σ 80) (189 * n) j) 80 j = σ 80 j := by rw [setR_ne (by decide)]
    have e3 : up (setR σ 81 (cpF (σ 81) (σ 80) (189 * n) j)) 81 (189 * n + j) (σ 80 j) = setR σ 81 (cpF (σ 81) (σ 80) (189 * n) (j + 1)) := by
      rw [up_setR, setR_setR, setR_hit, cpF_step]
    refine g_iload_n (p0 := 52) (i := 1) dX10_changes_51 rfl rfl rfl ?_
    refine g_sipush (p0 := 55) (v := nI 189) dX10_changes_52 (by decide) rfl ?_
    first | ((with_reducible refine isN2 ?_); refine g_icmpN_ge (tgt := 85) (p1 := 58) dX10_changes_55 rfl (by omega) (by omega) rfl (fun c_55 => by exfalso; first | omega | contradiction | exact absurd (by assumption) c_55 | (simp_all; done)) (fun c_55 => ?_)) | refine g_icmp_ge (tgt := 85) (p1 := 58) dX10_changes_55 rfl rfl (fun c_55 => by exfalso; first | omega | contradiction | exact absurd (by assumption) c_55 | (simp_all; done)) (fun c_55 => ?_)
    refine g_aload_n (p0 := 59) (i := 0) dX10_changes_58 rfl rfl rfl ?_
    refine g_getR (p0 := 62) dX10_changes_59 fX10_13 (by first | rfl | assumption | exact RW.s (by assumption) | exact TW.s (by assumption)) rfl rfl ?_
    refine g_sipush (p0 := 65) (v := nI 189) dX10_changes_62 (by decide) rfl ?_
    refine g_aload_n (p0 := 66) (i := 0) dX10_changes_65 rfl rfl rfl ?_
    refine g_getI (p0 := 69) dX10_changes_66 fX10_61 (by first | rfl | assumption | exact RW.s (by assumption) | exact TW.s (by assumption)) rfl (by first | assumption | ((repeat (first | exact up_hit | refine up_nv (by decide) ?_ | refine up_mv (by first | decide | omega) ?_)) <;> first | assumption | rfl)) rfl ?_
    first | ((with_reducible refine isN2 ?_); refine g_imulN (p0 := 70) dX10_changes_69 rfl ?_) | refine g_imul (p0 := 70) dX10_changes_69 rfl ?_
    refine g_iload_n (p0 := 71) (i := 1) dX10_changes_70 rfl rfl rfl ?_
    first | ((with_reducible refine isN2 ?_); refine g_iaddN (p0 := 72) dX10_changes_71 rfl ?_) | refine g_iadd (p0 := 72) dX10_changes_71 rfl ?_
    refine g_aload_n (p0 := 73) (i := 0) dX10_changes_72 rfl rfl rfl ?_
    refine g_getR (p0 := 76) dX10_changes_73 fX10_7 (by first | rfl | assumption | exact RW.s (by assumption) | exact TW.s (by assumption)) rfl rfl ?_
    refine g_iload_n (p0 := 77) (i := 1) dX10_changes_76 rfl rfl rfl ?_
    first | ((with_reducible refine isN1 ?_); refine g_aldN (p0 := 78) dX10_changes_77 (by first | rfl | assumption | exact RW.s (by assumption) | exact TW.s (by assumption)) (by first | decide | assumption) (by omega) hv rfl ?_) | refine g_ald (p0 := 78) dX10_changes_77 (by first | rfl | assumption | exact RW.s (by assumption) | exact TW.s (by assumption)) (by assumption) hv rfl ?_
    first | ((with_reducible refine isNS ?_); refine g_astN (p0 := 79) dX10_changes_78 (by first | rfl | assumption | exact RW.s (by assumption) | exact TW.s (by assumption)) (by first | decide | assumption) (by omega) rfl ?_) | refine g_ast (p0 := 79) dX10_changes_78 (by first | rfl | assumption | exact RW.s (by assumption) | exact TW.s (by assumption)) (by assumption) rfl ?_
    first | refine g_iinc1 (p0 := 82) (ls2 := [_, _]) dX10_changes_79 rfl rfl rfl ?_ | refine g_iinc (p0 := 82) (ls2 := [_, _]) dX10_changes_79 rfl rfl rfl rfl ?_
    refine g_goto (tgt := 51) dX10_changes_82 rfl ?_
    rw [e3]
    exact ih (j + 1) (by omega)
set_option maxRecDepth 20000 in
set_option maxHeartbeats 2000000 in
theorem changes_lt {n : Nat} {σ : Sg} (hn : σ 79 3 = nI n) (hn3 : n ≤ 3) : CM mX10_changes [ar 79] σ (RetV (up (setR σ 81 (cpF (σ 81) (σ 80) (189 * n) 189)) 79 3 (nI (n + 1)))) := by
  refine CM_in (ls := [some (ar 79), none]) rfl ?_
  refine g_aload_n (p0 := 1) (i := 0) dX10_changes_0 rfl rfl rfl ?_
  refine g_getI (p0 := 4) dX10_changes_1 fX10_61 (by first | rfl | assumption | exact RW.s (by assumption) | exact TW.s (by assumption)) rfl (by first | assumption | ((repeat (first | exact up_hit | refine up_nv (by decide) ?_ | refine up_mv (by first | decide | omega) ?_)) <;> first | assumption | rfl)) rfl ?_
  refine g_iconst (p0 := 5) (v := nI 4) dX10_changes_4 rfl rfl ?_
  first | ((with_reducible refine isN2 ?_); refine g_icmpN_ne (tgt := 49) (p1 := 8) dX10_changes_5 rfl (by omega) (by omega) rfl (fun c_5 => ?_) (fun c_5 => by exfalso; first | omega | contradiction | exact absurd (by assumption) c_5 | (simp_all; done))) | refine g_icmp_ne (tgt := 49) (p1 := 8) dX10_changes_5 rfl rfl (fun c_5 => ?_) (fun c_5 => by exfalso; first | omega | contradiction | exact absurd (by assumption) c_5 | (simp_all; done))
  refine g_iconst (p0 := 50) (v := nI 0) dX10_changes_49 rfl rfl ?_
  refine g_istore_n (p0 := 51) (i := 1) (ls2 := [_, _]) dX10_changes_50 rfl (Nat.le_of_ble_eq_true rfl) rfl rfl ?_
  have h := changes_l2 (Q := RetV (up (setR σ 81 (cpF (σ 81) (σ 80) (189 * n) 189)) 79 3 (nI (n + 1)))) hn hn3 ⟨rfl, rfl⟩ 189 0 (by omega)
  rw [cpF_0, setR_id rfl] at h
  exact h
set_option maxRecDepth 20000 in
set_option maxHeartbeats 2000000 in
theorem changes_4 {σ : Sg} (hn : σ 79 3 = nI 4) : CM mX10_changes [ar 79] σ (RetV (up (setR (up (setR σ 81 (shF (σ 81) 567)) 79 3 (nI 3)) 81 (cpF ((up (setR σ 81 (shF (σ 81) 567)) 79 3 (nI 3)) 81) ((up (setR σ 81 (shF (σ 81) 567)) 79 3 (nI 3)) 80) (189 * 3) 189)) 79 3 (nI (3 + 1)))) := by
  refine CM_in (ls := [some (ar 79), none]) rfl ?_
  refine g_aload_n (p0 := 1) (i := 0) dX10_changes_0 rfl rfl rfl ?_
  refine g_getI (p0 := 4) dX10_changes_1 fX10_61 (by first | rfl | assumption | exact RW.s (by assumption) | exact TW.s (by assumption)) rfl (by first | assumption | ((repeat (first | exact up_hit | refine up_nv (by decide) ?_ | refine up_mv (by first | decide | omega) ?_)) <;> first | assumption | rfl)) rfl ?_
  refine g_iconst (p0 := 5) (v := nI 4) dX10_changes_4 rfl rfl ?_
  first | ((with_reducible refine isN2 ?_); refine g_icmpN_ne (tgt := 49) (p1 := 8) dX10_changes_5 rfl (by omega) (by omega) rfl (fun c_5 => by exfalso; first | omega | contradiction | exact absurd (by assumption) c_5 | (simp_all; done)) (fun c_5 => ?_)) | refine g_icmp_ne (tgt := 49) (p1 := 8) dX10_changes_5 rfl rfl (fun c_5 => by exfalso; first | omega | contradiction | exact absurd (by assumption) c_5 | (simp_all; done)) (fun c_5 => ?_)
  refine g_iconst (p0 := 9) (v := nI 0) dX10_changes_8 rfl rfl ?_
  refine g_istore_n (p0 := 10) (i := 1) (ls2 := [_, _]) dX10_changes_9 rfl (Nat.le_of_ble_eq_true rfl) rfl rfl ?_
  have h := changes_l1 (σ := σ) (Q := RetV (up (setR (up (setR σ 81 (shF (σ 81) 567)) 79 3 (nI 3)) 81 (cpF ((up (setR σ 81 (shF (σ 81) 567)) 79 3 (nI 3)) 81) ((up (setR σ 81 (shF (σ 81) 567)) 79 3 (nI 3)) 80) (189 * 3) 189)) 79 3 (nI (3 + 1)))) ?_ 567 0 (by omega)
  · rw [shF_0, setR_id rfl] at h
    exact h
  have hn2 : setR σ 81 (shF (σ 81) 567) 79 3 = nI 4 := by rw [setR_ne (by decide)]; exact hn
  refine g_aload_n (p0 := 40) (i := 0) dX10_changes_39 rfl rfl rfl ?_
  refine g_dup (p0 := 41) dX10_changes_40 rfl ?_
  refine g_getI (p0 := 44) dX10_changes_41 fX10_61 (by first | rfl | assumption | exact RW.s (by assumption) | exact TW.s (by assumption)) rfl (by first | assumption | ((repeat (first | exact up_hit | refine up_nv (by decide) ?_ | refine up_mv (by first | decide | omega) ?_)) <;> first | assumption | rfl)) rfl ?_
  refine g_iconst (p0 := 45) (v := nI 1) dX10_changes_44 rfl rfl ?_
  first | ((with_reducible refine isN2 ?_); refine g_isubN (p0 := 46) dX10_changes_45 (by omega) rfl ?_) | refine g_isub (p0 := 46) dX10_changes_45 rfl ?_
  refine g_put (p0 := 49) dX10_changes_46 fX10_61 (by first | rfl | assumption | exact RW.s (by assumption) | exact TW.s (by assumption)) rfl nX10_3 (pX10_3 _) rfl ?_
  refine g_iconst (p0 := 50) (v := nI 0) dX10_changes_49 rfl rfl ?_
  refine g_istore_n (p0 := 51) (i := 1) (ls2 := [_, _]) dX10_changes_50 rfl (Nat.le_of_ble_eq_true rfl) rfl rfl ?_
  have h := changes_l2 (σ := up (setR σ 81 (shF (σ 81) 567)) 79 3 (nI 3)) (n := 3) (Q := RetV (up (setR (up (setR σ 81 (shF (σ 81) 567)) 79 3 (nI 3)) 81 (cpF ((up (setR σ 81 (shF (σ 81) 567)) 79 3 (nI 3)) 81) ((up (setR σ 81 (shF (σ 81) 567)) 79 3 (nI 3)) 80) (189 * 3) 189)) 79 3 (nI (3 + 1)))) up_hit (by decide) ⟨rfl, rfl⟩ 189 0 (by omega)
  rw [cpF_0, setR_id rfl] at h
  exact h
theorem changes_rel {n : Nat} {σ : Sg} {H : Nat → (Nat → Int32) × Nat} (x : (Nat → Int32) × Nat) (hH : HRf σ n H) (hn : n ≤ 4) (hx : ∀ k, k < 189 → σ 80 k = x.1 k) : CM mX10_changes [ar 79] σ (RelV (fun σ' => HRf σ' (pn n) (push n H x) ∧ (∀ z, z ≠ 79 → z ≠ 81 → σ' z = σ z) ∧ ∀ j, j ≠ 3 → σ' 79 j = σ 79 j)) := by
  by_cases h4 : n = 4
  · subst h4
    refine CM.mono (changes_4 hH.1) ?_
    rintro w σ' ⟨rfl, rfl⟩
    refine ⟨rfl, ⟨up_hit, fun i hi k hk => ?_⟩, fun z h1 h2 => ?_, fun j h1 => ?_⟩
    · rw [up_ne (by decide), setR_hit, cpF, up_ne (by decide), up_ne (by decide), setR_hit, setR_ne (by decide)]
      have hi4 : i < 4 := hi
      by_cases h3 : i = 3
      · subst h3
        rw [if_pos (by omega), Nat.add_sub_cancel_left, hx k hk]; rfl
      · rw [if_neg (by omega), shF, if_pos (by omega)]
        have e := hH.2 (i + 1) (by omega) k hk
        have e2 : 189 * i + k + 189 = 189 * (i + 1) + k := by omega
        rw [e2, e, push, if_pos rfl]
        show _ = (if i = 3 then x else H (i + 1)).1 k
        rw [if_neg h3]
    · rw [up_ne h1, setR_ne h2, up_ne h1, setR_ne h2]
    · rw [up_miss h1, setR_ne (by decide), up_miss h1, setR_ne (by decide)]
  · refine CM.mono (changes_lt hH.1 (by omega)) ?_
    rintro w σ' ⟨rfl, rfl⟩
    refine ⟨rfl, ⟨?_, fun i hi k hk => ?_⟩, fun z h1 h2 => ?_, fun j h1 => ?_⟩
    · rw [up_hit, pn, if_neg h4]
    · rw [pn, if_neg h4] at hi
      rw [up_ne (by decide), setR_hit, cpF, push, if_neg h4]
      show _ = (if i = n then x else H i).1 k
      by_cases h3 : i = n
      · subst h3
        rw [if_pos (by omega), Nat.add_sub_cancel_left, hx k hk, if_pos rfl]
      · rw [if_neg (by omega), if_neg h3]
        exact hH.2 i (by omega) k hk
    · rw [up_ne h1, setR_ne h2]
    · rw [up_miss h1, setR_ne (by decide)]
