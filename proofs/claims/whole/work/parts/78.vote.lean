/-! VOTES, both sides -/
theorem VR {σ : Sg} (hI : Inv σ) {s0 : Nat} (hs0 : σ 80 3 = nI s0) (hs1 : s0 ≤ 160) (h0 : 0 < s0) (g a b : Nat) : val (σ 44) g a b = -1 ∨ ∃ x, x < 25 ∧ val (σ 44) g a b = nI x := by
  obtain ⟨s, n, H, len, hR, hRep, hHC, hHR, hRD, hT⟩ := hI
  have es : s0 = s := (nI_inj (by omega) (by have := hR.2.1; omega)).mp (hs0.symm.trans hR.1)
  by_cases h2 : g = 2
  · by_cases hG : GD a b
    · subst h2
      obtain ⟨e1, e2⟩ := val_good hR (hRD.2.2.2.2.2.1 (by omega)) hG
      exact Or.inr ⟨_, e2, e1⟩
    · exact Or.inl (by rw [val, if_neg (fun q => hG q.2)])
  · exact Or.inl (by rw [val, if_neg (fun q => h2 q.1)])
/-- how many of the first copies have letter k at place j -/
def vc (v : Nat → Int32) (f n : Nat → Nat) (j k : Nat) : Nat → Nat
  | 0 => 0
  | m + 1 => if j < n m ∧ v (f m + j) = nI k then vc v f n j k m + 1 else vc v f n j k m
theorem vc_le (v : Nat → Int32) (f n : Nat → Nat) (j k : Nat) : ∀ m, vc v f n j k m ≤ m
  | 0 => Nat.le_refl 0
  | m + 1 => by
    have := vc_le v f n j k m
    rw [vc]
    split <;> omega
def moF (c : Nat → Nat) : Nat → Nat
  | 0 => 0
  | k + 1 => if moF c k < c k then c k else moF c k
def wiF (c : Nat → Nat) : Nat → Nat
  | 0 => 0
  | k + 1 => if moF c k < c k then k else wiF c k
def duF (c : Nat → Nat) : Nat → Nat
  | 0 => 0
  | k + 1 => if moF c k < c k then 0 else if 0 < c k ∧ c k = moF c k then 1 else duF c k
def wv (e : Int32) (c : Nat → Nat) (k : Nat) : Int32 := if moF c k = 0 then e else nI (wiF c k)
theorem moF_le {c : Nat → Nat} {b : Nat} (h : ∀ k, c k ≤ b) : ∀ k, moF c k ≤ b
  | 0 => Nat.zero_le b
  | k + 1 => by
    have h1 := moF_le h k
    have h2 := h k
    rw [moF]
    split <;> omega
theorem wiF_lt {c : Nat → Nat} : ∀ k, 0 < k → wiF c k < k
  | 0, h => absurd h (Nat.not_lt_zero 0)
  | k + 1, _ => by
    rw [wiF]
    split
    · exact Nat.lt_succ_self k
    · by_cases h : k = 0
      · subst h; exact Nat.lt_succ_self 0
      · have := wiF_lt (c := c) k (by omega)
        omega
theorem duF_le {c : Nat → Nat} : ∀ k, duF c k = 0 ∨ duF c k = 1
  | 0 => Or.inl rfl
  | k + 1 => by
    have h := duF_le (c := c) k
    rw [duF]
    split
    · exact Or.inl rfl
    · split
      · exact Or.inr rfl
      · exact h
theorem moF_gt {c : Nat → Nat} {k : Nat} (h : moF c k < c k) : moF c (k + 1) = c k := by rw [moF, if_pos h]
theorem moF_nle {c : Nat → Nat} {k : Nat} (h : ¬ moF c k < c k) : moF c (k + 1) = moF c k := by rw [moF, if_neg h]
theorem duF_gt {c : Nat → Nat} {k : Nat} (h : moF c k < c k) : duF c (k + 1) = 0 := by rw [duF, if_pos h]
theorem duF_eq {c : Nat → Nat} {k : Nat} (h : ¬ moF c k < c k) (h1 : 0 < c k ∧ c k = moF c k) : duF c (k + 1) = 1 := by rw [duF, if_neg h, if_pos h1]
theorem duF_ne {c : Nat → Nat} {k : Nat} (h : ¬ moF c k < c k) (h1 : ¬ (0 < c k ∧ c k = moF c k)) : duF c (k + 1) = duF c k := by rw [duF, if_neg h, if_neg h1]
theorem wv_gt {e : Int32} {c : Nat → Nat} {k : Nat} (h : moF c k < c k) : wv e c (k + 1) = nI k := by rw [wv, moF_gt h, if_neg (by omega), wiF, if_pos h]
theorem wv_nle {e : Int32} {c : Nat → Nat} {k : Nat} (h : ¬ moF c k < c k) : wv e c (k + 1) = wv e c k := by rw [wv, wv, moF_nle h, wiF, if_neg h]
theorem moF_zero {c : Nat → Nat} (h : ∀ k, c k = 0) : ∀ k, moF c k = 0
  | 0 => rfl
  | k + 1 => by rw [moF, moF_zero h k, if_neg (by rw [h k]; exact Nat.lt_irrefl 0)]
set_option maxRecDepth 20000 in
set_option maxHeartbeats 2000000 in
theorem decide_l {c : Nat → Nat} {σ : Sg} {Q : SP} (hc : ∀ k, c k ≤ 160) (hv : ∀ k, k < 25 → σ 75 k = nI (c k)) (kk : ∀ σ1, (∀ z, z ≠ 73 → σ1 z = σ z) → σ1 73 1 = wv (-1) c 25 → σ1 73 2 = nI (moF c 25) → σ1 73 3 = nI (duF c 25) → Q none σ1) : ∀ q k, k + q = 25 → ∀ σ1, (∀ z, z ≠ 73 → σ1 z = σ z) → σ1 73 1 = wv (-1) c k → σ1 73 2 = nI (moF c k) → σ1 73 3 = nI (duF c k) → ∀ x, WM mX0_decide Q 17 [some (ar 73), some (ai (nI k)), x] [] σ1 := by
  intro q
  induction q with
  | zero =>
    intro k hk σ1 h0 h1 h2 h3 x
    obtain rfl : k = 25 := by omega
    refine g_iload_n (p0 := 18) (i := 1) dX0_decide_17 rfl rfl rfl ?_
    refine g_bipush (p0 := 20) (v := nI 25) dX0_decide_18 (by decide) rfl ?_
    first | ((with_reducible refine isN2 ?_); refine g_icmpN_ge (tgt := 81) (p1 := 23) dX0_decide_20 rfl (by omega) (by omega) rfl (fun c_20 => ?_) (fun c_20 => by exfalso; first | omega | contradiction | exact absurd (by assumption) c_20 | (simp_all; done))) | refine g_icmp_ge (tgt := 81) (p1 := 23) dX0_decide_20 rfl rfl (fun c_20 => ?_) (fun c_20 => by exfalso; first | omega | contradiction | exact absurd (by assumption) c_20 | (simp_all; done))
    refine g_return dX0_decide_81 rfl ?_
    exact kk σ1 h0 h1 h2 h3
  | succ q ih =>
    intro k hk σ1 h0 h1 h2 h3 x
    have e75 : σ1 75 k = nI (c k) := by rw [h0 75 (by decide)]; exact hv k (by omega)
    have b1 := hc k
    have b2 := moF_le hc k
    by_cases hg : moF c k < c k
    · refine g_iload_n (p0 := 18) (i := 1) dX0_decide_17 rfl rfl rfl ?_
      refine g_bipush (p0 := 20) (v := nI 25) dX0_decide_18 (by decide) rfl ?_
      first | ((with_reducible refine isN2 ?_); refine g_icmpN_ge (tgt := 81) (p1 := 23) dX0_decide_20 rfl (by omega) (by omega) rfl (fun c_20 => by exfalso; first | omega | contradiction | exact absurd (by assumption) c_20 | (simp_all; done)) (fun c_20 => ?_)) | refine g_icmp_ge (tgt := 81) (p1 := 23) dX0_decide_20 rfl rfl (fun c_20 => by exfalso; first | omega | contradiction | exact absurd (by assumption) c_20 | (simp_all; done)) (fun c_20 => ?_)
      refine g_aload_n (p0 := 24) (i := 0) dX0_decide_23 rfl rfl rfl ?_
      refine g_getR (p0 := 27) dX0_decide_24 fX0_14 (by first | rfl | assumption | exact RW.s (by assumption) | exact TW.s (by assumption)) rfl rfl ?_
      refine g_iload_n (p0 := 28) (i := 1) dX0_decide_27 rfl rfl rfl ?_
      refine g_cV1R (p0 := 31) (r1 := mX7_at) dX0_decide_28 lX0_60 vX7_at (by first | rfl | assumption | exact RW.s (by assumption) | exact TW.s (by assumption)) ⟨_, _, rfl⟩ (FITi rfl rfl) (Nat.le_of_ble_eq_true rfl) (at_N (by first | exact ⟨rfl, rfl, by decide⟩ | assumption) (by omega) e75) rfl ?_
      refine g_istore_n (p0 := 32) (i := 2) (ls2 := [_, _, _]) dX0_decide_31 rfl (Nat.le_of_ble_eq_true rfl) rfl rfl ?_
      refine g_iload_n (p0 := 33) (i := 2) dX0_decide_32 rfl rfl rfl ?_
      refine g_aload_n (p0 := 34) (i := 0) dX0_decide_33 rfl rfl rfl ?_
      refine g_getI (p0 := 37) dX0_decide_34 fX0_24 (by first | rfl | assumption | exact RW.s (by assumption) | exact TW.s (by assumption)) rfl (by first | assumption | ((repeat (first | exact up_hit | refine up_nv (by decide) ?_ | refine up_mv (by first | decide | omega) ?_)) <;> first | assumption | rfl)) rfl ?_
      first | ((with_reducible refine isN2 ?_); refine g_icmpN_le (tgt := 58) (p1 := 40) dX0_decide_37 rfl (by omega) (by omega) rfl (fun c_37 => by exfalso; first | omega | contradiction | exact absurd (by assumption) c_37 | (simp_all; done)) (fun c_37 => ?_)) | refine g_icmp_le (tgt := 58) (p1 := 40) dX0_decide_37 rfl rfl (fun c_37 => by exfalso; first | omega | contradiction | exact absurd (by assumption) c_37 | (simp_all; done)) (fun c_37 => ?_)
      refine g_aload_n (p0 := 41) (i := 0) dX0_decide_40 rfl rfl rfl ?_
      refine g_iload_n (p0 := 42) (i := 1) dX0_decide_41 rfl rfl rfl ?_
      refine g_put (p0 := 45) dX0_decide_42 fX0_20 (by first | rfl | assumption | exact RW.s (by assumption) | exact TW.s (by assumption)) rfl nX0_1 (pX0_1 _) rfl ?_
      refine g_aload_n (p0 := 46) (i := 0) dX0_decide_45 rfl rfl rfl ?_
      refine g_iload_n (p0 := 47) (i := 2) dX0_decide_46 rfl rfl rfl ?_
      refine g_put (p0 := 50) dX0_decide_47 fX0_24 (by first | rfl | assumption | exact RW.s (by assumption) | exact TW.s (by assumption)) rfl nX0_2 (pX0_2 _) rfl ?_
      refine g_aload_n (p0 := 51) (i := 0) dX0_decide_50 rfl rfl rfl ?_
      refine g_iconst (p0 := 52) (v := nI 0) dX0_decide_51 rfl rfl ?_
      refine g_put (p0 := 55) dX0_decide_52 fX0_27 (by first | rfl | assumption | exact RW.s (by assumption) | exact TW.s (by assumption)) rfl nX0_3 (pX0_3 (by first | decide | assumption)) rfl ?_
      refine g_goto (tgt := 75) dX0_decide_55 rfl ?_
      first | refine g_iinc1 (p0 := 78) (ls2 := [_, _, _]) dX0_decide_75 rfl rfl rfl ?_ | refine g_iinc (p0 := 78) (ls2 := [_, _, _]) dX0_decide_75 rfl rfl rfl rfl ?_
      refine g_goto (tgt := 17) dX0_decide_78 rfl ?_
      refine ih (k + 1) (by omega) _ (fun z hz => ?_) ?_ ?_ ?_ _
      · rw [up_ne hz, up_ne hz, up_ne hz]; exact h0 z hz
      · rw [up_miss (by decide), up_miss (by decide), up_hit, wv_gt hg]
      · rw [up_miss (by decide), up_hit, moF_gt hg]
      · rw [up_hit, duF_gt hg]
    · by_cases hz0 : c k = 0
      · have hn : ¬ (0 < c k ∧ c k = moF c k) := by omega
        refine g_iload_n (p0 := 18) (i := 1) dX0_decide_17 rfl rfl rfl ?_
        refine g_bipush (p0 := 20) (v := nI 25) dX0_decide_18 (by decide) rfl ?_
        first | ((with_reducible refine isN2 ?_); refine g_icmpN_ge (tgt := 81) (p1 := 23) dX0_decide_20 rfl (by omega) (by omega) rfl (fun c_20 => by exfalso; first | omega | contradiction | exact absurd (by assumption) c_20 | (simp_all; done)) (fun c_20 => ?_)) | refine g_icmp_ge (tgt := 81) (p1 := 23) dX0_decide_20 rfl rfl (fun c_20 => by exfalso; first | omega | contradiction | exact absurd (by assumption) c_20 | (simp_all; done)) (fun c_20 => ?_)
        refine g_aload_n (p0 := 24) (i := 0) dX0_decide_23 rfl rfl rfl ?_
        refine g_getR (p0 := 27) dX0_decide_24 fX0_14 (by first | rfl | assumption | exact RW.s (by assumption) | exact TW.s (by assumption)) rfl rfl ?_
        refine g_iload_n (p0 := 28) (i := 1) dX0_decide_27 rfl rfl rfl ?_
        refine g_cV1R (p0 := 31) (r1 := mX7_at) dX0_decide_28 lX0_60 vX7_at (by first | rfl | assumption | exact RW.s (by assumption) | exact TW.s (by assumption)) ⟨_, _, rfl⟩ (FITi rfl rfl) (Nat.le_of_ble_eq_true rfl) (at_N (by first | exact ⟨rfl, rfl, by decide⟩ | assumption) (by omega) e75) rfl ?_
        refine g_istore_n (p0 := 32) (i := 2) (ls2 := [_, _, _]) dX0_decide_31 rfl (Nat.le_of_ble_eq_true rfl) rfl rfl ?_
        refine g_iload_n (p0 := 33) (i := 2) dX0_decide_32 rfl rfl rfl ?_
        refine g_aload_n (p0 := 34) (i := 0) dX0_decide_33 rfl rfl rfl ?_
        refine g_getI (p0 := 37) dX0_decide_34 fX0_24 (by first | rfl | assumption | exact RW.s (by assumption) | exact TW.s (by assumption)) rfl (by first | assumption | ((repeat (first | exact up_hit | refine up_nv (by decide) ?_ | refine up_mv (by first | decide | omega) ?_)) <;> first | assumption | rfl)) rfl ?_
        first | ((with_reducible refine isN2 ?_); refine g_icmpN_le (tgt := 58) (p1 := 40) dX0_decide_37 rfl (by omega) (by omega) rfl (fun c_37 => ?_) (fun c_37 => by exfalso; first | omega | contradiction | exact absurd (by assumption) c_37 | (simp_all; done))) | refine g_icmp_le (tgt := 58) (p1 := 40) dX0_decide_37 rfl rfl (fun c_37 => ?_) (fun c_37 => by exfalso; first | omega | contradiction | exact absurd (by assumption) c_37 | (simp_all; done))
        refine g_iload_n (p0 := 59) (i := 2) dX0_decide_58 rfl rfl rfl ?_
        first | ((with_reducible refine isN1 ?_); refine g_ifN_le (tgt := 75) (p1 := 62) dX0_decide_59 rfl (by omega) rfl (fun c_59 => ?_) (fun c_59 => by exfalso; first | omega | contradiction | exact absurd (by assumption) c_59 | (simp_all; done))) | refine g_if_le (tgt := 75) (p1 := 62) dX0_decide_59 rfl rfl (fun c_59 => ?_) (fun c_59 => by exfalso; first | omega | contradiction | exact absurd (by assumption) c_59 | (simp_all; done))
        first | refine g_iinc1 (p0 := 78) (ls2 := [_, _, _]) dX0_decide_75 rfl rfl rfl ?_ | refine g_iinc (p0 := 78) (ls2 := [_, _, _]) dX0_decide_75 rfl rfl rfl rfl ?_
        refine g_goto (tgt := 17) dX0_decide_78 rfl ?_
        exact ih (k + 1) (by omega) σ1 h0 (by rw [wv_nle hg]; exact h1) (by rw [moF_nle hg]; exact h2) (by rw [duF_ne hg hn]; exact h3) _
      · by_cases he : c k = moF c k
        · refine g_iload_n (p0 := 18) (i := 1) dX0_decide_17 rfl rfl rfl ?_
          refine g_bipush (p0 := 20) (v := nI 25) dX0_decide_18 (by decide) rfl ?_
          first | ((with_reducible refine isN2 ?_); refine g_icmpN_ge (tgt := 81) (p1 := 23) dX0_decide_20 rfl (by omega) (by omega) rfl (fun c_20 => by exfalso; first | omega | contradiction | exact absurd (by assumption) c_20 | (simp_all; done)) (fun c_20 => ?_)) | refine g_icmp_ge (tgt := 81) (p1 := 23) dX0_decide_20 rfl rfl (fun c_20 => by exfalso; first | omega | contradiction | exact absurd (by assumption) c_20 | (simp_all; done)) (fun c_20 => ?_)
          refine g_aload_n (p0 := 24) (i := 0) dX0_decide_23 rfl rfl rfl ?_
          refine g_getR (p0 := 27) dX0_decide_24 fX0_14 (by first | rfl | assumption | exact RW.s (by assumption) | exact TW.s (by assumption)) rfl rfl ?_
          refine g_iload_n (p0 := 28) (i := 1) dX0_decide_27 rfl rfl rfl ?_
          refine g_cV1R (p0 := 31) (r1 := mX7_at) dX0_decide_28 lX0_60 vX7_at (by first | rfl | assumption | exact RW.s (by assumption) | exact TW.s (by assumption)) ⟨_, _, rfl⟩ (FITi rfl rfl) (Nat.le_of_ble_eq_true rfl) (at_N (by first | exact ⟨rfl, rfl, by decide⟩ | assumption) (by omega) e75) rfl ?_
          refine g_istore_n (p0 := 32) (i := 2) (ls2 := [_, _, _]) dX0_decide_31 rfl (Nat.le_of_ble_eq_true rfl) rfl rfl ?_
          refine g_iload_n (p0 := 33) (i := 2) dX0_decide_32 rfl rfl rfl ?_
          refine g_aload_n (p0 := 34) (i := 0) dX0_decide_33 rfl rfl rfl ?_
          refine g_getI (p0 := 37) dX0_decide_34 fX0_24 (by first | rfl | assumption | exact RW.s (by assumption) | exact TW.s (by assumption)) rfl (by first | assumption | ((repeat (first | exact up_hit | refine up_nv (by decide) ?_ | refine up_mv (by first | decide | omega) ?_)) <;> first | assumption | rfl)) rfl ?_
          first | ((with_reducible refine isN2 ?_); refine g_icmpN_le (tgt := 58) (p1 := 40) dX0_decide_37 rfl (by omega) (by omega) rfl (fun c_37 => ?_) (fun c_37 => by exfalso; first | omega | contradiction | exact absurd (by assumption) c_37 | (simp_all; done))) | refine g_icmp_le (tgt := 58) (p1 := 40) dX0_decide_37 rfl rfl (fun c_37 => ?_) (fun c_37 => by exfalso; first | omega | contradiction | exact absurd (by assumption) c_37 | (simp_all; done))
          refine g_iload_n (p0 := 59) (i := 2) dX0_decide_58 rfl rfl rfl ?_
          first | ((with_reducible refine isN1 ?_); refine g_ifN_le (tgt := 75) (p1 := 62) dX0_decide_59 rfl (by omega) rfl (fun c_59 => by exfalso; first | omega | contradiction | exact absurd (by assumption) c_59 | (simp_all; done)) (fun c_59 => ?_)) | refine g_if_le (tgt := 75) (p1 := 62) dX0_decide_59 rfl rfl (fun c_59 => by exfalso; first | omega | contradiction | exact absurd (by assumption) c_59 | (simp_all; done)) (fun c_59 => ?_)
          refine g_iload_n (p0 := 63) (i := 2) dX0_decide_62 rfl rfl rfl ?_
          refine g_aload_n (p0 := 64) (i := 0) dX0_decide_63 rfl rfl rfl ?_
          refine g_getI (p0 := 67) dX0_decide_64 fX0_24 (by first | rfl | assumption | exact RW.s (by assumption) | exact TW.s (by assumption)) rfl (by first | assumption | ((repeat (first | exact up_hit | refine up_nv (by decide) ?_ | refine up_mv (by first | decide | omega) ?_)) <;> first | assumption | rfl)) rfl ?_
          first | ((with_reducible refine isN2 ?_); refine g_icmpN_ne (tgt := 75) (p1 := 70) dX0_decide_67 rfl (by omega) (by omega) rfl (fun c_67 => by exfalso; first | omega | contradiction | exact absurd (by assumption) c_67 | (simp_all; done)) (fun c_67 => ?_)) | refine g_icmp_ne (tgt := 75) (p1 := 70) dX0_decide_67 rfl rfl (fun c_67 => by exfalso; first | omega | contradiction | exact absurd (by assumption) c_67 | (simp_all; done)) (fun c_67 => ?_)
          refine g_aload_n (p0 := 71) (i := 0) dX0_decide_70 rfl rfl rfl ?_
          refine g_iconst (p0 := 72) (v := nI 1) dX0_decide_71 rfl rfl ?_
          refine g_put (p0 := 75) dX0_decide_72 fX0_27 (by first | rfl | assumption | exact RW.s (by assumption) | exact TW.s (by assumption)) rfl nX0_3 (pX0_3 (by first | decide | assumption)) rfl ?_
          first | refine g_iinc1 (p0 := 78) (ls2 := [_, _, _]) dX0_decide_75 rfl rfl rfl ?_ | refine g_iinc (p0 := 78) (ls2 := [_, _, _]) dX0_decide_75 rfl rfl rfl rfl ?_
          refine g_goto (tgt := 17) dX0_decide_78 rfl ?_
          refine ih (k + 1) (by omega) _ (fun z hz => ?_) ?_ ?_ ?_ _
          · rw [up_ne hz]; exact h0 z hz
          · rw [up_miss (by decide), wv_nle hg]; exact h1
          · rw [up_miss (by decide), moF_nle hg]; exact h2
          · rw [up_hit, duF_eq hg ⟨by omega, he⟩]
        · have hn : ¬ (0 < c k ∧ c k = moF c k) := by omega
          refine g_iload_n (p0 := 18) (i := 1) dX0_decide_17 rfl rfl rfl ?_
          refine g_bipush (p0 := 20) (v := nI 25) dX0_decide_18 (by decide) rfl ?_
          first | ((with_reducible refine isN2 ?_); refine g_icmpN_ge (tgt := 81) (p1 := 23) dX0_decide_20 rfl (by omega) (by omega) rfl (fun c_20 => by exfalso; first | omega | contradiction | exact absurd (by assumption) c_20 | (simp_all; done)) (fun c_20 => ?_)) | refine g_icmp_ge (tgt := 81) (p1 := 23) dX0_decide_20 rfl rfl (fun c_20 => by exfalso; first | omega | contradiction | exact absurd (by assumption) c_20 | (simp_all; done)) (fun c_20 => ?_)
          refine g_aload_n (p0 := 24) (i := 0) dX0_decide_23 rfl rfl rfl ?_
          refine g_getR (p0 := 27) dX0_decide_24 fX0_14 (by first | rfl | assumption | exact RW.s (by assumption) | exact TW.s (by assumption)) rfl rfl ?_
          refine g_iload_n (p0 := 28) (i := 1) dX0_decide_27 rfl rfl rfl ?_
          refine g_cV1R (p0 := 31) (r1 := mX7_at) dX0_decide_28 lX0_60 vX7_at (by first | rfl | assumption | exact RW.s (by assumption) | exact TW.s (by assumption)) ⟨_, _, rfl⟩ (FITi rfl rfl) (Nat.le_of_ble_eq_true rfl) (at_N (by first | exact ⟨rfl, rfl, by decide⟩ | assumption) (by omega) e75) rfl ?_
          refine g_istore_n (p0 := 32) (i := 2) (ls2 := [_, _, _]) dX0_decide_31 rfl (Nat.le_of_ble_eq_true rfl) rfl rfl ?_
          refine g_iload_n (p0 := 33) (i := 2) dX0_decide_32 rfl rfl rfl ?_
          refine g_aload_n (p0 := 34) (i := 0) dX0_decide_33 rfl rfl rfl ?_
          refine g_getI (p0 := 37) dX0_decide_34 fX0_24 (by first | rfl | assumption | exact RW.s (by assumption) | exact TW.s (by assumption)) rfl (by first | assumption | ((repeat (first | exact up_hit | refine up_nv (by decide) ?_ | refine up_mv (by first | decide | omega) ?_)) <;> first | assumption | rfl)) rfl ?_
          first | ((with_reducible refine isN2 ?_); refine g_icmpN_le (tgt := 58) (p1 := 40) dX0_decide_37 rfl (by omega) (by omega) rfl (fun c_37 => ?_) (fun c_37 => by exfalso; first | omega | contradiction | exact absurd (by assumption) c_37 | (simp_all; done))) | refine g_icmp_le (tgt := 58) (p1 := 40) dX0_decide_37 rfl rfl (fun c_37 => ?_) (fun c_37 => by exfalso; first | omega | contradiction | exact absurd (by assumption) c_37 | (simp_all; done))
          refine g_iload_n (p0 := 59) (i := 2) dX0_decide_58 rfl rfl rfl ?_
          first | ((with_reducible refine isN1 ?_); refine g_ifN_le (tgt := 75) (p1 := 62) dX0_decide_59 rfl (by omega) rfl (fun c_59 => by exfalso; first | omega | contradiction | exact absurd (by assumption) c_59 | (simp_all; done)) (fun c_59 => ?_)) | refine g_if_le (tgt := 75) (p1 := 62) dX0_decide_59 rfl rfl (fun c_59 => by exfalso; first | omega | contradiction | exact absurd (by assumption) c_59 | (simp_all; done)) (fun c_59 => ?_)
          refine g_iload_n (p0 := 63) (i := 2) dX0_decide_62 rfl rfl rfl ?_
          refine g_aload_n (p0 := 64) (i := 0) dX0_decide_63 rfl rfl rfl ?_
          refine g_getI (p0 := 67) dX0_decide_64 fX0_24 (by first | rfl | assumption | exact RW.s (by assumption) | exact TW.s (by assumption)) rfl (by first | assumption | ((repeat (first | exact up_hit | refine up_nv (by decide) ?_ | refine up_mv (by first | decide | omega) ?_)) <;> first | assumption | rfl)) rfl ?_
          first | ((with_reducible refine isN2 ?_); refine g_icmpN_ne (tgt := 75) (p1 := 70) dX0_decide_67 rfl (by omega) (by omega) rfl (fun c_67 => ?_) (fun c_67 => by exfalso; first | omega | contradiction | exact absurd (by assumption) c_67 | (simp_all; done))) | refine g_icmp_ne (tgt := 75) (p1 := 70) dX0_decide_67 rfl rfl (fun c_67 => ?_) (fun c_67 => by exfalso; first | omega | contradiction | exact absurd (by assumption) c_67 | (simp_all; done))
          first | refine g_iinc1 (p0 := 78) (ls2 := [_, _, _]) dX0_decide_75 rfl rfl rfl ?_ | refine g_iinc (p0 := 78) (ls2 := [_, _, _]) dX0_decide_75 rfl rfl rfl rfl ?_
          refine g_goto (tgt := 17) dX0_decide_78 rfl ?_
          exact ih (k + 1) (by omega) σ1 h0 (by rw [wv_nle hg]; exact h1) (by rw [moF_nle hg]; exact h2) (by rw [duF_ne hg hn]; exact h3) _
set_option maxRecDepth 20000 in
set_option maxHeartbeats 2000000 in
theorem decide_r {c : Nat → Nat} {σ : Sg} (hc : ∀ k, c k ≤ 160) (hv : ∀ k, k < 25 → σ 75 k = nI (c k)) : CM mX0_decide [ar 73] σ (RelV (fun σ1 => (∀ z, z ≠ 73 → σ1 z = σ z) ∧ σ1 73 1 = wv (-1) c 25 ∧ σ1 73 2 = nI (moF c 25) ∧ σ1 73 3 = nI (duF c 25))) := by
  refine CM_in (ls := [some (ar 73), none, none]) rfl ?_
  refine g_aload_n (p0 := 1) (i := 0) dX0_decide_0 rfl rfl rfl ?_
  refine g_iconst (p0 := 2) (v := -1) dX0_decide_1 rfl rfl ?_
  refine g_put (p0 := 5) dX0_decide_2 fX0_20 (by first | rfl | assumption | exact RW.s (by assumption) | exact TW.s (by assumption)) rfl nX0_1 (pX0_1 _) rfl ?_
  refine g_aload_n (p0 := 6) (i := 0) dX0_decide_5 rfl rfl rfl ?_
  refine g_iconst (p0 := 7) (v := nI 0) dX0_decide_6 rfl rfl ?_
  refine g_put (p0 := 10) dX0_decide_7 fX0_24 (by first | rfl | assumption | exact RW.s (by assumption) | exact TW.s (by assumption)) rfl nX0_2 (pX0_2 _) rfl ?_
  refine g_aload_n (p0 := 11) (i := 0) dX0_decide_10 rfl rfl rfl ?_
  refine g_iconst (p0 := 12) (v := nI 0) dX0_decide_11 rfl rfl ?_
  refine g_put (p0 := 15) dX0_decide_12 fX0_27 (by first | rfl | assumption | exact RW.s (by assumption) | exact TW.s (by assumption)) rfl nX0_3 (pX0_3 (by first | decide | assumption)) rfl ?_
  refine g_iconst (p0 := 16) (v := nI 0) dX0_decide_15 rfl rfl ?_
  refine g_istore_n (p0 := 17) (i := 1) (ls2 := [_, _, _]) dX0_decide_16 rfl (Nat.le_of_ble_eq_true rfl) rfl rfl ?_
  refine decide_l (Q := RelV (fun σ1 => (∀ z, z ≠ 73 → σ1 z = σ z) ∧ σ1 73 1 = wv (-1) c 25 ∧ σ1 73 2 = nI (moF c 25) ∧ σ1 73 3 = nI (duF c 25))) hc hv (fun σ1 h0 h1 h2 h3 => ⟨rfl, h0, h1, h2, h3⟩) 25 0 (by omega) _ (fun z hz => ?_) ?_ ?_ ?_ _
  · rw [up_ne hz, up_ne hz, up_ne hz]
  · rw [up_miss (by decide), up_miss (by decide), up_hit]; rfl
  · rw [up_miss (by decide), up_hit]; rfl
  · rw [up_hit]; rfl
set_option maxRecDepth 20000 in
set_option maxHeartbeats 2000000 in
theorem poll_l {σ : Sg} {s M L : Nat} {c fs f n p d g a b : Nat → Nat} {j : Nat} {Q : SP} (hC : CLS σ s M L c fs f n p d g a b) (hr : ∀ l, l < L → σ 42 l = -1 ∨ ∃ x, x < 25 ∧ σ 42 l = nI x) (hj : j < 2147483648) (kk : ∀ σ1, (∀ z, z ≠ 75 → σ1 z = σ z) → (∀ k, k < 25 → σ1 75 k = nI (vc (σ 42) f n j k M)) → ∀ x, WM mX0_poll Q 63 [some (ar 73), some (ar 33), some (ai (nI j)), some (ai (nI M)), x] [] σ1) : ∀ q m, m + q = M → ∀ σ1, (∀ z, z ≠ 75 → σ1 z = σ z) → (∀ k, k < 25 → σ1 75 k = nI (vc (σ 42) f n j k m)) → ∀ x, WM mX0_poll Q 9 [some (ar 73), some (ar 33), some (ai (nI j)), some (ai (nI m)), x] [] σ1 := by
  obtain ⟨⟨c1, c2, c3, k1, k2, k3⟩, cM, cL⟩ := id hC
  intro q
  induction q with
  | zero =>
    intro m hm σ1 h0 h1 x
    obtain rfl : m = M := by omega
    have e45 : σ1 45 7 = nI m := by rw [h0 45 (by decide)]; exact c1
    refine g_iload_n (p0 := 10) (i := 3) dX0_poll_9 rfl rfl rfl ?_
    refine g_aload_n (p0 := 11) (i := 1) dX0_poll_10 rfl rfl rfl ?_
    refine g_getR (p0 := 14) dX0_poll_11 fX0_34 (by first | rfl | assumption | exact RW.s (by assumption) | exact TW.s (by assumption)) rfl rfl ?_
    refine g_getI (p0 := 17) dX0_poll_14 fX0_40 (by first | rfl | assumption | exact RW.s (by assumption) | exact TW.s (by assumption)) rfl (by first | assumption | ((repeat (first | exact up_hit | refine up_nv (by decide) ?_ | refine up_mv (by first | decide | omega) ?_)) <;> first | assumption | rfl)) rfl ?_
    first | ((with_reducible refine isN2 ?_); refine g_icmpN_ge (tgt := 63) (p1 := 20) dX0_poll_17 rfl (by omega) (by omega) rfl (fun c_17 => ?_) (fun c_17 => by exfalso; first | omega | contradiction | exact absurd (by assumption) c_17 | (simp_all; done))) | refine g_icmp_ge (tgt := 63) (p1 := 20) dX0_poll_17 rfl rfl (fun c_17 => ?_) (fun c_17 => by exfalso; first | omega | contradiction | exact absurd (by assumption) c_17 | (simp_all; done))
    exact kk σ1 h0 h1 _
  | succ q ih =>
    intro m hm σ1 h0 h1 x
    have e45 : σ1 45 7 = nI M := by rw [h0 45 (by decide)]; exact c1
    obtain ⟨⟨n1, n2⟩, a1, a2, a3, _⟩ := cM m (by omega)
    have e51 : σ1 51 m = nI (n m) := by rw [h0 51 (by decide)]; exact a3
    have e49 : σ1 49 m = nI (f m) := by rw [h0 49 (by decide)]; exact a2
    by_cases hjn : j < n m
    · rcases hr (f m + j) (by omega) with hv | ⟨y, hy, hv⟩
      · have e42 : σ1 42 (f m + j) = -1 := by rw [h0 42 (by decide)]; exact hv
        refine g_iload_n (p0 := 10) (i := 3) dX0_poll_9 rfl rfl rfl ?_
        refine g_aload_n (p0 := 11) (i := 1) dX0_poll_10 rfl rfl rfl ?_
        refine g_getR (p0 := 14) dX0_poll_11 fX0_34 (by first | rfl | assumption | exact RW.s (by assumption) | exact TW.s (by assumption)) rfl rfl ?_
        refine g_getI (p0 := 17) dX0_poll_14 fX0_40 (by first | rfl | assumption | exact RW.s (by assumption) | exact TW.s (by assumption)) rfl (by first | assumption | ((repeat (first | exact up_hit | refine up_nv (by decide) ?_ | refine up_mv (by first | decide | omega) ?_)) <;> first | assumption | rfl)) rfl ?_
        first | ((with_reducible refine isN2 ?_); refine g_icmpN_ge (tgt := 63) (p1 := 20) dX0_poll_17 rfl (by omega) (by omega) rfl (fun c_17 => by exfalso; first | omega | contradiction | exact c_17 rfl) (fun c_17 => ?_)) | refine g_icmp_ge (tgt := 63) (p1 := 20) dX0_poll_17 rfl rfl (fun c_17 => by exfalso; first | omega | contradiction | exact c_17 rfl) (fun c_17 => ?_)
        refine g_iload_n (p0 := 21) (i := 2) dX0_poll_20 rfl rfl rfl ?_
        refine g_aload_n (p0 := 22) (i := 1) dX0_poll_21 rfl rfl rfl ?_
        refine g_iload_n (p0 := 23) (i := 3) dX0_poll_22 rfl rfl rfl ?_
        refine g_cV1R (p0 := 26) (r1 := mX6_lengthOf) dX0_poll_23 lX0_45 vX6_lengthOf (by first | rfl | assumption | exact RW.s (by assumption) | exact TW.s (by assumption)) ⟨_, _, rfl⟩ (FITi rfl rfl) (Nat.le_of_ble_eq_true rfl) (lengthOf_sp (by omega) e51) rfl ?_
        first | ((with_reducible refine isN2 ?_); refine g_icmpN_ge (tgt := 38) (p1 := 29) dX0_poll_26 rfl (by omega) (by omega) rfl (fun c_26 => by exfalso; first | omega | contradiction | exact c_26 rfl) (fun c_26 => ?_)) | refine g_icmp_ge (tgt := 38) (p1 := 29) dX0_poll_26 rfl rfl (fun c_26 => by exfalso; first | omega | contradiction | exact c_26 rfl) (fun c_26 => ?_)
        refine g_aload_n (p0 := 30) (i := 1) dX0_poll_29 rfl rfl rfl ?_
        refine g_iload_n (p0 := 31) (i := 3) dX0_poll_30 rfl rfl rfl ?_
        refine g_iload_n (p0 := 32) (i := 2) dX0_poll_31 rfl rfl rfl ?_
        refine g_cV2R (p0 := 35) (r1 := mX6_letterIn) dX0_poll_32 lX0_49 vX6_letterIn (by first | rfl | assumption | exact RW.s (by assumption) | exact TW.s (by assumption)) ⟨_, _, rfl⟩ (FITi rfl rfl) (Nat.le_of_ble_eq_true rfl) (letterIn_sp (by omega) e49 (by omega) e42) rfl ?_
        refine g_goto (tgt := 39) dX0_poll_35 rfl ?_
        refine g_istore (p0 := 41) (i := 4) (ls2 := [_, _, _, _, _]) dX0_poll_39 (Nat.le_of_ble_eq_true rfl) rfl rfl ?_
        refine g_iload (p0 := 43) dX0_poll_41 rfl rfl ?_
        refine g_iconst (p0 := 44) (v := -1) dX0_poll_43 rfl rfl ?_
        first | ((with_reducible refine isN2 ?_); refine g_icmpN_eq (tgt := 57) (p1 := 47) dX0_poll_44 rfl (by omega) (by omega) rfl (fun c_44 => ?_) (fun c_44 => by exfalso; first | omega | contradiction | exact c_44 rfl)) | refine g_icmp_eq (tgt := 57) (p1 := 47) dX0_poll_44 rfl rfl (fun c_44 => ?_) (fun c_44 => by exfalso; first | omega | contradiction | exact c_44 rfl)
        first | refine g_iinc1 (p0 := 60) (ls2 := [_, _, _, _, _]) dX0_poll_57 rfl rfl rfl ?_ | refine g_iinc (p0 := 60) (ls2 := [_, _, _, _, _]) dX0_poll_57 rfl rfl rfl rfl ?_
        refine g_goto (tgt := 9) dX0_poll_60 rfl ?_
        refine ih (m + 1) (by omega) σ1 h0 (fun k hk => ?_) _
        rw [vc, if_neg (fun z => nI_ne_m1 (show k < 1000 by omega) (z.2.symm.trans hv))]
        exact h1 k hk
      · have e42 : σ1 42 (f m + j) = nI y := by rw [h0 42 (by decide)]; exact hv
        have e75 := h1 y hy
        refine g_iload_n (p0 := 10) (i := 3) dX0_poll_9 rfl rfl rfl ?_
        refine g_aload_n (p0 := 11) (i := 1) dX0_poll_10 rfl rfl rfl ?_
        refine g_getR (p0 := 14) dX0_poll_11 fX0_34 (by first | rfl | assumption | exact RW.s (by assumption) | exact TW.s (by assumption)) rfl rfl ?_
        refine g_getI (p0 := 17) dX0_poll_14 fX0_40 (by first | rfl | assumption | exact RW.s (by assumption) | exact TW.s (by assumption)) rfl (by first | assumption | ((repeat (first | exact up_hit | refine up_nv (by decide) ?_ | refine up_mv (by first | decide | omega) ?_)) <;> first | assumption | rfl)) rfl ?_
        first | ((with_reducible refine isN2 ?_); refine g_icmpN_ge (tgt := 63) (p1 := 20) dX0_poll_17 rfl (by omega) (by omega) rfl (fun c_17 => by exfalso; first | omega | contradiction | exact nI_ne_m1 (show y < 1000 by omega) c_17) (fun c_17 => ?_)) | refine g_icmp_ge (tgt := 63) (p1 := 20) dX0_poll_17 rfl rfl (fun c_17 => by exfalso; first | omega | contradiction | exact nI_ne_m1 (show y < 1000 by omega) c_17) (fun c_17 => ?_)
        refine g_iload_n (p0 := 21) (i := 2) dX0_poll_20 rfl rfl rfl ?_
        refine g_aload_n (p0 := 22) (i := 1) dX0_poll_21 rfl rfl rfl ?_
        refine g_iload_n (p0 := 23) (i := 3) dX0_poll_22 rfl rfl rfl ?_
        refine g_cV1R (p0 := 26) (r1 := mX6_lengthOf) dX0_poll_23 lX0_45 vX6_lengthOf (by first | rfl | assumption | exact RW.s (by assumption) | exact TW.s (by assumption)) ⟨_, _, rfl⟩ (FITi rfl rfl) (Nat.le_of_ble_eq_true rfl) (lengthOf_sp (by omega) e51) rfl ?_
        first | ((with_reducible refine isN2 ?_); refine g_icmpN_ge (tgt := 38) (p1 := 29) dX0_poll_26 rfl (by omega) (by omega) rfl (fun c_26 => by exfalso; first | omega | contradiction | exact nI_ne_m1 (show y < 1000 by omega) c_26) (fun c_26 => ?_)) | refine g_icmp_ge (tgt := 38) (p1 := 29) dX0_poll_26 rfl rfl (fun c_26 => by exfalso; first | omega | contradiction | exact nI_ne_m1 (show y < 1000 by omega) c_26) (fun c_26 => ?_)
        refine g_aload_n (p0 := 30) (i := 1) dX0_poll_29 rfl rfl rfl ?_
        refine g_iload_n (p0 := 31) (i := 3) dX0_poll_30 rfl rfl rfl ?_
        refine g_iload_n (p0 := 32) (i := 2) dX0_poll_31 rfl rfl rfl ?_
        refine g_cV2R (p0 := 35) (r1 := mX6_letterIn) dX0_poll_32 lX0_49 vX6_letterIn (by first | rfl | assumption | exact RW.s (by assumption) | exact TW.s (by assumption)) ⟨_, _, rfl⟩ (FITi rfl rfl) (Nat.le_of_ble_eq_true rfl) (letterIn_sp (by omega) e49 (by omega) e42) rfl ?_
        refine g_goto (tgt := 39) dX0_poll_35 rfl ?_
        refine g_istore (p0 := 41) (i := 4) (ls2 := [_, _, _, _, _]) dX0_poll_39 (Nat.le_of_ble_eq_true rfl) rfl rfl ?_
        refine g_iload (p0 := 43) dX0_poll_41 rfl rfl ?_
        refine g_iconst (p0 := 44) (v := -1) dX0_poll_43 rfl rfl ?_
        first | ((with_reducible refine isN2 ?_); refine g_icmpN_eq (tgt := 57) (p1 := 47) dX0_poll_44 rfl (by omega) (by omega) rfl (fun c_44 => by exfalso; first | omega | contradiction | exact nI_ne_m1 (show y < 1000 by omega) c_44) (fun c_44 => ?_)) | refine g_icmp_eq (tgt := 57) (p1 := 47) dX0_poll_44 rfl rfl (fun c_44 => by exfalso; first | omega | contradiction | exact nI_ne_m1 (show y < 1000 by omega) c_44) (fun c_44 => ?_)
        refine g_aload_n (p0 := 48) (i := 0) dX0_poll_47 rfl rfl rfl ?_
        refine g_getR (p0 := 51) dX0_poll_48 fX0_14 (by first | rfl | assumption | exact RW.s (by assumption) | exact TW.s (by assumption)) rfl rfl ?_
        refine g_iload (p0 := 53) dX0_poll_51 rfl rfl ?_
        refine g_iconst (p0 := 54) (v := nI 1) dX0_poll_53 rfl rfl ?_
        refine g_cV2V (p0 := 57) (r1 := mX7_add) dX0_poll_54 lX0_53 vX7_add (by first | rfl | assumption | exact RW.s (by assumption) | exact TW.s (by assumption)) ⟨_, _, rfl⟩ (FITi rfl rfl) (Nat.le_of_ble_eq_true rfl) (add_NN (by first | exact ⟨rfl, rfl, by decide⟩ | assumption) hy e75) rfl ?_
        first | refine g_iinc1 (p0 := 60) (ls2 := [_, _, _, _, _]) dX0_poll_57 rfl rfl rfl ?_ | refine g_iinc (p0 := 60) (ls2 := [_, _, _, _, _]) dX0_poll_57 rfl rfl rfl rfl ?_
        refine g_goto (tgt := 9) dX0_poll_60 rfl ?_
        refine ih (m + 1) (by omega) _ (fun z hz => by rw [up_ne hz]; exact h0 z hz) (fun k hk => ?_) _
        rw [vc]
        by_cases hky : k = y
        · rw [hky, up_hit, if_pos ⟨hjn, hv⟩]
        · rw [up_miss hky, if_neg (fun z => hky ((nI_inj (by omega) (by omega)).mp (z.2.symm.trans hv)))]
          exact h1 k hk
    · refine g_iload_n (p0 := 10) (i := 3) dX0_poll_9 rfl rfl rfl ?_
      refine g_aload_n (p0 := 11) (i := 1) dX0_poll_10 rfl rfl rfl ?_
      refine g_getR (p0 := 14) dX0_poll_11 fX0_34 (by first | rfl | assumption | exact RW.s (by assumption) | exact TW.s (by assumption)) rfl rfl ?_
      refine g_getI (p0 := 17) dX0_poll_14 fX0_40 (by first | rfl | assumption | exact RW.s (by assumption) | exact TW.s (by assumption)) rfl (by first | assumption | ((repeat (first | exact up_hit | refine up_nv (by decide) ?_ | refine up_mv (by first | decide | omega) ?_)) <;> first | assumption | rfl)) rfl ?_
      first | ((with_reducible refine isN2 ?_); refine g_icmpN_ge (tgt := 63) (p1 := 20) dX0_poll_17 rfl (by omega) (by omega) rfl (fun c_17 => by exfalso; first | omega | contradiction | exact c_17 rfl) (fun c_17 => ?_)) | refine g_icmp_ge (tgt := 63) (p1 := 20) dX0_poll_17 rfl rfl (fun c_17 => by exfalso; first | omega | contradiction | exact c_17 rfl) (fun c_17 => ?_)
      refine g_iload_n (p0 := 21) (i := 2) dX0_poll_20 rfl rfl rfl ?_
      refine g_aload_n (p0 := 22) (i := 1) dX0_poll_21 rfl rfl rfl ?_
      refine g_iload_n (p0 := 23) (i := 3) dX0_poll_22 rfl rfl rfl ?_
      refine g_cV1R (p0 := 26) (r1 := mX6_lengthOf) dX0_poll_23 lX0_45 vX6_lengthOf (by first | rfl | assumption | exact RW.s (by assumption) | exact TW.s (by assumption)) ⟨_, _, rfl⟩ (FITi rfl rfl) (Nat.le_of_ble_eq_true rfl) (lengthOf_sp (by omega) e51) rfl ?_
      first | ((with_reducible refine isN2 ?_); refine g_icmpN_ge (tgt := 38) (p1 := 29) dX0_poll_26 rfl (by omega) (by omega) rfl (fun c_26 => ?_) (fun c_26 => by exfalso; first | omega | contradiction | exact c_26 rfl)) | refine g_icmp_ge (tgt := 38) (p1 := 29) dX0_poll_26 rfl rfl (fun c_26 => ?_) (fun c_26 => by exfalso; first | omega | contradiction | exact c_26 rfl)
      refine g_iconst (p0 := 39) (v := -1) dX0_poll_38 rfl rfl ?_
      refine g_istore (p0 := 41) (i := 4) (ls2 := [_, _, _, _, _]) dX0_poll_39 (Nat.le_of_ble_eq_true rfl) rfl rfl ?_
      refine g_iload (p0 := 43) dX0_poll_41 rfl rfl ?_
      refine g_iconst (p0 := 44) (v := -1) dX0_poll_43 rfl rfl ?_
      first | ((with_reducible refine isN2 ?_); refine g_icmpN_eq (tgt := 57) (p1 := 47) dX0_poll_44 rfl (by omega) (by omega) rfl (fun c_44 => ?_) (fun c_44 => by exfalso; first | omega | contradiction | exact c_44 rfl)) | refine g_icmp_eq (tgt := 57) (p1 := 47) dX0_poll_44 rfl rfl (fun c_44 => ?_) (fun c_44 => by exfalso; first | omega | contradiction | exact c_44 rfl)
      first | refine g_iinc1 (p0 := 60) (ls2 := [_, _, _, _, _]) dX0_poll_57 rfl rfl rfl ?_ | refine g_iinc (p0 := 60) (ls2 := [_, _, _, _, _]) dX0_poll_57 rfl rfl rfl rfl ?_
      refine g_goto (tgt := 9) dX0_poll_60 rfl ?_
      refine ih (m + 1) (by omega) σ1 h0 (fun k hk => ?_) _
      rw [vc, if_neg (fun z => hjn z.1)]
      exact h1 k hk
set_option maxRecDepth 20000 in
set_option maxHeartbeats 2000000 in
theorem poll_r {σ : Sg} {s M L : Nat} {c fs f n p d g a b : Nat → Nat} {j : Nat} (hC : CLS σ s M L c fs f n p d g a b) (hr : ∀ l, l < L → σ 42 l = -1 ∨ ∃ x, x < 25 ∧ σ 42 l = nI x) (hj : j < 2147483648)  : CM mX0_poll [ar 73, ar 33, ai (nI j)] σ (RelV (fun σ1 => (∀ z, z ≠ 73 → z ≠ 75 → σ1 z = σ z) ∧ σ1 73 1 = wv (-1) (fun k => vc (σ 42) f n j k M) 25 ∧ σ1 73 2 = nI (moF (fun k => vc (σ 42) f n j k M) 25) ∧ σ1 73 3 = nI (duF (fun k => vc (σ 42) f n j k M) 25))) := by
  refine CM_in (ls := [some (ar 73), some (ar 33), some (ai (nI j)), none, none]) rfl ?_
  refine g_aload_n (p0 := 1) (i := 0) dX0_poll_0 rfl rfl rfl ?_
  refine g_getR (p0 := 4) dX0_poll_1 fX0_14 (by first | rfl | assumption | exact RW.s (by assumption) | exact TW.s (by assumption)) rfl rfl ?_
  refine g_cV0V (p0 := 7) (r1 := mX7_clear) dX0_poll_4 lX0_31 vX7_clear (by first | rfl | assumption | exact RW.s (by assumption) | exact TW.s (by assumption)) ⟨_, _, rfl⟩ (FITi rfl rfl) (Nat.le_of_ble_eq_true rfl) (clear_sp ⟨rfl, rfl, by decide⟩) rfl ?_
  refine g_iconst (p0 := 8) (v := nI 0) dX0_poll_7 rfl rfl ?_
  refine g_istore_n (p0 := 9) (i := 3) (ls2 := [_, _, _, _, _]) dX0_poll_8 rfl (Nat.le_of_ble_eq_true rfl) rfl rfl ?_
  have hk := hC.1
  refine poll_l (Q := RelV (fun σ1 => (∀ z, z ≠ 73 → z ≠ 75 → σ1 z = σ z) ∧ σ1 73 1 = wv (-1) (fun k => vc (σ 42) f n j k M) 25 ∧ σ1 73 2 = nI (moF (fun k => vc (σ 42) f n j k M) 25) ∧ σ1 73 3 = nI (duF (fun k => vc (σ 42) f n j k M) 25))) hC hr hj (fun σ1 h0 h1 x => ?_) M 0 (by omega) _ (fun z hz => setR_ne hz) (fun k hk => ?_) _
  · refine g_aload_n (p0 := 64) (i := 0) dX0_poll_63 rfl rfl rfl ?_
    refine g_cV0P (p0 := 67) (r1 := mX0_decide) dX0_poll_64 lX0_57 vX0_decide (by first | rfl | assumption | exact RW.s (by assumption) | exact TW.s (by assumption)) ⟨_, _, rfl⟩ (FITi rfl rfl) (Nat.le_of_ble_eq_true rfl) (decide_r (c := (fun k => vc (σ 42) f n j k M)) (fun k => Nat.le_trans (vc_le _ _ _ _ _ M) (by omega)) h1) rfl ?_
    rintro σ2 ⟨g0, g1, g2, g3⟩
    refine g_return dX0_poll_67 rfl ?_
    exact ⟨rfl, fun z h73 h75 => by rw [g0 z h73, h0 z h75], g1, g2, g3⟩
  · rw [setR_hit, if_pos hk]; rfl
