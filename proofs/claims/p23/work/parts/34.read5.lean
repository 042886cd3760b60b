/-! THE CLASS: out of the rows of whole -/
set_option maxRecDepth 20000 in
set_option maxHeartbeats 2000000 in
theorem sumUp_out {M : Nat} {s f n p d : Nat → Nat} {σ : Sg} {Q : SP} (hM : MT σ M s f n p d) (hm : M ≤ 160) (hfl : ∀ m, m < M → f m + n m ≤ 160)
    (k : ∀ σ', (∀ z, z ≠ 57 → z ≠ 59 → σ' z = σ z) → (∀ i, i < M → σ' 57 i = nI (uF (σ 42) (f i) (n i)) ∧ σ' 59 i = sF (σ 42) (f i) (n i)) → Q none σ') : ∀ q j, j + q = M → ∀ σ', (∀ z, z ≠ 57 → z ≠ 59 → σ' z = σ z) → (∀ i, i < j → σ' 57 i = nI (uF (σ 42) (f i) (n i)) ∧ σ' 59 i = sF (σ 42) (f i) (n i)) → (∀ i, j ≤ i → i < M → σ' 57 i = nI 0 ∧ σ' 59 i = nI 0) → ∀ x y, WM mX6_sumUp Q 2 [some (ar 33), some (ai (nI j)), x, y] [] σ' := by
  intro q
  induction q with
  | zero =>
    intro j hj σ' fr h1 h2 x y
    obtain rfl : j = M := by omega
    have v1 : σ' 45 7 = nI j := by rw [fr _ (by decide) (by decide)]; exact hM.1
    refine g_iload_n (p0 := 3) (i := 1) dX6_sumUp_2 rfl rfl rfl ?_
    refine g_aload_n (p0 := 4) (i := 0) dX6_sumUp_3 rfl rfl rfl ?_
    refine g_getR (p0 := 7) dX6_sumUp_4 fX6_21 (by first | rfl | assumption | exact RW.s (by assumption) | exact TW.s (by assumption)) rfl rfl ?_
    refine g_getI (p0 := 10) dX6_sumUp_7 fX6_57 (by first | rfl | assumption | exact RW.s (by assumption) | exact TW.s (by assumption)) rfl (by first | assumption | ((repeat (first | exact up_hit | refine up_nv (by decide) ?_ | refine up_mv (by first | decide | omega) ?_)) <;> first | assumption | rfl)) rfl ?_
    first | ((with_reducible refine isN2 ?_); refine g_icmpN_ge (tgt := 75) (p1 := 13) dX6_sumUp_10 rfl (by omega) (by omega) rfl (fun c_10 => ?_) (fun c_10 => by exfalso; first | omega | contradiction | exact absurd (by assumption) c_10 | (simp_all; done))) | refine g_icmp_ge (tgt := 75) (p1 := 13) dX6_sumUp_10 rfl rfl (fun c_10 => ?_) (fun c_10 => by exfalso; first | omega | contradiction | exact absurd (by assumption) c_10 | (simp_all; done))
    refine g_return dX6_sumUp_75 rfl ?_
    exact k σ' fr h1
  | succ q ih =>
    intro j hj σ' fr h1 h2 x y
    have v1 : σ' 45 7 = nI M := by rw [fr _ (by decide) (by decide)]; exact hM.1
    obtain ⟨a1, a2, a3, a4, a5, a6, a7⟩ := hM.2 j (by omega)
    obtain ⟨b1, b2⟩ := h2 j (Nat.le_refl j) (by omega)
    have w49 : σ' 49 j = nI (f j) := by rw [fr _ (by decide) (by decide)]; exact a2
    have w51 : σ' 51 j = nI (n j) := by rw [fr _ (by decide) (by decide)]; exact a3
    have w42 : σ' 42 = σ 42 := fr _ (by decide) (by decide)
    have e0 : up (up σ' 57 j (nI (uF (σ' 42) (f j) 0))) 59 j (sF (σ' 42) (f j) 0) = σ' := by
      rw [up_setR, up_setR, setR_ne (show (59 : Nat) ≠ 57 by decide), upd_self (by rw [b1]; rfl), upd_self (by rw [b2]; rfl), setR_id (rfl : σ' 57 = σ' 57), setR_id rfl]
    refine g_iload_n (p0 := 3) (i := 1) dX6_sumUp_2 rfl rfl rfl ?_
    refine g_aload_n (p0 := 4) (i := 0) dX6_sumUp_3 rfl rfl rfl ?_
    refine g_getR (p0 := 7) dX6_sumUp_4 fX6_21 (by first | rfl | assumption | exact RW.s (by assumption) | exact TW.s (by assumption)) rfl rfl ?_
    refine g_getI (p0 := 10) dX6_sumUp_7 fX6_57 (by first | rfl | assumption | exact RW.s (by assumption) | exact TW.s (by assumption)) rfl (by first | assumption | ((repeat (first | exact up_hit | refine up_nv (by decide) ?_ | refine up_mv (by first | decide | omega) ?_)) <;> first | assumption | rfl)) rfl ?_
    first | ((with_reducible refine isN2 ?_); refine g_icmpN_ge (tgt := 75) (p1 := 13) dX6_sumUp_10 rfl (by omega) (by omega) rfl (fun c_10 => by exfalso; first | omega | contradiction | exact absurd (by assumption) c_10 | (simp_all; done)) (fun c_10 => ?_)) | refine g_icmp_ge (tgt := 75) (p1 := 13) dX6_sumUp_10 rfl rfl (fun c_10 => by exfalso; first | omega | contradiction | exact absurd (by assumption) c_10 | (simp_all; done)) (fun c_10 => ?_)
    refine g_iconst (p0 := 14) (v := nI 0) dX6_sumUp_13 rfl rfl ?_
    refine g_istore_n (p0 := 15) (i := 2) (ls2 := [_, _, _, _]) dX6_sumUp_14 rfl (Nat.le_of_ble_eq_true rfl) rfl rfl ?_
    suffices hk : ∀ y, WM mX6_sumUp Q 69 [some (ar 33), some (ai (nI j)), some (ai (nI (n j))), y] [] (up (up σ' 57 j (nI (uF (σ' 42) (f j) (n j)))) 59 j (sF (σ' 42) (f j) (n j))) by
      have z := sumUp_in (Q := Q) (M := M) (m := j) (L := 0) (y := x) v1 (by omega) w51 w49 (hfl j (by omega)) b1 b2 hk (n j) 0 (by omega) y
      rw [e0] at z
      exact z
    intro y
    first | refine g_iinc1 (p0 := 72) (ls2 := [_, _, _, _]) dX6_sumUp_69 rfl rfl rfl ?_ | refine g_iinc (p0 := 72) (ls2 := [_, _, _, _]) dX6_sumUp_69 rfl rfl rfl rfl ?_
    refine g_goto (tgt := 2) dX6_sumUp_72 rfl ?_
    refine ih (j + 1) (by omega) _ (fun z h1 h2 => by rw [up_ne h2, up_ne h1]; exact fr z h1 h2) (fun i hi => ?_) (fun i hi1 hi2 => ?_) _ _
    · by_cases hij : i = j
      · subst hij
        refine ⟨?_, ?_⟩
        · rw [up_ne (by decide), up_hit, w42]
        · rw [up_hit, w42]
      · obtain ⟨c1, c2⟩ := h1 i (by omega)
        refine ⟨?_, ?_⟩
        · rw [up_ne (by decide), up_miss hij]; exact c1
        · rw [up_miss hij, up_ne (by decide)]; exact c2
    · obtain ⟨c1, c2⟩ := h2 i (by omega) hi2
      refine ⟨?_, ?_⟩
      · rw [up_ne (by decide), up_miss (by omega)]; exact c1
      · rw [up_miss (by omega), up_ne (by decide)]; exact c2
theorem flln (c : Nat → Nat) (hc5 : ∀ k, c k ≤ 5) : ∀ k m, m < Mc c k → fl c k m + ln c k m = if m + 1 < Mc c k then fl c k (m + 1) else Lc c k
  | 0, m, h => absurd h (Nat.not_lt_zero m)
  | k + 1, m, h => by
    have ih := flln c hc5 k m
    by_cases h5 : c k = 5
    · have eM : Mc c (k + 1) = Mc c k + 1 := by simp [Mc, h5]
      have eL : Lc c (k + 1) = Lc c k + 1 := by simp [Lc, h5]
      rw [eM] at h
      rw [eM, eL]
      by_cases em : m = Mc c k
      · have e1 : fl c (k + 1) m = Lc c k := by simp [fl, h5, em]
        have e2 : ln c (k + 1) m = 1 := by simp [ln, h5, em]
        rw [e1, e2, if_neg (by omega)]
      · have e1 : fl c (k + 1) m = fl c k m := by simp [fl, em]
        have e2 : ln c (k + 1) m = ln c k m := by simp [ln, h5, em]
        have ih2 := ih (by omega)
        rw [e1, e2, ih2, if_pos (show m + 1 < Mc c k + 1 by omega)]
        by_cases e3 : m + 1 = Mc c k
        · have e4 : fl c (k + 1) (m + 1) = Lc c k := by simp [fl, h5, e3]
          rw [e4, if_neg (by omega)]
        · have e4 : fl c (k + 1) (m + 1) = fl c k (m + 1) := by simp [fl, e3]
          rw [e4, if_pos (by omega)]
    · have eM : Mc c (k + 1) = Mc c k := by simp [Mc, h5]
      rw [eM] at h
      have f1 : ∀ m, fl c (k + 1) m = fl c k m := fun m => by simp [fl, h5]
      rw [eM, f1, f1]
      have ih2 := ih h
      by_cases h4 : c k = 4
      · have eL : Lc c (k + 1) = Lc c k + 1 := by simp [Lc, h4]
        rw [eL]
        by_cases e3 : m + 1 = Mc c k
        · have e2 : ln c (k + 1) m = ln c k m + 1 := by simp [ln, h4, e3]
          rw [if_neg (by omega)] at ih2
          rw [e2, if_neg (by omega)]
          omega
        · have e2 : ln c (k + 1) m = ln c k m := by simp [ln, h4, e3]
          rw [if_pos (by omega)] at ih2
          rw [e2, if_pos (by omega)]
          exact ih2
      · have e2 : ln c (k + 1) m = ln c k m := by simp [ln, h4, h5]
        have eL : Mc c (k + 1) = Mc c k := eM
        by_cases h6 : 4 ≤ c k
        · have h9 := hc5 k
          exact absurd h6 (by omega)
        · have eL2 : Lc c (k + 1) = Lc c k := by simp [Lc, h6]
          rw [e2, eL2]
          exact ih2
theorem sumUp_r {M : Nat} {s f n p d : Nat → Nat} {σ : Sg} (hM : MT σ M s f n p d) (hm : M ≤ 160) (hfl : ∀ m, m < M → f m + n m ≤ 160) : CM mX6_sumUp [ar 33] σ (RelV (fun σ' => (∀ z, z ≠ 57 → z ≠ 59 → σ' z = σ z) ∧ ∀ i, i < M → σ' 57 i = nI (uF (σ 42) (f i) (n i)) ∧ σ' 59 i = sF (σ 42) (f i) (n i))) := by
  refine CM_in (ls := [some (ar 33), none, none, none]) rfl ?_
  refine g_iconst (p0 := 1) (v := nI 0) dX6_sumUp_0 rfl rfl ?_
  refine g_istore_n (p0 := 2) (i := 1) (ls2 := [_, _, _, _]) dX6_sumUp_1 rfl (Nat.le_of_ble_eq_true rfl) rfl rfl ?_
  exact sumUp_out hM hm hfl (fun σ2 g1 g2 => ⟨rfl, g1, g2⟩) M 0 (by omega) σ (fun _ _ _ => rfl) (fun i hi => absurd hi (Nat.not_lt_zero i)) (fun i _ hi => ⟨(hM.2 i hi).2.2.2.2.2.1, (hM.2 i hi).2.2.2.2.2.2⟩) _ _
/-- what the class has read of a state ρ of s strokes -/
def RDC (σ : Sg) (ρ : Nat → Int32) (s : Nat) : Prop :=
  LT σ (Lc (kaF (tm ρ) (ρ 0)) s) (gr (kaF (tm ρ) (ρ 0)) s) (o1 (kaF (tm ρ) (ρ 0)) s) (o2 (kaF (tm ρ) (ρ 0)) s) ∧
  (σ 45 7 = nI (Mc (kaF (tm ρ) (ρ 0)) s) ∧ ∀ m, m < Mc (kaF (tm ρ) (ρ 0)) s → σ 47 m = nI (fs (kaF (tm ρ) (ρ 0)) s m) ∧ σ 49 m = nI (fl (kaF (tm ρ) (ρ 0)) s m) ∧ σ 51 m = nI (ln (kaF (tm ρ) (ρ 0)) s m) ∧ σ 53 m = nI (pl (kaF (tm ρ) (ρ 0)) s m) ∧ σ 55 m = nI (db (kaF (tm ρ) (ρ 0)) (dbF (tm ρ) (ρ 0) (ρ 1)) s m) ∧ σ 57 m = nI (uF (σ 42) (fl (kaF (tm ρ) (ρ 0)) s m) (ln (kaF (tm ρ) (ρ 0)) s m)) ∧ σ 59 m = sF (σ 42) (fl (kaF (tm ρ) (ρ 0)) s m) (ln (kaF (tm ρ) (ρ 0)) s m)) ∧
  σ 33 8 = nI (lo (kaF (tm ρ) (ρ 0)) s) ∧
  (∀ i, i < s → (1 ≤ i → σ 61 i = gpF (tm ρ) (ρ 0) i) ∧ σ 63 i = nI (kaF (tm ρ) (ρ 0) i) ∧ σ 65 i = nI (dbF (tm ρ) (ρ 0) (ρ 1) i) ∧ σ 67 i = nI (Mc (kaF (tm ρ) (ρ 0)) (i + 1) - 1) ∧ σ 69 i = nI (ln (kaF (tm ρ) (ρ 0)) (i + 1) (Mc (kaF (tm ρ) (ρ 0)) (i + 1) - 1) - 1) ∧ σ 71 i = nI (gr (kaF (tm ρ) (ρ 0)) (i + 1) (Lc (kaF (tm ρ) (ρ 0)) (i + 1) - 1) - 1)) ∧
  (∀ l, l < Lc (kaF (tm ρ) (ρ 0)) s → σ 42 l = val (σ 44) (gr (kaF (tm ρ) (ρ 0)) s l) (o1 (kaF (tm ρ) (ρ 0)) s l) (o2 (kaF (tm ρ) (ρ 0)) s l)) ∧
  (0 < s → ∀ l x, l < 25 → x < 25 → ρ (4 + l) = nI x → σ 44 x = nI l) ∧ σ 65 0 = nI 0
theorem o1_le (c : Nat → Nat) (hc5 : ∀ k, c k ≤ 5) : ∀ k l, o1 c k l ≤ 2 * k
  | 0, l => Nat.le_refl 0
  | k + 1, l => by
    have ih := o1_le c hc5 k l
    rw [o1]
    split
    · split <;> omega
    · split
      · next h => rcases h.1 with e | e <;> omega
      · omega
theorem o2_le (c : Nat → Nat) (hc5 : ∀ k, c k ≤ 5) : ∀ k l, o2 c k l ≤ 2 * k
  | 0, l => Nat.le_refl 0
  | k + 1, l => by
    have ih := o2_le c hc5 k l
    rw [o2]
    split
    · split <;> omega
    · split
      · next h => rcases h.1 with e | e <;> omega
      · split <;> omega
theorem flL (c : Nat → Nat) (hc5 : ∀ k, c k ≤ 5) (k m : Nat) (h : m < Mc c k) : fl c k m + ln c k m ≤ Lc c k := by
  have key : ∀ j m, Mc c k = m + 1 + j → fl c k m + ln c k m ≤ Lc c k := by
    intro j
    induction j with
    | zero =>
      intro m hm
      have h1 := flln c hc5 k m (by omega)
      rw [if_neg (by omega)] at h1
      omega
    | succ j ih =>
      intro m hm
      have h1 := flln c hc5 k m (by omega)
      rw [if_pos (by omega)] at h1
      have h2 := ih (m + 1) (by omega)
      omega
  exact key (Mc c k - m - 1) m (by omega)
set_option maxRecDepth 20000 in
set_option maxHeartbeats 2000000 in
theorem refresh_sp {s : Nat} {ρ : Nat → Int32} {σ : Sg} (hR : Rep σ 1 ρ s) (hρ : RowOK ρ s) (h65 : σ 65 0 = nI 0) : CM mX6_refresh [ar 33, ar 1] σ (RelV (fun σ' => RDC σ' ρ s ∧ ∀ z, (z < 33 ∨ 72 ≤ z) → σ' z = σ z)) := by
  obtain ⟨r2, r3, r4, r5, rc, rt⟩ := hR
  obtain ⟨p3, ps, pz, ⟨cf, pcf, pinj⟩, _⟩ := hρ
  have hcf : ∀ l, l < 25 → σ 5 l = nI (cf l) ∧ cf l < 25 := fun l hl => ⟨by rw [rc l hl]; exact (pcf l hl).1, (pcf l hl).2⟩
  obtain ⟨σ1, hσ1⟩ : ∃ z, z = setR (up σ 34 5 (nI 0)) 44 (icF (σ 44) cf 25) := ⟨_, rfl⟩
  obtain ⟨σ2, hσ2⟩ : ∃ z, z = up (up σ1 45 7 (nI 0)) 33 8 (nI 0) := ⟨_, rfl⟩
  have f1 : ∀ z, z ≠ 34 → z ≠ 44 → σ1 z = σ z := fun z h1 h2 => by rw [hσ1, setR_ne h2, up_ne h1]
  have f2 : ∀ z, z ≠ 34 → z ≠ 44 → z ≠ 45 → z ≠ 33 → σ2 z = σ z := fun z h1 h2 h3 h4 => by rw [hσ2, up_ne h4, up_ne h3, f1 z h1 h2]
  have g44 : σ2 44 = icF (σ 44) cf 25 := by rw [hσ2, up_ne (by decide), up_ne (by decide), hσ1, setR_hit]
  have hr := restart_sp hcf
  rw [← hσ1] at hr
  have hc5 := kaF_le (tm ρ) (ρ 0)
  have bL := Mc_le (kaF (tm ρ) (ρ 0)) s
  refine CM_in (ls := [some (ar 33), some (ar 1), none, none, none]) rfl ?_
  refine g_aload_n (p0 := 1) (i := 0) dX6_refresh_0 rfl rfl rfl ?_
  refine g_getR (p0 := 4) dX6_refresh_1 fX6_12 (by first | rfl | assumption | exact RW.s (by assumption) | exact TW.s (by assumption)) rfl rfl ?_
  refine g_aload_n (p0 := 5) (i := 1) dX6_refresh_4 rfl rfl rfl ?_
  refine g_cV1V (p0 := 8) (r1 := mX3_restart) dX6_refresh_5 lX6_53 vX3_restart (by first | rfl | assumption | exact RW.s (by assumption) | exact TW.s (by assumption)) ⟨_, _, rfl⟩ (FITi rfl rfl) (Nat.le_of_ble_eq_true rfl) (hr) rfl ?_
  refine g_aload_n (p0 := 9) (i := 0) dX6_refresh_8 rfl rfl rfl ?_
  refine g_getR (p0 := 12) dX6_refresh_9 fX6_21 (by first | rfl | assumption | exact RW.s (by assumption) | exact TW.s (by assumption)) rfl rfl ?_
  refine g_iconst (p0 := 13) (v := nI 0) dX6_refresh_12 rfl rfl ?_
  refine g_put (p0 := 16) dX6_refresh_13 fX6_57 (by first | rfl | assumption | exact RW.s (by assumption) | exact TW.s (by assumption)) rfl nX4_7 (pX4_7 _) rfl ?_
  refine g_aload_n (p0 := 17) (i := 0) dX6_refresh_16 rfl rfl rfl ?_
  refine g_iconst (p0 := 18) (v := nI 0) dX6_refresh_17 rfl rfl ?_
  refine g_put (p0 := 21) dX6_refresh_18 fX6_49 (by first | rfl | assumption | exact RW.s (by assumption) | exact TW.s (by assumption)) rfl nX6_8 (pX6_8 _) rfl ?_
  refine g_iconst (p0 := 22) (v := nI 0) dX6_refresh_21 rfl rfl ?_
  refine g_istore_n (p0 := 23) (i := 2) (ls2 := [_, _, _, _, _]) dX6_refresh_22 rfl (Nat.le_of_ble_eq_true rfl) rfl rfl ?_
  refine g_iconst (p0 := 24) (v := nI 0) dX6_refresh_23 rfl rfl ?_
  refine g_istore_n (p0 := 25) (i := 3) (ls2 := [_, _, _, _, _]) dX6_refresh_24 rfl (Nat.le_of_ble_eq_true rfl) rfl rfl ?_
  rw [← hσ2]
  refine refresh_loop (σ0 := σ2) (τ := tm ρ) (bt := ρ 0) (tl := ρ 1) (s := s) ?_ ps ?_ ?_ ?_ ?_ s 0 (by omega) σ2 ⟨⟨?_, fun l hl => absurd hl (Nat.not_lt_zero l)⟩, ⟨?_, fun l hl => absurd hl (Nat.not_lt_zero l)⟩, ?_, fun i hi => absurd hi (Nat.not_lt_zero i)⟩ ?_ (fun z _ => rfl) _
  · rw [f2 1 (by decide) (by decide) (by decide) (by decide)]; exact r2
  · rw [f2 1 (by decide) (by decide) (by decide) (by decide)]; exact r3
  · rw [f2 1 (by decide) (by decide) (by decide) (by decide)]; exact r4
  · intro k hk
    rw [f2 3 (by decide) (by decide) (by decide) (by decide)]
    exact rt k hk
  · intro σ3 hC h653 fr x y
    obtain ⟨cL, cM, clo, call⟩ := hC
    have bnd : ∀ l, l < Lc (kaF (tm ρ) (ρ 0)) s → gr (kaF (tm ρ) (ρ 0)) s l < 500 ∧ o1 (kaF (tm ρ) (ρ 0)) s l < 500 ∧ o2 (kaF (tm ρ) (ρ 0)) s l < 500 := by
      intro l hl
      have a1 := gr_le (kaF (tm ρ) (ρ 0)) s l
      have a2 := o1_le (kaF (tm ρ) (ρ 0)) hc5 s l
      have a3 := o2_le (kaF (tm ρ) (ρ 0)) hc5 s l
      omega
    obtain ⟨σ4, hσ4⟩ : ∃ z, z = setR σ3 42 (fun i => if i < Lc (kaF (tm ρ) (ρ 0)) s then val (σ3 44) (gr (kaF (tm ρ) (ρ 0)) s i) (o1 (kaF (tm ρ) (ρ 0)) s i) (o2 (kaF (tm ρ) (ρ 0)) s i) else σ3 42 i) := ⟨_, rfl⟩
    have hse := settle_sp cL (by omega) bnd
    rw [← hσ4] at hse
    have f4 : ∀ z, z ≠ 42 → σ4 z = σ3 z := fun z hz => by rw [hσ4, setR_ne hz]
    have cM4 := cM.of_eq (f4 _ (by decide)) (f4 _ (by decide)) (f4 _ (by decide)) (f4 _ (by decide)) (f4 _ (by decide)) (f4 _ (by decide)) (f4 _ (by decide)) (f4 _ (by decide))
    have hfl : ∀ m, m < Mc (kaF (tm ρ) (ρ 0)) s → fl (kaF (tm ρ) (ρ 0)) s m + ln (kaF (tm ρ) (ρ 0)) s m ≤ 160 := by
      intro m hm
      have h1 := flL (kaF (tm ρ) (ρ 0)) hc5 s m hm
      omega
    refine g_aload_n (p0 := 97) (i := 0) dX6_refresh_96 rfl rfl rfl ?_
    refine g_getR (p0 := 100) dX6_refresh_97 fX6_12 (by first | rfl | assumption | exact RW.s (by assumption) | exact TW.s (by assumption)) rfl rfl ?_
    refine g_cV0V (p0 := 103) (r1 := mX3_settle) dX6_refresh_100 lX6_90 vX3_settle (by first | rfl | assumption | exact RW.s (by assumption) | exact TW.s (by assumption)) ⟨_, _, rfl⟩ (FITi rfl rfl) (Nat.le_of_ble_eq_true rfl) (hse) rfl ?_
    refine g_aload_n (p0 := 104) (i := 0) dX6_refresh_103 rfl rfl rfl ?_
    refine g_cV0P (p0 := 107) (r1 := mX6_sumUp) dX6_refresh_104 lX6_93 vX6_sumUp (by first | rfl | assumption | exact RW.s (by assumption) | exact TW.s (by assumption)) ⟨_, _, rfl⟩ (FITi rfl rfl) (Nat.le_of_ble_eq_true rfl) (sumUp_r cM4 (by omega) hfl) rfl ?_
    rintro σ5 ⟨fr5, h5759⟩
    refine g_return dX6_refresh_107 rfl ?_
    refine ⟨rfl, ⟨(cL.of_eq (f4 _ (by decide)) (f4 _ (by decide)) (f4 _ (by decide)) (f4 _ (by decide))).of_eq (fr5 _ (by decide) (by decide)) (fr5 _ (by decide) (by decide)) (fr5 _ (by decide) (by decide)) (fr5 _ (by decide) (by decide)), ⟨by rw [fr5 _ (by decide) (by decide)]; exact cM4.1, fun m hm => ?_⟩, by rw [fr5 _ (by decide) (by decide), f4 _ (by decide)]; exact clo, fun i hi => ?_, fun l hl => ?_, fun _ l x hl hx hlx => ?_, by rw [fr5 _ (by decide) (by decide), f4 _ (by decide)]; exact h653⟩, fun z hz => by rw [fr5 z (by omega) (by omega), f4 z (by omega), fr z (by omega), f2 z (by omega) (by omega) (by omega) (by omega)]⟩
    · obtain ⟨a1, a2, a3, a4, a5, a6, a7⟩ := cM4.2 m hm
      obtain ⟨b1, b2⟩ := h5759 m hm
      have e42 : σ5 42 = σ4 42 := fr5 _ (by decide) (by decide)
      exact ⟨by rw [fr5 _ (by decide) (by decide)]; exact a1, by rw [fr5 _ (by decide) (by decide)]; exact a2, by rw [fr5 _ (by decide) (by decide)]; exact a3, by rw [fr5 _ (by decide) (by decide)]; exact a4, by rw [fr5 _ (by decide) (by decide)]; exact a5, by rw [e42]; exact b1, by rw [e42]; exact b2⟩
    · obtain ⟨a1, a2, a3, a4, a5, a6⟩ := call i hi
      have g : ∀ z, z ≠ 57 → z ≠ 59 → z ≠ 42 → σ5 z = σ3 z := fun z h1 h2 h3 => by rw [fr5 z h1 h2, f4 z h3]
      exact ⟨fun h1 => by rw [g _ (by decide) (by decide) (by decide)]; exact a1 h1, by rw [g _ (by decide) (by decide) (by decide)]; exact a2, by rw [g _ (by decide) (by decide) (by decide)]; exact a3, by rw [g _ (by decide) (by decide) (by decide)]; exact a4, by rw [g _ (by decide) (by decide) (by decide)]; exact a5, by rw [g _ (by decide) (by decide) (by decide)]; exact a6⟩
    · rw [fr5 _ (by decide) (by decide), fr5 44 (by decide) (by decide), f4 44 (by decide), hσ4, setR_hit, if_pos hl]
    · rw [fr5 44 (by decide) (by decide), f4 44 (by decide), fr 44 (by decide), g44]
      have e1 := (pcf l hl).1.symm.trans hlx
      have e2 : cf l = x := (nI_inj (by have := (pcf l hl).2; omega) (by omega)).mp e1
      rw [← e2]
      exact icF_at pinj 25 (Nat.le_refl 25) l hl
  · rw [hσ2, up_ne (by decide), up_ne (by decide), hσ1, setR_ne (by decide), up_hit]; rfl
  · rw [hσ2, up_ne (by decide), up_hit]; rfl
  · rw [hσ2, up_hit]; rfl
  · rw [f2 65 (by decide) (by decide) (by decide) (by decide)]; exact h65

