/-! QUESTIONS: letters on both sides -/
theorem pig : ∀ n m : Nat, ∀ f : Nat → Nat, (∀ i, i < n → f i < m) → (∀ i j, i < n → j < n → f i = f j → i = j) → n ≤ m
  | 0, m, _, _, _ => Nat.zero_le m
  | n + 1, 0, f, h, _ => absurd (h 0 (by omega)) (Nat.not_lt_zero _)
  | n + 1, m + 1, f, h, hi => by
    refine Nat.succ_le_succ (pig n m (fun i => if f i = m then f n else f i) (fun i hn => ?_) (fun i j hin hjn e => ?_))
    · show (if f i = m then f n else f i) < m
      have h1 := h i (by omega)
      have h2 := h n (by omega)
      by_cases e : f i = m
      · rw [if_pos e]
        have : f n ≠ m := fun q => by
          have := hi i n (by omega) (by omega) (e.trans q.symm)
          omega
        omega
      · rw [if_neg e]; omega
    · have e : (if f i = m then f n else f i) = (if f j = m then f n else f j) := e
      by_cases e1 : f i = m
      · by_cases e2 : f j = m
        · exact hi i j (by omega) (by omega) (e1.trans e2.symm)
        · rw [if_pos e1, if_neg e2] at e
          have := hi n j (by omega) (by omega) e
          omega
      · by_cases e2 : f j = m
        · rw [if_neg e1, if_pos e2] at e
          have := hi i n (by omega) (by omega) e
          omega
        · rw [if_neg e1, if_neg e2] at e
          exact hi i j (by omega) (by omega) e
theorem perm_hit {cf : Nat → Nat} (h : ∀ l, l < 25 → cf l < 25) (hi : ∀ l m, l < 25 → m < 25 → cf l = cf m → l = m) {x : Nat} (hx : x < 25) : ∃ l, l < 25 ∧ cf l = x := by
  refine Classical.byContradiction fun q => ?_
  have hne : ∀ l, l < 25 → cf l ≠ x := fun l hl e => q ⟨l, hl, e⟩
  have h3 := pig 25 24 (fun i => if cf i = 24 then x else cf i) (fun i hn => ?_) (fun i j hin hjn e => ?_)
  · omega
  · show (if cf i = 24 then x else cf i) < 24
    have h1 := h i hn
    have h2 := hne i hn
    by_cases e : cf i = 24
    · rw [if_pos e]; omega
    · rw [if_neg e]; omega
  · have e : (if cf i = 24 then x else cf i) = (if cf j = 24 then x else cf j) := e
    by_cases e1 : cf i = 24
    · by_cases e2 : cf j = 24
      · exact hi i j hin hjn (e1.trans e2.symm)
      · rw [if_pos e1, if_neg e2] at e
        exact absurd e.symm (hne j hjn)
    · by_cases e2 : cf j = 24
      · rw [if_neg e1, if_pos e2] at e
        exact absurd e (hne i hin)
      · rw [if_neg e1, if_neg e2] at e
        exact hi i j hin hjn e
theorem latF_hit {ρ : Nat → Int32} {v : Int32} {l : Nat} (hl : ρ (4 + l) = v) (hu : ∀ m, ρ (4 + m) = v → m ≤ l ∨ 25 ≤ m) : ∀ n, l < n → n ≤ 25 → latF ρ v n = l
  | 0, h, _ => absurd h (Nat.not_lt_zero l)
  | n + 1, h, hn => by
    rw [latF]
    by_cases e : ρ (4 + n) = v
    · rw [if_pos e]
      have := hu n e
      omega
    · rw [if_neg e]
      have : l ≠ n := fun q => e (q ▸ hl)
      exact latF_hit hl hu n (by omega) (by omega)
/-- the letter that stands at place x of the table -/
theorem lat_eq {ρ : Nat → Int32} {s x : Nat} (hR : RowOK ρ s) (hx : x < 25) : latF ρ (nI x) 25 < 25 ∧ ρ (4 + latF ρ (nI x) 25) = nI x := by
  obtain ⟨cf, h4, h5⟩ := hR.2.2.2.1
  obtain ⟨l, hl, e⟩ := perm_hit (fun l hl => (h4 l hl).2) h5 hx
  have hv : ρ (4 + l) = nI x := by rw [(h4 l hl).1, e]
  have hu : ∀ m, ρ (4 + m) = nI x → m ≤ l ∨ 25 ≤ m := by
    intro m hm
    by_cases h : m < 25
    · rw [(h4 m h).1] at hm
      have e2 := (nI_inj (by have := (h4 m h).2; omega) (by omega)).mp hm
      have := h5 m l h hl (e2.trans e.symm)
      omega
    · exact Or.inr (by omega)
  rw [latF_hit hv hu 25 hl (Nat.le_refl 25)]
  exact ⟨hl, hv⟩
set_option maxRecDepth 20000 in
set_option maxHeartbeats 2000000 in
theorem areGood_T {a b : Nat} {σ : Sg} (ha : 1 ≤ a ∧ a ≤ 5) (hb : 1 ≤ b ∧ b ≤ 5) : CM mX10_areGood [ai (nI a), ai (nI b)] σ (Ret (nI 1) σ) := by
  refine CM_in (ls := [some (ai (nI a)), some (ai (nI b))]) rfl ?_
  refine g_iload_n (p0 := 1) (i := 0) dX10_areGood_0 rfl rfl rfl ?_
  refine g_iconst (p0 := 2) (v := nI 1) dX10_areGood_1 rfl rfl ?_
  refine g_iconst (p0 := 3) (v := nI 5) dX10_areGood_2 rfl rfl ?_
  refine g_cS3R (p0 := 6) (r1 := mX10_in) dX10_areGood_3 (Or.inl lX10_65) vX10_in (FITi rfl rfl) (Nat.le_of_ble_eq_true rfl) (in_T (fun q => by rw [nI_lt_iff (by omega) (by omega)] at q; omega) (fun q => by rw [nI_lt_iff (by omega) (by omega)] at q; omega)) rfl ?_
  first | ((with_reducible refine isN1 ?_); refine g_ifN_eq (tgt := 22) (p1 := 9) dX10_areGood_6 rfl (by omega) rfl (fun c_6 => by exfalso; first | omega | contradiction | exact absurd (by assumption) c_6 | (simp_all; done)) (fun c_6 => ?_)) | refine g_if_eq (tgt := 22) (p1 := 9) dX10_areGood_6 rfl rfl (fun c_6 => by exfalso; first | omega | contradiction | exact absurd (by assumption) c_6 | (simp_all; done)) (fun c_6 => ?_)
  refine g_iload_n (p0 := 10) (i := 1) dX10_areGood_9 rfl rfl rfl ?_
  refine g_iconst (p0 := 11) (v := nI 1) dX10_areGood_10 rfl rfl ?_
  refine g_iconst (p0 := 12) (v := nI 5) dX10_areGood_11 rfl rfl ?_
  refine g_cS3R (p0 := 15) (r1 := mX10_in) dX10_areGood_12 (Or.inl lX10_65) vX10_in (FITi rfl rfl) (Nat.le_of_ble_eq_true rfl) (in_T (fun q => by rw [nI_lt_iff (by omega) (by omega)] at q; omega) (fun q => by rw [nI_lt_iff (by omega) (by omega)] at q; omega)) rfl ?_
  first | ((with_reducible refine isN1 ?_); refine g_ifN_eq (tgt := 22) (p1 := 18) dX10_areGood_15 rfl (by omega) rfl (fun c_15 => by exfalso; first | omega | contradiction | exact absurd (by assumption) c_15 | (simp_all; done)) (fun c_15 => ?_)) | refine g_if_eq (tgt := 22) (p1 := 18) dX10_areGood_15 rfl rfl (fun c_15 => by exfalso; first | omega | contradiction | exact absurd (by assumption) c_15 | (simp_all; done)) (fun c_15 => ?_)
  refine g_iconst (p0 := 19) (v := nI 1) dX10_areGood_18 rfl rfl ?_
  refine g_goto (tgt := 23) dX10_areGood_19 rfl ?_
  refine g_ireturn dX10_areGood_23 rfl (by first | rfl | exact bool_narrow (by first | exact Or.inl rfl | exact Or.inr rfl | assumption | (split <;> first | exact Or.inl rfl | exact Or.inr rfl))) (?_)
  exact ⟨rfl, rfl⟩
theorem in_F {a : Nat} {σ : Sg} (ha : a < 1000) (h : ¬ (1 ≤ a ∧ a ≤ 5)) : CM mX10_in [ai (nI a), ai (nI 1), ai (nI 5)] σ (Ret (nI 0) σ) := by
  by_cases h1 : a < 1
  · exact in_F1 ((nI_lt_iff (by omega) (by omega)).mpr h1)
  · exact in_F2 (fun q => h1 ((nI_lt_iff (by omega) (by omega)).mp q)) ((nI_lt_iff (by omega) (by omega)).mpr (by omega))
set_option maxRecDepth 20000 in
set_option maxHeartbeats 2000000 in
theorem areGood_F1 {a b : Nat} {σ : Sg} (ha : a < 1000) (hb : b < 1000) (h : ¬ (1 ≤ a ∧ a ≤ 5)) : CM mX10_areGood [ai (nI a), ai (nI b)] σ (Ret (nI 0) σ) := by
  refine CM_in (ls := [some (ai (nI a)), some (ai (nI b))]) rfl ?_
  refine g_iload_n (p0 := 1) (i := 0) dX10_areGood_0 rfl rfl rfl ?_
  refine g_iconst (p0 := 2) (v := nI 1) dX10_areGood_1 rfl rfl ?_
  refine g_iconst (p0 := 3) (v := nI 5) dX10_areGood_2 rfl rfl ?_
  refine g_cS3R (p0 := 6) (r1 := mX10_in) dX10_areGood_3 (Or.inl lX10_65) vX10_in (FITi rfl rfl) (Nat.le_of_ble_eq_true rfl) (in_F ha h) rfl ?_
  first | ((with_reducible refine isN1 ?_); refine g_ifN_eq (tgt := 22) (p1 := 9) dX10_areGood_6 rfl (by omega) rfl (fun c_6 => ?_) (fun c_6 => by exfalso; first | omega | contradiction | exact absurd (by assumption) c_6 | (simp_all; done))) | refine g_if_eq (tgt := 22) (p1 := 9) dX10_areGood_6 rfl rfl (fun c_6 => ?_) (fun c_6 => by exfalso; first | omega | contradiction | exact absurd (by assumption) c_6 | (simp_all; done))
  refine g_iconst (p0 := 23) (v := nI 0) dX10_areGood_22 rfl rfl ?_
  refine g_ireturn dX10_areGood_23 rfl (by first | rfl | exact bool_narrow (by first | exact Or.inl rfl | exact Or.inr rfl | assumption | (split <;> first | exact Or.inl rfl | exact Or.inr rfl))) (?_)
  exact ⟨rfl, rfl⟩
set_option maxRecDepth 20000 in
set_option maxHeartbeats 2000000 in
theorem areGood_F2 {a b : Nat} {σ : Sg} (ha : a < 1000) (hb : b < 1000) (h1 : 1 ≤ a ∧ a ≤ 5) (h : ¬ (1 ≤ b ∧ b ≤ 5)) : CM mX10_areGood [ai (nI a), ai (nI b)] σ (Ret (nI 0) σ) := by
  refine CM_in (ls := [some (ai (nI a)), some (ai (nI b))]) rfl ?_
  refine g_iload_n (p0 := 1) (i := 0) dX10_areGood_0 rfl rfl rfl ?_
  refine g_iconst (p0 := 2) (v := nI 1) dX10_areGood_1 rfl rfl ?_
  refine g_iconst (p0 := 3) (v := nI 5) dX10_areGood_2 rfl rfl ?_
  refine g_cS3R (p0 := 6) (r1 := mX10_in) dX10_areGood_3 (Or.inl lX10_65) vX10_in (FITi rfl rfl) (Nat.le_of_ble_eq_true rfl) (in_T (fun q => by rw [nI_lt_iff (by omega) (by omega)] at q; omega) (fun q => by rw [nI_lt_iff (by omega) (by omega)] at q; omega)) rfl ?_
  first | ((with_reducible refine isN1 ?_); refine g_ifN_eq (tgt := 22) (p1 := 9) dX10_areGood_6 rfl (by omega) rfl (fun c_6 => by exfalso; first | omega | contradiction | exact absurd (by assumption) c_6 | (simp_all; done)) (fun c_6 => ?_)) | refine g_if_eq (tgt := 22) (p1 := 9) dX10_areGood_6 rfl rfl (fun c_6 => by exfalso; first | omega | contradiction | exact absurd (by assumption) c_6 | (simp_all; done)) (fun c_6 => ?_)
  refine g_iload_n (p0 := 10) (i := 1) dX10_areGood_9 rfl rfl rfl ?_
  refine g_iconst (p0 := 11) (v := nI 1) dX10_areGood_10 rfl rfl ?_
  refine g_iconst (p0 := 12) (v := nI 5) dX10_areGood_11 rfl rfl ?_
  refine g_cS3R (p0 := 15) (r1 := mX10_in) dX10_areGood_12 (Or.inl lX10_65) vX10_in (FITi rfl rfl) (Nat.le_of_ble_eq_true rfl) (in_F hb h) rfl ?_
  first | ((with_reducible refine isN1 ?_); refine g_ifN_eq (tgt := 22) (p1 := 18) dX10_areGood_15 rfl (by omega) rfl (fun c_15 => ?_) (fun c_15 => by exfalso; first | omega | contradiction | exact absurd (by assumption) c_15 | (simp_all; done))) | refine g_if_eq (tgt := 22) (p1 := 18) dX10_areGood_15 rfl rfl (fun c_15 => ?_) (fun c_15 => by exfalso; first | omega | contradiction | exact absurd (by assumption) c_15 | (simp_all; done))
  refine g_iconst (p0 := 23) (v := nI 0) dX10_areGood_22 rfl rfl ?_
  refine g_ireturn dX10_areGood_23 rfl (by first | rfl | exact bool_narrow (by first | exact Or.inl rfl | exact Or.inr rfl | assumption | (split <;> first | exact Or.inl rfl | exact Or.inr rfl))) (?_)
  exact ⟨rfl, rfl⟩
def GD (a b : Nat) : Prop := 1 ≤ a ∧ a ≤ 5 ∧ 1 ≤ b ∧ b ≤ 5
theorem areGood_F {a b : Nat} {σ : Sg} (ha : a < 1000) (hb : b < 1000) (h : ¬ GD a b) : CM mX10_areGood [ai (nI a), ai (nI b)] σ (Ret (nI 0) σ) := by
  by_cases h1 : 1 ≤ a ∧ a ≤ 5
  · exact areGood_F2 ha hb h1 (fun q => h ⟨h1.1, h1.2, q.1, q.2⟩)
  · exact areGood_F1 ha hb h1
set_option maxRecDepth 20000 in
set_option maxHeartbeats 2000000 in
theorem isReadable_T {l g a b : Nat} {σ : Sg} (hl : l < 160) (hg : σ 89 l = nI g) (ha : σ 90 l = nI a) (hb : σ 91 l = nI b) (hg1 : g < 1000) (ha1 : a < 1000) (hb1 : b < 1000) (h2 : g = 2) (h : GD a b) : CM mX10_isReadable [ar 79, ai (nI l)] σ (Ret (nI 1) σ) := by
  obtain ⟨q1, q2, q3, q4⟩ := h
  refine CM_in (ls := [some (ar 79), some (ai (nI l))]) rfl ?_
  refine g_aload_n (p0 := 1) (i := 0) dX10_isReadable_0 rfl rfl rfl ?_
  refine g_getR (p0 := 4) dX10_isReadable_1 fX10_37 (by first | rfl | assumption | exact RW.s (by assumption) | exact TW.s (by assumption)) rfl rfl ?_
  refine g_iload_n (p0 := 5) (i := 1) dX10_isReadable_4 rfl rfl rfl ?_
  first | ((with_reducible refine isN1 ?_); refine g_aldN (p0 := 6) dX10_isReadable_5 (by first | rfl | assumption | exact RW.s (by assumption) | exact TW.s (by assumption)) (by first | decide | assumption) (by omega) (by first | assumption | ((repeat (first | exact up_hit | refine up_nv (by decide) ?_ | refine up_mv (by first | decide | omega) ?_)) <;> first | assumption | rfl)) rfl ?_) | refine g_ald (p0 := 6) dX10_isReadable_5 (by first | rfl | assumption | exact RW.s (by assumption) | exact TW.s (by assumption)) (by assumption) (by first | assumption | ((repeat (first | exact up_hit | refine up_nv (by decide) ?_ | refine up_mv (by first | decide | omega) ?_)) <;> first | assumption | rfl)) rfl ?_
  refine g_iconst (p0 := 7) (v := nI 2) dX10_isReadable_6 rfl rfl ?_
  first | ((with_reducible refine isN2 ?_); refine g_icmpN_ne (tgt := 32) (p1 := 10) dX10_isReadable_7 rfl (by omega) (by omega) rfl (fun c_7 => by exfalso; first | omega | contradiction | exact absurd (by assumption) c_7 | (simp_all; done)) (fun c_7 => ?_)) | refine g_icmp_ne (tgt := 32) (p1 := 10) dX10_isReadable_7 rfl rfl (fun c_7 => by exfalso; first | omega | contradiction | exact absurd (by assumption) c_7 | (simp_all; done)) (fun c_7 => ?_)
  refine g_aload_n (p0 := 11) (i := 0) dX10_isReadable_10 rfl rfl rfl ?_
  refine g_getR (p0 := 14) dX10_isReadable_11 fX10_40 (by first | rfl | assumption | exact RW.s (by assumption) | exact TW.s (by assumption)) rfl rfl ?_
  refine g_iload_n (p0 := 15) (i := 1) dX10_isReadable_14 rfl rfl rfl ?_
  first | ((with_reducible refine isN1 ?_); refine g_aldN (p0 := 16) dX10_isReadable_15 (by first | rfl | assumption | exact RW.s (by assumption) | exact TW.s (by assumption)) (by first | decide | assumption) (by omega) (by first | assumption | ((repeat (first | exact up_hit | refine up_nv (by decide) ?_ | refine up_mv (by first | decide | omega) ?_)) <;> first | assumption | rfl)) rfl ?_) | refine g_ald (p0 := 16) dX10_isReadable_15 (by first | rfl | assumption | exact RW.s (by assumption) | exact TW.s (by assumption)) (by assumption) (by first | assumption | ((repeat (first | exact up_hit | refine up_nv (by decide) ?_ | refine up_mv (by first | decide | omega) ?_)) <;> first | assumption | rfl)) rfl ?_
  refine g_aload_n (p0 := 17) (i := 0) dX10_isReadable_16 rfl rfl rfl ?_
  refine g_getR (p0 := 20) dX10_isReadable_17 fX10_43 (by first | rfl | assumption | exact RW.s (by assumption) | exact TW.s (by assumption)) rfl rfl ?_
  refine g_iload_n (p0 := 21) (i := 1) dX10_isReadable_20 rfl rfl rfl ?_
  first | ((with_reducible refine isN1 ?_); refine g_aldN (p0 := 22) dX10_isReadable_21 (by first | rfl | assumption | exact RW.s (by assumption) | exact TW.s (by assumption)) (by first | decide | assumption) (by omega) (by first | assumption | ((repeat (first | exact up_hit | refine up_nv (by decide) ?_ | refine up_mv (by first | decide | omega) ?_)) <;> first | assumption | rfl)) rfl ?_) | refine g_ald (p0 := 22) dX10_isReadable_21 (by first | rfl | assumption | exact RW.s (by assumption) | exact TW.s (by assumption)) (by assumption) (by first | assumption | ((repeat (first | exact up_hit | refine up_nv (by decide) ?_ | refine up_mv (by first | decide | omega) ?_)) <;> first | assumption | rfl)) rfl ?_
  refine g_cS2R (p0 := 25) (r1 := mX10_areGood) dX10_isReadable_22 (Or.inl lX10_134) vX10_areGood (FITi rfl rfl) (Nat.le_of_ble_eq_true rfl) (areGood_T ⟨q1, q2⟩ ⟨q3, q4⟩) rfl ?_
  first | ((with_reducible refine isN1 ?_); refine g_ifN_eq (tgt := 32) (p1 := 28) dX10_isReadable_25 rfl (by omega) rfl (fun c_25 => by exfalso; first | omega | contradiction | exact absurd (by assumption) c_25 | (simp_all; done)) (fun c_25 => ?_)) | refine g_if_eq (tgt := 32) (p1 := 28) dX10_isReadable_25 rfl rfl (fun c_25 => by exfalso; first | omega | contradiction | exact absurd (by assumption) c_25 | (simp_all; done)) (fun c_25 => ?_)
  refine g_iconst (p0 := 29) (v := nI 1) dX10_isReadable_28 rfl rfl ?_
  refine g_goto (tgt := 33) dX10_isReadable_29 rfl ?_
  refine g_ireturn dX10_isReadable_33 rfl (by first | rfl | exact bool_narrow (by first | exact Or.inl rfl | exact Or.inr rfl | assumption | (split <;> first | exact Or.inl rfl | exact Or.inr rfl))) (?_)
  exact ⟨rfl, rfl⟩
set_option maxRecDepth 20000 in
set_option maxHeartbeats 2000000 in
theorem isReadable_F1 {l g a b : Nat} {σ : Sg} (hl : l < 160) (hg : σ 89 l = nI g) (ha : σ 90 l = nI a) (hb : σ 91 l = nI b) (hg1 : g < 1000) (ha1 : a < 1000) (hb1 : b < 1000) (h2 : ¬ g = 2) : CM mX10_isReadable [ar 79, ai (nI l)] σ (Ret (nI 0) σ) := by
  refine CM_in (ls := [some (ar 79), some (ai (nI l))]) rfl ?_
  refine g_aload_n (p0 := 1) (i := 0) dX10_isReadable_0 rfl rfl rfl ?_
  refine g_getR (p0 := 4) dX10_isReadable_1 fX10_37 (by first | rfl | assumption | exact RW.s (by assumption) | exact TW.s (by assumption)) rfl rfl ?_
  refine g_iload_n (p0 := 5) (i := 1) dX10_isReadable_4 rfl rfl rfl ?_
  first | ((with_reducible refine isN1 ?_); refine g_aldN (p0 := 6) dX10_isReadable_5 (by first | rfl | assumption | exact RW.s (by assumption) | exact TW.s (by assumption)) (by first | decide | assumption) (by omega) (by first | assumption | ((repeat (first | exact up_hit | refine up_nv (by decide) ?_ | refine up_mv (by first | decide | omega) ?_)) <;> first | assumption | rfl)) rfl ?_) | refine g_ald (p0 := 6) dX10_isReadable_5 (by first | rfl | assumption | exact RW.s (by assumption) | exact TW.s (by assumption)) (by assumption) (by first | assumption | ((repeat (first | exact up_hit | refine up_nv (by decide) ?_ | refine up_mv (by first | decide | omega) ?_)) <;> first | assumption | rfl)) rfl ?_
  refine g_iconst (p0 := 7) (v := nI 2) dX10_isReadable_6 rfl rfl ?_
  first | ((with_reducible refine isN2 ?_); refine g_icmpN_ne (tgt := 32) (p1 := 10) dX10_isReadable_7 rfl (by omega) (by omega) rfl (fun c_7 => ?_) (fun c_7 => by exfalso; first | omega | contradiction | exact absurd (by assumption) c_7 | (simp_all; done))) | refine g_icmp_ne (tgt := 32) (p1 := 10) dX10_isReadable_7 rfl rfl (fun c_7 => ?_) (fun c_7 => by exfalso; first | omega | contradiction | exact absurd (by assumption) c_7 | (simp_all; done))
  refine g_iconst (p0 := 33) (v := nI 0) dX10_isReadable_32 rfl rfl ?_
  refine g_ireturn dX10_isReadable_33 rfl (by first | rfl | exact bool_narrow (by first | exact Or.inl rfl | exact Or.inr rfl | assumption | (split <;> first | exact Or.inl rfl | exact Or.inr rfl))) (?_)
  exact ⟨rfl, rfl⟩
set_option maxRecDepth 20000 in
set_option maxHeartbeats 2000000 in
theorem isReadable_F2 {l g a b : Nat} {σ : Sg} (hl : l < 160) (hg : σ 89 l = nI g) (ha : σ 90 l = nI a) (hb : σ 91 l = nI b) (hg1 : g < 1000) (ha1 : a < 1000) (hb1 : b < 1000) (h2 : g = 2) (h : ¬ GD a b) : CM mX10_isReadable [ar 79, ai (nI l)] σ (Ret (nI 0) σ) := by
  refine CM_in (ls := [some (ar 79), some (ai (nI l))]) rfl ?_
  refine g_aload_n (p0 := 1) (i := 0) dX10_isReadable_0 rfl rfl rfl ?_
  refine g_getR (p0 := 4) dX10_isReadable_1 fX10_37 (by first | rfl | assumption | exact RW.s (by assumption) | exact TW.s (by assumption)) rfl rfl ?_
  refine g_iload_n (p0 := 5) (i := 1) dX10_isReadable_4 rfl rfl rfl ?_
  first | ((with_reducible refine isN1 ?_); refine g_aldN (p0 := 6) dX10_isReadable_5 (by first | rfl | assumption | exact RW.s (by assumption) | exact TW.s (by assumption)) (by first | decide | assumption) (by omega) (by first | assumption | ((repeat (first | exact up_hit | refine up_nv (by decide) ?_ | refine up_mv (by first | decide | omega) ?_)) <;> first | assumption | rfl)) rfl ?_) | refine g_ald (p0 := 6) dX10_isReadable_5 (by first | rfl | assumption | exact RW.s (by assumption) | exact TW.s (by assumption)) (by assumption) (by first | assumption | ((repeat (first | exact up_hit | refine up_nv (by decide) ?_ | refine up_mv (by first | decide | omega) ?_)) <;> first | assumption | rfl)) rfl ?_
  refine g_iconst (p0 := 7) (v := nI 2) dX10_isReadable_6 rfl rfl ?_
  first | ((with_reducible refine isN2 ?_); refine g_icmpN_ne (tgt := 32) (p1 := 10) dX10_isReadable_7 rfl (by omega) (by omega) rfl (fun c_7 => by exfalso; first | omega | contradiction | exact absurd (by assumption) c_7 | (simp_all; done)) (fun c_7 => ?_)) | refine g_icmp_ne (tgt := 32) (p1 := 10) dX10_isReadable_7 rfl rfl (fun c_7 => by exfalso; first | omega | contradiction | exact absurd (by assumption) c_7 | (simp_all; done)) (fun c_7 => ?_)
  refine g_aload_n (p0 := 11) (i := 0) dX10_isReadable_10 rfl rfl rfl ?_
  refine g_getR (p0 := 14) dX10_isReadable_11 fX10_40 (by first | rfl | assumption | exact RW.s (by assumption) | exact TW.s (by assumption)) rfl rfl ?_
  refine g_iload_n (p0 := 15) (i := 1) dX10_isReadable_14 rfl rfl rfl ?_
  first | ((with_reducible refine isN1 ?_); refine g_aldN (p0 := 16) dX10_isReadable_15 (by first | rfl | assumption | exact RW.s (by assumption) | exact TW.s (by assumption)) (by first | decide | assumption) (by omega) (by first | assumption | ((repeat (first | exact up_hit | refine up_nv (by decide) ?_ | refine up_mv (by first | decide | omega) ?_)) <;> first | assumption | rfl)) rfl ?_) | refine g_ald (p0 := 16) dX10_isReadable_15 (by first | rfl | assumption | exact RW.s (by assumption) | exact TW.s (by assumption)) (by assumption) (by first | assumption | ((repeat (first | exact up_hit | refine up_nv (by decide) ?_ | refine up_mv (by first | decide | omega) ?_)) <;> first | assumption | rfl)) rfl ?_
  refine g_aload_n (p0 := 17) (i := 0) dX10_isReadable_16 rfl rfl rfl ?_
  refine g_getR (p0 := 20) dX10_isReadable_17 fX10_43 (by first | rfl | assumption | exact RW.s (by assumption) | exact TW.s (by assumption)) rfl rfl ?_
  refine g_iload_n (p0 := 21) (i := 1) dX10_isReadable_20 rfl rfl rfl ?_
  first | ((with_reducible refine isN1 ?_); refine g_aldN (p0 := 22) dX10_isReadable_21 (by first | rfl | assumption | exact RW.s (by assumption) | exact TW.s (by assumption)) (by first | decide | assumption) (by omega) (by first | assumption | ((repeat (first | exact up_hit | refine up_nv (by decide) ?_ | refine up_mv (by first | decide | omega) ?_)) <;> first | assumption | rfl)) rfl ?_) | refine g_ald (p0 := 22) dX10_isReadable_21 (by first | rfl | assumption | exact RW.s (by assumption) | exact TW.s (by assumption)) (by assumption) (by first | assumption | ((repeat (first | exact up_hit | refine up_nv (by decide) ?_ | refine up_mv (by first | decide | omega) ?_)) <;> first | assumption | rfl)) rfl ?_
  refine g_cS2R (p0 := 25) (r1 := mX10_areGood) dX10_isReadable_22 (Or.inl lX10_134) vX10_areGood (FITi rfl rfl) (Nat.le_of_ble_eq_true rfl) (areGood_F ha1 hb1 h) rfl ?_
  first | ((with_reducible refine isN1 ?_); refine g_ifN_eq (tgt := 32) (p1 := 28) dX10_isReadable_25 rfl (by omega) rfl (fun c_25 => ?_) (fun c_25 => by exfalso; first | omega | contradiction | exact absurd (by assumption) c_25 | (simp_all; done))) | refine g_if_eq (tgt := 32) (p1 := 28) dX10_isReadable_25 rfl rfl (fun c_25 => ?_) (fun c_25 => by exfalso; first | omega | contradiction | exact absurd (by assumption) c_25 | (simp_all; done))
  refine g_iconst (p0 := 33) (v := nI 0) dX10_isReadable_32 rfl rfl ?_
  refine g_ireturn dX10_isReadable_33 rfl (by first | rfl | exact bool_narrow (by first | exact Or.inl rfl | exact Or.inr rfl | assumption | (split <;> first | exact Or.inl rfl | exact Or.inr rfl))) (?_)
  exact ⟨rfl, rfl⟩
set_option maxRecDepth 20000 in
set_option maxHeartbeats 2000000 in
theorem read0_sp {l a b : Nat} {σ : Sg} (hl : l < 160) (ha : σ 90 l = nI a) (hb : σ 91 l = nI b) (h : GD a b) : CM mX10_read0 [ar 79, ai (nI l)] σ (Ret (nI (latF (σ 80) (nI (5 * a + b - 6)) 25)) σ) := by
  obtain ⟨q1, q2, q3, q4⟩ := h
  refine CM_in (ls := [some (ar 79), some (ai (nI l))]) rfl ?_
  refine g_aload_n (p0 := 1) (i := 0) dX10_read0_0 rfl rfl rfl ?_
  refine g_aload_n (p0 := 2) (i := 0) dX10_read0_1 rfl rfl rfl ?_
  refine g_getR (p0 := 5) dX10_read0_2 fX10_40 (by first | rfl | assumption | exact RW.s (by assumption) | exact TW.s (by assumption)) rfl rfl ?_
  refine g_iload_n (p0 := 6) (i := 1) dX10_read0_5 rfl rfl rfl ?_
  first | ((with_reducible refine isN1 ?_); refine g_aldN (p0 := 7) dX10_read0_6 (by first | rfl | assumption | exact RW.s (by assumption) | exact TW.s (by assumption)) (by first | decide | assumption) (by omega) (by first | assumption | ((repeat (first | exact up_hit | refine up_nv (by decide) ?_ | refine up_mv (by first | decide | omega) ?_)) <;> first | assumption | rfl)) rfl ?_) | refine g_ald (p0 := 7) dX10_read0_6 (by first | rfl | assumption | exact RW.s (by assumption) | exact TW.s (by assumption)) (by assumption) (by first | assumption | ((repeat (first | exact up_hit | refine up_nv (by decide) ?_ | refine up_mv (by first | decide | omega) ?_)) <;> first | assumption | rfl)) rfl ?_
  refine g_aload_n (p0 := 8) (i := 0) dX10_read0_7 rfl rfl rfl ?_
  refine g_getR (p0 := 11) dX10_read0_8 fX10_43 (by first | rfl | assumption | exact RW.s (by assumption) | exact TW.s (by assumption)) rfl rfl ?_
  refine g_iload_n (p0 := 12) (i := 1) dX10_read0_11 rfl rfl rfl ?_
  first | ((with_reducible refine isN1 ?_); refine g_aldN (p0 := 13) dX10_read0_12 (by first | rfl | assumption | exact RW.s (by assumption) | exact TW.s (by assumption)) (by first | decide | assumption) (by omega) (by first | assumption | ((repeat (first | exact up_hit | refine up_nv (by decide) ?_ | refine up_mv (by first | decide | omega) ?_)) <;> first | assumption | rfl)) rfl ?_) | refine g_ald (p0 := 13) dX10_read0_12 (by first | rfl | assumption | exact RW.s (by assumption) | exact TW.s (by assumption)) (by assumption) (by first | assumption | ((repeat (first | exact up_hit | refine up_nv (by decide) ?_ | refine up_mv (by first | decide | omega) ?_)) <;> first | assumption | rfl)) rfl ?_
  refine g_cV2R (p0 := 16) (r1 := mX10_letterAt) dX10_read0_13 lX10_138 vX10_letterAt (by first | rfl | assumption | exact RW.s (by assumption) | exact TW.s (by assumption)) ⟨_, _, rfl⟩ (FITi rfl rfl) (Nat.le_of_ble_eq_true rfl) (letterAt_sp ⟨q1, by omega⟩ ⟨q3, by omega⟩) rfl ?_
  refine g_ireturn dX10_read0_16 rfl rfl (?_)
  exact ⟨rfl, rfl⟩
set_option maxRecDepth 20000 in
set_option maxHeartbeats 2000000 in
theorem longOf_sp {m f f2 : Nat} {σ : Sg} (hm : m < 160) (h1 : σ 92 m = nI f) (h2 : σ 92 (m + 1) = nI f2) (hf : f ≤ f2) : CM mX10_longOf [ar 79, ai (nI m)] σ (Ret (nI (f2 - f)) σ) := by
  refine CM_in (ls := [some (ar 79), some (ai (nI m))]) rfl ?_
  refine g_aload_n (p0 := 1) (i := 0) dX10_longOf_0 rfl rfl rfl ?_
  refine g_getR (p0 := 4) dX10_longOf_1 fX10_46 (by first | rfl | assumption | exact RW.s (by assumption) | exact TW.s (by assumption)) rfl rfl ?_
  refine g_iload_n (p0 := 5) (i := 1) dX10_longOf_4 rfl rfl rfl ?_
  refine g_iconst (p0 := 6) (v := nI 1) dX10_longOf_5 rfl rfl ?_
  first | ((with_reducible refine isN2 ?_); refine g_iaddN (p0 := 7) dX10_longOf_6 rfl ?_) | refine g_iadd (p0 := 7) dX10_longOf_6 rfl ?_
  first | ((with_reducible refine isN1 ?_); refine g_aldN (p0 := 8) dX10_longOf_7 (by first | rfl | assumption | exact RW.s (by assumption) | exact TW.s (by assumption)) (by first | decide | assumption) (by omega) (by first | assumption | ((repeat (first | exact up_hit | refine up_nv (by decide) ?_ | refine up_mv (by first | decide | omega) ?_)) <;> first | assumption | rfl)) rfl ?_) | refine g_ald (p0 := 8) dX10_longOf_7 (by first | rfl | assumption | exact RW.s (by assumption) | exact TW.s (by assumption)) (by assumption) (by first | assumption | ((repeat (first | exact up_hit | refine up_nv (by decide) ?_ | refine up_mv (by first | decide | omega) ?_)) <;> first | assumption | rfl)) rfl ?_
  refine g_aload_n (p0 := 9) (i := 0) dX10_longOf_8 rfl rfl rfl ?_
  refine g_getR (p0 := 12) dX10_longOf_9 fX10_46 (by first | rfl | assumption | exact RW.s (by assumption) | exact TW.s (by assumption)) rfl rfl ?_
  refine g_iload_n (p0 := 13) (i := 1) dX10_longOf_12 rfl rfl rfl ?_
  first | ((with_reducible refine isN1 ?_); refine g_aldN (p0 := 14) dX10_longOf_13 (by first | rfl | assumption | exact RW.s (by assumption) | exact TW.s (by assumption)) (by first | decide | assumption) (by omega) (by first | assumption | ((repeat (first | exact up_hit | refine up_nv (by decide) ?_ | refine up_mv (by first | decide | omega) ?_)) <;> first | assumption | rfl)) rfl ?_) | refine g_ald (p0 := 14) dX10_longOf_13 (by first | rfl | assumption | exact RW.s (by assumption) | exact TW.s (by assumption)) (by assumption) (by first | assumption | ((repeat (first | exact up_hit | refine up_nv (by decide) ?_ | refine up_mv (by first | decide | omega) ?_)) <;> first | assumption | rfl)) rfl ?_
  first | ((with_reducible refine isN2 ?_); refine g_isubN (p0 := 15) dX10_longOf_14 (by omega) rfl ?_) | refine g_isub (p0 := 15) dX10_longOf_14 rfl ?_
  refine g_ireturn dX10_longOf_15 rfl rfl (?_)
  exact ⟨rfl, rfl⟩
set_option maxRecDepth 20000 in
set_option maxHeartbeats 2000000 in
theorem isMessage_T {m M : Nat} {σ : Sg} (hM : σ 79 11 = nI M) (hM1 : M ≤ 160) (hm : m < M) : CM mX10_isMessage [ar 79, ai (nI m)] σ (Ret (nI 1) σ) := by
  refine CM_in (ls := [some (ar 79), some (ai (nI m))]) rfl ?_
  refine g_iload_n (p0 := 1) (i := 1) dX10_isMessage_0 rfl rfl rfl ?_
  first | ((with_reducible refine isN1 ?_); refine g_ifN_lt (tgt := 16) (p1 := 4) dX10_isMessage_1 rfl (by omega) rfl (fun c_1 => by exfalso; first | omega | contradiction | exact absurd (by assumption) c_1 | (simp_all; done)) (fun c_1 => ?_)) | refine g_if_lt (tgt := 16) (p1 := 4) dX10_isMessage_1 rfl rfl (fun c_1 => by exfalso; first | omega | contradiction | exact absurd (by assumption) c_1 | (simp_all; done)) (fun c_1 => ?_)
  refine g_iload_n (p0 := 5) (i := 1) dX10_isMessage_4 rfl rfl rfl ?_
  refine g_aload_n (p0 := 6) (i := 0) dX10_isMessage_5 rfl rfl rfl ?_
  refine g_getI (p0 := 9) dX10_isMessage_6 fX10_121 (by first | rfl | assumption | exact RW.s (by assumption) | exact TW.s (by assumption)) rfl (by first | assumption | ((repeat (first | exact up_hit | refine up_nv (by decide) ?_ | refine up_mv (by first | decide | omega) ?_)) <;> first | assumption | rfl)) rfl ?_
  first | ((with_reducible refine isN2 ?_); refine g_icmpN_ge (tgt := 16) (p1 := 12) dX10_isMessage_9 rfl (by omega) (by omega) rfl (fun c_9 => by exfalso; first | omega | contradiction | exact absurd (by assumption) c_9 | (simp_all; done)) (fun c_9 => ?_)) | refine g_icmp_ge (tgt := 16) (p1 := 12) dX10_isMessage_9 rfl rfl (fun c_9 => by exfalso; first | omega | contradiction | exact absurd (by assumption) c_9 | (simp_all; done)) (fun c_9 => ?_)
  refine g_iconst (p0 := 13) (v := nI 1) dX10_isMessage_12 rfl rfl ?_
  refine g_goto (tgt := 17) dX10_isMessage_13 rfl ?_
  refine g_ireturn dX10_isMessage_17 rfl (by first | rfl | exact bool_narrow (by first | exact Or.inl rfl | exact Or.inr rfl | assumption | (split <;> first | exact Or.inl rfl | exact Or.inr rfl))) (?_)
  exact ⟨rfl, rfl⟩
set_option maxRecDepth 20000 in
set_option maxHeartbeats 2000000 in
theorem isMessage_F1 {x : Int32} {σ : Sg} (h : x < 0) : CM mX10_isMessage [ar 79, ai x] σ (Ret (nI 0) σ) := by
  refine CM_in (ls := [some (ar 79), some (ai x)]) rfl ?_
  refine g_iload_n (p0 := 1) (i := 1) dX10_isMessage_0 rfl rfl rfl ?_
  first | ((with_reducible refine isN1 ?_); refine g_ifN_lt (tgt := 16) (p1 := 4) dX10_isMessage_1 rfl (by omega) rfl (fun c_1 => ?_) (fun c_1 => by exfalso; first | omega | contradiction | exact absurd (by assumption) c_1 | (simp_all; done))) | refine g_if_lt (tgt := 16) (p1 := 4) dX10_isMessage_1 rfl rfl (fun c_1 => ?_) (fun c_1 => by exfalso; first | omega | contradiction | exact absurd (by assumption) c_1 | (simp_all; done))
  refine g_iconst (p0 := 17) (v := nI 0) dX10_isMessage_16 rfl rfl ?_
  refine g_ireturn dX10_isMessage_17 rfl (by first | rfl | exact bool_narrow (by first | exact Or.inl rfl | exact Or.inr rfl | assumption | (split <;> first | exact Or.inl rfl | exact Or.inr rfl))) (?_)
  exact ⟨rfl, rfl⟩
set_option maxRecDepth 20000 in
set_option maxHeartbeats 2000000 in
theorem isMessage_F2 {m M : Nat} {σ : Sg} (hM : σ 79 11 = nI M) (hM1 : M ≤ 160) (hm : M ≤ m) (hj : m < 2147483648) : CM mX10_isMessage [ar 79, ai (nI m)] σ (Ret (nI 0) σ) := by
  refine CM_in (ls := [some (ar 79), some (ai (nI m))]) rfl ?_
  refine g_iload_n (p0 := 1) (i := 1) dX10_isMessage_0 rfl rfl rfl ?_
  first | ((with_reducible refine isN1 ?_); refine g_ifN_lt (tgt := 16) (p1 := 4) dX10_isMessage_1 rfl (by omega) rfl (fun c_1 => by exfalso; first | omega | contradiction | exact absurd (by assumption) c_1 | (simp_all; done)) (fun c_1 => ?_)) | refine g_if_lt (tgt := 16) (p1 := 4) dX10_isMessage_1 rfl rfl (fun c_1 => by exfalso; first | omega | contradiction | exact absurd (by assumption) c_1 | (simp_all; done)) (fun c_1 => ?_)
  refine g_iload_n (p0 := 5) (i := 1) dX10_isMessage_4 rfl rfl rfl ?_
  refine g_aload_n (p0 := 6) (i := 0) dX10_isMessage_5 rfl rfl rfl ?_
  refine g_getI (p0 := 9) dX10_isMessage_6 fX10_121 (by first | rfl | assumption | exact RW.s (by assumption) | exact TW.s (by assumption)) rfl (by first | assumption | ((repeat (first | exact up_hit | refine up_nv (by decide) ?_ | refine up_mv (by first | decide | omega) ?_)) <;> first | assumption | rfl)) rfl ?_
  first | ((with_reducible refine isN2 ?_); refine g_icmpN_ge (tgt := 16) (p1 := 12) dX10_isMessage_9 rfl (by omega) (by omega) rfl (fun c_9 => ?_) (fun c_9 => by exfalso; first | omega | contradiction | exact absurd (by assumption) c_9 | (simp_all; done))) | refine g_icmp_ge (tgt := 16) (p1 := 12) dX10_isMessage_9 rfl rfl (fun c_9 => ?_) (fun c_9 => by exfalso; first | omega | contradiction | exact absurd (by assumption) c_9 | (simp_all; done))
  refine g_iconst (p0 := 17) (v := nI 0) dX10_isMessage_16 rfl rfl ?_
  refine g_ireturn dX10_isMessage_17 rfl (by first | rfl | exact bool_narrow (by first | exact Or.inl rfl | exact Or.inr rfl | assumption | (split <;> first | exact Or.inl rfl | exact Or.inr rfl))) (?_)
  exact ⟨rfl, rfl⟩
set_option maxRecDepth 20000 in
set_option maxHeartbeats 2000000 in
theorem hasMessage_T {m M : Nat} {σ : Sg} (hM : σ 45 7 = nI M) (hM1 : M ≤ 160) (hm : m < M) : CM mX6_hasMessage [ar 33, ai (nI m)] σ (Ret (nI 1) σ) := by
  refine CM_in (ls := [some (ar 33), some (ai (nI m))]) rfl ?_
  refine g_iload_n (p0 := 1) (i := 1) dX6_hasMessage_0 rfl rfl rfl ?_
  first | ((with_reducible refine isN1 ?_); refine g_ifN_lt (tgt := 19) (p1 := 4) dX6_hasMessage_1 rfl (by omega) rfl (fun c_1 => by exfalso; first | omega | contradiction | exact absurd (by assumption) c_1 | (simp_all; done)) (fun c_1 => ?_)) | refine g_if_lt (tgt := 19) (p1 := 4) dX6_hasMessage_1 rfl rfl (fun c_1 => by exfalso; first | omega | contradiction | exact absurd (by assumption) c_1 | (simp_all; done)) (fun c_1 => ?_)
  refine g_iload_n (p0 := 5) (i := 1) dX6_hasMessage_4 rfl rfl rfl ?_
  refine g_aload_n (p0 := 6) (i := 0) dX6_hasMessage_5 rfl rfl rfl ?_
  refine g_getR (p0 := 9) dX6_hasMessage_6 fX6_21 (by first | rfl | assumption | exact RW.s (by assumption) | exact TW.s (by assumption)) rfl rfl ?_
  refine g_getI (p0 := 12) dX6_hasMessage_9 fX6_57 (by first | rfl | assumption | exact RW.s (by assumption) | exact TW.s (by assumption)) rfl (by first | assumption | ((repeat (first | exact up_hit | refine up_nv (by decide) ?_ | refine up_mv (by first | decide | omega) ?_)) <;> first | assumption | rfl)) rfl ?_
  first | ((with_reducible refine isN2 ?_); refine g_icmpN_ge (tgt := 19) (p1 := 15) dX6_hasMessage_12 rfl (by omega) (by omega) rfl (fun c_12 => by exfalso; first | omega | contradiction | exact absurd (by assumption) c_12 | (simp_all; done)) (fun c_12 => ?_)) | refine g_icmp_ge (tgt := 19) (p1 := 15) dX6_hasMessage_12 rfl rfl (fun c_12 => by exfalso; first | omega | contradiction | exact absurd (by assumption) c_12 | (simp_all; done)) (fun c_12 => ?_)
  refine g_iconst (p0 := 16) (v := nI 1) dX6_hasMessage_15 rfl rfl ?_
  refine g_goto (tgt := 20) dX6_hasMessage_16 rfl ?_
  refine g_ireturn dX6_hasMessage_20 rfl (by first | rfl | exact bool_narrow (by first | exact Or.inl rfl | exact Or.inr rfl | assumption | (split <;> first | exact Or.inl rfl | exact Or.inr rfl))) (?_)
  exact ⟨rfl, rfl⟩
set_option maxRecDepth 20000 in
set_option maxHeartbeats 2000000 in
theorem hasMessage_F1 {x : Int32} {σ : Sg} (h : x < 0) : CM mX6_hasMessage [ar 33, ai x] σ (Ret (nI 0) σ) := by
  refine CM_in (ls := [some (ar 33), some (ai x)]) rfl ?_
  refine g_iload_n (p0 := 1) (i := 1) dX6_hasMessage_0 rfl rfl rfl ?_
  first | ((with_reducible refine isN1 ?_); refine g_ifN_lt (tgt := 19) (p1 := 4) dX6_hasMessage_1 rfl (by omega) rfl (fun c_1 => ?_) (fun c_1 => by exfalso; first | omega | contradiction | exact absurd (by assumption) c_1 | (simp_all; done))) | refine g_if_lt (tgt := 19) (p1 := 4) dX6_hasMessage_1 rfl rfl (fun c_1 => ?_) (fun c_1 => by exfalso; first | omega | contradiction | exact absurd (by assumption) c_1 | (simp_all; done))
  refine g_iconst (p0 := 20) (v := nI 0) dX6_hasMessage_19 rfl rfl ?_
  refine g_ireturn dX6_hasMessage_20 rfl (by first | rfl | exact bool_narrow (by first | exact Or.inl rfl | exact Or.inr rfl | assumption | (split <;> first | exact Or.inl rfl | exact Or.inr rfl))) (?_)
  exact ⟨rfl, rfl⟩
set_option maxRecDepth 20000 in
set_option maxHeartbeats 2000000 in
theorem hasMessage_F2 {m M : Nat} {σ : Sg} (hM : σ 45 7 = nI M) (hM1 : M ≤ 160) (hm : M ≤ m) (hj : m < 2147483648) : CM mX6_hasMessage [ar 33, ai (nI m)] σ (Ret (nI 0) σ) := by
  refine CM_in (ls := [some (ar 33), some (ai (nI m))]) rfl ?_
  refine g_iload_n (p0 := 1) (i := 1) dX6_hasMessage_0 rfl rfl rfl ?_
  first | ((with_reducible refine isN1 ?_); refine g_ifN_lt (tgt := 19) (p1 := 4) dX6_hasMessage_1 rfl (by omega) rfl (fun c_1 => by exfalso; first | omega | contradiction | exact absurd (by assumption) c_1 | (simp_all; done)) (fun c_1 => ?_)) | refine g_if_lt (tgt := 19) (p1 := 4) dX6_hasMessage_1 rfl rfl (fun c_1 => by exfalso; first | omega | contradiction | exact absurd (by assumption) c_1 | (simp_all; done)) (fun c_1 => ?_)
  refine g_iload_n (p0 := 5) (i := 1) dX6_hasMessage_4 rfl rfl rfl ?_
  refine g_aload_n (p0 := 6) (i := 0) dX6_hasMessage_5 rfl rfl rfl ?_
  refine g_getR (p0 := 9) dX6_hasMessage_6 fX6_21 (by first | rfl | assumption | exact RW.s (by assumption) | exact TW.s (by assumption)) rfl rfl ?_
  refine g_getI (p0 := 12) dX6_hasMessage_9 fX6_57 (by first | rfl | assumption | exact RW.s (by assumption) | exact TW.s (by assumption)) rfl (by first | assumption | ((repeat (first | exact up_hit | refine up_nv (by decide) ?_ | refine up_mv (by first | decide | omega) ?_)) <;> first | assumption | rfl)) rfl ?_
  first | ((with_reducible refine isN2 ?_); refine g_icmpN_ge (tgt := 19) (p1 := 15) dX6_hasMessage_12 rfl (by omega) (by omega) rfl (fun c_12 => ?_) (fun c_12 => by exfalso; first | omega | contradiction | exact absurd (by assumption) c_12 | (simp_all; done))) | refine g_icmp_ge (tgt := 19) (p1 := 15) dX6_hasMessage_12 rfl rfl (fun c_12 => ?_) (fun c_12 => by exfalso; first | omega | contradiction | exact absurd (by assumption) c_12 | (simp_all; done))
  refine g_iconst (p0 := 20) (v := nI 0) dX6_hasMessage_19 rfl rfl ?_
  refine g_ireturn dX6_hasMessage_20 rfl (by first | rfl | exact bool_narrow (by first | exact Or.inl rfl | exact Or.inr rfl | assumption | (split <;> first | exact Or.inl rfl | exact Or.inr rfl))) (?_)
  exact ⟨rfl, rfl⟩
