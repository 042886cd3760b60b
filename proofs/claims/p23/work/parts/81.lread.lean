/-! THE LAW READS -/
/-- the message of a letter -/
def mo (c : Nat → Nat) : Nat → Nat → Nat
  | 0, _ => 0
  | k + 1, l => if 4 ≤ c k then (if l = Lc c k then Mc c (k + 1) - 1 else mo c k l) else mo c k l
theorem gr_keep {c : Nat → Nat} {k l : Nat} (h : l + 1 ≠ Lc c (k + 1)) (hl : l < Lc c k) : gr c (k + 1) l = gr c k l ∧ o1 c (k + 1) l = o1 c k l ∧ o2 c (k + 1) l = o2 c k l ∧ mo c (k + 1) l = mo c k l := by
  rw [Lc] at h
  rw [gr, o1, o2, mo]
  by_cases h4 : 4 ≤ c k
  · rw [if_pos h4] at h
    rw [if_pos h4, if_pos h4, if_pos h4, if_pos h4, if_neg (by omega), if_neg (by omega), if_neg (by omega), if_neg (by omega)]
    exact ⟨rfl, rfl, rfl, rfl⟩
  · rw [if_neg h4] at h
    rw [if_neg h4, if_neg h4, if_neg h4, if_neg h4, if_neg (fun q => h q.2), if_neg (fun q => h q.2.1), if_neg (fun q => h q.2.1), if_neg (fun q => h q.2.1)]
    exact ⟨rfl, rfl, rfl, rfl⟩
/-- what the law has read of k strokes, in its seven arrays from e on -/
def RI (e : Nat) (c : Nat → Nat) (gp : Nat → Int32) (σ : Sg) (k : Nat) : Prop :=
  (∀ i, i < k → σ (e + 0) i = nI (c i) ∧ σ (e + 1) i = gp i ∧ σ (e + 2) i = nI (Mc c (i + 1) - 1) ∧ (c i ≠ 0 → σ (e + 3) i = nI (Lc c (i + 1) - 1) ∧ σ (e + 4) i = nI (gr c (i + 1) (Lc c (i + 1) - 1) - 1))) ∧
  (∀ l, l < Lc c k → σ (e + 5) l = nI (mo c k l) ∧ σ (e + 6) l = nI (gr c k l + 256 * o1 c k l + 65536 * o2 c k l))
theorem RI_new {e k : Nat} {c : Nat → Nat} {gp : Nat → Int32} {σ σ' : Sg} (h : RI e c gp σ k)
    (hsame : ∀ i, i < k → σ' (e + 0) i = σ (e + 0) i ∧ σ' (e + 1) i = σ (e + 1) i ∧ σ' (e + 2) i = σ (e + 2) i ∧ σ' (e + 3) i = σ (e + 3) i ∧ σ' (e + 4) i = σ (e + 4) i)
    (hk : σ' (e + 0) k = nI (c k) ∧ σ' (e + 1) k = gp k ∧ σ' (e + 2) k = nI (Mc c (k + 1) - 1) ∧ (c k ≠ 0 → σ' (e + 3) k = nI (Lc c (k + 1) - 1) ∧ σ' (e + 4) k = nI (gr c (k + 1) (Lc c (k + 1) - 1) - 1)))
    (hl : ∀ l, l < Lc c (k + 1) → l + 1 = Lc c (k + 1) → σ' (e + 5) l = nI (mo c (k + 1) l) ∧ σ' (e + 6) l = nI (gr c (k + 1) l + 256 * o1 c (k + 1) l + 65536 * o2 c (k + 1) l))
    (hl2 : ∀ l, l < Lc c k → l + 1 ≠ Lc c (k + 1) → σ' (e + 5) l = σ (e + 5) l ∧ σ' (e + 6) l = σ (e + 6) l) : RI e c gp σ' (k + 1) := by
  refine ⟨fun i hi => ?_, fun l hlt => ?_⟩
  · by_cases hik : i = k
    · subst hik; exact hk
    · obtain ⟨a0, a1, a2, a3, a4⟩ := hsame i (by omega)
      rw [a0, a1, a2, a3, a4]
      exact h.1 i (by omega)
  · by_cases hl3 : l + 1 = Lc c (k + 1)
    · exact hl l hlt hl3
    · have hlk : l < Lc c k := by
        rw [Lc] at hlt hl3
        by_cases h4 : 4 ≤ c k
        · rw [if_pos h4] at hlt hl3
          omega
        · rw [if_neg h4] at hlt
          exact hlt
      obtain ⟨b1, b2⟩ := hl2 l hlk hl3
      obtain ⟨g1, g2, g3, g4⟩ := gr_keep hl3 hlk
      rw [b1, b2, g1, g2, g3, g4]
      exact h.2 l hlk
theorem kind_x {g bt : Int32} {x : Nat} {σ : Sg} (hb : σ 79 0 = bt) (hx : cs bt g = x) : CM mL_kind [ar 79, ai g] σ (Ret (nI x) σ) := by
  rw [← hx]
  exact kind_sp hb
set_option maxRecDepth 20000 in
set_option maxHeartbeats 2000000 in
theorem rd_s1 {e k L s x : Nat} {msg last g bt : Int32} {y z : Option AV} {σ : Sg} {Q : SP} (hB : XB σ e) (he : e + 7 ≤ 90000) (he2 : 82 ≤ e) (hs : σ 79 3 = nI s) (hb : σ 79 0 = bt) (hk : k < s) (hs1 : s ≤ 60) (h0 : 0 < k) (hg : σ 80 k - last = g) (hx : cs bt g = x) (next0 : x = 0 → WM mL_read Q 213 [some (ar 79), some (ar 80), some (ar (e + 0)), some (ar (e + 1)), some (ar (e + 2)), some (ar (e + 3)), some (ar (e + 4)), some (ar (e + 5)), some (ar (e + 6)), some (ai (nI L)), some (ai msg), some (ai last), some (ai (nI k)), y, z] [] (up (up (up σ (e + 1) k g) (e + 0) k (nI x)) (e + 2) k msg)) (next1 : 0 < x → WM mL_read Q 66 [some (ar 79), some (ar 80), some (ar (e + 0)), some (ar (e + 1)), some (ar (e + 2)), some (ar (e + 3)), some (ar (e + 4)), some (ar (e + 5)), some (ar (e + 6)), some (ai (nI L)), some (ai msg), some (ai last), some (ai (nI k)), y, z] [] (up (up (up σ (e + 1) k g) (e + 0) k (nI x)) (e + 2) k msg)) : WM mL_read Q 12 [some (ar 79), some (ar 80), some (ar (e + 0)), some (ar (e + 1)), some (ar (e + 2)), some (ar (e + 3)), some (ar (e + 4)), some (ar (e + 5)), some (ar (e + 6)), some (ai (nI L)), some (ai msg), some (ai last), some (ai (nI k)), y, z] [] σ := by
  have hx5 : x ≤ 5 := hx ▸ cs_le _ _
  refine g_iload (p0 := 14) dL_read_12 rfl rfl ?_
  refine g_aload_n (p0 := 15) (i := 0) dL_read_14 rfl rfl rfl ?_
  refine g_iconst (p0 := 16) (v := nI 3) dL_read_15 rfl rfl ?_
  first | ((with_reducible refine isN1 ?_); refine g_aldN (p0 := 17) dL_read_16 (by first | rfl | assumption | exact RW.s (by assumption) | exact TW.s (by assumption)) (by first | decide | assumption) (by omega) (by first | assumption | ((repeat (first | exact up_hit | (apply up_nv; omega) | (apply up_mv; omega))) <;> first | assumption | rfl)) rfl ?_) | refine g_ald (p0 := 17) dL_read_16 (by first | rfl | assumption | exact RW.s (by assumption) | exact TW.s (by assumption)) (by assumption) (by first | assumption | ((repeat (first | exact up_hit | (apply up_nv; omega) | (apply up_mv; omega))) <;> first | assumption | rfl)) rfl ?_
  first | ((with_reducible refine isN2 ?_); refine g_icmpN_ge (tgt := 219) (p1 := 20) dL_read_17 rfl (by omega) (by omega) rfl (fun c_17 => by exfalso; first | omega | contradiction | exact absurd (by assumption) c_17 | (simp_all; done)) (fun c_17 => ?_)) | refine g_icmp_ge (tgt := 219) (p1 := 20) dL_read_17 rfl rfl (fun c_17 => by exfalso; first | omega | contradiction | exact absurd (by assumption) c_17 | (simp_all; done)) (fun c_17 => ?_)
  refine g_aload_n (p0 := 21) (i := 3) dL_read_20 rfl rfl rfl ?_
  refine g_iload (p0 := 23) dL_read_21 rfl rfl ?_
  refine g_aload_n (p0 := 24) (i := 1) dL_read_23 rfl rfl rfl ?_
  refine g_iload (p0 := 26) dL_read_24 rfl rfl ?_
  first | ((with_reducible refine isN1 ?_); refine g_aldN (p0 := 27) dL_read_26 (by first | rfl | assumption | exact RW.s (by assumption) | exact TW.s (by assumption)) (by first | decide | assumption) (by omega) (by first | assumption | ((repeat (first | exact up_hit | (apply up_nv; omega) | (apply up_mv; omega))) <;> first | assumption | rfl)) rfl ?_) | refine g_ald (p0 := 27) dL_read_26 (by first | rfl | assumption | exact RW.s (by assumption) | exact TW.s (by assumption)) (by assumption) (by first | assumption | ((repeat (first | exact up_hit | (apply up_nv; omega) | (apply up_mv; omega))) <;> first | assumption | rfl)) rfl ?_
  refine g_iload (p0 := 29) dL_read_27 rfl rfl ?_
  first | ((with_reducible refine isN2 ?_); refine g_isubN (p0 := 30) dL_read_29 (by omega) rfl ?_) | refine g_isub (p0 := 30) dL_read_29 rfl ?_
  rw [hg]
  refine g_astX (p0 := 31) dL_read_30 (by repeat (first | assumption | refine XB.up (by omega) ?_)) ⟨rfl, by decide⟩ (by omega) rfl ?_
  refine g_aload_n (p0 := 32) (i := 2) dL_read_31 rfl rfl rfl ?_
  refine g_iload (p0 := 34) dL_read_32 rfl rfl ?_
  refine g_iload (p0 := 36) dL_read_34 rfl rfl ?_
  first | ((with_reducible refine isN1 ?_); refine g_ifN_ne (tgt := 43) (p1 := 39) dL_read_36 rfl (by omega) rfl (fun c_36 => ?_) (fun c_36 => by exfalso; first | omega | contradiction | exact absurd (by assumption) c_36 | (simp_all; done))) | refine g_if_ne (tgt := 43) (p1 := 39) dL_read_36 rfl rfl (fun c_36 => ?_) (fun c_36 => by exfalso; first | omega | contradiction | exact absurd (by assumption) c_36 | (simp_all; done))
  refine g_aload_n (p0 := 44) (i := 0) dL_read_43 rfl rfl rfl ?_
  refine g_aload_n (p0 := 45) (i := 3) dL_read_44 rfl rfl rfl ?_
  refine g_iload (p0 := 47) dL_read_45 rfl rfl ?_
  refine g_aldX (p0 := 48) dL_read_47 (by repeat (first | assumption | refine XB.up (by omega) ?_)) ⟨rfl, by decide⟩ (by omega) (by first | assumption | ((repeat (first | exact up_hit | (apply up_nv; omega) | (apply up_mv; omega))) <;> first | assumption | rfl)) rfl ?_
  refine g_cS2R (p0 := 51) (r1 := mL_kind) dL_read_48 (Or.inl lL_9) vL_kind (FITi rfl rfl) (Nat.le_of_ble_eq_true rfl) (kind_x (by first | assumption | exact up_nv (by omega) (by assumption)) hx) rfl ?_
  refine g_astX (p0 := 52) dL_read_51 (by repeat (first | assumption | refine XB.up (by omega) ?_)) ⟨rfl, by decide⟩ (by omega) rfl ?_
  refine g_aload (p0 := 54) dL_read_52 rfl rfl ?_
  refine g_iload (p0 := 56) dL_read_54 rfl rfl ?_
  refine g_iload (p0 := 58) dL_read_56 rfl rfl ?_
  refine g_astX (p0 := 59) dL_read_58 (by repeat (first | assumption | refine XB.up (by omega) ?_)) ⟨rfl, by decide⟩ (by omega) rfl ?_
  refine g_aload_n (p0 := 60) (i := 2) dL_read_59 rfl rfl rfl ?_
  refine g_iload (p0 := 62) dL_read_60 rfl rfl ?_
  refine g_aldX (p0 := 63) dL_read_62 (by repeat (first | assumption | refine XB.up (by omega) ?_)) ⟨rfl, by decide⟩ (by omega) (by first | assumption | ((repeat (first | exact up_hit | (apply up_nv; omega) | (apply up_mv; omega))) <;> first | assumption | rfl)) rfl ?_
  first | ((with_reducible refine isN1 ?_); refine g_ifN_le (tgt := 213) (p1 := 66) dL_read_63 rfl (by omega) rfl (fun c_63 => ?_) (fun c_63 => ?_)) | refine g_if_le (tgt := 213) (p1 := 66) dL_read_63 rfl rfl (fun c_63 => ?_) (fun c_63 => ?_)
  · exact next0 (by omega)
  · exact next1 (by omega)
set_option maxRecDepth 20000 in
set_option maxHeartbeats 2000000 in
theorem rd_s1z {e L s x : Nat} {msg last g bt : Int32} {y z : Option AV} {σ : Sg} {Q : SP} (hB : XB σ e) (he : e + 7 ≤ 90000) (he2 : 82 ≤ e) (hs : σ 79 3 = nI s) (hb : σ 79 0 = bt) (hk : 0 < s) (hs1 : s ≤ 60) (hg : σ 80 0 - last = g) (hx : x = 5) (next1 : WM mL_read Q 66 [some (ar 79), some (ar 80), some (ar (e + 0)), some (ar (e + 1)), some (ar (e + 2)), some (ar (e + 3)), some (ar (e + 4)), some (ar (e + 5)), some (ar (e + 6)), some (ai (nI L)), some (ai msg), some (ai last), some (ai (nI 0)), y, z] [] (up (up (up σ (e + 1) 0 g) (e + 0) 0 (nI x)) (e + 2) 0 msg)) : WM mL_read Q 12 [some (ar 79), some (ar 80), some (ar (e + 0)), some (ar (e + 1)), some (ar (e + 2)), some (ar (e + 3)), some (ar (e + 4)), some (ar (e + 5)), some (ar (e + 6)), some (ai (nI L)), some (ai msg), some (ai last), some (ai (nI 0)), y, z] [] σ := by
  subst hx
  refine g_iload (p0 := 14) dL_read_12 rfl rfl ?_
  refine g_aload_n (p0 := 15) (i := 0) dL_read_14 rfl rfl rfl ?_
  refine g_iconst (p0 := 16) (v := nI 3) dL_read_15 rfl rfl ?_
  first | ((with_reducible refine isN1 ?_); refine g_aldN (p0 := 17) dL_read_16 (by first | rfl | assumption | exact RW.s (by assumption) | exact TW.s (by assumption)) (by first | decide | assumption) (by omega) (by first | assumption | ((repeat (first | exact up_hit | (apply up_nv; omega) | (apply up_mv; omega))) <;> first | assumption | rfl)) rfl ?_) | refine g_ald (p0 := 17) dL_read_16 (by first | rfl | assumption | exact RW.s (by assumption) | exact TW.s (by assumption)) (by assumption) (by first | assumption | ((repeat (first | exact up_hit | (apply up_nv; omega) | (apply up_mv; omega))) <;> first | assumption | rfl)) rfl ?_
  first | ((with_reducible refine isN2 ?_); refine g_icmpN_ge (tgt := 219) (p1 := 20) dL_read_17 rfl (by omega) (by omega) rfl (fun c_17 => by exfalso; first | omega | contradiction | exact absurd (by assumption) c_17 | (simp_all; done)) (fun c_17 => ?_)) | refine g_icmp_ge (tgt := 219) (p1 := 20) dL_read_17 rfl rfl (fun c_17 => by exfalso; first | omega | contradiction | exact absurd (by assumption) c_17 | (simp_all; done)) (fun c_17 => ?_)
  refine g_aload_n (p0 := 21) (i := 3) dL_read_20 rfl rfl rfl ?_
  refine g_iload (p0 := 23) dL_read_21 rfl rfl ?_
  refine g_aload_n (p0 := 24) (i := 1) dL_read_23 rfl rfl rfl ?_
  refine g_iload (p0 := 26) dL_read_24 rfl rfl ?_
  first | ((with_reducible refine isN1 ?_); refine g_aldN (p0 := 27) dL_read_26 (by first | rfl | assumption | exact RW.s (by assumption) | exact TW.s (by assumption)) (by first | decide | assumption) (by omega) (by first | assumption | ((repeat (first | exact up_hit | (apply up_nv; omega) | (apply up_mv; omega))) <;> first | assumption | rfl)) rfl ?_) | refine g_ald (p0 := 27) dL_read_26 (by first | rfl | assumption | exact RW.s (by assumption) | exact TW.s (by assumption)) (by assumption) (by first | assumption | ((repeat (first | exact up_hit | (apply up_nv; omega) | (apply up_mv; omega))) <;> first | assumption | rfl)) rfl ?_
  refine g_iload (p0 := 29) dL_read_27 rfl rfl ?_
  first | ((with_reducible refine isN2 ?_); refine g_isubN (p0 := 30) dL_read_29 (by omega) rfl ?_) | refine g_isub (p0 := 30) dL_read_29 rfl ?_
  rw [hg]
  refine g_astX (p0 := 31) dL_read_30 (by repeat (first | assumption | refine XB.up (by omega) ?_)) ⟨rfl, by decide⟩ (by omega) rfl ?_
  refine g_aload_n (p0 := 32) (i := 2) dL_read_31 rfl rfl rfl ?_
  refine g_iload (p0 := 34) dL_read_32 rfl rfl ?_
  refine g_iload (p0 := 36) dL_read_34 rfl rfl ?_
  first | ((with_reducible refine isN1 ?_); refine g_ifN_ne (tgt := 43) (p1 := 39) dL_read_36 rfl (by omega) rfl (fun c_36 => by exfalso; first | omega | contradiction | exact absurd (by assumption) c_36 | (simp_all; done)) (fun c_36 => ?_)) | refine g_if_ne (tgt := 43) (p1 := 39) dL_read_36 rfl rfl (fun c_36 => by exfalso; first | omega | contradiction | exact absurd (by assumption) c_36 | (simp_all; done)) (fun c_36 => ?_)
  refine g_iconst (p0 := 40) (v := nI 5) dL_read_39 rfl rfl ?_
  refine g_goto (tgt := 51) dL_read_40 rfl ?_
  refine g_astX (p0 := 52) dL_read_51 (by repeat (first | assumption | refine XB.up (by omega) ?_)) ⟨rfl, by decide⟩ (by omega) rfl ?_
  refine g_aload (p0 := 54) dL_read_52 rfl rfl ?_
  refine g_iload (p0 := 56) dL_read_54 rfl rfl ?_
  refine g_iload (p0 := 58) dL_read_56 rfl rfl ?_
  refine g_astX (p0 := 59) dL_read_58 (by repeat (first | assumption | refine XB.up (by omega) ?_)) ⟨rfl, by decide⟩ (by omega) rfl ?_
  refine g_aload_n (p0 := 60) (i := 2) dL_read_59 rfl rfl rfl ?_
  refine g_iload (p0 := 62) dL_read_60 rfl rfl ?_
  refine g_aldX (p0 := 63) dL_read_62 (by repeat (first | assumption | refine XB.up (by omega) ?_)) ⟨rfl, by decide⟩ (by omega) (by first | assumption | ((repeat (first | exact up_hit | (apply up_nv; omega) | (apply up_mv; omega))) <;> first | assumption | rfl)) rfl ?_
  first | ((with_reducible refine isN1 ?_); refine g_ifN_le (tgt := 213) (p1 := 66) dL_read_63 rfl (by omega) rfl (fun c_63 => by exfalso; first | omega | contradiction | exact absurd (by assumption) c_63 | (simp_all; done)) (fun c_63 => ?_)) | refine g_if_le (tgt := 213) (p1 := 66) dL_read_63 rfl rfl (fun c_63 => by exfalso; first | omega | contradiction | exact absurd (by assumption) c_63 | (simp_all; done)) (fun c_63 => ?_)
  exact next1
set_option maxRecDepth 20000 in
set_option maxHeartbeats 2000000 in
theorem rd_s2a {e k L M I x : Nat} {last : Int32} {y z : Option AV} {σ : Sg} {Q : SP} (hB : XB σ e) (he : e + 7 ≤ 90000) (he2 : 82 ≤ e) (hk : k < 60) (hL : L < 64) (hM : M < 1000) (hI : I < 100000000) (hx : σ (e + 0) k = nI x) (h6 : σ (e + 6) (L - 1) = nI I) (hL0 : 1 ≤ L) (h1 : 1 ≤ x) (h2 : x ≤ 2) (next : WM mL_read Q 131 [some (ar 79), some (ar 80), some (ar (e + 0)), some (ar (e + 1)), some (ar (e + 2)), some (ar (e + 3)), some (ar (e + 4)), some (ar (e + 5)), some (ar (e + 6)), some (ai (nI (L))), some (ai (nI (M + 0))), some (ai last), some (ai (nI k)), some (ai (nI (I + 0))), z] [] σ) : WM mL_read Q 66 [some (ar 79), some (ar 80), some (ar (e + 0)), some (ar (e + 1)), some (ar (e + 2)), some (ar (e + 3)), some (ar (e + 4)), some (ar (e + 5)), some (ar (e + 6)), some (ai (nI L)), some (ai (nI M)), some (ai last), some (ai (nI k)), y, z] [] σ := by
  refine g_iload (p0 := 68) dL_read_66 rfl rfl ?_
  refine g_aload_n (p0 := 69) (i := 2) dL_read_68 rfl rfl rfl ?_
  refine g_iload (p0 := 71) dL_read_69 rfl rfl ?_
  refine g_aldX (p0 := 72) dL_read_71 (by repeat (first | assumption | refine XB.up (by omega) ?_)) ⟨rfl, by decide⟩ (by omega) (by first | assumption | ((repeat (first | exact up_hit | (apply up_nv; omega) | (apply up_mv; omega))) <;> first | assumption | rfl)) rfl ?_
  refine g_iconst (p0 := 73) (v := nI 5) dL_read_72 rfl rfl ?_
  first | ((with_reducible refine isN2 ?_); refine g_icmpN_ne (tgt := 80) (p1 := 76) dL_read_73 rfl (by omega) (by omega) rfl (fun c_73 => ?_) (fun c_73 => by exfalso; first | omega | contradiction | exact absurd (by assumption) c_73 | (simp_all; done))) | refine g_icmp_ne (tgt := 80) (p1 := 76) dL_read_73 rfl rfl (fun c_73 => ?_) (fun c_73 => by exfalso; first | omega | contradiction | exact absurd (by assumption) c_73 | (simp_all; done))
  refine g_iconst (p0 := 81) (v := nI 0) dL_read_80 rfl rfl ?_
  first | ((with_reducible refine isN2 ?_); refine g_iaddN (p0 := 82) dL_read_81 rfl ?_) | refine g_iadd (p0 := 82) dL_read_81 rfl ?_
  refine g_istore (p0 := 84) (i := 10) (ls2 := [_, _, _, _, _, _, _, _, _, _, _, _, _, _, _]) dL_read_82 (Nat.le_of_ble_eq_true rfl) rfl rfl ?_
  refine g_aload_n (p0 := 85) (i := 2) dL_read_84 rfl rfl rfl ?_
  refine g_iload (p0 := 87) dL_read_85 rfl rfl ?_
  refine g_aldX (p0 := 88) dL_read_87 (by repeat (first | assumption | refine XB.up (by omega) ?_)) ⟨rfl, by decide⟩ (by omega) (by first | assumption | ((repeat (first | exact up_hit | (apply up_nv; omega) | (apply up_mv; omega))) <;> first | assumption | rfl)) rfl ?_
  refine g_iconst (p0 := 89) (v := nI 3) dL_read_88 rfl rfl ?_
  first | ((with_reducible refine isN2 ?_); refine g_icmpN_le (tgt := 108) (p1 := 92) dL_read_89 rfl (by omega) (by omega) rfl (fun c_89 => ?_) (fun c_89 => by exfalso; first | omega | contradiction | exact absurd (by assumption) c_89 | (simp_all; done))) | refine g_icmp_le (tgt := 108) (p1 := 92) dL_read_89 rfl rfl (fun c_89 => ?_) (fun c_89 => by exfalso; first | omega | contradiction | exact absurd (by assumption) c_89 | (simp_all; done))
  refine g_aload (p0 := 110) dL_read_108 rfl rfl ?_
  refine g_iload (p0 := 112) dL_read_110 rfl rfl ?_
  refine g_iconst (p0 := 113) (v := nI 1) dL_read_112 rfl rfl ?_
  first | ((with_reducible refine isN2 ?_); refine g_isubN (p0 := 114) dL_read_113 (by omega) rfl ?_) | refine g_isub (p0 := 114) dL_read_113 rfl ?_
  refine g_aldX (p0 := 115) dL_read_114 (by repeat (first | assumption | refine XB.up (by omega) ?_)) ⟨rfl, by decide⟩ (by omega) (by first | assumption | ((repeat (first | exact up_hit | (apply up_nv; omega) | (apply up_mv; omega))) <;> first | assumption | rfl)) rfl ?_
  refine g_aload_n (p0 := 116) (i := 2) dL_read_115 rfl rfl rfl ?_
  refine g_iload (p0 := 118) dL_read_116 rfl rfl ?_
  refine g_aldX (p0 := 119) dL_read_118 (by repeat (first | assumption | refine XB.up (by omega) ?_)) ⟨rfl, by decide⟩ (by omega) (by first | assumption | ((repeat (first | exact up_hit | (apply up_nv; omega) | (apply up_mv; omega))) <;> first | assumption | rfl)) rfl ?_
  refine g_iconst (p0 := 120) (v := nI 2) dL_read_119 rfl rfl ?_
  first | ((with_reducible refine isN2 ?_); refine g_icmpN_le (tgt := 127) (p1 := 123) dL_read_120 rfl (by omega) (by omega) rfl (fun c_120 => ?_) (fun c_120 => by exfalso; first | omega | contradiction | exact absurd (by assumption) c_120 | (simp_all; done))) | refine g_icmp_le (tgt := 127) (p1 := 123) dL_read_120 rfl rfl (fun c_120 => ?_) (fun c_120 => by exfalso; first | omega | contradiction | exact absurd (by assumption) c_120 | (simp_all; done))
  refine g_iconst (p0 := 128) (v := nI 0) dL_read_127 rfl rfl ?_
  first | ((with_reducible refine isN2 ?_); refine g_iaddN (p0 := 129) dL_read_128 rfl ?_) | refine g_iadd (p0 := 129) dL_read_128 rfl ?_
  refine g_istore (p0 := 131) (i := 13) (ls2 := [_, _, _, _, _, _, _, _, _, _, _, _, _, _, _]) dL_read_129 (Nat.le_of_ble_eq_true rfl) rfl rfl ?_
  exact next
set_option maxRecDepth 20000 in
set_option maxHeartbeats 2000000 in
theorem rd_s2b {e k L M I x : Nat} {last : Int32} {y z : Option AV} {σ : Sg} {Q : SP} (hB : XB σ e) (he : e + 7 ≤ 90000) (he2 : 82 ≤ e) (hk : k < 60) (hL : L < 64) (hM : M < 1000) (hI : I < 100000000) (hx : σ (e + 0) k = nI x) (h6 : σ (e + 6) (L - 1) = nI I) (hL0 : 1 ≤ L) (h1 : x = 3) (next : WM mL_read Q 131 [some (ar 79), some (ar 80), some (ar (e + 0)), some (ar (e + 1)), some (ar (e + 2)), some (ar (e + 3)), some (ar (e + 4)), some (ar (e + 5)), some (ar (e + 6)), some (ai (nI (L))), some (ai (nI (M + 0))), some (ai last), some (ai (nI k)), some (ai (nI (I + 1))), z] [] σ) : WM mL_read Q 66 [some (ar 79), some (ar 80), some (ar (e + 0)), some (ar (e + 1)), some (ar (e + 2)), some (ar (e + 3)), some (ar (e + 4)), some (ar (e + 5)), some (ar (e + 6)), some (ai (nI L)), some (ai (nI M)), some (ai last), some (ai (nI k)), y, z] [] σ := by
  refine g_iload (p0 := 68) dL_read_66 rfl rfl ?_
  refine g_aload_n (p0 := 69) (i := 2) dL_read_68 rfl rfl rfl ?_
  refine g_iload (p0 := 71) dL_read_69 rfl rfl ?_
  refine g_aldX (p0 := 72) dL_read_71 (by repeat (first | assumption | refine XB.up (by omega) ?_)) ⟨rfl, by decide⟩ (by omega) (by first | assumption | ((repeat (first | exact up_hit | (apply up_nv; omega) | (apply up_mv; omega))) <;> first | assumption | rfl)) rfl ?_
  refine g_iconst (p0 := 73) (v := nI 5) dL_read_72 rfl rfl ?_
  first | ((with_reducible refine isN2 ?_); refine g_icmpN_ne (tgt := 80) (p1 := 76) dL_read_73 rfl (by omega) (by omega) rfl (fun c_73 => ?_) (fun c_73 => by exfalso; first | omega | contradiction | exact absurd (by assumption) c_73 | (simp_all; done))) | refine g_icmp_ne (tgt := 80) (p1 := 76) dL_read_73 rfl rfl (fun c_73 => ?_) (fun c_73 => by exfalso; first | omega | contradiction | exact absurd (by assumption) c_73 | (simp_all; done))
  refine g_iconst (p0 := 81) (v := nI 0) dL_read_80 rfl rfl ?_
  first | ((with_reducible refine isN2 ?_); refine g_iaddN (p0 := 82) dL_read_81 rfl ?_) | refine g_iadd (p0 := 82) dL_read_81 rfl ?_
  refine g_istore (p0 := 84) (i := 10) (ls2 := [_, _, _, _, _, _, _, _, _, _, _, _, _, _, _]) dL_read_82 (Nat.le_of_ble_eq_true rfl) rfl rfl ?_
  refine g_aload_n (p0 := 85) (i := 2) dL_read_84 rfl rfl rfl ?_
  refine g_iload (p0 := 87) dL_read_85 rfl rfl ?_
  refine g_aldX (p0 := 88) dL_read_87 (by repeat (first | assumption | refine XB.up (by omega) ?_)) ⟨rfl, by decide⟩ (by omega) (by first | assumption | ((repeat (first | exact up_hit | (apply up_nv; omega) | (apply up_mv; omega))) <;> first | assumption | rfl)) rfl ?_
  refine g_iconst (p0 := 89) (v := nI 3) dL_read_88 rfl rfl ?_
  first | ((with_reducible refine isN2 ?_); refine g_icmpN_le (tgt := 108) (p1 := 92) dL_read_89 rfl (by omega) (by omega) rfl (fun c_89 => ?_) (fun c_89 => by exfalso; first | omega | contradiction | exact absurd (by assumption) c_89 | (simp_all; done))) | refine g_icmp_le (tgt := 108) (p1 := 92) dL_read_89 rfl rfl (fun c_89 => ?_) (fun c_89 => by exfalso; first | omega | contradiction | exact absurd (by assumption) c_89 | (simp_all; done))
  refine g_aload (p0 := 110) dL_read_108 rfl rfl ?_
  refine g_iload (p0 := 112) dL_read_110 rfl rfl ?_
  refine g_iconst (p0 := 113) (v := nI 1) dL_read_112 rfl rfl ?_
  first | ((with_reducible refine isN2 ?_); refine g_isubN (p0 := 114) dL_read_113 (by omega) rfl ?_) | refine g_isub (p0 := 114) dL_read_113 rfl ?_
  refine g_aldX (p0 := 115) dL_read_114 (by repeat (first | assumption | refine XB.up (by omega) ?_)) ⟨rfl, by decide⟩ (by omega) (by first | assumption | ((repeat (first | exact up_hit | (apply up_nv; omega) | (apply up_mv; omega))) <;> first | assumption | rfl)) rfl ?_
  refine g_aload_n (p0 := 116) (i := 2) dL_read_115 rfl rfl rfl ?_
  refine g_iload (p0 := 118) dL_read_116 rfl rfl ?_
  refine g_aldX (p0 := 119) dL_read_118 (by repeat (first | assumption | refine XB.up (by omega) ?_)) ⟨rfl, by decide⟩ (by omega) (by first | assumption | ((repeat (first | exact up_hit | (apply up_nv; omega) | (apply up_mv; omega))) <;> first | assumption | rfl)) rfl ?_
  refine g_iconst (p0 := 120) (v := nI 2) dL_read_119 rfl rfl ?_
  first | ((with_reducible refine isN2 ?_); refine g_icmpN_le (tgt := 127) (p1 := 123) dL_read_120 rfl (by omega) (by omega) rfl (fun c_120 => by exfalso; first | omega | contradiction | exact absurd (by assumption) c_120 | (simp_all; done)) (fun c_120 => ?_)) | refine g_icmp_le (tgt := 127) (p1 := 123) dL_read_120 rfl rfl (fun c_120 => by exfalso; first | omega | contradiction | exact absurd (by assumption) c_120 | (simp_all; done)) (fun c_120 => ?_)
  refine g_iconst (p0 := 124) (v := nI 1) dL_read_123 rfl rfl ?_
  refine g_goto (tgt := 128) dL_read_124 rfl ?_
  first | ((with_reducible refine isN2 ?_); refine g_iaddN (p0 := 129) dL_read_128 rfl ?_) | refine g_iadd (p0 := 129) dL_read_128 rfl ?_
  refine g_istore (p0 := 131) (i := 13) (ls2 := [_, _, _, _, _, _, _, _, _, _, _, _, _, _, _]) dL_read_129 (Nat.le_of_ble_eq_true rfl) rfl rfl ?_
  exact next
set_option maxRecDepth 20000 in
set_option maxHeartbeats 2000000 in
theorem rd_s2c {e k L M x : Nat} {last : Int32} {y z : Option AV} {σ : Sg} {Q : SP} (hB : XB σ e) (he : e + 7 ≤ 90000) (he2 : 82 ≤ e) (hk : k < 60) (hL : L < 64) (hM : M < 1000) (hx : σ (e + 0) k = nI x) (h1 : x = 4) (next : WM mL_read Q 131 [some (ar 79), some (ar 80), some (ar (e + 0)), some (ar (e + 1)), some (ar (e + 2)), some (ar (e + 3)), some (ar (e + 4)), some (ar (e + 5)), some (ar (e + 6)), some (ai (nI (L + 1))), some (ai (nI (M + 0))), some (ai last), some (ai (nI k)), some (ai (nI (0 + 1))), z] [] (up (up σ (e + 5) L (nI (M + 0))) (e + 6) L (nI 0))) : WM mL_read Q 66 [some (ar 79), some (ar 80), some (ar (e + 0)), some (ar (e + 1)), some (ar (e + 2)), some (ar (e + 3)), some (ar (e + 4)), some (ar (e + 5)), some (ar (e + 6)), some (ai (nI L)), some (ai (nI M)), some (ai last), some (ai (nI k)), y, z] [] σ := by
  refine g_iload (p0 := 68) dL_read_66 rfl rfl ?_
  refine g_aload_n (p0 := 69) (i := 2) dL_read_68 rfl rfl rfl ?_
  refine g_iload (p0 := 71) dL_read_69 rfl rfl ?_
  refine g_aldX (p0 := 72) dL_read_71 (by repeat (first | assumption | refine XB.up (by omega) ?_)) ⟨rfl, by decide⟩ (by omega) (by first | assumption | ((repeat (first | exact up_hit | (apply up_nv; omega) | (apply up_mv; omega))) <;> first | assumption | rfl)) rfl ?_
  refine g_iconst (p0 := 73) (v := nI 5) dL_read_72 rfl rfl ?_
  first | ((with_reducible refine isN2 ?_); refine g_icmpN_ne (tgt := 80) (p1 := 76) dL_read_73 rfl (by omega) (by omega) rfl (fun c_73 => ?_) (fun c_73 => by exfalso; first | omega | contradiction | exact absurd (by assumption) c_73 | (simp_all; done))) | refine g_icmp_ne (tgt := 80) (p1 := 76) dL_read_73 rfl rfl (fun c_73 => ?_) (fun c_73 => by exfalso; first | omega | contradiction | exact absurd (by assumption) c_73 | (simp_all; done))
  refine g_iconst (p0 := 81) (v := nI 0) dL_read_80 rfl rfl ?_
  first | ((with_reducible refine isN2 ?_); refine g_iaddN (p0 := 82) dL_read_81 rfl ?_) | refine g_iadd (p0 := 82) dL_read_81 rfl ?_
  refine g_istore (p0 := 84) (i := 10) (ls2 := [_, _, _, _, _, _, _, _, _, _, _, _, _, _, _]) dL_read_82 (Nat.le_of_ble_eq_true rfl) rfl rfl ?_
  refine g_aload_n (p0 := 85) (i := 2) dL_read_84 rfl rfl rfl ?_
  refine g_iload (p0 := 87) dL_read_85 rfl rfl ?_
  refine g_aldX (p0 := 88) dL_read_87 (by repeat (first | assumption | refine XB.up (by omega) ?_)) ⟨rfl, by decide⟩ (by omega) (by first | assumption | ((repeat (first | exact up_hit | (apply up_nv; omega) | (apply up_mv; omega))) <;> first | assumption | rfl)) rfl ?_
  refine g_iconst (p0 := 89) (v := nI 3) dL_read_88 rfl rfl ?_
  first | ((with_reducible refine isN2 ?_); refine g_icmpN_le (tgt := 108) (p1 := 92) dL_read_89 rfl (by omega) (by omega) rfl (fun c_89 => by exfalso; first | omega | contradiction | exact absurd (by assumption) c_89 | (simp_all; done)) (fun c_89 => ?_)) | refine g_icmp_le (tgt := 108) (p1 := 92) dL_read_89 rfl rfl (fun c_89 => by exfalso; first | omega | contradiction | exact absurd (by assumption) c_89 | (simp_all; done)) (fun c_89 => ?_)
  refine g_aload (p0 := 94) dL_read_92 rfl rfl ?_
  refine g_iload (p0 := 96) dL_read_94 rfl rfl ?_
  refine g_iload (p0 := 98) dL_read_96 rfl rfl ?_
  refine g_astX (p0 := 99) dL_read_98 (by repeat (first | assumption | refine XB.up (by omega) ?_)) ⟨rfl, by decide⟩ (by omega) rfl ?_
  refine g_aload (p0 := 101) dL_read_99 rfl rfl ?_
  refine g_iload (p0 := 103) dL_read_101 rfl rfl ?_
  refine g_iconst (p0 := 104) (v := nI 0) dL_read_103 rfl rfl ?_
  refine g_astX (p0 := 105) dL_read_104 (by repeat (first | assumption | refine XB.up (by omega) ?_)) ⟨rfl, by decide⟩ (by omega) rfl ?_
  first | refine g_iinc1 (p0 := 108) (ls2 := [_, _, _, _, _, _, _, _, _, _, _, _, _, _, _]) dL_read_105 rfl rfl rfl ?_ | refine g_iinc (p0 := 108) (ls2 := [_, _, _, _, _, _, _, _, _, _, _, _, _, _, _]) dL_read_105 rfl rfl rfl rfl ?_
  refine g_aload (p0 := 110) dL_read_108 rfl rfl ?_
  refine g_iload (p0 := 112) dL_read_110 rfl rfl ?_
  refine g_iconst (p0 := 113) (v := nI 1) dL_read_112 rfl rfl ?_
  first | ((with_reducible refine isN2 ?_); refine g_isubN (p0 := 114) dL_read_113 (by omega) rfl ?_) | refine g_isub (p0 := 114) dL_read_113 rfl ?_
  rw [show L + 1 - 1 = L by omega]
  refine g_aldX (p0 := 115) dL_read_114 (by repeat (first | assumption | refine XB.up (by omega) ?_)) ⟨rfl, by decide⟩ (by omega) (by first | assumption | ((repeat (first | exact up_hit | (apply up_nv; omega) | (apply up_mv; omega))) <;> first | assumption | rfl)) rfl ?_
  refine g_aload_n (p0 := 116) (i := 2) dL_read_115 rfl rfl rfl ?_
  refine g_iload (p0 := 118) dL_read_116 rfl rfl ?_
  refine g_aldX (p0 := 119) dL_read_118 (by repeat (first | assumption | refine XB.up (by omega) ?_)) ⟨rfl, by decide⟩ (by omega) (by first | assumption | ((repeat (first | exact up_hit | (apply up_nv; omega) | (apply up_mv; omega))) <;> first | assumption | rfl)) rfl ?_
  refine g_iconst (p0 := 120) (v := nI 2) dL_read_119 rfl rfl ?_
  first | ((with_reducible refine isN2 ?_); refine g_icmpN_le (tgt := 127) (p1 := 123) dL_read_120 rfl (by omega) (by omega) rfl (fun c_120 => by exfalso; first | omega | contradiction | exact absurd (by assumption) c_120 | (simp_all; done)) (fun c_120 => ?_)) | refine g_icmp_le (tgt := 127) (p1 := 123) dL_read_120 rfl rfl (fun c_120 => by exfalso; first | omega | contradiction | exact absurd (by assumption) c_120 | (simp_all; done)) (fun c_120 => ?_)
  refine g_iconst (p0 := 124) (v := nI 1) dL_read_123 rfl rfl ?_
  refine g_goto (tgt := 128) dL_read_124 rfl ?_
  first | ((with_reducible refine isN2 ?_); refine g_iaddN (p0 := 129) dL_read_128 rfl ?_) | refine g_iadd (p0 := 129) dL_read_128 rfl ?_
  refine g_istore (p0 := 131) (i := 13) (ls2 := [_, _, _, _, _, _, _, _, _, _, _, _, _, _, _]) dL_read_129 (Nat.le_of_ble_eq_true rfl) rfl rfl ?_
  exact next
set_option maxRecDepth 20000 in
set_option maxHeartbeats 2000000 in
theorem rd_s2d {e k L M x : Nat} {last : Int32} {y z : Option AV} {σ : Sg} {Q : SP} (hB : XB σ e) (he : e + 7 ≤ 90000) (he2 : 82 ≤ e) (hk : k < 60) (hL : L < 64) (hM : M < 1000) (hx : σ (e + 0) k = nI x) (h1 : x = 5) (next : WM mL_read Q 131 [some (ar 79), some (ar 80), some (ar (e + 0)), some (ar (e + 1)), some (ar (e + 2)), some (ar (e + 3)), some (ar (e + 4)), some (ar (e + 5)), some (ar (e + 6)), some (ai (nI (L + 1))), some (ai (nI (M + 1))), some (ai last), some (ai (nI k)), some (ai (nI (0 + 1))), z] [] (up (up σ (e + 5) L (nI (M + 1))) (e + 6) L (nI 0))) : WM mL_read Q 66 [some (ar 79), some (ar 80), some (ar (e + 0)), some (ar (e + 1)), some (ar (e + 2)), some (ar (e + 3)), some (ar (e + 4)), some (ar (e + 5)), some (ar (e + 6)), some (ai (nI L)), some (ai (nI M)), some (ai last), some (ai (nI k)), y, z] [] σ := by
  refine g_iload (p0 := 68) dL_read_66 rfl rfl ?_
  refine g_aload_n (p0 := 69) (i := 2) dL_read_68 rfl rfl rfl ?_
  refine g_iload (p0 := 71) dL_read_69 rfl rfl ?_
  refine g_aldX (p0 := 72) dL_read_71 (by repeat (first | assumption | refine XB.up (by omega) ?_)) ⟨rfl, by decide⟩ (by omega) (by first | assumption | ((repeat (first | exact up_hit | (apply up_nv; omega) | (apply up_mv; omega))) <;> first | assumption | rfl)) rfl ?_
  refine g_iconst (p0 := 73) (v := nI 5) dL_read_72 rfl rfl ?_
  first | ((with_reducible refine isN2 ?_); refine g_icmpN_ne (tgt := 80) (p1 := 76) dL_read_73 rfl (by omega) (by omega) rfl (fun c_73 => by exfalso; first | omega | contradiction | exact absurd (by assumption) c_73 | (simp_all; done)) (fun c_73 => ?_)) | refine g_icmp_ne (tgt := 80) (p1 := 76) dL_read_73 rfl rfl (fun c_73 => by exfalso; first | omega | contradiction | exact absurd (by assumption) c_73 | (simp_all; done)) (fun c_73 => ?_)
  refine g_iconst (p0 := 77) (v := nI 1) dL_read_76 rfl rfl ?_
  refine g_goto (tgt := 81) dL_read_77 rfl ?_
  first | ((with_reducible refine isN2 ?_); refine g_iaddN (p0 := 82) dL_read_81 rfl ?_) | refine g_iadd (p0 := 82) dL_read_81 rfl ?_
  refine g_istore (p0 := 84) (i := 10) (ls2 := [_, _, _, _, _, _, _, _, _, _, _, _, _, _, _]) dL_read_82 (Nat.le_of_ble_eq_true rfl) rfl rfl ?_
  refine g_aload_n (p0 := 85) (i := 2) dL_read_84 rfl rfl rfl ?_
  refine g_iload (p0 := 87) dL_read_85 rfl rfl ?_
  refine g_aldX (p0 := 88) dL_read_87 (by repeat (first | assumption | refine XB.up (by omega) ?_)) ⟨rfl, by decide⟩ (by omega) (by first | assumption | ((repeat (first | exact up_hit | (apply up_nv; omega) | (apply up_mv; omega))) <;> first | assumption | rfl)) rfl ?_
  refine g_iconst (p0 := 89) (v := nI 3) dL_read_88 rfl rfl ?_
  first | ((with_reducible refine isN2 ?_); refine g_icmpN_le (tgt := 108) (p1 := 92) dL_read_89 rfl (by omega) (by omega) rfl (fun c_89 => by exfalso; first | omega | contradiction | exact absurd (by assumption) c_89 | (simp_all; done)) (fun c_89 => ?_)) | refine g_icmp_le (tgt := 108) (p1 := 92) dL_read_89 rfl rfl (fun c_89 => by exfalso; first | omega | contradiction | exact absurd (by assumption) c_89 | (simp_all; done)) (fun c_89 => ?_)
  refine g_aload (p0 := 94) dL_read_92 rfl rfl ?_
  refine g_iload (p0 := 96) dL_read_94 rfl rfl ?_
  refine g_iload (p0 := 98) dL_read_96 rfl rfl ?_
  refine g_astX (p0 := 99) dL_read_98 (by repeat (first | assumption | refine XB.up (by omega) ?_)) ⟨rfl, by decide⟩ (by omega) rfl ?_
  refine g_aload (p0 := 101) dL_read_99 rfl rfl ?_
  refine g_iload (p0 := 103) dL_read_101 rfl rfl ?_
  refine g_iconst (p0 := 104) (v := nI 0) dL_read_103 rfl rfl ?_
  refine g_astX (p0 := 105) dL_read_104 (by repeat (first | assumption | refine XB.up (by omega) ?_)) ⟨rfl, by decide⟩ (by omega) rfl ?_
  first | refine g_iinc1 (p0 := 108) (ls2 := [_, _, _, _, _, _, _, _, _, _, _, _, _, _, _]) dL_read_105 rfl rfl rfl ?_ | refine g_iinc (p0 := 108) (ls2 := [_, _, _, _, _, _, _, _, _, _, _, _, _, _, _]) dL_read_105 rfl rfl rfl rfl ?_
  refine g_aload (p0 := 110) dL_read_108 rfl rfl ?_
  refine g_iload (p0 := 112) dL_read_110 rfl rfl ?_
  refine g_iconst (p0 := 113) (v := nI 1) dL_read_112 rfl rfl ?_
  first | ((with_reducible refine isN2 ?_); refine g_isubN (p0 := 114) dL_read_113 (by omega) rfl ?_) | refine g_isub (p0 := 114) dL_read_113 rfl ?_
  rw [show L + 1 - 1 = L by omega]
  refine g_aldX (p0 := 115) dL_read_114 (by repeat (first | assumption | refine XB.up (by omega) ?_)) ⟨rfl, by decide⟩ (by omega) (by first | assumption | ((repeat (first | exact up_hit | (apply up_nv; omega) | (apply up_mv; omega))) <;> first | assumption | rfl)) rfl ?_
  refine g_aload_n (p0 := 116) (i := 2) dL_read_115 rfl rfl rfl ?_
  refine g_iload (p0 := 118) dL_read_116 rfl rfl ?_
  refine g_aldX (p0 := 119) dL_read_118 (by repeat (first | assumption | refine XB.up (by omega) ?_)) ⟨rfl, by decide⟩ (by omega) (by first | assumption | ((repeat (first | exact up_hit | (apply up_nv; omega) | (apply up_mv; omega))) <;> first | assumption | rfl)) rfl ?_
  refine g_iconst (p0 := 120) (v := nI 2) dL_read_119 rfl rfl ?_
  first | ((with_reducible refine isN2 ?_); refine g_icmpN_le (tgt := 127) (p1 := 123) dL_read_120 rfl (by omega) (by omega) rfl (fun c_120 => by exfalso; first | omega | contradiction | exact absurd (by assumption) c_120 | (simp_all; done)) (fun c_120 => ?_)) | refine g_icmp_le (tgt := 127) (p1 := 123) dL_read_120 rfl rfl (fun c_120 => by exfalso; first | omega | contradiction | exact absurd (by assumption) c_120 | (simp_all; done)) (fun c_120 => ?_)
  refine g_iconst (p0 := 124) (v := nI 1) dL_read_123 rfl rfl ?_
  refine g_goto (tgt := 128) dL_read_124 rfl ?_
  first | ((with_reducible refine isN2 ?_); refine g_iaddN (p0 := 129) dL_read_128 rfl ?_) | refine g_iadd (p0 := 129) dL_read_128 rfl ?_
  refine g_istore (p0 := 131) (i := 13) (ls2 := [_, _, _, _, _, _, _, _, _, _, _, _, _, _, _]) dL_read_129 (Nat.le_of_ble_eq_true rfl) rfl rfl ?_
  exact next
set_option maxRecDepth 20000 in
set_option maxHeartbeats 2000000 in
theorem rd_s2z {e k L x : Nat} {last : Int32} {y z : Option AV} {σ : Sg} {Q : SP} (hB : XB σ e) (he : e + 7 ≤ 90000) (he2 : 82 ≤ e) (hk : k < 60) (hL : L < 64) (hx : σ (e + 0) k = nI x) (h1 : x = 5) (next : WM mL_read Q 131 [some (ar 79), some (ar 80), some (ar (e + 0)), some (ar (e + 1)), some (ar (e + 2)), some (ar (e + 3)), some (ar (e + 4)), some (ar (e + 5)), some (ar (e + 6)), some (ai (nI (L + 1))), some (ai (nI (0))), some (ai last), some (ai (nI k)), some (ai (nI (0 + 1))), z] [] (up (up σ (e + 5) L (nI (0))) (e + 6) L (nI 0))) : WM mL_read Q 66 [some (ar 79), some (ar 80), some (ar (e + 0)), some (ar (e + 1)), some (ar (e + 2)), some (ar (e + 3)), some (ar (e + 4)), some (ar (e + 5)), some (ar (e + 6)), some (ai (nI L)), some (ai (-1)), some (ai last), some (ai (nI k)), y, z] [] σ := by
  refine g_iload (p0 := 68) dL_read_66 rfl rfl ?_
  refine g_aload_n (p0 := 69) (i := 2) dL_read_68 rfl rfl rfl ?_
  refine g_iload (p0 := 71) dL_read_69 rfl rfl ?_
  refine g_aldX (p0 := 72) dL_read_71 (by repeat (first | assumption | refine XB.up (by omega) ?_)) ⟨rfl, by decide⟩ (by omega) (by first | assumption | ((repeat (first | exact up_hit | (apply up_nv; omega) | (apply up_mv; omega))) <;> first | assumption | rfl)) rfl ?_
  refine g_iconst (p0 := 73) (v := nI 5) dL_read_72 rfl rfl ?_
  first | ((with_reducible refine isN2 ?_); refine g_icmpN_ne (tgt := 80) (p1 := 76) dL_read_73 rfl (by omega) (by omega) rfl (fun c_73 => by exfalso; first | omega | contradiction | exact absurd (by assumption) c_73 | (simp_all; done)) (fun c_73 => ?_)) | refine g_icmp_ne (tgt := 80) (p1 := 76) dL_read_73 rfl rfl (fun c_73 => by exfalso; first | omega | contradiction | exact absurd (by assumption) c_73 | (simp_all; done)) (fun c_73 => ?_)
  refine g_iconst (p0 := 77) (v := nI 1) dL_read_76 rfl rfl ?_
  refine g_goto (tgt := 81) dL_read_77 rfl ?_
  first | ((with_reducible refine isN2 ?_); refine g_iaddN (p0 := 82) dL_read_81 rfl ?_) | refine g_iadd (p0 := 82) dL_read_81 rfl ?_
  rw [show (-1 : Int32) + nI 1 = nI 0 by decide]
  refine g_istore (p0 := 84) (i := 10) (ls2 := [_, _, _, _, _, _, _, _, _, _, _, _, _, _, _]) dL_read_82 (Nat.le_of_ble_eq_true rfl) rfl rfl ?_
  refine g_aload_n (p0 := 85) (i := 2) dL_read_84 rfl rfl rfl ?_
  refine g_iload (p0 := 87) dL_read_85 rfl rfl ?_
  refine g_aldX (p0 := 88) dL_read_87 (by repeat (first | assumption | refine XB.up (by omega) ?_)) ⟨rfl, by decide⟩ (by omega) (by first | assumption | ((repeat (first | exact up_hit | (apply up_nv; omega) | (apply up_mv; omega))) <;> first | assumption | rfl)) rfl ?_
  refine g_iconst (p0 := 89) (v := nI 3) dL_read_88 rfl rfl ?_
  first | ((with_reducible refine isN2 ?_); refine g_icmpN_le (tgt := 108) (p1 := 92) dL_read_89 rfl (by omega) (by omega) rfl (fun c_89 => by exfalso; first | omega | contradiction | exact absurd (by assumption) c_89 | (simp_all; done)) (fun c_89 => ?_)) | refine g_icmp_le (tgt := 108) (p1 := 92) dL_read_89 rfl rfl (fun c_89 => by exfalso; first | omega | contradiction | exact absurd (by assumption) c_89 | (simp_all; done)) (fun c_89 => ?_)
  refine g_aload (p0 := 94) dL_read_92 rfl rfl ?_
  refine g_iload (p0 := 96) dL_read_94 rfl rfl ?_
  refine g_iload (p0 := 98) dL_read_96 rfl rfl ?_
  refine g_astX (p0 := 99) dL_read_98 (by repeat (first | assumption | refine XB.up (by omega) ?_)) ⟨rfl, by decide⟩ (by omega) rfl ?_
  refine g_aload (p0 := 101) dL_read_99 rfl rfl ?_
  refine g_iload (p0 := 103) dL_read_101 rfl rfl ?_
  refine g_iconst (p0 := 104) (v := nI 0) dL_read_103 rfl rfl ?_
  refine g_astX (p0 := 105) dL_read_104 (by repeat (first | assumption | refine XB.up (by omega) ?_)) ⟨rfl, by decide⟩ (by omega) rfl ?_
  first | refine g_iinc1 (p0 := 108) (ls2 := [_, _, _, _, _, _, _, _, _, _, _, _, _, _, _]) dL_read_105 rfl rfl rfl ?_ | refine g_iinc (p0 := 108) (ls2 := [_, _, _, _, _, _, _, _, _, _, _, _, _, _, _]) dL_read_105 rfl rfl rfl rfl ?_
  refine g_aload (p0 := 110) dL_read_108 rfl rfl ?_
  refine g_iload (p0 := 112) dL_read_110 rfl rfl ?_
  refine g_iconst (p0 := 113) (v := nI 1) dL_read_112 rfl rfl ?_
  first | ((with_reducible refine isN2 ?_); refine g_isubN (p0 := 114) dL_read_113 (by omega) rfl ?_) | refine g_isub (p0 := 114) dL_read_113 rfl ?_
  rw [show L + 1 - 1 = L by omega]
  refine g_aldX (p0 := 115) dL_read_114 (by repeat (first | assumption | refine XB.up (by omega) ?_)) ⟨rfl, by decide⟩ (by omega) (by first | assumption | ((repeat (first | exact up_hit | (apply up_nv; omega) | (apply up_mv; omega))) <;> first | assumption | rfl)) rfl ?_
  refine g_aload_n (p0 := 116) (i := 2) dL_read_115 rfl rfl rfl ?_
  refine g_iload (p0 := 118) dL_read_116 rfl rfl ?_
  refine g_aldX (p0 := 119) dL_read_118 (by repeat (first | assumption | refine XB.up (by omega) ?_)) ⟨rfl, by decide⟩ (by omega) (by first | assumption | ((repeat (first | exact up_hit | (apply up_nv; omega) | (apply up_mv; omega))) <;> first | assumption | rfl)) rfl ?_
  refine g_iconst (p0 := 120) (v := nI 2) dL_read_119 rfl rfl ?_
  first | ((with_reducible refine isN2 ?_); refine g_icmpN_le (tgt := 127) (p1 := 123) dL_read_120 rfl (by omega) (by omega) rfl (fun c_120 => by exfalso; first | omega | contradiction | exact absurd (by assumption) c_120 | (simp_all; done)) (fun c_120 => ?_)) | refine g_icmp_le (tgt := 127) (p1 := 123) dL_read_120 rfl rfl (fun c_120 => by exfalso; first | omega | contradiction | exact absurd (by assumption) c_120 | (simp_all; done)) (fun c_120 => ?_)
  refine g_iconst (p0 := 124) (v := nI 1) dL_read_123 rfl rfl ?_
  refine g_goto (tgt := 128) dL_read_124 rfl ?_
  first | ((with_reducible refine isN2 ?_); refine g_iaddN (p0 := 129) dL_read_128 rfl ?_) | refine g_iadd (p0 := 129) dL_read_128 rfl ?_
  refine g_istore (p0 := 131) (i := 13) (ls2 := [_, _, _, _, _, _, _, _, _, _, _, _, _, _, _]) dL_read_129 (Nat.le_of_ble_eq_true rfl) rfl rfl ?_
  exact next
set_option maxRecDepth 20000 in
set_option maxHeartbeats 2000000 in
theorem rd_s3a1 {e k L I G A B x : Nat} {msg last tk : Int32} {z : Option AV} {σ : Sg} {Q : SP} (hB : XB σ e) (he : e + 7 ≤ 90000) (he2 : 82 ≤ e) (hk : k < 60) (hL : L < 64) (hL0 : 1 ≤ L) (hI : I = G + 256 * A + 65536 * B) (hG : G < 256) (hA : A < 250) (hB2 : B < 250) (hx : σ (e + 0) k = nI x) (hx5 : x ≤ 5) (ht : σ 80 k = tk) (hG1 : G = 1) (h2 : x = 2) (next : WM mL_read Q 213 [some (ar 79), some (ar 80), some (ar (e + 0)), some (ar (e + 1)), some (ar (e + 2)), some (ar (e + 3)), some (ar (e + 4)), some (ar (e + 5)), some (ar (e + 6)), some (ai (nI L)), some (ai msg), some (ai tk), some (ai (nI k)), some (ai (nI (I + 2 * 2 ^ 8))), some (ai (nI G))] [] (up (up (up (up σ (e + 6) (L - 1) (nI (I + 2 * 2 ^ 8))) (e + 2) k msg) (e + 3) k (nI (L - 1))) (e + 4) k (nI (G - 1)))) : WM mL_read Q 131 [some (ar 79), some (ar 80), some (ar (e + 0)), some (ar (e + 1)), some (ar (e + 2)), some (ar (e + 3)), some (ar (e + 4)), some (ar (e + 5)), some (ar (e + 6)), some (ai (nI L)), some (ai msg), some (ai last), some (ai (nI k)), some (ai (nI I)), z] [] σ := by
  refine g_iload (p0 := 133) dL_read_131 rfl rfl ?_
  refine g_sipush (p0 := 136) (v := nI 255) dL_read_133 (by decide) rfl ?_
  refine g_iand (p0 := 137) dL_read_136 rfl ?_
  rw [pk_andN (by omega) 8 (by decide), show I % 2 ^ 8 = G by omega]
  refine g_istore (p0 := 139) (i := 14) (ls2 := [_, _, _, _, _, _, _, _, _, _, _, _, _, _, _]) dL_read_137 (Nat.le_of_ble_eq_true rfl) rfl rfl ?_
  refine g_iload (p0 := 141) dL_read_139 rfl rfl ?_
  refine g_iload (p0 := 143) dL_read_141 rfl rfl ?_
  refine g_iconst (p0 := 144) (v := nI 2) dL_read_143 rfl rfl ?_
  first | ((with_reducible refine isN2 ?_); refine g_icmpN_le (tgt := 151) (p1 := 147) dL_read_144 rfl (by omega) (by omega) rfl (fun c_144 => ?_) (fun c_144 => by exfalso; first | omega | contradiction | exact absurd (by assumption) c_144 | (simp_all; done))) | refine g_icmp_le (tgt := 151) (p1 := 147) dL_read_144 rfl rfl (fun c_144 => ?_) (fun c_144 => by exfalso; first | omega | contradiction | exact absurd (by assumption) c_144 | (simp_all; done))
  refine g_aload_n (p0 := 152) (i := 2) dL_read_151 rfl rfl rfl ?_
  refine g_iload (p0 := 154) dL_read_152 rfl rfl ?_
  refine g_aldX (p0 := 155) dL_read_154 (by repeat (first | assumption | refine XB.up (by omega) ?_)) ⟨rfl, by decide⟩ (by omega) (by first | assumption | ((repeat (first | exact up_hit | (apply up_nv; omega) | (apply up_mv; omega))) <;> first | assumption | rfl)) rfl ?_
  refine g_iconst (p0 := 156) (v := nI 2) dL_read_155 rfl rfl ?_
  first | ((with_reducible refine isN2 ?_); refine g_icmpN_ne (tgt := 163) (p1 := 159) dL_read_156 rfl (by omega) (by omega) rfl (fun c_156 => by exfalso; first | omega | contradiction | exact absurd (by assumption) c_156 | (simp_all; done)) (fun c_156 => ?_)) | refine g_icmp_ne (tgt := 163) (p1 := 159) dL_read_156 rfl rfl (fun c_156 => by exfalso; first | omega | contradiction | exact absurd (by assumption) c_156 | (simp_all; done)) (fun c_156 => ?_)
  refine g_iconst (p0 := 160) (v := nI 2) dL_read_159 rfl rfl ?_
  refine g_goto (tgt := 164) dL_read_160 rfl ?_
  refine g_bipush (p0 := 166) (v := nI 8) dL_read_164 (by decide) rfl ?_
  refine g_iload (p0 := 168) dL_read_166 rfl rfl ?_
  first | ((with_reducible refine isN2 ?_); refine g_imulN (p0 := 169) dL_read_168 rfl ?_) | refine g_imul (p0 := 169) dL_read_168 rfl ?_
  rw [hG1]
  refine g_ishl (p0 := 170) dL_read_169 rfl ?_
  rw [pk_shlN (nI (8 * 1) &&& 31) 8 (by decide) (by decide)]
  first | ((with_reducible refine isN2 ?_); refine g_iaddN (p0 := 171) dL_read_170 rfl ?_) | refine g_iadd (p0 := 171) dL_read_170 rfl ?_
  refine g_istore (p0 := 173) (i := 13) (ls2 := [_, _, _, _, _, _, _, _, _, _, _, _, _, _, _]) dL_read_171 (Nat.le_of_ble_eq_true rfl) rfl rfl ?_
  refine g_aload (p0 := 175) dL_read_173 rfl rfl ?_
  refine g_iload (p0 := 177) dL_read_175 rfl rfl ?_
  refine g_iconst (p0 := 178) (v := nI 1) dL_read_177 rfl rfl ?_
  first | ((with_reducible refine isN2 ?_); refine g_isubN (p0 := 179) dL_read_178 (by omega) rfl ?_) | refine g_isub (p0 := 179) dL_read_178 rfl ?_
  refine g_iload (p0 := 181) dL_read_179 rfl rfl ?_
  refine g_astX (p0 := 182) dL_read_181 (by repeat (first | assumption | refine XB.up (by omega) ?_)) ⟨rfl, by decide⟩ (by omega) rfl ?_
  refine g_aload (p0 := 184) dL_read_182 rfl rfl ?_
  refine g_iload (p0 := 186) dL_read_184 rfl rfl ?_
  refine g_iload (p0 := 188) dL_read_186 rfl rfl ?_
  refine g_astX (p0 := 189) dL_read_188 (by repeat (first | assumption | refine XB.up (by omega) ?_)) ⟨rfl, by decide⟩ (by omega) rfl ?_
  refine g_aload (p0 := 191) dL_read_189 rfl rfl ?_
  refine g_iload (p0 := 193) dL_read_191 rfl rfl ?_
  refine g_iload (p0 := 195) dL_read_193 rfl rfl ?_
  refine g_iconst (p0 := 196) (v := nI 1) dL_read_195 rfl rfl ?_
  first | ((with_reducible refine isN2 ?_); refine g_isubN (p0 := 197) dL_read_196 (by omega) rfl ?_) | refine g_isub (p0 := 197) dL_read_196 rfl ?_
  refine g_astX (p0 := 198) dL_read_197 (by repeat (first | assumption | refine XB.up (by omega) ?_)) ⟨rfl, by decide⟩ (by omega) rfl ?_
  refine g_aload (p0 := 200) dL_read_198 rfl rfl ?_
  refine g_iload (p0 := 202) dL_read_200 rfl rfl ?_
  refine g_iload (p0 := 204) dL_read_202 rfl rfl ?_
  refine g_iconst (p0 := 205) (v := nI 1) dL_read_204 rfl rfl ?_
  first | ((with_reducible refine isN2 ?_); refine g_isubN (p0 := 206) dL_read_205 (by omega) rfl ?_) | refine g_isub (p0 := 206) dL_read_205 rfl ?_
  refine g_astX (p0 := 207) dL_read_206 (by repeat (first | assumption | refine XB.up (by omega) ?_)) ⟨rfl, by decide⟩ (by omega) rfl ?_
  refine g_aload_n (p0 := 208) (i := 1) dL_read_207 rfl rfl rfl ?_
  refine g_iload (p0 := 210) dL_read_208 rfl rfl ?_
  first | ((with_reducible refine isN1 ?_); refine g_aldN (p0 := 211) dL_read_210 (by first | rfl | assumption | exact RW.s (by assumption) | exact TW.s (by assumption)) (by first | decide | assumption) (by omega) (by first | assumption | ((repeat (first | exact up_hit | (apply up_nv; omega) | (apply up_mv; omega))) <;> first | assumption | rfl)) rfl ?_) | refine g_ald (p0 := 211) dL_read_210 (by first | rfl | assumption | exact RW.s (by assumption) | exact TW.s (by assumption)) (by assumption) (by first | assumption | ((repeat (first | exact up_hit | (apply up_nv; omega) | (apply up_mv; omega))) <;> first | assumption | rfl)) rfl ?_
  refine g_istore (p0 := 213) (i := 11) (ls2 := [_, _, _, _, _, _, _, _, _, _, _, _, _, _, _]) dL_read_211 (Nat.le_of_ble_eq_true rfl) rfl rfl ?_
  rw [hG1] at next
  exact next
set_option maxRecDepth 20000 in
set_option maxHeartbeats 2000000 in
theorem rd_s3a2 {e k L I G A B x : Nat} {msg last tk : Int32} {z : Option AV} {σ : Sg} {Q : SP} (hB : XB σ e) (he : e + 7 ≤ 90000) (he2 : 82 ≤ e) (hk : k < 60) (hL : L < 64) (hL0 : 1 ≤ L) (hI : I = G + 256 * A + 65536 * B) (hG : G < 256) (hA : A < 250) (hB2 : B < 250) (hx : σ (e + 0) k = nI x) (hx5 : x ≤ 5) (ht : σ 80 k = tk) (hG1 : G = 1) (h2 : ¬ x = 2) (next : WM mL_read Q 213 [some (ar 79), some (ar 80), some (ar (e + 0)), some (ar (e + 1)), some (ar (e + 2)), some (ar (e + 3)), some (ar (e + 4)), some (ar (e + 5)), some (ar (e + 6)), some (ai (nI L)), some (ai msg), some (ai tk), some (ai (nI k)), some (ai (nI (I + 1 * 2 ^ 8))), some (ai (nI G))] [] (up (up (up (up σ (e + 6) (L - 1) (nI (I + 1 * 2 ^ 8))) (e + 2) k msg) (e + 3) k (nI (L - 1))) (e + 4) k (nI (G - 1)))) : WM mL_read Q 131 [some (ar 79), some (ar 80), some (ar (e + 0)), some (ar (e + 1)), some (ar (e + 2)), some (ar (e + 3)), some (ar (e + 4)), some (ar (e + 5)), some (ar (e + 6)), some (ai (nI L)), some (ai msg), some (ai last), some (ai (nI k)), some (ai (nI I)), z] [] σ := by
  refine g_iload (p0 := 133) dL_read_131 rfl rfl ?_
  refine g_sipush (p0 := 136) (v := nI 255) dL_read_133 (by decide) rfl ?_
  refine g_iand (p0 := 137) dL_read_136 rfl ?_
  rw [pk_andN (by omega) 8 (by decide), show I % 2 ^ 8 = G by omega]
  refine g_istore (p0 := 139) (i := 14) (ls2 := [_, _, _, _, _, _, _, _, _, _, _, _, _, _, _]) dL_read_137 (Nat.le_of_ble_eq_true rfl) rfl rfl ?_
  refine g_iload (p0 := 141) dL_read_139 rfl rfl ?_
  refine g_iload (p0 := 143) dL_read_141 rfl rfl ?_
  refine g_iconst (p0 := 144) (v := nI 2) dL_read_143 rfl rfl ?_
  first | ((with_reducible refine isN2 ?_); refine g_icmpN_le (tgt := 151) (p1 := 147) dL_read_144 rfl (by omega) (by omega) rfl (fun c_144 => ?_) (fun c_144 => by exfalso; first | omega | contradiction | exact absurd (by assumption) c_144 | (simp_all; done))) | refine g_icmp_le (tgt := 151) (p1 := 147) dL_read_144 rfl rfl (fun c_144 => ?_) (fun c_144 => by exfalso; first | omega | contradiction | exact absurd (by assumption) c_144 | (simp_all; done))
  refine g_aload_n (p0 := 152) (i := 2) dL_read_151 rfl rfl rfl ?_
  refine g_iload (p0 := 154) dL_read_152 rfl rfl ?_
  refine g_aldX (p0 := 155) dL_read_154 (by repeat (first | assumption | refine XB.up (by omega) ?_)) ⟨rfl, by decide⟩ (by omega) (by first | assumption | ((repeat (first | exact up_hit | (apply up_nv; omega) | (apply up_mv; omega))) <;> first | assumption | rfl)) rfl ?_
  refine g_iconst (p0 := 156) (v := nI 2) dL_read_155 rfl rfl ?_
  first | ((with_reducible refine isN2 ?_); refine g_icmpN_ne (tgt := 163) (p1 := 159) dL_read_156 rfl (by omega) (by omega) rfl (fun c_156 => ?_) (fun c_156 => by exfalso; first | omega | contradiction | exact absurd (by assumption) c_156 | (simp_all; done))) | refine g_icmp_ne (tgt := 163) (p1 := 159) dL_read_156 rfl rfl (fun c_156 => ?_) (fun c_156 => by exfalso; first | omega | contradiction | exact absurd (by assumption) c_156 | (simp_all; done))
  refine g_iconst (p0 := 164) (v := nI 1) dL_read_163 rfl rfl ?_
  refine g_bipush (p0 := 166) (v := nI 8) dL_read_164 (by decide) rfl ?_
  refine g_iload (p0 := 168) dL_read_166 rfl rfl ?_
  first | ((with_reducible refine isN2 ?_); refine g_imulN (p0 := 169) dL_read_168 rfl ?_) | refine g_imul (p0 := 169) dL_read_168 rfl ?_
  rw [hG1]
  refine g_ishl (p0 := 170) dL_read_169 rfl ?_
  rw [pk_shlN (nI (8 * 1) &&& 31) 8 (by decide) (by decide)]
  first | ((with_reducible refine isN2 ?_); refine g_iaddN (p0 := 171) dL_read_170 rfl ?_) | refine g_iadd (p0 := 171) dL_read_170 rfl ?_
  refine g_istore (p0 := 173) (i := 13) (ls2 := [_, _, _, _, _, _, _, _, _, _, _, _, _, _, _]) dL_read_171 (Nat.le_of_ble_eq_true rfl) rfl rfl ?_
  refine g_aload (p0 := 175) dL_read_173 rfl rfl ?_
  refine g_iload (p0 := 177) dL_read_175 rfl rfl ?_
  refine g_iconst (p0 := 178) (v := nI 1) dL_read_177 rfl rfl ?_
  first | ((with_reducible refine isN2 ?_); refine g_isubN (p0 := 179) dL_read_178 (by omega) rfl ?_) | refine g_isub (p0 := 179) dL_read_178 rfl ?_
  refine g_iload (p0 := 181) dL_read_179 rfl rfl ?_
  refine g_astX (p0 := 182) dL_read_181 (by repeat (first | assumption | refine XB.up (by omega) ?_)) ⟨rfl, by decide⟩ (by omega) rfl ?_
  refine g_aload (p0 := 184) dL_read_182 rfl rfl ?_
  refine g_iload (p0 := 186) dL_read_184 rfl rfl ?_
  refine g_iload (p0 := 188) dL_read_186 rfl rfl ?_
  refine g_astX (p0 := 189) dL_read_188 (by repeat (first | assumption | refine XB.up (by omega) ?_)) ⟨rfl, by decide⟩ (by omega) rfl ?_
  refine g_aload (p0 := 191) dL_read_189 rfl rfl ?_
  refine g_iload (p0 := 193) dL_read_191 rfl rfl ?_
  refine g_iload (p0 := 195) dL_read_193 rfl rfl ?_
  refine g_iconst (p0 := 196) (v := nI 1) dL_read_195 rfl rfl ?_
  first | ((with_reducible refine isN2 ?_); refine g_isubN (p0 := 197) dL_read_196 (by omega) rfl ?_) | refine g_isub (p0 := 197) dL_read_196 rfl ?_
  refine g_astX (p0 := 198) dL_read_197 (by repeat (first | assumption | refine XB.up (by omega) ?_)) ⟨rfl, by decide⟩ (by omega) rfl ?_
  refine g_aload (p0 := 200) dL_read_198 rfl rfl ?_
  refine g_iload (p0 := 202) dL_read_200 rfl rfl ?_
  refine g_iload (p0 := 204) dL_read_202 rfl rfl ?_
  refine g_iconst (p0 := 205) (v := nI 1) dL_read_204 rfl rfl ?_
  first | ((with_reducible refine isN2 ?_); refine g_isubN (p0 := 206) dL_read_205 (by omega) rfl ?_) | refine g_isub (p0 := 206) dL_read_205 rfl ?_
  refine g_astX (p0 := 207) dL_read_206 (by repeat (first | assumption | refine XB.up (by omega) ?_)) ⟨rfl, by decide⟩ (by omega) rfl ?_
  refine g_aload_n (p0 := 208) (i := 1) dL_read_207 rfl rfl rfl ?_
  refine g_iload (p0 := 210) dL_read_208 rfl rfl ?_
  first | ((with_reducible refine isN1 ?_); refine g_aldN (p0 := 211) dL_read_210 (by first | rfl | assumption | exact RW.s (by assumption) | exact TW.s (by assumption)) (by first | decide | assumption) (by omega) (by first | assumption | ((repeat (first | exact up_hit | (apply up_nv; omega) | (apply up_mv; omega))) <;> first | assumption | rfl)) rfl ?_) | refine g_ald (p0 := 211) dL_read_210 (by first | rfl | assumption | exact RW.s (by assumption) | exact TW.s (by assumption)) (by assumption) (by first | assumption | ((repeat (first | exact up_hit | (apply up_nv; omega) | (apply up_mv; omega))) <;> first | assumption | rfl)) rfl ?_
  refine g_istore (p0 := 213) (i := 11) (ls2 := [_, _, _, _, _, _, _, _, _, _, _, _, _, _, _]) dL_read_211 (Nat.le_of_ble_eq_true rfl) rfl rfl ?_
  rw [hG1] at next
  exact next
set_option maxRecDepth 20000 in
set_option maxHeartbeats 2000000 in
theorem rd_s3b1 {e k L I G A B x : Nat} {msg last tk : Int32} {z : Option AV} {σ : Sg} {Q : SP} (hB : XB σ e) (he : e + 7 ≤ 90000) (he2 : 82 ≤ e) (hk : k < 60) (hL : L < 64) (hL0 : 1 ≤ L) (hI : I = G + 256 * A + 65536 * B) (hG : G < 256) (hA : A < 250) (hB2 : B < 250) (hx : σ (e + 0) k = nI x) (hx5 : x ≤ 5) (ht : σ 80 k = tk) (hG1 : G = 2) (h2 : x = 2) (next : WM mL_read Q 213 [some (ar 79), some (ar 80), some (ar (e + 0)), some (ar (e + 1)), some (ar (e + 2)), some (ar (e + 3)), some (ar (e + 4)), some (ar (e + 5)), some (ar (e + 6)), some (ai (nI L)), some (ai msg), some (ai tk), some (ai (nI k)), some (ai (nI (I + 2 * 2 ^ 16))), some (ai (nI G))] [] (up (up (up (up σ (e + 6) (L - 1) (nI (I + 2 * 2 ^ 16))) (e + 2) k msg) (e + 3) k (nI (L - 1))) (e + 4) k (nI (G - 1)))) : WM mL_read Q 131 [some (ar 79), some (ar 80), some (ar (e + 0)), some (ar (e + 1)), some (ar (e + 2)), some (ar (e + 3)), some (ar (e + 4)), some (ar (e + 5)), some (ar (e + 6)), some (ai (nI L)), some (ai msg), some (ai last), some (ai (nI k)), some (ai (nI I)), z] [] σ := by
  refine g_iload (p0 := 133) dL_read_131 rfl rfl ?_
  refine g_sipush (p0 := 136) (v := nI 255) dL_read_133 (by decide) rfl ?_
  refine g_iand (p0 := 137) dL_read_136 rfl ?_
  rw [pk_andN (by omega) 8 (by decide), show I % 2 ^ 8 = G by omega]
  refine g_istore (p0 := 139) (i := 14) (ls2 := [_, _, _, _, _, _, _, _, _, _, _, _, _, _, _]) dL_read_137 (Nat.le_of_ble_eq_true rfl) rfl rfl ?_
  refine g_iload (p0 := 141) dL_read_139 rfl rfl ?_
  refine g_iload (p0 := 143) dL_read_141 rfl rfl ?_
  refine g_iconst (p0 := 144) (v := nI 2) dL_read_143 rfl rfl ?_
  first | ((with_reducible refine isN2 ?_); refine g_icmpN_le (tgt := 151) (p1 := 147) dL_read_144 rfl (by omega) (by omega) rfl (fun c_144 => ?_) (fun c_144 => by exfalso; first | omega | contradiction | exact absurd (by assumption) c_144 | (simp_all; done))) | refine g_icmp_le (tgt := 151) (p1 := 147) dL_read_144 rfl rfl (fun c_144 => ?_) (fun c_144 => by exfalso; first | omega | contradiction | exact absurd (by assumption) c_144 | (simp_all; done))
  refine g_aload_n (p0 := 152) (i := 2) dL_read_151 rfl rfl rfl ?_
  refine g_iload (p0 := 154) dL_read_152 rfl rfl ?_
  refine g_aldX (p0 := 155) dL_read_154 (by repeat (first | assumption | refine XB.up (by omega) ?_)) ⟨rfl, by decide⟩ (by omega) (by first | assumption | ((repeat (first | exact up_hit | (apply up_nv; omega) | (apply up_mv; omega))) <;> first | assumption | rfl)) rfl ?_
  refine g_iconst (p0 := 156) (v := nI 2) dL_read_155 rfl rfl ?_
  first | ((with_reducible refine isN2 ?_); refine g_icmpN_ne (tgt := 163) (p1 := 159) dL_read_156 rfl (by omega) (by omega) rfl (fun c_156 => by exfalso; first | omega | contradiction | exact absurd (by assumption) c_156 | (simp_all; done)) (fun c_156 => ?_)) | refine g_icmp_ne (tgt := 163) (p1 := 159) dL_read_156 rfl rfl (fun c_156 => by exfalso; first | omega | contradiction | exact absurd (by assumption) c_156 | (simp_all; done)) (fun c_156 => ?_)
  refine g_iconst (p0 := 160) (v := nI 2) dL_read_159 rfl rfl ?_
  refine g_goto (tgt := 164) dL_read_160 rfl ?_
  refine g_bipush (p0 := 166) (v := nI 8) dL_read_164 (by decide) rfl ?_
  refine g_iload (p0 := 168) dL_read_166 rfl rfl ?_
  first | ((with_reducible refine isN2 ?_); refine g_imulN (p0 := 169) dL_read_168 rfl ?_) | refine g_imul (p0 := 169) dL_read_168 rfl ?_
  rw [hG1]
  refine g_ishl (p0 := 170) dL_read_169 rfl ?_
  rw [pk_shlN (nI (8 * 2) &&& 31) 16 (by decide) (by decide)]
  first | ((with_reducible refine isN2 ?_); refine g_iaddN (p0 := 171) dL_read_170 rfl ?_) | refine g_iadd (p0 := 171) dL_read_170 rfl ?_
  refine g_istore (p0 := 173) (i := 13) (ls2 := [_, _, _, _, _, _, _, _, _, _, _, _, _, _, _]) dL_read_171 (Nat.le_of_ble_eq_true rfl) rfl rfl ?_
  refine g_aload (p0 := 175) dL_read_173 rfl rfl ?_
  refine g_iload (p0 := 177) dL_read_175 rfl rfl ?_
  refine g_iconst (p0 := 178) (v := nI 1) dL_read_177 rfl rfl ?_
  first | ((with_reducible refine isN2 ?_); refine g_isubN (p0 := 179) dL_read_178 (by omega) rfl ?_) | refine g_isub (p0 := 179) dL_read_178 rfl ?_
  refine g_iload (p0 := 181) dL_read_179 rfl rfl ?_
  refine g_astX (p0 := 182) dL_read_181 (by repeat (first | assumption | refine XB.up (by omega) ?_)) ⟨rfl, by decide⟩ (by omega) rfl ?_
  refine g_aload (p0 := 184) dL_read_182 rfl rfl ?_
  refine g_iload (p0 := 186) dL_read_184 rfl rfl ?_
  refine g_iload (p0 := 188) dL_read_186 rfl rfl ?_
  refine g_astX (p0 := 189) dL_read_188 (by repeat (first | assumption | refine XB.up (by omega) ?_)) ⟨rfl, by decide⟩ (by omega) rfl ?_
  refine g_aload (p0 := 191) dL_read_189 rfl rfl ?_
  refine g_iload (p0 := 193) dL_read_191 rfl rfl ?_
  refine g_iload (p0 := 195) dL_read_193 rfl rfl ?_
  refine g_iconst (p0 := 196) (v := nI 1) dL_read_195 rfl rfl ?_
  first | ((with_reducible refine isN2 ?_); refine g_isubN (p0 := 197) dL_read_196 (by omega) rfl ?_) | refine g_isub (p0 := 197) dL_read_196 rfl ?_
  refine g_astX (p0 := 198) dL_read_197 (by repeat (first | assumption | refine XB.up (by omega) ?_)) ⟨rfl, by decide⟩ (by omega) rfl ?_
  refine g_aload (p0 := 200) dL_read_198 rfl rfl ?_
  refine g_iload (p0 := 202) dL_read_200 rfl rfl ?_
  refine g_iload (p0 := 204) dL_read_202 rfl rfl ?_
  refine g_iconst (p0 := 205) (v := nI 1) dL_read_204 rfl rfl ?_
  first | ((with_reducible refine isN2 ?_); refine g_isubN (p0 := 206) dL_read_205 (by omega) rfl ?_) | refine g_isub (p0 := 206) dL_read_205 rfl ?_
  refine g_astX (p0 := 207) dL_read_206 (by repeat (first | assumption | refine XB.up (by omega) ?_)) ⟨rfl, by decide⟩ (by omega) rfl ?_
  refine g_aload_n (p0 := 208) (i := 1) dL_read_207 rfl rfl rfl ?_
  refine g_iload (p0 := 210) dL_read_208 rfl rfl ?_
  first | ((with_reducible refine isN1 ?_); refine g_aldN (p0 := 211) dL_read_210 (by first | rfl | assumption | exact RW.s (by assumption) | exact TW.s (by assumption)) (by first | decide | assumption) (by omega) (by first | assumption | ((repeat (first | exact up_hit | (apply up_nv; omega) | (apply up_mv; omega))) <;> first | assumption | rfl)) rfl ?_) | refine g_ald (p0 := 211) dL_read_210 (by first | rfl | assumption | exact RW.s (by assumption) | exact TW.s (by assumption)) (by assumption) (by first | assumption | ((repeat (first | exact up_hit | (apply up_nv; omega) | (apply up_mv; omega))) <;> first | assumption | rfl)) rfl ?_
  refine g_istore (p0 := 213) (i := 11) (ls2 := [_, _, _, _, _, _, _, _, _, _, _, _, _, _, _]) dL_read_211 (Nat.le_of_ble_eq_true rfl) rfl rfl ?_
  rw [hG1] at next
  exact next
set_option maxRecDepth 20000 in
set_option maxHeartbeats 2000000 in
theorem rd_s3b2 {e k L I G A B x : Nat} {msg last tk : Int32} {z : Option AV} {σ : Sg} {Q : SP} (hB : XB σ e) (he : e + 7 ≤ 90000) (he2 : 82 ≤ e) (hk : k < 60) (hL : L < 64) (hL0 : 1 ≤ L) (hI : I = G + 256 * A + 65536 * B) (hG : G < 256) (hA : A < 250) (hB2 : B < 250) (hx : σ (e + 0) k = nI x) (hx5 : x ≤ 5) (ht : σ 80 k = tk) (hG1 : G = 2) (h2 : ¬ x = 2) (next : WM mL_read Q 213 [some (ar 79), some (ar 80), some (ar (e + 0)), some (ar (e + 1)), some (ar (e + 2)), some (ar (e + 3)), some (ar (e + 4)), some (ar (e + 5)), some (ar (e + 6)), some (ai (nI L)), some (ai msg), some (ai tk), some (ai (nI k)), some (ai (nI (I + 1 * 2 ^ 16))), some (ai (nI G))] [] (up (up (up (up σ (e + 6) (L - 1) (nI (I + 1 * 2 ^ 16))) (e + 2) k msg) (e + 3) k (nI (L - 1))) (e + 4) k (nI (G - 1)))) : WM mL_read Q 131 [some (ar 79), some (ar 80), some (ar (e + 0)), some (ar (e + 1)), some (ar (e + 2)), some (ar (e + 3)), some (ar (e + 4)), some (ar (e + 5)), some (ar (e + 6)), some (ai (nI L)), some (ai msg), some (ai last), some (ai (nI k)), some (ai (nI I)), z] [] σ := by
  refine g_iload (p0 := 133) dL_read_131 rfl rfl ?_
  refine g_sipush (p0 := 136) (v := nI 255) dL_read_133 (by decide) rfl ?_
  refine g_iand (p0 := 137) dL_read_136 rfl ?_
  rw [pk_andN (by omega) 8 (by decide), show I % 2 ^ 8 = G by omega]
  refine g_istore (p0 := 139) (i := 14) (ls2 := [_, _, _, _, _, _, _, _, _, _, _, _, _, _, _]) dL_read_137 (Nat.le_of_ble_eq_true rfl) rfl rfl ?_
  refine g_iload (p0 := 141) dL_read_139 rfl rfl ?_
  refine g_iload (p0 := 143) dL_read_141 rfl rfl ?_
  refine g_iconst (p0 := 144) (v := nI 2) dL_read_143 rfl rfl ?_
  first | ((with_reducible refine isN2 ?_); refine g_icmpN_le (tgt := 151) (p1 := 147) dL_read_144 rfl (by omega) (by omega) rfl (fun c_144 => ?_) (fun c_144 => by exfalso; first | omega | contradiction | exact absurd (by assumption) c_144 | (simp_all; done))) | refine g_icmp_le (tgt := 151) (p1 := 147) dL_read_144 rfl rfl (fun c_144 => ?_) (fun c_144 => by exfalso; first | omega | contradiction | exact absurd (by assumption) c_144 | (simp_all; done))
  refine g_aload_n (p0 := 152) (i := 2) dL_read_151 rfl rfl rfl ?_
  refine g_iload (p0 := 154) dL_read_152 rfl rfl ?_
  refine g_aldX (p0 := 155) dL_read_154 (by repeat (first | assumption | refine XB.up (by omega) ?_)) ⟨rfl, by decide⟩ (by omega) (by first | assumption | ((repeat (first | exact up_hit | (apply up_nv; omega) | (apply up_mv; omega))) <;> first | assumption | rfl)) rfl ?_
  refine g_iconst (p0 := 156) (v := nI 2) dL_read_155 rfl rfl ?_
  first | ((with_reducible refine isN2 ?_); refine g_icmpN_ne (tgt := 163) (p1 := 159) dL_read_156 rfl (by omega) (by omega) rfl (fun c_156 => ?_) (fun c_156 => by exfalso; first | omega | contradiction | exact absurd (by assumption) c_156 | (simp_all; done))) | refine g_icmp_ne (tgt := 163) (p1 := 159) dL_read_156 rfl rfl (fun c_156 => ?_) (fun c_156 => by exfalso; first | omega | contradiction | exact absurd (by assumption) c_156 | (simp_all; done))
  refine g_iconst (p0 := 164) (v := nI 1) dL_read_163 rfl rfl ?_
  refine g_bipush (p0 := 166) (v := nI 8) dL_read_164 (by decide) rfl ?_
  refine g_iload (p0 := 168) dL_read_166 rfl rfl ?_
  first | ((with_reducible refine isN2 ?_); refine g_imulN (p0 := 169) dL_read_168 rfl ?_) | refine g_imul (p0 := 169) dL_read_168 rfl ?_
  rw [hG1]
  refine g_ishl (p0 := 170) dL_read_169 rfl ?_
  rw [pk_shlN (nI (8 * 2) &&& 31) 16 (by decide) (by decide)]
  first | ((with_reducible refine isN2 ?_); refine g_iaddN (p0 := 171) dL_read_170 rfl ?_) | refine g_iadd (p0 := 171) dL_read_170 rfl ?_
  refine g_istore (p0 := 173) (i := 13) (ls2 := [_, _, _, _, _, _, _, _, _, _, _, _, _, _, _]) dL_read_171 (Nat.le_of_ble_eq_true rfl) rfl rfl ?_
  refine g_aload (p0 := 175) dL_read_173 rfl rfl ?_
  refine g_iload (p0 := 177) dL_read_175 rfl rfl ?_
  refine g_iconst (p0 := 178) (v := nI 1) dL_read_177 rfl rfl ?_
  first | ((with_reducible refine isN2 ?_); refine g_isubN (p0 := 179) dL_read_178 (by omega) rfl ?_) | refine g_isub (p0 := 179) dL_read_178 rfl ?_
  refine g_iload (p0 := 181) dL_read_179 rfl rfl ?_
  refine g_astX (p0 := 182) dL_read_181 (by repeat (first | assumption | refine XB.up (by omega) ?_)) ⟨rfl, by decide⟩ (by omega) rfl ?_
  refine g_aload (p0 := 184) dL_read_182 rfl rfl ?_
  refine g_iload (p0 := 186) dL_read_184 rfl rfl ?_
  refine g_iload (p0 := 188) dL_read_186 rfl rfl ?_
  refine g_astX (p0 := 189) dL_read_188 (by repeat (first | assumption | refine XB.up (by omega) ?_)) ⟨rfl, by decide⟩ (by omega) rfl ?_
  refine g_aload (p0 := 191) dL_read_189 rfl rfl ?_
  refine g_iload (p0 := 193) dL_read_191 rfl rfl ?_
  refine g_iload (p0 := 195) dL_read_193 rfl rfl ?_
  refine g_iconst (p0 := 196) (v := nI 1) dL_read_195 rfl rfl ?_
  first | ((with_reducible refine isN2 ?_); refine g_isubN (p0 := 197) dL_read_196 (by omega) rfl ?_) | refine g_isub (p0 := 197) dL_read_196 rfl ?_
  refine g_astX (p0 := 198) dL_read_197 (by repeat (first | assumption | refine XB.up (by omega) ?_)) ⟨rfl, by decide⟩ (by omega) rfl ?_
  refine g_aload (p0 := 200) dL_read_198 rfl rfl ?_
  refine g_iload (p0 := 202) dL_read_200 rfl rfl ?_
  refine g_iload (p0 := 204) dL_read_202 rfl rfl ?_
  refine g_iconst (p0 := 205) (v := nI 1) dL_read_204 rfl rfl ?_
  first | ((with_reducible refine isN2 ?_); refine g_isubN (p0 := 206) dL_read_205 (by omega) rfl ?_) | refine g_isub (p0 := 206) dL_read_205 rfl ?_
  refine g_astX (p0 := 207) dL_read_206 (by repeat (first | assumption | refine XB.up (by omega) ?_)) ⟨rfl, by decide⟩ (by omega) rfl ?_
  refine g_aload_n (p0 := 208) (i := 1) dL_read_207 rfl rfl rfl ?_
  refine g_iload (p0 := 210) dL_read_208 rfl rfl ?_
  first | ((with_reducible refine isN1 ?_); refine g_aldN (p0 := 211) dL_read_210 (by first | rfl | assumption | exact RW.s (by assumption) | exact TW.s (by assumption)) (by first | decide | assumption) (by omega) (by first | assumption | ((repeat (first | exact up_hit | (apply up_nv; omega) | (apply up_mv; omega))) <;> first | assumption | rfl)) rfl ?_) | refine g_ald (p0 := 211) dL_read_210 (by first | rfl | assumption | exact RW.s (by assumption) | exact TW.s (by assumption)) (by assumption) (by first | assumption | ((repeat (first | exact up_hit | (apply up_nv; omega) | (apply up_mv; omega))) <;> first | assumption | rfl)) rfl ?_
  refine g_istore (p0 := 213) (i := 11) (ls2 := [_, _, _, _, _, _, _, _, _, _, _, _, _, _, _]) dL_read_211 (Nat.le_of_ble_eq_true rfl) rfl rfl ?_
  rw [hG1] at next
  exact next
set_option maxRecDepth 20000 in
set_option maxHeartbeats 2000000 in
theorem rd_s3c {e k L I G A B x : Nat} {msg last tk : Int32} {z : Option AV} {σ : Sg} {Q : SP} (hB : XB σ e) (he : e + 7 ≤ 90000) (he2 : 82 ≤ e) (hk : k < 60) (hL : L < 64) (hL0 : 1 ≤ L) (hI : I = G + 256 * A + 65536 * B) (hG : G < 256) (hA : A < 250) (hB2 : B < 250) (hx : σ (e + 0) k = nI x) (hx5 : x ≤ 5) (ht : σ 80 k = tk) (hG1 : 3 ≤ G) (next : WM mL_read Q 213 [some (ar 79), some (ar 80), some (ar (e + 0)), some (ar (e + 1)), some (ar (e + 2)), some (ar (e + 3)), some (ar (e + 4)), some (ar (e + 5)), some (ar (e + 6)), some (ai (nI L)), some (ai msg), some (ai tk), some (ai (nI k)), some (ai (nI (I + 0))), some (ai (nI G))] [] (up (up (up (up σ (e + 6) (L - 1) (nI (I + 0))) (e + 2) k msg) (e + 3) k (nI (L - 1))) (e + 4) k (nI (G - 1)))) : WM mL_read Q 131 [some (ar 79), some (ar 80), some (ar (e + 0)), some (ar (e + 1)), some (ar (e + 2)), some (ar (e + 3)), some (ar (e + 4)), some (ar (e + 5)), some (ar (e + 6)), some (ai (nI L)), some (ai msg), some (ai last), some (ai (nI k)), some (ai (nI I)), z] [] σ := by
  refine g_iload (p0 := 133) dL_read_131 rfl rfl ?_
  refine g_sipush (p0 := 136) (v := nI 255) dL_read_133 (by decide) rfl ?_
  refine g_iand (p0 := 137) dL_read_136 rfl ?_
  rw [pk_andN (by omega) 8 (by decide), show I % 2 ^ 8 = G by omega]
  refine g_istore (p0 := 139) (i := 14) (ls2 := [_, _, _, _, _, _, _, _, _, _, _, _, _, _, _]) dL_read_137 (Nat.le_of_ble_eq_true rfl) rfl rfl ?_
  refine g_iload (p0 := 141) dL_read_139 rfl rfl ?_
  refine g_iload (p0 := 143) dL_read_141 rfl rfl ?_
  refine g_iconst (p0 := 144) (v := nI 2) dL_read_143 rfl rfl ?_
  first | ((with_reducible refine isN2 ?_); refine g_icmpN_le (tgt := 151) (p1 := 147) dL_read_144 rfl (by omega) (by omega) rfl (fun c_144 => by exfalso; first | omega | contradiction | exact absurd (by assumption) c_144 | (simp_all; done)) (fun c_144 => ?_)) | refine g_icmp_le (tgt := 151) (p1 := 147) dL_read_144 rfl rfl (fun c_144 => by exfalso; first | omega | contradiction | exact absurd (by assumption) c_144 | (simp_all; done)) (fun c_144 => ?_)
  refine g_iconst (p0 := 148) (v := nI 0) dL_read_147 rfl rfl ?_
  refine g_goto (tgt := 170) dL_read_148 rfl ?_
  first | ((with_reducible refine isN2 ?_); refine g_iaddN (p0 := 171) dL_read_170 rfl ?_) | refine g_iadd (p0 := 171) dL_read_170 rfl ?_
  refine g_istore (p0 := 173) (i := 13) (ls2 := [_, _, _, _, _, _, _, _, _, _, _, _, _, _, _]) dL_read_171 (Nat.le_of_ble_eq_true rfl) rfl rfl ?_
  refine g_aload (p0 := 175) dL_read_173 rfl rfl ?_
  refine g_iload (p0 := 177) dL_read_175 rfl rfl ?_
  refine g_iconst (p0 := 178) (v := nI 1) dL_read_177 rfl rfl ?_
  first | ((with_reducible refine isN2 ?_); refine g_isubN (p0 := 179) dL_read_178 (by omega) rfl ?_) | refine g_isub (p0 := 179) dL_read_178 rfl ?_
  refine g_iload (p0 := 181) dL_read_179 rfl rfl ?_
  refine g_astX (p0 := 182) dL_read_181 (by repeat (first | assumption | refine XB.up (by omega) ?_)) ⟨rfl, by decide⟩ (by omega) rfl ?_
  refine g_aload (p0 := 184) dL_read_182 rfl rfl ?_
  refine g_iload (p0 := 186) dL_read_184 rfl rfl ?_
  refine g_iload (p0 := 188) dL_read_186 rfl rfl ?_
  refine g_astX (p0 := 189) dL_read_188 (by repeat (first | assumption | refine XB.up (by omega) ?_)) ⟨rfl, by decide⟩ (by omega) rfl ?_
  refine g_aload (p0 := 191) dL_read_189 rfl rfl ?_
  refine g_iload (p0 := 193) dL_read_191 rfl rfl ?_
  refine g_iload (p0 := 195) dL_read_193 rfl rfl ?_
  refine g_iconst (p0 := 196) (v := nI 1) dL_read_195 rfl rfl ?_
  first | ((with_reducible refine isN2 ?_); refine g_isubN (p0 := 197) dL_read_196 (by omega) rfl ?_) | refine g_isub (p0 := 197) dL_read_196 rfl ?_
  refine g_astX (p0 := 198) dL_read_197 (by repeat (first | assumption | refine XB.up (by omega) ?_)) ⟨rfl, by decide⟩ (by omega) rfl ?_
  refine g_aload (p0 := 200) dL_read_198 rfl rfl ?_
  refine g_iload (p0 := 202) dL_read_200 rfl rfl ?_
  refine g_iload (p0 := 204) dL_read_202 rfl rfl ?_
  refine g_iconst (p0 := 205) (v := nI 1) dL_read_204 rfl rfl ?_
  first | ((with_reducible refine isN2 ?_); refine g_isubN (p0 := 206) dL_read_205 (by omega) rfl ?_) | refine g_isub (p0 := 206) dL_read_205 rfl ?_
  refine g_astX (p0 := 207) dL_read_206 (by repeat (first | assumption | refine XB.up (by omega) ?_)) ⟨rfl, by decide⟩ (by omega) rfl ?_
  refine g_aload_n (p0 := 208) (i := 1) dL_read_207 rfl rfl rfl ?_
  refine g_iload (p0 := 210) dL_read_208 rfl rfl ?_
  first | ((with_reducible refine isN1 ?_); refine g_aldN (p0 := 211) dL_read_210 (by first | rfl | assumption | exact RW.s (by assumption) | exact TW.s (by assumption)) (by first | decide | assumption) (by omega) (by first | assumption | ((repeat (first | exact up_hit | (apply up_nv; omega) | (apply up_mv; omega))) <;> first | assumption | rfl)) rfl ?_) | refine g_ald (p0 := 211) dL_read_210 (by first | rfl | assumption | exact RW.s (by assumption) | exact TW.s (by assumption)) (by assumption) (by first | assumption | ((repeat (first | exact up_hit | (apply up_nv; omega) | (apply up_mv; omega))) <;> first | assumption | rfl)) rfl ?_
  refine g_istore (p0 := 213) (i := 11) (ls2 := [_, _, _, _, _, _, _, _, _, _, _, _, _, _, _]) dL_read_211 (Nat.le_of_ble_eq_true rfl) rfl rfl ?_
  exact next
theorem lastF_1 {τ : Nat → Int32} {bt : Int32} {k : Nat} (h0 : 0 < k) (h : kaF τ bt k = 0) : lastF τ bt (k + 1) = lastF τ bt k := by
  rw [kaF, if_neg (by omega), gpF] at h
  rw [lastF, if_neg (by omega), if_pos h]
theorem lastF_2 {τ : Nat → Int32} {bt : Int32} {k : Nat} (h : kaF τ bt k ≠ 0) : lastF τ bt (k + 1) = τ k := by
  rw [lastF]
  by_cases h0 : k = 0
  · rw [if_pos h0, h0]
  · rw [if_neg h0]
    rw [kaF, if_neg h0, gpF] at h
    rw [if_neg h]
