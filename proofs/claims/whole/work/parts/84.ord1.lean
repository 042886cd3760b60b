/-! ORDERS: the class, on the rehearsal tower -/
def TC (σ : Sg) (T : Nat → Nat) (len : Nat) : Prop := σ 76 1 = nI len ∧ ∀ i, i < len → σ 78 i = nI (T i)
def TR (σ : Sg) (T : Nat → Nat) (len : Nat) : Prop := σ 79 5 = nI len ∧ ∀ i, i < len → σ 83 i = nI (T i)
def TOK (T : Nat → Nat) (len : Nat) : Prop := len ≤ 60 ∧ ∀ i, i < len → 32 ≤ T i ∧ T i ≤ 126
/-- letters from behind p up to e -/
def LET (T : Nat → Nat) (p e : Nat) : Prop := p + 1 < e ∧ ∀ i, p < i → i < e → 97 ≤ T i ∧ T i ≤ 121
/-- a number there -/
def NUM (T : Nat → Nat) (p e : Nat) : Prop := p + 1 < e ∧ e ≤ p + 5 ∧ ∀ i, p < i → i < e → 48 ≤ T i ∧ T i ≤ 57
def numV (T : Nat → Nat) (p : Nat) : Nat → Nat
  | 0 => 0
  | k + 1 => 10 * numV T p k + (T (p + 1 + k) - 48)
theorem numV_lt {T : Nat → Nat} {p : Nat} : ∀ k, (∀ i, p < i → i < p + 1 + k → 48 ≤ T i ∧ T i ≤ 57) → numV T p k < 10 ^ k
  | 0, _ => by rw [numV]; decide
  | k + 1, h => by
    have h1 := numV_lt k (fun i h1 h2 => h i h1 (by omega))
    have h2 := h (p + 1 + k) (by omega) (by omega)
    rw [numV, Nat.pow_succ]
    omega
theorem numV_4 {T : Nat → Nat} {p k : Nat} (hk : k ≤ 4) (h : ∀ i, p < i → i < p + 1 + k → 48 ≤ T i ∧ T i ≤ 57) : numV T p k ≤ 9999 := by
  have h1 := numV_lt k h
  have h2 : (10 : Nat) ^ k ≤ 10 ^ 4 := Nat.pow_le_pow_right (by decide) hk
  have h3 : (10 : Nat) ^ 4 = 10000 := by decide
  omega
theorem Rep.of6 {σ σ' : Sg} {ρ : Nat → Int32} {s : Nat} (h : Rep σ 6 ρ s) (h0 : σ' 6 = σ 6) (h2 : σ' 8 = σ 8) (h4 : σ' 10 = σ 10) : Rep σ' 6 ρ s := h.of_eq h0 h2 h4
abbrev remG (σ : Sg) (t s p : Nat) : Sg := setR (setR σ (t + 2) (remR (σ (t + 2)) s p)) t (upd (σ t) 2 (nI (s - 1)))
theorem remG_t {σ : Sg} {t s p : Nat} : remG σ t s p t = upd (σ t) 2 (nI (s - 1)) := setR_hit
theorem remG_2 {σ : Sg} {t s p : Nat} : remG σ t s p (t + 2) = remR (σ (t + 2)) s p := (setR_ne (by omega)).trans setR_hit
theorem remG_ne {σ : Sg} {t s p : Nat} {z : Nat} (h1 : z ≠ t) (h3 : z ≠ t + 2) : remG σ t s p z = σ z := (setR_ne h1).trans (setR_ne h3)
theorem Rep_remG {σ1 : Sg} {ρ : Nat → Int32} {t s p : Nat} (h : Rep σ1 t ρ s) (hp : p < s) : Rep (remG σ1 t s p) t (REM ρ s p) (s - 1) := by
  obtain ⟨b1, b2, b3, b4, b5, b6⟩ := h
  have b6 : ∀ q, q < s → σ1 (t + 2) q = tm ρ q := b6
  refine ⟨by rw [remG_t, upd_hit], by rw [remG_t, upd_ne (by decide), REM_lo (by decide) (by decide)]; exact b2, by rw [remG_t, upd_ne (by decide), REM_lo (by decide) (by decide)]; exact b3, by rw [remG_t, upd_ne (by decide), REM_lo (by decide) (by decide)]; exact b4, fun l hl => by rw [remG_ne (by omega) (by omega), REM_lo (by omega) (by omega)]; exact b5 l hl, fun q hq => ?_⟩
  rw [remG_2, REM_hi, remR, remR]
  by_cases h2 : p ≤ q ∧ q + 1 < s
  · rw [if_pos h2, if_pos h2]; exact b6 _ (by omega)
  · rw [if_neg h2, if_neg h2]; exact b6 _ (by omega)
abbrev insG (σ : Sg) (t s : Nat) (x : Int32) : Sg := setR (setR σ (t + 2) (insR (σ (t + 2)) s (ah (σ (t + 2)) s x) x)) t (upd (σ t) 2 (nI (s + 1)))
theorem insG_t {σ : Sg} {t s : Nat} {x : Int32} : insG σ t s x t = upd (σ t) 2 (nI (s + 1)) := setR_hit
theorem insG_2 {σ : Sg} {t s : Nat} {x : Int32} : insG σ t s x (t + 2) = insR (σ (t + 2)) s (ah (σ (t + 2)) s x) x := (setR_ne (by omega)).trans setR_hit
theorem insG_ne {σ : Sg} {t s : Nat} {x : Int32} {z : Nat} (h1 : z ≠ t) (h3 : z ≠ t + 2) : insG σ t s x z = σ z := (setR_ne h1).trans (setR_ne h3)
theorem Rep_insG {σ1 : Sg} {ρ : Nat → Int32} {t s : Nat} {x : Int32} (h : Rep σ1 t ρ s) : Rep (insG σ1 t s x) t (INS ρ s x) (s + 1) := by
  obtain ⟨b1, b2, b3, b4, b5, b6⟩ := h
  have b6 : ∀ q, q < s → σ1 (t + 2) q = tm ρ q := b6
  have ea : ah (σ1 (t + 2)) s x = ah (tm ρ) s x := ah_congr b6
  have ha := ah_le (tm ρ) s x
  refine ⟨by rw [insG_t, upd_hit], by rw [insG_t, upd_ne (by decide), INS_lo (by decide) (by decide)]; exact b2, by rw [insG_t, upd_ne (by decide), INS_lo (by decide) (by decide)]; exact b3, by rw [insG_t, upd_ne (by decide), INS_lo (by decide) (by decide)]; exact b4, fun l hl => by rw [insG_ne (by omega) (by omega), INS_lo (by omega) (by omega)]; exact b5 l hl, fun q hq => ?_⟩
  rw [insG_2, INS_hi, ea, insR, insR]
  by_cases h1 : q < ah (tm ρ) s x
  · rw [if_pos h1, if_pos h1]; exact b6 _ (by omega)
  · rw [if_neg h1, if_neg h1]
    by_cases h2 : q = ah (tm ρ) s x
    · rw [if_pos h2, if_pos h2]
    · rw [if_neg h2, if_neg h2, if_pos (by omega), if_pos (by omega)]
      exact b6 _ (by omega)
theorem Rep_ringG {σ1 : Sg} {ρ : Nat → Int32} {t s c : Nat} (h : Rep σ1 t ρ s) : Rep (ringS σ1 t s c) t (ringP ρ s c) (s + mor c) := by
  obtain ⟨b1, b2, b3, b4, b5, b6⟩ := h
  have b6 : ∀ q, q < s → σ1 (t + 2) q = tm ρ q := b6
  have e0 : ringS σ1 t s c t = upd (upd (σ1 t) 2 (nI (s + mor c))) 5 (nI 0) := setR_hit
  have e2 : ringS σ1 t s c (t + 2) = ringR (σ1 (t + 2)) s (σ1 t 5) (σ1 t 3) c := (setR_ne (by omega)).trans setR_hit
  have e4 : ringS σ1 t s c (t + 4) = σ1 (t + 4) := (setR_ne (by omega)).trans (setR_ne (by omega))
  refine ⟨by rw [e0, upd_ne (by decide), upd_hit], by rw [e0, upd_ne (by decide), upd_ne (by decide), ringP_lo (by decide) (by decide) (by decide)]; exact b2, by rw [e0, upd_ne (by decide), upd_ne (by decide), ringP_lo (by decide) (by decide) (by decide)]; exact b3, by rw [e0, upd_hit, ringP_2], fun l hl => by rw [e4, ringP_lo (by omega) (by omega) (by omega)]; exact b5 l hl, fun q hq => ?_⟩
  rw [e2]
  exact ringP_hi b6 b4 b2 hq
theorem room6 {σ : Sg} {ρ : Nat → Int32} {s j c : Nat} (hR : RowOK ρ s) (hRep : Rep σ 6 ρ s) (hj : j < 25) (hc : ρ (4 + j) = nI c) (hc1 : c < 25) : (ROOM ρ s c → CM mX8_hasRoomFor [ar 6, ai (nI j)] σ (Ret (nI 1) σ)) ∧ (¬ ROOM ρ s c → CM mX8_hasRoomFor [ar 6, ai (nI j)] σ (Ret (nI 0) σ)) := by
  obtain ⟨b1, b2, b3, b4, b5, b6⟩ := hRep
  have b6 : ∀ q, q < s → σ (6 + 2) q = tm ρ q := b6
  have e : endT (σ (6 + 2)) s (σ 6 5) (σ 6 3) (mor c) = endT (tm ρ) s (ρ 2) (ρ 0) (mor c) := by
    rw [endT, endT, nxt_congr b6, b4, b2]
  have hcc : σ (6 + 4) j = nI c := (b5 j hj).trans hc
  refine ⟨fun h => hasRoom_T TW6 b1 hR.2.1 hj hcc hc1 h.1 (by rw [e]; exact h.2), fun h => hasRoom_F TW6 b1 hR.2.1 hj hcc hc1 ?_⟩
  rw [e]
  exact fun q => Classical.byContradiction fun q2 => h ⟨q, q2⟩
theorem rroom {σ : Sg} {ρ : Nat → Int32} {s j c : Nat} (hR : RowOK ρ s) (h80 : σ 80 = ρ) (hj : j < 25) (hc : ρ (4 + j) = nI c) (hc1 : c < 25) : (ROOM ρ s c → CM mX10_isRoom [ar 79, ai (nI j)] σ (Ret (nI 1) σ)) ∧ (¬ ROOM ρ s c → CM mX10_isRoom [ar 79, ai (nI j)] σ (Ret (nI 0) σ)) := by
  subst h80
  refine ⟨fun h => isRoom_T hR.1 hR.2.1 hR.2.2.1 hj hc hc1 h.1 h.2, fun h => isRoom_F hR.1 hR.2.1 hR.2.2.1 hj hc hc1 (fun q => Classical.byContradiction fun q2 => h ⟨q, q2⟩)⟩
theorem there6 {σ : Sg} {ρ : Nat → Int32} {s : Nat} (hR : RowOK ρ s) (hRep : Rep σ 6 ρ s) (x : Int32) : (THR ρ s x → CM mX8_hasStrokeAt [ar 6, ai x] σ (Ret (nI 1) σ)) ∧ (¬ THR ρ s x → CM mX8_hasStrokeAt [ar 6, ai x] σ (Ret (nI 0) σ)) := by
  have hs1 := hR.2.1
  have b6 : ∀ q, q < s → σ (6 + 2) q = tm ρ q := hRep.2.2.2.2.2
  have ea : ah (σ (6 + 2)) s x = ah (tm ρ) s x := ah_congr b6
  refine ⟨fun h => hasStrokeAt_T TW6 hRep.1 hs1 (by rw [ea]; exact h.1) (by rw [ea, b6 _ h.1]; exact h.2), fun h => hasStrokeAt_F TW6 hRep.1 hs1 ?_⟩
  rw [ea]
  intro h1 h2
  rw [b6 _ h1] at h2
  exact h ⟨h1, h2⟩
set_option maxRecDepth 20000 in
set_option maxHeartbeats 2000000 in
theorem setP_F {p e : Nat} {σ : Sg} (hp : σ 76 2 = nI p) (hp1 : p ≤ 100) (he : e ≤ 100) (h : ¬ e = p + 1) : CM mX5_setPause [ar 76, ar 6, ai (nI e)] σ (Ret (nI 1) σ) := by
  refine CM_in (ls := [some (ar 76), some (ar 6), some (ai (nI e))]) rfl ?_
  refine g_iload_n (p0 := 1) (i := 2) dX5_setPause_0 rfl rfl rfl ?_
  refine g_aload_n (p0 := 2) (i := 0) dX5_setPause_1 rfl rfl rfl ?_
  refine g_getI (p0 := 5) dX5_setPause_2 fX5_24 (by first | rfl | assumption | exact RW.s (by assumption) | exact TW.s (by assumption)) rfl (by first | assumption | ((repeat (first | exact up_hit | refine up_nv (by decide) ?_ | refine up_mv (by first | decide | omega) ?_)) <;> first | assumption | rfl)) rfl ?_
  refine g_iconst (p0 := 6) (v := nI 1) dX5_setPause_5 rfl rfl ?_
  first | ((with_reducible refine isN2 ?_); refine g_iaddN (p0 := 7) dX5_setPause_6 rfl ?_) | refine g_iadd (p0 := 7) dX5_setPause_6 rfl ?_
  first | ((with_reducible refine isN2 ?_); refine g_icmpN_eq (tgt := 12) (p1 := 10) dX5_setPause_7 rfl (by omega) (by omega) rfl (fun c_7 => by exfalso; first | omega | contradiction | exact absurd (by assumption) c_7 | (simp_all; done)) (fun c_7 => ?_)) | refine g_icmp_eq (tgt := 12) (p1 := 10) dX5_setPause_7 rfl rfl (fun c_7 => by exfalso; first | omega | contradiction | exact absurd (by assumption) c_7 | (simp_all; done)) (fun c_7 => ?_)
  refine g_iconst (p0 := 11) (v := nI 1) dX5_setPause_10 rfl rfl ?_
  refine g_ireturn dX5_setPause_11 rfl rfl (?_)
  exact ⟨rfl, rfl⟩
set_option maxRecDepth 20000 in
set_option maxHeartbeats 2000000 in
theorem setP_T {p e : Nat} {σ : Sg} (hp : σ 76 2 = nI p) (hp1 : p ≤ 100) (he : e ≤ 100) (h : e = p + 1) : CM mX5_setPause [ar 76, ar 6, ai (nI e)] σ (Ret (nI 0) (up σ 6 5 (nI 1))) := by
  refine CM_in (ls := [some (ar 76), some (ar 6), some (ai (nI e))]) rfl ?_
  refine g_iload_n (p0 := 1) (i := 2) dX5_setPause_0 rfl rfl rfl ?_
  refine g_aload_n (p0 := 2) (i := 0) dX5_setPause_1 rfl rfl rfl ?_
  refine g_getI (p0 := 5) dX5_setPause_2 fX5_24 (by first | rfl | assumption | exact RW.s (by assumption) | exact TW.s (by assumption)) rfl (by first | assumption | ((repeat (first | exact up_hit | refine up_nv (by decide) ?_ | refine up_mv (by first | decide | omega) ?_)) <;> first | assumption | rfl)) rfl ?_
  refine g_iconst (p0 := 6) (v := nI 1) dX5_setPause_5 rfl rfl ?_
  first | ((with_reducible refine isN2 ?_); refine g_iaddN (p0 := 7) dX5_setPause_6 rfl ?_) | refine g_iadd (p0 := 7) dX5_setPause_6 rfl ?_
  first | ((with_reducible refine isN2 ?_); refine g_icmpN_eq (tgt := 12) (p1 := 10) dX5_setPause_7 rfl (by omega) (by omega) rfl (fun c_7 => ?_) (fun c_7 => by exfalso; first | omega | contradiction | exact absurd (by assumption) c_7 | (simp_all; done))) | refine g_icmp_eq (tgt := 12) (p1 := 10) dX5_setPause_7 rfl rfl (fun c_7 => ?_) (fun c_7 => by exfalso; first | omega | contradiction | exact absurd (by assumption) c_7 | (simp_all; done))
  refine g_aload_n (p0 := 13) (i := 1) dX5_setPause_12 rfl rfl rfl ?_
  refine g_iconst (p0 := 14) (v := nI 1) dX5_setPause_13 rfl rfl ?_
  refine g_put (p0 := 17) dX5_setPause_14 fX5_74 (by first | rfl | assumption | exact RW.s (by assumption) | exact TW.s (by assumption)) rfl nX8_5 (pX8_5 (by first | decide | assumption)) rfl ?_
  refine g_iconst (p0 := 18) (v := nI 0) dX5_setPause_17 rfl rfl ?_
  refine g_ireturn dX5_setPause_18 rfl rfl (?_)
  exact ⟨rfl, rfl⟩
set_option maxRecDepth 20000 in
set_option maxHeartbeats 2000000 in
theorem muteO_m {σ : Sg} : CM mX5_muteOne [ar 76, ar 6, ai (-1)] σ (Ret (nI 1) σ) := by
  refine CM_in (ls := [some (ar 76), some (ar 6), some (ai (-1))]) rfl ?_
  refine g_iload_n (p0 := 1) (i := 2) dX5_muteOne_0 rfl rfl rfl ?_
  refine g_iconst (p0 := 2) (v := -1) dX5_muteOne_1 rfl rfl ?_
  first | ((with_reducible refine isN2 ?_); refine g_icmpN_ne (tgt := 7) (p1 := 5) dX5_muteOne_2 rfl (by omega) (by omega) rfl (fun c_2 => by exfalso; first | omega | contradiction | exact absurd h c_2 | exact h c_2 | exact c_2 h | exact c_2 (by decide) | exact c_2 rfl | exact absurd rfl c_2 | exact nI_ne_m1b (by omega) c_2) (fun c_2 => ?_)) | refine g_icmp_ne (tgt := 7) (p1 := 5) dX5_muteOne_2 rfl rfl (fun c_2 => by exfalso; first | omega | contradiction | exact absurd h c_2 | exact h c_2 | exact c_2 h | exact c_2 (by decide) | exact c_2 rfl | exact absurd rfl c_2 | exact nI_ne_m1b (by omega) c_2) (fun c_2 => ?_)
  refine g_iconst (p0 := 6) (v := nI 1) dX5_muteOne_5 rfl rfl ?_
  refine g_ireturn dX5_muteOne_6 rfl rfl (?_)
  exact ⟨rfl, rfl⟩
set_option maxRecDepth 20000 in
set_option maxHeartbeats 2000000 in
theorem muteO_F {v s : Nat} {σ : Sg} (hs : σ 6 2 = nI s) (hs1 : s ≤ 160) (hv : v ≤ 9999) (h : s ≤ v) : CM mX5_muteOne [ar 76, ar 6, ai (nI v)] σ (Ret (nI 2) σ) := by
  refine CM_in (ls := [some (ar 76), some (ar 6), some (ai (nI v))]) rfl ?_
  refine g_iload_n (p0 := 1) (i := 2) dX5_muteOne_0 rfl rfl rfl ?_
  refine g_iconst (p0 := 2) (v := -1) dX5_muteOne_1 rfl rfl ?_
  first | ((with_reducible refine isN2 ?_); refine g_icmpN_ne (tgt := 7) (p1 := 5) dX5_muteOne_2 rfl (by omega) (by omega) rfl (fun c_2 => ?_) (fun c_2 => by exfalso; first | omega | contradiction | exact absurd h c_2 | exact h c_2 | exact c_2 h | exact c_2 (by decide) | exact c_2 rfl | exact absurd rfl c_2 | exact nI_ne_m1b (by omega) c_2)) | refine g_icmp_ne (tgt := 7) (p1 := 5) dX5_muteOne_2 rfl rfl (fun c_2 => ?_) (fun c_2 => by exfalso; first | omega | contradiction | exact absurd h c_2 | exact h c_2 | exact c_2 h | exact c_2 (by decide) | exact c_2 rfl | exact absurd rfl c_2 | exact nI_ne_m1b (by omega) c_2)
  refine g_aload_n (p0 := 8) (i := 1) dX5_muteOne_7 rfl rfl rfl ?_
  refine g_iload_n (p0 := 9) (i := 2) dX5_muteOne_8 rfl rfl rfl ?_
  refine g_cV1R (p0 := 12) (r1 := mX8_hasStroke) dX5_muteOne_9 lX5_78 vX8_hasStroke (by first | rfl | assumption | exact RW.s (by assumption) | exact TW.s (by assumption)) ⟨_, _, rfl⟩ (FITi rfl rfl) (Nat.le_of_ble_eq_true rfl) (hasStroke_F2 TW6 hs (fun q => by rw [← nI_0, nI_lt_iff (by omega) (by omega)] at q; omega) ((nI_le_iff (by omega) (by omega)).mpr h)) rfl ?_
  first | ((with_reducible refine isN1 ?_); refine g_ifN_ne (tgt := 17) (p1 := 15) dX5_muteOne_12 rfl (by omega) rfl (fun c_12 => by exfalso; first | omega | contradiction | exact absurd h c_12 | exact h c_12 | exact c_12 h | exact c_12 (by decide) | exact c_12 rfl | exact absurd rfl c_12 | exact nI_ne_m1b (by omega) c_12) (fun c_12 => ?_)) | refine g_if_ne (tgt := 17) (p1 := 15) dX5_muteOne_12 rfl rfl (fun c_12 => by exfalso; first | omega | contradiction | exact absurd h c_12 | exact h c_12 | exact c_12 h | exact c_12 (by decide) | exact c_12 rfl | exact absurd rfl c_12 | exact nI_ne_m1b (by omega) c_12) (fun c_12 => ?_)
  refine g_iconst (p0 := 16) (v := nI 2) dX5_muteOne_15 rfl rfl ?_
  refine g_ireturn dX5_muteOne_16 rfl rfl (?_)
  exact ⟨rfl, rfl⟩
set_option maxRecDepth 20000 in
set_option maxHeartbeats 2000000 in
theorem muteO_T {v s : Nat} {σ : Sg} (hs : σ 6 2 = nI s) (hs1 : s ≤ 160) (hv : v ≤ 9999) (h : v < s) : CM mX5_muteOne [ar 76, ar 6, ai (nI v)] σ (Ret (nI 0) (remG σ 6 s v)) := by
  refine CM_in (ls := [some (ar 76), some (ar 6), some (ai (nI v))]) rfl ?_
  refine g_iload_n (p0 := 1) (i := 2) dX5_muteOne_0 rfl rfl rfl ?_
  refine g_iconst (p0 := 2) (v := -1) dX5_muteOne_1 rfl rfl ?_
  first | ((with_reducible refine isN2 ?_); refine g_icmpN_ne (tgt := 7) (p1 := 5) dX5_muteOne_2 rfl (by omega) (by omega) rfl (fun c_2 => ?_) (fun c_2 => by exfalso; first | omega | contradiction | exact absurd h c_2 | exact h c_2 | exact c_2 h | exact c_2 (by decide) | exact c_2 rfl | exact absurd rfl c_2 | exact nI_ne_m1b (by omega) c_2)) | refine g_icmp_ne (tgt := 7) (p1 := 5) dX5_muteOne_2 rfl rfl (fun c_2 => ?_) (fun c_2 => by exfalso; first | omega | contradiction | exact absurd h c_2 | exact h c_2 | exact c_2 h | exact c_2 (by decide) | exact c_2 rfl | exact absurd rfl c_2 | exact nI_ne_m1b (by omega) c_2)
  refine g_aload_n (p0 := 8) (i := 1) dX5_muteOne_7 rfl rfl rfl ?_
  refine g_iload_n (p0 := 9) (i := 2) dX5_muteOne_8 rfl rfl rfl ?_
  refine g_cV1R (p0 := 12) (r1 := mX8_hasStroke) dX5_muteOne_9 lX5_78 vX8_hasStroke (by first | rfl | assumption | exact RW.s (by assumption) | exact TW.s (by assumption)) ⟨_, _, rfl⟩ (FITi rfl rfl) (Nat.le_of_ble_eq_true rfl) (hasStroke_T TW6 hs hs1 h) rfl ?_
  first | ((with_reducible refine isN1 ?_); refine g_ifN_ne (tgt := 17) (p1 := 15) dX5_muteOne_12 rfl (by omega) rfl (fun c_12 => ?_) (fun c_12 => by exfalso; first | omega | contradiction | exact absurd h c_12 | exact h c_12 | exact c_12 h | exact c_12 (by decide) | exact c_12 rfl | exact absurd rfl c_12 | exact nI_ne_m1b (by omega) c_12)) | refine g_if_ne (tgt := 17) (p1 := 15) dX5_muteOne_12 rfl rfl (fun c_12 => ?_) (fun c_12 => by exfalso; first | omega | contradiction | exact absurd h c_12 | exact h c_12 | exact c_12 h | exact c_12 (by decide) | exact c_12 rfl | exact absurd rfl c_12 | exact nI_ne_m1b (by omega) c_12)
  refine g_aload_n (p0 := 18) (i := 1) dX5_muteOne_17 rfl rfl rfl ?_
  refine g_iload_n (p0 := 19) (i := 2) dX5_muteOne_18 rfl rfl rfl ?_
  refine g_cV1V (p0 := 22) (r1 := mX8_removeStroke) dX5_muteOne_19 lX5_81 vX8_removeStroke (by first | rfl | assumption | exact RW.s (by assumption) | exact TW.s (by assumption)) ⟨_, _, rfl⟩ (FITi rfl rfl) (Nat.le_of_ble_eq_true rfl) (removeStroke_sp TW6 hs hs1 h) rfl ?_
  refine g_iconst (p0 := 23) (v := nI 0) dX5_muteOne_22 rfl rfl ?_
  refine g_ireturn dX5_muteOne_23 rfl rfl (?_)
  exact ⟨rfl, rfl⟩
set_option maxRecDepth 20000 in
set_option maxHeartbeats 2000000 in
theorem strO_m {σ : Sg} : CM mX5_strikeOne [ar 76, ar 6, ai (-1)] σ (Ret (nI 1) σ) := by
  refine CM_in (ls := [some (ar 76), some (ar 6), some (ai (-1))]) rfl ?_
  refine g_iload_n (p0 := 1) (i := 2) dX5_strikeOne_0 rfl rfl rfl ?_
  refine g_iconst (p0 := 2) (v := -1) dX5_strikeOne_1 rfl rfl ?_
  first | ((with_reducible refine isN2 ?_); refine g_icmpN_ne (tgt := 7) (p1 := 5) dX5_strikeOne_2 rfl (by omega) (by omega) rfl (fun c_2 => by exfalso; first | omega | contradiction | exact absurd h c_2 | exact h c_2 | exact c_2 h | exact c_2 (by decide) | exact c_2 rfl | exact absurd rfl c_2 | exact nI_ne_m1b (by omega) c_2) (fun c_2 => ?_)) | refine g_icmp_ne (tgt := 7) (p1 := 5) dX5_strikeOne_2 rfl rfl (fun c_2 => by exfalso; first | omega | contradiction | exact absurd h c_2 | exact h c_2 | exact c_2 h | exact c_2 (by decide) | exact c_2 rfl | exact absurd rfl c_2 | exact nI_ne_m1b (by omega) c_2) (fun c_2 => ?_)
  refine g_iconst (p0 := 6) (v := nI 1) dX5_strikeOne_5 rfl rfl ?_
  refine g_ireturn dX5_strikeOne_6 rfl rfl (?_)
  exact ⟨rfl, rfl⟩
set_option maxRecDepth 20000 in
set_option maxHeartbeats 2000000 in
theorem strO_t {v : Nat} {σ : Sg} (hv : v ≤ 9999) (h : CM mX8_hasStrokeAt [ar 6, ai (nI v)] σ (Ret (nI 1) σ)) : CM mX5_strikeOne [ar 76, ar 6, ai (nI v)] σ (Ret (nI 2) σ) := by
  refine CM_in (ls := [some (ar 76), some (ar 6), some (ai (nI v))]) rfl ?_
  refine g_iload_n (p0 := 1) (i := 2) dX5_strikeOne_0 rfl rfl rfl ?_
  refine g_iconst (p0 := 2) (v := -1) dX5_strikeOne_1 rfl rfl ?_
  first | ((with_reducible refine isN2 ?_); refine g_icmpN_ne (tgt := 7) (p1 := 5) dX5_strikeOne_2 rfl (by omega) (by omega) rfl (fun c_2 => ?_) (fun c_2 => by exfalso; first | omega | contradiction | exact absurd h c_2 | exact h c_2 | exact c_2 h | exact c_2 (by decide) | exact c_2 rfl | exact absurd rfl c_2 | exact nI_ne_m1b (by omega) c_2)) | refine g_icmp_ne (tgt := 7) (p1 := 5) dX5_strikeOne_2 rfl rfl (fun c_2 => ?_) (fun c_2 => by exfalso; first | omega | contradiction | exact absurd h c_2 | exact h c_2 | exact c_2 h | exact c_2 (by decide) | exact c_2 rfl | exact absurd rfl c_2 | exact nI_ne_m1b (by omega) c_2)
  refine g_aload_n (p0 := 8) (i := 1) dX5_strikeOne_7 rfl rfl rfl ?_
  refine g_iload_n (p0 := 9) (i := 2) dX5_strikeOne_8 rfl rfl rfl ?_
  refine g_cV1R (p0 := 12) (r1 := mX8_hasStrokeAt) dX5_strikeOne_9 lX5_84 vX8_hasStrokeAt (by first | rfl | assumption | exact RW.s (by assumption) | exact TW.s (by assumption)) ⟨_, _, rfl⟩ (FITi rfl rfl) (Nat.le_of_ble_eq_true rfl) (h) rfl ?_
  first | ((with_reducible refine isN1 ?_); refine g_ifN_eq (tgt := 17) (p1 := 15) dX5_strikeOne_12 rfl (by omega) rfl (fun c_12 => by exfalso; first | omega | contradiction | exact absurd h c_12 | exact h c_12 | exact c_12 h | exact c_12 (by decide) | exact c_12 rfl | exact absurd rfl c_12 | exact nI_ne_m1b (by omega) c_12) (fun c_12 => ?_)) | refine g_if_eq (tgt := 17) (p1 := 15) dX5_strikeOne_12 rfl rfl (fun c_12 => by exfalso; first | omega | contradiction | exact absurd h c_12 | exact h c_12 | exact c_12 h | exact c_12 (by decide) | exact c_12 rfl | exact absurd rfl c_12 | exact nI_ne_m1b (by omega) c_12) (fun c_12 => ?_)
  refine g_iconst (p0 := 16) (v := nI 2) dX5_strikeOne_15 rfl rfl ?_
  refine g_ireturn dX5_strikeOne_16 rfl rfl (?_)
  exact ⟨rfl, rfl⟩
set_option maxRecDepth 20000 in
set_option maxHeartbeats 2000000 in
theorem strO_f {v : Nat} {σ : Sg} (hv : v ≤ 9999) (h : CM mX8_hasStrokeAt [ar 6, ai (nI v)] σ (Ret (nI 0) σ)) (hs : σ 6 2 = nI 160) : CM mX5_strikeOne [ar 76, ar 6, ai (nI v)] σ (Ret (nI 3) σ) := by
  refine CM_in (ls := [some (ar 76), some (ar 6), some (ai (nI v))]) rfl ?_
  refine g_iload_n (p0 := 1) (i := 2) dX5_strikeOne_0 rfl rfl rfl ?_
  refine g_iconst (p0 := 2) (v := -1) dX5_strikeOne_1 rfl rfl ?_
  first | ((with_reducible refine isN2 ?_); refine g_icmpN_ne (tgt := 7) (p1 := 5) dX5_strikeOne_2 rfl (by omega) (by omega) rfl (fun c_2 => ?_) (fun c_2 => by exfalso; first | omega | contradiction | exact absurd h c_2 | exact h c_2 | exact c_2 h | exact c_2 (by decide) | exact c_2 rfl | exact absurd rfl c_2 | exact nI_ne_m1b (by omega) c_2)) | refine g_icmp_ne (tgt := 7) (p1 := 5) dX5_strikeOne_2 rfl rfl (fun c_2 => ?_) (fun c_2 => by exfalso; first | omega | contradiction | exact absurd h c_2 | exact h c_2 | exact c_2 h | exact c_2 (by decide) | exact c_2 rfl | exact absurd rfl c_2 | exact nI_ne_m1b (by omega) c_2)
  refine g_aload_n (p0 := 8) (i := 1) dX5_strikeOne_7 rfl rfl rfl ?_
  refine g_iload_n (p0 := 9) (i := 2) dX5_strikeOne_8 rfl rfl rfl ?_
  refine g_cV1R (p0 := 12) (r1 := mX8_hasStrokeAt) dX5_strikeOne_9 lX5_84 vX8_hasStrokeAt (by first | rfl | assumption | exact RW.s (by assumption) | exact TW.s (by assumption)) ⟨_, _, rfl⟩ (FITi rfl rfl) (Nat.le_of_ble_eq_true rfl) (h) rfl ?_
  first | ((with_reducible refine isN1 ?_); refine g_ifN_eq (tgt := 17) (p1 := 15) dX5_strikeOne_12 rfl (by omega) rfl (fun c_12 => ?_) (fun c_12 => by exfalso; first | omega | contradiction | exact absurd h c_12 | exact h c_12 | exact c_12 h | exact c_12 (by decide) | exact c_12 rfl | exact absurd rfl c_12 | exact nI_ne_m1b (by omega) c_12)) | refine g_if_eq (tgt := 17) (p1 := 15) dX5_strikeOne_12 rfl rfl (fun c_12 => ?_) (fun c_12 => by exfalso; first | omega | contradiction | exact absurd h c_12 | exact h c_12 | exact c_12 h | exact c_12 (by decide) | exact c_12 rfl | exact absurd rfl c_12 | exact nI_ne_m1b (by omega) c_12)
  refine g_aload_n (p0 := 18) (i := 1) dX5_strikeOne_17 rfl rfl rfl ?_
  refine g_cV0R (p0 := 21) (r1 := mX8_isFull) dX5_strikeOne_18 lX5_87 vX8_isFull (by first | rfl | assumption | exact RW.s (by assumption) | exact TW.s (by assumption)) ⟨_, _, rfl⟩ (FITi rfl rfl) (Nat.le_of_ble_eq_true rfl) (isFull_T TW6 hs) rfl ?_
  first | ((with_reducible refine isN1 ?_); refine g_ifN_eq (tgt := 26) (p1 := 24) dX5_strikeOne_21 rfl (by omega) rfl (fun c_21 => by exfalso; first | omega | contradiction | exact absurd h c_21 | exact h c_21 | exact c_21 h | exact c_21 (by decide) | exact c_21 rfl | exact absurd rfl c_21 | exact nI_ne_m1b (by omega) c_21) (fun c_21 => ?_)) | refine g_if_eq (tgt := 26) (p1 := 24) dX5_strikeOne_21 rfl rfl (fun c_21 => by exfalso; first | omega | contradiction | exact absurd h c_21 | exact h c_21 | exact c_21 h | exact c_21 (by decide) | exact c_21 rfl | exact absurd rfl c_21 | exact nI_ne_m1b (by omega) c_21) (fun c_21 => ?_)
  refine g_iconst (p0 := 25) (v := nI 3) dX5_strikeOne_24 rfl rfl ?_
  refine g_ireturn dX5_strikeOne_25 rfl rfl (?_)
  exact ⟨rfl, rfl⟩
set_option maxRecDepth 20000 in
set_option maxHeartbeats 2000000 in
theorem strO_T {v s : Nat} {σ : Sg} (hv : v ≤ 9999) (h : CM mX8_hasStrokeAt [ar 6, ai (nI v)] σ (Ret (nI 0) σ)) (hs : σ 6 2 = nI s) (hs1 : s < 160) : CM mX5_strikeOne [ar 76, ar 6, ai (nI v)] σ (Ret (nI 0) (insG σ 6 s (nI v))) := by
  refine CM_in (ls := [some (ar 76), some (ar 6), some (ai (nI v))]) rfl ?_
  refine g_iload_n (p0 := 1) (i := 2) dX5_strikeOne_0 rfl rfl rfl ?_
  refine g_iconst (p0 := 2) (v := -1) dX5_strikeOne_1 rfl rfl ?_
  first | ((with_reducible refine isN2 ?_); refine g_icmpN_ne (tgt := 7) (p1 := 5) dX5_strikeOne_2 rfl (by omega) (by omega) rfl (fun c_2 => ?_) (fun c_2 => by exfalso; first | omega | contradiction | exact absurd h c_2 | exact h c_2 | exact c_2 h | exact c_2 (by decide) | exact c_2 rfl | exact absurd rfl c_2 | exact nI_ne_m1b (by omega) c_2)) | refine g_icmp_ne (tgt := 7) (p1 := 5) dX5_strikeOne_2 rfl rfl (fun c_2 => ?_) (fun c_2 => by exfalso; first | omega | contradiction | exact absurd h c_2 | exact h c_2 | exact c_2 h | exact c_2 (by decide) | exact c_2 rfl | exact absurd rfl c_2 | exact nI_ne_m1b (by omega) c_2)
  refine g_aload_n (p0 := 8) (i := 1) dX5_strikeOne_7 rfl rfl rfl ?_
  refine g_iload_n (p0 := 9) (i := 2) dX5_strikeOne_8 rfl rfl rfl ?_
  refine g_cV1R (p0 := 12) (r1 := mX8_hasStrokeAt) dX5_strikeOne_9 lX5_84 vX8_hasStrokeAt (by first | rfl | assumption | exact RW.s (by assumption) | exact TW.s (by assumption)) ⟨_, _, rfl⟩ (FITi rfl rfl) (Nat.le_of_ble_eq_true rfl) (h) rfl ?_
  first | ((with_reducible refine isN1 ?_); refine g_ifN_eq (tgt := 17) (p1 := 15) dX5_strikeOne_12 rfl (by omega) rfl (fun c_12 => ?_) (fun c_12 => by exfalso; first | omega | contradiction | exact absurd h c_12 | exact h c_12 | exact c_12 h | exact c_12 (by decide) | exact c_12 rfl | exact absurd rfl c_12 | exact nI_ne_m1b (by omega) c_12)) | refine g_if_eq (tgt := 17) (p1 := 15) dX5_strikeOne_12 rfl rfl (fun c_12 => ?_) (fun c_12 => by exfalso; first | omega | contradiction | exact absurd h c_12 | exact h c_12 | exact c_12 h | exact c_12 (by decide) | exact c_12 rfl | exact absurd rfl c_12 | exact nI_ne_m1b (by omega) c_12)
  refine g_aload_n (p0 := 18) (i := 1) dX5_strikeOne_17 rfl rfl rfl ?_
  refine g_cV0R (p0 := 21) (r1 := mX8_isFull) dX5_strikeOne_18 lX5_87 vX8_isFull (by first | rfl | assumption | exact RW.s (by assumption) | exact TW.s (by assumption)) ⟨_, _, rfl⟩ (FITi rfl rfl) (Nat.le_of_ble_eq_true rfl) (isFull_F TW6 hs hs1) rfl ?_
  first | ((with_reducible refine isN1 ?_); refine g_ifN_eq (tgt := 26) (p1 := 24) dX5_strikeOne_21 rfl (by omega) rfl (fun c_21 => ?_) (fun c_21 => by exfalso; first | omega | contradiction | exact absurd h c_21 | exact h c_21 | exact c_21 h | exact c_21 (by decide) | exact c_21 rfl | exact absurd rfl c_21 | exact nI_ne_m1b (by omega) c_21)) | refine g_if_eq (tgt := 26) (p1 := 24) dX5_strikeOne_21 rfl rfl (fun c_21 => ?_) (fun c_21 => by exfalso; first | omega | contradiction | exact absurd h c_21 | exact h c_21 | exact c_21 h | exact c_21 (by decide) | exact c_21 rfl | exact absurd rfl c_21 | exact nI_ne_m1b (by omega) c_21)
  refine g_aload_n (p0 := 27) (i := 1) dX5_strikeOne_26 rfl rfl rfl ?_
  refine g_iload_n (p0 := 28) (i := 2) dX5_strikeOne_27 rfl rfl rfl ?_
  refine g_cV1R (p0 := 31) (r1 := mX8_addStroke) dX5_strikeOne_28 lX5_91 vX8_addStroke (by first | rfl | assumption | exact RW.s (by assumption) | exact TW.s (by assumption)) ⟨_, _, rfl⟩ (FITi rfl rfl) (Nat.le_of_ble_eq_true rfl) (addStroke_sp TW6 hs hs1) rfl ?_
  refine g_pop (p0 := 32) dX5_strikeOne_31 rfl ?_
  refine g_iconst (p0 := 33) (v := nI 0) dX5_strikeOne_32 rfl rfl ?_
  refine g_ireturn dX5_strikeOne_33 rfl rfl (?_)
  exact ⟨rfl, rfl⟩
set_option maxRecDepth 20000 in
set_option maxHeartbeats 2000000 in
theorem hasL_l {T : Nat → Nat} {len p e : Nat} {σ : Sg} {Q : SP} (hT : TOK T len) (hC : TC σ T len) (hp : σ 76 2 = nI p) (he : e < len) (hpe : p ≤ e) (k0 : ¬ LET T p e → Q (some (ai (nI 0))) σ) (k1 : (∀ i, p < i → i < e → 97 ≤ T i ∧ T i ≤ 121) → ∀ i, WM mX5_hasLettersUpTo Q 37 [some (ar 76), some (ai (nI e)), some (ai (nI i))] [] σ) : ∀ q i, i + q = e ∨ (e < i ∧ i = p + 1) → p < i → (∀ j, p < j → j < i → j < e → 97 ≤ T j ∧ T j ≤ 121) → WM mX5_hasLettersUpTo Q 7 [some (ar 76), some (ai (nI e)), some (ai (nI i))] [] σ := by
  have hl := hT.1
  intro q
  induction q with
  | zero =>
    intro i hi hpi hall
    have k := k1 (fun j h1 h2 => hall j h1 (by omega) h2) i
    refine g_iload_n (p0 := 8) (i := 2) dX5_hasLettersUpTo_7 rfl rfl rfl ?_
    refine g_iload_n (p0 := 9) (i := 1) dX5_hasLettersUpTo_8 rfl rfl rfl ?_
    first | ((with_reducible refine isN2 ?_); refine g_icmpN_ge (tgt := 37) (p1 := 12) dX5_hasLettersUpTo_9 rfl (by omega) (by omega) rfl (fun c_9 => ?_) (fun c_9 => by exfalso; first | omega | contradiction | exact absurd (by assumption) c_9 | (simp_all; done))) | refine g_icmp_ge (tgt := 37) (p1 := 12) dX5_hasLettersUpTo_9 rfl rfl (fun c_9 => ?_) (fun c_9 => by exfalso; first | omega | contradiction | exact absurd (by assumption) c_9 | (simp_all; done))
    exact k
  | succ q ih =>
    intro i hi hpi hall
    by_cases hie : i < e
    · have et := hC.2 i (by omega)
      have hti := hT.2 i (by omega)
      by_cases hlo : 97 ≤ T i
      · by_cases hhi : T i ≤ 121
        · refine g_iload_n (p0 := 8) (i := 2) dX5_hasLettersUpTo_7 rfl rfl rfl ?_
          refine g_iload_n (p0 := 9) (i := 1) dX5_hasLettersUpTo_8 rfl rfl rfl ?_
          first | ((with_reducible refine isN2 ?_); refine g_icmpN_ge (tgt := 37) (p1 := 12) dX5_hasLettersUpTo_9 rfl (by omega) (by omega) rfl (fun c_9 => by exfalso; first | omega | contradiction | exact absurd (by assumption) c_9 | (simp_all; done)) (fun c_9 => ?_)) | refine g_icmp_ge (tgt := 37) (p1 := 12) dX5_hasLettersUpTo_9 rfl rfl (fun c_9 => by exfalso; first | omega | contradiction | exact absurd (by assumption) c_9 | (simp_all; done)) (fun c_9 => ?_)
          refine g_aload_n (p0 := 13) (i := 0) dX5_hasLettersUpTo_12 rfl rfl rfl ?_
          refine g_getR (p0 := 16) dX5_hasLettersUpTo_13 fX5_14 (by first | rfl | assumption | exact RW.s (by assumption) | exact TW.s (by assumption)) rfl rfl ?_
          refine g_iload_n (p0 := 17) (i := 2) dX5_hasLettersUpTo_16 rfl rfl rfl ?_
          refine g_cV1R (p0 := 20) (r1 := mX7_at) dX5_hasLettersUpTo_17 lX5_40 vX7_at (by first | rfl | assumption | exact RW.s (by assumption) | exact TW.s (by assumption)) ⟨_, _, rfl⟩ (FITi rfl rfl) (Nat.le_of_ble_eq_true rfl) (at_N ⟨rfl, rfl, by decide⟩ (by omega) et) rfl ?_
          refine g_bipush (p0 := 22) (v := nI 97) dX5_hasLettersUpTo_20 (by decide) rfl ?_
          first | ((with_reducible refine isN2 ?_); refine g_isubN (p0 := 23) dX5_hasLettersUpTo_22 (by omega) rfl ?_) | refine g_isub (p0 := 23) dX5_hasLettersUpTo_22 rfl ?_
          refine g_cS1R (p0 := 26) (r1 := mX9_isLetter) dX5_hasLettersUpTo_23 (Or.inr lX5_94) vX9_isLetter (FITi rfl rfl) (Nat.le_of_ble_eq_true rfl) (cIsLetter_T (by omega)) rfl ?_
          first | ((with_reducible refine isN1 ?_); refine g_ifN_ne (tgt := 31) (p1 := 29) dX5_hasLettersUpTo_26 rfl (by omega) rfl (fun c_26 => ?_) (fun c_26 => by exfalso; first | omega | contradiction | exact absurd (by assumption) c_26 | (simp_all; done))) | refine g_if_ne (tgt := 31) (p1 := 29) dX5_hasLettersUpTo_26 rfl rfl (fun c_26 => ?_) (fun c_26 => by exfalso; first | omega | contradiction | exact absurd (by assumption) c_26 | (simp_all; done))
          first | refine g_iinc1 (p0 := 34) (ls2 := [_, _, _]) dX5_hasLettersUpTo_31 rfl rfl rfl ?_ | refine g_iinc (p0 := 34) (ls2 := [_, _, _]) dX5_hasLettersUpTo_31 rfl rfl rfl rfl ?_
          refine g_goto (tgt := 7) dX5_hasLettersUpTo_34 rfl ?_
          refine ih (i + 1) (by omega) (by omega) (fun j h1 h2 h3 => ?_)
          by_cases hj : j = i
          · rw [hj]; exact ⟨hlo, hhi⟩
          · exact hall j h1 (by omega) h3
        · refine g_iload_n (p0 := 8) (i := 2) dX5_hasLettersUpTo_7 rfl rfl rfl ?_
          refine g_iload_n (p0 := 9) (i := 1) dX5_hasLettersUpTo_8 rfl rfl rfl ?_
          first | ((with_reducible refine isN2 ?_); refine g_icmpN_ge (tgt := 37) (p1 := 12) dX5_hasLettersUpTo_9 rfl (by omega) (by omega) rfl (fun c_9 => by exfalso; first | omega | contradiction | exact absurd (by assumption) c_9 | (simp_all; done)) (fun c_9 => ?_)) | refine g_icmp_ge (tgt := 37) (p1 := 12) dX5_hasLettersUpTo_9 rfl rfl (fun c_9 => by exfalso; first | omega | contradiction | exact absurd (by assumption) c_9 | (simp_all; done)) (fun c_9 => ?_)
          refine g_aload_n (p0 := 13) (i := 0) dX5_hasLettersUpTo_12 rfl rfl rfl ?_
          refine g_getR (p0 := 16) dX5_hasLettersUpTo_13 fX5_14 (by first | rfl | assumption | exact RW.s (by assumption) | exact TW.s (by assumption)) rfl rfl ?_
          refine g_iload_n (p0 := 17) (i := 2) dX5_hasLettersUpTo_16 rfl rfl rfl ?_
          refine g_cV1R (p0 := 20) (r1 := mX7_at) dX5_hasLettersUpTo_17 lX5_40 vX7_at (by first | rfl | assumption | exact RW.s (by assumption) | exact TW.s (by assumption)) ⟨_, _, rfl⟩ (FITi rfl rfl) (Nat.le_of_ble_eq_true rfl) (at_N ⟨rfl, rfl, by decide⟩ (by omega) et) rfl ?_
          refine g_bipush (p0 := 22) (v := nI 97) dX5_hasLettersUpTo_20 (by decide) rfl ?_
          first | ((with_reducible refine isN2 ?_); refine g_isubN (p0 := 23) dX5_hasLettersUpTo_22 (by omega) rfl ?_) | refine g_isub (p0 := 23) dX5_hasLettersUpTo_22 rfl ?_
          refine g_cS1R (p0 := 26) (r1 := mX9_isLetter) dX5_hasLettersUpTo_23 (Or.inr lX5_94) vX9_isLetter (FITi rfl rfl) (Nat.le_of_ble_eq_true rfl) (cIsLetter_F2 (by omega) (by omega)) rfl ?_
          first | ((with_reducible refine isN1 ?_); refine g_ifN_ne (tgt := 31) (p1 := 29) dX5_hasLettersUpTo_26 rfl (by omega) rfl (fun c_26 => by exfalso; first | omega | contradiction | exact absurd (by assumption) c_26 | (simp_all; done)) (fun c_26 => ?_)) | refine g_if_ne (tgt := 31) (p1 := 29) dX5_hasLettersUpTo_26 rfl rfl (fun c_26 => by exfalso; first | omega | contradiction | exact absurd (by assumption) c_26 | (simp_all; done)) (fun c_26 => ?_)
          refine g_iconst (p0 := 30) (v := nI 0) dX5_hasLettersUpTo_29 rfl rfl ?_
          refine g_ireturn dX5_hasLettersUpTo_30 rfl (by first | rfl | exact bool_narrow (by first | exact Or.inl rfl | exact Or.inr rfl | assumption | (split <;> first | exact Or.inl rfl | exact Or.inr rfl))) (?_)
          exact k0 (fun z => hhi (z.2 i hpi hie).2)
      · have hneg : nI (T i) - nI 97 < 0 := by
          rw [Int32.lt_iff_toInt_lt, pk_sub_toInt (by omega) (by decide)]
          have e0 : (0 : Int32).toInt = 0 := by decide
          omega
        refine g_iload_n (p0 := 8) (i := 2) dX5_hasLettersUpTo_7 rfl rfl rfl ?_
        refine g_iload_n (p0 := 9) (i := 1) dX5_hasLettersUpTo_8 rfl rfl rfl ?_
        first | ((with_reducible refine isN2 ?_); refine g_icmpN_ge (tgt := 37) (p1 := 12) dX5_hasLettersUpTo_9 rfl (by omega) (by omega) rfl (fun c_9 => by exfalso; first | omega | contradiction | exact absurd (by assumption) c_9 | (simp_all; done)) (fun c_9 => ?_)) | refine g_icmp_ge (tgt := 37) (p1 := 12) dX5_hasLettersUpTo_9 rfl rfl (fun c_9 => by exfalso; first | omega | contradiction | exact absurd (by assumption) c_9 | (simp_all; done)) (fun c_9 => ?_)
        refine g_aload_n (p0 := 13) (i := 0) dX5_hasLettersUpTo_12 rfl rfl rfl ?_
        refine g_getR (p0 := 16) dX5_hasLettersUpTo_13 fX5_14 (by first | rfl | assumption | exact RW.s (by assumption) | exact TW.s (by assumption)) rfl rfl ?_
        refine g_iload_n (p0 := 17) (i := 2) dX5_hasLettersUpTo_16 rfl rfl rfl ?_
        refine g_cV1R (p0 := 20) (r1 := mX7_at) dX5_hasLettersUpTo_17 lX5_40 vX7_at (by first | rfl | assumption | exact RW.s (by assumption) | exact TW.s (by assumption)) ⟨_, _, rfl⟩ (FITi rfl rfl) (Nat.le_of_ble_eq_true rfl) (at_N ⟨rfl, rfl, by decide⟩ (by omega) et) rfl ?_
        refine g_bipush (p0 := 22) (v := nI 97) dX5_hasLettersUpTo_20 (by decide) rfl ?_
        first | ((with_reducible refine isN2 ?_); refine g_isubN (p0 := 23) dX5_hasLettersUpTo_22 (by omega) rfl ?_) | refine g_isub (p0 := 23) dX5_hasLettersUpTo_22 rfl ?_
        refine g_cS1R (p0 := 26) (r1 := mX9_isLetter) dX5_hasLettersUpTo_23 (Or.inr lX5_94) vX9_isLetter (FITi rfl rfl) (Nat.le_of_ble_eq_true rfl) (cIsLetter_F1 hneg) rfl ?_
        first | ((with_reducible refine isN1 ?_); refine g_ifN_ne (tgt := 31) (p1 := 29) dX5_hasLettersUpTo_26 rfl (by omega) rfl (fun c_26 => by exfalso; first | omega | contradiction | exact absurd (by assumption) c_26 | (simp_all; done)) (fun c_26 => ?_)) | refine g_if_ne (tgt := 31) (p1 := 29) dX5_hasLettersUpTo_26 rfl rfl (fun c_26 => by exfalso; first | omega | contradiction | exact absurd (by assumption) c_26 | (simp_all; done)) (fun c_26 => ?_)
        refine g_iconst (p0 := 30) (v := nI 0) dX5_hasLettersUpTo_29 rfl rfl ?_
        refine g_ireturn dX5_hasLettersUpTo_30 rfl (by first | rfl | exact bool_narrow (by first | exact Or.inl rfl | exact Or.inr rfl | assumption | (split <;> first | exact Or.inl rfl | exact Or.inr rfl))) (?_)
        exact k0 (fun z => hlo (z.2 i hpi hie).1)
    · have k := k1 (fun j h1 h2 => hall j h1 (by omega) h2) i
      refine g_iload_n (p0 := 8) (i := 2) dX5_hasLettersUpTo_7 rfl rfl rfl ?_
      refine g_iload_n (p0 := 9) (i := 1) dX5_hasLettersUpTo_8 rfl rfl rfl ?_
      first | ((with_reducible refine isN2 ?_); refine g_icmpN_ge (tgt := 37) (p1 := 12) dX5_hasLettersUpTo_9 rfl (by omega) (by omega) rfl (fun c_9 => ?_) (fun c_9 => by exfalso; first | omega | contradiction | exact absurd (by assumption) c_9 | (simp_all; done))) | refine g_icmp_ge (tgt := 37) (p1 := 12) dX5_hasLettersUpTo_9 rfl rfl (fun c_9 => ?_) (fun c_9 => by exfalso; first | omega | contradiction | exact absurd (by assumption) c_9 | (simp_all; done))
      exact k
set_option maxRecDepth 20000 in
set_option maxHeartbeats 2000000 in
theorem hasL_T {T : Nat → Nat} {len p e : Nat} {σ : Sg} (hT : TOK T len) (hC : TC σ T len) (hp : σ 76 2 = nI p) (he : e < len) (hpe : p ≤ e) (h : LET T p e) : CM mX5_hasLettersUpTo [ar 76, ai (nI e)] σ (Ret (nI 1) σ) := by
  refine CM_in (ls := [some (ar 76), some (ai (nI e)), none]) rfl ?_
  refine g_aload_n (p0 := 1) (i := 0) dX5_hasLettersUpTo_0 rfl rfl rfl ?_
  refine g_getI (p0 := 4) dX5_hasLettersUpTo_1 fX5_24 (by first | rfl | assumption | exact RW.s (by assumption) | exact TW.s (by assumption)) rfl (by first | assumption | ((repeat (first | exact up_hit | refine up_nv (by decide) ?_ | refine up_mv (by first | decide | omega) ?_)) <;> first | assumption | rfl)) rfl ?_
  refine g_iconst (p0 := 5) (v := nI 1) dX5_hasLettersUpTo_4 rfl rfl ?_
  first | ((with_reducible refine isN2 ?_); refine g_iaddN (p0 := 6) dX5_hasLettersUpTo_5 rfl ?_) | refine g_iadd (p0 := 6) dX5_hasLettersUpTo_5 rfl ?_
  refine g_istore_n (p0 := 7) (i := 2) (ls2 := [_, _, _]) dX5_hasLettersUpTo_6 rfl (Nat.le_of_ble_eq_true rfl) rfl rfl ?_
  have hl := hT.1
  refine hasL_l (Q := Ret (nI 1) σ) hT hC hp he hpe (fun z => absurd h z) (fun hall i => ?_) (e - (p + 1)) (p + 1) (by omega) (by omega) (fun j h1 h2 _ => absurd h2 (by omega))
  have h1 := h.1
  refine g_iload_n (p0 := 38) (i := 1) dX5_hasLettersUpTo_37 rfl rfl rfl ?_
  refine g_aload_n (p0 := 39) (i := 0) dX5_hasLettersUpTo_38 rfl rfl rfl ?_
  refine g_getI (p0 := 42) dX5_hasLettersUpTo_39 fX5_24 (by first | rfl | assumption | exact RW.s (by assumption) | exact TW.s (by assumption)) rfl (by first | assumption | ((repeat (first | exact up_hit | refine up_nv (by decide) ?_ | refine up_mv (by first | decide | omega) ?_)) <;> first | assumption | rfl)) rfl ?_
  refine g_iconst (p0 := 43) (v := nI 1) dX5_hasLettersUpTo_42 rfl rfl ?_
  first | ((with_reducible refine isN2 ?_); refine g_iaddN (p0 := 44) dX5_hasLettersUpTo_43 rfl ?_) | refine g_iadd (p0 := 44) dX5_hasLettersUpTo_43 rfl ?_
  first | ((with_reducible refine isN2 ?_); refine g_icmpN_le (tgt := 51) (p1 := 47) dX5_hasLettersUpTo_44 rfl (by omega) (by omega) rfl (fun c_44 => by exfalso; first | omega | contradiction | exact absurd (by assumption) c_44 | (simp_all; done)) (fun c_44 => ?_)) | refine g_icmp_le (tgt := 51) (p1 := 47) dX5_hasLettersUpTo_44 rfl rfl (fun c_44 => by exfalso; first | omega | contradiction | exact absurd (by assumption) c_44 | (simp_all; done)) (fun c_44 => ?_)
  refine g_iconst (p0 := 48) (v := nI 1) dX5_hasLettersUpTo_47 rfl rfl ?_
  refine g_goto (tgt := 52) dX5_hasLettersUpTo_48 rfl ?_
  refine g_ireturn dX5_hasLettersUpTo_52 rfl (by first | rfl | exact bool_narrow (by first | exact Or.inl rfl | exact Or.inr rfl | assumption | (split <;> first | exact Or.inl rfl | exact Or.inr rfl))) (?_)
  exact ⟨rfl, rfl⟩
set_option maxRecDepth 20000 in
set_option maxHeartbeats 2000000 in
theorem hasL_F {T : Nat → Nat} {len p e : Nat} {σ : Sg} (hT : TOK T len) (hC : TC σ T len) (hp : σ 76 2 = nI p) (he : e < len) (hpe : p ≤ e) (h : ¬ LET T p e) : CM mX5_hasLettersUpTo [ar 76, ai (nI e)] σ (Ret (nI 0) σ) := by
  refine CM_in (ls := [some (ar 76), some (ai (nI e)), none]) rfl ?_
  refine g_aload_n (p0 := 1) (i := 0) dX5_hasLettersUpTo_0 rfl rfl rfl ?_
  refine g_getI (p0 := 4) dX5_hasLettersUpTo_1 fX5_24 (by first | rfl | assumption | exact RW.s (by assumption) | exact TW.s (by assumption)) rfl (by first | assumption | ((repeat (first | exact up_hit | refine up_nv (by decide) ?_ | refine up_mv (by first | decide | omega) ?_)) <;> first | assumption | rfl)) rfl ?_
  refine g_iconst (p0 := 5) (v := nI 1) dX5_hasLettersUpTo_4 rfl rfl ?_
  first | ((with_reducible refine isN2 ?_); refine g_iaddN (p0 := 6) dX5_hasLettersUpTo_5 rfl ?_) | refine g_iadd (p0 := 6) dX5_hasLettersUpTo_5 rfl ?_
  refine g_istore_n (p0 := 7) (i := 2) (ls2 := [_, _, _]) dX5_hasLettersUpTo_6 rfl (Nat.le_of_ble_eq_true rfl) rfl rfl ?_
  have hl := hT.1
  refine hasL_l (Q := Ret (nI 0) σ) hT hC hp he hpe (fun _ => ⟨rfl, rfl⟩) (fun hall i => ?_) (e - (p + 1)) (p + 1) (by omega) (by omega) (fun j h1 h2 _ => absurd h2 (by omega))
  have h1 : ¬ p + 1 < e := fun q => h ⟨q, hall⟩
  refine g_iload_n (p0 := 38) (i := 1) dX5_hasLettersUpTo_37 rfl rfl rfl ?_
  refine g_aload_n (p0 := 39) (i := 0) dX5_hasLettersUpTo_38 rfl rfl rfl ?_
  refine g_getI (p0 := 42) dX5_hasLettersUpTo_39 fX5_24 (by first | rfl | assumption | exact RW.s (by assumption) | exact TW.s (by assumption)) rfl (by first | assumption | ((repeat (first | exact up_hit | refine up_nv (by decide) ?_ | refine up_mv (by first | decide | omega) ?_)) <;> first | assumption | rfl)) rfl ?_
  refine g_iconst (p0 := 43) (v := nI 1) dX5_hasLettersUpTo_42 rfl rfl ?_
  first | ((with_reducible refine isN2 ?_); refine g_iaddN (p0 := 44) dX5_hasLettersUpTo_43 rfl ?_) | refine g_iadd (p0 := 44) dX5_hasLettersUpTo_43 rfl ?_
  first | ((with_reducible refine isN2 ?_); refine g_icmpN_le (tgt := 51) (p1 := 47) dX5_hasLettersUpTo_44 rfl (by omega) (by omega) rfl (fun c_44 => ?_) (fun c_44 => by exfalso; first | omega | contradiction | exact absurd (by assumption) c_44 | (simp_all; done))) | refine g_icmp_le (tgt := 51) (p1 := 47) dX5_hasLettersUpTo_44 rfl rfl (fun c_44 => ?_) (fun c_44 => by exfalso; first | omega | contradiction | exact absurd (by assumption) c_44 | (simp_all; done))
  refine g_iconst (p0 := 52) (v := nI 0) dX5_hasLettersUpTo_51 rfl rfl ?_
  refine g_ireturn dX5_hasLettersUpTo_52 rfl (by first | rfl | exact bool_narrow (by first | exact Or.inl rfl | exact Or.inr rfl | assumption | (split <;> first | exact Or.inl rfl | exact Or.inr rfl))) (?_)
  exact ⟨rfl, rfl⟩
set_option maxRecDepth 20000 in
set_option maxHeartbeats 2000000 in
theorem num_l {T : Nat → Nat} {len p e d : Nat} {σ : Sg} {Q : SP} (hT : TOK T len) (hC : TC σ T len) (hp : σ 76 2 = nI p) (he : e < len) (he5 : e ≤ p + 5) (k0 : ¬ NUM T p e → Q (some (ai (-1))) σ) (k1 : ∀ k, p + 1 + k = e → (∀ i, p < i → i < e → 48 ≤ T i ∧ T i ≤ 57) → Q (some (ai (nI (numV T p k)))) σ) : ∀ q k, p + 1 + k + q = e → (∀ i, p < i → i < p + 1 + k → 48 ≤ T i ∧ T i ≤ 57) → ∀ x, WM mX5_numberUpTo Q 31 [some (ar 76), some (ai (nI e)), some (ai (nI d)), some (ai (nI (numV T p k))), some (ai (nI (p + 1 + k))), x] [] σ := by
  have hl := hT.1
  intro q
  induction q with
  | zero =>
    intro k hk hall x
    have z := k1 k (by omega) (fun i h1 h2 => hall i h1 (by omega))
    refine g_iload (p0 := 33) dX5_numberUpTo_31 rfl rfl ?_
    refine g_iload_n (p0 := 34) (i := 1) dX5_numberUpTo_33 rfl rfl rfl ?_
    first | ((with_reducible refine isN2 ?_); refine g_icmpN_ge (tgt := 79) (p1 := 37) dX5_numberUpTo_34 rfl (by omega) (by omega) rfl (fun c_34 => ?_) (fun c_34 => by exfalso; first | omega | contradiction | exact absurd (by assumption) c_34 | (simp_all; done))) | refine g_icmp_ge (tgt := 79) (p1 := 37) dX5_numberUpTo_34 rfl rfl (fun c_34 => ?_) (fun c_34 => by exfalso; first | omega | contradiction | exact absurd (by assumption) c_34 | (simp_all; done))
    refine g_iload_n (p0 := 80) (i := 3) dX5_numberUpTo_79 rfl rfl rfl ?_
    refine g_ireturn dX5_numberUpTo_80 rfl rfl (?_)
    exact z
  | succ q ih =>
    intro k hk hall x
    have h9 := numV_4 (T := T) (p := p) (k := k) (by omega) hall
    have et := hC.2 (p + 1 + k) (by omega)
    have hti := hT.2 (p + 1 + k) (by omega)
    by_cases hlo : 48 ≤ T (p + 1 + k)
    · by_cases hhi : T (p + 1 + k) ≤ 57
      · refine g_iload (p0 := 33) dX5_numberUpTo_31 rfl rfl ?_
        refine g_iload_n (p0 := 34) (i := 1) dX5_numberUpTo_33 rfl rfl rfl ?_
        first | ((with_reducible refine isN2 ?_); refine g_icmpN_ge (tgt := 79) (p1 := 37) dX5_numberUpTo_34 rfl (by omega) (by omega) rfl (fun c_34 => by exfalso; first | omega | contradiction | exact absurd (by assumption) c_34 | (simp_all; done)) (fun c_34 => ?_)) | refine g_icmp_ge (tgt := 79) (p1 := 37) dX5_numberUpTo_34 rfl rfl (fun c_34 => by exfalso; first | omega | contradiction | exact absurd (by assumption) c_34 | (simp_all; done)) (fun c_34 => ?_)
        refine g_aload_n (p0 := 38) (i := 0) dX5_numberUpTo_37 rfl rfl rfl ?_
        refine g_getR (p0 := 41) dX5_numberUpTo_38 fX5_14 (by first | rfl | assumption | exact RW.s (by assumption) | exact TW.s (by assumption)) rfl rfl ?_
        refine g_iload (p0 := 43) dX5_numberUpTo_41 rfl rfl ?_
        refine g_cV1R (p0 := 46) (r1 := mX7_at) dX5_numberUpTo_43 lX5_40 vX7_at (by first | rfl | assumption | exact RW.s (by assumption) | exact TW.s (by assumption)) ⟨_, _, rfl⟩ (FITi rfl rfl) (Nat.le_of_ble_eq_true rfl) (at_N ⟨rfl, rfl, by decide⟩ (by omega) et) rfl ?_
        refine g_bipush (p0 := 48) (v := nI 48) dX5_numberUpTo_46 (by decide) rfl ?_
        first | ((with_reducible refine isN2 ?_); refine g_isubN (p0 := 49) dX5_numberUpTo_48 (by omega) rfl ?_) | refine g_isub (p0 := 49) dX5_numberUpTo_48 rfl ?_
        refine g_istore (p0 := 51) (i := 5) (ls2 := [_, _, _, _, _, _]) dX5_numberUpTo_49 (Nat.le_of_ble_eq_true rfl) rfl rfl ?_
        refine g_iload (p0 := 53) dX5_numberUpTo_51 rfl rfl ?_
        first | ((with_reducible refine isN1 ?_); refine g_ifN_lt (tgt := 63) (p1 := 56) dX5_numberUpTo_53 rfl (by omega) rfl (fun c_53 => by exfalso; first | omega | contradiction | exact absurd (by assumption) c_53 | (simp_all; done)) (fun c_53 => ?_)) | refine g_if_lt (tgt := 63) (p1 := 56) dX5_numberUpTo_53 rfl rfl (fun c_53 => by exfalso; first | omega | contradiction | exact absurd (by assumption) c_53 | (simp_all; done)) (fun c_53 => ?_)
        refine g_iload (p0 := 58) dX5_numberUpTo_56 rfl rfl ?_
        refine g_bipush (p0 := 60) (v := nI 9) dX5_numberUpTo_58 (by decide) rfl ?_
        first | ((with_reducible refine isN2 ?_); refine g_icmpN_le (tgt := 65) (p1 := 63) dX5_numberUpTo_60 rfl (by omega) (by omega) rfl (fun c_60 => ?_) (fun c_60 => by exfalso; first | omega | contradiction | exact absurd (by assumption) c_60 | (simp_all; done))) | refine g_icmp_le (tgt := 65) (p1 := 63) dX5_numberUpTo_60 rfl rfl (fun c_60 => ?_) (fun c_60 => by exfalso; first | omega | contradiction | exact absurd (by assumption) c_60 | (simp_all; done))
        refine g_bipush (p0 := 67) (v := nI 10) dX5_numberUpTo_65 (by decide) rfl ?_
        refine g_iload_n (p0 := 68) (i := 3) dX5_numberUpTo_67 rfl rfl rfl ?_
        first | ((with_reducible refine isN2 ?_); refine g_imulN (p0 := 69) dX5_numberUpTo_68 rfl ?_) | refine g_imul (p0 := 69) dX5_numberUpTo_68 rfl ?_
        refine g_iload (p0 := 71) dX5_numberUpTo_69 rfl rfl ?_
        first | ((with_reducible refine isN2 ?_); refine g_iaddN (p0 := 72) dX5_numberUpTo_71 rfl ?_) | refine g_iadd (p0 := 72) dX5_numberUpTo_71 rfl ?_
        refine g_istore_n (p0 := 73) (i := 3) (ls2 := [_, _, _, _, _, _]) dX5_numberUpTo_72 rfl (Nat.le_of_ble_eq_true rfl) rfl rfl ?_
        first | refine g_iinc1 (p0 := 76) (ls2 := [_, _, _, _, _, _]) dX5_numberUpTo_73 rfl rfl rfl ?_ | refine g_iinc (p0 := 76) (ls2 := [_, _, _, _, _, _]) dX5_numberUpTo_73 rfl rfl rfl rfl ?_
        refine g_goto (tgt := 31) dX5_numberUpTo_76 rfl ?_
        refine ih (k + 1) (by omega) (fun i h1 h2 => ?_) _
        by_cases hj : i = p + 1 + k
        · rw [hj]; exact ⟨hlo, hhi⟩
        · exact hall i h1 (by omega)
      · refine g_iload (p0 := 33) dX5_numberUpTo_31 rfl rfl ?_
        refine g_iload_n (p0 := 34) (i := 1) dX5_numberUpTo_33 rfl rfl rfl ?_
        first | ((with_reducible refine isN2 ?_); refine g_icmpN_ge (tgt := 79) (p1 := 37) dX5_numberUpTo_34 rfl (by omega) (by omega) rfl (fun c_34 => by exfalso; first | omega | contradiction | exact absurd (by assumption) c_34 | (simp_all; done)) (fun c_34 => ?_)) | refine g_icmp_ge (tgt := 79) (p1 := 37) dX5_numberUpTo_34 rfl rfl (fun c_34 => by exfalso; first | omega | contradiction | exact absurd (by assumption) c_34 | (simp_all; done)) (fun c_34 => ?_)
        refine g_aload_n (p0 := 38) (i := 0) dX5_numberUpTo_37 rfl rfl rfl ?_
        refine g_getR (p0 := 41) dX5_numberUpTo_38 fX5_14 (by first | rfl | assumption | exact RW.s (by assumption) | exact TW.s (by assumption)) rfl rfl ?_
        refine g_iload (p0 := 43) dX5_numberUpTo_41 rfl rfl ?_
        refine g_cV1R (p0 := 46) (r1 := mX7_at) dX5_numberUpTo_43 lX5_40 vX7_at (by first | rfl | assumption | exact RW.s (by assumption) | exact TW.s (by assumption)) ⟨_, _, rfl⟩ (FITi rfl rfl) (Nat.le_of_ble_eq_true rfl) (at_N ⟨rfl, rfl, by decide⟩ (by omega) et) rfl ?_
        refine g_bipush (p0 := 48) (v := nI 48) dX5_numberUpTo_46 (by decide) rfl ?_
        first | ((with_reducible refine isN2 ?_); refine g_isubN (p0 := 49) dX5_numberUpTo_48 (by omega) rfl ?_) | refine g_isub (p0 := 49) dX5_numberUpTo_48 rfl ?_
        refine g_istore (p0 := 51) (i := 5) (ls2 := [_, _, _, _, _, _]) dX5_numberUpTo_49 (Nat.le_of_ble_eq_true rfl) rfl rfl ?_
        refine g_iload (p0 := 53) dX5_numberUpTo_51 rfl rfl ?_
        first | ((with_reducible refine isN1 ?_); refine g_ifN_lt (tgt := 63) (p1 := 56) dX5_numberUpTo_53 rfl (by omega) rfl (fun c_53 => by exfalso; first | omega | contradiction | exact absurd (by assumption) c_53 | (simp_all; done)) (fun c_53 => ?_)) | refine g_if_lt (tgt := 63) (p1 := 56) dX5_numberUpTo_53 rfl rfl (fun c_53 => by exfalso; first | omega | contradiction | exact absurd (by assumption) c_53 | (simp_all; done)) (fun c_53 => ?_)
        refine g_iload (p0 := 58) dX5_numberUpTo_56 rfl rfl ?_
        refine g_bipush (p0 := 60) (v := nI 9) dX5_numberUpTo_58 (by decide) rfl ?_
        first | ((with_reducible refine isN2 ?_); refine g_icmpN_le (tgt := 65) (p1 := 63) dX5_numberUpTo_60 rfl (by omega) (by omega) rfl (fun c_60 => by exfalso; first | omega | contradiction | exact absurd (by assumption) c_60 | (simp_all; done)) (fun c_60 => ?_)) | refine g_icmp_le (tgt := 65) (p1 := 63) dX5_numberUpTo_60 rfl rfl (fun c_60 => by exfalso; first | omega | contradiction | exact absurd (by assumption) c_60 | (simp_all; done)) (fun c_60 => ?_)
        refine g_iconst (p0 := 64) (v := -1) dX5_numberUpTo_63 rfl rfl ?_
        refine g_ireturn dX5_numberUpTo_64 rfl rfl (?_)
        exact k0 (fun z => hhi (z.2.2 _ (by omega) (by omega)).2)
    · have hneg : nI (T (p + 1 + k)) - nI 48 < 0 := by
        rw [Int32.lt_iff_toInt_lt, pk_sub_toInt (by omega) (by decide)]
        have e0 : (0 : Int32).toInt = 0 := by decide
        omega
      refine g_iload (p0 := 33) dX5_numberUpTo_31 rfl rfl ?_
      refine g_iload_n (p0 := 34) (i := 1) dX5_numberUpTo_33 rfl rfl rfl ?_
      first | ((with_reducible refine isN2 ?_); refine g_icmpN_ge (tgt := 79) (p1 := 37) dX5_numberUpTo_34 rfl (by omega) (by omega) rfl (fun c_34 => by exfalso; first | omega | exact c_34 hneg) (fun c_34 => ?_)) | refine g_icmp_ge (tgt := 79) (p1 := 37) dX5_numberUpTo_34 rfl rfl (fun c_34 => by exfalso; first | omega | exact c_34 hneg) (fun c_34 => ?_)
      refine g_aload_n (p0 := 38) (i := 0) dX5_numberUpTo_37 rfl rfl rfl ?_
      refine g_getR (p0 := 41) dX5_numberUpTo_38 fX5_14 (by first | rfl | assumption | exact RW.s (by assumption) | exact TW.s (by assumption)) rfl rfl ?_
      refine g_iload (p0 := 43) dX5_numberUpTo_41 rfl rfl ?_
      refine g_cV1R (p0 := 46) (r1 := mX7_at) dX5_numberUpTo_43 lX5_40 vX7_at (by first | rfl | assumption | exact RW.s (by assumption) | exact TW.s (by assumption)) ⟨_, _, rfl⟩ (FITi rfl rfl) (Nat.le_of_ble_eq_true rfl) (at_N ⟨rfl, rfl, by decide⟩ (by omega) et) rfl ?_
      refine g_bipush (p0 := 48) (v := nI 48) dX5_numberUpTo_46 (by decide) rfl ?_
      first | ((with_reducible refine isN2 ?_); refine g_isubN (p0 := 49) dX5_numberUpTo_48 (by omega) rfl ?_) | refine g_isub (p0 := 49) dX5_numberUpTo_48 rfl ?_
      refine g_istore (p0 := 51) (i := 5) (ls2 := [_, _, _, _, _, _]) dX5_numberUpTo_49 (Nat.le_of_ble_eq_true rfl) rfl rfl ?_
      refine g_iload (p0 := 53) dX5_numberUpTo_51 rfl rfl ?_
      first | ((with_reducible refine isN1 ?_); refine g_ifN_lt (tgt := 63) (p1 := 56) dX5_numberUpTo_53 rfl (by omega) rfl (fun c_53 => ?_) (fun c_53 => by exfalso; first | omega | exact c_53 hneg)) | refine g_if_lt (tgt := 63) (p1 := 56) dX5_numberUpTo_53 rfl rfl (fun c_53 => ?_) (fun c_53 => by exfalso; first | omega | exact c_53 hneg)
      refine g_iconst (p0 := 64) (v := -1) dX5_numberUpTo_63 rfl rfl ?_
      refine g_ireturn dX5_numberUpTo_64 rfl rfl (?_)
      exact k0 (fun z => hlo (z.2.2 _ (by omega) (by omega)).1)
set_option maxRecDepth 20000 in
set_option maxHeartbeats 2000000 in
theorem num_1 {T : Nat → Nat} {len p e : Nat} {σ : Sg} (hT : TOK T len) (hC : TC σ T len) (hp : σ 76 2 = nI p) (he : e < len) (hpe : p < e) (h : ¬ p + 1 < e) : CM mX5_numberUpTo [ar 76, ai (nI e)] σ (Ret (-1) σ) := by
  have hl := hT.1
  refine CM_in (ls := [some (ar 76), some (ai (nI e)), none, none, none, none]) rfl ?_
  refine g_iload_n (p0 := 1) (i := 1) dX5_numberUpTo_0 rfl rfl rfl ?_
  refine g_aload_n (p0 := 2) (i := 0) dX5_numberUpTo_1 rfl rfl rfl ?_
  refine g_getI (p0 := 5) dX5_numberUpTo_2 fX5_24 (by first | rfl | assumption | exact RW.s (by assumption) | exact TW.s (by assumption)) rfl (by first | assumption | ((repeat (first | exact up_hit | refine up_nv (by decide) ?_ | refine up_mv (by first | decide | omega) ?_)) <;> first | assumption | rfl)) rfl ?_
  first | ((with_reducible refine isN2 ?_); refine g_isubN (p0 := 6) dX5_numberUpTo_5 (by omega) rfl ?_) | refine g_isub (p0 := 6) dX5_numberUpTo_5 rfl ?_
  refine g_iconst (p0 := 7) (v := nI 1) dX5_numberUpTo_6 rfl rfl ?_
  first | ((with_reducible refine isN2 ?_); refine g_isubN (p0 := 8) dX5_numberUpTo_7 (by omega) rfl ?_) | refine g_isub (p0 := 8) dX5_numberUpTo_7 rfl ?_
  refine g_istore_n (p0 := 9) (i := 2) (ls2 := [_, _, _, _, _, _]) dX5_numberUpTo_8 rfl (Nat.le_of_ble_eq_true rfl) rfl rfl ?_
  refine g_iload_n (p0 := 10) (i := 2) dX5_numberUpTo_9 rfl rfl rfl ?_
  refine g_iconst (p0 := 11) (v := nI 1) dX5_numberUpTo_10 rfl rfl ?_
  first | ((with_reducible refine isN2 ?_); refine g_icmpN_lt (tgt := 19) (p1 := 14) dX5_numberUpTo_11 rfl (by omega) (by omega) rfl (fun c_11 => ?_) (fun c_11 => by exfalso; first | omega | contradiction | exact absurd (by assumption) c_11 | (simp_all; done))) | refine g_icmp_lt (tgt := 19) (p1 := 14) dX5_numberUpTo_11 rfl rfl (fun c_11 => ?_) (fun c_11 => by exfalso; first | omega | contradiction | exact absurd (by assumption) c_11 | (simp_all; done))
  refine g_iconst (p0 := 20) (v := -1) dX5_numberUpTo_19 rfl rfl ?_
  refine g_ireturn dX5_numberUpTo_20 rfl rfl (?_)
  exact ⟨rfl, rfl⟩
set_option maxRecDepth 20000 in
set_option maxHeartbeats 2000000 in
theorem num_2 {T : Nat → Nat} {len p e : Nat} {σ : Sg} (hT : TOK T len) (hC : TC σ T len) (hp : σ 76 2 = nI p) (he : e < len) (hpe : p < e) (h1 : p + 1 < e) (h : ¬ e ≤ p + 5) : CM mX5_numberUpTo [ar 76, ai (nI e)] σ (Ret (-1) σ) := by
  have hl := hT.1
  refine CM_in (ls := [some (ar 76), some (ai (nI e)), none, none, none, none]) rfl ?_
  refine g_iload_n (p0 := 1) (i := 1) dX5_numberUpTo_0 rfl rfl rfl ?_
  refine g_aload_n (p0 := 2) (i := 0) dX5_numberUpTo_1 rfl rfl rfl ?_
  refine g_getI (p0 := 5) dX5_numberUpTo_2 fX5_24 (by first | rfl | assumption | exact RW.s (by assumption) | exact TW.s (by assumption)) rfl (by first | assumption | ((repeat (first | exact up_hit | refine up_nv (by decide) ?_ | refine up_mv (by first | decide | omega) ?_)) <;> first | assumption | rfl)) rfl ?_
  first | ((with_reducible refine isN2 ?_); refine g_isubN (p0 := 6) dX5_numberUpTo_5 (by omega) rfl ?_) | refine g_isub (p0 := 6) dX5_numberUpTo_5 rfl ?_
  refine g_iconst (p0 := 7) (v := nI 1) dX5_numberUpTo_6 rfl rfl ?_
  first | ((with_reducible refine isN2 ?_); refine g_isubN (p0 := 8) dX5_numberUpTo_7 (by omega) rfl ?_) | refine g_isub (p0 := 8) dX5_numberUpTo_7 rfl ?_
  refine g_istore_n (p0 := 9) (i := 2) (ls2 := [_, _, _, _, _, _]) dX5_numberUpTo_8 rfl (Nat.le_of_ble_eq_true rfl) rfl rfl ?_
  refine g_iload_n (p0 := 10) (i := 2) dX5_numberUpTo_9 rfl rfl rfl ?_
  refine g_iconst (p0 := 11) (v := nI 1) dX5_numberUpTo_10 rfl rfl ?_
  first | ((with_reducible refine isN2 ?_); refine g_icmpN_lt (tgt := 19) (p1 := 14) dX5_numberUpTo_11 rfl (by omega) (by omega) rfl (fun c_11 => by exfalso; first | omega | contradiction | exact absurd (by assumption) c_11 | (simp_all; done)) (fun c_11 => ?_)) | refine g_icmp_lt (tgt := 19) (p1 := 14) dX5_numberUpTo_11 rfl rfl (fun c_11 => by exfalso; first | omega | contradiction | exact absurd (by assumption) c_11 | (simp_all; done)) (fun c_11 => ?_)
  refine g_iload_n (p0 := 15) (i := 2) dX5_numberUpTo_14 rfl rfl rfl ?_
  refine g_iconst (p0 := 16) (v := nI 4) dX5_numberUpTo_15 rfl rfl ?_
  first | ((with_reducible refine isN2 ?_); refine g_icmpN_le (tgt := 21) (p1 := 19) dX5_numberUpTo_16 rfl (by omega) (by omega) rfl (fun c_16 => by exfalso; first | omega | contradiction | exact absurd (by assumption) c_16 | (simp_all; done)) (fun c_16 => ?_)) | refine g_icmp_le (tgt := 21) (p1 := 19) dX5_numberUpTo_16 rfl rfl (fun c_16 => by exfalso; first | omega | contradiction | exact absurd (by assumption) c_16 | (simp_all; done)) (fun c_16 => ?_)
  refine g_iconst (p0 := 20) (v := -1) dX5_numberUpTo_19 rfl rfl ?_
  refine g_ireturn dX5_numberUpTo_20 rfl rfl (?_)
  exact ⟨rfl, rfl⟩
set_option maxRecDepth 20000 in
set_option maxHeartbeats 2000000 in
theorem num_3 {T : Nat → Nat} {len p e : Nat} {σ : Sg} (hT : TOK T len) (hC : TC σ T len) (hp : σ 76 2 = nI p) (he : e < len) (hpe : p < e) (h1 : p + 1 < e) (h2 : e ≤ p + 5) (h : ¬ NUM T p e) : CM mX5_numberUpTo [ar 76, ai (nI e)] σ (Ret (-1) σ) := by
  have hl := hT.1
  refine CM_in (ls := [some (ar 76), some (ai (nI e)), none, none, none, none]) rfl ?_
  refine g_iload_n (p0 := 1) (i := 1) dX5_numberUpTo_0 rfl rfl rfl ?_
  refine g_aload_n (p0 := 2) (i := 0) dX5_numberUpTo_1 rfl rfl rfl ?_
  refine g_getI (p0 := 5) dX5_numberUpTo_2 fX5_24 (by first | rfl | assumption | exact RW.s (by assumption) | exact TW.s (by assumption)) rfl (by first | assumption | ((repeat (first | exact up_hit | refine up_nv (by decide) ?_ | refine up_mv (by first | decide | omega) ?_)) <;> first | assumption | rfl)) rfl ?_
  first | ((with_reducible refine isN2 ?_); refine g_isubN (p0 := 6) dX5_numberUpTo_5 (by omega) rfl ?_) | refine g_isub (p0 := 6) dX5_numberUpTo_5 rfl ?_
  refine g_iconst (p0 := 7) (v := nI 1) dX5_numberUpTo_6 rfl rfl ?_
  first | ((with_reducible refine isN2 ?_); refine g_isubN (p0 := 8) dX5_numberUpTo_7 (by omega) rfl ?_) | refine g_isub (p0 := 8) dX5_numberUpTo_7 rfl ?_
  refine g_istore_n (p0 := 9) (i := 2) (ls2 := [_, _, _, _, _, _]) dX5_numberUpTo_8 rfl (Nat.le_of_ble_eq_true rfl) rfl rfl ?_
  refine g_iload_n (p0 := 10) (i := 2) dX5_numberUpTo_9 rfl rfl rfl ?_
  refine g_iconst (p0 := 11) (v := nI 1) dX5_numberUpTo_10 rfl rfl ?_
  first | ((with_reducible refine isN2 ?_); refine g_icmpN_lt (tgt := 19) (p1 := 14) dX5_numberUpTo_11 rfl (by omega) (by omega) rfl (fun c_11 => by exfalso; first | omega | contradiction | exact absurd (by assumption) c_11 | (simp_all; done)) (fun c_11 => ?_)) | refine g_icmp_lt (tgt := 19) (p1 := 14) dX5_numberUpTo_11 rfl rfl (fun c_11 => by exfalso; first | omega | contradiction | exact absurd (by assumption) c_11 | (simp_all; done)) (fun c_11 => ?_)
  refine g_iload_n (p0 := 15) (i := 2) dX5_numberUpTo_14 rfl rfl rfl ?_
  refine g_iconst (p0 := 16) (v := nI 4) dX5_numberUpTo_15 rfl rfl ?_
  first | ((with_reducible refine isN2 ?_); refine g_icmpN_le (tgt := 21) (p1 := 19) dX5_numberUpTo_16 rfl (by omega) (by omega) rfl (fun c_16 => ?_) (fun c_16 => by exfalso; first | omega | contradiction | exact absurd (by assumption) c_16 | (simp_all; done))) | refine g_icmp_le (tgt := 21) (p1 := 19) dX5_numberUpTo_16 rfl rfl (fun c_16 => ?_) (fun c_16 => by exfalso; first | omega | contradiction | exact absurd (by assumption) c_16 | (simp_all; done))
  refine g_iconst (p0 := 22) (v := nI 0) dX5_numberUpTo_21 rfl rfl ?_
  refine g_istore_n (p0 := 23) (i := 3) (ls2 := [_, _, _, _, _, _]) dX5_numberUpTo_22 rfl (Nat.le_of_ble_eq_true rfl) rfl rfl ?_
  refine g_aload_n (p0 := 24) (i := 0) dX5_numberUpTo_23 rfl rfl rfl ?_
  refine g_getI (p0 := 27) dX5_numberUpTo_24 fX5_24 (by first | rfl | assumption | exact RW.s (by assumption) | exact TW.s (by assumption)) rfl (by first | assumption | ((repeat (first | exact up_hit | refine up_nv (by decide) ?_ | refine up_mv (by first | decide | omega) ?_)) <;> first | assumption | rfl)) rfl ?_
  refine g_iconst (p0 := 28) (v := nI 1) dX5_numberUpTo_27 rfl rfl ?_
  first | ((with_reducible refine isN2 ?_); refine g_iaddN (p0 := 29) dX5_numberUpTo_28 rfl ?_) | refine g_iadd (p0 := 29) dX5_numberUpTo_28 rfl ?_
  refine g_istore (p0 := 31) (i := 4) (ls2 := [_, _, _, _, _, _]) dX5_numberUpTo_29 (Nat.le_of_ble_eq_true rfl) rfl rfl ?_
  exact num_l (Q := Ret (-1) σ) (d := e - p - 1) hT hC hp he h2 (fun _ => ⟨rfl, rfl⟩) (fun k hk hall => absurd ⟨h1, h2, hall⟩ h) (e - (p + 1)) 0 (by omega) (fun i h1 h2 => absurd h2 (by omega)) _
set_option maxRecDepth 20000 in
set_option maxHeartbeats 2000000 in
theorem num_T {T : Nat → Nat} {len p e : Nat} {σ : Sg} (hT : TOK T len) (hC : TC σ T len) (hp : σ 76 2 = nI p) (he : e < len) (hpe : p < e) (h : NUM T p e) : CM mX5_numberUpTo [ar 76, ai (nI e)] σ (Ret (nI (numV T p (e - p - 1))) σ) := by
  have hl := hT.1
  obtain ⟨h1, h2, h3⟩ := id h
  refine CM_in (ls := [some (ar 76), some (ai (nI e)), none, none, none, none]) rfl ?_
  refine g_iload_n (p0 := 1) (i := 1) dX5_numberUpTo_0 rfl rfl rfl ?_
  refine g_aload_n (p0 := 2) (i := 0) dX5_numberUpTo_1 rfl rfl rfl ?_
  refine g_getI (p0 := 5) dX5_numberUpTo_2 fX5_24 (by first | rfl | assumption | exact RW.s (by assumption) | exact TW.s (by assumption)) rfl (by first | assumption | ((repeat (first | exact up_hit | refine up_nv (by decide) ?_ | refine up_mv (by first | decide | omega) ?_)) <;> first | assumption | rfl)) rfl ?_
  first | ((with_reducible refine isN2 ?_); refine g_isubN (p0 := 6) dX5_numberUpTo_5 (by omega) rfl ?_) | refine g_isub (p0 := 6) dX5_numberUpTo_5 rfl ?_
  refine g_iconst (p0 := 7) (v := nI 1) dX5_numberUpTo_6 rfl rfl ?_
  first | ((with_reducible refine isN2 ?_); refine g_isubN (p0 := 8) dX5_numberUpTo_7 (by omega) rfl ?_) | refine g_isub (p0 := 8) dX5_numberUpTo_7 rfl ?_
  refine g_istore_n (p0 := 9) (i := 2) (ls2 := [_, _, _, _, _, _]) dX5_numberUpTo_8 rfl (Nat.le_of_ble_eq_true rfl) rfl rfl ?_
  refine g_iload_n (p0 := 10) (i := 2) dX5_numberUpTo_9 rfl rfl rfl ?_
  refine g_iconst (p0 := 11) (v := nI 1) dX5_numberUpTo_10 rfl rfl ?_
  first | ((with_reducible refine isN2 ?_); refine g_icmpN_lt (tgt := 19) (p1 := 14) dX5_numberUpTo_11 rfl (by omega) (by omega) rfl (fun c_11 => by exfalso; first | omega | contradiction | exact absurd (by assumption) c_11 | (simp_all; done)) (fun c_11 => ?_)) | refine g_icmp_lt (tgt := 19) (p1 := 14) dX5_numberUpTo_11 rfl rfl (fun c_11 => by exfalso; first | omega | contradiction | exact absurd (by assumption) c_11 | (simp_all; done)) (fun c_11 => ?_)
  refine g_iload_n (p0 := 15) (i := 2) dX5_numberUpTo_14 rfl rfl rfl ?_
  refine g_iconst (p0 := 16) (v := nI 4) dX5_numberUpTo_15 rfl rfl ?_
  first | ((with_reducible refine isN2 ?_); refine g_icmpN_le (tgt := 21) (p1 := 19) dX5_numberUpTo_16 rfl (by omega) (by omega) rfl (fun c_16 => ?_) (fun c_16 => by exfalso; first | omega | contradiction | exact absurd (by assumption) c_16 | (simp_all; done))) | refine g_icmp_le (tgt := 21) (p1 := 19) dX5_numberUpTo_16 rfl rfl (fun c_16 => ?_) (fun c_16 => by exfalso; first | omega | contradiction | exact absurd (by assumption) c_16 | (simp_all; done))
  refine g_iconst (p0 := 22) (v := nI 0) dX5_numberUpTo_21 rfl rfl ?_
  refine g_istore_n (p0 := 23) (i := 3) (ls2 := [_, _, _, _, _, _]) dX5_numberUpTo_22 rfl (Nat.le_of_ble_eq_true rfl) rfl rfl ?_
  refine g_aload_n (p0 := 24) (i := 0) dX5_numberUpTo_23 rfl rfl rfl ?_
  refine g_getI (p0 := 27) dX5_numberUpTo_24 fX5_24 (by first | rfl | assumption | exact RW.s (by assumption) | exact TW.s (by assumption)) rfl (by first | assumption | ((repeat (first | exact up_hit | refine up_nv (by decide) ?_ | refine up_mv (by first | decide | omega) ?_)) <;> first | assumption | rfl)) rfl ?_
  refine g_iconst (p0 := 28) (v := nI 1) dX5_numberUpTo_27 rfl rfl ?_
  first | ((with_reducible refine isN2 ?_); refine g_iaddN (p0 := 29) dX5_numberUpTo_28 rfl ?_) | refine g_iadd (p0 := 29) dX5_numberUpTo_28 rfl ?_
  refine g_istore (p0 := 31) (i := 4) (ls2 := [_, _, _, _, _, _]) dX5_numberUpTo_29 (Nat.le_of_ble_eq_true rfl) rfl rfl ?_
  exact num_l (Q := Ret (nI (numV T p (e - p - 1))) σ) (d := e - p - 1) hT hC hp he h2 (fun z => absurd h z) (fun k hk _ => by rw [show k = e - p - 1 by omega]; exact ⟨rfl, rfl⟩) (e - (p + 1)) 0 (by omega) (fun i h1 h2 => absurd h2 (by omega)) _
theorem num_F {T : Nat → Nat} {len p e : Nat} {σ : Sg} (hT : TOK T len) (hC : TC σ T len) (hp : σ 76 2 = nI p) (he : e < len) (hpe : p < e) (h : ¬ NUM T p e) : CM mX5_numberUpTo [ar 76, ai (nI e)] σ (Ret (-1) σ) := by
  by_cases h1 : p + 1 < e
  · by_cases h2 : e ≤ p + 5
    · exact num_3 hT hC hp he hpe h1 h2 h
    · exact num_2 hT hC hp he hpe h1 h2
  · exact num_1 hT hC hp he hpe h1
