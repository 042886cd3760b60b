/-! QUESTIONS: values of letters -/
/-- the reference's letters and the values that the class keeps of them -/
def VAL (σ : Sg) (L : Nat) (g a b : Nat → Nat) (v : Nat → Int32) : Prop := LTr σ L g a b ∧ L ≤ 160 ∧ (∀ l, l < L → g l < 1000 ∧ a l < 1000 ∧ b l < 1000) ∧ ∃ (s : Nat) (lc : Nat → Int32), RowOK (σ 80) s ∧ (0 < L → ∀ l x, l < 25 → x < 25 → σ 80 (4 + l) = nI x → lc x = nI l) ∧ ∀ l, l < L → v l = val lc (g l) (a l) (b l)
theorem val_good {σ : Sg} {s : Nat} {lc : Nat → Int32} (hR : RowOK (σ 80) s) (hlc : ∀ l x, l < 25 → x < 25 → σ 80 (4 + l) = nI x → lc x = nI l) {a b : Nat} (h : GD a b) : val lc 2 a b = nI (latF (σ 80) (nI (5 * a + b - 6)) 25) ∧ latF (σ 80) (nI (5 * a + b - 6)) 25 < 25 := by
  obtain ⟨q1, q2, q3, q4⟩ := h
  have hx : 5 * a + b - 6 < 25 := by omega
  obtain ⟨h1, h2⟩ := lat_eq hR hx
  have e : 5 * (a - 1) + b - 1 = 5 * a + b - 6 := by omega
  rw [val, if_pos ⟨rfl, q1, q2, q3, q4⟩, e, hlc _ _ h1 hx h2]
  exact ⟨rfl, h1⟩
theorem nI_ne_m1 {n : Nat} (h : n < 1000) : nI n ≠ -1 := by
  intro e
  have e2 := congrArg Int32.toInt e
  rw [nI_toInt (by omega)] at e2
  have e3 : (-1 : Int32).toInt = -1 := by decide
  omega
theorem VAL.read {σ : Sg} {L : Nat} {g a b : Nat → Nat} {v : Nat → Int32} (h : VAL σ L g a b v) {l : Nat} (hl : l < L) : (v l = -1 ∧ CM mX10_isReadable [ar 79, ai (nI l)] σ (Ret (nI 0) σ)) ∨ (v l ≠ -1 ∧ g l = 2 ∧ GD (a l) (b l) ∧ v l = nI (latF (σ 80) (nI (5 * a l + b l - 6)) 25) ∧ latF (σ 80) (nI (5 * a l + b l - 6)) 25 < 25 ∧ CM mX10_isReadable [ar 79, ai (nI l)] σ (Ret (nI 1) σ) ∧ CM mX10_read0 [ar 79, ai (nI l)] σ (Ret (v l) σ)) := by
  obtain ⟨hL, h160, hb, s, lc, hR, hlc, hv⟩ := h
  obtain ⟨l1, l2, l3⟩ := hL.2 l hl
  obtain ⟨b1, b2, b3⟩ := hb l hl
  have e := hv l hl
  by_cases h2 : g l = 2
  · by_cases hG : GD (a l) (b l)
    · rw [h2] at e
      obtain ⟨e1, e2⟩ := val_good hR (hlc (by omega)) hG
      rw [e1] at e
      refine Or.inr ⟨by rw [e]; exact nI_ne_m1 (by omega), h2, hG, e, e2, isReadable_T (by omega) l1 l2 l3 b1 b2 b3 h2 hG, ?_⟩
      rw [e]
      exact read0_sp (by omega) l2 l3 hG
    · refine Or.inl ⟨by rw [e, val, if_neg (fun q => hG q.2)], isReadable_F2 (by omega) l1 l2 l3 b1 b2 b3 h2 hG⟩
  · exact Or.inl ⟨by rw [e, val, if_neg (fun q => h2 q.1)], isReadable_F1 (by omega) l1 l2 l3 b1 b2 b3 h2⟩
/-- both readings together -/
theorem VAL_of {σ σ' : Sg} {s : Nat} (hR : RowOK (σ 80) s) (hC : RDC σ (σ 80) s) (hRR : RDR σ' (σ 80) s) (hf : FRl σ σ') : VAL σ' (Lc (kaF (tm (σ 80)) (σ 80 0)) s) (gr (kaF (tm (σ 80)) (σ 80 0)) s) (o1 (kaF (tm (σ 80)) (σ 80 0)) s) (o2 (kaF (tm (σ 80)) (σ 80 0)) s) (σ 42) := by
  have bL := Mc_le (kaF (tm (σ 80)) (σ 80 0)) s
  have hs1 := hR.2.1
  have hc5 := kaF_le (tm (σ 80)) (σ 80 0)
  have e80 := hf.1 80 (by decide) (by decide)
  refine ⟨hRR.1.1, by omega, fun l hl => ?_, s, σ 44, by rw [e80]; exact hR, fun hL0 => by rw [e80]; exact hC.2.2.2.2.2.1 (by omega), hC.2.2.2.2.1⟩
  have a1 := gr_le (kaF (tm (σ 80)) (σ 80 0)) s l
  have a2 := o1_le (kaF (tm (σ 80)) (σ 80 0)) hc5 s l
  have a3 := o2_le (kaF (tm (σ 80)) (σ 80 0)) hc5 s l
  omega
set_option maxRecDepth 20000 in
set_option maxHeartbeats 2000000 in
theorem unread_loop {L m f f2 : Nat} {g a b : Nat → Nat} {v : Nat → Int32} {σ : Sg} {Q : SP} (hV : VAL σ L g a b v) (hm : m < 160) (h1 : σ 92 (m + 1) = nI f2) (hf2 : f2 ≤ L) (k : ∀ n, f + n = f2 → Q (some (ai (nI (uF v f n)))) σ) : ∀ q n, f + n + q = f2 → WM mX10_unreadable Q 9 [some (ar 79), some (ai (nI m)), some (ai (nI (uF v f n))), some (ai (nI (f + n)))] [] σ := by
  have h160 := hV.2.1
  intro q
  induction q with
  | zero =>
    intro n hn
    refine g_iload_n (p0 := 10) (i := 3) dX10_unreadable_9 rfl rfl rfl ?_
    refine g_aload_n (p0 := 11) (i := 0) dX10_unreadable_10 rfl rfl rfl ?_
    refine g_getR (p0 := 14) dX10_unreadable_11 fX10_46 (by first | rfl | assumption | exact RW.s (by assumption) | exact TW.s (by assumption)) rfl rfl ?_
    refine g_iload_n (p0 := 15) (i := 1) dX10_unreadable_14 rfl rfl rfl ?_
    refine g_iconst (p0 := 16) (v := nI 1) dX10_unreadable_15 rfl rfl ?_
    first | ((with_reducible refine isN2 ?_); refine g_iaddN (p0 := 17) dX10_unreadable_16 rfl ?_) | refine g_iadd (p0 := 17) dX10_unreadable_16 rfl ?_
    first | ((with_reducible refine isN1 ?_); refine g_aldN (p0 := 18) dX10_unreadable_17 (by first | rfl | assumption | exact RW.s (by assumption) | exact TW.s (by assumption)) (by first | decide | assumption) (by omega) (by first | assumption | ((repeat (first | exact up_hit | refine up_nv (by decide) ?_ | refine up_mv (by first | decide | omega) ?_)) <;> first | assumption | rfl)) rfl ?_) | refine g_ald (p0 := 18) dX10_unreadable_17 (by first | rfl | assumption | exact RW.s (by assumption) | exact TW.s (by assumption)) (by assumption) (by first | assumption | ((repeat (first | exact up_hit | refine up_nv (by decide) ?_ | refine up_mv (by first | decide | omega) ?_)) <;> first | assumption | rfl)) rfl ?_
    first | ((with_reducible refine isN2 ?_); refine g_icmpN_ge (tgt := 43) (p1 := 21) dX10_unreadable_18 rfl (by omega) (by omega) rfl (fun c_18 => ?_) (fun c_18 => by exfalso; first | omega | contradiction | exact absurd (by assumption) c_18 | (simp_all; done))) | refine g_icmp_ge (tgt := 43) (p1 := 21) dX10_unreadable_18 rfl rfl (fun c_18 => ?_) (fun c_18 => by exfalso; first | omega | contradiction | exact absurd (by assumption) c_18 | (simp_all; done))
    refine g_iload_n (p0 := 44) (i := 2) dX10_unreadable_43 rfl rfl rfl ?_
    refine g_ireturn dX10_unreadable_44 rfl rfl (?_)
    exact k n (by omega)
  | succ q ih =>
    intro n hn
    rcases hV.read (l := f + n) (by omega) with ⟨hv, hr⟩ | ⟨hv, _, _, _, _, hr, _⟩
    · have e : uF v f (n + 1) = uF v f n + 1 := by rw [uF, if_pos hv]
      have h := ih (n + 1) (by omega)
      rw [e] at h
      refine g_iload_n (p0 := 10) (i := 3) dX10_unreadable_9 rfl rfl rfl ?_
      refine g_aload_n (p0 := 11) (i := 0) dX10_unreadable_10 rfl rfl rfl ?_
      refine g_getR (p0 := 14) dX10_unreadable_11 fX10_46 (by first | rfl | assumption | exact RW.s (by assumption) | exact TW.s (by assumption)) rfl rfl ?_
      refine g_iload_n (p0 := 15) (i := 1) dX10_unreadable_14 rfl rfl rfl ?_
      refine g_iconst (p0 := 16) (v := nI 1) dX10_unreadable_15 rfl rfl ?_
      first | ((with_reducible refine isN2 ?_); refine g_iaddN (p0 := 17) dX10_unreadable_16 rfl ?_) | refine g_iadd (p0 := 17) dX10_unreadable_16 rfl ?_
      first | ((with_reducible refine isN1 ?_); refine g_aldN (p0 := 18) dX10_unreadable_17 (by first | rfl | assumption | exact RW.s (by assumption) | exact TW.s (by assumption)) (by first | decide | assumption) (by omega) (by first | assumption | ((repeat (first | exact up_hit | refine up_nv (by decide) ?_ | refine up_mv (by first | decide | omega) ?_)) <;> first | assumption | rfl)) rfl ?_) | refine g_ald (p0 := 18) dX10_unreadable_17 (by first | rfl | assumption | exact RW.s (by assumption) | exact TW.s (by assumption)) (by assumption) (by first | assumption | ((repeat (first | exact up_hit | refine up_nv (by decide) ?_ | refine up_mv (by first | decide | omega) ?_)) <;> first | assumption | rfl)) rfl ?_
      first | ((with_reducible refine isN2 ?_); refine g_icmpN_ge (tgt := 43) (p1 := 21) dX10_unreadable_18 rfl (by omega) (by omega) rfl (fun c_18 => by exfalso; first | omega | contradiction | exact absurd (by assumption) c_18 | (simp_all; done)) (fun c_18 => ?_)) | refine g_icmp_ge (tgt := 43) (p1 := 21) dX10_unreadable_18 rfl rfl (fun c_18 => by exfalso; first | omega | contradiction | exact absurd (by assumption) c_18 | (simp_all; done)) (fun c_18 => ?_)
      refine g_iload_n (p0 := 22) (i := 2) dX10_unreadable_21 rfl rfl rfl ?_
      refine g_aload_n (p0 := 23) (i := 0) dX10_unreadable_22 rfl rfl rfl ?_
      refine g_iload_n (p0 := 24) (i := 3) dX10_unreadable_23 rfl rfl rfl ?_
      refine g_cV1R (p0 := 27) (r1 := mX10_isReadable) dX10_unreadable_24 lX10_145 vX10_isReadable (by first | rfl | assumption | exact RW.s (by assumption) | exact TW.s (by assumption)) ⟨_, _, rfl⟩ (FITi rfl rfl) (Nat.le_of_ble_eq_true rfl) (hr) rfl ?_
      first | ((with_reducible refine isN1 ?_); refine g_ifN_eq (tgt := 34) (p1 := 30) dX10_unreadable_27 rfl (by omega) rfl (fun c_27 => ?_) (fun c_27 => by exfalso; first | omega | contradiction | exact absurd (by assumption) c_27 | (simp_all; done))) | refine g_if_eq (tgt := 34) (p1 := 30) dX10_unreadable_27 rfl rfl (fun c_27 => ?_) (fun c_27 => by exfalso; first | omega | contradiction | exact absurd (by assumption) c_27 | (simp_all; done))
      refine g_iconst (p0 := 35) (v := nI 1) dX10_unreadable_34 rfl rfl ?_
      first | ((with_reducible refine isN2 ?_); refine g_iaddN (p0 := 36) dX10_unreadable_35 rfl ?_) | refine g_iadd (p0 := 36) dX10_unreadable_35 rfl ?_
      refine g_istore_n (p0 := 37) (i := 2) (ls2 := [_, _, _, _]) dX10_unreadable_36 rfl (Nat.le_of_ble_eq_true rfl) rfl rfl ?_
      first | refine g_iinc1 (p0 := 40) (ls2 := [_, _, _, _]) dX10_unreadable_37 rfl rfl rfl ?_ | refine g_iinc (p0 := 40) (ls2 := [_, _, _, _]) dX10_unreadable_37 rfl rfl rfl rfl ?_
      refine g_goto (tgt := 9) dX10_unreadable_40 rfl ?_
      exact h
    · have e : uF v f (n + 1) = uF v f n := by rw [uF, if_neg hv]
      have h := ih (n + 1) (by omega)
      rw [e] at h
      refine g_iload_n (p0 := 10) (i := 3) dX10_unreadable_9 rfl rfl rfl ?_
      refine g_aload_n (p0 := 11) (i := 0) dX10_unreadable_10 rfl rfl rfl ?_
      refine g_getR (p0 := 14) dX10_unreadable_11 fX10_46 (by first | rfl | assumption | exact RW.s (by assumption) | exact TW.s (by assumption)) rfl rfl ?_
      refine g_iload_n (p0 := 15) (i := 1) dX10_unreadable_14 rfl rfl rfl ?_
      refine g_iconst (p0 := 16) (v := nI 1) dX10_unreadable_15 rfl rfl ?_
      first | ((with_reducible refine isN2 ?_); refine g_iaddN (p0 := 17) dX10_unreadable_16 rfl ?_) | refine g_iadd (p0 := 17) dX10_unreadable_16 rfl ?_
      first | ((with_reducible refine isN1 ?_); refine g_aldN (p0 := 18) dX10_unreadable_17 (by first | rfl | assumption | exact RW.s (by assumption) | exact TW.s (by assumption)) (by first | decide | assumption) (by omega) (by first | assumption | ((repeat (first | exact up_hit | refine up_nv (by decide) ?_ | refine up_mv (by first | decide | omega) ?_)) <;> first | assumption | rfl)) rfl ?_) | refine g_ald (p0 := 18) dX10_unreadable_17 (by first | rfl | assumption | exact RW.s (by assumption) | exact TW.s (by assumption)) (by assumption) (by first | assumption | ((repeat (first | exact up_hit | refine up_nv (by decide) ?_ | refine up_mv (by first | decide | omega) ?_)) <;> first | assumption | rfl)) rfl ?_
      first | ((with_reducible refine isN2 ?_); refine g_icmpN_ge (tgt := 43) (p1 := 21) dX10_unreadable_18 rfl (by omega) (by omega) rfl (fun c_18 => by exfalso; first | omega | contradiction | exact absurd (by assumption) c_18 | (simp_all; done)) (fun c_18 => ?_)) | refine g_icmp_ge (tgt := 43) (p1 := 21) dX10_unreadable_18 rfl rfl (fun c_18 => by exfalso; first | omega | contradiction | exact absurd (by assumption) c_18 | (simp_all; done)) (fun c_18 => ?_)
      refine g_iload_n (p0 := 22) (i := 2) dX10_unreadable_21 rfl rfl rfl ?_
      refine g_aload_n (p0 := 23) (i := 0) dX10_unreadable_22 rfl rfl rfl ?_
      refine g_iload_n (p0 := 24) (i := 3) dX10_unreadable_23 rfl rfl rfl ?_
      refine g_cV1R (p0 := 27) (r1 := mX10_isReadable) dX10_unreadable_24 lX10_145 vX10_isReadable (by first | rfl | assumption | exact RW.s (by assumption) | exact TW.s (by assumption)) ⟨_, _, rfl⟩ (FITi rfl rfl) (Nat.le_of_ble_eq_true rfl) (hr) rfl ?_
      first | ((with_reducible refine isN1 ?_); refine g_ifN_eq (tgt := 34) (p1 := 30) dX10_unreadable_27 rfl (by omega) rfl (fun c_27 => by exfalso; first | omega | contradiction | exact absurd (by assumption) c_27 | (simp_all; done)) (fun c_27 => ?_)) | refine g_if_eq (tgt := 34) (p1 := 30) dX10_unreadable_27 rfl rfl (fun c_27 => by exfalso; first | omega | contradiction | exact absurd (by assumption) c_27 | (simp_all; done)) (fun c_27 => ?_)
      refine g_iconst (p0 := 31) (v := nI 0) dX10_unreadable_30 rfl rfl ?_
      refine g_goto (tgt := 35) dX10_unreadable_31 rfl ?_
      first | ((with_reducible refine isN2 ?_); refine g_iaddN (p0 := 36) dX10_unreadable_35 rfl ?_) | refine g_iadd (p0 := 36) dX10_unreadable_35 rfl ?_
      refine g_istore_n (p0 := 37) (i := 2) (ls2 := [_, _, _, _]) dX10_unreadable_36 rfl (Nat.le_of_ble_eq_true rfl) rfl rfl ?_
      first | refine g_iinc1 (p0 := 40) (ls2 := [_, _, _, _]) dX10_unreadable_37 rfl rfl rfl ?_ | refine g_iinc (p0 := 40) (ls2 := [_, _, _, _]) dX10_unreadable_37 rfl rfl rfl rfl ?_
      refine g_goto (tgt := 9) dX10_unreadable_40 rfl ?_
      exact h
set_option maxRecDepth 20000 in
set_option maxHeartbeats 2000000 in
theorem unreadable_sp {L m f n : Nat} {g a b : Nat → Nat} {v : Nat → Int32} {σ : Sg} (hV : VAL σ L g a b v) (hm : m < 160) (h0 : σ 92 m = nI f) (h1 : σ 92 (m + 1) = nI (f + n)) (hf2 : f + n ≤ L) : CM mX10_unreadable [ar 79, ai (nI m)] σ (Ret (nI (uF v f n)) σ) := by
  refine CM_in (ls := [some (ar 79), some (ai (nI m)), none, none]) rfl ?_
  refine g_iconst (p0 := 1) (v := nI 0) dX10_unreadable_0 rfl rfl ?_
  refine g_istore_n (p0 := 2) (i := 2) (ls2 := [_, _, _, _]) dX10_unreadable_1 rfl (Nat.le_of_ble_eq_true rfl) rfl rfl ?_
  refine g_aload_n (p0 := 3) (i := 0) dX10_unreadable_2 rfl rfl rfl ?_
  refine g_getR (p0 := 6) dX10_unreadable_3 fX10_46 (by first | rfl | assumption | exact RW.s (by assumption) | exact TW.s (by assumption)) rfl rfl ?_
  refine g_iload_n (p0 := 7) (i := 1) dX10_unreadable_6 rfl rfl rfl ?_
  first | ((with_reducible refine isN1 ?_); refine g_aldN (p0 := 8) dX10_unreadable_7 (by first | rfl | assumption | exact RW.s (by assumption) | exact TW.s (by assumption)) (by first | decide | assumption) (by omega) (by first | assumption | ((repeat (first | exact up_hit | refine up_nv (by decide) ?_ | refine up_mv (by first | decide | omega) ?_)) <;> first | assumption | rfl)) rfl ?_) | refine g_ald (p0 := 8) dX10_unreadable_7 (by first | rfl | assumption | exact RW.s (by assumption) | exact TW.s (by assumption)) (by assumption) (by first | assumption | ((repeat (first | exact up_hit | refine up_nv (by decide) ?_ | refine up_mv (by first | decide | omega) ?_)) <;> first | assumption | rfl)) rfl ?_
  refine g_istore_n (p0 := 9) (i := 3) (ls2 := [_, _, _, _]) dX10_unreadable_8 rfl (Nat.le_of_ble_eq_true rfl) rfl rfl ?_
  exact unread_loop (Q := Ret (nI (uF v f n)) σ) hV hm h1 hf2 (fun n2 e => by rw [show n2 = n by omega]; exact ⟨rfl, rfl⟩) n 0 (by omega)
