/-! THE CLASS: out of the rows of whole -/
def THR (ρ : Nat → Int32) (s : Nat) (x : Int32) : Prop := ah (tm ρ) s x < s ∧ ρ (29 + ah (tm ρ) s x) = x
set_option maxRecDepth 20000 in
set_option maxHeartbeats 2000000 in
theorem strike_cT {j : Nat} {σ : Sg} (hj : j ≤ 9999) (h : CM mX8_hasStrokeAt [ar 1, ai (nI j)] σ (Ret (nI 1) σ)) : CM mX9_strike [ar 0, ai (nI j)] σ (Ret (-1000002) σ) := by
  refine CM_in (ls := [some (ar 0), some (ai (nI j)), none]) rfl ?_
  refine g_iload_n (p0 := 1) (i := 1) dX9_strike_0 rfl rfl rfl ?_
  first | ((with_reducible refine isN1 ?_); refine g_ifN_lt (tgt := 11) (p1 := 4) dX9_strike_1 rfl (by omega) rfl (fun c_1 => by exfalso; first | omega | contradiction | exact absurd (by assumption) c_1 | (simp_all; done)) (fun c_1 => ?_)) | refine g_if_lt (tgt := 11) (p1 := 4) dX9_strike_1 rfl rfl (fun c_1 => by exfalso; first | omega | contradiction | exact absurd (by assumption) c_1 | (simp_all; done)) (fun c_1 => ?_)
  refine g_iload_n (p0 := 5) (i := 1) dX9_strike_4 rfl rfl rfl ?_
  refine g_sipush (p0 := 8) (v := nI 9999) dX9_strike_5 (by decide) rfl ?_
  first | ((with_reducible refine isN2 ?_); refine g_icmpN_le (tgt := 14) (p1 := 11) dX9_strike_8 rfl (by omega) (by omega) rfl (fun c_8 => ?_) (fun c_8 => by exfalso; first | omega | contradiction | exact absurd (by assumption) c_8 | (simp_all; done))) | refine g_icmp_le (tgt := 14) (p1 := 11) dX9_strike_8 rfl rfl (fun c_8 => ?_) (fun c_8 => by exfalso; first | omega | contradiction | exact absurd (by assumption) c_8 | (simp_all; done))
  refine g_aload_n (p0 := 15) (i := 0) dX9_strike_14 rfl rfl rfl ?_
  refine g_getR (p0 := 18) dX9_strike_15 fX9_10 (by first | rfl | assumption | exact RW.s (by assumption) | exact TW.s (by assumption)) rfl rfl ?_
  refine g_iload_n (p0 := 19) (i := 1) dX9_strike_18 rfl rfl rfl ?_
  refine g_cV1R (p0 := 22) (r1 := mX8_hasStrokeAt) dX9_strike_19 lX9_97 vX8_hasStrokeAt (by first | rfl | assumption | exact RW.s (by assumption) | exact TW.s (by assumption)) ⟨_, _, rfl⟩ (FITi rfl rfl) (Nat.le_of_ble_eq_true rfl) (h) rfl ?_
  first | ((with_reducible refine isN1 ?_); refine g_ifN_eq (tgt := 28) (p1 := 25) dX9_strike_22 rfl (by omega) rfl (fun c_22 => by exfalso; first | omega | contradiction | exact absurd (by assumption) c_22 | (simp_all; done)) (fun c_22 => ?_)) | refine g_if_eq (tgt := 28) (p1 := 25) dX9_strike_22 rfl rfl (fun c_22 => by exfalso; first | omega | contradiction | exact absurd (by assumption) c_22 | (simp_all; done)) (fun c_22 => ?_)
  refine g_ldc (p0 := 27) dX9_strike_25 qX9_96 rfl ?_
  refine g_ireturn dX9_strike_27 rfl rfl (?_)
  exact ⟨rfl, rfl⟩
set_option maxRecDepth 20000 in
set_option maxHeartbeats 2000000 in
theorem strike_c {ρ : Nat → Int32} {s n : Nat} {H : Nat → (Nat → Int32) × Nat} {σ : Sg} (hR : RowOK ρ s) (hRep : Rep σ 1 ρ s) (hHC : HC σ n H) (h65 : σ 65 0 = nI 0) {j : Nat} (hj : j ≤ 9999) (hs : s < 160) (h : CM mX8_hasStrokeAt [ar 1, ai (nI j)] σ (Ret (nI 0) σ)) : CM mX9_strike [ar 0, ai (nI j)] σ (CPost ρ σ n H s (INS ρ s (nI j)) (s + 1) (nI (ah (tm ρ) s (nI j)))) := by
  refine CM_in (ls := [some (ar 0), some (ai (nI j)), none]) rfl ?_
  refine g_iload_n (p0 := 1) (i := 1) dX9_strike_0 rfl rfl rfl ?_
  first | ((with_reducible refine isN1 ?_); refine g_ifN_lt (tgt := 11) (p1 := 4) dX9_strike_1 rfl (by omega) rfl (fun c_1 => by exfalso; first | omega | contradiction | exact absurd (by assumption) c_1 | (simp_all; done)) (fun c_1 => ?_)) | refine g_if_lt (tgt := 11) (p1 := 4) dX9_strike_1 rfl rfl (fun c_1 => by exfalso; first | omega | contradiction | exact absurd (by assumption) c_1 | (simp_all; done)) (fun c_1 => ?_)
  refine g_iload_n (p0 := 5) (i := 1) dX9_strike_4 rfl rfl rfl ?_
  refine g_sipush (p0 := 8) (v := nI 9999) dX9_strike_5 (by decide) rfl ?_
  first | ((with_reducible refine isN2 ?_); refine g_icmpN_le (tgt := 14) (p1 := 11) dX9_strike_8 rfl (by omega) (by omega) rfl (fun c_8 => ?_) (fun c_8 => by exfalso; first | omega | contradiction | exact absurd (by assumption) c_8 | (simp_all; done))) | refine g_icmp_le (tgt := 14) (p1 := 11) dX9_strike_8 rfl rfl (fun c_8 => ?_) (fun c_8 => by exfalso; first | omega | contradiction | exact absurd (by assumption) c_8 | (simp_all; done))
  refine g_aload_n (p0 := 15) (i := 0) dX9_strike_14 rfl rfl rfl ?_
  refine g_getR (p0 := 18) dX9_strike_15 fX9_10 (by first | rfl | assumption | exact RW.s (by assumption) | exact TW.s (by assumption)) rfl rfl ?_
  refine g_iload_n (p0 := 19) (i := 1) dX9_strike_18 rfl rfl rfl ?_
  refine g_cV1R (p0 := 22) (r1 := mX8_hasStrokeAt) dX9_strike_19 lX9_97 vX8_hasStrokeAt (by first | rfl | assumption | exact RW.s (by assumption) | exact TW.s (by assumption)) ⟨_, _, rfl⟩ (FITi rfl rfl) (Nat.le_of_ble_eq_true rfl) (h) rfl ?_
  first | ((with_reducible refine isN1 ?_); refine g_ifN_eq (tgt := 28) (p1 := 25) dX9_strike_22 rfl (by omega) rfl (fun c_22 => ?_) (fun c_22 => by exfalso; first | omega | contradiction | exact absurd (by assumption) c_22 | (simp_all; done))) | refine g_if_eq (tgt := 28) (p1 := 25) dX9_strike_22 rfl rfl (fun c_22 => ?_) (fun c_22 => by exfalso; first | omega | contradiction | exact absurd (by assumption) c_22 | (simp_all; done))
  refine g_aload_n (p0 := 29) (i := 0) dX9_strike_28 rfl rfl rfl ?_
  refine g_getR (p0 := 32) dX9_strike_29 fX9_10 (by first | rfl | assumption | exact RW.s (by assumption) | exact TW.s (by assumption)) rfl rfl ?_
  refine g_cV0R (p0 := 35) (r1 := mX8_isFull) dX9_strike_32 lX9_100 vX8_isFull (by first | rfl | assumption | exact RW.s (by assumption) | exact TW.s (by assumption)) ⟨_, _, rfl⟩ (FITi rfl rfl) (Nat.le_of_ble_eq_true rfl) (isFull_F TW1 hRep.1 hs) rfl ?_
  first | ((with_reducible refine isN1 ?_); refine g_ifN_eq (tgt := 41) (p1 := 38) dX9_strike_35 rfl (by omega) rfl (fun c_35 => ?_) (fun c_35 => by exfalso; first | omega | contradiction | exact absurd (by assumption) c_35 | (simp_all; done))) | refine g_if_eq (tgt := 41) (p1 := 38) dX9_strike_35 rfl rfl (fun c_35 => ?_) (fun c_35 => by exfalso; first | omega | contradiction | exact absurd (by assumption) c_35 | (simp_all; done))
  refine g_aload_n (p0 := 42) (i := 0) dX9_strike_41 rfl rfl rfl ?_
  refine g_getR (p0 := 45) dX9_strike_42 fX9_22 (by first | rfl | assumption | exact RW.s (by assumption) | exact TW.s (by assumption)) rfl rfl ?_
  refine g_aload_n (p0 := 46) (i := 0) dX9_strike_45 rfl rfl rfl ?_
  refine g_getR (p0 := 49) dX9_strike_46 fX9_10 (by first | rfl | assumption | exact RW.s (by assumption) | exact TW.s (by assumption)) rfl rfl ?_
  refine g_cV1P (p0 := 52) (r1 := mX2_record) dX9_strike_49 lX9_58 vX2_record (by first | rfl | assumption | exact RW.s (by assumption) | exact TW.s (by assumption)) ⟨_, _, rfl⟩ (FITi rfl rfl) (Nat.le_of_ble_eq_true rfl) (record_rel hHC hR hRep) rfl ?_
  rintro σ1 ⟨fr1, hHC1⟩
  have hRep1 : Rep σ1 1 ρ s := hRep.of_eq (fr1 _ (by decide) (by decide)) (fr1 _ (by decide) (by decide)) (fr1 _ (by decide) (by decide))
  have b6 : ∀ q, q < s → σ1 3 q = tm ρ q := hRep1.2.2.2.2.2
  have ea : ah (σ1 3) s (nI j) = ah (tm ρ) s (nI j) := ah_congr b6
  have had : CM mX8_addStroke [ar 1, ai (nI j)] σ1 (Ret (nI (ah (tm ρ) s (nI j))) (insS σ1 s (nI j))) := by
    rw [← ea]
    exact addStroke_sp TW1 hRep1.1 hs
  have h652 : (insS σ1 s (nI j)) 65 0 = nI 0 := by rw [insS_ne (by decide) (by decide), fr1 _ (by decide) (by decide)]; exact h65
  refine g_aload_n (p0 := 53) (i := 0) dX9_strike_52 rfl rfl rfl ?_
  refine g_getR (p0 := 56) dX9_strike_53 fX9_10 (by first | rfl | assumption | exact RW.s (by assumption) | exact TW.s (by assumption)) rfl rfl ?_
  refine g_iload_n (p0 := 57) (i := 1) dX9_strike_56 rfl rfl rfl ?_
  refine g_cV1R (p0 := 60) (r1 := mX8_addStroke) dX9_strike_57 lX9_104 vX8_addStroke (by first | rfl | assumption | exact RW.s (by assumption) | exact TW.s (by assumption)) ⟨_, _, rfl⟩ (FITi rfl rfl) (Nat.le_of_ble_eq_true rfl) (had) rfl ?_
  refine g_istore_n (p0 := 61) (i := 2) (ls2 := [_, _, _]) dX9_strike_60 rfl (Nat.le_of_ble_eq_true rfl) rfl rfl ?_
  refine g_aload_n (p0 := 62) (i := 0) dX9_strike_61 rfl rfl rfl ?_
  refine g_getR (p0 := 65) dX9_strike_62 fX9_29 (by first | rfl | assumption | exact RW.s (by assumption) | exact TW.s (by assumption)) rfl rfl ?_
  refine g_aload_n (p0 := 66) (i := 0) dX9_strike_65 rfl rfl rfl ?_
  refine g_getR (p0 := 69) dX9_strike_66 fX9_10 (by first | rfl | assumption | exact RW.s (by assumption) | exact TW.s (by assumption)) rfl rfl ?_
  refine g_cV1P (p0 := 72) (r1 := mX6_refresh) dX9_strike_69 lX9_62 vX6_refresh (by first | rfl | assumption | exact RW.s (by assumption) | exact TW.s (by assumption)) ⟨_, _, rfl⟩ (FITi rfl rfl) (Nat.le_of_ble_eq_true rfl) (refresh_sp (Rep_ins hRep1) (RowOK_ins hR hs ⟨j, hj, rfl⟩) h652) rfl ?_
  rintro σ2 ⟨hRD2, fr2⟩
  refine g_iload_n (p0 := 73) (i := 2) dX9_strike_72 rfl rfl rfl ?_
  refine g_ireturn dX9_strike_73 rfl rfl (?_)
  exact cchg fr1 hHC1 (fun z hz => insS_ne (by omega) (by omega)) (Rep_ins hRep1) hRD2 fr2
