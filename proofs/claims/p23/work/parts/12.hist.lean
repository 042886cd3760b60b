/-! THE CLASS: out of the rows of whole -/
def RetA (v : Nat) (σ1 : Sg) : SP := fun w σ' => w = some (ar v) ∧ σ' = σ1
theorem conA {r r1 : MR} {Q : SP} {as : List AV} {σ σ1 : Sg} {pc p0 : Nat} {ls : List (Option AV)} {st : List AV} {v : Nat} (hc : CM r1 as σ (RetA v σ1)) (e1 : pc + 3 = p0) (k1 : WM r Q p0 ls (ar v :: st) σ1) : C r1 as (mem σ) 0 0 (fun w h1 => WPr r (lift Q) (pc + 3) ls (w.toList ++ st) h1 0 0) := by
  subst e1
  refine C.mono hc ?_
  intro w h q
  obtain ⟨σ2, e, ew, es⟩ := q
  rw [e, ew, es]
  exact k1
theorem g_cV1A {r : MR} {Q : SP} {σ : Sg} {pc : Nat} {ls : List (Option AV)} {st : List AV} {i o ci p0 : Nat} {fl : List (Option Nat)} {r1 : MR} {a1 : AV} {v : Nat} {σ1 : Sg} (h1 : decode (rc r) pc = .ok (.invokevirtual i, 3)) (h2 : Cond.methodLink (ro r) i (ry r1) ∈ Wl) (h3 : MV r1 1) (hs : SHl[o]? = some (.inl (ci, fl))) (hk : KC ci (ro r1)) (hf : FIT r1 r) (hl : st.length ≤ 8) (hc : CM r1 (ar o :: [a1]) σ (RetA v σ1)) (e1 : pc + 3 = p0) (k1 : WM r Q p0 ls (ar v :: st) σ1) : WM r Q pc ls (a1 :: ar o :: st) σ := g_cV0R_base (As := [a1]) h1 h2 h3 hs hk hf hl rfl rfl (conA hc e1 k1)
theorem xor4 : ∀ x : Nat, x < 8 → 0 ≤ nI x ^^^ nI 4 := by decide
theorem TWs {j : Nat} (hj : j < 4) : TW (13 + 5 * j) := by
  match j, hj with
  | 0, _ => exact TW13
  | 1, _ => exact TW18
  | 2, _ => exact TW23
  | 3, _ => exact TW28
theorem slotL {j : Nat} (hj : j < 4) : ([13, 18, 23, 28] : List Nat)[j]? = some (13 + 5 * j) := by
  match j, hj with
  | 0, _ => rfl
  | 1, _ => rfl
  | 2, _ => rfl
  | 3, _ => rfl
set_option maxRecDepth 20000 in
set_option maxHeartbeats 2000000 in
theorem floorMod_sp {x : Nat} {σ : Sg} (hx : x < 8) : CM mJ9_floorMod_7cf53 [ai (nI x), ai (nI 4)] σ (Ret (nI (x % 4)) σ) := by
  refine CM_in (ls := [some (ai (nI x)), some (ai (nI 4)), none]) rfl ?_
  refine g_iload_n (p0 := 1) (i := 0) dJ9_floorMod_7cf53_0 rfl rfl rfl ?_
  refine g_iload_n (p0 := 2) (i := 1) dJ9_floorMod_7cf53_1 rfl rfl rfl ?_
  first | ((with_reducible refine isN2 ?_); refine g_iremN (p0 := 3) dJ9_floorMod_7cf53_2 (by omega) (by omega) (by omega) rfl ?_) | refine g_irem (p0 := 3) dJ9_floorMod_7cf53_2 (by decide) rfl ?_
  refine g_istore_n (p0 := 4) (i := 2) (ls2 := [_, _, _]) dJ9_floorMod_7cf53_3 rfl (Nat.le_of_ble_eq_true rfl) rfl rfl ?_
  refine g_iload_n (p0 := 5) (i := 0) dJ9_floorMod_7cf53_4 rfl rfl rfl ?_
  refine g_iload_n (p0 := 6) (i := 1) dJ9_floorMod_7cf53_5 rfl rfl rfl ?_
  refine g_ixor (p0 := 7) dJ9_floorMod_7cf53_6 rfl ?_
  first | ((with_reducible refine isN1 ?_); refine g_ifN_ge (tgt := 18) (p1 := 10) dJ9_floorMod_7cf53_7 rfl (by omega) rfl (fun c_7 => ?_) (fun c_7 => by exfalso; exact c_7 (xor4 _ hx))) | refine g_if_ge (tgt := 18) (p1 := 10) dJ9_floorMod_7cf53_7 rfl rfl (fun c_7 => ?_) (fun c_7 => by exfalso; exact c_7 (xor4 _ hx))
  refine g_iload_n (p0 := 19) (i := 2) dJ9_floorMod_7cf53_18 rfl rfl rfl ?_
  refine g_ireturn dJ9_floorMod_7cf53_19 rfl rfl (?_)
  exact ⟨rfl, rfl⟩
set_option maxRecDepth 20000 in
set_option maxHeartbeats 2000000 in
theorem stateAt_sp {i o : Nat} {σ : Sg} (ho : σ 11 1 = nI o) (h1 : o < 4) (hi : i < 4) : CM mX2_stateAt [ar 11, ai (nI i)] σ (RetA (13 + 5 * ((o + i) % 4)) σ) := by
  have hm : (o + i) % 4 < 4 := Nat.mod_lt _ (by decide)
  refine CM_in (ls := [some (ar 11), some (ai (nI i)), none]) rfl ?_
  refine g_aload_n (p0 := 1) (i := 0) dX2_stateAt_0 rfl rfl rfl ?_
  refine g_getI (p0 := 4) dX2_stateAt_1 fX2_17 (by first | rfl | assumption | exact RW.s (by assumption) | exact TW.s (by assumption)) rfl (by first | assumption | exact up_hit | exact up_nv (by omega) (by assumption) | exact up_mv (by omega) (by assumption) | exact up_nv (by omega) (up_nv (by omega) (by assumption)) | exact up_nv (by omega) up_hit | rfl) rfl ?_
  refine g_iload_n (p0 := 5) (i := 1) dX2_stateAt_4 rfl rfl rfl ?_
  first | ((with_reducible refine isN2 ?_); refine g_iaddN (p0 := 6) dX2_stateAt_5 rfl ?_) | refine g_iadd (p0 := 6) dX2_stateAt_5 rfl ?_
  refine g_iconst (p0 := 7) (v := nI 4) dX2_stateAt_6 rfl rfl ?_
  refine g_cS2R (p0 := 10) (r1 := mJ9_floorMod_7cf53) dX2_stateAt_7 (Or.inl lX2_33) vJ9_floorMod_7cf53 (FITi rfl rfl) (Nat.le_of_ble_eq_true rfl) (floorMod_sp (by first | assumption | omega)) rfl ?_
  refine g_istore_n (p0 := 11) (i := 2) (ls2 := [_, _, _]) dX2_stateAt_10 rfl (Nat.le_of_ble_eq_true rfl) rfl rfl ?_
  refine g_iload_n (p0 := 12) (i := 2) dX2_stateAt_11 rfl rfl rfl ?_
  refine g_aload_n (p0 := 13) (i := 0) dX2_stateAt_12 rfl rfl rfl ?_
  refine g_getR (p0 := 16) dX2_stateAt_13 fX2_11 (by first | rfl | assumption | exact RW.s (by assumption) | exact TW.s (by assumption)) rfl rfl ?_
  first | refine g_alen (p0 := 17) dX2_stateAt_16 (by first | rfl | assumption | exact RW.s (by assumption) | exact TW.s (by assumption)) rfl ?_ | refine g_alenq (p0 := 17) dX2_stateAt_16 (by first | rfl | assumption | exact RW.s (by assumption) | exact TW.s (by assumption)) rfl ?_
  first | ((with_reducible refine isN2 ?_); refine g_icmpN_ge (tgt := 29) (p1 := 20) dX2_stateAt_17 rfl (by omega) (by omega) rfl (fun c_17 => by exfalso; exact absurd c_17 (nI_ge (b := ([13, 18, 23, 28] : List Nat).length) hm (by decide))) (fun c_17 => ?_)) | refine g_icmp_ge (tgt := 29) (p1 := 20) dX2_stateAt_17 rfl rfl (fun c_17 => by exfalso; exact absurd c_17 (nI_ge (b := ([13, 18, 23, 28] : List Nat).length) hm (by decide))) (fun c_17 => ?_)
  refine g_aload_n (p0 := 21) (i := 0) dX2_stateAt_20 rfl rfl rfl ?_
  refine g_getR (p0 := 24) dX2_stateAt_21 fX2_11 (by first | rfl | assumption | exact RW.s (by assumption) | exact TW.s (by assumption)) rfl rfl ?_
  refine g_iload_n (p0 := 25) (i := 2) dX2_stateAt_24 rfl rfl rfl ?_
  refine g_aald (p0 := 26) dX2_stateAt_25 (by first | rfl | assumption | exact RW.s (by assumption) | exact TW.s (by assumption)) (by decide) (slotL hm) rfl ?_
  refine g_goto (tgt := 30) dX2_stateAt_26 rfl ?_
  refine g_areturn dX2_stateAt_30 rfl ?_
  exact ⟨rfl, rfl⟩
set_option maxRecDepth 20000 in
set_option maxHeartbeats 2000000 in
theorem record_lt {n o s : Nat} {σ : Sg} (ho : σ 11 1 = nI o) (h1 : o < 4) (hn : σ 11 2 = nI n) (hn4 : n < 4) (hs : σ 1 2 = nI s) (hs1 : s ≤ 160) (hz : σ 1 5 = 0 ∨ σ 1 5 = 1) : CM mX2_record [ar 11, ar 1] σ (RetV (up (twr σ (13 + 5 * ((o + n) % 4)) 1 s) 11 2 (nI (n + 1)))) := by
  have hm : (o + n) % 4 < 4 := Nat.mod_lt _ (by decide)
  have htw := TWs hm
  have ht := htw.1
  have e1 : twr σ (13 + 5 * ((o + n) % 4)) 1 s 11 2 = nI n := by
    unfold twr
    rw [setR_ne (by omega), setR_ne (by omega), setR_ne (by omega), hn]
  refine CM_in (ls := [some (ar 11), some (ar 1), none]) rfl ?_
  refine g_aload_n (p0 := 1) (i := 0) dX2_record_0 rfl rfl rfl ?_
  refine g_getI (p0 := 4) dX2_record_1 fX2_21 (by first | rfl | assumption | exact RW.s (by assumption) | exact TW.s (by assumption)) rfl (by first | assumption | exact up_hit | exact up_nv (by omega) (by assumption) | exact up_mv (by omega) (by assumption) | exact up_nv (by omega) (up_nv (by omega) (by assumption)) | exact up_nv (by omega) up_hit | rfl) rfl ?_
  refine g_iconst (p0 := 5) (v := nI 4) dX2_record_4 rfl rfl ?_
  first | ((with_reducible refine isN2 ?_); refine g_icmpN_ne (tgt := 30) (p1 := 8) dX2_record_5 rfl (by omega) (by omega) rfl (fun c_5 => ?_) (fun c_5 => by exfalso; first | omega | contradiction | exact absurd (by assumption) c_5 | (simp_all; done))) | refine g_icmp_ne (tgt := 30) (p1 := 8) dX2_record_5 rfl rfl (fun c_5 => ?_) (fun c_5 => by exfalso; first | omega | contradiction | exact absurd (by assumption) c_5 | (simp_all; done))
  refine g_aload_n (p0 := 31) (i := 0) dX2_record_30 rfl rfl rfl ?_
  refine g_aload_n (p0 := 32) (i := 0) dX2_record_31 rfl rfl rfl ?_
  refine g_getI (p0 := 35) dX2_record_32 fX2_21 (by first | rfl | assumption | exact RW.s (by assumption) | exact TW.s (by assumption)) rfl (by first | assumption | exact up_hit | exact up_nv (by omega) (by assumption) | exact up_mv (by omega) (by assumption) | exact up_nv (by omega) (up_nv (by omega) (by assumption)) | exact up_nv (by omega) up_hit | rfl) rfl ?_
  refine g_cV1A (p0 := 38) (r1 := mX2_stateAt) dX2_record_35 lX2_25 vX2_stateAt (by first | rfl | assumption | exact RW.s (by assumption) | exact TW.s (by assumption)) ⟨_, _, rfl⟩ (FITi rfl rfl) (Nat.le_of_ble_eq_true rfl) (stateAt_sp (by first | assumption | exact up_hit | exact up_nv (by omega) (by assumption) | exact up_mv (by omega) (by assumption) | exact up_nv (by omega) (up_nv (by omega) (by assumption)) | exact up_nv (by omega) up_hit | rfl) (by first | assumption | omega) (by first | assumption | omega)) rfl ?_
  refine g_astore_n (p0 := 39) (i := 2) (ls2 := [_, _, _]) dX2_record_38 rfl (Nat.le_of_ble_eq_true rfl) rfl rfl ?_
  refine g_aload_n (p0 := 40) (i := 2) dX2_record_39 rfl rfl rfl ?_
  refine g_ifnull (p0 := 43) dX2_record_40 rfl ?_
  refine g_aload_n (p0 := 44) (i := 2) dX2_record_43 rfl rfl rfl ?_
  refine g_aload_n (p0 := 45) (i := 1) dX2_record_44 rfl rfl rfl ?_
  refine g_cV1V (p0 := 48) (r1 := mX8_become) dX2_record_45 lX2_29 vX8_become (by first | rfl | assumption | exact RW.s (by assumption) | exact TW.s (by assumption)) ⟨_, _, rfl⟩ (FITi rfl rfl) (Nat.le_of_ble_eq_true rfl) (become_sp htw TW1 (by omega) hs hs1 hz) rfl ?_
  refine g_aload_n (p0 := 49) (i := 0) dX2_record_48 rfl rfl rfl ?_
  refine g_dup (p0 := 50) dX2_record_49 rfl ?_
  refine g_getI (p0 := 53) dX2_record_50 fX2_21 (by first | rfl | assumption | exact RW.s (by assumption) | exact TW.s (by assumption)) rfl (by first | assumption | exact up_hit | exact up_nv (by omega) (by assumption) | exact up_mv (by omega) (by assumption) | exact up_nv (by omega) (up_nv (by omega) (by assumption)) | exact up_nv (by omega) up_hit | rfl) rfl ?_
  refine g_iconst (p0 := 54) (v := nI 1) dX2_record_53 rfl rfl ?_
  first | ((with_reducible refine isN2 ?_); refine g_iaddN (p0 := 55) dX2_record_54 rfl ?_) | refine g_iadd (p0 := 55) dX2_record_54 rfl ?_
  refine g_put (p0 := 58) dX2_record_55 fX2_21 (by first | rfl | assumption | exact RW.s (by assumption) | exact TW.s (by assumption)) rfl nX2_2 (pX2_2 _) rfl ?_
  refine g_return dX2_record_58 rfl ?_
  exact ⟨rfl, rfl⟩
set_option maxRecDepth 20000 in
set_option maxHeartbeats 2000000 in
theorem record_full {o s : Nat} {σ : Sg} (ho : σ 11 1 = nI o) (h1 : o < 4) (hn : σ 11 2 = nI 4) (hs : σ 1 2 = nI s) (hs1 : s ≤ 160) (hz : σ 1 5 = 0 ∨ σ 1 5 = 1) : CM mX2_record [ar 11, ar 1] σ (RetV (up (twr (up (up σ 11 1 (nI ((o + 1) % 4))) 11 2 (nI 3)) (13 + 5 * (((o + 1) % 4 + 3) % 4)) 1 s) 11 2 (nI 4))) := by
  have hm : ((o + 1) % 4 + 3) % 4 < 4 := Nat.mod_lt _ (by decide)
  have hm1 : (o + 1) % 4 < 4 := Nat.mod_lt _ (by decide)
  have htw := TWs hm
  have ht := htw.1
  obtain ⟨σ1, hσ1⟩ : ∃ z, z = up (up σ 11 1 (nI ((o + 1) % 4))) 11 2 (nI 3) := ⟨_, rfl⟩
  have g1 : σ1 11 1 = nI ((o + 1) % 4) := by rw [hσ1, up_miss (by decide), up_hit]
  have g2 : σ1 11 2 = nI 3 := by rw [hσ1, up_hit]
  have g3 : σ1 1 2 = nI s := by rw [hσ1, up_ne (by decide), up_ne (by decide), hs]
  have g5 : σ1 1 5 = 0 ∨ σ1 1 5 = 1 := by rw [hσ1, up_ne (by decide), up_ne (by decide)]; exact hz
  have e1 : twr σ1 (13 + 5 * (((o + 1) % 4 + 3) % 4)) 1 s 11 2 = nI 3 := by
    unfold twr
    rw [setR_ne (by omega), setR_ne (by omega), setR_ne (by omega), g2]
  refine CM_in (ls := [some (ar 11), some (ar 1), none]) rfl ?_
  refine g_aload_n (p0 := 1) (i := 0) dX2_record_0 rfl rfl rfl ?_
  refine g_getI (p0 := 4) dX2_record_1 fX2_21 (by first | rfl | assumption | exact RW.s (by assumption) | exact TW.s (by assumption)) rfl (by first | assumption | exact up_hit | exact up_nv (by omega) (by assumption) | exact up_mv (by omega) (by assumption) | exact up_nv (by omega) (up_nv (by omega) (by assumption)) | exact up_nv (by omega) up_hit | rfl) rfl ?_
  refine g_iconst (p0 := 5) (v := nI 4) dX2_record_4 rfl rfl ?_
  first | ((with_reducible refine isN2 ?_); refine g_icmpN_ne (tgt := 30) (p1 := 8) dX2_record_5 rfl (by omega) (by omega) rfl (fun c_5 => by exfalso; first | omega | contradiction | exact absurd (by assumption) c_5 | (simp_all; done)) (fun c_5 => ?_)) | refine g_icmp_ne (tgt := 30) (p1 := 8) dX2_record_5 rfl rfl (fun c_5 => by exfalso; first | omega | contradiction | exact absurd (by assumption) c_5 | (simp_all; done)) (fun c_5 => ?_)
  refine g_aload_n (p0 := 9) (i := 0) dX2_record_8 rfl rfl rfl ?_
  refine g_aload_n (p0 := 10) (i := 0) dX2_record_9 rfl rfl rfl ?_
  refine g_getI (p0 := 13) dX2_record_10 fX2_17 (by first | rfl | assumption | exact RW.s (by assumption) | exact TW.s (by assumption)) rfl (by first | assumption | exact up_hit | exact up_nv (by omega) (by assumption) | exact up_mv (by omega) (by assumption) | exact up_nv (by omega) (up_nv (by omega) (by assumption)) | exact up_nv (by omega) up_hit | rfl) rfl ?_
  refine g_iconst (p0 := 14) (v := nI 1) dX2_record_13 rfl rfl ?_
  first | ((with_reducible refine isN2 ?_); refine g_iaddN (p0 := 15) dX2_record_14 rfl ?_) | refine g_iadd (p0 := 15) dX2_record_14 rfl ?_
  refine g_iconst (p0 := 16) (v := nI 4) dX2_record_15 rfl rfl ?_
  first | ((with_reducible refine isN2 ?_); refine g_iremN (p0 := 17) dX2_record_16 (by omega) (by omega) (by omega) rfl ?_) | refine g_irem (p0 := 17) dX2_record_16 (by decide) rfl ?_
  refine g_put (p0 := 20) dX2_record_17 fX2_17 (by first | rfl | assumption | exact RW.s (by assumption) | exact TW.s (by assumption)) rfl nX2_1 (pX2_1 _) rfl ?_
  refine g_aload_n (p0 := 21) (i := 0) dX2_record_20 rfl rfl rfl ?_
  refine g_dup (p0 := 22) dX2_record_21 rfl ?_
  refine g_getI (p0 := 25) dX2_record_22 fX2_21 (by first | rfl | assumption | exact RW.s (by assumption) | exact TW.s (by assumption)) rfl (by first | assumption | exact up_hit | exact up_nv (by omega) (by assumption) | exact up_mv (by omega) (by assumption) | exact up_nv (by omega) (up_nv (by omega) (by assumption)) | exact up_nv (by omega) up_hit | rfl) rfl ?_
  refine g_iconst (p0 := 26) (v := nI 1) dX2_record_25 rfl rfl ?_
  first | ((with_reducible refine isN2 ?_); refine g_isubN (p0 := 27) dX2_record_26 (by omega) rfl ?_) | refine g_isub (p0 := 27) dX2_record_26 rfl ?_
  refine g_put (p0 := 30) dX2_record_27 fX2_21 (by first | rfl | assumption | exact RW.s (by assumption) | exact TW.s (by assumption)) rfl nX2_2 (pX2_2 _) rfl ?_
  rw [← hσ1]
  refine g_aload_n (p0 := 31) (i := 0) dX2_record_30 rfl rfl rfl ?_
  refine g_aload_n (p0 := 32) (i := 0) dX2_record_31 rfl rfl rfl ?_
  refine g_getI (p0 := 35) dX2_record_32 fX2_21 (by first | rfl | assumption | exact RW.s (by assumption) | exact TW.s (by assumption)) rfl (by first | assumption | exact up_hit | exact up_nv (by omega) (by assumption) | exact up_mv (by omega) (by assumption) | exact up_nv (by omega) (up_nv (by omega) (by assumption)) | exact up_nv (by omega) up_hit | rfl) rfl ?_
  refine g_cV1A (p0 := 38) (r1 := mX2_stateAt) dX2_record_35 lX2_25 vX2_stateAt (by first | rfl | assumption | exact RW.s (by assumption) | exact TW.s (by assumption)) ⟨_, _, rfl⟩ (FITi rfl rfl) (Nat.le_of_ble_eq_true rfl) (stateAt_sp (by first | assumption | exact up_hit | exact up_nv (by omega) (by assumption) | exact up_mv (by omega) (by assumption) | exact up_nv (by omega) (up_nv (by omega) (by assumption)) | exact up_nv (by omega) up_hit | rfl) (by first | assumption | omega) (by first | assumption | omega)) rfl ?_
  refine g_astore_n (p0 := 39) (i := 2) (ls2 := [_, _, _]) dX2_record_38 rfl (Nat.le_of_ble_eq_true rfl) rfl rfl ?_
  refine g_aload_n (p0 := 40) (i := 2) dX2_record_39 rfl rfl rfl ?_
  refine g_ifnull (p0 := 43) dX2_record_40 rfl ?_
  refine g_aload_n (p0 := 44) (i := 2) dX2_record_43 rfl rfl rfl ?_
  refine g_aload_n (p0 := 45) (i := 1) dX2_record_44 rfl rfl rfl ?_
  refine g_cV1V (p0 := 48) (r1 := mX8_become) dX2_record_45 lX2_29 vX8_become (by first | rfl | assumption | exact RW.s (by assumption) | exact TW.s (by assumption)) ⟨_, _, rfl⟩ (FITi rfl rfl) (Nat.le_of_ble_eq_true rfl) (become_sp htw TW1 (by omega) g3 hs1 g5) rfl ?_
  refine g_aload_n (p0 := 49) (i := 0) dX2_record_48 rfl rfl rfl ?_
  refine g_dup (p0 := 50) dX2_record_49 rfl ?_
  refine g_getI (p0 := 53) dX2_record_50 fX2_21 (by first | rfl | assumption | exact RW.s (by assumption) | exact TW.s (by assumption)) rfl (by first | assumption | exact up_hit | exact up_nv (by omega) (by assumption) | exact up_mv (by omega) (by assumption) | exact up_nv (by omega) (up_nv (by omega) (by assumption)) | exact up_nv (by omega) up_hit | rfl) rfl ?_
  refine g_iconst (p0 := 54) (v := nI 1) dX2_record_53 rfl rfl ?_
  first | ((with_reducible refine isN2 ?_); refine g_iaddN (p0 := 55) dX2_record_54 rfl ?_) | refine g_iadd (p0 := 55) dX2_record_54 rfl ?_
  refine g_put (p0 := 58) dX2_record_55 fX2_21 (by first | rfl | assumption | exact RW.s (by assumption) | exact TW.s (by assumption)) rfl nX2_2 (pX2_2 _) rfl ?_
  refine g_return dX2_record_58 rfl ?_
  rw [hσ1]
  exact ⟨rfl, rfl⟩
/-- the beat and the times are as they can be -/
def TIM (ρ : Nat → Int32) (s : Nat) : Prop := (∃ b, b ≤ 20 ∧ ρ 0 = nI b) ∧ ∀ k, k < s → ∃ t, t ≤ 9999 ∧ ρ (29 + k) = nI t
/-- a row of the reference that is a state of a tower with s strokes -/
def RowOK (ρ : Nat → Int32) (s : Nat) : Prop := ρ 3 = nI s ∧ s ≤ 160 ∧ (ρ 2 = nI 0 ∨ ρ 2 = nI 1) ∧ (∃ cf : Nat → Nat, (∀ l, l < 25 → ρ (4 + l) = nI (cf l) ∧ cf l < 25) ∧ ∀ l m, l < 25 → m < 25 → cf l = cf m → l = m) ∧ TIM ρ s
/-- tower t holds the state ρ -/
def Rep (σ : Sg) (t : Nat) (ρ : Nat → Int32) (s : Nat) : Prop := σ t 2 = nI s ∧ σ t 3 = ρ 0 ∧ σ t 4 = ρ 1 ∧ σ t 5 = ρ 2 ∧ (∀ l, l < 25 → σ (t + 4) l = ρ (4 + l)) ∧ ∀ k, k < s → σ (t + 2) k = ρ (29 + k)
theorem Rep.of_eq {σ σ' : Sg} {t s : Nat} {ρ : Nat → Int32} (h : Rep σ t ρ s) (h0 : σ' t = σ t) (h2 : σ' (t + 2) = σ (t + 2)) (h4 : σ' (t + 4) = σ (t + 4)) : Rep σ' t ρ s := by
  unfold Rep
  rw [h0, h2, h4]
  exact h
theorem Rep_twr {σ : Sg} {t u s : Nat} {ρ : Nat → Int32} (h : Rep σ u ρ s) (htu : t + 4 < u ∨ u + 4 < t) : Rep (twr σ t u s) t ρ s := by
  obtain ⟨h2, h3, h4, h5, hc, ht⟩ := h
  have e0 : twr σ t u s t = upd (upd (upd (upd (σ t) 2 (nI s)) 3 (σ u 3)) 4 (σ u 4)) 5 (σ u 5) := by
    unfold twr
    rw [setR_hit]
  have e2 : twr σ t u s (t + 2) = cpy (σ (t + 2)) (σ (u + 2)) s := by
    unfold twr
    rw [setR_ne (by omega), setR_ne (by omega), setR_hit]
  have e4 : twr σ t u s (t + 4) = cpy (σ (t + 4)) (σ (u + 4)) 25 := by
    unfold twr
    rw [setR_ne (by omega), setR_hit]
  refine ⟨?_, ?_, ?_, ?_, fun l hl => ?_, fun k hk => ?_⟩
  · rw [e0]; simp [upd]
  · rw [e0, ← h3]; simp [upd]
  · rw [e0, ← h4]; simp [upd]
  · rw [e0, ← h5]; simp [upd]
  · rw [e4, ← hc l hl]; simp [cpy, hl]
  · rw [e2, ← ht k hk]; simp [cpy, hk]
theorem twr_ne {σ : Sg} {t u s c : Nat} (h0 : c ≠ t) (h2 : c ≠ t + 2) (h4 : c ≠ t + 4) : twr σ t u s c = σ c := by
  unfold twr
  rw [setR_ne h0, setR_ne h4, setR_ne h2]
/-- the class's history holds n states, the oldest first -/
def HC (σ : Sg) (n : Nat) (H : Nat → (Nat → Int32) × Nat) : Prop := ∃ o, o < 4 ∧ σ 11 1 = nI o ∧ σ 11 2 = nI n ∧ n ≤ 4 ∧ ∀ i, i < n → RowOK (H i).1 (H i).2 ∧ Rep σ (13 + 5 * ((o + i) % 4)) (H i).1 (H i).2
def pn (n : Nat) : Nat := if n = 4 then 4 else n + 1
def push (n : Nat) (H : Nat → (Nat → Int32) × Nat) (x : (Nat → Int32) × Nat) : Nat → (Nat → Int32) × Nat := if n = 4 then fun i => if i = 3 then x else H (i + 1) else fun i => if i = n then x else H i
theorem record_rel {σ : Sg} {n s : Nat} {H : Nat → (Nat → Int32) × Nat} {ρ : Nat → Int32} (hH : HC σ n H) (hr : RowOK ρ s) (hR : Rep σ 1 ρ s) : CM mX2_record [ar 11, ar 1] σ (fun w σ' => w = none ∧ (∀ c, c ≠ 11 → (c < 13 ∨ 33 ≤ c) → σ' c = σ c) ∧ HC σ' (pn n) (push n H (ρ, s))) := by
  obtain ⟨o, ho, h1, h2, hn, hall⟩ := hH
  have hz : σ 1 5 = 0 ∨ σ 1 5 = 1 := by rw [hR.2.2.2.1]; exact hr.2.2.1
  by_cases hn4 : n = 4
  · subst hn4
    refine CM.mono (record_full h1 ho h2 hR.1 hr.2.1 hz) ?_
    rintro w σ' ⟨rfl, rfl⟩
    obtain ⟨σ1, hσ1⟩ : ∃ z, z = up (up σ 11 1 (nI ((o + 1) % 4))) 11 2 (nI 3) := ⟨_, rfl⟩
    rw [← hσ1]
    have f1 : ∀ c, c ≠ 11 → σ1 c = σ c := fun c hc => by rw [hσ1, up_ne hc, up_ne hc]
    refine ⟨rfl, fun c hc hd => ?_, (o + 1) % 4, by omega, ?_, ?_, by decide, fun i hi => ?_⟩
    · rw [up_ne hc, twr_ne (by omega) (by omega) (by omega), f1 c hc]
    · rw [up_miss (by decide), twr_ne (by omega) (by omega) (by omega), hσ1, up_miss (by decide), up_hit]
    · exact up_hit
    · have hi4 : i < 4 := hi
      by_cases hi3 : i = 3
      · subst hi3
        refine ⟨hr, ?_⟩
        have g : Rep σ1 1 ρ s := hR.of_eq (f1 _ (by decide)) (f1 _ (by decide)) (f1 _ (by decide))
        have g2 := Rep_twr g (t := 13 + 5 * (((o + 1) % 4 + 3) % 4)) (Or.inr (by omega))
        exact g2.of_eq (up_ne (by omega)) (up_ne (by omega)) (up_ne (by omega))
      · have hx := hall (i + 1) (by omega)
        have e1 : (push 4 H (ρ, s)) i = H (i + 1) := by simp [push, hi3]
        have e2 : ((o + 1) % 4 + i) % 4 = (o + (i + 1)) % 4 := by omega
        rw [e1, e2]
        refine ⟨hx.1, hx.2.of_eq ?_ ?_ ?_⟩
        · rw [up_ne (by omega), twr_ne (by omega) (by omega) (by omega), f1 _ (by omega)]
        · rw [up_ne (by omega), twr_ne (by omega) (by omega) (by omega), f1 _ (by omega)]
        · rw [up_ne (by omega), twr_ne (by omega) (by omega) (by omega), f1 _ (by omega)]
  · have hn3 : n < 4 := by omega
    refine CM.mono (record_lt h1 ho h2 hn3 hR.1 hr.2.1 hz) ?_
    rintro w σ' ⟨rfl, rfl⟩
    refine ⟨rfl, fun c hc hd => ?_, o, ho, ?_, ?_, ?_, fun i hi => ?_⟩
    · rw [up_ne hc, twr_ne (by omega) (by omega) (by omega)]
    · rw [up_miss (by decide), twr_ne (by omega) (by omega) (by omega), h1]
    · rw [up_hit, pn, if_neg hn4]
    · rw [pn, if_neg hn4]; omega
    · rw [pn, if_neg hn4] at hi
      by_cases hi3 : i = n
      · subst hi3
        have e1 : (push i H (ρ, s)) i = (ρ, s) := by simp [push, hn4]
        rw [e1]
        refine ⟨hr, ?_⟩
        have g2 := Rep_twr hR (t := 13 + 5 * ((o + i) % 4)) (Or.inr (by omega))
        exact g2.of_eq (up_ne (by omega)) (up_ne (by omega)) (up_ne (by omega))
      · have hx := hall i (by omega)
        have e1 : (push n H (ρ, s)) i = H i := by simp [push, hi3, hn4]
        rw [e1]
        refine ⟨hx.1, hx.2.of_eq ?_ ?_ ?_⟩
        · rw [up_ne (by omega), twr_ne (by omega) (by omega) (by omega)]
        · rw [up_ne (by omega), twr_ne (by omega) (by omega) (by omega)]
        · rw [up_ne (by omega), twr_ne (by omega) (by omega) (by omega)]

