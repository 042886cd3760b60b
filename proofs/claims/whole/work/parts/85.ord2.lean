/-! ORDERS: letters that are rung, both sides together -/
def F6 (σ σ1 : Sg) : Prop := ∀ z, z ≠ 6 → z ≠ 8 → σ1 z = σ z
def F80 (σ σ1 : Sg) : Prop := (∀ z, z ≠ 80 → σ1 z = σ z) ∧ ∀ k, 189 ≤ k → σ1 80 k = σ 80 k
theorem F6.refl (σ : Sg) : F6 σ σ := fun _ _ _ => rfl
theorem F6.trans {σ σ1 σ2 : Sg} (h : F6 σ σ1) (h2 : F6 σ1 σ2) : F6 σ σ2 := fun z a b => (h2 z a b).trans (h z a b)
theorem F80.refl (σ : Sg) : F80 σ σ := ⟨fun _ _ => rfl, fun _ _ => rfl⟩
theorem F80.trans {σ σ1 σ2 : Sg} (h : F80 σ σ1) (h2 : F80 σ1 σ2) : F80 σ σ2 := ⟨fun z a => (h2.1 z a).trans (h.1 z a), fun k a => (h2.2 k a).trans (h.2 k a)⟩
theorem TC.of {σ σ1 : Sg} {T : Nat → Nat} {len : Nat} (h : TC σ T len) (e : F6 σ σ1) : TC σ1 T len := ⟨by rw [e 76 (by decide) (by decide)]; exact h.1, fun i hi => by rw [e 78 (by decide) (by decide)]; exact h.2 i hi⟩
theorem TR.of {σ σ1 : Sg} {T : Nat → Nat} {len : Nat} (h : TR σ T len) (e : F80 σ σ1) : TR σ1 T len := ⟨by rw [e.1 79 (by decide)]; exact h.1, fun i hi => by rw [e.1 83 (by decide)]; exact h.2 i hi⟩
theorem F6_ring {σ : Sg} {s c : Nat} : F6 σ (ringS σ 6 s c) := fun z h6 h8 => (setR_ne h6).trans (setR_ne h8)
theorem ringP_189 {ρ : Nat → Int32} {s c k : Nat} (hs : s + mor c ≤ 160) (hk : 189 ≤ k) : ringP ρ s c k = ρ k := by
  rw [ringP, upd_ne (by omega), rgP, if_neg (by omega), if_neg (by omega)]
theorem F80_ring {σ : Sg} {s c : Nat} (hs : s + mor c ≤ 160) : F80 σ (setR σ 80 (ringP (σ 80) s c)) := ⟨fun z hz => setR_ne hz, fun k hk => by rw [setR_hit, ringP_189 hs hk]⟩
set_option maxRecDepth 20000 in
set_option maxHeartbeats 2000000 in
theorem ro_T {s l c : Nat} {σ : Sg} (hR : RowOK (σ 80) s) (hl : l < 25) (hc : σ 80 (4 + l) = nI c) (hc1 : c < 25) (h : ROOM (σ 80) s c) : CM mX10_ringsOne [ar 79, ai (nI l)] σ (Ret (nI 0) (setR σ 80 (ringP (σ 80) s c))) := by
  refine CM_in (ls := [some (ar 79), some (ai (nI l))]) rfl ?_
  refine g_aload_n (p0 := 1) (i := 0) dX10_ringsOne_0 rfl rfl rfl ?_
  refine g_iload_n (p0 := 2) (i := 1) dX10_ringsOne_1 rfl rfl rfl ?_
  refine g_cV1R (p0 := 5) (r1 := mX10_isRoom) dX10_ringsOne_2 lX10_94 vX10_isRoom (by first | rfl | assumption | exact RW.s (by assumption) | exact TW.s (by assumption)) ⟨_, _, rfl⟩ (FITi rfl rfl) (Nat.le_of_ble_eq_true rfl) ((rroom hR rfl hl hc hc1).1 h) rfl ?_
  first | ((with_reducible refine isN1 ?_); refine g_ifN_ne (tgt := 10) (p1 := 8) dX10_ringsOne_5 rfl (by omega) rfl (fun c_5 => ?_) (fun c_5 => by exfalso; first | omega | contradiction | exact absurd (by assumption) c_5 | (simp_all; done))) | refine g_if_ne (tgt := 10) (p1 := 8) dX10_ringsOne_5 rfl rfl (fun c_5 => ?_) (fun c_5 => by exfalso; first | omega | contradiction | exact absurd (by assumption) c_5 | (simp_all; done))
  refine g_aload_n (p0 := 11) (i := 0) dX10_ringsOne_10 rfl rfl rfl ?_
  refine g_iload_n (p0 := 12) (i := 1) dX10_ringsOne_11 rfl rfl rfl ?_
  refine g_cV1V (p0 := 15) (r1 := mX10_rings) dX10_ringsOne_12 lX10_98 vX10_rings (by first | rfl | assumption | exact RW.s (by assumption) | exact TW.s (by assumption)) ⟨_, _, rfl⟩ (FITi rfl rfl) (Nat.le_of_ble_eq_true rfl) (rings_sp hR.1 hR.2.1 hR.2.2.1 hl hc hc1 h.1) rfl ?_
  refine g_iconst (p0 := 16) (v := nI 0) dX10_ringsOne_15 rfl rfl ?_
  refine g_ireturn dX10_ringsOne_16 rfl rfl (?_)
  exact ⟨rfl, rfl⟩
set_option maxRecDepth 20000 in
set_option maxHeartbeats 2000000 in
theorem ro_F {s l c : Nat} {σ : Sg} (hR : RowOK (σ 80) s) (hl : l < 25) (hc : σ 80 (4 + l) = nI c) (hc1 : c < 25) (h : ¬ ROOM (σ 80) s c) : CM mX10_ringsOne [ar 79, ai (nI l)] σ (Ret (nI 3) σ) := by
  refine CM_in (ls := [some (ar 79), some (ai (nI l))]) rfl ?_
  refine g_aload_n (p0 := 1) (i := 0) dX10_ringsOne_0 rfl rfl rfl ?_
  refine g_iload_n (p0 := 2) (i := 1) dX10_ringsOne_1 rfl rfl rfl ?_
  refine g_cV1R (p0 := 5) (r1 := mX10_isRoom) dX10_ringsOne_2 lX10_94 vX10_isRoom (by first | rfl | assumption | exact RW.s (by assumption) | exact TW.s (by assumption)) ⟨_, _, rfl⟩ (FITi rfl rfl) (Nat.le_of_ble_eq_true rfl) ((rroom hR rfl hl hc hc1).2 h) rfl ?_
  first | ((with_reducible refine isN1 ?_); refine g_ifN_ne (tgt := 10) (p1 := 8) dX10_ringsOne_5 rfl (by omega) rfl (fun c_5 => by exfalso; first | omega | contradiction | exact absurd (by assumption) c_5 | (simp_all; done)) (fun c_5 => ?_)) | refine g_if_ne (tgt := 10) (p1 := 8) dX10_ringsOne_5 rfl rfl (fun c_5 => by exfalso; first | omega | contradiction | exact absurd (by assumption) c_5 | (simp_all; done)) (fun c_5 => ?_)
  refine g_iconst (p0 := 9) (v := nI 3) dX10_ringsOne_8 rfl rfl ?_
  refine g_ireturn dX10_ringsOne_9 rfl rfl (?_)
  exact ⟨rfl, rfl⟩
set_option maxRecDepth 20000 in
set_option maxHeartbeats 2000000 in
theorem ringJ {T : Nat → Nat} {len e : Nat} {chk f : Int32} (hT : TOK T len) (he : e < len) : ∀ q i ρ s S, i + q = e → (∀ j, i ≤ j → j < e → 97 ≤ T j ∧ T j ≤ 121) → RowOK ρ s → S + 24 * q ≤ 5000 → ∃ r ρ' s' S', (r = 0 ∨ r = 3) ∧ (r = 0 → RowOK ρ' s') ∧ S' ≤ 5000 ∧ (∀ (Q : SP) (σ : Sg), TC σ T len → Rep σ 6 ρ s → (r = 0 → ∀ σ1, F6 σ σ1 → Rep σ1 6 ρ' s' → ∀ x, WM mX5_ringAll Q 71 [some (ar 76), some (ar 6), some (ai (nI e)), some (ai chk), some (ai (nI (S'))), some (ai (nI e)), x] [] σ1) → (r = 3 → ∀ σ1, F6 σ σ1 → Q (some (ai (nI 3))) σ1) → ∀ x, WM mX5_ringAll Q 21 [some (ar 76), some (ar 6), some (ai (nI e)), some (ai chk), some (ai (nI (S))), some (ai (nI i)), x] [] σ) ∧ (∀ (Q : SP) (σ : Sg), TR σ T len → σ 80 = ρ → (r = 0 → ∀ σ1, F80 σ σ1 → σ1 80 = ρ' → WM mX10_ringsAll Q 52 [some (ar 79), some (ai f), some (ai (nI e)), some (ai chk), some (ai (nI (S'))), some (ai (nI e))] [] σ1) → (r = 3 → ∀ σ1, F80 σ σ1 → Q (some (ai (nI 3))) σ1) → WM mX10_ringsAll Q 6 [some (ar 79), some (ai f), some (ai (nI e)), some (ai chk), some (ai (nI (S))), some (ai (nI i))] [] σ) := by
  have hl60 := hT.1
  intro q
  induction q with
  | zero =>
    intro i ρ s S hi hall hR hS
    obtain rfl : i = e := by omega
    refine ⟨0, ρ, s, S, Or.inl rfl, fun _ => hR, by omega, fun Q σ hC hRep k0 k3 x => ?_, fun Q σ hC h80 k0 k3 => ?_⟩
    · have k := k0 rfl σ (F6.refl σ) hRep x
      refine g_iload (p0 := 23) dX5_ringAll_21 rfl rfl ?_
      refine g_iload_n (p0 := 24) (i := 2) dX5_ringAll_23 rfl rfl rfl ?_
      first | ((with_reducible refine isN2 ?_); refine g_icmpN_ge (tgt := 71) (p1 := 27) dX5_ringAll_24 rfl (by omega) (by omega) rfl (fun c_24 => ?_) (fun c_24 => by exfalso; first | omega | contradiction | exact absurd (by assumption) c_24 | (simp_all; done))) | refine g_icmp_ge (tgt := 71) (p1 := 27) dX5_ringAll_24 rfl rfl (fun c_24 => ?_) (fun c_24 => by exfalso; first | omega | contradiction | exact absurd (by assumption) c_24 | (simp_all; done))
      exact k
    · have k := k0 rfl σ (F80.refl σ) h80
      refine g_iload (p0 := 8) dX10_ringsAll_6 rfl rfl ?_
      refine g_iload_n (p0 := 9) (i := 2) dX10_ringsAll_8 rfl rfl rfl ?_
      first | ((with_reducible refine isN2 ?_); refine g_icmpN_ge (tgt := 52) (p1 := 12) dX10_ringsAll_9 rfl (by omega) (by omega) rfl (fun c_9 => ?_) (fun c_9 => by exfalso; first | omega | contradiction | exact absurd (by assumption) c_9 | (simp_all; done))) | refine g_icmp_ge (tgt := 52) (p1 := 12) dX10_ringsAll_9 rfl rfl (fun c_9 => ?_) (fun c_9 => by exfalso; first | omega | contradiction | exact absurd (by assumption) c_9 | (simp_all; done))
      exact k
  | succ q ih =>
    intro i ρ s S hi hall hR hS
    obtain ⟨hlo, hhi⟩ := hall i (Nat.le_refl i) (by omega)
    obtain ⟨cf, hcf, _⟩ := hR.2.2.2.1
    obtain ⟨hc, hc1⟩ := hcf (T i - 97) (by omega)
    have hl : T i - 97 < 25 := by omega
    have hs1 := hR.2.1
    by_cases hroom : ROOM ρ s (cf (T i - 97))
    · obtain ⟨r, ρ', s', S', e1, e2, e3, e4, e5⟩ := ih (i + 1) (ringP ρ s (cf (T i - 97))) (s + mor (cf (T i - 97))) (S + (T i - 97)) (by omega) (fun j h1 h2 => hall j (by omega) h2) (RowOK_ring hR hc1 hroom) (by omega)
      refine ⟨r, ρ', s', S', e1, e2, e3, fun Q σ hC hRep k0 k3 x => ?_, fun Q σ hC h80 k0 k3 => ?_⟩
      · have et := hC.2 i (by omega)
        have hrm := (room6 hR hRep hl hc hc1).1 hroom
        have hcc : σ (6 + 4) (T i - 97) = nI (cf (T i - 97)) := (hRep.2.2.2.2.1 _ hl).trans hc
        have hring := ringLetter_sp TW6 hRep.1 hs1 hl hcc hc1 hroom.1
        refine g_iload (p0 := 23) dX5_ringAll_21 rfl rfl ?_
        refine g_iload_n (p0 := 24) (i := 2) dX5_ringAll_23 rfl rfl rfl ?_
        first | ((with_reducible refine isN2 ?_); refine g_icmpN_ge (tgt := 71) (p1 := 27) dX5_ringAll_24 rfl (by omega) (by omega) rfl (fun c_24 => by exfalso; first | omega | contradiction | exact absurd (by assumption) c_24 | (simp_all; done)) (fun c_24 => ?_)) | refine g_icmp_ge (tgt := 71) (p1 := 27) dX5_ringAll_24 rfl rfl (fun c_24 => by exfalso; first | omega | contradiction | exact absurd (by assumption) c_24 | (simp_all; done)) (fun c_24 => ?_)
        refine g_aload_n (p0 := 28) (i := 0) dX5_ringAll_27 rfl rfl rfl ?_
        refine g_getR (p0 := 31) dX5_ringAll_28 fX5_14 (by first | rfl | assumption | exact RW.s (by assumption) | exact TW.s (by assumption)) rfl rfl ?_
        refine g_iload (p0 := 33) dX5_ringAll_31 rfl rfl ?_
        refine g_cV1R (p0 := 36) (r1 := mX7_at) dX5_ringAll_33 lX5_40 vX7_at (by first | rfl | assumption | exact RW.s (by assumption) | exact TW.s (by assumption)) ⟨_, _, rfl⟩ (FITi rfl rfl) (Nat.le_of_ble_eq_true rfl) (at_N ⟨rfl, rfl, by decide⟩ (by omega) et) rfl ?_
        refine g_bipush (p0 := 38) (v := nI 97) dX5_ringAll_36 (by decide) rfl ?_
        first | ((with_reducible refine isN2 ?_); refine g_isubN (p0 := 39) dX5_ringAll_38 (by omega) rfl ?_) | refine g_isub (p0 := 39) dX5_ringAll_38 rfl ?_
        refine g_istore (p0 := 41) (i := 6) (ls2 := [_, _, _, _, _, _, _]) dX5_ringAll_39 (Nat.le_of_ble_eq_true rfl) rfl rfl ?_
        refine g_aload_n (p0 := 42) (i := 1) dX5_ringAll_41 rfl rfl rfl ?_
        refine g_iload (p0 := 44) dX5_ringAll_42 rfl rfl ?_
        refine g_cV1R (p0 := 47) (r1 := mX8_hasRoomFor) dX5_ringAll_44 lX5_68 vX8_hasRoomFor (by first | rfl | assumption | exact RW.s (by assumption) | exact TW.s (by assumption)) ⟨_, _, rfl⟩ (FITi rfl rfl) (Nat.le_of_ble_eq_true rfl) (hrm) rfl ?_
        first | ((with_reducible refine isN1 ?_); refine g_ifN_ne (tgt := 52) (p1 := 50) dX5_ringAll_47 rfl (by omega) rfl (fun c_47 => ?_) (fun c_47 => by exfalso; first | omega | contradiction | exact absurd (by assumption) c_47 | (simp_all; done))) | refine g_if_ne (tgt := 52) (p1 := 50) dX5_ringAll_47 rfl rfl (fun c_47 => ?_) (fun c_47 => by exfalso; first | omega | contradiction | exact absurd (by assumption) c_47 | (simp_all; done))
        refine g_aload_n (p0 := 53) (i := 1) dX5_ringAll_52 rfl rfl rfl ?_
        refine g_iload (p0 := 55) dX5_ringAll_53 rfl rfl ?_
        refine g_cV1V (p0 := 58) (r1 := mX8_ringLetter) dX5_ringAll_55 lX5_71 vX8_ringLetter (by first | rfl | assumption | exact RW.s (by assumption) | exact TW.s (by assumption)) ⟨_, _, rfl⟩ (FITi rfl rfl) (Nat.le_of_ble_eq_true rfl) (hring) rfl ?_
        refine g_iload (p0 := 60) dX5_ringAll_58 rfl rfl ?_
        refine g_iload (p0 := 62) dX5_ringAll_60 rfl rfl ?_
        first | ((with_reducible refine isN2 ?_); refine g_iaddN (p0 := 63) dX5_ringAll_62 rfl ?_) | refine g_iadd (p0 := 63) dX5_ringAll_62 rfl ?_
        refine g_istore (p0 := 65) (i := 4) (ls2 := [_, _, _, _, _, _, _]) dX5_ringAll_63 (Nat.le_of_ble_eq_true rfl) rfl rfl ?_
        first | refine g_iinc1 (p0 := 68) (ls2 := [_, _, _, _, _, _, _]) dX5_ringAll_65 rfl rfl rfl ?_ | refine g_iinc (p0 := 68) (ls2 := [_, _, _, _, _, _, _]) dX5_ringAll_65 rfl rfl rfl rfl ?_
        refine g_goto (tgt := 21) dX5_ringAll_68 rfl ?_
        exact e4 Q _ (hC.of F6_ring) (Rep_ringG hRep) (fun h σ1 a b x => k0 h σ1 (F6_ring.trans a) b x) (fun h σ1 a => k3 h σ1 (F6_ring.trans a)) _
      · have et := hC.2 i (by omega)
        subst h80
        have hro := ro_T hR hl hc hc1 hroom
        have hf := F80_ring (σ := σ) hroom.1
        refine g_iload (p0 := 8) dX10_ringsAll_6 rfl rfl ?_
        refine g_iload_n (p0 := 9) (i := 2) dX10_ringsAll_8 rfl rfl rfl ?_
        first | ((with_reducible refine isN2 ?_); refine g_icmpN_ge (tgt := 52) (p1 := 12) dX10_ringsAll_9 rfl (by omega) (by omega) rfl (fun c_9 => by exfalso; first | omega | contradiction | exact absurd (by assumption) c_9 | (simp_all; done)) (fun c_9 => ?_)) | refine g_icmp_ge (tgt := 52) (p1 := 12) dX10_ringsAll_9 rfl rfl (fun c_9 => by exfalso; first | omega | contradiction | exact absurd (by assumption) c_9 | (simp_all; done)) (fun c_9 => ?_)
        refine g_iload (p0 := 14) dX10_ringsAll_12 rfl rfl ?_
        refine g_aload_n (p0 := 15) (i := 0) dX10_ringsAll_14 rfl rfl rfl ?_
        refine g_getR (p0 := 18) dX10_ringsAll_15 fX10_19 (by first | rfl | assumption | exact RW.s (by assumption) | exact TW.s (by assumption)) rfl rfl ?_
        refine g_iload (p0 := 20) dX10_ringsAll_18 rfl rfl ?_
        first | ((with_reducible refine isN1 ?_); refine g_aldN (p0 := 21) dX10_ringsAll_20 (by first | rfl | assumption | exact RW.s (by assumption) | exact TW.s (by assumption)) (by first | decide | assumption) (by omega) (by first | assumption | ((repeat (first | exact up_hit | refine up_nv (by decide) ?_ | refine up_mv (by first | decide | omega) ?_)) <;> first | assumption | rfl)) rfl ?_) | refine g_ald (p0 := 21) dX10_ringsAll_20 (by first | rfl | assumption | exact RW.s (by assumption) | exact TW.s (by assumption)) (by assumption) (by first | assumption | ((repeat (first | exact up_hit | refine up_nv (by decide) ?_ | refine up_mv (by first | decide | omega) ?_)) <;> first | assumption | rfl)) rfl ?_
        refine g_bipush (p0 := 23) (v := nI 97) dX10_ringsAll_21 (by decide) rfl ?_
        first | ((with_reducible refine isN2 ?_); refine g_isubN (p0 := 24) dX10_ringsAll_23 (by omega) rfl ?_) | refine g_isub (p0 := 24) dX10_ringsAll_23 rfl ?_
        first | ((with_reducible refine isN2 ?_); refine g_iaddN (p0 := 25) dX10_ringsAll_24 rfl ?_) | refine g_iadd (p0 := 25) dX10_ringsAll_24 rfl ?_
        refine g_istore (p0 := 27) (i := 4) (ls2 := [_, _, _, _, _, _]) dX10_ringsAll_25 (Nat.le_of_ble_eq_true rfl) rfl rfl ?_
        refine g_aload_n (p0 := 28) (i := 0) dX10_ringsAll_27 rfl rfl rfl ?_
        refine g_aload_n (p0 := 29) (i := 0) dX10_ringsAll_28 rfl rfl rfl ?_
        refine g_getR (p0 := 32) dX10_ringsAll_29 fX10_19 (by first | rfl | assumption | exact RW.s (by assumption) | exact TW.s (by assumption)) rfl rfl ?_
        refine g_iload (p0 := 34) dX10_ringsAll_32 rfl rfl ?_
        first | ((with_reducible refine isN1 ?_); refine g_aldN (p0 := 35) dX10_ringsAll_34 (by first | rfl | assumption | exact RW.s (by assumption) | exact TW.s (by assumption)) (by first | decide | assumption) (by omega) (by first | assumption | ((repeat (first | exact up_hit | refine up_nv (by decide) ?_ | refine up_mv (by first | decide | omega) ?_)) <;> first | assumption | rfl)) rfl ?_) | refine g_ald (p0 := 35) dX10_ringsAll_34 (by first | rfl | assumption | exact RW.s (by assumption) | exact TW.s (by assumption)) (by assumption) (by first | assumption | ((repeat (first | exact up_hit | refine up_nv (by decide) ?_ | refine up_mv (by first | decide | omega) ?_)) <;> first | assumption | rfl)) rfl ?_
        refine g_bipush (p0 := 37) (v := nI 97) dX10_ringsAll_35 (by decide) rfl ?_
        first | ((with_reducible refine isN2 ?_); refine g_isubN (p0 := 38) dX10_ringsAll_37 (by omega) rfl ?_) | refine g_isub (p0 := 38) dX10_ringsAll_37 rfl ?_
        refine g_cV1R (p0 := 41) (r1 := mX10_ringsOne) dX10_ringsAll_38 lX10_193 vX10_ringsOne (by first | rfl | assumption | exact RW.s (by assumption) | exact TW.s (by assumption)) ⟨_, _, rfl⟩ (FITi rfl rfl) (Nat.le_of_ble_eq_true rfl) (hro) rfl ?_
        first | ((with_reducible refine isN1 ?_); refine g_ifN_le (tgt := 46) (p1 := 44) dX10_ringsAll_41 rfl (by omega) rfl (fun c_41 => ?_) (fun c_41 => by exfalso; first | omega | contradiction | exact absurd (by assumption) c_41 | (simp_all; done))) | refine g_if_le (tgt := 46) (p1 := 44) dX10_ringsAll_41 rfl rfl (fun c_41 => ?_) (fun c_41 => by exfalso; first | omega | contradiction | exact absurd (by assumption) c_41 | (simp_all; done))
        first | refine g_iinc1 (p0 := 49) (ls2 := [_, _, _, _, _, _]) dX10_ringsAll_46 rfl rfl rfl ?_ | refine g_iinc (p0 := 49) (ls2 := [_, _, _, _, _, _]) dX10_ringsAll_46 rfl rfl rfl rfl ?_
        refine g_goto (tgt := 6) dX10_ringsAll_49 rfl ?_
        exact e5 Q _ (hC.of hf) setR_hit (fun h σ1 a b => k0 h σ1 (hf.trans a) b) (fun h σ1 a => k3 h σ1 (hf.trans a))
    · refine ⟨3, ρ, s, 0, Or.inr rfl, fun h => absurd h (by decide), by omega, fun Q σ hC hRep k0 k3 x => ?_, fun Q σ hC h80 k0 k3 => ?_⟩
      · have et := hC.2 i (by omega)
        have hrm := (room6 hR hRep hl hc hc1).2 hroom
        refine g_iload (p0 := 23) dX5_ringAll_21 rfl rfl ?_
        refine g_iload_n (p0 := 24) (i := 2) dX5_ringAll_23 rfl rfl rfl ?_
        first | ((with_reducible refine isN2 ?_); refine g_icmpN_ge (tgt := 71) (p1 := 27) dX5_ringAll_24 rfl (by omega) (by omega) rfl (fun c_24 => by exfalso; first | omega | contradiction | exact absurd (by assumption) c_24 | (simp_all; done)) (fun c_24 => ?_)) | refine g_icmp_ge (tgt := 71) (p1 := 27) dX5_ringAll_24 rfl rfl (fun c_24 => by exfalso; first | omega | contradiction | exact absurd (by assumption) c_24 | (simp_all; done)) (fun c_24 => ?_)
        refine g_aload_n (p0 := 28) (i := 0) dX5_ringAll_27 rfl rfl rfl ?_
        refine g_getR (p0 := 31) dX5_ringAll_28 fX5_14 (by first | rfl | assumption | exact RW.s (by assumption) | exact TW.s (by assumption)) rfl rfl ?_
        refine g_iload (p0 := 33) dX5_ringAll_31 rfl rfl ?_
        refine g_cV1R (p0 := 36) (r1 := mX7_at) dX5_ringAll_33 lX5_40 vX7_at (by first | rfl | assumption | exact RW.s (by assumption) | exact TW.s (by assumption)) ⟨_, _, rfl⟩ (FITi rfl rfl) (Nat.le_of_ble_eq_true rfl) (at_N ⟨rfl, rfl, by decide⟩ (by omega) et) rfl ?_
        refine g_bipush (p0 := 38) (v := nI 97) dX5_ringAll_36 (by decide) rfl ?_
        first | ((with_reducible refine isN2 ?_); refine g_isubN (p0 := 39) dX5_ringAll_38 (by omega) rfl ?_) | refine g_isub (p0 := 39) dX5_ringAll_38 rfl ?_
        refine g_istore (p0 := 41) (i := 6) (ls2 := [_, _, _, _, _, _, _]) dX5_ringAll_39 (Nat.le_of_ble_eq_true rfl) rfl rfl ?_
        refine g_aload_n (p0 := 42) (i := 1) dX5_ringAll_41 rfl rfl rfl ?_
        refine g_iload (p0 := 44) dX5_ringAll_42 rfl rfl ?_
        refine g_cV1R (p0 := 47) (r1 := mX8_hasRoomFor) dX5_ringAll_44 lX5_68 vX8_hasRoomFor (by first | rfl | assumption | exact RW.s (by assumption) | exact TW.s (by assumption)) ⟨_, _, rfl⟩ (FITi rfl rfl) (Nat.le_of_ble_eq_true rfl) (hrm) rfl ?_
        first | ((with_reducible refine isN1 ?_); refine g_ifN_ne (tgt := 52) (p1 := 50) dX5_ringAll_47 rfl (by omega) rfl (fun c_47 => by exfalso; first | omega | contradiction | exact absurd (by assumption) c_47 | (simp_all; done)) (fun c_47 => ?_)) | refine g_if_ne (tgt := 52) (p1 := 50) dX5_ringAll_47 rfl rfl (fun c_47 => by exfalso; first | omega | contradiction | exact absurd (by assumption) c_47 | (simp_all; done)) (fun c_47 => ?_)
        refine g_iconst (p0 := 51) (v := nI 3) dX5_ringAll_50 rfl rfl ?_
        refine g_ireturn dX5_ringAll_51 rfl rfl (?_)
        exact k3 rfl σ (F6.refl σ)
      · have et := hC.2 i (by omega)
        subst h80
        have hro := ro_F hR hl hc hc1 hroom
        refine g_iload (p0 := 8) dX10_ringsAll_6 rfl rfl ?_
        refine g_iload_n (p0 := 9) (i := 2) dX10_ringsAll_8 rfl rfl rfl ?_
        first | ((with_reducible refine isN2 ?_); refine g_icmpN_ge (tgt := 52) (p1 := 12) dX10_ringsAll_9 rfl (by omega) (by omega) rfl (fun c_9 => by exfalso; first | omega | contradiction | exact absurd (by assumption) c_9 | (simp_all; done)) (fun c_9 => ?_)) | refine g_icmp_ge (tgt := 52) (p1 := 12) dX10_ringsAll_9 rfl rfl (fun c_9 => by exfalso; first | omega | contradiction | exact absurd (by assumption) c_9 | (simp_all; done)) (fun c_9 => ?_)
        refine g_iload (p0 := 14) dX10_ringsAll_12 rfl rfl ?_
        refine g_aload_n (p0 := 15) (i := 0) dX10_ringsAll_14 rfl rfl rfl ?_
        refine g_getR (p0 := 18) dX10_ringsAll_15 fX10_19 (by first | rfl | assumption | exact RW.s (by assumption) | exact TW.s (by assumption)) rfl rfl ?_
        refine g_iload (p0 := 20) dX10_ringsAll_18 rfl rfl ?_
        first | ((with_reducible refine isN1 ?_); refine g_aldN (p0 := 21) dX10_ringsAll_20 (by first | rfl | assumption | exact RW.s (by assumption) | exact TW.s (by assumption)) (by first | decide | assumption) (by omega) (by first | assumption | ((repeat (first | exact up_hit | refine up_nv (by decide) ?_ | refine up_mv (by first | decide | omega) ?_)) <;> first | assumption | rfl)) rfl ?_) | refine g_ald (p0 := 21) dX10_ringsAll_20 (by first | rfl | assumption | exact RW.s (by assumption) | exact TW.s (by assumption)) (by assumption) (by first | assumption | ((repeat (first | exact up_hit | refine up_nv (by decide) ?_ | refine up_mv (by first | decide | omega) ?_)) <;> first | assumption | rfl)) rfl ?_
        refine g_bipush (p0 := 23) (v := nI 97) dX10_ringsAll_21 (by decide) rfl ?_
        first | ((with_reducible refine isN2 ?_); refine g_isubN (p0 := 24) dX10_ringsAll_23 (by omega) rfl ?_) | refine g_isub (p0 := 24) dX10_ringsAll_23 rfl ?_
        first | ((with_reducible refine isN2 ?_); refine g_iaddN (p0 := 25) dX10_ringsAll_24 rfl ?_) | refine g_iadd (p0 := 25) dX10_ringsAll_24 rfl ?_
        refine g_istore (p0 := 27) (i := 4) (ls2 := [_, _, _, _, _, _]) dX10_ringsAll_25 (Nat.le_of_ble_eq_true rfl) rfl rfl ?_
        refine g_aload_n (p0 := 28) (i := 0) dX10_ringsAll_27 rfl rfl rfl ?_
        refine g_aload_n (p0 := 29) (i := 0) dX10_ringsAll_28 rfl rfl rfl ?_
        refine g_getR (p0 := 32) dX10_ringsAll_29 fX10_19 (by first | rfl | assumption | exact RW.s (by assumption) | exact TW.s (by assumption)) rfl rfl ?_
        refine g_iload (p0 := 34) dX10_ringsAll_32 rfl rfl ?_
        first | ((with_reducible refine isN1 ?_); refine g_aldN (p0 := 35) dX10_ringsAll_34 (by first | rfl | assumption | exact RW.s (by assumption) | exact TW.s (by assumption)) (by first | decide | assumption) (by omega) (by first | assumption | ((repeat (first | exact up_hit | refine up_nv (by decide) ?_ | refine up_mv (by first | decide | omega) ?_)) <;> first | assumption | rfl)) rfl ?_) | refine g_ald (p0 := 35) dX10_ringsAll_34 (by first | rfl | assumption | exact RW.s (by assumption) | exact TW.s (by assumption)) (by assumption) (by first | assumption | ((repeat (first | exact up_hit | refine up_nv (by decide) ?_ | refine up_mv (by first | decide | omega) ?_)) <;> first | assumption | rfl)) rfl ?_
        refine g_bipush (p0 := 37) (v := nI 97) dX10_ringsAll_35 (by decide) rfl ?_
        first | ((with_reducible refine isN2 ?_); refine g_isubN (p0 := 38) dX10_ringsAll_37 (by omega) rfl ?_) | refine g_isub (p0 := 38) dX10_ringsAll_37 rfl ?_
        refine g_cV1R (p0 := 41) (r1 := mX10_ringsOne) dX10_ringsAll_38 lX10_193 vX10_ringsOne (by first | rfl | assumption | exact RW.s (by assumption) | exact TW.s (by assumption)) ⟨_, _, rfl⟩ (FITi rfl rfl) (Nat.le_of_ble_eq_true rfl) (hro) rfl ?_
        first | ((with_reducible refine isN1 ?_); refine g_ifN_le (tgt := 46) (p1 := 44) dX10_ringsAll_41 rfl (by omega) rfl (fun c_41 => by exfalso; first | omega | contradiction | exact absurd (by assumption) c_41 | (simp_all; done)) (fun c_41 => ?_)) | refine g_if_le (tgt := 46) (p1 := 44) dX10_ringsAll_41 rfl rfl (fun c_41 => by exfalso; first | omega | contradiction | exact absurd (by assumption) c_41 | (simp_all; done)) (fun c_41 => ?_)
        refine g_iconst (p0 := 45) (v := nI 3) dX10_ringsAll_44 rfl rfl ?_
        refine g_ireturn dX10_ringsAll_45 rfl rfl (?_)
        exact k3 rfl σ (F80.refl σ)
set_option maxRecDepth 20000 in
set_option maxHeartbeats 2000000 in
theorem ringAll_0 {T : Nat → Nat} {len p e s : Nat} {ρ : Nat → Int32} (hT : TOK T len) (he : e < len) (hL : LET T p e) (hR : RowOK ρ s) : ∃ r ρ' s', (r = 0 ∨ r = 3) ∧ (r = 0 → RowOK ρ' s') ∧ (∀ σ : Sg, TC σ T len → σ 76 2 = nI p → Rep σ 6 ρ s → CM mX5_ringAll [ar 76, ar 6, ai (nI e), ai (nI 0)] σ (RelI (fun u σ1 => u = nI r ∧ F6 σ σ1 ∧ (r = 0 → Rep σ1 6 ρ' s')))) ∧ (∀ σ : Sg, TR σ T len → σ 80 = ρ → CM mX10_ringsAll [ar 79, ai (nI (p + 1)), ai (nI e), ai (nI 0)] σ (RelI (fun u σ1 => u = nI r ∧ F80 σ σ1 ∧ (r = 0 → σ1 80 = ρ')))) := by
  have hl60 := hT.1
  have hL1 := hL.1
  obtain ⟨r, ρ1, s1, S, e1, e2, e3, e4, e5⟩ := ringJ (chk := nI 0) (f := nI (p + 1)) hT he (e - (p + 1)) (p + 1) ρ s 0 (by omega) (fun j h1 h2 => hL.2 j (by omega) h2) hR (by omega)
  rcases e1 with rfl | rfl
  · refine ⟨0, ρ1, s1, Or.inl rfl, e2, fun σ hC hp hRep => ?_, fun σ hC h80 => ?_⟩
    · refine CM_in (ls := [some (ar 76), some (ar 6), some (ai (nI e)), some (ai (nI 0)), none, none, none]) rfl ?_
      refine g_aload_n (p0 := 1) (i := 0) dX5_ringAll_0 rfl rfl rfl ?_
      refine g_iload_n (p0 := 2) (i := 2) dX5_ringAll_1 rfl rfl rfl ?_
      refine g_cV1R (p0 := 5) (r1 := mX5_hasLettersUpTo) dX5_ringAll_2 lX5_64 vX5_hasLettersUpTo (by first | rfl | assumption | exact RW.s (by assumption) | exact TW.s (by assumption)) ⟨_, _, rfl⟩ (FITi rfl rfl) (Nat.le_of_ble_eq_true rfl) (hasL_T hT hC hp he (by omega) hL) rfl ?_
      first | ((with_reducible refine isN1 ?_); refine g_ifN_ne (tgt := 10) (p1 := 8) dX5_ringAll_5 rfl (by omega) rfl (fun c_5 => ?_) (fun c_5 => by exfalso; first | omega | contradiction | exact absurd (by assumption) c_5 | (simp_all; done))) | refine g_if_ne (tgt := 10) (p1 := 8) dX5_ringAll_5 rfl rfl (fun c_5 => ?_) (fun c_5 => by exfalso; first | omega | contradiction | exact absurd (by assumption) c_5 | (simp_all; done))
      refine g_iconst (p0 := 11) (v := nI 0) dX5_ringAll_10 rfl rfl ?_
      refine g_istore (p0 := 13) (i := 4) (ls2 := [_, _, _, _, _, _, _]) dX5_ringAll_11 (Nat.le_of_ble_eq_true rfl) rfl rfl ?_
      refine g_aload_n (p0 := 14) (i := 0) dX5_ringAll_13 rfl rfl rfl ?_
      refine g_getI (p0 := 17) dX5_ringAll_14 fX5_24 (by first | rfl | assumption | exact RW.s (by assumption) | exact TW.s (by assumption)) rfl (by first | assumption | ((repeat (first | exact up_hit | refine up_nv (by decide) ?_ | refine up_mv (by first | decide | omega) ?_)) <;> first | assumption | rfl)) rfl ?_
      refine g_iconst (p0 := 18) (v := nI 1) dX5_ringAll_17 rfl rfl ?_
      first | ((with_reducible refine isN2 ?_); refine g_iaddN (p0 := 19) dX5_ringAll_18 rfl ?_) | refine g_iadd (p0 := 19) dX5_ringAll_18 rfl ?_
      refine g_istore (p0 := 21) (i := 5) (ls2 := [_, _, _, _, _, _, _]) dX5_ringAll_19 (Nat.le_of_ble_eq_true rfl) rfl rfl ?_
      refine e4 _ σ hC hRep (fun _ σ1 a b x => ?_) (fun h => absurd h (by decide)) _
      refine g_iload_n (p0 := 72) (i := 3) dX5_ringAll_71 rfl rfl rfl ?_
      first | ((with_reducible refine isN1 ?_); refine g_ifN_ne (tgt := 77) (p1 := 75) dX5_ringAll_72 rfl (by omega) rfl (fun c_72 => by exfalso; first | omega | contradiction | exact absurd (by assumption) c_72 | (simp_all; done)) (fun c_72 => ?_)) | refine g_if_ne (tgt := 77) (p1 := 75) dX5_ringAll_72 rfl rfl (fun c_72 => by exfalso; first | omega | contradiction | exact absurd (by assumption) c_72 | (simp_all; done)) (fun c_72 => ?_)
      refine g_iconst (p0 := 76) (v := nI 0) dX5_ringAll_75 rfl rfl ?_
      refine g_ireturn dX5_ringAll_76 rfl rfl (?_)
      exact ⟨_, rfl, rfl, a, fun _ => b⟩
    · refine CM_in (ls := [some (ar 79), some (ai (nI (p + 1))), some (ai (nI e)), some (ai (nI 0)), none, none]) rfl ?_
      refine g_iconst (p0 := 1) (v := nI 0) dX10_ringsAll_0 rfl rfl ?_
      refine g_istore (p0 := 3) (i := 4) (ls2 := [_, _, _, _, _, _]) dX10_ringsAll_1 (Nat.le_of_ble_eq_true rfl) rfl rfl ?_
      refine g_iload_n (p0 := 4) (i := 1) dX10_ringsAll_3 rfl rfl rfl ?_
      refine g_istore (p0 := 6) (i := 5) (ls2 := [_, _, _, _, _, _]) dX10_ringsAll_4 (Nat.le_of_ble_eq_true rfl) rfl rfl ?_
      refine e5 _ σ hC h80 (fun _ σ1 a b => ?_) (fun h => absurd h (by decide))
      refine g_iload_n (p0 := 53) (i := 3) dX10_ringsAll_52 rfl rfl rfl ?_
      first | ((with_reducible refine isN1 ?_); refine g_ifN_eq (tgt := 68) (p1 := 56) dX10_ringsAll_53 rfl (by omega) rfl (fun c_53 => ?_) (fun c_53 => by exfalso; first | omega | contradiction | exact absurd (by assumption) c_53 | (simp_all; done))) | refine g_if_eq (tgt := 68) (p1 := 56) dX10_ringsAll_53 rfl rfl (fun c_53 => ?_) (fun c_53 => by exfalso; first | omega | contradiction | exact absurd (by assumption) c_53 | (simp_all; done))
      refine g_iconst (p0 := 69) (v := nI 0) dX10_ringsAll_68 rfl rfl ?_
      refine g_ireturn dX10_ringsAll_69 rfl rfl (?_)
      exact ⟨_, rfl, rfl, a, fun _ => b⟩
  · refine ⟨3, ρ1, s1, Or.inr rfl, fun h => absurd h (by decide), fun σ hC hp hRep => ?_, fun σ hC h80 => ?_⟩
    · refine CM_in (ls := [some (ar 76), some (ar 6), some (ai (nI e)), some (ai (nI 0)), none, none, none]) rfl ?_
      refine g_aload_n (p0 := 1) (i := 0) dX5_ringAll_0 rfl rfl rfl ?_
      refine g_iload_n (p0 := 2) (i := 2) dX5_ringAll_1 rfl rfl rfl ?_
      refine g_cV1R (p0 := 5) (r1 := mX5_hasLettersUpTo) dX5_ringAll_2 lX5_64 vX5_hasLettersUpTo (by first | rfl | assumption | exact RW.s (by assumption) | exact TW.s (by assumption)) ⟨_, _, rfl⟩ (FITi rfl rfl) (Nat.le_of_ble_eq_true rfl) (hasL_T hT hC hp he (by omega) hL) rfl ?_
      first | ((with_reducible refine isN1 ?_); refine g_ifN_ne (tgt := 10) (p1 := 8) dX5_ringAll_5 rfl (by omega) rfl (fun c_5 => ?_) (fun c_5 => by exfalso; first | omega | contradiction | exact absurd (by assumption) c_5 | (simp_all; done))) | refine g_if_ne (tgt := 10) (p1 := 8) dX5_ringAll_5 rfl rfl (fun c_5 => ?_) (fun c_5 => by exfalso; first | omega | contradiction | exact absurd (by assumption) c_5 | (simp_all; done))
      refine g_iconst (p0 := 11) (v := nI 0) dX5_ringAll_10 rfl rfl ?_
      refine g_istore (p0 := 13) (i := 4) (ls2 := [_, _, _, _, _, _, _]) dX5_ringAll_11 (Nat.le_of_ble_eq_true rfl) rfl rfl ?_
      refine g_aload_n (p0 := 14) (i := 0) dX5_ringAll_13 rfl rfl rfl ?_
      refine g_getI (p0 := 17) dX5_ringAll_14 fX5_24 (by first | rfl | assumption | exact RW.s (by assumption) | exact TW.s (by assumption)) rfl (by first | assumption | ((repeat (first | exact up_hit | refine up_nv (by decide) ?_ | refine up_mv (by first | decide | omega) ?_)) <;> first | assumption | rfl)) rfl ?_
      refine g_iconst (p0 := 18) (v := nI 1) dX5_ringAll_17 rfl rfl ?_
      first | ((with_reducible refine isN2 ?_); refine g_iaddN (p0 := 19) dX5_ringAll_18 rfl ?_) | refine g_iadd (p0 := 19) dX5_ringAll_18 rfl ?_
      refine g_istore (p0 := 21) (i := 5) (ls2 := [_, _, _, _, _, _, _]) dX5_ringAll_19 (Nat.le_of_ble_eq_true rfl) rfl rfl ?_
      exact e4 _ σ hC hRep (fun h => absurd h (by decide)) (fun _ σ1 a => ⟨_, rfl, rfl, a, fun h => absurd h (by decide)⟩) _
    · refine CM_in (ls := [some (ar 79), some (ai (nI (p + 1))), some (ai (nI e)), some (ai (nI 0)), none, none]) rfl ?_
      refine g_iconst (p0 := 1) (v := nI 0) dX10_ringsAll_0 rfl rfl ?_
      refine g_istore (p0 := 3) (i := 4) (ls2 := [_, _, _, _, _, _]) dX10_ringsAll_1 (Nat.le_of_ble_eq_true rfl) rfl rfl ?_
      refine g_iload_n (p0 := 4) (i := 1) dX10_ringsAll_3 rfl rfl rfl ?_
      refine g_istore (p0 := 6) (i := 5) (ls2 := [_, _, _, _, _, _]) dX10_ringsAll_4 (Nat.le_of_ble_eq_true rfl) rfl rfl ?_
      exact e5 _ σ hC h80 (fun h => absurd h (by decide)) (fun _ σ1 a => ⟨_, rfl, rfl, a, fun h => absurd h (by decide)⟩)
set_option maxRecDepth 20000 in
set_option maxHeartbeats 2000000 in
theorem ringAll_1 {T : Nat → Nat} {len p e s : Nat} {ρ : Nat → Int32} (hT : TOK T len) (he : e < len) (hL : LET T p e) (hR : RowOK ρ s) : ∃ r ρ' s', (r = 0 ∨ r = 3) ∧ (r = 0 → RowOK ρ' s') ∧ (∀ σ : Sg, TC σ T len → σ 76 2 = nI p → Rep σ 6 ρ s → CM mX5_ringAll [ar 76, ar 6, ai (nI e), ai (nI 1)] σ (RelI (fun u σ1 => u = nI r ∧ F6 σ σ1 ∧ (r = 0 → Rep σ1 6 ρ' s')))) ∧ (∀ σ : Sg, TR σ T len → σ 80 = ρ → CM mX10_ringsAll [ar 79, ai (nI (p + 1)), ai (nI e), ai (nI 1)] σ (RelI (fun u σ1 => u = nI r ∧ F80 σ σ1 ∧ (r = 0 → σ1 80 = ρ')))) := by
  have hl60 := hT.1
  have hL1 := hL.1
  obtain ⟨r, ρ1, s1, S, e1, e2, e3, e4, e5⟩ := ringJ (chk := nI 1) (f := nI (p + 1)) hT he (e - (p + 1)) (p + 1) ρ s 0 (by omega) (fun j h1 h2 => hL.2 j (by omega) h2) hR (by omega)
  rcases e1 with rfl | rfl
  · have hR1 := e2 rfl
    have hs1 := hR1.2.1
    obtain ⟨cf, hcf, _⟩ := hR1.2.2.2.1
    have hl : S % 25 < 25 := Nat.mod_lt _ (by decide)
    obtain ⟨hc, hc1⟩ := hcf (S % 25) hl
    by_cases hroom : ROOM ρ1 s1 (cf (S % 25))
    · refine ⟨0, ringP ρ1 s1 (cf (S % 25)), s1 + mor (cf (S % 25)), Or.inl rfl, fun _ => RowOK_ring hR1 hc1 hroom, fun σ hC hp hRep => ?_, fun σ hC h80 => ?_⟩
      · refine CM_in (ls := [some (ar 76), some (ar 6), some (ai (nI e)), some (ai (nI 1)), none, none, none]) rfl ?_
        refine g_aload_n (p0 := 1) (i := 0) dX5_ringAll_0 rfl rfl rfl ?_
        refine g_iload_n (p0 := 2) (i := 2) dX5_ringAll_1 rfl rfl rfl ?_
        refine g_cV1R (p0 := 5) (r1 := mX5_hasLettersUpTo) dX5_ringAll_2 lX5_64 vX5_hasLettersUpTo (by first | rfl | assumption | exact RW.s (by assumption) | exact TW.s (by assumption)) ⟨_, _, rfl⟩ (FITi rfl rfl) (Nat.le_of_ble_eq_true rfl) (hasL_T hT hC hp he (by omega) hL) rfl ?_
        first | ((with_reducible refine isN1 ?_); refine g_ifN_ne (tgt := 10) (p1 := 8) dX5_ringAll_5 rfl (by omega) rfl (fun c_5 => ?_) (fun c_5 => by exfalso; first | omega | contradiction | exact absurd (by assumption) c_5 | (simp_all; done))) | refine g_if_ne (tgt := 10) (p1 := 8) dX5_ringAll_5 rfl rfl (fun c_5 => ?_) (fun c_5 => by exfalso; first | omega | contradiction | exact absurd (by assumption) c_5 | (simp_all; done))
        refine g_iconst (p0 := 11) (v := nI 0) dX5_ringAll_10 rfl rfl ?_
        refine g_istore (p0 := 13) (i := 4) (ls2 := [_, _, _, _, _, _, _]) dX5_ringAll_11 (Nat.le_of_ble_eq_true rfl) rfl rfl ?_
        refine g_aload_n (p0 := 14) (i := 0) dX5_ringAll_13 rfl rfl rfl ?_
        refine g_getI (p0 := 17) dX5_ringAll_14 fX5_24 (by first | rfl | assumption | exact RW.s (by assumption) | exact TW.s (by assumption)) rfl (by first | assumption | ((repeat (first | exact up_hit | refine up_nv (by decide) ?_ | refine up_mv (by first | decide | omega) ?_)) <;> first | assumption | rfl)) rfl ?_
        refine g_iconst (p0 := 18) (v := nI 1) dX5_ringAll_17 rfl rfl ?_
        first | ((with_reducible refine isN2 ?_); refine g_iaddN (p0 := 19) dX5_ringAll_18 rfl ?_) | refine g_iadd (p0 := 19) dX5_ringAll_18 rfl ?_
        refine g_istore (p0 := 21) (i := 5) (ls2 := [_, _, _, _, _, _, _]) dX5_ringAll_19 (Nat.le_of_ble_eq_true rfl) rfl rfl ?_
        refine e4 _ σ hC hRep (fun _ σ1 a b x => ?_) (fun h => absurd h (by decide)) _
        have hrm := (room6 hR1 b hl hc hc1).1 hroom
        have hcc : σ1 (6 + 4) (S % 25) = nI (cf (S % 25)) := (b.2.2.2.2.1 _ hl).trans hc
        have hring := ringLetter_sp TW6 b.1 hs1 hl hcc hc1 hroom.1
        refine g_iload_n (p0 := 72) (i := 3) dX5_ringAll_71 rfl rfl rfl ?_
        first | ((with_reducible refine isN1 ?_); refine g_ifN_ne (tgt := 77) (p1 := 75) dX5_ringAll_72 rfl (by omega) rfl (fun c_72 => ?_) (fun c_72 => by exfalso; first | omega | contradiction | exact absurd (by assumption) c_72 | (simp_all; done))) | refine g_if_ne (tgt := 77) (p1 := 75) dX5_ringAll_72 rfl rfl (fun c_72 => ?_) (fun c_72 => by exfalso; first | omega | contradiction | exact absurd (by assumption) c_72 | (simp_all; done))
        refine g_iload (p0 := 79) dX5_ringAll_77 rfl rfl ?_
        refine g_bipush (p0 := 81) (v := nI 25) dX5_ringAll_79 (by decide) rfl ?_
        first | ((with_reducible refine isN2 ?_); refine g_iremN (p0 := 82) dX5_ringAll_81 (by omega) (by omega) (by omega) rfl ?_) | refine g_irem (p0 := 82) dX5_ringAll_81 (by decide) rfl ?_
        refine g_istore (p0 := 84) (i := 5) (ls2 := [_, _, _, _, _, _, _]) dX5_ringAll_82 (Nat.le_of_ble_eq_true rfl) rfl rfl ?_
        refine g_aload_n (p0 := 85) (i := 1) dX5_ringAll_84 rfl rfl rfl ?_
        refine g_iload (p0 := 87) dX5_ringAll_85 rfl rfl ?_
        refine g_cV1R (p0 := 90) (r1 := mX8_hasRoomFor) dX5_ringAll_87 lX5_68 vX8_hasRoomFor (by first | rfl | assumption | exact RW.s (by assumption) | exact TW.s (by assumption)) ⟨_, _, rfl⟩ (FITi rfl rfl) (Nat.le_of_ble_eq_true rfl) (hrm) rfl ?_
        first | ((with_reducible refine isN1 ?_); refine g_ifN_ne (tgt := 95) (p1 := 93) dX5_ringAll_90 rfl (by omega) rfl (fun c_90 => ?_) (fun c_90 => by exfalso; first | omega | contradiction | exact absurd (by assumption) c_90 | (simp_all; done))) | refine g_if_ne (tgt := 95) (p1 := 93) dX5_ringAll_90 rfl rfl (fun c_90 => ?_) (fun c_90 => by exfalso; first | omega | contradiction | exact absurd (by assumption) c_90 | (simp_all; done))
        refine g_aload_n (p0 := 96) (i := 1) dX5_ringAll_95 rfl rfl rfl ?_
        refine g_iload (p0 := 98) dX5_ringAll_96 rfl rfl ?_
        refine g_cV1V (p0 := 101) (r1 := mX8_ringLetter) dX5_ringAll_98 lX5_71 vX8_ringLetter (by first | rfl | assumption | exact RW.s (by assumption) | exact TW.s (by assumption)) ⟨_, _, rfl⟩ (FITi rfl rfl) (Nat.le_of_ble_eq_true rfl) (hring) rfl ?_
        refine g_iconst (p0 := 102) (v := nI 0) dX5_ringAll_101 rfl rfl ?_
        refine g_ireturn dX5_ringAll_102 rfl rfl (?_)
        exact ⟨_, rfl, rfl, a.trans F6_ring, fun _ => Rep_ringG b⟩
      · refine CM_in (ls := [some (ar 79), some (ai (nI (p + 1))), some (ai (nI e)), some (ai (nI 1)), none, none]) rfl ?_
        refine g_iconst (p0 := 1) (v := nI 0) dX10_ringsAll_0 rfl rfl ?_
        refine g_istore (p0 := 3) (i := 4) (ls2 := [_, _, _, _, _, _]) dX10_ringsAll_1 (Nat.le_of_ble_eq_true rfl) rfl rfl ?_
        refine g_iload_n (p0 := 4) (i := 1) dX10_ringsAll_3 rfl rfl rfl ?_
        refine g_istore (p0 := 6) (i := 5) (ls2 := [_, _, _, _, _, _]) dX10_ringsAll_4 (Nat.le_of_ble_eq_true rfl) rfl rfl ?_
        refine e5 _ σ hC h80 (fun _ σ1 a b => ?_) (fun h => absurd h (by decide))
        subst b
        have hro := ro_T hR1 hl hc hc1 hroom
        refine g_iload_n (p0 := 53) (i := 3) dX10_ringsAll_52 rfl rfl rfl ?_
        first | ((with_reducible refine isN1 ?_); refine g_ifN_eq (tgt := 68) (p1 := 56) dX10_ringsAll_53 rfl (by omega) rfl (fun c_53 => by exfalso; first | omega | contradiction | exact absurd (by assumption) c_53 | (simp_all; done)) (fun c_53 => ?_)) | refine g_if_eq (tgt := 68) (p1 := 56) dX10_ringsAll_53 rfl rfl (fun c_53 => by exfalso; first | omega | contradiction | exact absurd (by assumption) c_53 | (simp_all; done)) (fun c_53 => ?_)
        refine g_aload_n (p0 := 57) (i := 0) dX10_ringsAll_56 rfl rfl rfl ?_
        refine g_iload (p0 := 59) dX10_ringsAll_57 rfl rfl ?_
        refine g_bipush (p0 := 61) (v := nI 25) dX10_ringsAll_59 (by decide) rfl ?_
        first | ((with_reducible refine isN2 ?_); refine g_iremN (p0 := 62) dX10_ringsAll_61 (by omega) (by omega) (by omega) rfl ?_) | refine g_irem (p0 := 62) dX10_ringsAll_61 (by decide) rfl ?_
        refine g_cV1R (p0 := 65) (r1 := mX10_ringsOne) dX10_ringsAll_62 lX10_193 vX10_ringsOne (by first | rfl | assumption | exact RW.s (by assumption) | exact TW.s (by assumption)) ⟨_, _, rfl⟩ (FITi rfl rfl) (Nat.le_of_ble_eq_true rfl) (hro) rfl ?_
        refine g_goto (tgt := 69) dX10_ringsAll_65 rfl ?_
        refine g_ireturn dX10_ringsAll_69 rfl rfl (?_)
        exact ⟨_, rfl, rfl, a.trans (F80_ring hroom.1), fun _ => setR_hit⟩
    · refine ⟨3, ρ1, s1, Or.inr rfl, fun h => absurd h (by decide), fun σ hC hp hRep => ?_, fun σ hC h80 => ?_⟩
      · refine CM_in (ls := [some (ar 76), some (ar 6), some (ai (nI e)), some (ai (nI 1)), none, none, none]) rfl ?_
        refine g_aload_n (p0 := 1) (i := 0) dX5_ringAll_0 rfl rfl rfl ?_
        refine g_iload_n (p0 := 2) (i := 2) dX5_ringAll_1 rfl rfl rfl ?_
        refine g_cV1R (p0 := 5) (r1 := mX5_hasLettersUpTo) dX5_ringAll_2 lX5_64 vX5_hasLettersUpTo (by first | rfl | assumption | exact RW.s (by assumption) | exact TW.s (by assumption)) ⟨_, _, rfl⟩ (FITi rfl rfl) (Nat.le_of_ble_eq_true rfl) (hasL_T hT hC hp he (by omega) hL) rfl ?_
        first | ((with_reducible refine isN1 ?_); refine g_ifN_ne (tgt := 10) (p1 := 8) dX5_ringAll_5 rfl (by omega) rfl (fun c_5 => ?_) (fun c_5 => by exfalso; first | omega | contradiction | exact absurd (by assumption) c_5 | (simp_all; done))) | refine g_if_ne (tgt := 10) (p1 := 8) dX5_ringAll_5 rfl rfl (fun c_5 => ?_) (fun c_5 => by exfalso; first | omega | contradiction | exact absurd (by assumption) c_5 | (simp_all; done))
        refine g_iconst (p0 := 11) (v := nI 0) dX5_ringAll_10 rfl rfl ?_
        refine g_istore (p0 := 13) (i := 4) (ls2 := [_, _, _, _, _, _, _]) dX5_ringAll_11 (Nat.le_of_ble_eq_true rfl) rfl rfl ?_
        refine g_aload_n (p0 := 14) (i := 0) dX5_ringAll_13 rfl rfl rfl ?_
        refine g_getI (p0 := 17) dX5_ringAll_14 fX5_24 (by first | rfl | assumption | exact RW.s (by assumption) | exact TW.s (by assumption)) rfl (by first | assumption | ((repeat (first | exact up_hit | refine up_nv (by decide) ?_ | refine up_mv (by first | decide | omega) ?_)) <;> first | assumption | rfl)) rfl ?_
        refine g_iconst (p0 := 18) (v := nI 1) dX5_ringAll_17 rfl rfl ?_
        first | ((with_reducible refine isN2 ?_); refine g_iaddN (p0 := 19) dX5_ringAll_18 rfl ?_) | refine g_iadd (p0 := 19) dX5_ringAll_18 rfl ?_
        refine g_istore (p0 := 21) (i := 5) (ls2 := [_, _, _, _, _, _, _]) dX5_ringAll_19 (Nat.le_of_ble_eq_true rfl) rfl rfl ?_
        refine e4 _ σ hC hRep (fun _ σ1 a b x => ?_) (fun h => absurd h (by decide)) _
        have hrm := (room6 hR1 b hl hc hc1).2 hroom
        refine g_iload_n (p0 := 72) (i := 3) dX5_ringAll_71 rfl rfl rfl ?_
        first | ((with_reducible refine isN1 ?_); refine g_ifN_ne (tgt := 77) (p1 := 75) dX5_ringAll_72 rfl (by omega) rfl (fun c_72 => ?_) (fun c_72 => by exfalso; first | omega | contradiction | exact absurd (by assumption) c_72 | (simp_all; done))) | refine g_if_ne (tgt := 77) (p1 := 75) dX5_ringAll_72 rfl rfl (fun c_72 => ?_) (fun c_72 => by exfalso; first | omega | contradiction | exact absurd (by assumption) c_72 | (simp_all; done))
        refine g_iload (p0 := 79) dX5_ringAll_77 rfl rfl ?_
        refine g_bipush (p0 := 81) (v := nI 25) dX5_ringAll_79 (by decide) rfl ?_
        first | ((with_reducible refine isN2 ?_); refine g_iremN (p0 := 82) dX5_ringAll_81 (by omega) (by omega) (by omega) rfl ?_) | refine g_irem (p0 := 82) dX5_ringAll_81 (by decide) rfl ?_
        refine g_istore (p0 := 84) (i := 5) (ls2 := [_, _, _, _, _, _, _]) dX5_ringAll_82 (Nat.le_of_ble_eq_true rfl) rfl rfl ?_
        refine g_aload_n (p0 := 85) (i := 1) dX5_ringAll_84 rfl rfl rfl ?_
        refine g_iload (p0 := 87) dX5_ringAll_85 rfl rfl ?_
        refine g_cV1R (p0 := 90) (r1 := mX8_hasRoomFor) dX5_ringAll_87 lX5_68 vX8_hasRoomFor (by first | rfl | assumption | exact RW.s (by assumption) | exact TW.s (by assumption)) ⟨_, _, rfl⟩ (FITi rfl rfl) (Nat.le_of_ble_eq_true rfl) (hrm) rfl ?_
        first | ((with_reducible refine isN1 ?_); refine g_ifN_ne (tgt := 95) (p1 := 93) dX5_ringAll_90 rfl (by omega) rfl (fun c_90 => by exfalso; first | omega | contradiction | exact absurd (by assumption) c_90 | (simp_all; done)) (fun c_90 => ?_)) | refine g_if_ne (tgt := 95) (p1 := 93) dX5_ringAll_90 rfl rfl (fun c_90 => by exfalso; first | omega | contradiction | exact absurd (by assumption) c_90 | (simp_all; done)) (fun c_90 => ?_)
        refine g_iconst (p0 := 94) (v := nI 3) dX5_ringAll_93 rfl rfl ?_
        refine g_ireturn dX5_ringAll_94 rfl rfl (?_)
        exact ⟨_, rfl, rfl, a, fun h => absurd h (by decide)⟩
      · refine CM_in (ls := [some (ar 79), some (ai (nI (p + 1))), some (ai (nI e)), some (ai (nI 1)), none, none]) rfl ?_
        refine g_iconst (p0 := 1) (v := nI 0) dX10_ringsAll_0 rfl rfl ?_
        refine g_istore (p0 := 3) (i := 4) (ls2 := [_, _, _, _, _, _]) dX10_ringsAll_1 (Nat.le_of_ble_eq_true rfl) rfl rfl ?_
        refine g_iload_n (p0 := 4) (i := 1) dX10_ringsAll_3 rfl rfl rfl ?_
        refine g_istore (p0 := 6) (i := 5) (ls2 := [_, _, _, _, _, _]) dX10_ringsAll_4 (Nat.le_of_ble_eq_true rfl) rfl rfl ?_
        refine e5 _ σ hC h80 (fun _ σ1 a b => ?_) (fun h => absurd h (by decide))
        subst b
        have hro := ro_F hR1 hl hc hc1 hroom
        refine g_iload_n (p0 := 53) (i := 3) dX10_ringsAll_52 rfl rfl rfl ?_
        first | ((with_reducible refine isN1 ?_); refine g_ifN_eq (tgt := 68) (p1 := 56) dX10_ringsAll_53 rfl (by omega) rfl (fun c_53 => by exfalso; first | omega | contradiction | exact absurd (by assumption) c_53 | (simp_all; done)) (fun c_53 => ?_)) | refine g_if_eq (tgt := 68) (p1 := 56) dX10_ringsAll_53 rfl rfl (fun c_53 => by exfalso; first | omega | contradiction | exact absurd (by assumption) c_53 | (simp_all; done)) (fun c_53 => ?_)
        refine g_aload_n (p0 := 57) (i := 0) dX10_ringsAll_56 rfl rfl rfl ?_
        refine g_iload (p0 := 59) dX10_ringsAll_57 rfl rfl ?_
        refine g_bipush (p0 := 61) (v := nI 25) dX10_ringsAll_59 (by decide) rfl ?_
        first | ((with_reducible refine isN2 ?_); refine g_iremN (p0 := 62) dX10_ringsAll_61 (by omega) (by omega) (by omega) rfl ?_) | refine g_irem (p0 := 62) dX10_ringsAll_61 (by decide) rfl ?_
        refine g_cV1R (p0 := 65) (r1 := mX10_ringsOne) dX10_ringsAll_62 lX10_193 vX10_ringsOne (by first | rfl | assumption | exact RW.s (by assumption) | exact TW.s (by assumption)) ⟨_, _, rfl⟩ (FITi rfl rfl) (Nat.le_of_ble_eq_true rfl) (hro) rfl ?_
        refine g_goto (tgt := 69) dX10_ringsAll_65 rfl ?_
        refine g_ireturn dX10_ringsAll_69 rfl rfl (?_)
        exact ⟨_, rfl, rfl, a, fun h => absurd h (by decide)⟩
  · refine ⟨3, ρ1, s1, Or.inr rfl, fun h => absurd h (by decide), fun σ hC hp hRep => ?_, fun σ hC h80 => ?_⟩
    · refine CM_in (ls := [some (ar 76), some (ar 6), some (ai (nI e)), some (ai (nI 1)), none, none, none]) rfl ?_
      refine g_aload_n (p0 := 1) (i := 0) dX5_ringAll_0 rfl rfl rfl ?_
      refine g_iload_n (p0 := 2) (i := 2) dX5_ringAll_1 rfl rfl rfl ?_
      refine g_cV1R (p0 := 5) (r1 := mX5_hasLettersUpTo) dX5_ringAll_2 lX5_64 vX5_hasLettersUpTo (by first | rfl | assumption | exact RW.s (by assumption) | exact TW.s (by assumption)) ⟨_, _, rfl⟩ (FITi rfl rfl) (Nat.le_of_ble_eq_true rfl) (hasL_T hT hC hp he (by omega) hL) rfl ?_
      first | ((with_reducible refine isN1 ?_); refine g_ifN_ne (tgt := 10) (p1 := 8) dX5_ringAll_5 rfl (by omega) rfl (fun c_5 => ?_) (fun c_5 => by exfalso; first | omega | contradiction | exact absurd (by assumption) c_5 | (simp_all; done))) | refine g_if_ne (tgt := 10) (p1 := 8) dX5_ringAll_5 rfl rfl (fun c_5 => ?_) (fun c_5 => by exfalso; first | omega | contradiction | exact absurd (by assumption) c_5 | (simp_all; done))
      refine g_iconst (p0 := 11) (v := nI 0) dX5_ringAll_10 rfl rfl ?_
      refine g_istore (p0 := 13) (i := 4) (ls2 := [_, _, _, _, _, _, _]) dX5_ringAll_11 (Nat.le_of_ble_eq_true rfl) rfl rfl ?_
      refine g_aload_n (p0 := 14) (i := 0) dX5_ringAll_13 rfl rfl rfl ?_
      refine g_getI (p0 := 17) dX5_ringAll_14 fX5_24 (by first | rfl | assumption | exact RW.s (by assumption) | exact TW.s (by assumption)) rfl (by first | assumption | ((repeat (first | exact up_hit | refine up_nv (by decide) ?_ | refine up_mv (by first | decide | omega) ?_)) <;> first | assumption | rfl)) rfl ?_
      refine g_iconst (p0 := 18) (v := nI 1) dX5_ringAll_17 rfl rfl ?_
      first | ((with_reducible refine isN2 ?_); refine g_iaddN (p0 := 19) dX5_ringAll_18 rfl ?_) | refine g_iadd (p0 := 19) dX5_ringAll_18 rfl ?_
      refine g_istore (p0 := 21) (i := 5) (ls2 := [_, _, _, _, _, _, _]) dX5_ringAll_19 (Nat.le_of_ble_eq_true rfl) rfl rfl ?_
      exact e4 _ σ hC hRep (fun h => absurd h (by decide)) (fun _ σ1 a => ⟨_, rfl, rfl, a, fun h => absurd h (by decide)⟩) _
    · refine CM_in (ls := [some (ar 79), some (ai (nI (p + 1))), some (ai (nI e)), some (ai (nI 1)), none, none]) rfl ?_
      refine g_iconst (p0 := 1) (v := nI 0) dX10_ringsAll_0 rfl rfl ?_
      refine g_istore (p0 := 3) (i := 4) (ls2 := [_, _, _, _, _, _]) dX10_ringsAll_1 (Nat.le_of_ble_eq_true rfl) rfl rfl ?_
      refine g_iload_n (p0 := 4) (i := 1) dX10_ringsAll_3 rfl rfl rfl ?_
      refine g_istore (p0 := 6) (i := 5) (ls2 := [_, _, _, _, _, _]) dX10_ringsAll_4 (Nat.le_of_ble_eq_true rfl) rfl rfl ?_
      exact e5 _ σ hC h80 (fun h => absurd h (by decide)) (fun _ σ1 a => ⟨_, rfl, rfl, a, fun h => absurd h (by decide)⟩)
