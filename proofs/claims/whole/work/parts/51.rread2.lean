/-! READING, the reference: all strokes -/
theorem up_ne2 {σ : Sg} {c k c2 k2 : Nat} {x : Int32} (h : c2 ≠ c) : up σ c k x c2 k2 = σ c2 k2 := by rw [up_ne h]
set_option maxRecDepth 20000 in
set_option maxHeartbeats 2000000 in
theorem lays_t0 {k M : Nat} {x : Int32} {s f p d : Nat → Nat} {σ : Sg} {Q : SP} (hM : MTr σ (M + 1) s f p d) (hk : k < 160) (hm : M < 160) (hd : CM mX10_isDoubtful [ar 79, ai (nI k)] σ (Ret (nI 0) σ)) (next : WM mX10_lays Q 14 [some (ar 79), some (ai x), some (ai (nI (k + 1)))] [] (up σ 95 M (nI (d M + 0)))) : WM mX10_lays Q 103 [some (ar 79), some (ai x), some (ai (nI k))] [] σ := by
  have v1 := hM.1
  have v2 : σ 95 (M + 1 - 1) = nI (d M) := (hM.2 M (by omega)).2.2.2
  refine g_aload_n (p0 := 104) (i := 0) dX10_lays_103 rfl rfl rfl ?_
  refine g_getR (p0 := 107) dX10_lays_104 fX10_55 (by first | rfl | assumption | exact RW.s (by assumption) | exact TW.s (by assumption)) rfl rfl ?_
  refine g_aload_n (p0 := 108) (i := 0) dX10_lays_107 rfl rfl rfl ?_
  refine g_getI (p0 := 111) dX10_lays_108 fX10_121 (by first | rfl | assumption | exact RW.s (by assumption) | exact TW.s (by assumption)) rfl (by first | assumption | ((repeat (first | exact up_hit | refine up_nv (by decide) ?_ | refine up_mv (by first | decide | omega) ?_)) <;> first | assumption | rfl)) rfl ?_
  refine g_iconst (p0 := 112) (v := nI 1) dX10_lays_111 rfl rfl ?_
  first | ((with_reducible refine isN2 ?_); refine g_isubN (p0 := 113) dX10_lays_112 (by omega) rfl ?_) | refine g_isub (p0 := 113) dX10_lays_112 rfl ?_
  refine g_dup2 (p0 := 114) dX10_lays_113 rfl ?_
  first | ((with_reducible refine isN1 ?_); refine g_aldN (p0 := 115) dX10_lays_114 (by first | rfl | assumption | exact RW.s (by assumption) | exact TW.s (by assumption)) (by first | decide | assumption) (by omega) (by first | assumption | ((repeat (first | exact up_hit | refine up_nv (by decide) ?_ | refine up_mv (by first | decide | omega) ?_)) <;> first | assumption | rfl)) rfl ?_) | refine g_ald (p0 := 115) dX10_lays_114 (by first | rfl | assumption | exact RW.s (by assumption) | exact TW.s (by assumption)) (by assumption) (by first | assumption | ((repeat (first | exact up_hit | refine up_nv (by decide) ?_ | refine up_mv (by first | decide | omega) ?_)) <;> first | assumption | rfl)) rfl ?_
  refine g_aload_n (p0 := 116) (i := 0) dX10_lays_115 rfl rfl rfl ?_
  refine g_iload_n (p0 := 117) (i := 2) dX10_lays_116 rfl rfl rfl ?_
  refine g_cV1R (p0 := 120) (r1 := mX10_isDoubtful) dX10_lays_117 lX10_131 vX10_isDoubtful (by first | rfl | assumption | exact RW.s (by assumption) | exact TW.s (by assumption)) ⟨_, _, rfl⟩ (FITi rfl rfl) (Nat.le_of_ble_eq_true rfl) (hd) rfl ?_
  first | ((with_reducible refine isN1 ?_); refine g_ifN_eq (tgt := 127) (p1 := 123) dX10_lays_120 rfl (by omega) rfl (fun c_120 => ?_) (fun c_120 => by exfalso; first | omega | contradiction | exact absurd (by assumption) c_120 | (simp_all; done))) | refine g_if_eq (tgt := 127) (p1 := 123) dX10_lays_120 rfl rfl (fun c_120 => ?_) (fun c_120 => by exfalso; first | omega | contradiction | exact absurd (by assumption) c_120 | (simp_all; done))
  refine g_iconst (p0 := 128) (v := nI 0) dX10_lays_127 rfl rfl ?_
  first | ((with_reducible refine isN2 ?_); refine g_iaddN (p0 := 129) dX10_lays_128 rfl ?_) | refine g_iadd (p0 := 129) dX10_lays_128 rfl ?_
  first | ((with_reducible refine isNS ?_); refine g_astN (p0 := 130) dX10_lays_129 (by first | rfl | assumption | exact RW.s (by assumption) | exact TW.s (by assumption)) (by first | decide | assumption) (by omega) rfl ?_) | refine g_ast (p0 := 130) dX10_lays_129 (by first | rfl | assumption | exact RW.s (by assumption) | exact TW.s (by assumption)) (by assumption) rfl ?_
  first | refine g_iinc1 (p0 := 133) (ls2 := [_, _, _]) dX10_lays_130 rfl rfl rfl ?_ | refine g_iinc (p0 := 133) (ls2 := [_, _, _]) dX10_lays_130 rfl rfl rfl rfl ?_
  refine g_goto (tgt := 14) dX10_lays_133 rfl ?_
  exact next
set_option maxRecDepth 20000 in
set_option maxHeartbeats 2000000 in
theorem lays_t1 {k M : Nat} {x : Int32} {s f p d : Nat → Nat} {σ : Sg} {Q : SP} (hM : MTr σ (M + 1) s f p d) (hk : k < 160) (hm : M < 160) (hd : CM mX10_isDoubtful [ar 79, ai (nI k)] σ (Ret (nI 1) σ)) (next : WM mX10_lays Q 14 [some (ar 79), some (ai x), some (ai (nI (k + 1)))] [] (up σ 95 M (nI (d M + 1)))) : WM mX10_lays Q 103 [some (ar 79), some (ai x), some (ai (nI k))] [] σ := by
  have v1 := hM.1
  have v2 : σ 95 (M + 1 - 1) = nI (d M) := (hM.2 M (by omega)).2.2.2
  refine g_aload_n (p0 := 104) (i := 0) dX10_lays_103 rfl rfl rfl ?_
  refine g_getR (p0 := 107) dX10_lays_104 fX10_55 (by first | rfl | assumption | exact RW.s (by assumption) | exact TW.s (by assumption)) rfl rfl ?_
  refine g_aload_n (p0 := 108) (i := 0) dX10_lays_107 rfl rfl rfl ?_
  refine g_getI (p0 := 111) dX10_lays_108 fX10_121 (by first | rfl | assumption | exact RW.s (by assumption) | exact TW.s (by assumption)) rfl (by first | assumption | ((repeat (first | exact up_hit | refine up_nv (by decide) ?_ | refine up_mv (by first | decide | omega) ?_)) <;> first | assumption | rfl)) rfl ?_
  refine g_iconst (p0 := 112) (v := nI 1) dX10_lays_111 rfl rfl ?_
  first | ((with_reducible refine isN2 ?_); refine g_isubN (p0 := 113) dX10_lays_112 (by omega) rfl ?_) | refine g_isub (p0 := 113) dX10_lays_112 rfl ?_
  refine g_dup2 (p0 := 114) dX10_lays_113 rfl ?_
  first | ((with_reducible refine isN1 ?_); refine g_aldN (p0 := 115) dX10_lays_114 (by first | rfl | assumption | exact RW.s (by assumption) | exact TW.s (by assumption)) (by first | decide | assumption) (by omega) (by first | assumption | ((repeat (first | exact up_hit | refine up_nv (by decide) ?_ | refine up_mv (by first | decide | omega) ?_)) <;> first | assumption | rfl)) rfl ?_) | refine g_ald (p0 := 115) dX10_lays_114 (by first | rfl | assumption | exact RW.s (by assumption) | exact TW.s (by assumption)) (by assumption) (by first | assumption | ((repeat (first | exact up_hit | refine up_nv (by decide) ?_ | refine up_mv (by first | decide | omega) ?_)) <;> first | assumption | rfl)) rfl ?_
  refine g_aload_n (p0 := 116) (i := 0) dX10_lays_115 rfl rfl rfl ?_
  refine g_iload_n (p0 := 117) (i := 2) dX10_lays_116 rfl rfl rfl ?_
  refine g_cV1R (p0 := 120) (r1 := mX10_isDoubtful) dX10_lays_117 lX10_131 vX10_isDoubtful (by first | rfl | assumption | exact RW.s (by assumption) | exact TW.s (by assumption)) ⟨_, _, rfl⟩ (FITi rfl rfl) (Nat.le_of_ble_eq_true rfl) (hd) rfl ?_
  first | ((with_reducible refine isN1 ?_); refine g_ifN_eq (tgt := 127) (p1 := 123) dX10_lays_120 rfl (by omega) rfl (fun c_120 => by exfalso; first | omega | contradiction | exact absurd (by assumption) c_120 | (simp_all; done)) (fun c_120 => ?_)) | refine g_if_eq (tgt := 127) (p1 := 123) dX10_lays_120 rfl rfl (fun c_120 => by exfalso; first | omega | contradiction | exact absurd (by assumption) c_120 | (simp_all; done)) (fun c_120 => ?_)
  refine g_iconst (p0 := 124) (v := nI 1) dX10_lays_123 rfl rfl ?_
  refine g_goto (tgt := 128) dX10_lays_124 rfl ?_
  first | ((with_reducible refine isN2 ?_); refine g_iaddN (p0 := 129) dX10_lays_128 rfl ?_) | refine g_iadd (p0 := 129) dX10_lays_128 rfl ?_
  first | ((with_reducible refine isNS ?_); refine g_astN (p0 := 130) dX10_lays_129 (by first | rfl | assumption | exact RW.s (by assumption) | exact TW.s (by assumption)) (by first | decide | assumption) (by omega) rfl ?_) | refine g_ast (p0 := 130) dX10_lays_129 (by first | rfl | assumption | exact RW.s (by assumption) | exact TW.s (by assumption)) (by assumption) rfl ?_
  first | refine g_iinc1 (p0 := 133) (ls2 := [_, _, _]) dX10_lays_130 rfl rfl rfl ?_ | refine g_iinc (p0 := 133) (ls2 := [_, _, _]) dX10_lays_130 rfl rfl rfl rfl ?_
  refine g_goto (tgt := 14) dX10_lays_133 rfl ?_
  exact next
theorem lays_t {k M v : Nat} {x : Int32} {s f p d : Nat → Nat} {σ : Sg} {Q : SP} (hM : MTr σ (M + 1) s f p d) (hk : k < 160) (hm : M < 160) (hv : v ≤ 1) (hd : CM mX10_isDoubtful [ar 79, ai (nI k)] σ (Ret (nI v) σ)) (next : WM mX10_lays Q 14 [some (ar 79), some (ai x), some (ai (nI (k + 1)))] [] (up σ 95 M (nI (d M + v)))) : WM mX10_lays Q 103 [some (ar 79), some (ai x), some (ai (nI k))] [] σ := by
  have hv2 : v = 0 ∨ v = 1 := by omega
  rcases hv2 with rfl | rfl
  · exact lays_t0 hM hk hm hd next
  · exact lays_t1 hM hk hm hd next
set_option maxRecDepth 20000 in
set_option maxHeartbeats 2000000 in
theorem lays_step {k : Nat} {c d : Nat → Nat} {la tk : Int32} {σ : Sg} {Q : SP} (hL : LTr σ (Lc c k) (gr c k) (o1 c k) (o2 c k)) (hM : MTr σ (Mc c k) (fs c k) (fl c k) (pl c k) (db c d k)) (hk : k < 160) (hc5 : ∀ j, c j ≤ 5) (h0 : c 0 = 5) (hx : σ 85 k = nI (c k)) (ht : σ 80 (29 + k) = tk) (hd1 : d k ≤ 1)
    (hd : ∀ σ', σ' 80 = σ 80 → σ' 84 = σ 84 → σ' 85 = σ 85 → CM mX10_isDoubtful [ar 79, ai (nI k)] σ' (Ret (nI (d k)) σ'))
    (next : ∀ σ', LTr σ' (Lc c (k + 1)) (gr c (k + 1)) (o1 c (k + 1)) (o2 c (k + 1)) → MTr σ' (Mc c (k + 1)) (fs c (k + 1)) (fl c (k + 1)) (pl c (k + 1)) (db c d (k + 1)) → (c k ≠ 0 → σ' 86 k = nI (Mc c (k + 1) - 1) ∧ σ' 87 k = nI (Lc c (k + 1) - 1 - fl c (k + 1) (Mc c (k + 1) - 1)) ∧ σ' 88 k = nI (gr c (k + 1) (Lc c (k + 1) - 1) - 1)) → (∀ j, j ≠ k → σ' 86 j = σ 86 j ∧ σ' 87 j = σ 87 j ∧ σ' 88 j = σ 88 j) → (∀ z, z ≠ 79 → (z < 86 ∨ 95 < z) → σ' z = σ z) → (∀ j, j ≠ 11 → j ≠ 12 → σ' 79 j = σ 79 j) → WM mX10_lays Q 14 [some (ar 79), some (ai (if c k = 0 then la else tk)), some (ai (nI (k + 1)))] [] σ') : WM mX10_lays Q 73 [some (ar 79), some (ai la), some (ai (nI k))] [] σ := by
  have pM := Mc_pos h0 k
  have bM := Mc_le c (k + 1)
  have hck := hc5 k
  obtain ⟨M, eM⟩ : ∃ M, Mc c (k + 1) = M + 1 := ⟨Mc c (k + 1) - 1, by omega⟩
  have hdb : ∀ m, m < M + 1 → nu (dbh c d k) M (dbh c d k M + d k) m = db c d (k + 1) m := by
    intro m hm
    have e : (m + 1 = Mc c (k + 1)) ↔ m = M := by rw [eM]; omega
    rw [db]
    by_cases em : m = M
    · subst em
      rw [if_pos (e.mpr rfl), nu, if_pos rfl]; rfl
    · rw [if_neg (fun q => em (e.mp q)), nu, if_neg em]; rfl
  have hup : ∀ σ1 : Sg, MTr σ1 (M + 1) (fs c (k + 1)) (fl c (k + 1)) (pl c (k + 1)) (dbh c d k) → MTr (up σ1 95 M (nI (dbh c d k M + d k))) (Mc c (k + 1)) (fs c (k + 1)) (fl c (k + 1)) (pl c (k + 1)) (db c d (k + 1)) := by
    intro σ1 h
    rw [eM]
    refine MTr.cong (d := nu (dbh c d k) M (dbh c d k M + d k)) ⟨by rw [up_ne (by decide)]; exact h.1, fun m hm2 => ⟨?_, ?_, ?_, ?_⟩⟩ rfl (fun _ _ => rfl) (fun _ _ => rfl) (fun _ _ => rfl) hdb
    · rw [up_ne (by decide)]; exact (h.2 m hm2).1
    · rw [up_ne (by decide)]; exact (h.2 m hm2).2.1
    · rw [up_ne (by decide)]; exact (h.2 m hm2).2.2.1
    · rw [up_self]; exact upd_nI (fun j hj => (h.2 j hj).2.2.2) m hm2
  by_cases hc0 : c k = 0
  · rw [if_pos hc0] at next
    have eLc : Lc c k = Lc c (k + 1) := by simp [Lc, hc0]
    have eMc : Mc c k = Mc c (k + 1) := by simp [Mc, hc0]
    have hL1 : LTr σ (Lc c (k + 1)) (gr c (k + 1)) (o1 c (k + 1)) (o2 c (k + 1)) := hL.cong eLc (fun l hl => by simp [gr, hc0]) (fun l hl => by simp [o1, hc0]) (fun l hl => by simp [o2, hc0])
    have hM1 : MTr σ (M + 1) (fs c (k + 1)) (fl c (k + 1)) (pl c (k + 1)) (dbh c d k) := hM.cong (eMc.trans eM) (fun m hm => by simp [fs, hc0]) (fun m hm => by simp [fl, hc0]) (fun m hm => by simp [pl, hc0]) (fun m hm => by simp [dbh, hc0])
    refine g_aload_n (p0 := 74) (i := 0) dX10_lays_73 rfl rfl rfl ?_
    refine g_getR (p0 := 77) dX10_lays_74 fX10_25 (by first | rfl | assumption | exact RW.s (by assumption) | exact TW.s (by assumption)) rfl rfl ?_
    refine g_iload_n (p0 := 78) (i := 2) dX10_lays_77 rfl rfl rfl ?_
    first | ((with_reducible refine isN1 ?_); refine g_aldN (p0 := 79) dX10_lays_78 (by first | rfl | assumption | exact RW.s (by assumption) | exact TW.s (by assumption)) (by first | decide | assumption) (by omega) (by first | assumption | ((repeat (first | exact up_hit | refine up_nv (by decide) ?_ | refine up_mv (by first | decide | omega) ?_)) <;> first | assumption | rfl)) rfl ?_) | refine g_ald (p0 := 79) dX10_lays_78 (by first | rfl | assumption | exact RW.s (by assumption) | exact TW.s (by assumption)) (by assumption) (by first | assumption | ((repeat (first | exact up_hit | refine up_nv (by decide) ?_ | refine up_mv (by first | decide | omega) ?_)) <;> first | assumption | rfl)) rfl ?_
    first | ((with_reducible refine isN1 ?_); refine g_ifN_le (tgt := 103) (p1 := 82) dX10_lays_79 rfl (by omega) rfl (fun c_79 => ?_) (fun c_79 => by exfalso; first | omega | contradiction | exact absurd (by assumption) c_79 | (simp_all; done))) | refine g_if_le (tgt := 103) (p1 := 82) dX10_lays_79 rfl rfl (fun c_79 => ?_) (fun c_79 => by exfalso; first | omega | contradiction | exact absurd (by assumption) c_79 | (simp_all; done))
    refine lays_t hM1 hk (by omega) hd1 (hd σ rfl rfl rfl) ?_
    refine next _ (hL1.of (up_ne2 (by decide)) (up_ne (by decide)) (up_ne (by decide)) (up_ne (by decide))) (hup σ hM1) (fun q => absurd hc0 q) (fun j hj => ⟨up_ne2 (by decide), up_ne2 (by decide), up_ne2 (by decide)⟩) (fun z h1 h2 => up_ne (by omega)) (fun j h1 h2 => up_ne2 (by decide))
  · rw [if_neg hc0] at next
    refine g_aload_n (p0 := 74) (i := 0) dX10_lays_73 rfl rfl rfl ?_
    refine g_getR (p0 := 77) dX10_lays_74 fX10_25 (by first | rfl | assumption | exact RW.s (by assumption) | exact TW.s (by assumption)) rfl rfl ?_
    refine g_iload_n (p0 := 78) (i := 2) dX10_lays_77 rfl rfl rfl ?_
    first | ((with_reducible refine isN1 ?_); refine g_aldN (p0 := 79) dX10_lays_78 (by first | rfl | assumption | exact RW.s (by assumption) | exact TW.s (by assumption)) (by first | decide | assumption) (by omega) (by first | assumption | ((repeat (first | exact up_hit | refine up_nv (by decide) ?_ | refine up_mv (by first | decide | omega) ?_)) <;> first | assumption | rfl)) rfl ?_) | refine g_ald (p0 := 79) dX10_lays_78 (by first | rfl | assumption | exact RW.s (by assumption) | exact TW.s (by assumption)) (by assumption) (by first | assumption | ((repeat (first | exact up_hit | refine up_nv (by decide) ?_ | refine up_mv (by first | decide | omega) ?_)) <;> first | assumption | rfl)) rfl ?_
    first | ((with_reducible refine isN1 ?_); refine g_ifN_le (tgt := 103) (p1 := 82) dX10_lays_79 rfl (by omega) rfl (fun c_79 => by exfalso; first | omega | contradiction | exact absurd (by assumption) c_79 | (simp_all; done)) (fun c_79 => ?_)) | refine g_if_le (tgt := 103) (p1 := 82) dX10_lays_79 rfl rfl (fun c_79 => by exfalso; first | omega | contradiction | exact absurd (by assumption) c_79 | (simp_all; done)) (fun c_79 => ?_)
    refine g_aload_n (p0 := 83) (i := 0) dX10_lays_82 rfl rfl rfl ?_
    refine g_iload_n (p0 := 84) (i := 2) dX10_lays_83 rfl rfl rfl ?_
    refine g_aload_n (p0 := 85) (i := 0) dX10_lays_84 rfl rfl rfl ?_
    refine g_getR (p0 := 88) dX10_lays_85 fX10_25 (by first | rfl | assumption | exact RW.s (by assumption) | exact TW.s (by assumption)) rfl rfl ?_
    refine g_iload_n (p0 := 89) (i := 2) dX10_lays_88 rfl rfl rfl ?_
    first | ((with_reducible refine isN1 ?_); refine g_aldN (p0 := 90) dX10_lays_89 (by first | rfl | assumption | exact RW.s (by assumption) | exact TW.s (by assumption)) (by first | decide | assumption) (by omega) (by first | assumption | ((repeat (first | exact up_hit | refine up_nv (by decide) ?_ | refine up_mv (by first | decide | omega) ?_)) <;> first | assumption | rfl)) rfl ?_) | refine g_ald (p0 := 90) dX10_lays_89 (by first | rfl | assumption | exact RW.s (by assumption) | exact TW.s (by assumption)) (by assumption) (by first | assumption | ((repeat (first | exact up_hit | refine up_nv (by decide) ?_ | refine up_mv (by first | decide | omega) ?_)) <;> first | assumption | rfl)) rfl ?_
    refine g_cV2P (p0 := 93) (r1 := mX10_goesOn) dX10_lays_90 lX10_127 vX10_goesOn (by first | rfl | assumption | exact RW.s (by assumption) | exact TW.s (by assumption)) ⟨_, _, rfl⟩ (FITi rfl rfl) (Nat.le_of_ble_eq_true rfl) (goesOn_r hL hM hk hc5 h0 (by omega)) rfl ?_
    rintro σ1 ⟨hL1, hM1, n86, n87, n88, hj, fr, fr79⟩
    have v2 : σ1 80 (29 + k) = tk := by rw [fr 80 (by decide) (by decide)]; exact ht
    rw [eM] at hM1
    refine g_aload_n (p0 := 94) (i := 0) dX10_lays_93 rfl rfl rfl ?_
    refine g_getR (p0 := 97) dX10_lays_94 fX10_7 (by first | rfl | assumption | exact RW.s (by assumption) | exact TW.s (by assumption)) rfl rfl ?_
    refine g_bipush (p0 := 99) (v := nI 29) dX10_lays_97 (by decide) rfl ?_
    refine g_iload_n (p0 := 100) (i := 2) dX10_lays_99 rfl rfl rfl ?_
    first | ((with_reducible refine isN2 ?_); refine g_iaddN (p0 := 101) dX10_lays_100 rfl ?_) | refine g_iadd (p0 := 101) dX10_lays_100 rfl ?_
    first | ((with_reducible refine isN1 ?_); refine g_aldN (p0 := 102) dX10_lays_101 (by first | rfl | assumption | exact RW.s (by assumption) | exact TW.s (by assumption)) (by first | decide | assumption) (by omega) (by first | assumption | ((repeat (first | exact up_hit | refine up_nv (by decide) ?_ | refine up_mv (by first | decide | omega) ?_)) <;> first | assumption | rfl)) rfl ?_) | refine g_ald (p0 := 102) dX10_lays_101 (by first | rfl | assumption | exact RW.s (by assumption) | exact TW.s (by assumption)) (by assumption) (by first | assumption | ((repeat (first | exact up_hit | refine up_nv (by decide) ?_ | refine up_mv (by first | decide | omega) ?_)) <;> first | assumption | rfl)) rfl ?_
    refine g_istore_n (p0 := 103) (i := 1) (ls2 := [_, _, _]) dX10_lays_102 rfl (Nat.le_of_ble_eq_true rfl) rfl rfl ?_
    refine lays_t hM1 hk (by omega) hd1 (hd σ1 (fr 80 (by decide) (by decide)) (fr 84 (by decide) (by decide)) (fr 85 (by decide) (by decide))) ?_
    refine next _ (hL1.of (up_ne2 (by decide)) (up_ne (by decide)) (up_ne (by decide)) (up_ne (by decide))) (hup σ1 hM1) (fun _ => ⟨(up_ne2 (by decide)).trans n86, (up_ne2 (by decide)).trans n87, (up_ne2 (by decide)).trans n88⟩) (fun j hj2 => ⟨(up_ne2 (by decide)).trans (hj j hj2).1, (up_ne2 (by decide)).trans (hj j hj2).2.1, (up_ne2 (by decide)).trans (hj j hj2).2.2⟩) (fun z h1 h2 => (up_ne (by omega)).trans (fr z h1 h2)) (fun j h1 h2 => (up_ne2 (by decide)).trans (fr79 j h1 h2))
/-- what the reference has read behind k strokes -/
def CRr (c d : Nat → Nat) (gp : Nat → Int32) (σ : Sg) (k : Nat) : Prop := LTr σ (Lc c k) (gr c k) (o1 c k) (o2 c k) ∧ MTr σ (Mc c k) (fs c k) (fl c k) (pl c k) (db c d k) ∧ ∀ i, i < k → (i = 0 → σ 84 i = nI 0) ∧ (1 ≤ i → σ 84 i = gp i) ∧ σ 85 i = nI (c i) ∧ (c i ≠ 0 → σ 86 i = nI (Mc c (i + 1) - 1) ∧ σ 87 i = nI (Lc c (i + 1) - 1 - fl c (i + 1) (Mc c (i + 1) - 1)) ∧ σ 88 i = nI (gr c (i + 1) (Lc c (i + 1) - 1) - 1))
def FRl (σ0 σ : Sg) : Prop := (∀ z, z ≠ 79 → (z < 84 ∨ 95 < z) → σ z = σ0 z) ∧ ∀ j, j ≠ 11 → j ≠ 12 → σ 79 j = σ0 79 j
set_option maxRecDepth 20000 in
set_option maxHeartbeats 2000000 in
theorem lays_loop {s : Nat} {σ0 : Sg} {Q : SP} (hs : σ0 80 3 = nI s) (hs1 : s ≤ 160)
    (done : ∀ σ', CRr (kaF (tm (σ0 80)) (σ0 80 0)) (dbF (tm (σ0 80)) (σ0 80 0) (σ0 80 1)) (gpF (tm (σ0 80)) (σ0 80 0)) σ' s → FRl σ0 σ' → ∀ x, WM mX10_lays Q 136 [some (ar 79), some (ai x), some (ai (nI s))] [] σ') :
    ∀ m k, k + m = s → ∀ σ, CRr (kaF (tm (σ0 80)) (σ0 80 0)) (dbF (tm (σ0 80)) (σ0 80 0) (σ0 80 1)) (gpF (tm (σ0 80)) (σ0 80 0)) σ k → FRl σ0 σ → WM mX10_lays Q 14 [some (ar 79), some (ai (lastF (tm (σ0 80)) (σ0 80 0) k)), some (ai (nI k))] [] σ := by
  intro m
  induction m with
  | zero =>
    intro k hk σ hC fr
    obtain rfl : k = s := by omega
    have v1 : σ 80 3 = nI k := by rw [fr.1 80 (by decide) (by decide), hs]
    refine g_iload_n (p0 := 15) (i := 2) dX10_lays_14 rfl rfl rfl ?_
    refine g_aload_n (p0 := 16) (i := 0) dX10_lays_15 rfl rfl rfl ?_
    refine g_getR (p0 := 19) dX10_lays_16 fX10_7 (by first | rfl | assumption | exact RW.s (by assumption) | exact TW.s (by assumption)) rfl rfl ?_
    refine g_iconst (p0 := 20) (v := nI 3) dX10_lays_19 rfl rfl ?_
    first | ((with_reducible refine isN1 ?_); refine g_aldN (p0 := 21) dX10_lays_20 (by first | rfl | assumption | exact RW.s (by assumption) | exact TW.s (by assumption)) (by first | decide | assumption) (by omega) (by first | assumption | ((repeat (first | exact up_hit | refine up_nv (by decide) ?_ | refine up_mv (by first | decide | omega) ?_)) <;> first | assumption | rfl)) rfl ?_) | refine g_ald (p0 := 21) dX10_lays_20 (by first | rfl | assumption | exact RW.s (by assumption) | exact TW.s (by assumption)) (by assumption) (by first | assumption | ((repeat (first | exact up_hit | refine up_nv (by decide) ?_ | refine up_mv (by first | decide | omega) ?_)) <;> first | assumption | rfl)) rfl ?_
    first | ((with_reducible refine isN2 ?_); refine g_icmpN_ge (tgt := 136) (p1 := 24) dX10_lays_21 rfl (by omega) (by omega) rfl (fun c_21 => ?_) (fun c_21 => by exfalso; first | omega | contradiction | exact absurd (by assumption) c_21 | (simp_all; done))) | refine g_icmp_ge (tgt := 136) (p1 := 24) dX10_lays_21 rfl rfl (fun c_21 => ?_) (fun c_21 => by exfalso; first | omega | contradiction | exact absurd (by assumption) c_21 | (simp_all; done))
    exact done σ hC fr _
  | succ m ih =>
    intro k hk σ hC fr
    have v1 : σ 80 3 = nI s := by rw [fr.1 80 (by decide) (by decide), hs]
    have v2 : σ 80 (29 + k) = tm (σ0 80) k := by rw [fr.1 80 (by decide) (by decide)]
    have v3 : σ 80 0 = σ0 80 0 := by rw [fr.1 80 (by decide) (by decide)]
    have v4 : σ 80 1 = σ0 80 1 := by rw [fr.1 80 (by decide) (by decide)]
    obtain ⟨hL, hM, hall⟩ := hC
    have step : ∀ σa : Sg, (∀ z, z ≠ 84 → z ≠ 85 → σa z = σ z) → (∀ i, i < k → σa 84 i = σ 84 i ∧ σa 85 i = σ 85 i) → (k = 0 → σa 84 k = nI 0) → (1 ≤ k → σa 84 k = (gpF (tm (σ0 80)) (σ0 80 0)) k) → σa 85 k = nI ((kaF (tm (σ0 80)) (σ0 80 0)) k) → (∀ σ', σ' 80 = σa 80 → σ' 84 = σa 84 → σ' 85 = σa 85 → CM mX10_isDoubtful [ar 79, ai (nI k)] σ' (Ret (nI ((dbF (tm (σ0 80)) (σ0 80 0) (σ0 80 1)) k)) σ')) → WM mX10_lays Q 73 [some (ar 79), some (ai (lastF (tm (σ0 80)) (σ0 80 0) k)), some (ai (nI k))] [] σa := by
      intro σa fa fi g84a g84 g85 hd
      refine lays_step (c := (kaF (tm (σ0 80)) (σ0 80 0))) (d := (dbF (tm (σ0 80)) (σ0 80 0) (σ0 80 1))) (tk := tm (σ0 80) k) (hL.of (by rw [fa 79 (by decide) (by decide)]) (fa _ (by decide) (by decide)) (fa _ (by decide) (by decide)) (fa _ (by decide) (by decide))) (hM.of (by rw [fa 79 (by decide) (by decide)]) (fa _ (by decide) (by decide)) (fa _ (by decide) (by decide)) (fa _ (by decide) (by decide)) (fa _ (by decide) (by decide))) (by omega) (kaF_le _ _) (kaF_0 _ _) g85 (by rw [fa 80 (by decide) (by decide)]; exact v2) (dbF_le _ _ _ _) hd ?_
      intro σ' n1 n2 n3 n4 n5 n6
      rw [← lastF_succ]
      refine ih (k + 1) (by omega) σ' ⟨n1, n2, fun i hi => ?_⟩ ⟨fun z h1 h2 => ?_, fun j h1 h2 => ?_⟩
      · have w84 : σ' 84 = σa 84 := n5 _ (by decide) (by decide)
        have w85 : σ' 85 = σa 85 := n5 _ (by decide) (by decide)
        rw [w84, w85]
        by_cases hik : i = k
        · subst hik
          exact ⟨g84a, g84, g85, n3⟩
        · obtain ⟨a0, a1, a2, a3⟩ := hall i (by omega)
          obtain ⟨b1, b2⟩ := fi i (by omega)
          obtain ⟨e1, e2, e3⟩ := n4 i hik
          rw [fa 86 (by decide) (by decide)] at e1
          rw [fa 87 (by decide) (by decide)] at e2
          rw [fa 88 (by decide) (by decide)] at e3
          rw [b1, b2, e1, e2, e3]
          exact ⟨a0, a1, a2, a3⟩
      · rw [n5 z h1 (by omega), fa z (by omega) (by omega)]; exact fr.1 z h1 h2
      · rw [n6 j h1 h2, fa 79 (by decide) (by decide)]; exact fr.2 j h1 h2
    by_cases hk0 : k = 0
    · subst hk0
      refine g_iload_n (p0 := 15) (i := 2) dX10_lays_14 rfl rfl rfl ?_
      refine g_aload_n (p0 := 16) (i := 0) dX10_lays_15 rfl rfl rfl ?_
      refine g_getR (p0 := 19) dX10_lays_16 fX10_7 (by first | rfl | assumption | exact RW.s (by assumption) | exact TW.s (by assumption)) rfl rfl ?_
      refine g_iconst (p0 := 20) (v := nI 3) dX10_lays_19 rfl rfl ?_
      first | ((with_reducible refine isN1 ?_); refine g_aldN (p0 := 21) dX10_lays_20 (by first | rfl | assumption | exact RW.s (by assumption) | exact TW.s (by assumption)) (by first | decide | assumption) (by omega) (by first | assumption | ((repeat (first | exact up_hit | refine up_nv (by decide) ?_ | refine up_mv (by first | decide | omega) ?_)) <;> first | assumption | rfl)) rfl ?_) | refine g_ald (p0 := 21) dX10_lays_20 (by first | rfl | assumption | exact RW.s (by assumption) | exact TW.s (by assumption)) (by assumption) (by first | assumption | ((repeat (first | exact up_hit | refine up_nv (by decide) ?_ | refine up_mv (by first | decide | omega) ?_)) <;> first | assumption | rfl)) rfl ?_
      first | ((with_reducible refine isN2 ?_); refine g_icmpN_ge (tgt := 136) (p1 := 24) dX10_lays_21 rfl (by omega) (by omega) rfl (fun c_21 => by exfalso; first | omega | contradiction | exact absurd (by assumption) c_21 | (simp_all; done)) (fun c_21 => ?_)) | refine g_icmp_ge (tgt := 136) (p1 := 24) dX10_lays_21 rfl rfl (fun c_21 => by exfalso; first | omega | contradiction | exact absurd (by assumption) c_21 | (simp_all; done)) (fun c_21 => ?_)
      refine g_aload_n (p0 := 25) (i := 0) dX10_lays_24 rfl rfl rfl ?_
      refine g_getR (p0 := 28) dX10_lays_25 fX10_22 (by first | rfl | assumption | exact RW.s (by assumption) | exact TW.s (by assumption)) rfl rfl ?_
      refine g_iload_n (p0 := 29) (i := 2) dX10_lays_28 rfl rfl rfl ?_
      refine g_iload_n (p0 := 30) (i := 2) dX10_lays_29 rfl rfl rfl ?_
      first | ((with_reducible refine isN1 ?_); refine g_ifN_ne (tgt := 37) (p1 := 33) dX10_lays_30 rfl (by omega) rfl (fun c_30 => by exfalso; first | omega | contradiction | exact absurd (by assumption) c_30 | (simp_all; done)) (fun c_30 => ?_)) | refine g_if_ne (tgt := 37) (p1 := 33) dX10_lays_30 rfl rfl (fun c_30 => by exfalso; first | omega | contradiction | exact absurd (by assumption) c_30 | (simp_all; done)) (fun c_30 => ?_)
      refine g_iconst (p0 := 34) (v := nI 0) dX10_lays_33 rfl rfl ?_
      refine g_goto (tgt := 48) dX10_lays_34 rfl ?_
      first | ((with_reducible refine isNS ?_); refine g_astN (p0 := 49) dX10_lays_48 (by first | rfl | assumption | exact RW.s (by assumption) | exact TW.s (by assumption)) (by first | decide | assumption) (by omega) rfl ?_) | refine g_ast (p0 := 49) dX10_lays_48 (by first | rfl | assumption | exact RW.s (by assumption) | exact TW.s (by assumption)) (by assumption) rfl ?_
      refine g_aload_n (p0 := 50) (i := 0) dX10_lays_49 rfl rfl rfl ?_
      refine g_getR (p0 := 53) dX10_lays_50 fX10_25 (by first | rfl | assumption | exact RW.s (by assumption) | exact TW.s (by assumption)) rfl rfl ?_
      refine g_iload_n (p0 := 54) (i := 2) dX10_lays_53 rfl rfl rfl ?_
      refine g_iload_n (p0 := 55) (i := 2) dX10_lays_54 rfl rfl rfl ?_
      first | ((with_reducible refine isN1 ?_); refine g_ifN_ne (tgt := 62) (p1 := 58) dX10_lays_55 rfl (by omega) rfl (fun c_55 => by exfalso; first | omega | contradiction | exact absurd (by assumption) c_55 | (simp_all; done)) (fun c_55 => ?_)) | refine g_if_ne (tgt := 62) (p1 := 58) dX10_lays_55 rfl rfl (fun c_55 => by exfalso; first | omega | contradiction | exact absurd (by assumption) c_55 | (simp_all; done)) (fun c_55 => ?_)
      refine g_iconst (p0 := 59) (v := nI 5) dX10_lays_58 rfl rfl ?_
      refine g_goto (tgt := 72) dX10_lays_59 rfl ?_
      first | ((with_reducible refine isNS ?_); refine g_astN (p0 := 73) dX10_lays_72 (by first | rfl | assumption | exact RW.s (by assumption) | exact TW.s (by assumption)) (by first | decide | assumption) (by omega) rfl ?_) | refine g_ast (p0 := 73) dX10_lays_72 (by first | rfl | assumption | exact RW.s (by assumption) | exact TW.s (by assumption)) (by assumption) rfl ?_
      refine step _ (fun z a1 a2 => by rw [up_ne a2, up_ne a1]) (fun i hi => absurd hi (Nat.not_lt_zero i)) (fun _ => ?_) (fun q => absurd q (by decide)) up_hit (fun σ2 h1 h2 h3 => ?_)
      · rw [up_ne (by decide)]; exact up_hit
      · exact isDoubtful_z (x := 5) (by rw [h3]; exact up_hit)
    · have ek : (kaF (tm (σ0 80)) (σ0 80 0)) k = cs (σ0 80 0) ((gpF (tm (σ0 80)) (σ0 80 0)) k) := by rw [kaF, if_neg hk0]
      have ed : (dbF (tm (σ0 80)) (σ0 80 0) (σ0 80 1)) k = dbt (σ0 80 0) (σ0 80 1) ((gpF (tm (σ0 80)) (σ0 80 0)) k) := by rw [dbF, if_neg hk0]
      rw [ek, ed] at step
      refine g_iload_n (p0 := 15) (i := 2) dX10_lays_14 rfl rfl rfl ?_
      refine g_aload_n (p0 := 16) (i := 0) dX10_lays_15 rfl rfl rfl ?_
      refine g_getR (p0 := 19) dX10_lays_16 fX10_7 (by first | rfl | assumption | exact RW.s (by assumption) | exact TW.s (by assumption)) rfl rfl ?_
      refine g_iconst (p0 := 20) (v := nI 3) dX10_lays_19 rfl rfl ?_
      first | ((with_reducible refine isN1 ?_); refine g_aldN (p0 := 21) dX10_lays_20 (by first | rfl | assumption | exact RW.s (by assumption) | exact TW.s (by assumption)) (by first | decide | assumption) (by omega) (by first | assumption | ((repeat (first | exact up_hit | refine up_nv (by decide) ?_ | refine up_mv (by first | decide | omega) ?_)) <;> first | assumption | rfl)) rfl ?_) | refine g_ald (p0 := 21) dX10_lays_20 (by first | rfl | assumption | exact RW.s (by assumption) | exact TW.s (by assumption)) (by assumption) (by first | assumption | ((repeat (first | exact up_hit | refine up_nv (by decide) ?_ | refine up_mv (by first | decide | omega) ?_)) <;> first | assumption | rfl)) rfl ?_
      first | ((with_reducible refine isN2 ?_); refine g_icmpN_ge (tgt := 136) (p1 := 24) dX10_lays_21 rfl (by omega) (by omega) rfl (fun c_21 => by exfalso; first | omega | contradiction | exact absurd (by assumption) c_21 | (simp_all; done)) (fun c_21 => ?_)) | refine g_icmp_ge (tgt := 136) (p1 := 24) dX10_lays_21 rfl rfl (fun c_21 => by exfalso; first | omega | contradiction | exact absurd (by assumption) c_21 | (simp_all; done)) (fun c_21 => ?_)
      refine g_aload_n (p0 := 25) (i := 0) dX10_lays_24 rfl rfl rfl ?_
      refine g_getR (p0 := 28) dX10_lays_25 fX10_22 (by first | rfl | assumption | exact RW.s (by assumption) | exact TW.s (by assumption)) rfl rfl ?_
      refine g_iload_n (p0 := 29) (i := 2) dX10_lays_28 rfl rfl rfl ?_
      refine g_iload_n (p0 := 30) (i := 2) dX10_lays_29 rfl rfl rfl ?_
      first | ((with_reducible refine isN1 ?_); refine g_ifN_ne (tgt := 37) (p1 := 33) dX10_lays_30 rfl (by omega) rfl (fun c_30 => ?_) (fun c_30 => by exfalso; first | omega | contradiction | exact absurd (by assumption) c_30 | (simp_all; done))) | refine g_if_ne (tgt := 37) (p1 := 33) dX10_lays_30 rfl rfl (fun c_30 => ?_) (fun c_30 => by exfalso; first | omega | contradiction | exact absurd (by assumption) c_30 | (simp_all; done))
      refine g_aload_n (p0 := 38) (i := 0) dX10_lays_37 rfl rfl rfl ?_
      refine g_getR (p0 := 41) dX10_lays_38 fX10_7 (by first | rfl | assumption | exact RW.s (by assumption) | exact TW.s (by assumption)) rfl rfl ?_
      refine g_bipush (p0 := 43) (v := nI 29) dX10_lays_41 (by decide) rfl ?_
      refine g_iload_n (p0 := 44) (i := 2) dX10_lays_43 rfl rfl rfl ?_
      first | ((with_reducible refine isN2 ?_); refine g_iaddN (p0 := 45) dX10_lays_44 rfl ?_) | refine g_iadd (p0 := 45) dX10_lays_44 rfl ?_
      first | ((with_reducible refine isN1 ?_); refine g_aldN (p0 := 46) dX10_lays_45 (by first | rfl | assumption | exact RW.s (by assumption) | exact TW.s (by assumption)) (by first | decide | assumption) (by omega) (by first | assumption | ((repeat (first | exact up_hit | refine up_nv (by decide) ?_ | refine up_mv (by first | decide | omega) ?_)) <;> first | assumption | rfl)) rfl ?_) | refine g_ald (p0 := 46) dX10_lays_45 (by first | rfl | assumption | exact RW.s (by assumption) | exact TW.s (by assumption)) (by assumption) (by first | assumption | ((repeat (first | exact up_hit | refine up_nv (by decide) ?_ | refine up_mv (by first | decide | omega) ?_)) <;> first | assumption | rfl)) rfl ?_
      refine g_iload_n (p0 := 47) (i := 1) dX10_lays_46 rfl rfl rfl ?_
      first | ((with_reducible refine isN2 ?_); refine g_isubN (p0 := 48) dX10_lays_47 (by omega) rfl ?_) | refine g_isub (p0 := 48) dX10_lays_47 rfl ?_
      first | ((with_reducible refine isNS ?_); refine g_astN (p0 := 49) dX10_lays_48 (by first | rfl | assumption | exact RW.s (by assumption) | exact TW.s (by assumption)) (by first | decide | assumption) (by omega) rfl ?_) | refine g_ast (p0 := 49) dX10_lays_48 (by first | rfl | assumption | exact RW.s (by assumption) | exact TW.s (by assumption)) (by assumption) rfl ?_
      refine g_aload_n (p0 := 50) (i := 0) dX10_lays_49 rfl rfl rfl ?_
      refine g_getR (p0 := 53) dX10_lays_50 fX10_25 (by first | rfl | assumption | exact RW.s (by assumption) | exact TW.s (by assumption)) rfl rfl ?_
      refine g_iload_n (p0 := 54) (i := 2) dX10_lays_53 rfl rfl rfl ?_
      refine g_iload_n (p0 := 55) (i := 2) dX10_lays_54 rfl rfl rfl ?_
      first | ((with_reducible refine isN1 ?_); refine g_ifN_ne (tgt := 62) (p1 := 58) dX10_lays_55 rfl (by omega) rfl (fun c_55 => ?_) (fun c_55 => by exfalso; first | omega | contradiction | exact absurd (by assumption) c_55 | (simp_all; done))) | refine g_if_ne (tgt := 62) (p1 := 58) dX10_lays_55 rfl rfl (fun c_55 => ?_) (fun c_55 => by exfalso; first | omega | contradiction | exact absurd (by assumption) c_55 | (simp_all; done))
      refine g_aload_n (p0 := 63) (i := 0) dX10_lays_62 rfl rfl rfl ?_
      refine g_aload_n (p0 := 64) (i := 0) dX10_lays_63 rfl rfl rfl ?_
      refine g_getR (p0 := 67) dX10_lays_64 fX10_22 (by first | rfl | assumption | exact RW.s (by assumption) | exact TW.s (by assumption)) rfl rfl ?_
      refine g_iload_n (p0 := 68) (i := 2) dX10_lays_67 rfl rfl rfl ?_
      first | ((with_reducible refine isN1 ?_); refine g_aldN (p0 := 69) dX10_lays_68 (by first | rfl | assumption | exact RW.s (by assumption) | exact TW.s (by assumption)) (by first | decide | assumption) (by omega) (by first | assumption | ((repeat (first | exact up_hit | refine up_nv (by decide) ?_ | refine up_mv (by first | decide | omega) ?_)) <;> first | assumption | rfl)) rfl ?_) | refine g_ald (p0 := 69) dX10_lays_68 (by first | rfl | assumption | exact RW.s (by assumption) | exact TW.s (by assumption)) (by assumption) (by first | assumption | ((repeat (first | exact up_hit | refine up_nv (by decide) ?_ | refine up_mv (by first | decide | omega) ?_)) <;> first | assumption | rfl)) rfl ?_
      refine g_cV1R (p0 := 72) (r1 := mX10_caseOf) dX10_lays_69 lX10_115 vX10_caseOf (by first | rfl | assumption | exact RW.s (by assumption) | exact TW.s (by assumption)) ⟨_, _, rfl⟩ (FITi rfl rfl) (Nat.le_of_ble_eq_true rfl) (rcaseOf_sp (up_nv (by decide) v3)) rfl ?_
      first | ((with_reducible refine isNS ?_); refine g_astN (p0 := 73) dX10_lays_72 (by first | rfl | assumption | exact RW.s (by assumption) | exact TW.s (by assumption)) (by first | decide | assumption) (by omega) rfl ?_) | refine g_ast (p0 := 73) dX10_lays_72 (by first | rfl | assumption | exact RW.s (by assumption) | exact TW.s (by assumption)) (by assumption) rfl ?_
      refine step _ (fun z a1 a2 => by rw [up_ne a2, up_ne a1]) (fun i hi => ⟨?_, ?_⟩) (fun q => absurd q hk0) (fun _ => ?_) ?_ (fun σ2 h1 h2 h3 => ?_)
      · rw [up_ne (by decide), up_miss (by omega)]
      · rw [up_miss (by omega), up_ne (by decide)]
      · rw [up_ne (by decide), up_hit]; rfl
      · rw [up_hit]; rfl
      · exact isDoubtful_sp (by omega) (by rw [h3]; exact up_hit) (by rw [h2, up_ne (by decide)]; exact up_hit) (by rw [h1, up_ne (by decide), up_ne (by decide)]; exact v3) (by rw [h1, up_ne (by decide), up_ne (by decide)]; exact v4) (by omega)
/-- what the reference has read of a state ρ of s strokes -/
def RDR (σ : Sg) (ρ : Nat → Int32) (s : Nat) : Prop :=
  CRr (kaF (tm ρ) (ρ 0)) (dbF (tm ρ) (ρ 0) (ρ 1)) (gpF (tm ρ) (ρ 0)) σ s ∧ σ 92 (Mc (kaF (tm ρ) (ρ 0)) s) = nI (Lc (kaF (tm ρ) (ρ 0)) s)
set_option maxRecDepth 20000 in
set_option maxHeartbeats 2000000 in
theorem lays_sp {s : Nat} {σ : Sg} (hs : σ 80 3 = nI s) (hs1 : s ≤ 160) : CM mX10_lays [ar 79] σ (RelV (fun σ' => RDR σ' (σ 80) s ∧ FRl σ σ')) := by
  refine CM_in (ls := [some (ar 79), none, none]) rfl ?_
  refine g_aload_n (p0 := 1) (i := 0) dX10_lays_0 rfl rfl rfl ?_
  refine g_iconst (p0 := 2) (v := nI 0) dX10_lays_1 rfl rfl ?_
  refine g_put (p0 := 5) dX10_lays_2 fX10_121 (by first | rfl | assumption | exact RW.s (by assumption) | exact TW.s (by assumption)) rfl nX10_11 (pX10_11 _) rfl ?_
  refine g_aload_n (p0 := 6) (i := 0) dX10_lays_5 rfl rfl rfl ?_
  refine g_iconst (p0 := 7) (v := nI 0) dX10_lays_6 rfl rfl ?_
  refine g_put (p0 := 10) dX10_lays_7 fX10_118 (by first | rfl | assumption | exact RW.s (by assumption) | exact TW.s (by assumption)) rfl nX10_12 (pX10_12 _) rfl ?_
  refine g_iconst (p0 := 11) (v := nI 0) dX10_lays_10 rfl rfl ?_
  refine g_istore_n (p0 := 12) (i := 1) (ls2 := [_, _, _]) dX10_lays_11 rfl (Nat.le_of_ble_eq_true rfl) rfl rfl ?_
  refine g_iconst (p0 := 13) (v := nI 0) dX10_lays_12 rfl rfl ?_
  refine g_istore_n (p0 := 14) (i := 2) (ls2 := [_, _, _]) dX10_lays_13 rfl (Nat.le_of_ble_eq_true rfl) rfl rfl ?_
  refine lays_loop (σ0 := σ) hs hs1 ?_ s 0 (by omega) _ ⟨⟨?_, fun l hl => absurd hl (Nat.not_lt_zero l)⟩, ⟨?_, fun l hl => absurd hl (Nat.not_lt_zero l)⟩, fun i hi => absurd hi (Nat.not_lt_zero i)⟩ ⟨fun z h1 h2 => by rw [up_ne h1, up_ne h1], fun j h1 h2 => by rw [up_miss h2, up_miss h1]⟩
  · rintro σ' ⟨cL, cM, call⟩ fr x
    have v1 := cL.1
    have v2 := cM.1
    have bLM := Mc_le (kaF (tm (σ 80)) (σ 80 0)) s
    refine g_aload_n (p0 := 137) (i := 0) dX10_lays_136 rfl rfl rfl ?_
    refine g_getR (p0 := 140) dX10_lays_137 fX10_46 (by first | rfl | assumption | exact RW.s (by assumption) | exact TW.s (by assumption)) rfl rfl ?_
    refine g_aload_n (p0 := 141) (i := 0) dX10_lays_140 rfl rfl rfl ?_
    refine g_getI (p0 := 144) dX10_lays_141 fX10_121 (by first | rfl | assumption | exact RW.s (by assumption) | exact TW.s (by assumption)) rfl (by first | assumption | ((repeat (first | exact up_hit | refine up_nv (by decide) ?_ | refine up_mv (by first | decide | omega) ?_)) <;> first | assumption | rfl)) rfl ?_
    refine g_aload_n (p0 := 145) (i := 0) dX10_lays_144 rfl rfl rfl ?_
    refine g_getI (p0 := 148) dX10_lays_145 fX10_118 (by first | rfl | assumption | exact RW.s (by assumption) | exact TW.s (by assumption)) rfl (by first | assumption | ((repeat (first | exact up_hit | refine up_nv (by decide) ?_ | refine up_mv (by first | decide | omega) ?_)) <;> first | assumption | rfl)) rfl ?_
    first | ((with_reducible refine isNS ?_); refine g_astN (p0 := 149) dX10_lays_148 (by first | rfl | assumption | exact RW.s (by assumption) | exact TW.s (by assumption)) (by first | decide | assumption) (by omega) rfl ?_) | refine g_ast (p0 := 149) dX10_lays_148 (by first | rfl | assumption | exact RW.s (by assumption) | exact TW.s (by assumption)) (by assumption) rfl ?_
    refine g_return dX10_lays_149 rfl ?_
    refine ⟨rfl, ⟨⟨cL.of (up_ne2 (by decide)) (up_ne (by decide)) (up_ne (by decide)) (up_ne (by decide)), ⟨(up_ne2 (by decide)).trans cM.1, fun m hm => ?_⟩, ?_⟩, up_hit⟩, fun z h1 h2 => ?_, fun j h1 h2 => ?_⟩
    · rw [up_ne (by decide), up_miss (by omega), up_ne (by decide), up_ne (by decide)]; exact cM.2 m hm
    · intro i hi
      rw [up_ne (by decide), up_ne (by decide), up_ne (by decide), up_ne (by decide), up_ne (by decide)]
      exact call i hi
    · rw [up_ne (by omega)]; exact fr.1 z h1 h2
    · rw [up_ne (by decide)]; exact fr.2 j h1 h2
  · rw [up_hit]; rfl
  · rw [up_miss (by decide), up_hit]; rfl
