/-! READING, the reference: all strokes -/
theorem up_ne2 {σ : Sg} {c k c2 k2 : Nat} {x : Int32} (h : c2 ≠ c) : up σ c k x c2 k2 = σ c2 k2 := by rw [up_ne h]
set_option maxRecDepth 20000 in
set_option maxHeartbeats 2000000 in
theorem lays_t0 {k M : Nat} {x : Int32} {s f p d : Nat → Nat} {σ : Sg} {Q : SP} (hM : MTr σ (M + 1) s f p d) (hk : k < 160) (hm : M < 160) (hd : CM mX10_isDoubtful [ar 79, ai (nI k)] σ (Ret (nI 0) σ)) (next : WM mX10_lays Q 14 [some (ar 79), some (ai x), some (ai (nI (k + 1)))] [] (up σ 95 M (nI (d M + 0)))) : WM mX10_lays Q 103 [some (ar 79), some (ai x), some (ai (nI k))] [] σ := by
  have v1 := hM.1
  have v2 : σ 95 (M + 1 - 1) = nI (d M) := (hM.2 M (by omega)).2.2.2
  refine g_aload_n (p0 := 104) (i := 0) dX10_lays_103 rfl rfl rfl ?_
  refine g_getR (p0 := 107) dX10_lays_104 fX10_55 (by first | rfl | assumption | exact RW.s (by assumption) | exact TW.s (by assumption)) rfl rfl ?_
  refine g_aload_n (p0 := 108) (i := 0) dX10_lays_107 rfl rfl rfl ?_
  refine g_getI (p0 := 111) dX10_lays_108 fX10_121 (by first | rfl | assumption | exact RW.s (by assumption) | exact TW.s (by assumption)) rfl (by first | assumption | ((repeat (first | exact up_hit | refine up_nv (by decide) ?_ | refine up_mv (by first | decide | omega) ?_)) <;> first | assumption | rfl)) rfl ?_
  refine g_iconst (p0 := 112) (v := nI 1) dX10_lays_111 rfl rfl ?_
  first | ((with_reducible refine isN2 ?_); refine g_isubN (p0 := 113) dX10_lays_112 (by omega) rfl ?_) | refine g_isub (p0 := 113) dX10_lays_112 rfl ?_
  refine g_dup2 (p0 := 114) dX10_lays_113 rfl ?_
  first | ((with_reducible refine isN1 ?_); refine g_aldN (p0 := 115) dX10_lays_114 (by first | rfl | assumption | exact RW.s (by assumption) | exact TW.s (by assumption)) (by first | decide | assumption) (by omega) (by first | assumption | ((repeat (first | exact up_hit | refine up_nv (by decide) ?_ | refine up_mv (by first | decide | omega) ?_)) <;> first | assumption | rfl)) rfl ?_) | refine g_ald (p0 := 115) dX10_lays_114 (by first | rfl | assumption | exact RW.s (by assumption) | exact TW.s (by assumption)) (by assumption) (by first | assumption | ((repeat (first | exact up_hit | refine up_nv (by decide) ?_ | refine up_mv (by first | decide | omega) ?_)) <;> first | assumption | rfl)) rfl ?_
  refine g_aload_n (p0 := 116) (i := 0) dX10_lays_115 rfl rfl rfl ?_
  refine g_iload_n (p0 := 117) (i := 2) dX10_lays_116 rfl rfl rfl ?_
  refine g_cV1R (p0 := 120) (r1 := mX10_isDoubtful) dX10_lays_117 lX10_131 vX10_isDoubtful (by first | rfl | assumption | exact RW.s (by assumption) | exact TW.s (by assumption)) ⟨_, _, rfl⟩ (FITi rfl rfl) (Nat.le_of_ble_eq_true rfl) (hd) rfl ?_
  first | ((with_reducible refine isN1 ?_); refine g_ifN_eq (tgt := 127) (p1 := 123) dX10_lays_120 rfl (by omega) rfl (fun c_120 => ?_) (fun c_120 => by exfalso; first | omega | contradiction | exact absurd (by assumption) c_120 | (simp_all; done))) | refine g_if_eq (tgt := 127) (p1 := 123) dX10_lays_120 rfl rfl (fun c_120 => ?_) (fun c_120 => by exfalso; first | omega | contradiction | exact absurd (by assumption) c_120 | (simp_all; done))
  refine g_iconst (p0 := 128) (v := nI 0) dX10_lays_127 rfl rfl ?_
  first | ((with_reducible refine isN2 ?_); refine g_iaddN (p0 := 129) dX10_lays_128 rfl ?_) | refine g_iadd (p0 := 129) dX10_lays_128 rfl ?_
  first | ((with_reducible refine isNS ?_); refine g_astN (p0 := 130) dX10_lays_129 (by first | rfl | assumption | exact RW.s (by assumption) | exact TW.s (by assumption)) (by first | decide | assumption) (by omega) rfl ?_) | refine g_ast (p0 := 130) dX10_lays_129 (by first | rfl | assumption | exact RW.s (by assumption) | exact TW.s (by assumption)) (by assumption) rfl ?_
  first | refine g_iinc1 (p0 := 133) (ls2 := [_, _, _]) dX10_lays_130 rfl rfl rfl ?_ | refine g_iinc (p0 := 133) (ls2 := [_, _, _]) dX10_lays_130 rfl rfl rfl rfl ?_
  refine g_goto (tgt := 14) dX10_lays_133 rfl ?_
  exact next
set_option maxRecDepth 20000 in
set_option maxHeartbeats 2000000 in
theorem lays_t1 {k M : Nat} {x : Int32} {s f p d : Nat → Nat} {σ : Sg} {Q : SP} (hM : MTr σ (M + 1) s f p d) (hk : k < 160) (hm : M < 160) (hd : CM mX10_isDoubtful [ar 79, ai (nI k)] σ (Ret (nI 1) σ)) (next : WM mX10_lays Q 14 [some (ar 79), some (ai x), some (ai (nI (k + 1)))] [] (up σ 95 M (nI (d M + 1)))) : WM mX10_lays Q 103 [some (ar 79), some (ai x), some (ai (nI k))] [] σ := by
  have v1 := hM.1
  have v2 : σ 95 (M + 1 - 1) = nI (d M) := (hM.2 M (by omega)).2.2.2
  refine g_aload_n (p0 := 104) (i := 0) dX10_lays_103 rfl rfl rfl ?_
  refine g_getR (p0 := 107) dX10_lays_104 fX10_55 (by first | rfl | assumption | exact RW.s (by assumption) | exact TW.s (by assumption)) rfl rfl ?_
  refine g_aload_n (p0 := 108) (i := 0) dX10_lays_107 rfl rfl rfl ?_
  refine g_getI (p0 := 111) dX10_lays_108 fX10_121 (by first | rfl | assumption | exact RW.s (by assumption) | exact TW.s (by assumption)) rfl (by first | assumption | ((repeat (first | exact up_hit | refine up_nv (by decide) ?_ | refine up_mv (by first | decide | omega) ?_)) <;> first | assumption | rfl)) rfl ?_
  refine g_iconst (p0 := 112) (v := nI 1) dX10_lays_111 rfl rfl ?_
  first | ((with_reducible refine isN2 ?_); refine g_isubN (p0 := 113) dX10_lays_112 (by omega) rfl ?_) | refine g_isub (p0 := 113) dX10_lays_112 rfl ?_
  refine g_dup2 (p0 := 114) dX10_lays_113 rfl ?_
  first | ((with_reducible refine isN1 ?_); refine g_aldN (p0 := 115) dX10_lays_114 (by first | rfl | assumption | exact RW.s (by assumption) | exact TW.s (by assumption)) (by first | decide | assumption) (by omega) (by first | assumption | ((repeat (first | exact up_hit | refine up_nv (by decide) ?_ | refine up_mv (by first | decide | omega) ?_)) <;> first | assumption | rfl)) rfl ?_) | refine g_ald (p0 := 115) dX10_lays_114 (by first | rfl | assumption | exact RW.s (by assumption) | exact TW.s (by assumption)) (by assumption) (by first | assumption | ((repeat (first | exact up_hit | refine up_nv (by decide) ?_ | refine up_mv (by first | decide | omega) ?_)) <;> first | assumption | rfl)) rfl ?_
  refine g_aload_n (p0 := 116) (i := 0) dX10_lays_115 rfl rfl rfl ?_
  refine g_iload_n (p0 := 117) (i := 2) dX10_lays_116 rfl rfl rfl ?_
  refine g_cV1R (p0 := 120) (r1 := mX10_isDoubtful) dX10_lays_117 lX10_131 vX10_isDoubtful (by first | rfl | assumption | exact RW.s (by assumption) | exact TW.s (by assumption)) ⟨_, _, rfl⟩ (FITi rfl rfl) (Nat.le_of_ble_eq_true rfl) (hd) rfl ?_
  first | ((with_reducible refine isN1 ?_); refine g_ifN_eq (tgt := 127) (p1 := 123) dX10_lays_120 rfl (by omega) rfl (fun c_120 => by exfalso; first | omega | contradiction | exact absurd (by assumption) c_120 | (simp_all; done)) (fun c_120 => ?_)) | refine g_if_eq (tgt := 127) (p1 := 123) dX10_lays_120 rfl rfl (fun c_120 => by exfalso; first | omega | contradiction | exact absurd (by assumption) c_120 | (simp_all; done)) (fun c_120 => ?_)
  refine g_iconst (p0 := 124) (v := nI 1) dX10_lays_123 rfl rfl ?_
  refine g_goto (tgt := 128) dX10_lays_124 rfl ?_
  first | ((with_reducible refine isN2 ?_); refine g_iaddN (p0 := 129) dX10_lays_128 rfl ?_) | refine g_iadd (p0 := 129) dX10_lays_128 rfl ?_
  first | ((with_reducible refine isNS ?_); refine g_astN (p0 := 130) dX10_lays_129 (by first | rfl | assumption | exact RW.s (by assumption) | exact TW.s (by assumption)) (by first | decide | assumption) (by omega) rfl ?_) | refine g_ast (p0 := 130) dX10_lays_129 (by first | rfl | assumption | exact RW.s (by assumption) | exact TW.s (by assumption)) (by assumption) rfl ?_
  first | refine g_iinc1 (p0 := 133) (ls2 := [_, _, _]) dX10_lays_130 rfl rfl rfl ?_ | refine g_iinc (p0 := 133) (ls2 := [_, _, _]) dX10_lays_130 rfl rfl rfl rfl ?_
  refine g_goto (tgt := 14) dX10_lays_133 rfl ?_
  exact next
theorem lays_t {k M v : Nat} {x : Int32} {s f p d : Nat → Nat} {σ : Sg} {Q : SP} (hM : MTr σ (M + 1) s f p d) (hk : k < 160) (hm : M < 160) (hv : v ≤ 1) (hd : CM mX10_isDoubtful [ar 79, ai (nI k)] σ (Ret (nI v) σ)) (next : WM mX10_lays Q 14 [some (ar 79), some (ai x), some (ai (nI (k + 1)))] [] (up σ 95 M (nI (d M + v)))) : WM mX10_lays Q 103 [some (ar 79), some (ai x), some (ai (nI k))] [] σ := by
  have hv2 : v = 0 ∨ v = 1 := by omega
  rcases hv2 with rfl | rfl
  · exact lays_t0 hM hk hm hd next
  · exact lays_t1 hM hk hm hd next
set_option maxRecDepth 20000 in
set_option maxHeartbeats 2000000 in
theorem lays_step {k : Nat} {c d : Nat → Nat} {la tk : Int32} {σ : Sg} {Q : SP} (hL : LTr σ (Lc c k) (gr c k) (o1 c k) (o2 c k)) (hM : MTr σ (Mc c k) (fs c k) (fl c k) (pl c k) (db c d k)) (hk : k < 160) (hc5 : ∀ j, c j ≤ 5) (h0 : c 0 = 5) (hx : σ 85 k = nI (c k)) (ht : σ 80 (29 + k) = tk) (hd1 : d k ≤ 1)
    (hd : ∀ σ', σ' 80 = σ 80 → σ' 84 = σ 84 → σ' 85 = σ 85 → CM mX10_isDoubtful [ar 79, ai (nI k)] σ' (Ret (nI (d k)) σ'))
    (next : ∀ σ', LTr σ' (Lc c (k + 1)) (gr c (k + 1)) (o1 c (k + 1)) (o2 c (k + 1)) → MTr σ' (Mc c (k + 1)) (fs c (k + 1)) (fl c (k + 1)) (pl c (k + 1)) (db c d (k + 1)) → (c k ≠ 0 → σ' 86 k = nI (Mc c (k + 1) - 1) ∧ σ' 87 k = nI (Lc c (k + 1) - 1 - fl c (k + 1) (Mc c (k + 1) - 1)) ∧ σ' 88 k = nI (gr c (k + 1) (Lc c (k + 1) - 1) - 1)) → (∀ j, j ≠ k → σ' 86 j = σ 86 j ∧ σ' 87 j = σ 87 j ∧ σ' 88 j = σ 88 j) → (∀ z, z ≠ 79 → (z < 86 ∨ 95 < z) → σ' z = σ z) → (∀ j, j ≠ 11 → j ≠ 12 → σ' 79 j = σ 79 j) → WM mX10_lays Q 14 [some (ar 79), some (ai (if c k = 0 then la else tk)), some (ai (nI (k + 1)))] [] σ') : WM mX10_lays Q 73 [some (ar 79), some (ai la), some (ai (nI k))] [] σ := by
  have pM := Mc_pos h0 k
  have bM := Mc_le c (k + 1)
  have hck := hc5 k
  obtain ⟨M, eM⟩ : ∃ M, Mc c (k + 1) = M + 1 := ⟨Mc c (k + 1) - 1, by omega⟩
  have hdb : ∀ m, m < M + 1 → nu (dbh c d k) M (dbh c d k M + d k) m = db c d (k + 1) m := by
    intro m hm
    have e : (m + 1 = Mc c (k + 1)) ↔ m = M := by rw [eM]; omega
    rw [db]
    by_cases em : m = M
    · subst em
      rw [if_pos (e.mpr rfl), nu, if_pos rfl]; rfl
    · rw [if_neg (fun q => em (e.mp q)), nu, if_neg em]; rfl
  have hup : ∀ σ1 : Sg, MTr σ1 (M + 1) (fs c (k + 1)) (fl c (k + 1)) (pl c (k + 1)) (dbh c d k) → MTr (up σ1 95 M (nI (dbh c d k M + d k))) (Mc c (k + 1)) (fs c (k + 1)) (fl c (k + 1)) (pl c (k + 1)) (db c d (k + 1)) := by
    intro σ1 h
    rw [eM]
    refine MTr.cong (d := nu (dbh c d k) M (dbh c d k M + d k)) ⟨by rw [up_ne (by decide)]; exact h.1, fun m hm2 => ⟨?_, ?_, ?_, ?_⟩⟩ rfl (fun _ _ => rfl) (fun _ _ => rfl) (fun _ _ => rfl) hdb
    · rw [up_ne (by decide)]; exact (h.2 m hm2).1
    · rw [up_ne (by decide)]; exact (h.2 m hm2).2.1
    · rw [up_ne (by decide)]; exact (h.2 m hm2).2.2.1
    · rw [up_self]; exact upd_nI (fun j hj => (h.2 j hj).2.2.2) m hm2
  by_cases hc0 : c k = 0
  · rw [if_pos hc0] at next
    have eLc : Lc c k = Lc c (k + 1) := by simp [Lc, hc0]
    have eMc : Mc c k = Mc c (k + 1) := by simp [Mc, hc0]
    have hL1 : LTr σ (Lc c (k + 1)) (gr c (k + 1)) (o1 c (k + 1)) (o2 c (k + 1)) := hL.cong eLc (fun l hl => by simp [gr, hc0]) (fun l hl => by simp [o1, hc0]) (fun l hl => by simp [o2, hc0])
    have hM1 : MTr σ (M + 1) (fs c (k + 1)) (fl c (k + 1)) (pl c (k + 1)) (dbh c d k) := hM.cong (eMc.trans eM) (fun m hm => by simp [fs, hc0]) (fun m hm => by simp [fl, hc0]) (fun m hm => by simp [pl, hc0]) (fun m hm => by simp [dbh, hc0])
    refine g_aload_n (p0 := 74) (i := 0) dX10_lays_73 rfl rfl rfl ?_
    refine g_getR (p0 := 77) dX10_lays_74 fX10_25 (by first | rfl | assumption | exact RW.s (by assumption) | exact TW.s (by assumption)) rfl rfl ?_
    refine g_iload_n (p0 := 78) (i := 2) dX10_lays_77 rfl rfl rfl ?_
    first | ((with_reducible refine isN1 ?_); refine g_aldN (p0 := 79) dX10_lays_78 (by first | rfl | assumption | exact RW.s (by assumption) | exact TW.s (by assumption)) (by first | decide | assumption) (by omega) (by first | assumption | ((repeat (first | exact up_hit | refine up_nv (by decide) ?_ | refine up_mv (by first | decide | omega) ?_)) <;> first | assumption | rfl)) rfl ?_) | refine g_ald (p0 := 79) dX10_lays_78 (by first | rfl | assumption | exact RW.s (by assumption) | exact TW.s (by assumption)) (by assumption) (by first | assumption | ((repeat (first | exact up_hit | refine up_nv (by decide) ?_ | refine up_mv (by first | decide | omega) ?_)) <;> first | assumption | rfl)) rfl ?_
    first | ((with_reducible refine isN1 ?_); refine g_ifN_le (tgt := 103) (p1 := 82) dX10_lays_79 rfl (by omega) rfl (fun c_79 => ?_) (fun c_79 => by exfalso; first | omega | contradiction | exact absurd (by assumption) c_79 | (simp_all; done))) | refine g_if_le (tgt := 103) (p1 := 82) dX10_lays_79 rfl rfl (fun c_79 => ?_) (fun c_79 => by exfalso; first | omega | contradiction | exact absurd (by assumption) c_79 | (simp_all; done))
    refine lays_t hM1 hk (by omega) hd1 (hd σ rfl rfl rfl) ?_
    refine next _ (hL1.of (up_ne2 (by decide)) (up_ne (by decide)) (up_ne (by decide)) (up_ne (by decide))) (hup σ hM1) (fun q => absurd hc0 q) (fun j hj => ⟨up_ne2 (by decide), up_ne2 (by decide), up_ne2 (by decide)⟩) (fun z h1 h2 => up_ne (by omega)) (fun j h1 h2 => up_ne2 (by decide))
  · rw [if_neg hc0] at next
    refine g_aload_n (p0 := 74) (i := 0) dX10_lays_73 rfl rfl rfl ?_
    refine g_getR (p0 := 77) dX10_lays_74 fX10_25 (by first | rfl | assumption | exact RW.s (by assumption) | exact TW.s (by assumption)) rfl rfl ?_
    refine g_iload_n (p0 := 78) (i := 2) dX10_lays_77 rfl rfl rfl ?_
    first | ((with_reducible refine isN1 ?_); refine g_aldN (p0 := 79) dX10_lays_78 (by first | rfl | assumption | exact RW.s (by assumption) | exact TW.s (by assumption)) (by first | decide | assumption) (by omega) (by first | assumption | ((repeat (first | exact up_hit | refine up_nv (by decide) ?_ | refine up_mv (by first | decide | omega) ?_)) <;> first | assumption | rfl)) rfl ?_) | refine g_ald (p0 := 79) dX10_lays_78 (by first | rfl | assumption | exact RW.s (by assumption) | exact TW.s (by assumption)) (by assumption) (by first | assumption | ((repeat (first | exact up_hit | refine up_nv (by decide) ?_ | refine up_mv (by first | decide | omega) ?_)) <;> first | assumption | rfl)) rfl ?_
    first | ((with_reducible refine isN1 ?_); refine g_ifN_le (tgt := 103) (p1 := 82) dX10_lays_79 rfl (by omega) rfl (fun c_79 => by exfalso; first | omega | contradiction | exact absurd (by assumption) c_79 | (simp_all; done)) (fun c_79 => ?_)) | refine g_if_le (tgt := 103) (p1 := 82) dX10_lays_79 rfl rfl (fun c_79 => by exfalso; first | omega | contradiction | exact absurd (by assumption) c_79 | (simp_all; done)) (fun c_79 => ?_)
    refine g_aload_n (p0 := 83) (i := 0) dX10_lays_82 rfl rfl rfl ?_
    refine g_iload_n (p0 := 84) (i := 2) dX10_lays_83 rfl rfl rfl ?_
    refine g_aload_n (p0 := 85) (i := 0) dX10_lays_84 rfl rfl rfl ?_
    refine g_getR (p0 := 88) dX10_lays_85 fX10_25 (by first | rfl | assumption | exact RW.s (by assumption) | exact TW.s (by assumption)) rfl rfl ?_
    refine g_iload_n (p0 := 89) (i := 2) dX10_lays_88 rfl rfl rfl ?_
    first | ((with_reducible refine isN1 ?_); refine g_aldN (p0 := 90) dX10_lays_89 (by first | rfl | assumption | exact RW.s (by assumption) | exact TW.s (by assumption)) (by first | decide | assumption) (by omega) (by first | assumption | ((repeat (first | exact up_hit | refine up_nv (by decide) ?_ | refine up_mv (by first | decide | omega) ?_)) <;> first | assumption | rfl)) rfl ?_) | refine g_ald (p0 := 90) dX10_lays_89 (by first | rfl | assumption | exact RW.s (by assumption) | exact TW.s (by assumption)) (by assumption) (by first | assumption | ((repeat (first | exact up_hit | refine up_nv (by decide) ?_ | refine up_mv (by first | decide | omega) ?_)) <;> first | assumption | rfl)) rfl ?_
    refine g_cV2P (p0 := 93) (r1 := mX10_goesOn) dX10_lays_90 lX10_127 vX10_goesOn (by first | rfl | assumption | exact RW.s (by assumption) | exact TW.s (by assumption)) ⟨_, _, rfl⟩ (FITi rfl rfl) (Nat.le_of_ble_eq_true rfl) (goesOn_r hL hM hk hc5 h0 (by omega)) rfl ?_
    rintro σ1 ⟨hL1, hM1, n86, n87, n88, hj, fr, fr79⟩
    have v2 : σ1 80 (29 + k) = tk := by rw [fr 80 (by decide) (by decide)]; exact ht
    rw [eM] at hM1
    refine g_aload_n (p0 := 94) (i := 0) dX10_lays_93 rfl rfl rfl ?_
    refine g_getR (p0 := 97) dX10_lays_94 fX10_7 (by first | rfl | assumption | exact RW.s (by assumption) | exact TW.s (by assumption)) rfl rfl ?_
    refine g_bipush (p0 := 99) (v := nI 29) dX10_lays_97 (by decide) rfl ?_
    refine g_iload_n (p0 := 100) (i := 2) dX10_lays_99 rfl rfl rfl ?_
    first | ((with_reducible refine isN2 ?_); refine g_iaddN (p0 := 101) dX10_lays_100 rfl ?_) | refine g_iadd (p0 := 101) dX10_lays_100 rfl ?_
    first | ((with_reducible refine isN1 ?_); refine g_aldN (p0 := 102) dX10_lays_101 (by first | rfl | assumption | exact RW.s (by assumption) | exact TW.s (by assumption)) (by first | decide | assumption) (by omega) (by first | assumption | ((repeat (first | exact up_hit | refine up_nv (by decide) ?_ | refine up_mv (by first | decide | omega) ?_)) <;> first | assumption | rfl)) rfl ?_) | refine g_ald (p0 := 102) dX10_lays_101 (by first | rfl | assumption | exact RW.s (by assumption) | exact TW.s (by assumption)) (by assumption) (by first | assumption | ((repeat (first | exact up_hit | refine up_nv (by decide) ?_ | refine up_mv (by first | decide | omega) ?_)) <;> first | assumption | rfl)) rfl ?_
    refine g_istore_n (p0 := 103) (i := 1) (ls2 := [_, _, _]) dX10_lays_102 rfl (Nat.le_of_ble_eq_true rfl) rfl rfl ?_
    refine lays_t hM1 hk (by omega) hd1 (hd σ1 (fr 80 (by decide) (by decide)) (fr 84 (by decide) (by decide)) (fr 85 (by decide) (by decide))) ?_
    refine next _ (hL1.of (up_ne2 (by decide)) (up_ne (by decide)) (up_ne (by decide)) (up_ne (by decide))) (hup σ1 hM1) (fun _ => ⟨(up_ne2 (by decide)).trans n86, (up_ne2 (by decide)).trans n87, (up_ne2 (by decide)).trans n88⟩) (fun j hj2 => ⟨(up_ne2 (by decide)).trans (hj j hj2).1, (up_ne2 (by decide)).trans (hj j hj2).2.1, (up_ne2 (by decide)).trans (hj j hj2).2.2⟩) (fun z h1 h2 => (up_ne (by omega)).trans (fr z h1 h2)) (fun j h1 h2 => (up_ne2 (by decide)).trans (fr79 j h1 h2))
