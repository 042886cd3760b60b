/-! ORDERS: the reference reads one order -/
set_option maxRecDepth 20000 in
set_option maxHeartbeats 2000000 in
theorem isAt_F1 {T : Nat → Nat} {len a lo hi : Nat} {σ : Sg} (hT : TOK T len) (hC : TR σ T len) (ha : σ 79 23 = nI a) (ha1 : a ≤ 100) (hlo : lo ≤ 200) (hhi : hi ≤ 200) (h : len ≤ a) : CM mX10_isAt [ar 79, ai (nI lo), ai (nI hi)] σ (Ret (nI 0) σ) := by
  obtain ⟨hl, hTT⟩ := hT
  obtain ⟨ht, hTr⟩ := hC
  refine CM_in (ls := [some (ar 79), some (ai (nI lo)), some (ai (nI hi))]) rfl ?_
  refine g_aload_n (p0 := 1) (i := 0) dX10_isAt_0 rfl rfl rfl ?_
  refine g_getI (p0 := 4) dX10_isAt_1 fX10_190 (by first | rfl | assumption | exact RW.s (by assumption) | exact TW.s (by assumption)) rfl (by first | assumption | ((repeat (first | exact up_hit | refine up_nv (by decide) ?_ | refine up_mv (by first | decide | omega) ?_)) <;> first | assumption | rfl)) rfl ?_
  refine g_aload_n (p0 := 5) (i := 0) dX10_isAt_4 rfl rfl rfl ?_
  refine g_getI (p0 := 8) dX10_isAt_5 fX10_187 (by first | rfl | assumption | exact RW.s (by assumption) | exact TW.s (by assumption)) rfl (by first | assumption | ((repeat (first | exact up_hit | refine up_nv (by decide) ?_ | refine up_mv (by first | decide | omega) ?_)) <;> first | assumption | rfl)) rfl ?_
  first | ((with_reducible refine isN2 ?_); refine g_icmpN_ge (tgt := 32) (p1 := 11) dX10_isAt_8 rfl (by omega) (by omega) rfl (fun c_8 => ?_) (fun c_8 => by exfalso; first | omega | contradiction | exact absurd (by assumption) c_8 | (simp_all; done))) | refine g_icmp_ge (tgt := 32) (p1 := 11) dX10_isAt_8 rfl rfl (fun c_8 => ?_) (fun c_8 => by exfalso; first | omega | contradiction | exact absurd (by assumption) c_8 | (simp_all; done))
  refine g_iconst (p0 := 33) (v := nI 0) dX10_isAt_32 rfl rfl ?_
  refine g_ireturn dX10_isAt_33 rfl (by first | rfl | exact bool_narrow (by first | exact Or.inl rfl | exact Or.inr rfl | assumption | (split <;> first | exact Or.inl rfl | exact Or.inr rfl))) (?_)
  exact ⟨rfl, rfl⟩
set_option maxRecDepth 20000 in
set_option maxHeartbeats 2000000 in
theorem isAt_F2 {T : Nat → Nat} {len a lo hi : Nat} {σ : Sg} (hT : TOK T len) (hC : TR σ T len) (ha : σ 79 23 = nI a) (ha1 : a ≤ 100) (hlo : lo ≤ 200) (hhi : hi ≤ 200) (h : a < len) (h2 : ¬ (lo ≤ T a ∧ T a ≤ hi)) : CM mX10_isAt [ar 79, ai (nI lo), ai (nI hi)] σ (Ret (nI 0) σ) := by
  obtain ⟨hl, hTT⟩ := hT
  obtain ⟨ht, hTr⟩ := hC
  have e83 := hTr a h
  have h9 := hTT a h
  refine CM_in (ls := [some (ar 79), some (ai (nI lo)), some (ai (nI hi))]) rfl ?_
  refine g_aload_n (p0 := 1) (i := 0) dX10_isAt_0 rfl rfl rfl ?_
  refine g_getI (p0 := 4) dX10_isAt_1 fX10_190 (by first | rfl | assumption | exact RW.s (by assumption) | exact TW.s (by assumption)) rfl (by first | assumption | ((repeat (first | exact up_hit | refine up_nv (by decide) ?_ | refine up_mv (by first | decide | omega) ?_)) <;> first | assumption | rfl)) rfl ?_
  refine g_aload_n (p0 := 5) (i := 0) dX10_isAt_4 rfl rfl rfl ?_
  refine g_getI (p0 := 8) dX10_isAt_5 fX10_187 (by first | rfl | assumption | exact RW.s (by assumption) | exact TW.s (by assumption)) rfl (by first | assumption | ((repeat (first | exact up_hit | refine up_nv (by decide) ?_ | refine up_mv (by first | decide | omega) ?_)) <;> first | assumption | rfl)) rfl ?_
  first | ((with_reducible refine isN2 ?_); refine g_icmpN_ge (tgt := 32) (p1 := 11) dX10_isAt_8 rfl (by omega) (by omega) rfl (fun c_8 => by exfalso; first | omega | contradiction | exact absurd (by assumption) c_8 | (simp_all; done)) (fun c_8 => ?_)) | refine g_icmp_ge (tgt := 32) (p1 := 11) dX10_isAt_8 rfl rfl (fun c_8 => by exfalso; first | omega | contradiction | exact absurd (by assumption) c_8 | (simp_all; done)) (fun c_8 => ?_)
  refine g_aload_n (p0 := 12) (i := 0) dX10_isAt_11 rfl rfl rfl ?_
  refine g_getR (p0 := 15) dX10_isAt_12 fX10_19 (by first | rfl | assumption | exact RW.s (by assumption) | exact TW.s (by assumption)) rfl rfl ?_
  refine g_aload_n (p0 := 16) (i := 0) dX10_isAt_15 rfl rfl rfl ?_
  refine g_getI (p0 := 19) dX10_isAt_16 fX10_190 (by first | rfl | assumption | exact RW.s (by assumption) | exact TW.s (by assumption)) rfl (by first | assumption | ((repeat (first | exact up_hit | refine up_nv (by decide) ?_ | refine up_mv (by first | decide | omega) ?_)) <;> first | assumption | rfl)) rfl ?_
  first | ((with_reducible refine isN1 ?_); refine g_aldN (p0 := 20) dX10_isAt_19 (by first | rfl | assumption | exact RW.s (by assumption) | exact TW.s (by assumption)) (by first | decide | assumption) (by omega) (by first | assumption | ((repeat (first | exact up_hit | refine up_nv (by decide) ?_ | refine up_mv (by first | decide | omega) ?_)) <;> first | assumption | rfl)) rfl ?_) | refine g_ald (p0 := 20) dX10_isAt_19 (by first | rfl | assumption | exact RW.s (by assumption) | exact TW.s (by assumption)) (by assumption) (by first | assumption | ((repeat (first | exact up_hit | refine up_nv (by decide) ?_ | refine up_mv (by first | decide | omega) ?_)) <;> first | assumption | rfl)) rfl ?_
  refine g_iload_n (p0 := 21) (i := 1) dX10_isAt_20 rfl rfl rfl ?_
  refine g_iload_n (p0 := 22) (i := 2) dX10_isAt_21 rfl rfl rfl ?_
  refine g_cS3R (p0 := 25) (r1 := mX10_in) dX10_isAt_22 (Or.inl lX10_65) vX10_in (FITi rfl rfl) (Nat.le_of_ble_eq_true rfl) ((by by_cases q : T a < lo; exact in_F1 ((nI_lt_iff (by omega) (by omega)).mpr q); exact in_F2 (fun z => q ((nI_lt_iff (by omega) (by omega)).mp z)) ((nI_lt_iff (by omega) (by omega)).mpr (by omega)))) rfl ?_
  first | ((with_reducible refine isN1 ?_); refine g_ifN_eq (tgt := 32) (p1 := 28) dX10_isAt_25 rfl (by omega) rfl (fun c_25 => ?_) (fun c_25 => by exfalso; first | omega | contradiction | exact absurd (by assumption) c_25 | (simp_all; done))) | refine g_if_eq (tgt := 32) (p1 := 28) dX10_isAt_25 rfl rfl (fun c_25 => ?_) (fun c_25 => by exfalso; first | omega | contradiction | exact absurd (by assumption) c_25 | (simp_all; done))
  refine g_iconst (p0 := 33) (v := nI 0) dX10_isAt_32 rfl rfl ?_
  refine g_ireturn dX10_isAt_33 rfl (by first | rfl | exact bool_narrow (by first | exact Or.inl rfl | exact Or.inr rfl | assumption | (split <;> first | exact Or.inl rfl | exact Or.inr rfl))) (?_)
  exact ⟨rfl, rfl⟩
set_option maxRecDepth 20000 in
set_option maxHeartbeats 2000000 in
theorem isAt_T {T : Nat → Nat} {len a lo hi : Nat} {σ : Sg} (hT : TOK T len) (hC : TR σ T len) (ha : σ 79 23 = nI a) (ha1 : a ≤ 100) (hlo : lo ≤ 200) (hhi : hi ≤ 200) (h : a < len) (h2 : lo ≤ T a ∧ T a ≤ hi) : CM mX10_isAt [ar 79, ai (nI lo), ai (nI hi)] σ (Ret (nI 1) σ) := by
  obtain ⟨hl, hTT⟩ := hT
  obtain ⟨ht, hTr⟩ := hC
  have e83 := hTr a h
  have h9 := hTT a h
  obtain ⟨h3, h4⟩ := h2
  refine CM_in (ls := [some (ar 79), some (ai (nI lo)), some (ai (nI hi))]) rfl ?_
  refine g_aload_n (p0 := 1) (i := 0) dX10_isAt_0 rfl rfl rfl ?_
  refine g_getI (p0 := 4) dX10_isAt_1 fX10_190 (by first | rfl | assumption | exact RW.s (by assumption) | exact TW.s (by assumption)) rfl (by first | assumption | ((repeat (first | exact up_hit | refine up_nv (by decide) ?_ | refine up_mv (by first | decide | omega) ?_)) <;> first | assumption | rfl)) rfl ?_
  refine g_aload_n (p0 := 5) (i := 0) dX10_isAt_4 rfl rfl rfl ?_
  refine g_getI (p0 := 8) dX10_isAt_5 fX10_187 (by first | rfl | assumption | exact RW.s (by assumption) | exact TW.s (by assumption)) rfl (by first | assumption | ((repeat (first | exact up_hit | refine up_nv (by decide) ?_ | refine up_mv (by first | decide | omega) ?_)) <;> first | assumption | rfl)) rfl ?_
  first | ((with_reducible refine isN2 ?_); refine g_icmpN_ge (tgt := 32) (p1 := 11) dX10_isAt_8 rfl (by omega) (by omega) rfl (fun c_8 => by exfalso; first | omega | contradiction | exact absurd (by assumption) c_8 | (simp_all; done)) (fun c_8 => ?_)) | refine g_icmp_ge (tgt := 32) (p1 := 11) dX10_isAt_8 rfl rfl (fun c_8 => by exfalso; first | omega | contradiction | exact absurd (by assumption) c_8 | (simp_all; done)) (fun c_8 => ?_)
  refine g_aload_n (p0 := 12) (i := 0) dX10_isAt_11 rfl rfl rfl ?_
  refine g_getR (p0 := 15) dX10_isAt_12 fX10_19 (by first | rfl | assumption | exact RW.s (by assumption) | exact TW.s (by assumption)) rfl rfl ?_
  refine g_aload_n (p0 := 16) (i := 0) dX10_isAt_15 rfl rfl rfl ?_
  refine g_getI (p0 := 19) dX10_isAt_16 fX10_190 (by first | rfl | assumption | exact RW.s (by assumption) | exact TW.s (by assumption)) rfl (by first | assumption | ((repeat (first | exact up_hit | refine up_nv (by decide) ?_ | refine up_mv (by first | decide | omega) ?_)) <;> first | assumption | rfl)) rfl ?_
  first | ((with_reducible refine isN1 ?_); refine g_aldN (p0 := 20) dX10_isAt_19 (by first | rfl | assumption | exact RW.s (by assumption) | exact TW.s (by assumption)) (by first | decide | assumption) (by omega) (by first | assumption | ((repeat (first | exact up_hit | refine up_nv (by decide) ?_ | refine up_mv (by first | decide | omega) ?_)) <;> first | assumption | rfl)) rfl ?_) | refine g_ald (p0 := 20) dX10_isAt_19 (by first | rfl | assumption | exact RW.s (by assumption) | exact TW.s (by assumption)) (by assumption) (by first | assumption | ((repeat (first | exact up_hit | refine up_nv (by decide) ?_ | refine up_mv (by first | decide | omega) ?_)) <;> first | assumption | rfl)) rfl ?_
  refine g_iload_n (p0 := 21) (i := 1) dX10_isAt_20 rfl rfl rfl ?_
  refine g_iload_n (p0 := 22) (i := 2) dX10_isAt_21 rfl rfl rfl ?_
  refine g_cS3R (p0 := 25) (r1 := mX10_in) dX10_isAt_22 (Or.inl lX10_65) vX10_in (FITi rfl rfl) (Nat.le_of_ble_eq_true rfl) (in_T (fun q => by rw [nI_lt_iff (by omega) (by omega)] at q; omega) (fun q => by rw [nI_lt_iff (by omega) (by omega)] at q; omega)) rfl ?_
  first | ((with_reducible refine isN1 ?_); refine g_ifN_eq (tgt := 32) (p1 := 28) dX10_isAt_25 rfl (by omega) rfl (fun c_25 => by exfalso; first | omega | contradiction | exact absurd (by assumption) c_25 | (simp_all; done)) (fun c_25 => ?_)) | refine g_if_eq (tgt := 32) (p1 := 28) dX10_isAt_25 rfl rfl (fun c_25 => by exfalso; first | omega | contradiction | exact absurd (by assumption) c_25 | (simp_all; done)) (fun c_25 => ?_)
  refine g_iconst (p0 := 29) (v := nI 1) dX10_isAt_28 rfl rfl ?_
  refine g_goto (tgt := 33) dX10_isAt_29 rfl ?_
  refine g_ireturn dX10_isAt_33 rfl (by first | rfl | exact bool_narrow (by first | exact Or.inl rfl | exact Or.inr rfl | assumption | (split <;> first | exact Or.inl rfl | exact Or.inr rfl))) (?_)
  exact ⟨rfl, rfl⟩
theorem isAt_F {T : Nat → Nat} {len a lo hi : Nat} {σ : Sg} (hT : TOK T len) (hC : TR σ T len) (ha : σ 79 23 = nI a) (ha1 : a ≤ 100) (hlo : lo ≤ 200) (hhi : hi ≤ 200) (h : ¬ (a < len ∧ lo ≤ T a ∧ T a ≤ hi)) : CM mX10_isAt [ar 79, ai (nI lo), ai (nI hi)] σ (Ret (nI 0) σ) := by
  by_cases h1 : a < len
  · exact isAt_F2 hT hC ha ha1 hlo hhi h1 (fun q => h ⟨h1, q⟩)
  · exact isAt_F1 hT hC ha ha1 hlo hhi (by omega)
/-- only the place in the text moves -/
def FA (σ σ1 : Sg) (a : Nat) : Prop := (∀ z, z ≠ 79 → σ1 z = σ z) ∧ (∀ q, q ≠ 23 → σ1 79 q = σ 79 q) ∧ σ1 79 23 = nI a
theorem FA.up {σ σ1 : Sg} {a b : Nat} (h : FA σ σ1 a) : FA σ (up σ1 79 23 (nI b)) b := ⟨fun z hz => by rw [up_ne hz]; exact h.1 z hz, fun q hq => by rw [up_miss hq]; exact h.2.1 q hq, up_hit⟩
theorem FA.tr {σ σ1 : Sg} {a len : Nat} {T : Nat → Nat} (h : FA σ σ1 a) (hC : TR σ T len) : TR σ1 T len := ⟨by rw [h.2.1 5 (by decide)]; exact hC.1, fun i hi => by rw [h.1 83 (by decide)]; exact hC.2 i hi⟩
theorem FA.at {σ σ1 : Sg} {a : Nat} (h : FA σ σ1 a) : σ1 79 23 = nI a := h.2.2
set_option maxRecDepth 20000 in
set_option maxHeartbeats 2000000 in
theorem dxN_g {T : Nat → Nat} {len p a sg v : Nat} {σ σ1 : Sg} {Q : SP} (hT : TOK T len) (hC : TR σ T len) (e : FA σ σ1 a) (hp : p + 1 ≤ 60) (ha : a ≤ 100) (hs1 : sg ≤ 126) (h1 : p + 1 < a) (h2 : a < len) (h3 : T a = 59) (k : WM mX10_does Q 195 [some (ar 79), some (ai (nI sg)), some (ai (nI (p + 1))), some (ai (nI 1)), some (ai (nI 0)), some (ai (nI (v))), some (ai (nI 1)), none] [] σ1) : WM mX10_does Q 147 [some (ar 79), some (ai (nI sg)), some (ai (nI (p + 1))), some (ai (nI 1)), some (ai (nI 0)), some (ai (nI (v))), none, none] [] σ1 := by
  have e23 := e.at
  refine g_iload_n (p0 := 148) (i := 3) dX10_does_147 rfl rfl rfl ?_
  first | ((with_reducible refine isN1 ?_); refine g_ifN_ne (tgt := 156) (p1 := 151) dX10_does_148 rfl (by omega) rfl (fun c_148 => ?_) (fun c_148 => by exfalso; first | omega | contradiction | exact absurd h c_148 | exact h c_148 | exact c_148 h | exact c_148 (by decide) | exact c_148 rfl | exact absurd rfl c_148)) | refine g_if_ne (tgt := 156) (p1 := 151) dX10_does_148 rfl rfl (fun c_148 => ?_) (fun c_148 => by exfalso; first | omega | contradiction | exact absurd h c_148 | exact h c_148 | exact c_148 h | exact c_148 (by decide) | exact c_148 rfl | exact absurd rfl c_148)
  refine g_aload_n (p0 := 157) (i := 0) dX10_does_156 rfl rfl rfl ?_
  refine g_getI (p0 := 160) dX10_does_157 fX10_190 (by first | rfl | assumption | exact RW.s (by assumption) | exact TW.s (by assumption)) rfl (by first | assumption | ((repeat (first | exact up_hit | refine up_nv (by decide) ?_ | refine up_mv (by first | decide | omega) ?_)) <;> first | assumption | rfl)) rfl ?_
  refine g_iload_n (p0 := 161) (i := 2) dX10_does_160 rfl rfl rfl ?_
  first | ((with_reducible refine isN2 ?_); refine g_icmpN_gt (tgt := 170) (p1 := 164) dX10_does_161 rfl (by omega) (by omega) rfl (fun c_161 => ?_) (fun c_161 => by exfalso; first | omega | contradiction | exact absurd h c_161 | exact h c_161 | exact c_161 h | exact c_161 (by decide) | exact c_161 rfl | exact absurd rfl c_161)) | refine g_icmp_gt (tgt := 170) (p1 := 164) dX10_does_161 rfl rfl (fun c_161 => ?_) (fun c_161 => by exfalso; first | omega | contradiction | exact absurd h c_161 | exact h c_161 | exact c_161 h | exact c_161 (by decide) | exact c_161 rfl | exact absurd rfl c_161)
  refine g_iconst (p0 := 171) (v := nI 1) dX10_does_170 rfl rfl ?_
  refine g_goto (tgt := 175) dX10_does_171 rfl ?_
  refine g_istore (p0 := 177) (i := 6) (ls2 := [_, _, _, _, _, _, _, _]) dX10_does_175 (Nat.le_of_ble_eq_true rfl) rfl rfl ?_
  refine g_iload (p0 := 179) dX10_does_177 rfl rfl ?_
  first | ((with_reducible refine isN1 ?_); refine g_ifN_eq (tgt := 193) (p1 := 182) dX10_does_179 rfl (by omega) rfl (fun c_179 => by exfalso; first | omega | contradiction | exact absurd h c_179 | exact h c_179 | exact c_179 h | exact c_179 (by decide) | exact c_179 rfl | exact absurd rfl c_179) (fun c_179 => ?_)) | refine g_if_eq (tgt := 193) (p1 := 182) dX10_does_179 rfl rfl (fun c_179 => by exfalso; first | omega | contradiction | exact absurd h c_179 | exact h c_179 | exact c_179 h | exact c_179 (by decide) | exact c_179 rfl | exact absurd rfl c_179) (fun c_179 => ?_)
  refine g_aload_n (p0 := 183) (i := 0) dX10_does_182 rfl rfl rfl ?_
  refine g_bipush (p0 := 185) (v := nI 59) dX10_does_183 (by decide) rfl ?_
  refine g_bipush (p0 := 187) (v := nI 59) dX10_does_185 (by decide) rfl ?_
  refine g_cV2R (p0 := 190) (r1 := mX10_isAt) dX10_does_187 lX10_196 vX10_isAt (by first | rfl | assumption | exact RW.s (by assumption) | exact TW.s (by assumption)) ⟨_, _, rfl⟩ (FITi rfl rfl) (Nat.le_of_ble_eq_true rfl) (isAt_T hT (e.tr hC) e.at ha (by decide) (by decide) h2 (by rw [h3]; decide)) rfl ?_
  first | ((with_reducible refine isN1 ?_); refine g_ifN_ne (tgt := 195) (p1 := 193) dX10_does_190 rfl (by omega) rfl (fun c_190 => ?_) (fun c_190 => by exfalso; first | omega | contradiction | exact absurd h c_190 | exact h c_190 | exact c_190 h | exact c_190 (by decide) | exact c_190 rfl | exact absurd rfl c_190)) | refine g_if_ne (tgt := 195) (p1 := 193) dX10_does_190 rfl rfl (fun c_190 => ?_) (fun c_190 => by exfalso; first | omega | contradiction | exact absurd h c_190 | exact h c_190 | exact c_190 h | exact c_190 (by decide) | exact c_190 rfl | exact absurd rfl c_190)
  exact k
set_option maxRecDepth 20000 in
set_option maxHeartbeats 2000000 in
theorem dxN_b {T : Nat → Nat} {len p a sg v : Nat} {σ σ1 : Sg} {Q : SP} (hT : TOK T len) (hC : TR σ T len) (e : FA σ σ1 a) (hp : p + 1 ≤ 60) (ha : a ≤ 100) (hs1 : sg ≤ 126) (h1 : p + 1 < a) (h2 : ¬ (a < len ∧ T a = 59)) (k : Q (some (ai (nI 1))) σ1) : WM mX10_does Q 147 [some (ar 79), some (ai (nI sg)), some (ai (nI (p + 1))), some (ai (nI 1)), some (ai (nI 0)), some (ai (nI (v))), none, none] [] σ1 := by
  have e23 := e.at
  refine g_iload_n (p0 := 148) (i := 3) dX10_does_147 rfl rfl rfl ?_
  first | ((with_reducible refine isN1 ?_); refine g_ifN_ne (tgt := 156) (p1 := 151) dX10_does_148 rfl (by omega) rfl (fun c_148 => ?_) (fun c_148 => by exfalso; first | omega | contradiction | exact absurd h c_148 | exact h c_148 | exact c_148 h | exact c_148 (by decide) | exact c_148 rfl | exact absurd rfl c_148)) | refine g_if_ne (tgt := 156) (p1 := 151) dX10_does_148 rfl rfl (fun c_148 => ?_) (fun c_148 => by exfalso; first | omega | contradiction | exact absurd h c_148 | exact h c_148 | exact c_148 h | exact c_148 (by decide) | exact c_148 rfl | exact absurd rfl c_148)
  refine g_aload_n (p0 := 157) (i := 0) dX10_does_156 rfl rfl rfl ?_
  refine g_getI (p0 := 160) dX10_does_157 fX10_190 (by first | rfl | assumption | exact RW.s (by assumption) | exact TW.s (by assumption)) rfl (by first | assumption | ((repeat (first | exact up_hit | refine up_nv (by decide) ?_ | refine up_mv (by first | decide | omega) ?_)) <;> first | assumption | rfl)) rfl ?_
  refine g_iload_n (p0 := 161) (i := 2) dX10_does_160 rfl rfl rfl ?_
  first | ((with_reducible refine isN2 ?_); refine g_icmpN_gt (tgt := 170) (p1 := 164) dX10_does_161 rfl (by omega) (by omega) rfl (fun c_161 => ?_) (fun c_161 => by exfalso; first | omega | contradiction | exact absurd h c_161 | exact h c_161 | exact c_161 h | exact c_161 (by decide) | exact c_161 rfl | exact absurd rfl c_161)) | refine g_icmp_gt (tgt := 170) (p1 := 164) dX10_does_161 rfl rfl (fun c_161 => ?_) (fun c_161 => by exfalso; first | omega | contradiction | exact absurd h c_161 | exact h c_161 | exact c_161 h | exact c_161 (by decide) | exact c_161 rfl | exact absurd rfl c_161)
  refine g_iconst (p0 := 171) (v := nI 1) dX10_does_170 rfl rfl ?_
  refine g_goto (tgt := 175) dX10_does_171 rfl ?_
  refine g_istore (p0 := 177) (i := 6) (ls2 := [_, _, _, _, _, _, _, _]) dX10_does_175 (Nat.le_of_ble_eq_true rfl) rfl rfl ?_
  refine g_iload (p0 := 179) dX10_does_177 rfl rfl ?_
  first | ((with_reducible refine isN1 ?_); refine g_ifN_eq (tgt := 193) (p1 := 182) dX10_does_179 rfl (by omega) rfl (fun c_179 => by exfalso; first | omega | contradiction | exact absurd h c_179 | exact h c_179 | exact c_179 h | exact c_179 (by decide) | exact c_179 rfl | exact absurd rfl c_179) (fun c_179 => ?_)) | refine g_if_eq (tgt := 193) (p1 := 182) dX10_does_179 rfl rfl (fun c_179 => by exfalso; first | omega | contradiction | exact absurd h c_179 | exact h c_179 | exact c_179 h | exact c_179 (by decide) | exact c_179 rfl | exact absurd rfl c_179) (fun c_179 => ?_)
  refine g_aload_n (p0 := 183) (i := 0) dX10_does_182 rfl rfl rfl ?_
  refine g_bipush (p0 := 185) (v := nI 59) dX10_does_183 (by decide) rfl ?_
  refine g_bipush (p0 := 187) (v := nI 59) dX10_does_185 (by decide) rfl ?_
  refine g_cV2R (p0 := 190) (r1 := mX10_isAt) dX10_does_187 lX10_196 vX10_isAt (by first | rfl | assumption | exact RW.s (by assumption) | exact TW.s (by assumption)) ⟨_, _, rfl⟩ (FITi rfl rfl) (Nat.le_of_ble_eq_true rfl) (isAt_F hT (e.tr hC) e.at ha (by decide) (by decide) (fun z => h2 ⟨z.1, by omega⟩)) rfl ?_
  first | ((with_reducible refine isN1 ?_); refine g_ifN_ne (tgt := 195) (p1 := 193) dX10_does_190 rfl (by omega) rfl (fun c_190 => by exfalso; first | omega | contradiction | exact absurd h c_190 | exact h c_190 | exact c_190 h | exact c_190 (by decide) | exact c_190 rfl | exact absurd rfl c_190) (fun c_190 => ?_)) | refine g_if_ne (tgt := 195) (p1 := 193) dX10_does_190 rfl rfl (fun c_190 => by exfalso; first | omega | contradiction | exact absurd h c_190 | exact h c_190 | exact c_190 h | exact c_190 (by decide) | exact c_190 rfl | exact absurd rfl c_190) (fun c_190 => ?_)
  refine g_iconst (p0 := 194) (v := nI 1) dX10_does_193 rfl rfl ?_
  refine g_ireturn dX10_does_194 rfl rfl (?_)
  exact k
set_option maxRecDepth 20000 in
set_option maxHeartbeats 2000000 in
theorem dxN_z {T : Nat → Nat} {len p a sg v : Nat} {σ σ1 : Sg} {Q : SP} (hT : TOK T len) (hC : TR σ T len) (e : FA σ σ1 a) (hp : p + 1 ≤ 60) (ha : a ≤ 100) (hs1 : sg ≤ 126) (h1 : a = p + 1) (h2 : ¬ sg = 47) (k : Q (some (ai (nI 1))) σ1) : WM mX10_does Q 147 [some (ar 79), some (ai (nI sg)), some (ai (nI (p + 1))), some (ai (nI 1)), some (ai (nI 0)), some (ai (nI (v))), none, none] [] σ1 := by
  have e23 := e.at
  refine g_iload_n (p0 := 148) (i := 3) dX10_does_147 rfl rfl rfl ?_
  first | ((with_reducible refine isN1 ?_); refine g_ifN_ne (tgt := 156) (p1 := 151) dX10_does_148 rfl (by omega) rfl (fun c_148 => ?_) (fun c_148 => by exfalso; first | omega | contradiction | exact absurd h c_148 | exact h c_148 | exact c_148 h | exact c_148 (by decide) | exact c_148 rfl | exact absurd rfl c_148)) | refine g_if_ne (tgt := 156) (p1 := 151) dX10_does_148 rfl rfl (fun c_148 => ?_) (fun c_148 => by exfalso; first | omega | contradiction | exact absurd h c_148 | exact h c_148 | exact c_148 h | exact c_148 (by decide) | exact c_148 rfl | exact absurd rfl c_148)
  refine g_aload_n (p0 := 157) (i := 0) dX10_does_156 rfl rfl rfl ?_
  refine g_getI (p0 := 160) dX10_does_157 fX10_190 (by first | rfl | assumption | exact RW.s (by assumption) | exact TW.s (by assumption)) rfl (by first | assumption | ((repeat (first | exact up_hit | refine up_nv (by decide) ?_ | refine up_mv (by first | decide | omega) ?_)) <;> first | assumption | rfl)) rfl ?_
  refine g_iload_n (p0 := 161) (i := 2) dX10_does_160 rfl rfl rfl ?_
  first | ((with_reducible refine isN2 ?_); refine g_icmpN_gt (tgt := 170) (p1 := 164) dX10_does_161 rfl (by omega) (by omega) rfl (fun c_161 => by exfalso; first | omega | contradiction | exact absurd h c_161 | exact h c_161 | exact c_161 h | exact c_161 (by decide) | exact c_161 rfl | exact absurd rfl c_161) (fun c_161 => ?_)) | refine g_icmp_gt (tgt := 170) (p1 := 164) dX10_does_161 rfl rfl (fun c_161 => by exfalso; first | omega | contradiction | exact absurd h c_161 | exact h c_161 | exact c_161 h | exact c_161 (by decide) | exact c_161 rfl | exact absurd rfl c_161) (fun c_161 => ?_)
  refine g_iload_n (p0 := 165) (i := 1) dX10_does_164 rfl rfl rfl ?_
  refine g_bipush (p0 := 167) (v := nI 47) dX10_does_165 (by decide) rfl ?_
  first | ((with_reducible refine isN2 ?_); refine g_icmpN_ne (tgt := 174) (p1 := 170) dX10_does_167 rfl (by omega) (by omega) rfl (fun c_167 => ?_) (fun c_167 => by exfalso; first | omega | contradiction | exact absurd h c_167 | exact h c_167 | exact c_167 h | exact c_167 (by decide) | exact c_167 rfl | exact absurd rfl c_167)) | refine g_icmp_ne (tgt := 174) (p1 := 170) dX10_does_167 rfl rfl (fun c_167 => ?_) (fun c_167 => by exfalso; first | omega | contradiction | exact absurd h c_167 | exact h c_167 | exact c_167 h | exact c_167 (by decide) | exact c_167 rfl | exact absurd rfl c_167)
  refine g_iconst (p0 := 175) (v := nI 0) dX10_does_174 rfl rfl ?_
  refine g_istore (p0 := 177) (i := 6) (ls2 := [_, _, _, _, _, _, _, _]) dX10_does_175 (Nat.le_of_ble_eq_true rfl) rfl rfl ?_
  refine g_iload (p0 := 179) dX10_does_177 rfl rfl ?_
  first | ((with_reducible refine isN1 ?_); refine g_ifN_eq (tgt := 193) (p1 := 182) dX10_does_179 rfl (by omega) rfl (fun c_179 => ?_) (fun c_179 => by exfalso; first | omega | contradiction | exact absurd h c_179 | exact h c_179 | exact c_179 h | exact c_179 (by decide) | exact c_179 rfl | exact absurd rfl c_179)) | refine g_if_eq (tgt := 193) (p1 := 182) dX10_does_179 rfl rfl (fun c_179 => ?_) (fun c_179 => by exfalso; first | omega | contradiction | exact absurd h c_179 | exact h c_179 | exact c_179 h | exact c_179 (by decide) | exact c_179 rfl | exact absurd rfl c_179)
  refine g_iconst (p0 := 194) (v := nI 1) dX10_does_193 rfl rfl ?_
  refine g_ireturn dX10_does_194 rfl rfl (?_)
  exact k
set_option maxRecDepth 20000 in
set_option maxHeartbeats 2000000 in
theorem dxL_g {T : Nat → Nat} {len p a sg v : Nat} {σ σ1 : Sg} {Q : SP} (hT : TOK T len) (hC : TR σ T len) (e : FA σ σ1 a) (hp : p + 1 ≤ 60) (ha : a ≤ 100) (hs1 : sg ≤ 126) (h1 : p + 1 < a) (h2 : a < len) (h3 : T a = 59) (k : WM mX10_does Q 195 [some (ar 79), some (ai (nI sg)), some (ai (nI (p + 1))), some (ai (nI 0)), some (ai (nI 1)), some (ai (nI (v))), some (ai (nI 1)), none] [] σ1) : WM mX10_does Q 147 [some (ar 79), some (ai (nI sg)), some (ai (nI (p + 1))), some (ai (nI 0)), some (ai (nI 1)), some (ai (nI (v))), none, none] [] σ1 := by
  have e23 := e.at
  refine g_iload_n (p0 := 148) (i := 3) dX10_does_147 rfl rfl rfl ?_
  first | ((with_reducible refine isN1 ?_); refine g_ifN_ne (tgt := 156) (p1 := 151) dX10_does_148 rfl (by omega) rfl (fun c_148 => by exfalso; first | omega | contradiction | exact absurd h c_148 | exact h c_148 | exact c_148 h | exact c_148 (by decide) | exact c_148 rfl | exact absurd rfl c_148) (fun c_148 => ?_)) | refine g_if_ne (tgt := 156) (p1 := 151) dX10_does_148 rfl rfl (fun c_148 => by exfalso; first | omega | contradiction | exact absurd h c_148 | exact h c_148 | exact c_148 h | exact c_148 (by decide) | exact c_148 rfl | exact absurd rfl c_148) (fun c_148 => ?_)
  refine g_iload (p0 := 153) dX10_does_151 rfl rfl ?_
  first | ((with_reducible refine isN1 ?_); refine g_ifN_eq (tgt := 164) (p1 := 156) dX10_does_153 rfl (by omega) rfl (fun c_153 => by exfalso; first | omega | contradiction | exact absurd h c_153 | exact h c_153 | exact c_153 h | exact c_153 (by decide) | exact c_153 rfl | exact absurd rfl c_153) (fun c_153 => ?_)) | refine g_if_eq (tgt := 164) (p1 := 156) dX10_does_153 rfl rfl (fun c_153 => by exfalso; first | omega | contradiction | exact absurd h c_153 | exact h c_153 | exact c_153 h | exact c_153 (by decide) | exact c_153 rfl | exact absurd rfl c_153) (fun c_153 => ?_)
  refine g_aload_n (p0 := 157) (i := 0) dX10_does_156 rfl rfl rfl ?_
  refine g_getI (p0 := 160) dX10_does_157 fX10_190 (by first | rfl | assumption | exact RW.s (by assumption) | exact TW.s (by assumption)) rfl (by first | assumption | ((repeat (first | exact up_hit | refine up_nv (by decide) ?_ | refine up_mv (by first | decide | omega) ?_)) <;> first | assumption | rfl)) rfl ?_
  refine g_iload_n (p0 := 161) (i := 2) dX10_does_160 rfl rfl rfl ?_
  first | ((with_reducible refine isN2 ?_); refine g_icmpN_gt (tgt := 170) (p1 := 164) dX10_does_161 rfl (by omega) (by omega) rfl (fun c_161 => ?_) (fun c_161 => by exfalso; first | omega | contradiction | exact absurd h c_161 | exact h c_161 | exact c_161 h | exact c_161 (by decide) | exact c_161 rfl | exact absurd rfl c_161)) | refine g_icmp_gt (tgt := 170) (p1 := 164) dX10_does_161 rfl rfl (fun c_161 => ?_) (fun c_161 => by exfalso; first | omega | contradiction | exact absurd h c_161 | exact h c_161 | exact c_161 h | exact c_161 (by decide) | exact c_161 rfl | exact absurd rfl c_161)
  refine g_iconst (p0 := 171) (v := nI 1) dX10_does_170 rfl rfl ?_
  refine g_goto (tgt := 175) dX10_does_171 rfl ?_
  refine g_istore (p0 := 177) (i := 6) (ls2 := [_, _, _, _, _, _, _, _]) dX10_does_175 (Nat.le_of_ble_eq_true rfl) rfl rfl ?_
  refine g_iload (p0 := 179) dX10_does_177 rfl rfl ?_
  first | ((with_reducible refine isN1 ?_); refine g_ifN_eq (tgt := 193) (p1 := 182) dX10_does_179 rfl (by omega) rfl (fun c_179 => by exfalso; first | omega | contradiction | exact absurd h c_179 | exact h c_179 | exact c_179 h | exact c_179 (by decide) | exact c_179 rfl | exact absurd rfl c_179) (fun c_179 => ?_)) | refine g_if_eq (tgt := 193) (p1 := 182) dX10_does_179 rfl rfl (fun c_179 => by exfalso; first | omega | contradiction | exact absurd h c_179 | exact h c_179 | exact c_179 h | exact c_179 (by decide) | exact c_179 rfl | exact absurd rfl c_179) (fun c_179 => ?_)
  refine g_aload_n (p0 := 183) (i := 0) dX10_does_182 rfl rfl rfl ?_
  refine g_bipush (p0 := 185) (v := nI 59) dX10_does_183 (by decide) rfl ?_
  refine g_bipush (p0 := 187) (v := nI 59) dX10_does_185 (by decide) rfl ?_
  refine g_cV2R (p0 := 190) (r1 := mX10_isAt) dX10_does_187 lX10_196 vX10_isAt (by first | rfl | assumption | exact RW.s (by assumption) | exact TW.s (by assumption)) ⟨_, _, rfl⟩ (FITi rfl rfl) (Nat.le_of_ble_eq_true rfl) (isAt_T hT (e.tr hC) e.at ha (by decide) (by decide) h2 (by rw [h3]; decide)) rfl ?_
  first | ((with_reducible refine isN1 ?_); refine g_ifN_ne (tgt := 195) (p1 := 193) dX10_does_190 rfl (by omega) rfl (fun c_190 => ?_) (fun c_190 => by exfalso; first | omega | contradiction | exact absurd h c_190 | exact h c_190 | exact c_190 h | exact c_190 (by decide) | exact c_190 rfl | exact absurd rfl c_190)) | refine g_if_ne (tgt := 195) (p1 := 193) dX10_does_190 rfl rfl (fun c_190 => ?_) (fun c_190 => by exfalso; first | omega | contradiction | exact absurd h c_190 | exact h c_190 | exact c_190 h | exact c_190 (by decide) | exact c_190 rfl | exact absurd rfl c_190)
  exact k
set_option maxRecDepth 20000 in
set_option maxHeartbeats 2000000 in
theorem dxL_b {T : Nat → Nat} {len p a sg v : Nat} {σ σ1 : Sg} {Q : SP} (hT : TOK T len) (hC : TR σ T len) (e : FA σ σ1 a) (hp : p + 1 ≤ 60) (ha : a ≤ 100) (hs1 : sg ≤ 126) (h1 : p + 1 < a) (h2 : ¬ (a < len ∧ T a = 59)) (k : Q (some (ai (nI 1))) σ1) : WM mX10_does Q 147 [some (ar 79), some (ai (nI sg)), some (ai (nI (p + 1))), some (ai (nI 0)), some (ai (nI 1)), some (ai (nI (v))), none, none] [] σ1 := by
  have e23 := e.at
  refine g_iload_n (p0 := 148) (i := 3) dX10_does_147 rfl rfl rfl ?_
  first | ((with_reducible refine isN1 ?_); refine g_ifN_ne (tgt := 156) (p1 := 151) dX10_does_148 rfl (by omega) rfl (fun c_148 => by exfalso; first | omega | contradiction | exact absurd h c_148 | exact h c_148 | exact c_148 h | exact c_148 (by decide) | exact c_148 rfl | exact absurd rfl c_148) (fun c_148 => ?_)) | refine g_if_ne (tgt := 156) (p1 := 151) dX10_does_148 rfl rfl (fun c_148 => by exfalso; first | omega | contradiction | exact absurd h c_148 | exact h c_148 | exact c_148 h | exact c_148 (by decide) | exact c_148 rfl | exact absurd rfl c_148) (fun c_148 => ?_)
  refine g_iload (p0 := 153) dX10_does_151 rfl rfl ?_
  first | ((with_reducible refine isN1 ?_); refine g_ifN_eq (tgt := 164) (p1 := 156) dX10_does_153 rfl (by omega) rfl (fun c_153 => by exfalso; first | omega | contradiction | exact absurd h c_153 | exact h c_153 | exact c_153 h | exact c_153 (by decide) | exact c_153 rfl | exact absurd rfl c_153) (fun c_153 => ?_)) | refine g_if_eq (tgt := 164) (p1 := 156) dX10_does_153 rfl rfl (fun c_153 => by exfalso; first | omega | contradiction | exact absurd h c_153 | exact h c_153 | exact c_153 h | exact c_153 (by decide) | exact c_153 rfl | exact absurd rfl c_153) (fun c_153 => ?_)
  refine g_aload_n (p0 := 157) (i := 0) dX10_does_156 rfl rfl rfl ?_
  refine g_getI (p0 := 160) dX10_does_157 fX10_190 (by first | rfl | assumption | exact RW.s (by assumption) | exact TW.s (by assumption)) rfl (by first | assumption | ((repeat (first | exact up_hit | refine up_nv (by decide) ?_ | refine up_mv (by first | decide | omega) ?_)) <;> first | assumption | rfl)) rfl ?_
  refine g_iload_n (p0 := 161) (i := 2) dX10_does_160 rfl rfl rfl ?_
  first | ((with_reducible refine isN2 ?_); refine g_icmpN_gt (tgt := 170) (p1 := 164) dX10_does_161 rfl (by omega) (by omega) rfl (fun c_161 => ?_) (fun c_161 => by exfalso; first | omega | contradiction | exact absurd h c_161 | exact h c_161 | exact c_161 h | exact c_161 (by decide) | exact c_161 rfl | exact absurd rfl c_161)) | refine g_icmp_gt (tgt := 170) (p1 := 164) dX10_does_161 rfl rfl (fun c_161 => ?_) (fun c_161 => by exfalso; first | omega | contradiction | exact absurd h c_161 | exact h c_161 | exact c_161 h | exact c_161 (by decide) | exact c_161 rfl | exact absurd rfl c_161)
  refine g_iconst (p0 := 171) (v := nI 1) dX10_does_170 rfl rfl ?_
  refine g_goto (tgt := 175) dX10_does_171 rfl ?_
  refine g_istore (p0 := 177) (i := 6) (ls2 := [_, _, _, _, _, _, _, _]) dX10_does_175 (Nat.le_of_ble_eq_true rfl) rfl rfl ?_
  refine g_iload (p0 := 179) dX10_does_177 rfl rfl ?_
  first | ((with_reducible refine isN1 ?_); refine g_ifN_eq (tgt := 193) (p1 := 182) dX10_does_179 rfl (by omega) rfl (fun c_179 => by exfalso; first | omega | contradiction | exact absurd h c_179 | exact h c_179 | exact c_179 h | exact c_179 (by decide) | exact c_179 rfl | exact absurd rfl c_179) (fun c_179 => ?_)) | refine g_if_eq (tgt := 193) (p1 := 182) dX10_does_179 rfl rfl (fun c_179 => by exfalso; first | omega | contradiction | exact absurd h c_179 | exact h c_179 | exact c_179 h | exact c_179 (by decide) | exact c_179 rfl | exact absurd rfl c_179) (fun c_179 => ?_)
  refine g_aload_n (p0 := 183) (i := 0) dX10_does_182 rfl rfl rfl ?_
  refine g_bipush (p0 := 185) (v := nI 59) dX10_does_183 (by decide) rfl ?_
  refine g_bipush (p0 := 187) (v := nI 59) dX10_does_185 (by decide) rfl ?_
  refine g_cV2R (p0 := 190) (r1 := mX10_isAt) dX10_does_187 lX10_196 vX10_isAt (by first | rfl | assumption | exact RW.s (by assumption) | exact TW.s (by assumption)) ⟨_, _, rfl⟩ (FITi rfl rfl) (Nat.le_of_ble_eq_true rfl) (isAt_F hT (e.tr hC) e.at ha (by decide) (by decide) (fun z => h2 ⟨z.1, by omega⟩)) rfl ?_
  first | ((with_reducible refine isN1 ?_); refine g_ifN_ne (tgt := 195) (p1 := 193) dX10_does_190 rfl (by omega) rfl (fun c_190 => by exfalso; first | omega | contradiction | exact absurd h c_190 | exact h c_190 | exact c_190 h | exact c_190 (by decide) | exact c_190 rfl | exact absurd rfl c_190) (fun c_190 => ?_)) | refine g_if_ne (tgt := 195) (p1 := 193) dX10_does_190 rfl rfl (fun c_190 => by exfalso; first | omega | contradiction | exact absurd h c_190 | exact h c_190 | exact c_190 h | exact c_190 (by decide) | exact c_190 rfl | exact absurd rfl c_190) (fun c_190 => ?_)
  refine g_iconst (p0 := 194) (v := nI 1) dX10_does_193 rfl rfl ?_
  refine g_ireturn dX10_does_194 rfl rfl (?_)
  exact k
set_option maxRecDepth 20000 in
set_option maxHeartbeats 2000000 in
theorem dxL_z {T : Nat → Nat} {len p a sg v : Nat} {σ σ1 : Sg} {Q : SP} (hT : TOK T len) (hC : TR σ T len) (e : FA σ σ1 a) (hp : p + 1 ≤ 60) (ha : a ≤ 100) (hs1 : sg ≤ 126) (h1 : a = p + 1) (h2 : ¬ sg = 47) (k : Q (some (ai (nI 1))) σ1) : WM mX10_does Q 147 [some (ar 79), some (ai (nI sg)), some (ai (nI (p + 1))), some (ai (nI 0)), some (ai (nI 1)), some (ai (nI (v))), none, none] [] σ1 := by
  have e23 := e.at
  refine g_iload_n (p0 := 148) (i := 3) dX10_does_147 rfl rfl rfl ?_
  first | ((with_reducible refine isN1 ?_); refine g_ifN_ne (tgt := 156) (p1 := 151) dX10_does_148 rfl (by omega) rfl (fun c_148 => by exfalso; first | omega | contradiction | exact absurd h c_148 | exact h c_148 | exact c_148 h | exact c_148 (by decide) | exact c_148 rfl | exact absurd rfl c_148) (fun c_148 => ?_)) | refine g_if_ne (tgt := 156) (p1 := 151) dX10_does_148 rfl rfl (fun c_148 => by exfalso; first | omega | contradiction | exact absurd h c_148 | exact h c_148 | exact c_148 h | exact c_148 (by decide) | exact c_148 rfl | exact absurd rfl c_148) (fun c_148 => ?_)
  refine g_iload (p0 := 153) dX10_does_151 rfl rfl ?_
  first | ((with_reducible refine isN1 ?_); refine g_ifN_eq (tgt := 164) (p1 := 156) dX10_does_153 rfl (by omega) rfl (fun c_153 => by exfalso; first | omega | contradiction | exact absurd h c_153 | exact h c_153 | exact c_153 h | exact c_153 (by decide) | exact c_153 rfl | exact absurd rfl c_153) (fun c_153 => ?_)) | refine g_if_eq (tgt := 164) (p1 := 156) dX10_does_153 rfl rfl (fun c_153 => by exfalso; first | omega | contradiction | exact absurd h c_153 | exact h c_153 | exact c_153 h | exact c_153 (by decide) | exact c_153 rfl | exact absurd rfl c_153) (fun c_153 => ?_)
  refine g_aload_n (p0 := 157) (i := 0) dX10_does_156 rfl rfl rfl ?_
  refine g_getI (p0 := 160) dX10_does_157 fX10_190 (by first | rfl | assumption | exact RW.s (by assumption) | exact TW.s (by assumption)) rfl (by first | assumption | ((repeat (first | exact up_hit | refine up_nv (by decide) ?_ | refine up_mv (by first | decide | omega) ?_)) <;> first | assumption | rfl)) rfl ?_
  refine g_iload_n (p0 := 161) (i := 2) dX10_does_160 rfl rfl rfl ?_
  first | ((with_reducible refine isN2 ?_); refine g_icmpN_gt (tgt := 170) (p1 := 164) dX10_does_161 rfl (by omega) (by omega) rfl (fun c_161 => by exfalso; first | omega | contradiction | exact absurd h c_161 | exact h c_161 | exact c_161 h | exact c_161 (by decide) | exact c_161 rfl | exact absurd rfl c_161) (fun c_161 => ?_)) | refine g_icmp_gt (tgt := 170) (p1 := 164) dX10_does_161 rfl rfl (fun c_161 => by exfalso; first | omega | contradiction | exact absurd h c_161 | exact h c_161 | exact c_161 h | exact c_161 (by decide) | exact c_161 rfl | exact absurd rfl c_161) (fun c_161 => ?_)
  refine g_iload_n (p0 := 165) (i := 1) dX10_does_164 rfl rfl rfl ?_
  refine g_bipush (p0 := 167) (v := nI 47) dX10_does_165 (by decide) rfl ?_
  first | ((with_reducible refine isN2 ?_); refine g_icmpN_ne (tgt := 174) (p1 := 170) dX10_does_167 rfl (by omega) (by omega) rfl (fun c_167 => ?_) (fun c_167 => by exfalso; first | omega | contradiction | exact absurd h c_167 | exact h c_167 | exact c_167 h | exact c_167 (by decide) | exact c_167 rfl | exact absurd rfl c_167)) | refine g_icmp_ne (tgt := 174) (p1 := 170) dX10_does_167 rfl rfl (fun c_167 => ?_) (fun c_167 => by exfalso; first | omega | contradiction | exact absurd h c_167 | exact h c_167 | exact c_167 h | exact c_167 (by decide) | exact c_167 rfl | exact absurd rfl c_167)
  refine g_iconst (p0 := 175) (v := nI 0) dX10_does_174 rfl rfl ?_
  refine g_istore (p0 := 177) (i := 6) (ls2 := [_, _, _, _, _, _, _, _]) dX10_does_175 (Nat.le_of_ble_eq_true rfl) rfl rfl ?_
  refine g_iload (p0 := 179) dX10_does_177 rfl rfl ?_
  first | ((with_reducible refine isN1 ?_); refine g_ifN_eq (tgt := 193) (p1 := 182) dX10_does_179 rfl (by omega) rfl (fun c_179 => ?_) (fun c_179 => by exfalso; first | omega | contradiction | exact absurd h c_179 | exact h c_179 | exact c_179 h | exact c_179 (by decide) | exact c_179 rfl | exact absurd rfl c_179)) | refine g_if_eq (tgt := 193) (p1 := 182) dX10_does_179 rfl rfl (fun c_179 => ?_) (fun c_179 => by exfalso; first | omega | contradiction | exact absurd h c_179 | exact h c_179 | exact c_179 h | exact c_179 (by decide) | exact c_179 rfl | exact absurd rfl c_179)
  refine g_iconst (p0 := 194) (v := nI 1) dX10_does_193 rfl rfl ?_
  refine g_ireturn dX10_does_194 rfl rfl (?_)
  exact k
set_option maxRecDepth 20000 in
set_option maxHeartbeats 2000000 in
theorem dN_l {T : Nat → Nat} {len p sg : Nat} {σ : Sg} {Q : SP} (hT : TOK T len) (hC : TR σ T len) (hp : p < len) (hs1 : sg ≤ 126) (hs47 : ¬ sg = 47) (kg : ∀ e0 σ1, e0 < len → T e0 = 59 → NUM T p e0 → FA σ σ1 e0 → WM mX10_does Q 195 [some (ar 79), some (ai (nI sg)), some (ai (nI (p + 1))), some (ai (nI 1)), some (ai (nI 0)), some (ai (nI (numV T p (e0 - p - 1)))), some (ai (nI 1)), none] [] σ1) (kb : ¬ (∃ e, e < len ∧ T e = 59 ∧ NUM T p e) → ∀ σ1 a, FA σ σ1 a → Q (some (ai (nI 1))) σ1) : ∀ q k, k + q = 4 → p + 1 + k ≤ len → (∀ i, p < i → i < p + 1 + k → 48 ≤ T i ∧ T i ≤ 57) → ∀ σ1, FA σ σ1 (p + 1 + k) → WM mX10_does Q 65 [some (ar 79), some (ai (nI sg)), some (ai (nI (p + 1))), some (ai (nI 1)), some (ai (nI 0)), some (ai (nI (numV T p k))), none, none] [] σ1 := by
  have hl := hT.1
  have stop : ∀ k, k ≤ 4 → p + 1 + k ≤ len → (∀ i, p < i → i < p + 1 + k → 48 ≤ T i ∧ T i ≤ 57) → (k = 4 ∨ ¬ (p + 1 + k < len ∧ 48 ≤ T (p + 1 + k) ∧ T (p + 1 + k) ≤ 57)) → ∀ σ1, FA σ σ1 (p + 1 + k) → WM mX10_does Q 147 [some (ar 79), some (ai (nI sg)), some (ai (nI (p + 1))), some (ai (nI 1)), some (ai (nI 0)), some (ai (nI (numV T p k))), none, none] [] σ1 := by
    intro k hk hkl hall hstop σ1 e
    by_cases hk0 : k = 0
    · refine dxN_z hT hC e (by omega) (by omega) hs1 (by omega) hs47 (kb (fun z => ?_) σ1 _ e)
      obtain ⟨e0, z1, z2, z3, z4, z5⟩ := z
      have z6 := z5 (p + 1) (by omega) (by omega)
      subst hk0
      rcases hstop with h | h
      · omega
      · exact h ⟨by omega, z6⟩
    · by_cases hg : p + 1 + k < len ∧ T (p + 1 + k) = 59
      · have hn : NUM T p (p + 1 + k) := ⟨by omega, by omega, hall⟩
        have h := kg (p + 1 + k) σ1 hg.1 hg.2 hn e
        rw [show p + 1 + k - p - 1 = k by omega] at h
        exact dxN_g hT hC e (by omega) (by omega) hs1 (by omega) hg.1 hg.2 h
      · refine dxN_b hT hC e (by omega) (by omega) hs1 (by omega) hg (kb (fun z => ?_) σ1 _ e)
        obtain ⟨e0, z1, z2, z3, z4, z5⟩ := z
        by_cases h1 : e0 < p + 1 + k
        · have := hall e0 (by omega) h1
          omega
        · by_cases h2 : e0 = p + 1 + k
          · rw [h2] at z1 z2
            exact hg ⟨z1, z2⟩
          · have z6 := z5 (p + 1 + k) (by omega) (by omega)
            rcases hstop with h | h
            · omega
            · exact h ⟨by omega, z6⟩
  intro q
  induction q with
  | zero =>
    intro k hk hkl hall σ1 e
    have e23 := e.at
    have h147 := stop k (by omega) hkl hall (Or.inl (by omega)) σ1 e
    by_cases hd : p + 1 + k < len ∧ 48 ≤ T (p + 1 + k) ∧ T (p + 1 + k) ≤ 57
    · obtain ⟨hd1, hd2⟩ := hd
      refine g_iload_n (p0 := 66) (i := 3) dX10_does_65 rfl rfl rfl ?_
      first | ((with_reducible refine isN1 ?_); refine g_ifN_eq (tgt := 90) (p1 := 69) dX10_does_66 rfl (by omega) rfl (fun c_66 => by exfalso; first | omega | contradiction | exact absurd h c_66 | exact h c_66 | exact c_66 h | exact c_66 (by decide) | exact c_66 rfl | exact absurd rfl c_66) (fun c_66 => ?_)) | refine g_if_eq (tgt := 90) (p1 := 69) dX10_does_66 rfl rfl (fun c_66 => by exfalso; first | omega | contradiction | exact absurd h c_66 | exact h c_66 | exact c_66 h | exact c_66 (by decide) | exact c_66 rfl | exact absurd rfl c_66) (fun c_66 => ?_)
      refine g_aload_n (p0 := 70) (i := 0) dX10_does_69 rfl rfl rfl ?_
      refine g_bipush (p0 := 72) (v := nI 48) dX10_does_70 (by decide) rfl ?_
      refine g_bipush (p0 := 74) (v := nI 57) dX10_does_72 (by decide) rfl ?_
      refine g_cV2R (p0 := 77) (r1 := mX10_isAt) dX10_does_74 lX10_196 vX10_isAt (by first | rfl | assumption | exact RW.s (by assumption) | exact TW.s (by assumption)) ⟨_, _, rfl⟩ (FITi rfl rfl) (Nat.le_of_ble_eq_true rfl) (isAt_T hT (e.tr hC) e.at (by omega) (by decide) (by decide) (by omega) hd2) rfl ?_
      first | ((with_reducible refine isN1 ?_); refine g_ifN_eq (tgt := 90) (p1 := 80) dX10_does_77 rfl (by omega) rfl (fun c_77 => by exfalso; first | omega | contradiction | exact absurd h c_77 | exact h c_77 | exact c_77 h | exact c_77 (by decide) | exact c_77 rfl | exact absurd rfl c_77) (fun c_77 => ?_)) | refine g_if_eq (tgt := 90) (p1 := 80) dX10_does_77 rfl rfl (fun c_77 => by exfalso; first | omega | contradiction | exact absurd h c_77 | exact h c_77 | exact c_77 h | exact c_77 (by decide) | exact c_77 rfl | exact absurd rfl c_77) (fun c_77 => ?_)
      refine g_aload_n (p0 := 81) (i := 0) dX10_does_80 rfl rfl rfl ?_
      refine g_getI (p0 := 84) dX10_does_81 fX10_190 (by first | rfl | assumption | exact RW.s (by assumption) | exact TW.s (by assumption)) rfl (by first | assumption | ((repeat (first | exact up_hit | refine up_nv (by decide) ?_ | refine up_mv (by first | decide | omega) ?_)) <;> first | assumption | rfl)) rfl ?_
      refine g_iload_n (p0 := 85) (i := 2) dX10_does_84 rfl rfl rfl ?_
      first | ((with_reducible refine isN2 ?_); refine g_isubN (p0 := 86) dX10_does_85 (by omega) rfl ?_) | refine g_isub (p0 := 86) dX10_does_85 rfl ?_
      refine g_iconst (p0 := 87) (v := nI 4) dX10_does_86 rfl rfl ?_
      first | ((with_reducible refine isN2 ?_); refine g_icmpN_lt (tgt := 106) (p1 := 90) dX10_does_87 rfl (by omega) (by omega) rfl (fun c_87 => by exfalso; first | omega | contradiction | exact absurd h c_87 | exact h c_87 | exact c_87 h | exact c_87 (by decide) | exact c_87 rfl | exact absurd rfl c_87) (fun c_87 => ?_)) | refine g_icmp_lt (tgt := 106) (p1 := 90) dX10_does_87 rfl rfl (fun c_87 => by exfalso; first | omega | contradiction | exact absurd h c_87 | exact h c_87 | exact c_87 h | exact c_87 (by decide) | exact c_87 rfl | exact absurd rfl c_87) (fun c_87 => ?_)
      refine g_iload (p0 := 92) dX10_does_90 rfl rfl ?_
      first | ((with_reducible refine isN1 ?_); refine g_ifN_eq (tgt := 147) (p1 := 95) dX10_does_92 rfl (by omega) rfl (fun c_92 => ?_) (fun c_92 => by exfalso; first | omega | contradiction | exact absurd h c_92 | exact h c_92 | exact c_92 h | exact c_92 (by decide) | exact c_92 rfl | exact absurd rfl c_92)) | refine g_if_eq (tgt := 147) (p1 := 95) dX10_does_92 rfl rfl (fun c_92 => ?_) (fun c_92 => by exfalso; first | omega | contradiction | exact absurd h c_92 | exact h c_92 | exact c_92 h | exact c_92 (by decide) | exact c_92 rfl | exact absurd rfl c_92)
      exact h147
    · refine g_iload_n (p0 := 66) (i := 3) dX10_does_65 rfl rfl rfl ?_
      first | ((with_reducible refine isN1 ?_); refine g_ifN_eq (tgt := 90) (p1 := 69) dX10_does_66 rfl (by omega) rfl (fun c_66 => by exfalso; first | omega | contradiction | exact absurd h c_66 | exact h c_66 | exact c_66 h | exact c_66 (by decide) | exact c_66 rfl | exact absurd rfl c_66) (fun c_66 => ?_)) | refine g_if_eq (tgt := 90) (p1 := 69) dX10_does_66 rfl rfl (fun c_66 => by exfalso; first | omega | contradiction | exact absurd h c_66 | exact h c_66 | exact c_66 h | exact c_66 (by decide) | exact c_66 rfl | exact absurd rfl c_66) (fun c_66 => ?_)
      refine g_aload_n (p0 := 70) (i := 0) dX10_does_69 rfl rfl rfl ?_
      refine g_bipush (p0 := 72) (v := nI 48) dX10_does_70 (by decide) rfl ?_
      refine g_bipush (p0 := 74) (v := nI 57) dX10_does_72 (by decide) rfl ?_
      refine g_cV2R (p0 := 77) (r1 := mX10_isAt) dX10_does_74 lX10_196 vX10_isAt (by first | rfl | assumption | exact RW.s (by assumption) | exact TW.s (by assumption)) ⟨_, _, rfl⟩ (FITi rfl rfl) (Nat.le_of_ble_eq_true rfl) (isAt_F hT (e.tr hC) e.at (by omega) (by decide) (by decide) hd) rfl ?_
      first | ((with_reducible refine isN1 ?_); refine g_ifN_eq (tgt := 90) (p1 := 80) dX10_does_77 rfl (by omega) rfl (fun c_77 => ?_) (fun c_77 => by exfalso; first | omega | contradiction | exact absurd h c_77 | exact h c_77 | exact c_77 h | exact c_77 (by decide) | exact c_77 rfl | exact absurd rfl c_77)) | refine g_if_eq (tgt := 90) (p1 := 80) dX10_does_77 rfl rfl (fun c_77 => ?_) (fun c_77 => by exfalso; first | omega | contradiction | exact absurd h c_77 | exact h c_77 | exact c_77 h | exact c_77 (by decide) | exact c_77 rfl | exact absurd rfl c_77)
      refine g_iload (p0 := 92) dX10_does_90 rfl rfl ?_
      first | ((with_reducible refine isN1 ?_); refine g_ifN_eq (tgt := 147) (p1 := 95) dX10_does_92 rfl (by omega) rfl (fun c_92 => ?_) (fun c_92 => by exfalso; first | omega | contradiction | exact absurd h c_92 | exact h c_92 | exact c_92 h | exact c_92 (by decide) | exact c_92 rfl | exact absurd rfl c_92)) | refine g_if_eq (tgt := 147) (p1 := 95) dX10_does_92 rfl rfl (fun c_92 => ?_) (fun c_92 => by exfalso; first | omega | contradiction | exact absurd h c_92 | exact h c_92 | exact c_92 h | exact c_92 (by decide) | exact c_92 rfl | exact absurd rfl c_92)
      exact h147
  | succ q ih =>
    intro k hk hkl hall σ1 e
    have e23 := e.at
    by_cases hd : p + 1 + k < len ∧ 48 ≤ T (p + 1 + k) ∧ T (p + 1 + k) ≤ 57
    · obtain ⟨hd1, hd2⟩ := hd
      have h9 := numV_4 (T := T) (p := p) (k := k) (by omega) hall
      have e83 := (e.tr hC).2 (p + 1 + k) hd1
      have hti := hT.2 (p + 1 + k) hd1
      have ev : 10 * numV T p k + T (p + 1 + k) - 48 = numV T p (k + 1) := by
        rw [numV]
        omega
      refine g_iload_n (p0 := 66) (i := 3) dX10_does_65 rfl rfl rfl ?_
      first | ((with_reducible refine isN1 ?_); refine g_ifN_eq (tgt := 90) (p1 := 69) dX10_does_66 rfl (by omega) rfl (fun c_66 => by exfalso; first | omega | contradiction | exact absurd h c_66 | exact h c_66 | exact c_66 h | exact c_66 (by decide) | exact c_66 rfl | exact absurd rfl c_66) (fun c_66 => ?_)) | refine g_if_eq (tgt := 90) (p1 := 69) dX10_does_66 rfl rfl (fun c_66 => by exfalso; first | omega | contradiction | exact absurd h c_66 | exact h c_66 | exact c_66 h | exact c_66 (by decide) | exact c_66 rfl | exact absurd rfl c_66) (fun c_66 => ?_)
      refine g_aload_n (p0 := 70) (i := 0) dX10_does_69 rfl rfl rfl ?_
      refine g_bipush (p0 := 72) (v := nI 48) dX10_does_70 (by decide) rfl ?_
      refine g_bipush (p0 := 74) (v := nI 57) dX10_does_72 (by decide) rfl ?_
      refine g_cV2R (p0 := 77) (r1 := mX10_isAt) dX10_does_74 lX10_196 vX10_isAt (by first | rfl | assumption | exact RW.s (by assumption) | exact TW.s (by assumption)) ⟨_, _, rfl⟩ (FITi rfl rfl) (Nat.le_of_ble_eq_true rfl) (isAt_T hT (e.tr hC) e.at (by omega) (by decide) (by decide) (by omega) hd2) rfl ?_
      first | ((with_reducible refine isN1 ?_); refine g_ifN_eq (tgt := 90) (p1 := 80) dX10_does_77 rfl (by omega) rfl (fun c_77 => by exfalso; first | omega | contradiction | exact absurd h c_77 | exact h c_77 | exact c_77 h | exact c_77 (by decide) | exact c_77 rfl | exact absurd rfl c_77) (fun c_77 => ?_)) | refine g_if_eq (tgt := 90) (p1 := 80) dX10_does_77 rfl rfl (fun c_77 => by exfalso; first | omega | contradiction | exact absurd h c_77 | exact h c_77 | exact c_77 h | exact c_77 (by decide) | exact c_77 rfl | exact absurd rfl c_77) (fun c_77 => ?_)
      refine g_aload_n (p0 := 81) (i := 0) dX10_does_80 rfl rfl rfl ?_
      refine g_getI (p0 := 84) dX10_does_81 fX10_190 (by first | rfl | assumption | exact RW.s (by assumption) | exact TW.s (by assumption)) rfl (by first | assumption | ((repeat (first | exact up_hit | refine up_nv (by decide) ?_ | refine up_mv (by first | decide | omega) ?_)) <;> first | assumption | rfl)) rfl ?_
      refine g_iload_n (p0 := 85) (i := 2) dX10_does_84 rfl rfl rfl ?_
      first | ((with_reducible refine isN2 ?_); refine g_isubN (p0 := 86) dX10_does_85 (by omega) rfl ?_) | refine g_isub (p0 := 86) dX10_does_85 rfl ?_
      refine g_iconst (p0 := 87) (v := nI 4) dX10_does_86 rfl rfl ?_
      first | ((with_reducible refine isN2 ?_); refine g_icmpN_lt (tgt := 106) (p1 := 90) dX10_does_87 rfl (by omega) (by omega) rfl (fun c_87 => ?_) (fun c_87 => by exfalso; first | omega | contradiction | exact absurd h c_87 | exact h c_87 | exact c_87 h | exact c_87 (by decide) | exact c_87 rfl | exact absurd rfl c_87)) | refine g_icmp_lt (tgt := 106) (p1 := 90) dX10_does_87 rfl rfl (fun c_87 => ?_) (fun c_87 => by exfalso; first | omega | contradiction | exact absurd h c_87 | exact h c_87 | exact c_87 h | exact c_87 (by decide) | exact c_87 rfl | exact absurd rfl c_87)
      refine g_iload_n (p0 := 107) (i := 3) dX10_does_106 rfl rfl rfl ?_
      first | ((with_reducible refine isN1 ?_); refine g_ifN_eq (tgt := 131) (p1 := 110) dX10_does_107 rfl (by omega) rfl (fun c_107 => by exfalso; first | omega | contradiction | exact absurd h c_107 | exact h c_107 | exact c_107 h | exact c_107 (by decide) | exact c_107 rfl | exact absurd rfl c_107) (fun c_107 => ?_)) | refine g_if_eq (tgt := 131) (p1 := 110) dX10_does_107 rfl rfl (fun c_107 => by exfalso; first | omega | contradiction | exact absurd h c_107 | exact h c_107 | exact c_107 h | exact c_107 (by decide) | exact c_107 rfl | exact absurd rfl c_107) (fun c_107 => ?_)
      refine g_bipush (p0 := 112) (v := nI 10) dX10_does_110 (by decide) rfl ?_
      refine g_iload (p0 := 114) dX10_does_112 rfl rfl ?_
      first | ((with_reducible refine isN2 ?_); refine g_imulN (p0 := 115) dX10_does_114 rfl ?_) | refine g_imul (p0 := 115) dX10_does_114 rfl ?_
      refine g_aload_n (p0 := 116) (i := 0) dX10_does_115 rfl rfl rfl ?_
      refine g_getR (p0 := 119) dX10_does_116 fX10_19 (by first | rfl | assumption | exact RW.s (by assumption) | exact TW.s (by assumption)) rfl rfl ?_
      refine g_aload_n (p0 := 120) (i := 0) dX10_does_119 rfl rfl rfl ?_
      refine g_getI (p0 := 123) dX10_does_120 fX10_190 (by first | rfl | assumption | exact RW.s (by assumption) | exact TW.s (by assumption)) rfl (by first | assumption | ((repeat (first | exact up_hit | refine up_nv (by decide) ?_ | refine up_mv (by first | decide | omega) ?_)) <;> first | assumption | rfl)) rfl ?_
      first | ((with_reducible refine isN1 ?_); refine g_aldN (p0 := 124) dX10_does_123 (by first | rfl | assumption | exact RW.s (by assumption) | exact TW.s (by assumption)) (by first | decide | assumption) (by omega) (by first | assumption | ((repeat (first | exact up_hit | refine up_nv (by decide) ?_ | refine up_mv (by first | decide | omega) ?_)) <;> first | assumption | rfl)) rfl ?_) | refine g_ald (p0 := 124) dX10_does_123 (by first | rfl | assumption | exact RW.s (by assumption) | exact TW.s (by assumption)) (by assumption) (by first | assumption | ((repeat (first | exact up_hit | refine up_nv (by decide) ?_ | refine up_mv (by first | decide | omega) ?_)) <;> first | assumption | rfl)) rfl ?_
      first | ((with_reducible refine isN2 ?_); refine g_iaddN (p0 := 125) dX10_does_124 rfl ?_) | refine g_iadd (p0 := 125) dX10_does_124 rfl ?_
      refine g_bipush (p0 := 127) (v := nI 48) dX10_does_125 (by decide) rfl ?_
      first | ((with_reducible refine isN2 ?_); refine g_isubN (p0 := 128) dX10_does_127 (by omega) rfl ?_) | refine g_isub (p0 := 128) dX10_does_127 rfl ?_
      rw [ev]
      refine g_goto (tgt := 132) dX10_does_128 rfl ?_
      refine g_istore (p0 := 134) (i := 5) (ls2 := [_, _, _, _, _, _, _, _]) dX10_does_132 (Nat.le_of_ble_eq_true rfl) rfl rfl ?_
      refine g_aload_n (p0 := 135) (i := 0) dX10_does_134 rfl rfl rfl ?_
      refine g_dup (p0 := 136) dX10_does_135 rfl ?_
      refine g_getI (p0 := 139) dX10_does_136 fX10_190 (by first | rfl | assumption | exact RW.s (by assumption) | exact TW.s (by assumption)) rfl (by first | assumption | ((repeat (first | exact up_hit | refine up_nv (by decide) ?_ | refine up_mv (by first | decide | omega) ?_)) <;> first | assumption | rfl)) rfl ?_
      refine g_iconst (p0 := 140) (v := nI 1) dX10_does_139 rfl rfl ?_
      first | ((with_reducible refine isN2 ?_); refine g_iaddN (p0 := 141) dX10_does_140 rfl ?_) | refine g_iadd (p0 := 141) dX10_does_140 rfl ?_
      refine g_put (p0 := 144) dX10_does_141 fX10_190 (by first | rfl | assumption | exact RW.s (by assumption) | exact TW.s (by assumption)) rfl nX10_23 (pX10_23 _) rfl ?_
      refine g_goto (tgt := 65) dX10_does_144 rfl ?_
      refine ih (k + 1) (by omega) (by omega) (fun i h1 h2 => ?_) _ e.up
      by_cases hj : i = p + 1 + k
      · rw [hj]; exact hd2
      · exact hall i h1 (by omega)
    · have h147 := stop k (by omega) hkl hall (Or.inr hd) σ1 e
      refine g_iload_n (p0 := 66) (i := 3) dX10_does_65 rfl rfl rfl ?_
      first | ((with_reducible refine isN1 ?_); refine g_ifN_eq (tgt := 90) (p1 := 69) dX10_does_66 rfl (by omega) rfl (fun c_66 => by exfalso; first | omega | contradiction | exact absurd h c_66 | exact h c_66 | exact c_66 h | exact c_66 (by decide) | exact c_66 rfl | exact absurd rfl c_66) (fun c_66 => ?_)) | refine g_if_eq (tgt := 90) (p1 := 69) dX10_does_66 rfl rfl (fun c_66 => by exfalso; first | omega | contradiction | exact absurd h c_66 | exact h c_66 | exact c_66 h | exact c_66 (by decide) | exact c_66 rfl | exact absurd rfl c_66) (fun c_66 => ?_)
      refine g_aload_n (p0 := 70) (i := 0) dX10_does_69 rfl rfl rfl ?_
      refine g_bipush (p0 := 72) (v := nI 48) dX10_does_70 (by decide) rfl ?_
      refine g_bipush (p0 := 74) (v := nI 57) dX10_does_72 (by decide) rfl ?_
      refine g_cV2R (p0 := 77) (r1 := mX10_isAt) dX10_does_74 lX10_196 vX10_isAt (by first | rfl | assumption | exact RW.s (by assumption) | exact TW.s (by assumption)) ⟨_, _, rfl⟩ (FITi rfl rfl) (Nat.le_of_ble_eq_true rfl) (isAt_F hT (e.tr hC) e.at (by omega) (by decide) (by decide) hd) rfl ?_
      first | ((with_reducible refine isN1 ?_); refine g_ifN_eq (tgt := 90) (p1 := 80) dX10_does_77 rfl (by omega) rfl (fun c_77 => ?_) (fun c_77 => by exfalso; first | omega | contradiction | exact absurd h c_77 | exact h c_77 | exact c_77 h | exact c_77 (by decide) | exact c_77 rfl | exact absurd rfl c_77)) | refine g_if_eq (tgt := 90) (p1 := 80) dX10_does_77 rfl rfl (fun c_77 => ?_) (fun c_77 => by exfalso; first | omega | contradiction | exact absurd h c_77 | exact h c_77 | exact c_77 h | exact c_77 (by decide) | exact c_77 rfl | exact absurd rfl c_77)
      refine g_iload (p0 := 92) dX10_does_90 rfl rfl ?_
      first | ((with_reducible refine isN1 ?_); refine g_ifN_eq (tgt := 147) (p1 := 95) dX10_does_92 rfl (by omega) rfl (fun c_92 => ?_) (fun c_92 => by exfalso; first | omega | contradiction | exact absurd h c_92 | exact h c_92 | exact c_92 h | exact c_92 (by decide) | exact c_92 rfl | exact absurd rfl c_92)) | refine g_if_eq (tgt := 147) (p1 := 95) dX10_does_92 rfl rfl (fun c_92 => ?_) (fun c_92 => by exfalso; first | omega | contradiction | exact absurd h c_92 | exact h c_92 | exact c_92 h | exact c_92 (by decide) | exact c_92 rfl | exact absurd rfl c_92)
      exact h147
set_option maxRecDepth 20000 in
set_option maxHeartbeats 2000000 in
theorem dL_l {T : Nat → Nat} {len p sg : Nat} {σ : Sg} {Q : SP} (hT : TOK T len) (hC : TR σ T len) (hp : p < len) (hs1 : sg ≤ 126) (hs47 : ¬ sg = 47) (kg : ∀ e0 σ1, e0 < len → T e0 = 59 → LET T p e0 → FA σ σ1 e0 → WM mX10_does Q 195 [some (ar 79), some (ai (nI sg)), some (ai (nI (p + 1))), some (ai (nI 0)), some (ai (nI 1)), some (ai (nI (0))), some (ai (nI 1)), none] [] σ1) (kb : ¬ (∃ e, e < len ∧ T e = 59 ∧ LET T p e) → ∀ σ1 a, FA σ σ1 a → Q (some (ai (nI 1))) σ1) : ∀ q k, p + 1 + k + q = len → (∀ i, p < i → i < p + 1 + k → 97 ≤ T i ∧ T i ≤ 121) → ∀ σ1, FA σ σ1 (p + 1 + k) → WM mX10_does Q 65 [some (ar 79), some (ai (nI sg)), some (ai (nI (p + 1))), some (ai (nI 0)), some (ai (nI 1)), some (ai (nI (0))), none, none] [] σ1 := by
  have hl := hT.1
  have stop : ∀ k, p + 1 + k ≤ len → (∀ i, p < i → i < p + 1 + k → 97 ≤ T i ∧ T i ≤ 121) → (¬ (p + 1 + k < len ∧ 97 ≤ T (p + 1 + k) ∧ T (p + 1 + k) ≤ 121)) → ∀ σ1, FA σ σ1 (p + 1 + k) → WM mX10_does Q 147 [some (ar 79), some (ai (nI sg)), some (ai (nI (p + 1))), some (ai (nI 0)), some (ai (nI 1)), some (ai (nI (0))), none, none] [] σ1 := by
    intro k hkl hall hstop σ1 e
    by_cases hk0 : k = 0
    · refine dxL_z hT hC e (by omega) (by omega) hs1 (by omega) hs47 (kb (fun z => ?_) σ1 _ e)
      obtain ⟨e0, z1, z2, z3, z4⟩ := z
      have z6 := z4 (p + 1) (by omega) (by omega)
      subst hk0
      exact hstop ⟨by omega, z6⟩
    · by_cases hg : p + 1 + k < len ∧ T (p + 1 + k) = 59
      · exact dxL_g hT hC e (by omega) (by omega) hs1 (by omega) hg.1 hg.2 (kg (p + 1 + k) σ1 hg.1 hg.2 ⟨by omega, hall⟩ e)
      · refine dxL_b hT hC e (by omega) (by omega) hs1 (by omega) hg (kb (fun z => ?_) σ1 _ e)
        obtain ⟨e0, z1, z2, z3, z4⟩ := z
        by_cases h1 : e0 < p + 1 + k
        · have := hall e0 (by omega) h1
          omega
        · by_cases h2 : e0 = p + 1 + k
          · rw [h2] at z1 z2
            exact hg ⟨z1, z2⟩
          · have z6 := z4 (p + 1 + k) (by omega) (by omega)
            exact hstop ⟨by omega, z6⟩
  intro q
  induction q with
  | zero =>
    intro k hk hall σ1 e
    have e23 := e.at
    have hd : ¬ (p + 1 + k < len ∧ 97 ≤ T (p + 1 + k) ∧ T (p + 1 + k) ≤ 121) := fun z => by omega
    have h147 := stop k (by omega) hall hd σ1 e
    refine g_iload_n (p0 := 66) (i := 3) dX10_does_65 rfl rfl rfl ?_
    first | ((with_reducible refine isN1 ?_); refine g_ifN_eq (tgt := 90) (p1 := 69) dX10_does_66 rfl (by omega) rfl (fun c_66 => ?_) (fun c_66 => by exfalso; first | omega | contradiction | exact absurd h c_66 | exact h c_66 | exact c_66 h | exact c_66 (by decide) | exact c_66 rfl | exact absurd rfl c_66)) | refine g_if_eq (tgt := 90) (p1 := 69) dX10_does_66 rfl rfl (fun c_66 => ?_) (fun c_66 => by exfalso; first | omega | contradiction | exact absurd h c_66 | exact h c_66 | exact c_66 h | exact c_66 (by decide) | exact c_66 rfl | exact absurd rfl c_66)
    refine g_iload (p0 := 92) dX10_does_90 rfl rfl ?_
    first | ((with_reducible refine isN1 ?_); refine g_ifN_eq (tgt := 147) (p1 := 95) dX10_does_92 rfl (by omega) rfl (fun c_92 => by exfalso; first | omega | contradiction | exact absurd h c_92 | exact h c_92 | exact c_92 h | exact c_92 (by decide) | exact c_92 rfl | exact absurd rfl c_92) (fun c_92 => ?_)) | refine g_if_eq (tgt := 147) (p1 := 95) dX10_does_92 rfl rfl (fun c_92 => by exfalso; first | omega | contradiction | exact absurd h c_92 | exact h c_92 | exact c_92 h | exact c_92 (by decide) | exact c_92 rfl | exact absurd rfl c_92) (fun c_92 => ?_)
    refine g_aload_n (p0 := 96) (i := 0) dX10_does_95 rfl rfl rfl ?_
    refine g_bipush (p0 := 98) (v := nI 97) dX10_does_96 (by decide) rfl ?_
    refine g_bipush (p0 := 100) (v := nI 121) dX10_does_98 (by decide) rfl ?_
    refine g_cV2R (p0 := 103) (r1 := mX10_isAt) dX10_does_100 lX10_196 vX10_isAt (by first | rfl | assumption | exact RW.s (by assumption) | exact TW.s (by assumption)) ⟨_, _, rfl⟩ (FITi rfl rfl) (Nat.le_of_ble_eq_true rfl) (isAt_F hT (e.tr hC) e.at (by omega) (by decide) (by decide) hd) rfl ?_
    first | ((with_reducible refine isN1 ?_); refine g_ifN_eq (tgt := 147) (p1 := 106) dX10_does_103 rfl (by omega) rfl (fun c_103 => ?_) (fun c_103 => by exfalso; first | omega | contradiction | exact absurd h c_103 | exact h c_103 | exact c_103 h | exact c_103 (by decide) | exact c_103 rfl | exact absurd rfl c_103)) | refine g_if_eq (tgt := 147) (p1 := 106) dX10_does_103 rfl rfl (fun c_103 => ?_) (fun c_103 => by exfalso; first | omega | contradiction | exact absurd h c_103 | exact h c_103 | exact c_103 h | exact c_103 (by decide) | exact c_103 rfl | exact absurd rfl c_103)
    exact h147
  | succ q ih =>
    intro k hk hall σ1 e
    have e23 := e.at
    by_cases hd : p + 1 + k < len ∧ 97 ≤ T (p + 1 + k) ∧ T (p + 1 + k) ≤ 121
    · obtain ⟨hd1, hd2⟩ := hd
      refine g_iload_n (p0 := 66) (i := 3) dX10_does_65 rfl rfl rfl ?_
      first | ((with_reducible refine isN1 ?_); refine g_ifN_eq (tgt := 90) (p1 := 69) dX10_does_66 rfl (by omega) rfl (fun c_66 => ?_) (fun c_66 => by exfalso; first | omega | contradiction | exact absurd h c_66 | exact h c_66 | exact c_66 h | exact c_66 (by decide) | exact c_66 rfl | exact absurd rfl c_66)) | refine g_if_eq (tgt := 90) (p1 := 69) dX10_does_66 rfl rfl (fun c_66 => ?_) (fun c_66 => by exfalso; first | omega | contradiction | exact absurd h c_66 | exact h c_66 | exact c_66 h | exact c_66 (by decide) | exact c_66 rfl | exact absurd rfl c_66)
      refine g_iload (p0 := 92) dX10_does_90 rfl rfl ?_
      first | ((with_reducible refine isN1 ?_); refine g_ifN_eq (tgt := 147) (p1 := 95) dX10_does_92 rfl (by omega) rfl (fun c_92 => by exfalso; first | omega | contradiction | exact absurd h c_92 | exact h c_92 | exact c_92 h | exact c_92 (by decide) | exact c_92 rfl | exact absurd rfl c_92) (fun c_92 => ?_)) | refine g_if_eq (tgt := 147) (p1 := 95) dX10_does_92 rfl rfl (fun c_92 => by exfalso; first | omega | contradiction | exact absurd h c_92 | exact h c_92 | exact c_92 h | exact c_92 (by decide) | exact c_92 rfl | exact absurd rfl c_92) (fun c_92 => ?_)
      refine g_aload_n (p0 := 96) (i := 0) dX10_does_95 rfl rfl rfl ?_
      refine g_bipush (p0 := 98) (v := nI 97) dX10_does_96 (by decide) rfl ?_
      refine g_bipush (p0 := 100) (v := nI 121) dX10_does_98 (by decide) rfl ?_
      refine g_cV2R (p0 := 103) (r1 := mX10_isAt) dX10_does_100 lX10_196 vX10_isAt (by first | rfl | assumption | exact RW.s (by assumption) | exact TW.s (by assumption)) ⟨_, _, rfl⟩ (FITi rfl rfl) (Nat.le_of_ble_eq_true rfl) (isAt_T hT (e.tr hC) e.at (by omega) (by decide) (by decide) (by omega) hd2) rfl ?_
      first | ((with_reducible refine isN1 ?_); refine g_ifN_eq (tgt := 147) (p1 := 106) dX10_does_103 rfl (by omega) rfl (fun c_103 => by exfalso; first | omega | contradiction | exact absurd h c_103 | exact h c_103 | exact c_103 h | exact c_103 (by decide) | exact c_103 rfl | exact absurd rfl c_103) (fun c_103 => ?_)) | refine g_if_eq (tgt := 147) (p1 := 106) dX10_does_103 rfl rfl (fun c_103 => by exfalso; first | omega | contradiction | exact absurd h c_103 | exact h c_103 | exact c_103 h | exact c_103 (by decide) | exact c_103 rfl | exact absurd rfl c_103) (fun c_103 => ?_)
      refine g_iload_n (p0 := 107) (i := 3) dX10_does_106 rfl rfl rfl ?_
      first | ((with_reducible refine isN1 ?_); refine g_ifN_eq (tgt := 131) (p1 := 110) dX10_does_107 rfl (by omega) rfl (fun c_107 => ?_) (fun c_107 => by exfalso; first | omega | contradiction | exact absurd h c_107 | exact h c_107 | exact c_107 h | exact c_107 (by decide) | exact c_107 rfl | exact absurd rfl c_107)) | refine g_if_eq (tgt := 131) (p1 := 110) dX10_does_107 rfl rfl (fun c_107 => ?_) (fun c_107 => by exfalso; first | omega | contradiction | exact absurd h c_107 | exact h c_107 | exact c_107 h | exact c_107 (by decide) | exact c_107 rfl | exact absurd rfl c_107)
      refine g_iconst (p0 := 132) (v := nI 0) dX10_does_131 rfl rfl ?_
      refine g_istore (p0 := 134) (i := 5) (ls2 := [_, _, _, _, _, _, _, _]) dX10_does_132 (Nat.le_of_ble_eq_true rfl) rfl rfl ?_
      refine g_aload_n (p0 := 135) (i := 0) dX10_does_134 rfl rfl rfl ?_
      refine g_dup (p0 := 136) dX10_does_135 rfl ?_
      refine g_getI (p0 := 139) dX10_does_136 fX10_190 (by first | rfl | assumption | exact RW.s (by assumption) | exact TW.s (by assumption)) rfl (by first | assumption | ((repeat (first | exact up_hit | refine up_nv (by decide) ?_ | refine up_mv (by first | decide | omega) ?_)) <;> first | assumption | rfl)) rfl ?_
      refine g_iconst (p0 := 140) (v := nI 1) dX10_does_139 rfl rfl ?_
      first | ((with_reducible refine isN2 ?_); refine g_iaddN (p0 := 141) dX10_does_140 rfl ?_) | refine g_iadd (p0 := 141) dX10_does_140 rfl ?_
      refine g_put (p0 := 144) dX10_does_141 fX10_190 (by first | rfl | assumption | exact RW.s (by assumption) | exact TW.s (by assumption)) rfl nX10_23 (pX10_23 _) rfl ?_
      refine g_goto (tgt := 65) dX10_does_144 rfl ?_
      refine ih (k + 1) (by omega) (fun i h1 h2 => ?_) _ e.up
      by_cases hj : i = p + 1 + k
      · rw [hj]; exact hd2
      · exact hall i h1 (by omega)
    · have h147 := stop k (by omega) hall hd σ1 e
      refine g_iload_n (p0 := 66) (i := 3) dX10_does_65 rfl rfl rfl ?_
      first | ((with_reducible refine isN1 ?_); refine g_ifN_eq (tgt := 90) (p1 := 69) dX10_does_66 rfl (by omega) rfl (fun c_66 => ?_) (fun c_66 => by exfalso; first | omega | contradiction | exact absurd h c_66 | exact h c_66 | exact c_66 h | exact c_66 (by decide) | exact c_66 rfl | exact absurd rfl c_66)) | refine g_if_eq (tgt := 90) (p1 := 69) dX10_does_66 rfl rfl (fun c_66 => ?_) (fun c_66 => by exfalso; first | omega | contradiction | exact absurd h c_66 | exact h c_66 | exact c_66 h | exact c_66 (by decide) | exact c_66 rfl | exact absurd rfl c_66)
      refine g_iload (p0 := 92) dX10_does_90 rfl rfl ?_
      first | ((with_reducible refine isN1 ?_); refine g_ifN_eq (tgt := 147) (p1 := 95) dX10_does_92 rfl (by omega) rfl (fun c_92 => by exfalso; first | omega | contradiction | exact absurd h c_92 | exact h c_92 | exact c_92 h | exact c_92 (by decide) | exact c_92 rfl | exact absurd rfl c_92) (fun c_92 => ?_)) | refine g_if_eq (tgt := 147) (p1 := 95) dX10_does_92 rfl rfl (fun c_92 => by exfalso; first | omega | contradiction | exact absurd h c_92 | exact h c_92 | exact c_92 h | exact c_92 (by decide) | exact c_92 rfl | exact absurd rfl c_92) (fun c_92 => ?_)
      refine g_aload_n (p0 := 96) (i := 0) dX10_does_95 rfl rfl rfl ?_
      refine g_bipush (p0 := 98) (v := nI 97) dX10_does_96 (by decide) rfl ?_
      refine g_bipush (p0 := 100) (v := nI 121) dX10_does_98 (by decide) rfl ?_
      refine g_cV2R (p0 := 103) (r1 := mX10_isAt) dX10_does_100 lX10_196 vX10_isAt (by first | rfl | assumption | exact RW.s (by assumption) | exact TW.s (by assumption)) ⟨_, _, rfl⟩ (FITi rfl rfl) (Nat.le_of_ble_eq_true rfl) (isAt_F hT (e.tr hC) e.at (by omega) (by decide) (by decide) hd) rfl ?_
      first | ((with_reducible refine isN1 ?_); refine g_ifN_eq (tgt := 147) (p1 := 106) dX10_does_103 rfl (by omega) rfl (fun c_103 => ?_) (fun c_103 => by exfalso; first | omega | contradiction | exact absurd h c_103 | exact h c_103 | exact c_103 h | exact c_103 (by decide) | exact c_103 rfl | exact absurd rfl c_103)) | refine g_if_eq (tgt := 147) (p1 := 106) dX10_does_103 rfl rfl (fun c_103 => ?_) (fun c_103 => by exfalso; first | omega | contradiction | exact absurd h c_103 | exact h c_103 | exact c_103 h | exact c_103 (by decide) | exact c_103 rfl | exact absurd rfl c_103)
      exact h147
set_option maxRecDepth 20000 in
set_option maxHeartbeats 2000000 in
theorem ds_45 {T : Nat → Nat} {len p : Nat} {σ : Sg} {Q : SP} (hT : TOK T len) (hC : TR σ T len) (h23 : σ 79 23 = nI p) (hp : p < len) (hsg : T p = 45) (k : ∀ σ1, FA σ σ1 (p + 1) → WM mX10_does Q 65 [some (ar 79), some (ai (nI 45)), some (ai (nI (p + 1))), some (ai (nI 1)), some (ai (nI 0)), some (ai (nI (0))), none, none] [] σ1) : CM mX10_does [ar 79] σ (Q) := by
  have hl := hT.1
  have e83 := hC.2 p hp
  have hti := hT.2 p hp
  refine CM_in (ls := [some (ar 79), none, none, none, none, none, none, none]) rfl ?_
  refine g_aload_n (p0 := 1) (i := 0) dX10_does_0 rfl rfl rfl ?_
  refine g_getR (p0 := 4) dX10_does_1 fX10_19 (by first | rfl | assumption | exact RW.s (by assumption) | exact TW.s (by assumption)) rfl rfl ?_
  refine g_aload_n (p0 := 5) (i := 0) dX10_does_4 rfl rfl rfl ?_
  refine g_getI (p0 := 8) dX10_does_5 fX10_190 (by first | rfl | assumption | exact RW.s (by assumption) | exact TW.s (by assumption)) rfl (by first | assumption | ((repeat (first | exact up_hit | refine up_nv (by decide) ?_ | refine up_mv (by first | decide | omega) ?_)) <;> first | assumption | rfl)) rfl ?_
  first | ((with_reducible refine isN1 ?_); refine g_aldN (p0 := 9) dX10_does_8 (by first | rfl | assumption | exact RW.s (by assumption) | exact TW.s (by assumption)) (by first | decide | assumption) (by omega) (by first | assumption | ((repeat (first | exact up_hit | refine up_nv (by decide) ?_ | refine up_mv (by first | decide | omega) ?_)) <;> first | assumption | rfl)) rfl ?_) | refine g_ald (p0 := 9) dX10_does_8 (by first | rfl | assumption | exact RW.s (by assumption) | exact TW.s (by assumption)) (by assumption) (by first | assumption | ((repeat (first | exact up_hit | refine up_nv (by decide) ?_ | refine up_mv (by first | decide | omega) ?_)) <;> first | assumption | rfl)) rfl ?_
  rw [hsg]
  refine g_istore_n (p0 := 10) (i := 1) (ls2 := [_, _, _, _, _, _, _, _]) dX10_does_9 rfl (Nat.le_of_ble_eq_true rfl) rfl rfl ?_
  refine g_aload_n (p0 := 11) (i := 0) dX10_does_10 rfl rfl rfl ?_
  refine g_dup (p0 := 12) dX10_does_11 rfl ?_
  refine g_getI (p0 := 15) dX10_does_12 fX10_190 (by first | rfl | assumption | exact RW.s (by assumption) | exact TW.s (by assumption)) rfl (by first | assumption | ((repeat (first | exact up_hit | refine up_nv (by decide) ?_ | refine up_mv (by first | decide | omega) ?_)) <;> first | assumption | rfl)) rfl ?_
  refine g_iconst (p0 := 16) (v := nI 1) dX10_does_15 rfl rfl ?_
  first | ((with_reducible refine isN2 ?_); refine g_iaddN (p0 := 17) dX10_does_16 rfl ?_) | refine g_iadd (p0 := 17) dX10_does_16 rfl ?_
  refine g_put (p0 := 20) dX10_does_17 fX10_190 (by first | rfl | assumption | exact RW.s (by assumption) | exact TW.s (by assumption)) rfl nX10_23 (pX10_23 _) rfl ?_
  refine g_aload_n (p0 := 21) (i := 0) dX10_does_20 rfl rfl rfl ?_
  refine g_getI (p0 := 24) dX10_does_21 fX10_190 (by first | rfl | assumption | exact RW.s (by assumption) | exact TW.s (by assumption)) rfl (by first | assumption | ((repeat (first | exact up_hit | refine up_nv (by decide) ?_ | refine up_mv (by first | decide | omega) ?_)) <;> first | assumption | rfl)) rfl ?_
  refine g_istore_n (p0 := 25) (i := 2) (ls2 := [_, _, _, _, _, _, _, _]) dX10_does_24 rfl (Nat.le_of_ble_eq_true rfl) rfl rfl ?_
  refine g_iload_n (p0 := 26) (i := 1) dX10_does_25 rfl rfl rfl ?_
  refine g_bipush (p0 := 28) (v := nI 45) dX10_does_26 (by decide) rfl ?_
  first | ((with_reducible refine isN2 ?_); refine g_icmpN_eq (tgt := 37) (p1 := 31) dX10_does_28 rfl (by omega) (by omega) rfl (fun c_28 => ?_) (fun c_28 => by exfalso; first | omega | contradiction | exact absurd h c_28 | exact h c_28 | exact c_28 h | exact c_28 (by decide) | exact c_28 rfl | exact absurd rfl c_28)) | refine g_icmp_eq (tgt := 37) (p1 := 31) dX10_does_28 rfl rfl (fun c_28 => ?_) (fun c_28 => by exfalso; first | omega | contradiction | exact absurd h c_28 | exact h c_28 | exact c_28 h | exact c_28 (by decide) | exact c_28 rfl | exact absurd rfl c_28)
  refine g_iconst (p0 := 38) (v := nI 1) dX10_does_37 rfl rfl ?_
  refine g_goto (tgt := 42) dX10_does_38 rfl ?_
  refine g_istore_n (p0 := 43) (i := 3) (ls2 := [_, _, _, _, _, _, _, _]) dX10_does_42 rfl (Nat.le_of_ble_eq_true rfl) rfl rfl ?_
  refine g_iload_n (p0 := 44) (i := 1) dX10_does_43 rfl rfl rfl ?_
  refine g_bipush (p0 := 46) (v := nI 61) dX10_does_44 (by decide) rfl ?_
  first | ((with_reducible refine isN2 ?_); refine g_icmpN_eq (tgt := 55) (p1 := 49) dX10_does_46 rfl (by omega) (by omega) rfl (fun c_46 => by exfalso; first | omega | contradiction | exact absurd h c_46 | exact h c_46 | exact c_46 h | exact c_46 (by decide) | exact c_46 rfl | exact absurd rfl c_46) (fun c_46 => ?_)) | refine g_icmp_eq (tgt := 55) (p1 := 49) dX10_does_46 rfl rfl (fun c_46 => by exfalso; first | omega | contradiction | exact absurd h c_46 | exact h c_46 | exact c_46 h | exact c_46 (by decide) | exact c_46 rfl | exact absurd rfl c_46) (fun c_46 => ?_)
  refine g_iload_n (p0 := 50) (i := 1) dX10_does_49 rfl rfl rfl ?_
  refine g_bipush (p0 := 52) (v := nI 33) dX10_does_50 (by decide) rfl ?_
  first | ((with_reducible refine isN2 ?_); refine g_icmpN_ne (tgt := 59) (p1 := 55) dX10_does_52 rfl (by omega) (by omega) rfl (fun c_52 => ?_) (fun c_52 => by exfalso; first | omega | contradiction | exact absurd h c_52 | exact h c_52 | exact c_52 h | exact c_52 (by decide) | exact c_52 rfl | exact absurd rfl c_52)) | refine g_icmp_ne (tgt := 59) (p1 := 55) dX10_does_52 rfl rfl (fun c_52 => ?_) (fun c_52 => by exfalso; first | omega | contradiction | exact absurd h c_52 | exact h c_52 | exact c_52 h | exact c_52 (by decide) | exact c_52 rfl | exact absurd rfl c_52)
  refine g_iconst (p0 := 60) (v := nI 0) dX10_does_59 rfl rfl ?_
  refine g_istore (p0 := 62) (i := 4) (ls2 := [_, _, _, _, _, _, _, _]) dX10_does_60 (Nat.le_of_ble_eq_true rfl) rfl rfl ?_
  refine g_iconst (p0 := 63) (v := nI 0) dX10_does_62 rfl rfl ?_
  refine g_istore (p0 := 65) (i := 5) (ls2 := [_, _, _, _, _, _, _, _]) dX10_does_63 (Nat.le_of_ble_eq_true rfl) rfl rfl ?_
  exact k _ ⟨fun z hz => up_ne hz, fun q hq => up_miss hq, up_hit⟩
set_option maxRecDepth 20000 in
set_option maxHeartbeats 2000000 in
theorem ds_43 {T : Nat → Nat} {len p : Nat} {σ : Sg} {Q : SP} (hT : TOK T len) (hC : TR σ T len) (h23 : σ 79 23 = nI p) (hp : p < len) (hsg : T p = 43) (k : ∀ σ1, FA σ σ1 (p + 1) → WM mX10_does Q 65 [some (ar 79), some (ai (nI 43)), some (ai (nI (p + 1))), some (ai (nI 1)), some (ai (nI 0)), some (ai (nI (0))), none, none] [] σ1) : CM mX10_does [ar 79] σ (Q) := by
  have hl := hT.1
  have e83 := hC.2 p hp
  have hti := hT.2 p hp
  refine CM_in (ls := [some (ar 79), none, none, none, none, none, none, none]) rfl ?_
  refine g_aload_n (p0 := 1) (i := 0) dX10_does_0 rfl rfl rfl ?_
  refine g_getR (p0 := 4) dX10_does_1 fX10_19 (by first | rfl | assumption | exact RW.s (by assumption) | exact TW.s (by assumption)) rfl rfl ?_
  refine g_aload_n (p0 := 5) (i := 0) dX10_does_4 rfl rfl rfl ?_
  refine g_getI (p0 := 8) dX10_does_5 fX10_190 (by first | rfl | assumption | exact RW.s (by assumption) | exact TW.s (by assumption)) rfl (by first | assumption | ((repeat (first | exact up_hit | refine up_nv (by decide) ?_ | refine up_mv (by first | decide | omega) ?_)) <;> first | assumption | rfl)) rfl ?_
  first | ((with_reducible refine isN1 ?_); refine g_aldN (p0 := 9) dX10_does_8 (by first | rfl | assumption | exact RW.s (by assumption) | exact TW.s (by assumption)) (by first | decide | assumption) (by omega) (by first | assumption | ((repeat (first | exact up_hit | refine up_nv (by decide) ?_ | refine up_mv (by first | decide | omega) ?_)) <;> first | assumption | rfl)) rfl ?_) | refine g_ald (p0 := 9) dX10_does_8 (by first | rfl | assumption | exact RW.s (by assumption) | exact TW.s (by assumption)) (by assumption) (by first | assumption | ((repeat (first | exact up_hit | refine up_nv (by decide) ?_ | refine up_mv (by first | decide | omega) ?_)) <;> first | assumption | rfl)) rfl ?_
  rw [hsg]
  refine g_istore_n (p0 := 10) (i := 1) (ls2 := [_, _, _, _, _, _, _, _]) dX10_does_9 rfl (Nat.le_of_ble_eq_true rfl) rfl rfl ?_
  refine g_aload_n (p0 := 11) (i := 0) dX10_does_10 rfl rfl rfl ?_
  refine g_dup (p0 := 12) dX10_does_11 rfl ?_
  refine g_getI (p0 := 15) dX10_does_12 fX10_190 (by first | rfl | assumption | exact RW.s (by assumption) | exact TW.s (by assumption)) rfl (by first | assumption | ((repeat (first | exact up_hit | refine up_nv (by decide) ?_ | refine up_mv (by first | decide | omega) ?_)) <;> first | assumption | rfl)) rfl ?_
  refine g_iconst (p0 := 16) (v := nI 1) dX10_does_15 rfl rfl ?_
  first | ((with_reducible refine isN2 ?_); refine g_iaddN (p0 := 17) dX10_does_16 rfl ?_) | refine g_iadd (p0 := 17) dX10_does_16 rfl ?_
  refine g_put (p0 := 20) dX10_does_17 fX10_190 (by first | rfl | assumption | exact RW.s (by assumption) | exact TW.s (by assumption)) rfl nX10_23 (pX10_23 _) rfl ?_
  refine g_aload_n (p0 := 21) (i := 0) dX10_does_20 rfl rfl rfl ?_
  refine g_getI (p0 := 24) dX10_does_21 fX10_190 (by first | rfl | assumption | exact RW.s (by assumption) | exact TW.s (by assumption)) rfl (by first | assumption | ((repeat (first | exact up_hit | refine up_nv (by decide) ?_ | refine up_mv (by first | decide | omega) ?_)) <;> first | assumption | rfl)) rfl ?_
  refine g_istore_n (p0 := 25) (i := 2) (ls2 := [_, _, _, _, _, _, _, _]) dX10_does_24 rfl (Nat.le_of_ble_eq_true rfl) rfl rfl ?_
  refine g_iload_n (p0 := 26) (i := 1) dX10_does_25 rfl rfl rfl ?_
  refine g_bipush (p0 := 28) (v := nI 45) dX10_does_26 (by decide) rfl ?_
  first | ((with_reducible refine isN2 ?_); refine g_icmpN_eq (tgt := 37) (p1 := 31) dX10_does_28 rfl (by omega) (by omega) rfl (fun c_28 => by exfalso; first | omega | contradiction | exact absurd h c_28 | exact h c_28 | exact c_28 h | exact c_28 (by decide) | exact c_28 rfl | exact absurd rfl c_28) (fun c_28 => ?_)) | refine g_icmp_eq (tgt := 37) (p1 := 31) dX10_does_28 rfl rfl (fun c_28 => by exfalso; first | omega | contradiction | exact absurd h c_28 | exact h c_28 | exact c_28 h | exact c_28 (by decide) | exact c_28 rfl | exact absurd rfl c_28) (fun c_28 => ?_)
  refine g_iload_n (p0 := 32) (i := 1) dX10_does_31 rfl rfl rfl ?_
  refine g_bipush (p0 := 34) (v := nI 43) dX10_does_32 (by decide) rfl ?_
  first | ((with_reducible refine isN2 ?_); refine g_icmpN_ne (tgt := 41) (p1 := 37) dX10_does_34 rfl (by omega) (by omega) rfl (fun c_34 => by exfalso; first | omega | contradiction | exact absurd h c_34 | exact h c_34 | exact c_34 h | exact c_34 (by decide) | exact c_34 rfl | exact absurd rfl c_34) (fun c_34 => ?_)) | refine g_icmp_ne (tgt := 41) (p1 := 37) dX10_does_34 rfl rfl (fun c_34 => by exfalso; first | omega | contradiction | exact absurd h c_34 | exact h c_34 | exact c_34 h | exact c_34 (by decide) | exact c_34 rfl | exact absurd rfl c_34) (fun c_34 => ?_)
  refine g_iconst (p0 := 38) (v := nI 1) dX10_does_37 rfl rfl ?_
  refine g_goto (tgt := 42) dX10_does_38 rfl ?_
  refine g_istore_n (p0 := 43) (i := 3) (ls2 := [_, _, _, _, _, _, _, _]) dX10_does_42 rfl (Nat.le_of_ble_eq_true rfl) rfl rfl ?_
  refine g_iload_n (p0 := 44) (i := 1) dX10_does_43 rfl rfl rfl ?_
  refine g_bipush (p0 := 46) (v := nI 61) dX10_does_44 (by decide) rfl ?_
  first | ((with_reducible refine isN2 ?_); refine g_icmpN_eq (tgt := 55) (p1 := 49) dX10_does_46 rfl (by omega) (by omega) rfl (fun c_46 => by exfalso; first | omega | contradiction | exact absurd h c_46 | exact h c_46 | exact c_46 h | exact c_46 (by decide) | exact c_46 rfl | exact absurd rfl c_46) (fun c_46 => ?_)) | refine g_icmp_eq (tgt := 55) (p1 := 49) dX10_does_46 rfl rfl (fun c_46 => by exfalso; first | omega | contradiction | exact absurd h c_46 | exact h c_46 | exact c_46 h | exact c_46 (by decide) | exact c_46 rfl | exact absurd rfl c_46) (fun c_46 => ?_)
  refine g_iload_n (p0 := 50) (i := 1) dX10_does_49 rfl rfl rfl ?_
  refine g_bipush (p0 := 52) (v := nI 33) dX10_does_50 (by decide) rfl ?_
  first | ((with_reducible refine isN2 ?_); refine g_icmpN_ne (tgt := 59) (p1 := 55) dX10_does_52 rfl (by omega) (by omega) rfl (fun c_52 => ?_) (fun c_52 => by exfalso; first | omega | contradiction | exact absurd h c_52 | exact h c_52 | exact c_52 h | exact c_52 (by decide) | exact c_52 rfl | exact absurd rfl c_52)) | refine g_icmp_ne (tgt := 59) (p1 := 55) dX10_does_52 rfl rfl (fun c_52 => ?_) (fun c_52 => by exfalso; first | omega | contradiction | exact absurd h c_52 | exact h c_52 | exact c_52 h | exact c_52 (by decide) | exact c_52 rfl | exact absurd rfl c_52)
  refine g_iconst (p0 := 60) (v := nI 0) dX10_does_59 rfl rfl ?_
  refine g_istore (p0 := 62) (i := 4) (ls2 := [_, _, _, _, _, _, _, _]) dX10_does_60 (Nat.le_of_ble_eq_true rfl) rfl rfl ?_
  refine g_iconst (p0 := 63) (v := nI 0) dX10_does_62 rfl rfl ?_
  refine g_istore (p0 := 65) (i := 5) (ls2 := [_, _, _, _, _, _, _, _]) dX10_does_63 (Nat.le_of_ble_eq_true rfl) rfl rfl ?_
  exact k _ ⟨fun z hz => up_ne hz, fun q hq => up_miss hq, up_hit⟩
set_option maxRecDepth 20000 in
set_option maxHeartbeats 2000000 in
theorem ds_61 {T : Nat → Nat} {len p : Nat} {σ : Sg} {Q : SP} (hT : TOK T len) (hC : TR σ T len) (h23 : σ 79 23 = nI p) (hp : p < len) (hsg : T p = 61) (k : ∀ σ1, FA σ σ1 (p + 1) → WM mX10_does Q 65 [some (ar 79), some (ai (nI 61)), some (ai (nI (p + 1))), some (ai (nI 0)), some (ai (nI 1)), some (ai (nI (0))), none, none] [] σ1) : CM mX10_does [ar 79] σ (Q) := by
  have hl := hT.1
  have e83 := hC.2 p hp
  have hti := hT.2 p hp
  refine CM_in (ls := [some (ar 79), none, none, none, none, none, none, none]) rfl ?_
  refine g_aload_n (p0 := 1) (i := 0) dX10_does_0 rfl rfl rfl ?_
  refine g_getR (p0 := 4) dX10_does_1 fX10_19 (by first | rfl | assumption | exact RW.s (by assumption) | exact TW.s (by assumption)) rfl rfl ?_
  refine g_aload_n (p0 := 5) (i := 0) dX10_does_4 rfl rfl rfl ?_
  refine g_getI (p0 := 8) dX10_does_5 fX10_190 (by first | rfl | assumption | exact RW.s (by assumption) | exact TW.s (by assumption)) rfl (by first | assumption | ((repeat (first | exact up_hit | refine up_nv (by decide) ?_ | refine up_mv (by first | decide | omega) ?_)) <;> first | assumption | rfl)) rfl ?_
  first | ((with_reducible refine isN1 ?_); refine g_aldN (p0 := 9) dX10_does_8 (by first | rfl | assumption | exact RW.s (by assumption) | exact TW.s (by assumption)) (by first | decide | assumption) (by omega) (by first | assumption | ((repeat (first | exact up_hit | refine up_nv (by decide) ?_ | refine up_mv (by first | decide | omega) ?_)) <;> first | assumption | rfl)) rfl ?_) | refine g_ald (p0 := 9) dX10_does_8 (by first | rfl | assumption | exact RW.s (by assumption) | exact TW.s (by assumption)) (by assumption) (by first | assumption | ((repeat (first | exact up_hit | refine up_nv (by decide) ?_ | refine up_mv (by first | decide | omega) ?_)) <;> first | assumption | rfl)) rfl ?_
  rw [hsg]
  refine g_istore_n (p0 := 10) (i := 1) (ls2 := [_, _, _, _, _, _, _, _]) dX10_does_9 rfl (Nat.le_of_ble_eq_true rfl) rfl rfl ?_
  refine g_aload_n (p0 := 11) (i := 0) dX10_does_10 rfl rfl rfl ?_
  refine g_dup (p0 := 12) dX10_does_11 rfl ?_
  refine g_getI (p0 := 15) dX10_does_12 fX10_190 (by first | rfl | assumption | exact RW.s (by assumption) | exact TW.s (by assumption)) rfl (by first | assumption | ((repeat (first | exact up_hit | refine up_nv (by decide) ?_ | refine up_mv (by first | decide | omega) ?_)) <;> first | assumption | rfl)) rfl ?_
  refine g_iconst (p0 := 16) (v := nI 1) dX10_does_15 rfl rfl ?_
  first | ((with_reducible refine isN2 ?_); refine g_iaddN (p0 := 17) dX10_does_16 rfl ?_) | refine g_iadd (p0 := 17) dX10_does_16 rfl ?_
  refine g_put (p0 := 20) dX10_does_17 fX10_190 (by first | rfl | assumption | exact RW.s (by assumption) | exact TW.s (by assumption)) rfl nX10_23 (pX10_23 _) rfl ?_
  refine g_aload_n (p0 := 21) (i := 0) dX10_does_20 rfl rfl rfl ?_
  refine g_getI (p0 := 24) dX10_does_21 fX10_190 (by first | rfl | assumption | exact RW.s (by assumption) | exact TW.s (by assumption)) rfl (by first | assumption | ((repeat (first | exact up_hit | refine up_nv (by decide) ?_ | refine up_mv (by first | decide | omega) ?_)) <;> first | assumption | rfl)) rfl ?_
  refine g_istore_n (p0 := 25) (i := 2) (ls2 := [_, _, _, _, _, _, _, _]) dX10_does_24 rfl (Nat.le_of_ble_eq_true rfl) rfl rfl ?_
  refine g_iload_n (p0 := 26) (i := 1) dX10_does_25 rfl rfl rfl ?_
  refine g_bipush (p0 := 28) (v := nI 45) dX10_does_26 (by decide) rfl ?_
  first | ((with_reducible refine isN2 ?_); refine g_icmpN_eq (tgt := 37) (p1 := 31) dX10_does_28 rfl (by omega) (by omega) rfl (fun c_28 => by exfalso; first | omega | contradiction | exact absurd h c_28 | exact h c_28 | exact c_28 h | exact c_28 (by decide) | exact c_28 rfl | exact absurd rfl c_28) (fun c_28 => ?_)) | refine g_icmp_eq (tgt := 37) (p1 := 31) dX10_does_28 rfl rfl (fun c_28 => by exfalso; first | omega | contradiction | exact absurd h c_28 | exact h c_28 | exact c_28 h | exact c_28 (by decide) | exact c_28 rfl | exact absurd rfl c_28) (fun c_28 => ?_)
  refine g_iload_n (p0 := 32) (i := 1) dX10_does_31 rfl rfl rfl ?_
  refine g_bipush (p0 := 34) (v := nI 43) dX10_does_32 (by decide) rfl ?_
  first | ((with_reducible refine isN2 ?_); refine g_icmpN_ne (tgt := 41) (p1 := 37) dX10_does_34 rfl (by omega) (by omega) rfl (fun c_34 => ?_) (fun c_34 => by exfalso; first | omega | contradiction | exact absurd h c_34 | exact h c_34 | exact c_34 h | exact c_34 (by decide) | exact c_34 rfl | exact absurd rfl c_34)) | refine g_icmp_ne (tgt := 41) (p1 := 37) dX10_does_34 rfl rfl (fun c_34 => ?_) (fun c_34 => by exfalso; first | omega | contradiction | exact absurd h c_34 | exact h c_34 | exact c_34 h | exact c_34 (by decide) | exact c_34 rfl | exact absurd rfl c_34)
  refine g_iconst (p0 := 42) (v := nI 0) dX10_does_41 rfl rfl ?_
  refine g_istore_n (p0 := 43) (i := 3) (ls2 := [_, _, _, _, _, _, _, _]) dX10_does_42 rfl (Nat.le_of_ble_eq_true rfl) rfl rfl ?_
  refine g_iload_n (p0 := 44) (i := 1) dX10_does_43 rfl rfl rfl ?_
  refine g_bipush (p0 := 46) (v := nI 61) dX10_does_44 (by decide) rfl ?_
  first | ((with_reducible refine isN2 ?_); refine g_icmpN_eq (tgt := 55) (p1 := 49) dX10_does_46 rfl (by omega) (by omega) rfl (fun c_46 => ?_) (fun c_46 => by exfalso; first | omega | contradiction | exact absurd h c_46 | exact h c_46 | exact c_46 h | exact c_46 (by decide) | exact c_46 rfl | exact absurd rfl c_46)) | refine g_icmp_eq (tgt := 55) (p1 := 49) dX10_does_46 rfl rfl (fun c_46 => ?_) (fun c_46 => by exfalso; first | omega | contradiction | exact absurd h c_46 | exact h c_46 | exact c_46 h | exact c_46 (by decide) | exact c_46 rfl | exact absurd rfl c_46)
  refine g_iconst (p0 := 56) (v := nI 1) dX10_does_55 rfl rfl ?_
  refine g_goto (tgt := 60) dX10_does_56 rfl ?_
  refine g_istore (p0 := 62) (i := 4) (ls2 := [_, _, _, _, _, _, _, _]) dX10_does_60 (Nat.le_of_ble_eq_true rfl) rfl rfl ?_
  refine g_iconst (p0 := 63) (v := nI 0) dX10_does_62 rfl rfl ?_
  refine g_istore (p0 := 65) (i := 5) (ls2 := [_, _, _, _, _, _, _, _]) dX10_does_63 (Nat.le_of_ble_eq_true rfl) rfl rfl ?_
  exact k _ ⟨fun z hz => up_ne hz, fun q hq => up_miss hq, up_hit⟩
set_option maxRecDepth 20000 in
set_option maxHeartbeats 2000000 in
theorem ds_33 {T : Nat → Nat} {len p : Nat} {σ : Sg} {Q : SP} (hT : TOK T len) (hC : TR σ T len) (h23 : σ 79 23 = nI p) (hp : p < len) (hsg : T p = 33) (k : ∀ σ1, FA σ σ1 (p + 1) → WM mX10_does Q 65 [some (ar 79), some (ai (nI 33)), some (ai (nI (p + 1))), some (ai (nI 0)), some (ai (nI 1)), some (ai (nI (0))), none, none] [] σ1) : CM mX10_does [ar 79] σ (Q) := by
  have hl := hT.1
  have e83 := hC.2 p hp
  have hti := hT.2 p hp
  refine CM_in (ls := [some (ar 79), none, none, none, none, none, none, none]) rfl ?_
  refine g_aload_n (p0 := 1) (i := 0) dX10_does_0 rfl rfl rfl ?_
  refine g_getR (p0 := 4) dX10_does_1 fX10_19 (by first | rfl | assumption | exact RW.s (by assumption) | exact TW.s (by assumption)) rfl rfl ?_
  refine g_aload_n (p0 := 5) (i := 0) dX10_does_4 rfl rfl rfl ?_
  refine g_getI (p0 := 8) dX10_does_5 fX10_190 (by first | rfl | assumption | exact RW.s (by assumption) | exact TW.s (by assumption)) rfl (by first | assumption | ((repeat (first | exact up_hit | refine up_nv (by decide) ?_ | refine up_mv (by first | decide | omega) ?_)) <;> first | assumption | rfl)) rfl ?_
  first | ((with_reducible refine isN1 ?_); refine g_aldN (p0 := 9) dX10_does_8 (by first | rfl | assumption | exact RW.s (by assumption) | exact TW.s (by assumption)) (by first | decide | assumption) (by omega) (by first | assumption | ((repeat (first | exact up_hit | refine up_nv (by decide) ?_ | refine up_mv (by first | decide | omega) ?_)) <;> first | assumption | rfl)) rfl ?_) | refine g_ald (p0 := 9) dX10_does_8 (by first | rfl | assumption | exact RW.s (by assumption) | exact TW.s (by assumption)) (by assumption) (by first | assumption | ((repeat (first | exact up_hit | refine up_nv (by decide) ?_ | refine up_mv (by first | decide | omega) ?_)) <;> first | assumption | rfl)) rfl ?_
  rw [hsg]
  refine g_istore_n (p0 := 10) (i := 1) (ls2 := [_, _, _, _, _, _, _, _]) dX10_does_9 rfl (Nat.le_of_ble_eq_true rfl) rfl rfl ?_
  refine g_aload_n (p0 := 11) (i := 0) dX10_does_10 rfl rfl rfl ?_
  refine g_dup (p0 := 12) dX10_does_11 rfl ?_
  refine g_getI (p0 := 15) dX10_does_12 fX10_190 (by first | rfl | assumption | exact RW.s (by assumption) | exact TW.s (by assumption)) rfl (by first | assumption | ((repeat (first | exact up_hit | refine up_nv (by decide) ?_ | refine up_mv (by first | decide | omega) ?_)) <;> first | assumption | rfl)) rfl ?_
  refine g_iconst (p0 := 16) (v := nI 1) dX10_does_15 rfl rfl ?_
  first | ((with_reducible refine isN2 ?_); refine g_iaddN (p0 := 17) dX10_does_16 rfl ?_) | refine g_iadd (p0 := 17) dX10_does_16 rfl ?_
  refine g_put (p0 := 20) dX10_does_17 fX10_190 (by first | rfl | assumption | exact RW.s (by assumption) | exact TW.s (by assumption)) rfl nX10_23 (pX10_23 _) rfl ?_
  refine g_aload_n (p0 := 21) (i := 0) dX10_does_20 rfl rfl rfl ?_
  refine g_getI (p0 := 24) dX10_does_21 fX10_190 (by first | rfl | assumption | exact RW.s (by assumption) | exact TW.s (by assumption)) rfl (by first | assumption | ((repeat (first | exact up_hit | refine up_nv (by decide) ?_ | refine up_mv (by first | decide | omega) ?_)) <;> first | assumption | rfl)) rfl ?_
  refine g_istore_n (p0 := 25) (i := 2) (ls2 := [_, _, _, _, _, _, _, _]) dX10_does_24 rfl (Nat.le_of_ble_eq_true rfl) rfl rfl ?_
  refine g_iload_n (p0 := 26) (i := 1) dX10_does_25 rfl rfl rfl ?_
  refine g_bipush (p0 := 28) (v := nI 45) dX10_does_26 (by decide) rfl ?_
  first | ((with_reducible refine isN2 ?_); refine g_icmpN_eq (tgt := 37) (p1 := 31) dX10_does_28 rfl (by omega) (by omega) rfl (fun c_28 => by exfalso; first | omega | contradiction | exact absurd h c_28 | exact h c_28 | exact c_28 h | exact c_28 (by decide) | exact c_28 rfl | exact absurd rfl c_28) (fun c_28 => ?_)) | refine g_icmp_eq (tgt := 37) (p1 := 31) dX10_does_28 rfl rfl (fun c_28 => by exfalso; first | omega | contradiction | exact absurd h c_28 | exact h c_28 | exact c_28 h | exact c_28 (by decide) | exact c_28 rfl | exact absurd rfl c_28) (fun c_28 => ?_)
  refine g_iload_n (p0 := 32) (i := 1) dX10_does_31 rfl rfl rfl ?_
  refine g_bipush (p0 := 34) (v := nI 43) dX10_does_32 (by decide) rfl ?_
  first | ((with_reducible refine isN2 ?_); refine g_icmpN_ne (tgt := 41) (p1 := 37) dX10_does_34 rfl (by omega) (by omega) rfl (fun c_34 => ?_) (fun c_34 => by exfalso; first | omega | contradiction | exact absurd h c_34 | exact h c_34 | exact c_34 h | exact c_34 (by decide) | exact c_34 rfl | exact absurd rfl c_34)) | refine g_icmp_ne (tgt := 41) (p1 := 37) dX10_does_34 rfl rfl (fun c_34 => ?_) (fun c_34 => by exfalso; first | omega | contradiction | exact absurd h c_34 | exact h c_34 | exact c_34 h | exact c_34 (by decide) | exact c_34 rfl | exact absurd rfl c_34)
  refine g_iconst (p0 := 42) (v := nI 0) dX10_does_41 rfl rfl ?_
  refine g_istore_n (p0 := 43) (i := 3) (ls2 := [_, _, _, _, _, _, _, _]) dX10_does_42 rfl (Nat.le_of_ble_eq_true rfl) rfl rfl ?_
  refine g_iload_n (p0 := 44) (i := 1) dX10_does_43 rfl rfl rfl ?_
  refine g_bipush (p0 := 46) (v := nI 61) dX10_does_44 (by decide) rfl ?_
  first | ((with_reducible refine isN2 ?_); refine g_icmpN_eq (tgt := 55) (p1 := 49) dX10_does_46 rfl (by omega) (by omega) rfl (fun c_46 => by exfalso; first | omega | contradiction | exact absurd h c_46 | exact h c_46 | exact c_46 h | exact c_46 (by decide) | exact c_46 rfl | exact absurd rfl c_46) (fun c_46 => ?_)) | refine g_icmp_eq (tgt := 55) (p1 := 49) dX10_does_46 rfl rfl (fun c_46 => by exfalso; first | omega | contradiction | exact absurd h c_46 | exact h c_46 | exact c_46 h | exact c_46 (by decide) | exact c_46 rfl | exact absurd rfl c_46) (fun c_46 => ?_)
  refine g_iload_n (p0 := 50) (i := 1) dX10_does_49 rfl rfl rfl ?_
  refine g_bipush (p0 := 52) (v := nI 33) dX10_does_50 (by decide) rfl ?_
  first | ((with_reducible refine isN2 ?_); refine g_icmpN_ne (tgt := 59) (p1 := 55) dX10_does_52 rfl (by omega) (by omega) rfl (fun c_52 => by exfalso; first | omega | contradiction | exact absurd h c_52 | exact h c_52 | exact c_52 h | exact c_52 (by decide) | exact c_52 rfl | exact absurd rfl c_52) (fun c_52 => ?_)) | refine g_icmp_ne (tgt := 59) (p1 := 55) dX10_does_52 rfl rfl (fun c_52 => by exfalso; first | omega | contradiction | exact absurd h c_52 | exact h c_52 | exact c_52 h | exact c_52 (by decide) | exact c_52 rfl | exact absurd rfl c_52) (fun c_52 => ?_)
  refine g_iconst (p0 := 56) (v := nI 1) dX10_does_55 rfl rfl ?_
  refine g_goto (tgt := 60) dX10_does_56 rfl ?_
  refine g_istore (p0 := 62) (i := 4) (ls2 := [_, _, _, _, _, _, _, _]) dX10_does_60 (Nat.le_of_ble_eq_true rfl) rfl rfl ?_
  refine g_iconst (p0 := 63) (v := nI 0) dX10_does_62 rfl rfl ?_
  refine g_istore (p0 := 65) (i := 5) (ls2 := [_, _, _, _, _, _, _, _]) dX10_does_63 (Nat.le_of_ble_eq_true rfl) rfl rfl ?_
  exact k _ ⟨fun z hz => up_ne hz, fun q hq => up_miss hq, up_hit⟩
set_option maxRecDepth 20000 in
set_option maxHeartbeats 2000000 in
theorem ds_47 {T : Nat → Nat} {len p : Nat} {σ : Sg} {Q : SP} (hT : TOK T len) (hC : TR σ T len) (h23 : σ 79 23 = nI p) (hp : p < len) (hsg : T p = 47) (k : ∀ σ1, FA σ σ1 (p + 1) → WM mX10_does Q 65 [some (ar 79), some (ai (nI 47)), some (ai (nI (p + 1))), some (ai (nI 0)), some (ai (nI 0)), some (ai (nI (0))), none, none] [] σ1) : CM mX10_does [ar 79] σ (Q) := by
  have hl := hT.1
  have e83 := hC.2 p hp
  have hti := hT.2 p hp
  refine CM_in (ls := [some (ar 79), none, none, none, none, none, none, none]) rfl ?_
  refine g_aload_n (p0 := 1) (i := 0) dX10_does_0 rfl rfl rfl ?_
  refine g_getR (p0 := 4) dX10_does_1 fX10_19 (by first | rfl | assumption | exact RW.s (by assumption) | exact TW.s (by assumption)) rfl rfl ?_
  refine g_aload_n (p0 := 5) (i := 0) dX10_does_4 rfl rfl rfl ?_
  refine g_getI (p0 := 8) dX10_does_5 fX10_190 (by first | rfl | assumption | exact RW.s (by assumption) | exact TW.s (by assumption)) rfl (by first | assumption | ((repeat (first | exact up_hit | refine up_nv (by decide) ?_ | refine up_mv (by first | decide | omega) ?_)) <;> first | assumption | rfl)) rfl ?_
  first | ((with_reducible refine isN1 ?_); refine g_aldN (p0 := 9) dX10_does_8 (by first | rfl | assumption | exact RW.s (by assumption) | exact TW.s (by assumption)) (by first | decide | assumption) (by omega) (by first | assumption | ((repeat (first | exact up_hit | refine up_nv (by decide) ?_ | refine up_mv (by first | decide | omega) ?_)) <;> first | assumption | rfl)) rfl ?_) | refine g_ald (p0 := 9) dX10_does_8 (by first | rfl | assumption | exact RW.s (by assumption) | exact TW.s (by assumption)) (by assumption) (by first | assumption | ((repeat (first | exact up_hit | refine up_nv (by decide) ?_ | refine up_mv (by first | decide | omega) ?_)) <;> first | assumption | rfl)) rfl ?_
  rw [hsg]
  refine g_istore_n (p0 := 10) (i := 1) (ls2 := [_, _, _, _, _, _, _, _]) dX10_does_9 rfl (Nat.le_of_ble_eq_true rfl) rfl rfl ?_
  refine g_aload_n (p0 := 11) (i := 0) dX10_does_10 rfl rfl rfl ?_
  refine g_dup (p0 := 12) dX10_does_11 rfl ?_
  refine g_getI (p0 := 15) dX10_does_12 fX10_190 (by first | rfl | assumption | exact RW.s (by assumption) | exact TW.s (by assumption)) rfl (by first | assumption | ((repeat (first | exact up_hit | refine up_nv (by decide) ?_ | refine up_mv (by first | decide | omega) ?_)) <;> first | assumption | rfl)) rfl ?_
  refine g_iconst (p0 := 16) (v := nI 1) dX10_does_15 rfl rfl ?_
  first | ((with_reducible refine isN2 ?_); refine g_iaddN (p0 := 17) dX10_does_16 rfl ?_) | refine g_iadd (p0 := 17) dX10_does_16 rfl ?_
  refine g_put (p0 := 20) dX10_does_17 fX10_190 (by first | rfl | assumption | exact RW.s (by assumption) | exact TW.s (by assumption)) rfl nX10_23 (pX10_23 _) rfl ?_
  refine g_aload_n (p0 := 21) (i := 0) dX10_does_20 rfl rfl rfl ?_
  refine g_getI (p0 := 24) dX10_does_21 fX10_190 (by first | rfl | assumption | exact RW.s (by assumption) | exact TW.s (by assumption)) rfl (by first | assumption | ((repeat (first | exact up_hit | refine up_nv (by decide) ?_ | refine up_mv (by first | decide | omega) ?_)) <;> first | assumption | rfl)) rfl ?_
  refine g_istore_n (p0 := 25) (i := 2) (ls2 := [_, _, _, _, _, _, _, _]) dX10_does_24 rfl (Nat.le_of_ble_eq_true rfl) rfl rfl ?_
  refine g_iload_n (p0 := 26) (i := 1) dX10_does_25 rfl rfl rfl ?_
  refine g_bipush (p0 := 28) (v := nI 45) dX10_does_26 (by decide) rfl ?_
  first | ((with_reducible refine isN2 ?_); refine g_icmpN_eq (tgt := 37) (p1 := 31) dX10_does_28 rfl (by omega) (by omega) rfl (fun c_28 => by exfalso; first | omega | contradiction | exact absurd h c_28 | exact h c_28 | exact c_28 h | exact c_28 (by decide) | exact c_28 rfl | exact absurd rfl c_28) (fun c_28 => ?_)) | refine g_icmp_eq (tgt := 37) (p1 := 31) dX10_does_28 rfl rfl (fun c_28 => by exfalso; first | omega | contradiction | exact absurd h c_28 | exact h c_28 | exact c_28 h | exact c_28 (by decide) | exact c_28 rfl | exact absurd rfl c_28) (fun c_28 => ?_)
  refine g_iload_n (p0 := 32) (i := 1) dX10_does_31 rfl rfl rfl ?_
  refine g_bipush (p0 := 34) (v := nI 43) dX10_does_32 (by decide) rfl ?_
  first | ((with_reducible refine isN2 ?_); refine g_icmpN_ne (tgt := 41) (p1 := 37) dX10_does_34 rfl (by omega) (by omega) rfl (fun c_34 => ?_) (fun c_34 => by exfalso; first | omega | contradiction | exact absurd h c_34 | exact h c_34 | exact c_34 h | exact c_34 (by decide) | exact c_34 rfl | exact absurd rfl c_34)) | refine g_icmp_ne (tgt := 41) (p1 := 37) dX10_does_34 rfl rfl (fun c_34 => ?_) (fun c_34 => by exfalso; first | omega | contradiction | exact absurd h c_34 | exact h c_34 | exact c_34 h | exact c_34 (by decide) | exact c_34 rfl | exact absurd rfl c_34)
  refine g_iconst (p0 := 42) (v := nI 0) dX10_does_41 rfl rfl ?_
  refine g_istore_n (p0 := 43) (i := 3) (ls2 := [_, _, _, _, _, _, _, _]) dX10_does_42 rfl (Nat.le_of_ble_eq_true rfl) rfl rfl ?_
  refine g_iload_n (p0 := 44) (i := 1) dX10_does_43 rfl rfl rfl ?_
  refine g_bipush (p0 := 46) (v := nI 61) dX10_does_44 (by decide) rfl ?_
  first | ((with_reducible refine isN2 ?_); refine g_icmpN_eq (tgt := 55) (p1 := 49) dX10_does_46 rfl (by omega) (by omega) rfl (fun c_46 => by exfalso; first | omega | contradiction | exact absurd h c_46 | exact h c_46 | exact c_46 h | exact c_46 (by decide) | exact c_46 rfl | exact absurd rfl c_46) (fun c_46 => ?_)) | refine g_icmp_eq (tgt := 55) (p1 := 49) dX10_does_46 rfl rfl (fun c_46 => by exfalso; first | omega | contradiction | exact absurd h c_46 | exact h c_46 | exact c_46 h | exact c_46 (by decide) | exact c_46 rfl | exact absurd rfl c_46) (fun c_46 => ?_)
  refine g_iload_n (p0 := 50) (i := 1) dX10_does_49 rfl rfl rfl ?_
  refine g_bipush (p0 := 52) (v := nI 33) dX10_does_50 (by decide) rfl ?_
  first | ((with_reducible refine isN2 ?_); refine g_icmpN_ne (tgt := 59) (p1 := 55) dX10_does_52 rfl (by omega) (by omega) rfl (fun c_52 => ?_) (fun c_52 => by exfalso; first | omega | contradiction | exact absurd h c_52 | exact h c_52 | exact c_52 h | exact c_52 (by decide) | exact c_52 rfl | exact absurd rfl c_52)) | refine g_icmp_ne (tgt := 59) (p1 := 55) dX10_does_52 rfl rfl (fun c_52 => ?_) (fun c_52 => by exfalso; first | omega | contradiction | exact absurd h c_52 | exact h c_52 | exact c_52 h | exact c_52 (by decide) | exact c_52 rfl | exact absurd rfl c_52)
  refine g_iconst (p0 := 60) (v := nI 0) dX10_does_59 rfl rfl ?_
  refine g_istore (p0 := 62) (i := 4) (ls2 := [_, _, _, _, _, _, _, _]) dX10_does_60 (Nat.le_of_ble_eq_true rfl) rfl rfl ?_
  refine g_iconst (p0 := 63) (v := nI 0) dX10_does_62 rfl rfl ?_
  refine g_istore (p0 := 65) (i := 5) (ls2 := [_, _, _, _, _, _, _, _]) dX10_does_63 (Nat.le_of_ble_eq_true rfl) rfl rfl ?_
  exact k _ ⟨fun z hz => up_ne hz, fun q hq => up_miss hq, up_hit⟩
set_option maxRecDepth 20000 in
set_option maxHeartbeats 2000000 in
theorem ds_O {T : Nat → Nat} {len p : Nat} {σ : Sg} {Q : SP} (hT : TOK T len) (hC : TR σ T len) (h23 : σ 79 23 = nI p) (hp : p < len) (h45 : ¬ T p = 45) (h43 : ¬ T p = 43) (h61 : ¬ T p = 61) (h33 : ¬ T p = 33) (k : ∀ σ1, FA σ σ1 (p + 1) → WM mX10_does Q 65 [some (ar 79), some (ai (nI (T p))), some (ai (nI (p + 1))), some (ai (nI 0)), some (ai (nI 0)), some (ai (nI (0))), none, none] [] σ1) : CM mX10_does [ar 79] σ (Q) := by
  have hl := hT.1
  have e83 := hC.2 p hp
  have hti := hT.2 p hp
  refine CM_in (ls := [some (ar 79), none, none, none, none, none, none, none]) rfl ?_
  refine g_aload_n (p0 := 1) (i := 0) dX10_does_0 rfl rfl rfl ?_
  refine g_getR (p0 := 4) dX10_does_1 fX10_19 (by first | rfl | assumption | exact RW.s (by assumption) | exact TW.s (by assumption)) rfl rfl ?_
  refine g_aload_n (p0 := 5) (i := 0) dX10_does_4 rfl rfl rfl ?_
  refine g_getI (p0 := 8) dX10_does_5 fX10_190 (by first | rfl | assumption | exact RW.s (by assumption) | exact TW.s (by assumption)) rfl (by first | assumption | ((repeat (first | exact up_hit | refine up_nv (by decide) ?_ | refine up_mv (by first | decide | omega) ?_)) <;> first | assumption | rfl)) rfl ?_
  first | ((with_reducible refine isN1 ?_); refine g_aldN (p0 := 9) dX10_does_8 (by first | rfl | assumption | exact RW.s (by assumption) | exact TW.s (by assumption)) (by first | decide | assumption) (by omega) (by first | assumption | ((repeat (first | exact up_hit | refine up_nv (by decide) ?_ | refine up_mv (by first | decide | omega) ?_)) <;> first | assumption | rfl)) rfl ?_) | refine g_ald (p0 := 9) dX10_does_8 (by first | rfl | assumption | exact RW.s (by assumption) | exact TW.s (by assumption)) (by assumption) (by first | assumption | ((repeat (first | exact up_hit | refine up_nv (by decide) ?_ | refine up_mv (by first | decide | omega) ?_)) <;> first | assumption | rfl)) rfl ?_
  refine g_istore_n (p0 := 10) (i := 1) (ls2 := [_, _, _, _, _, _, _, _]) dX10_does_9 rfl (Nat.le_of_ble_eq_true rfl) rfl rfl ?_
  refine g_aload_n (p0 := 11) (i := 0) dX10_does_10 rfl rfl rfl ?_
  refine g_dup (p0 := 12) dX10_does_11 rfl ?_
  refine g_getI (p0 := 15) dX10_does_12 fX10_190 (by first | rfl | assumption | exact RW.s (by assumption) | exact TW.s (by assumption)) rfl (by first | assumption | ((repeat (first | exact up_hit | refine up_nv (by decide) ?_ | refine up_mv (by first | decide | omega) ?_)) <;> first | assumption | rfl)) rfl ?_
  refine g_iconst (p0 := 16) (v := nI 1) dX10_does_15 rfl rfl ?_
  first | ((with_reducible refine isN2 ?_); refine g_iaddN (p0 := 17) dX10_does_16 rfl ?_) | refine g_iadd (p0 := 17) dX10_does_16 rfl ?_
  refine g_put (p0 := 20) dX10_does_17 fX10_190 (by first | rfl | assumption | exact RW.s (by assumption) | exact TW.s (by assumption)) rfl nX10_23 (pX10_23 _) rfl ?_
  refine g_aload_n (p0 := 21) (i := 0) dX10_does_20 rfl rfl rfl ?_
  refine g_getI (p0 := 24) dX10_does_21 fX10_190 (by first | rfl | assumption | exact RW.s (by assumption) | exact TW.s (by assumption)) rfl (by first | assumption | ((repeat (first | exact up_hit | refine up_nv (by decide) ?_ | refine up_mv (by first | decide | omega) ?_)) <;> first | assumption | rfl)) rfl ?_
  refine g_istore_n (p0 := 25) (i := 2) (ls2 := [_, _, _, _, _, _, _, _]) dX10_does_24 rfl (Nat.le_of_ble_eq_true rfl) rfl rfl ?_
  refine g_iload_n (p0 := 26) (i := 1) dX10_does_25 rfl rfl rfl ?_
  refine g_bipush (p0 := 28) (v := nI 45) dX10_does_26 (by decide) rfl ?_
  first | ((with_reducible refine isN2 ?_); refine g_icmpN_eq (tgt := 37) (p1 := 31) dX10_does_28 rfl (by omega) (by omega) rfl (fun c_28 => by exfalso; first | omega | contradiction | exact absurd h c_28 | exact h c_28 | exact c_28 h | exact c_28 (by decide) | exact c_28 rfl | exact absurd rfl c_28) (fun c_28 => ?_)) | refine g_icmp_eq (tgt := 37) (p1 := 31) dX10_does_28 rfl rfl (fun c_28 => by exfalso; first | omega | contradiction | exact absurd h c_28 | exact h c_28 | exact c_28 h | exact c_28 (by decide) | exact c_28 rfl | exact absurd rfl c_28) (fun c_28 => ?_)
  refine g_iload_n (p0 := 32) (i := 1) dX10_does_31 rfl rfl rfl ?_
  refine g_bipush (p0 := 34) (v := nI 43) dX10_does_32 (by decide) rfl ?_
  first | ((with_reducible refine isN2 ?_); refine g_icmpN_ne (tgt := 41) (p1 := 37) dX10_does_34 rfl (by omega) (by omega) rfl (fun c_34 => ?_) (fun c_34 => by exfalso; first | omega | contradiction | exact absurd h c_34 | exact h c_34 | exact c_34 h | exact c_34 (by decide) | exact c_34 rfl | exact absurd rfl c_34)) | refine g_icmp_ne (tgt := 41) (p1 := 37) dX10_does_34 rfl rfl (fun c_34 => ?_) (fun c_34 => by exfalso; first | omega | contradiction | exact absurd h c_34 | exact h c_34 | exact c_34 h | exact c_34 (by decide) | exact c_34 rfl | exact absurd rfl c_34)
  refine g_iconst (p0 := 42) (v := nI 0) dX10_does_41 rfl rfl ?_
  refine g_istore_n (p0 := 43) (i := 3) (ls2 := [_, _, _, _, _, _, _, _]) dX10_does_42 rfl (Nat.le_of_ble_eq_true rfl) rfl rfl ?_
  refine g_iload_n (p0 := 44) (i := 1) dX10_does_43 rfl rfl rfl ?_
  refine g_bipush (p0 := 46) (v := nI 61) dX10_does_44 (by decide) rfl ?_
  first | ((with_reducible refine isN2 ?_); refine g_icmpN_eq (tgt := 55) (p1 := 49) dX10_does_46 rfl (by omega) (by omega) rfl (fun c_46 => by exfalso; first | omega | contradiction | exact absurd h c_46 | exact h c_46 | exact c_46 h | exact c_46 (by decide) | exact c_46 rfl | exact absurd rfl c_46) (fun c_46 => ?_)) | refine g_icmp_eq (tgt := 55) (p1 := 49) dX10_does_46 rfl rfl (fun c_46 => by exfalso; first | omega | contradiction | exact absurd h c_46 | exact h c_46 | exact c_46 h | exact c_46 (by decide) | exact c_46 rfl | exact absurd rfl c_46) (fun c_46 => ?_)
  refine g_iload_n (p0 := 50) (i := 1) dX10_does_49 rfl rfl rfl ?_
  refine g_bipush (p0 := 52) (v := nI 33) dX10_does_50 (by decide) rfl ?_
  first | ((with_reducible refine isN2 ?_); refine g_icmpN_ne (tgt := 59) (p1 := 55) dX10_does_52 rfl (by omega) (by omega) rfl (fun c_52 => ?_) (fun c_52 => by exfalso; first | omega | contradiction | exact absurd h c_52 | exact h c_52 | exact c_52 h | exact c_52 (by decide) | exact c_52 rfl | exact absurd rfl c_52)) | refine g_icmp_ne (tgt := 59) (p1 := 55) dX10_does_52 rfl rfl (fun c_52 => ?_) (fun c_52 => by exfalso; first | omega | contradiction | exact absurd h c_52 | exact h c_52 | exact c_52 h | exact c_52 (by decide) | exact c_52 rfl | exact absurd rfl c_52)
  refine g_iconst (p0 := 60) (v := nI 0) dX10_does_59 rfl rfl ?_
  refine g_istore (p0 := 62) (i := 4) (ls2 := [_, _, _, _, _, _, _, _]) dX10_does_60 (Nat.le_of_ble_eq_true rfl) rfl rfl ?_
  refine g_iconst (p0 := 63) (v := nI 0) dX10_does_62 rfl rfl ?_
  refine g_istore (p0 := 65) (i := 5) (ls2 := [_, _, _, _, _, _, _, _]) dX10_does_63 (Nat.le_of_ble_eq_true rfl) rfl rfl ?_
  exact k _ ⟨fun z hz => up_ne hz, fun q hq => up_miss hq, up_hit⟩
set_option maxRecDepth 20000 in
set_option maxHeartbeats 2000000 in
theorem dP_g {T : Nat → Nat} {len p : Nat} {σ σ1 : Sg} {Q : SP} (hT : TOK T len) (hC : TR σ T len) (hp : p < len) (e : FA σ σ1 (p + 1)) (h2 : p + 1 < len) (h3 : T (p + 1) = 59) (k : WM mX10_does Q 195 [some (ar 79), some (ai (nI 47)), some (ai (nI (p + 1))), some (ai (nI 0)), some (ai (nI 0)), some (ai (nI (0))), some (ai (nI 1)), none] [] σ1) : WM mX10_does Q 65 [some (ar 79), some (ai (nI 47)), some (ai (nI (p + 1))), some (ai (nI 0)), some (ai (nI 0)), some (ai (nI (0))), none, none] [] σ1 := by
  have hl := hT.1
  have e23 := e.at
  refine g_iload_n (p0 := 66) (i := 3) dX10_does_65 rfl rfl rfl ?_
  first | ((with_reducible refine isN1 ?_); refine g_ifN_eq (tgt := 90) (p1 := 69) dX10_does_66 rfl (by omega) rfl (fun c_66 => ?_) (fun c_66 => by exfalso; first | omega | contradiction | exact absurd h c_66 | exact h c_66 | exact c_66 h | exact c_66 (by decide) | exact c_66 rfl | exact absurd rfl c_66)) | refine g_if_eq (tgt := 90) (p1 := 69) dX10_does_66 rfl rfl (fun c_66 => ?_) (fun c_66 => by exfalso; first | omega | contradiction | exact absurd h c_66 | exact h c_66 | exact c_66 h | exact c_66 (by decide) | exact c_66 rfl | exact absurd rfl c_66)
  refine g_iload (p0 := 92) dX10_does_90 rfl rfl ?_
  first | ((with_reducible refine isN1 ?_); refine g_ifN_eq (tgt := 147) (p1 := 95) dX10_does_92 rfl (by omega) rfl (fun c_92 => ?_) (fun c_92 => by exfalso; first | omega | contradiction | exact absurd h c_92 | exact h c_92 | exact c_92 h | exact c_92 (by decide) | exact c_92 rfl | exact absurd rfl c_92)) | refine g_if_eq (tgt := 147) (p1 := 95) dX10_does_92 rfl rfl (fun c_92 => ?_) (fun c_92 => by exfalso; first | omega | contradiction | exact absurd h c_92 | exact h c_92 | exact c_92 h | exact c_92 (by decide) | exact c_92 rfl | exact absurd rfl c_92)
  refine g_iload_n (p0 := 148) (i := 3) dX10_does_147 rfl rfl rfl ?_
  first | ((with_reducible refine isN1 ?_); refine g_ifN_ne (tgt := 156) (p1 := 151) dX10_does_148 rfl (by omega) rfl (fun c_148 => by exfalso; first | omega | contradiction | exact absurd h c_148 | exact h c_148 | exact c_148 h | exact c_148 (by decide) | exact c_148 rfl | exact absurd rfl c_148) (fun c_148 => ?_)) | refine g_if_ne (tgt := 156) (p1 := 151) dX10_does_148 rfl rfl (fun c_148 => by exfalso; first | omega | contradiction | exact absurd h c_148 | exact h c_148 | exact c_148 h | exact c_148 (by decide) | exact c_148 rfl | exact absurd rfl c_148) (fun c_148 => ?_)
  refine g_iload (p0 := 153) dX10_does_151 rfl rfl ?_
  first | ((with_reducible refine isN1 ?_); refine g_ifN_eq (tgt := 164) (p1 := 156) dX10_does_153 rfl (by omega) rfl (fun c_153 => ?_) (fun c_153 => by exfalso; first | omega | contradiction | exact absurd h c_153 | exact h c_153 | exact c_153 h | exact c_153 (by decide) | exact c_153 rfl | exact absurd rfl c_153)) | refine g_if_eq (tgt := 164) (p1 := 156) dX10_does_153 rfl rfl (fun c_153 => ?_) (fun c_153 => by exfalso; first | omega | contradiction | exact absurd h c_153 | exact h c_153 | exact c_153 h | exact c_153 (by decide) | exact c_153 rfl | exact absurd rfl c_153)
  refine g_iload_n (p0 := 165) (i := 1) dX10_does_164 rfl rfl rfl ?_
  refine g_bipush (p0 := 167) (v := nI 47) dX10_does_165 (by decide) rfl ?_
  first | ((with_reducible refine isN2 ?_); refine g_icmpN_ne (tgt := 174) (p1 := 170) dX10_does_167 rfl (by omega) (by omega) rfl (fun c_167 => by exfalso; first | omega | contradiction | exact absurd h c_167 | exact h c_167 | exact c_167 h | exact c_167 (by decide) | exact c_167 rfl | exact absurd rfl c_167) (fun c_167 => ?_)) | refine g_icmp_ne (tgt := 174) (p1 := 170) dX10_does_167 rfl rfl (fun c_167 => by exfalso; first | omega | contradiction | exact absurd h c_167 | exact h c_167 | exact c_167 h | exact c_167 (by decide) | exact c_167 rfl | exact absurd rfl c_167) (fun c_167 => ?_)
  refine g_iconst (p0 := 171) (v := nI 1) dX10_does_170 rfl rfl ?_
  refine g_goto (tgt := 175) dX10_does_171 rfl ?_
  refine g_istore (p0 := 177) (i := 6) (ls2 := [_, _, _, _, _, _, _, _]) dX10_does_175 (Nat.le_of_ble_eq_true rfl) rfl rfl ?_
  refine g_iload (p0 := 179) dX10_does_177 rfl rfl ?_
  first | ((with_reducible refine isN1 ?_); refine g_ifN_eq (tgt := 193) (p1 := 182) dX10_does_179 rfl (by omega) rfl (fun c_179 => by exfalso; first | omega | contradiction | exact absurd h c_179 | exact h c_179 | exact c_179 h | exact c_179 (by decide) | exact c_179 rfl | exact absurd rfl c_179) (fun c_179 => ?_)) | refine g_if_eq (tgt := 193) (p1 := 182) dX10_does_179 rfl rfl (fun c_179 => by exfalso; first | omega | contradiction | exact absurd h c_179 | exact h c_179 | exact c_179 h | exact c_179 (by decide) | exact c_179 rfl | exact absurd rfl c_179) (fun c_179 => ?_)
  refine g_aload_n (p0 := 183) (i := 0) dX10_does_182 rfl rfl rfl ?_
  refine g_bipush (p0 := 185) (v := nI 59) dX10_does_183 (by decide) rfl ?_
  refine g_bipush (p0 := 187) (v := nI 59) dX10_does_185 (by decide) rfl ?_
  refine g_cV2R (p0 := 190) (r1 := mX10_isAt) dX10_does_187 lX10_196 vX10_isAt (by first | rfl | assumption | exact RW.s (by assumption) | exact TW.s (by assumption)) ⟨_, _, rfl⟩ (FITi rfl rfl) (Nat.le_of_ble_eq_true rfl) (isAt_T hT (e.tr hC) e.at (by omega) (by decide) (by decide) h2 (by rw [h3]; decide)) rfl ?_
  first | ((with_reducible refine isN1 ?_); refine g_ifN_ne (tgt := 195) (p1 := 193) dX10_does_190 rfl (by omega) rfl (fun c_190 => ?_) (fun c_190 => by exfalso; first | omega | contradiction | exact absurd h c_190 | exact h c_190 | exact c_190 h | exact c_190 (by decide) | exact c_190 rfl | exact absurd rfl c_190)) | refine g_if_ne (tgt := 195) (p1 := 193) dX10_does_190 rfl rfl (fun c_190 => ?_) (fun c_190 => by exfalso; first | omega | contradiction | exact absurd h c_190 | exact h c_190 | exact c_190 h | exact c_190 (by decide) | exact c_190 rfl | exact absurd rfl c_190)
  exact k
set_option maxRecDepth 20000 in
set_option maxHeartbeats 2000000 in
theorem dP_b {T : Nat → Nat} {len p : Nat} {σ σ1 : Sg} {Q : SP} (hT : TOK T len) (hC : TR σ T len) (hp : p < len) (e : FA σ σ1 (p + 1)) (h2 : ¬ (p + 1 < len ∧ T (p + 1) = 59)) (k : Q (some (ai (nI 1))) σ1) : WM mX10_does Q 65 [some (ar 79), some (ai (nI 47)), some (ai (nI (p + 1))), some (ai (nI 0)), some (ai (nI 0)), some (ai (nI (0))), none, none] [] σ1 := by
  have hl := hT.1
  have e23 := e.at
  refine g_iload_n (p0 := 66) (i := 3) dX10_does_65 rfl rfl rfl ?_
  first | ((with_reducible refine isN1 ?_); refine g_ifN_eq (tgt := 90) (p1 := 69) dX10_does_66 rfl (by omega) rfl (fun c_66 => ?_) (fun c_66 => by exfalso; first | omega | contradiction | exact absurd h c_66 | exact h c_66 | exact c_66 h | exact c_66 (by decide) | exact c_66 rfl | exact absurd rfl c_66)) | refine g_if_eq (tgt := 90) (p1 := 69) dX10_does_66 rfl rfl (fun c_66 => ?_) (fun c_66 => by exfalso; first | omega | contradiction | exact absurd h c_66 | exact h c_66 | exact c_66 h | exact c_66 (by decide) | exact c_66 rfl | exact absurd rfl c_66)
  refine g_iload (p0 := 92) dX10_does_90 rfl rfl ?_
  first | ((with_reducible refine isN1 ?_); refine g_ifN_eq (tgt := 147) (p1 := 95) dX10_does_92 rfl (by omega) rfl (fun c_92 => ?_) (fun c_92 => by exfalso; first | omega | contradiction | exact absurd h c_92 | exact h c_92 | exact c_92 h | exact c_92 (by decide) | exact c_92 rfl | exact absurd rfl c_92)) | refine g_if_eq (tgt := 147) (p1 := 95) dX10_does_92 rfl rfl (fun c_92 => ?_) (fun c_92 => by exfalso; first | omega | contradiction | exact absurd h c_92 | exact h c_92 | exact c_92 h | exact c_92 (by decide) | exact c_92 rfl | exact absurd rfl c_92)
  refine g_iload_n (p0 := 148) (i := 3) dX10_does_147 rfl rfl rfl ?_
  first | ((with_reducible refine isN1 ?_); refine g_ifN_ne (tgt := 156) (p1 := 151) dX10_does_148 rfl (by omega) rfl (fun c_148 => by exfalso; first | omega | contradiction | exact absurd h c_148 | exact h c_148 | exact c_148 h | exact c_148 (by decide) | exact c_148 rfl | exact absurd rfl c_148) (fun c_148 => ?_)) | refine g_if_ne (tgt := 156) (p1 := 151) dX10_does_148 rfl rfl (fun c_148 => by exfalso; first | omega | contradiction | exact absurd h c_148 | exact h c_148 | exact c_148 h | exact c_148 (by decide) | exact c_148 rfl | exact absurd rfl c_148) (fun c_148 => ?_)
  refine g_iload (p0 := 153) dX10_does_151 rfl rfl ?_
  first | ((with_reducible refine isN1 ?_); refine g_ifN_eq (tgt := 164) (p1 := 156) dX10_does_153 rfl (by omega) rfl (fun c_153 => ?_) (fun c_153 => by exfalso; first | omega | contradiction | exact absurd h c_153 | exact h c_153 | exact c_153 h | exact c_153 (by decide) | exact c_153 rfl | exact absurd rfl c_153)) | refine g_if_eq (tgt := 164) (p1 := 156) dX10_does_153 rfl rfl (fun c_153 => ?_) (fun c_153 => by exfalso; first | omega | contradiction | exact absurd h c_153 | exact h c_153 | exact c_153 h | exact c_153 (by decide) | exact c_153 rfl | exact absurd rfl c_153)
  refine g_iload_n (p0 := 165) (i := 1) dX10_does_164 rfl rfl rfl ?_
  refine g_bipush (p0 := 167) (v := nI 47) dX10_does_165 (by decide) rfl ?_
  first | ((with_reducible refine isN2 ?_); refine g_icmpN_ne (tgt := 174) (p1 := 170) dX10_does_167 rfl (by omega) (by omega) rfl (fun c_167 => by exfalso; first | omega | contradiction | exact absurd h c_167 | exact h c_167 | exact c_167 h | exact c_167 (by decide) | exact c_167 rfl | exact absurd rfl c_167) (fun c_167 => ?_)) | refine g_icmp_ne (tgt := 174) (p1 := 170) dX10_does_167 rfl rfl (fun c_167 => by exfalso; first | omega | contradiction | exact absurd h c_167 | exact h c_167 | exact c_167 h | exact c_167 (by decide) | exact c_167 rfl | exact absurd rfl c_167) (fun c_167 => ?_)
  refine g_iconst (p0 := 171) (v := nI 1) dX10_does_170 rfl rfl ?_
  refine g_goto (tgt := 175) dX10_does_171 rfl ?_
  refine g_istore (p0 := 177) (i := 6) (ls2 := [_, _, _, _, _, _, _, _]) dX10_does_175 (Nat.le_of_ble_eq_true rfl) rfl rfl ?_
  refine g_iload (p0 := 179) dX10_does_177 rfl rfl ?_
  first | ((with_reducible refine isN1 ?_); refine g_ifN_eq (tgt := 193) (p1 := 182) dX10_does_179 rfl (by omega) rfl (fun c_179 => by exfalso; first | omega | contradiction | exact absurd h c_179 | exact h c_179 | exact c_179 h | exact c_179 (by decide) | exact c_179 rfl | exact absurd rfl c_179) (fun c_179 => ?_)) | refine g_if_eq (tgt := 193) (p1 := 182) dX10_does_179 rfl rfl (fun c_179 => by exfalso; first | omega | contradiction | exact absurd h c_179 | exact h c_179 | exact c_179 h | exact c_179 (by decide) | exact c_179 rfl | exact absurd rfl c_179) (fun c_179 => ?_)
  refine g_aload_n (p0 := 183) (i := 0) dX10_does_182 rfl rfl rfl ?_
  refine g_bipush (p0 := 185) (v := nI 59) dX10_does_183 (by decide) rfl ?_
  refine g_bipush (p0 := 187) (v := nI 59) dX10_does_185 (by decide) rfl ?_
  refine g_cV2R (p0 := 190) (r1 := mX10_isAt) dX10_does_187 lX10_196 vX10_isAt (by first | rfl | assumption | exact RW.s (by assumption) | exact TW.s (by assumption)) ⟨_, _, rfl⟩ (FITi rfl rfl) (Nat.le_of_ble_eq_true rfl) (isAt_F hT (e.tr hC) e.at (by omega) (by decide) (by decide) (fun z => h2 ⟨z.1, by omega⟩)) rfl ?_
  first | ((with_reducible refine isN1 ?_); refine g_ifN_ne (tgt := 195) (p1 := 193) dX10_does_190 rfl (by omega) rfl (fun c_190 => by exfalso; first | omega | contradiction | exact absurd h c_190 | exact h c_190 | exact c_190 h | exact c_190 (by decide) | exact c_190 rfl | exact absurd rfl c_190) (fun c_190 => ?_)) | refine g_if_ne (tgt := 195) (p1 := 193) dX10_does_190 rfl rfl (fun c_190 => by exfalso; first | omega | contradiction | exact absurd h c_190 | exact h c_190 | exact c_190 h | exact c_190 (by decide) | exact c_190 rfl | exact absurd rfl c_190) (fun c_190 => ?_)
  refine g_iconst (p0 := 194) (v := nI 1) dX10_does_193 rfl rfl ?_
  refine g_ireturn dX10_does_194 rfl rfl (?_)
  exact k
set_option maxRecDepth 20000 in
set_option maxHeartbeats 2000000 in
theorem dO_b {T : Nat → Nat} {len p sg : Nat} {σ σ1 : Sg} {Q : SP} (hT : TOK T len) (hC : TR σ T len) (e : FA σ σ1 (p + 1)) (hs1 : sg ≤ 126) (h47 : ¬ sg = 47) (k : Q (some (ai (nI 1))) σ1) : WM mX10_does Q 65 [some (ar 79), some (ai (nI sg)), some (ai (nI (p + 1))), some (ai (nI 0)), some (ai (nI 0)), some (ai (nI (0))), none, none] [] σ1 := by
  have e23 := e.at
  refine g_iload_n (p0 := 66) (i := 3) dX10_does_65 rfl rfl rfl ?_
  first | ((with_reducible refine isN1 ?_); refine g_ifN_eq (tgt := 90) (p1 := 69) dX10_does_66 rfl (by omega) rfl (fun c_66 => ?_) (fun c_66 => by exfalso; first | omega | contradiction | exact absurd h c_66 | exact h c_66 | exact c_66 h | exact c_66 (by decide) | exact c_66 rfl | exact absurd rfl c_66)) | refine g_if_eq (tgt := 90) (p1 := 69) dX10_does_66 rfl rfl (fun c_66 => ?_) (fun c_66 => by exfalso; first | omega | contradiction | exact absurd h c_66 | exact h c_66 | exact c_66 h | exact c_66 (by decide) | exact c_66 rfl | exact absurd rfl c_66)
  refine g_iload (p0 := 92) dX10_does_90 rfl rfl ?_
  first | ((with_reducible refine isN1 ?_); refine g_ifN_eq (tgt := 147) (p1 := 95) dX10_does_92 rfl (by omega) rfl (fun c_92 => ?_) (fun c_92 => by exfalso; first | omega | contradiction | exact absurd h c_92 | exact h c_92 | exact c_92 h | exact c_92 (by decide) | exact c_92 rfl | exact absurd rfl c_92)) | refine g_if_eq (tgt := 147) (p1 := 95) dX10_does_92 rfl rfl (fun c_92 => ?_) (fun c_92 => by exfalso; first | omega | contradiction | exact absurd h c_92 | exact h c_92 | exact c_92 h | exact c_92 (by decide) | exact c_92 rfl | exact absurd rfl c_92)
  refine g_iload_n (p0 := 148) (i := 3) dX10_does_147 rfl rfl rfl ?_
  first | ((with_reducible refine isN1 ?_); refine g_ifN_ne (tgt := 156) (p1 := 151) dX10_does_148 rfl (by omega) rfl (fun c_148 => by exfalso; first | omega | contradiction | exact absurd h c_148 | exact h c_148 | exact c_148 h | exact c_148 (by decide) | exact c_148 rfl | exact absurd rfl c_148) (fun c_148 => ?_)) | refine g_if_ne (tgt := 156) (p1 := 151) dX10_does_148 rfl rfl (fun c_148 => by exfalso; first | omega | contradiction | exact absurd h c_148 | exact h c_148 | exact c_148 h | exact c_148 (by decide) | exact c_148 rfl | exact absurd rfl c_148) (fun c_148 => ?_)
  refine g_iload (p0 := 153) dX10_does_151 rfl rfl ?_
  first | ((with_reducible refine isN1 ?_); refine g_ifN_eq (tgt := 164) (p1 := 156) dX10_does_153 rfl (by omega) rfl (fun c_153 => ?_) (fun c_153 => by exfalso; first | omega | contradiction | exact absurd h c_153 | exact h c_153 | exact c_153 h | exact c_153 (by decide) | exact c_153 rfl | exact absurd rfl c_153)) | refine g_if_eq (tgt := 164) (p1 := 156) dX10_does_153 rfl rfl (fun c_153 => ?_) (fun c_153 => by exfalso; first | omega | contradiction | exact absurd h c_153 | exact h c_153 | exact c_153 h | exact c_153 (by decide) | exact c_153 rfl | exact absurd rfl c_153)
  refine g_iload_n (p0 := 165) (i := 1) dX10_does_164 rfl rfl rfl ?_
  refine g_bipush (p0 := 167) (v := nI 47) dX10_does_165 (by decide) rfl ?_
  first | ((with_reducible refine isN2 ?_); refine g_icmpN_ne (tgt := 174) (p1 := 170) dX10_does_167 rfl (by omega) (by omega) rfl (fun c_167 => ?_) (fun c_167 => by exfalso; first | omega | contradiction | exact absurd h c_167 | exact h c_167 | exact c_167 h | exact c_167 (by decide) | exact c_167 rfl | exact absurd rfl c_167)) | refine g_icmp_ne (tgt := 174) (p1 := 170) dX10_does_167 rfl rfl (fun c_167 => ?_) (fun c_167 => by exfalso; first | omega | contradiction | exact absurd h c_167 | exact h c_167 | exact c_167 h | exact c_167 (by decide) | exact c_167 rfl | exact absurd rfl c_167)
  refine g_iconst (p0 := 175) (v := nI 0) dX10_does_174 rfl rfl ?_
  refine g_istore (p0 := 177) (i := 6) (ls2 := [_, _, _, _, _, _, _, _]) dX10_does_175 (Nat.le_of_ble_eq_true rfl) rfl rfl ?_
  refine g_iload (p0 := 179) dX10_does_177 rfl rfl ?_
  first | ((with_reducible refine isN1 ?_); refine g_ifN_eq (tgt := 193) (p1 := 182) dX10_does_179 rfl (by omega) rfl (fun c_179 => ?_) (fun c_179 => by exfalso; first | omega | contradiction | exact absurd h c_179 | exact h c_179 | exact c_179 h | exact c_179 (by decide) | exact c_179 rfl | exact absurd rfl c_179)) | refine g_if_eq (tgt := 193) (p1 := 182) dX10_does_179 rfl rfl (fun c_179 => ?_) (fun c_179 => by exfalso; first | omega | contradiction | exact absurd h c_179 | exact h c_179 | exact c_179 h | exact c_179 (by decide) | exact c_179 rfl | exact absurd rfl c_179)
  refine g_iconst (p0 := 194) (v := nI 1) dX10_does_193 rfl rfl ?_
  refine g_ireturn dX10_does_194 rfl rfl (?_)
  exact k
