/-! THE LAW, over any set X that is closed under the rules -/
def mL_law : MR := (yL_law, cL_law, 9, some .boolean, 11, 474)
def QL : AP := fun w _ => w = some (ai (nI 1))
theorem x_cVR {r r1 : MR} {X : AX} {a b : Nat} {Q0 : AP} {σ σ1 : Sg} {v : Int32} {pc : Nat} {ls : List (Option AV)} {st st0 : List AV} {i o ci n p0 : Nat} {As : List AV} {fl : List (Option Nat)} (hX : Rules r (Cd (rf r)) Q0 X) (h1 : decode (rc r) pc = .ok (.invokevirtual i, 3)) (h2 : Cond.methodLink (ro r) i (ry r1) ∈ Wl) (h3 : MV r1 n) (hs : SHl[o]? = some (.inl (ci, fl))) (hk : KC ci (ro r1)) (hf : FIT r1 r) (hl : st.length ≤ 8) (hn : As.length = n) (hst : As.reverse ++ ar o :: st = st0) (hc : CM r1 (ar o :: As) σ (Ret v σ1)) (e1 : pc + 3 = p0) (k1 : XM X a b p0 ls (ai v :: st) σ1) : XM X a b pc ls st0 σ :=
  x_cV hX h1 h2 h3 hs hk hf hl hn hst (Nat.zero_add a) (Nat.zero_add b) hc e1 (fun w σ2 q => by obtain ⟨rfl, rfl⟩ := q; exact k1)
theorem x_cVI {r r1 : MR} {X : AX} {a b : Nat} {Q0 : AP} {σ : Sg} {P : Int32 → Sg → Prop} {pc : Nat} {ls : List (Option AV)} {st st0 : List AV} {i o ci n p0 : Nat} {As : List AV} {fl : List (Option Nat)} (hX : Rules r (Cd (rf r)) Q0 X) (h1 : decode (rc r) pc = .ok (.invokevirtual i, 3)) (h2 : Cond.methodLink (ro r) i (ry r1) ∈ Wl) (h3 : MV r1 n) (hs : SHl[o]? = some (.inl (ci, fl))) (hk : KC ci (ro r1)) (hf : FIT r1 r) (hl : st.length ≤ 8) (hn : As.length = n) (hst : As.reverse ++ ar o :: st = st0) (hc : CM r1 (ar o :: As) σ (RelI P)) (e1 : pc + 3 = p0) (k1 : ∀ v σ1, P v σ1 → XM X a b p0 ls (ai v :: st) σ1) : XM X a b pc ls st0 σ :=
  x_cV hX h1 h2 h3 hs hk hf hl hn hst (Nat.zero_add a) (Nat.zero_add b) hc e1 (fun w σ2 q => by obtain ⟨v, rfl, q2⟩ := q; exact k1 v σ2 q2)
theorem x_cSR {r r1 : MR} {X : AX} {a b : Nat} {Q0 : AP} {σ σ1 : Sg} {v : Int32} {pc : Nat} {ls : List (Option AV)} {st st0 : List AV} {i n p0 : Nat} {As : List AV} (hX : Rules r (Cd (rf r)) Q0 X) (h1 : decode (rc r) pc = .ok (.invokestatic i, 3)) (h2 : Cond.methodLink (ro r) i (ry r1) ∈ Wl ∨ (ro r, i, ry r1) ∈ nestL) (h3 : MS r1 n) (hf : FIT r1 r) (hl : st.length ≤ 8) (hn : As.length = n) (hst : As.reverse ++ st = st0) (hc : CM r1 As σ (Ret v σ1)) (e1 : pc + 3 = p0) (k1 : XM X a b p0 ls (ai v :: st) σ1) : XM X a b pc ls st0 σ :=
  x_cS hX h1 h2 h3 hf hl hn hst (Nat.zero_add a) (Nat.zero_add b) hc e1 (fun w σ2 q => by obtain ⟨rfl, rfl⟩ := q; exact k1)
theorem x_cSI {r r1 : MR} {X : AX} {a b : Nat} {Q0 : AP} {σ : Sg} {P : Int32 → Sg → Prop} {pc : Nat} {ls : List (Option AV)} {st st0 : List AV} {i n p0 : Nat} {As : List AV} (hX : Rules r (Cd (rf r)) Q0 X) (h1 : decode (rc r) pc = .ok (.invokestatic i, 3)) (h2 : Cond.methodLink (ro r) i (ry r1) ∈ Wl ∨ (ro r, i, ry r1) ∈ nestL) (h3 : MS r1 n) (hf : FIT r1 r) (hl : st.length ≤ 8) (hn : As.length = n) (hst : As.reverse ++ st = st0) (hc : CM r1 As σ (RelI P)) (e1 : pc + 3 = p0) (k1 : ∀ v σ1, P v σ1 → XM X a b p0 ls (ai v :: st) σ1) : XM X a b pc ls st0 σ :=
  x_cS hX h1 h2 h3 hf hl hn hst (Nat.zero_add a) (Nat.zero_add b) hc e1 (fun w σ2 q => by obtain ⟨v, rfl, q2⟩ := q; exact k1 v σ2 q2)
theorem x_isSo {X : AX} {a b a0 b0 n0 : Nat} {σ : Sg} {pc p0 : Nat} {ls : List (Option AV)} (hX : Rules mL_law (Cd (rf mL_law)) QL X) (h1 : decode (rc mL_law) pc = .ok (.invokestatic 110, 3)) (ea : 7 + a = a0) (eb : 448 + b = b0) (hJ : LJ σ) (hg : gN σ = n0) (hn : n0 < 9000) (e1 : pc + 3 = p0) (k1 : ∀ σ1, (∀ z, z < 82 → σ1 z = σ z) → gN σ1 = n0 + 7 → XM X a b p0 ls [ai (nI 1)] σ1) : XM X a0 b0 pc ls [ar 81, ar 80, ar 79, ar 0] σ := by
  obtain ⟨ρ, s, hK, hG, hS, hs⟩ := hJ
  refine x_cS (n := 4) (r1 := mL_isSo) (As := [ar 0, ar 79, ar 80, ar 81]) (st := []) hX h1 (Or.inl lL_110) vL_isSo (FITi rfl rfl) (Nat.le_of_ble_eq_true rfl) rfl rfl ea eb (isSo_sp (LI_of hK hG hs) hg hn) e1 (fun w σ1 q => ?_)
  obtain ⟨rfl, f, g⟩ := q
  exact k1 σ1 f g
theorem LJ.of {σ σ' : Sg} (h : LJ σ) (f : ∀ z, z < 82 → σ' z = σ z) : LJ σ' := by
  obtain ⟨ρ, s, hK, ⟨g, h81, h80⟩, hS, hs⟩ := h
  refine ⟨ρ, s, hK.of (fun z hz => f z (by omega)), ⟨?_, ?_, ?_⟩, hS, hs⟩
  · rw [f 79 (by decide)]; exact g
  · rw [f 81 (by decide)]; exact h81
  · rw [f 80 (by decide)]; exact h80
theorem acts_I {zz : Int32} {σ : Sg} (hJ : LJ σ) : CM mL_acts [ar 0, ar 79, ar 80, ar 81, ai zz] σ (RelI (fun u σ' => u = nI 1 ∧ gN σ' = gN σ ∧ LJ σ')) := by
  refine CM.mono (acts_sp hJ) ?_
  rintro w σ' ⟨rfl, h1, h2⟩
  exact ⟨nI 1, rfl, rfl, h1, h2⟩
theorem yisN2 {X : AX} {a b : Nat} {σ : Sg} {pc : Nat} {ls : List (Option AV)} {st : List AV} {x y : Nat} (k : XM X a b pc ls (ai (nI y) :: ai (nI x) :: st) σ) : XM X a b pc ls (ai (nI y) :: ai (nI x) :: st) σ := k
theorem yisN1 {X : AX} {a b : Nat} {σ : Sg} {pc : Nat} {ls : List (Option AV)} {st : List AV} {x : Nat} (k : XM X a b pc ls (ai (nI x) :: st) σ) : XM X a b pc ls (ai (nI x) :: st) σ := k
theorem yisNS {X : AX} {a b : Nat} {σ : Sg} {pc : Nat} {ls : List (Option AV)} {st : List AV} {x : Nat} {v : AV} (k : XM X a b pc ls (v :: ai (nI x) :: st) σ) : XM X a b pc ls (v :: ai (nI x) :: st) σ := k
set_option maxRecDepth 20000 in
set_option maxHeartbeats 2000000 in
theorem law_263 {X : AX} {a b : Nat} (hX : Rules mL_law (Cd (rf mL_law)) QL X) {x6 x7 x8 : Option AV} {σ : Sg} {ρ : Nat → Int32} {s : Nat} (hK : KI σ ρ s) : XM X a b 263 [none, some (ar 0), some (ar 79), some (ar 80), some (ar 81), some (ai (nI 1)), x6, x7, x8] [] σ := by
  have hs1 := hK.1.2.1
  have h12 := hK.2.1.1
  have hns := hasStroke_F2 (x := nI s) TW1 h12 (nI_pos (by omega)) (Int32.le_refl _)
  refine x_iload hX (p0 := 265) dL_law_263 rfl rfl ?_
  first | ((with_reducible refine yisN1 ?_); refine x_ifN_eq hX (tgt := 331) (p1 := 268) dL_law_265 rfl (by omega) rfl (fun c_265 => by exfalso; first | exact c_265 rfl | omega | contradiction) (fun c_265 => ?_)) | refine x_if_eq hX (tgt := 331) (p1 := 268) dL_law_265 rfl rfl (fun c_265 => by exfalso; first | exact c_265 rfl | omega | contradiction) (fun c_265 => ?_)
  refine x_aload_n hX (p0 := 269) (i := 1) dL_law_268 rfl rfl rfl ?_
  refine x_bipush hX (p0 := 271) (v := nI 12) dL_law_269 (by decide) rfl ?_
  refine x_cVR hX (n := 1) (p0 := 274) (r1 := mX9_count) (As := [_]) dL_law_271 lL_106 vX9_count (by first | rfl | assumption | exact RW.s (by assumption) | exact TW.s (by assumption)) ⟨_, _, rfl⟩ (FITi rfl rfl) (Nat.le_of_ble_eq_true rfl) rfl rfl (co_cs12 cs_12) rfl ?_
  refine x_ldc hX (p0 := 276) dL_law_274 qL_51 rfl ?_
  first | ((with_reducible refine yisN2 ?_); refine x_icmpN_ne hX (tgt := 331) (p1 := 279) dL_law_276 rfl (by omega) (by omega) rfl (fun c_276 => by exfalso; first | exact c_276 rfl | omega | contradiction) (fun c_276 => ?_)) | refine x_icmp_ne hX (tgt := 331) (p1 := 279) dL_law_276 rfl rfl (fun c_276 => by exfalso; first | exact c_276 rfl | omega | contradiction) (fun c_276 => ?_)
  refine x_aload_n hX (p0 := 280) (i := 1) dL_law_279 rfl rfl rfl ?_
  refine x_bipush hX (p0 := 282) (v := nI 19) dL_law_280 (by decide) rfl ?_
  refine x_cVR hX (n := 1) (p0 := 285) (r1 := mX9_count) (As := [_]) dL_law_282 lL_106 vX9_count (by first | rfl | assumption | exact RW.s (by assumption) | exact TW.s (by assumption)) ⟨_, _, rfl⟩ (FITi rfl rfl) (Nat.le_of_ble_eq_true rfl) rfl rfl (co_cs19 cs_19) rfl ?_
  refine x_ldc hX (p0 := 287) dL_law_285 qL_51 rfl ?_
  first | ((with_reducible refine yisN2 ?_); refine x_icmpN_ne hX (tgt := 331) (p1 := 290) dL_law_287 rfl (by omega) (by omega) rfl (fun c_287 => by exfalso; first | exact c_287 rfl | omega | contradiction) (fun c_287 => ?_)) | refine x_icmp_ne hX (tgt := 331) (p1 := 290) dL_law_287 rfl rfl (fun c_287 => by exfalso; first | exact c_287 rfl | omega | contradiction) (fun c_287 => ?_)
  refine x_aload_n hX (p0 := 291) (i := 1) dL_law_290 rfl rfl rfl ?_
  refine x_bipush hX (p0 := 293) (v := nI 22) dL_law_291 (by decide) rfl ?_
  refine x_cVR hX (n := 1) (p0 := 296) (r1 := mX9_count) (As := [_]) dL_law_293 lL_106 vX9_count (by first | rfl | assumption | exact RW.s (by assumption) | exact TW.s (by assumption)) ⟨_, _, rfl⟩ (FITi rfl rfl) (Nat.le_of_ble_eq_true rfl) rfl rfl (co_cx (x := nI 22) (Or.inr (by decide))) rfl ?_
  refine x_ldc hX (p0 := 298) dL_law_296 qL_51 rfl ?_
  first | ((with_reducible refine yisN2 ?_); refine x_icmpN_ne hX (tgt := 331) (p1 := 301) dL_law_298 rfl (by omega) (by omega) rfl (fun c_298 => by exfalso; first | exact c_298 rfl | omega | contradiction) (fun c_298 => ?_)) | refine x_icmp_ne hX (tgt := 331) (p1 := 301) dL_law_298 rfl rfl (fun c_298 => by exfalso; first | exact c_298 rfl | omega | contradiction) (fun c_298 => ?_)
  refine x_aload_n hX (p0 := 302) (i := 1) dL_law_301 rfl rfl rfl ?_
  refine x_bipush hX (p0 := 304) (v := nI 25) dL_law_302 (by decide) rfl ?_
  refine x_cVR hX (n := 1) (p0 := 307) (r1 := mX9_tableOf) (As := [_]) dL_law_304 lL_103 vX9_tableOf (by first | rfl | assumption | exact RW.s (by assumption) | exact TW.s (by assumption)) ⟨_, _, rfl⟩ (FITi rfl rfl) (Nat.le_of_ble_eq_true rfl) rfl rfl (tableOf_cF (x := nI 25) (cIsLetter_F2 (by decide) (by decide))) rfl ?_
  refine x_ldc hX (p0 := 309) dL_law_307 qL_51 rfl ?_
  first | ((with_reducible refine yisN2 ?_); refine x_icmpN_ne hX (tgt := 331) (p1 := 312) dL_law_309 rfl (by omega) (by omega) rfl (fun c_309 => by exfalso; first | exact c_309 rfl | omega | contradiction) (fun c_309 => ?_)) | refine x_icmp_ne hX (tgt := 331) (p1 := 312) dL_law_309 rfl rfl (fun c_309 => by exfalso; first | exact c_309 rfl | omega | contradiction) (fun c_309 => ?_)
  refine x_aload_n hX (p0 := 313) (i := 1) dL_law_312 rfl rfl rfl ?_
  refine x_aload_n hX (p0 := 314) (i := 1) dL_law_313 rfl rfl rfl ?_
  refine x_iconst hX (p0 := 315) (v := nI 0) dL_law_314 rfl rfl ?_
  refine x_cVR hX (n := 1) (p0 := 318) (r1 := mX9_count) (As := [_]) dL_law_315 lL_106 vX9_count (by first | rfl | assumption | exact RW.s (by assumption) | exact TW.s (by assumption)) ⟨_, _, rfl⟩ (FITi rfl rfl) (Nat.le_of_ble_eq_true rfl) rfl rfl (co_c0 h12) rfl ?_
  refine x_iconst hX (p0 := 319) (v := nI 0) dL_law_318 rfl rfl ?_
  refine x_cVR hX (n := 2) (p0 := 322) (r1 := mX9_strokeOf) (As := [_, _]) dL_law_319 lL_86 vX9_strokeOf (by first | rfl | assumption | exact RW.s (by assumption) | exact TW.s (by assumption)) ⟨_, _, rfl⟩ (FITi rfl rfl) (Nat.le_of_ble_eq_true rfl) rfl rfl (sO_ca hns) rfl ?_
  refine x_ldc hX (p0 := 324) dL_law_322 qL_51 rfl ?_
  first | ((with_reducible refine yisN2 ?_); refine x_icmpN_ne hX (tgt := 331) (p1 := 327) dL_law_324 rfl (by omega) (by omega) rfl (fun c_324 => by exfalso; first | exact c_324 rfl | omega | contradiction) (fun c_324 => ?_)) | refine x_icmp_ne hX (tgt := 331) (p1 := 327) dL_law_324 rfl rfl (fun c_324 => by exfalso; first | exact c_324 rfl | omega | contradiction) (fun c_324 => ?_)
  refine x_iconst hX (p0 := 328) (v := nI 1) dL_law_327 rfl rfl ?_
  refine x_goto hX (tgt := 332) dL_law_328 rfl ?_
  refine x_ireturn hX dL_law_332 rfl (by first | rfl | exact bool_narrow (by first | exact Or.inl rfl | exact Or.inr rfl | assumption | (split <;> first | exact Or.inl rfl | exact Or.inr rfl))) (?_)
  rfl
set_option maxRecDepth 20000 in
set_option maxHeartbeats 2000000 in
theorem law_226 {X : AX} {a b : Nat} (hX : Rules mL_law (Cd (rf mL_law)) QL X) {x6 x8 : Option AV} {σ : Sg} {ρ : Nat → Int32} {s bq pz j : Nat} {T : Nat → Nat} (hK : KI σ ρ s) (g3 : σ 79 3 = nI s) (hs : s < 40) (hj : j < 25) (hb4 : 4 ≤ bq) (hb : bq ≤ 20) (hbb : ρ 0 = nI bq) (hz : ρ 2 = nI pz) (hpz : pz ≤ 1) (hp : s = 0 ∨ pz = 1) (hT : ∀ k, k < s → T k ≤ 9999 ∧ ρ (29 + k) = nI (T k)) (hm : ∀ i j, i < j → j < s → T i < T j) (hT8 : 0 < s → T (s - 1) ≤ 8000) : XM X a b 226 [none, some (ar 0), some (ar 79), some (ar 80), some (ar 81), some (ai (nI 1)), x6, some (ai (nI j)), x8] [] σ := by
  obtain ⟨cf, hcf, hinj⟩ := hK.1.2.2.2.1
  have hc := (hcf j hj).1
  have hc1 := (hcf j hj).2
  obtain ⟨TT, hTT⟩ : ∃ t, t = if s = 0 then 0 else T (s - 1) := ⟨_, rfl⟩
  have hTT8 : TT ≤ 8000 := by
    rw [hTT]
    split
    · omega
    · exact hT8 (by omega)
  have hTT2 : 0 < s → tm ρ (s - 1) = nI TT := fun h => by
    rw [hTT, if_neg (by omega)]
    exact (hT (s - 1) (by omega)).2
  refine x_aload_n hX (p0 := 227) (i := 1) dL_law_226 rfl rfl rfl ?_
  refine x_iload hX (p0 := 229) dL_law_227 rfl rfl ?_
  refine x_cVI hX (n := 1) (p0 := 232) (r1 := mX9_ring) (As := [_]) dL_law_229 lL_61 vX9_ring (by first | rfl | assumption | exact RW.s (by assumption) | exact TW.s (by assumption)) ⟨_, _, rfl⟩ (FITi rfl rfl) (Nat.le_of_ble_eq_true rfl) rfl rfl (ring_K hK (by omega) hj hc hc1 hb hbb hz hpz hTT2 hTT8) rfl ?_
  rintro u σ2 ⟨rfl, hK2, hf2⟩
  have g32 : σ2 79 3 = nI s := by rw [hf2 79 (by decide)]; exact g3
  obtain ⟨M, hco, hlo, hM⟩ := rung_sp hK2 (by omega) hc1 hj hc hb4 hb hbb hz hpz hp hT hm
  refine x_aload_n hX (p0 := 233) (i := 2) dL_law_232 rfl rfl rfl ?_
  refine x_iconst hX (p0 := 234) (v := nI 3) dL_law_233 rfl rfl ?_
  first | ((with_reducible refine yisN1 ?_); refine x_aldN hX (p0 := 235) dL_law_234 (by first | rfl | assumption | exact RW.s (by assumption) | exact TW.s (by assumption)) (by first | decide | assumption) (by omega) (by first | assumption | ((repeat (first | exact up_hit | (apply up_nv; omega) | (apply up_mv; omega))) <;> first | assumption | rfl)) rfl ?_) | refine x_ald hX (p0 := 235) dL_law_234 (by first | rfl | assumption | exact RW.s (by assumption) | exact TW.s (by assumption)) (by assumption) (by first | assumption | ((repeat (first | exact up_hit | (apply up_nv; omega) | (apply up_mv; omega))) <;> first | assumption | rfl)) rfl ?_
  first | ((with_reducible refine yisN2 ?_); refine x_icmpN_ne hX (tgt := 260) (p1 := 238) dL_law_235 rfl (by omega) (by omega) rfl (fun c_235 => by exfalso; first | exact c_235 rfl | omega | contradiction) (fun c_235 => ?_)) | refine x_icmp_ne hX (tgt := 260) (p1 := 238) dL_law_235 rfl rfl (fun c_235 => by exfalso; first | exact c_235 rfl | omega | contradiction) (fun c_235 => ?_)
  refine x_aload_n hX (p0 := 239) (i := 1) dL_law_238 rfl rfl rfl ?_
  refine x_aload_n hX (p0 := 240) (i := 1) dL_law_239 rfl rfl rfl ?_
  refine x_iconst hX (p0 := 241) (v := nI 1) dL_law_240 rfl rfl ?_
  refine x_cVR hX (n := 1) (p0 := 244) (r1 := mX9_count) (As := [_]) dL_law_241 lL_106 vX9_count (by first | rfl | assumption | exact RW.s (by assumption) | exact TW.s (by assumption)) ⟨_, _, rfl⟩ (FITi rfl rfl) (Nat.le_of_ble_eq_true rfl) rfl rfl (hco) rfl ?_
  refine x_iconst hX (p0 := 245) (v := nI 1) dL_law_244 rfl rfl ?_
  first | ((with_reducible refine yisN2 ?_); refine x_isubN hX (p0 := 246) dL_law_245 (by omega) rfl ?_) | refine x_isub hX (p0 := 246) dL_law_245 rfl ?_
  rw [show M + 1 - 1 = M by omega]
  refine x_iconst hX (p0 := 247) (v := nI 0) dL_law_246 rfl rfl ?_
  refine x_iconst hX (p0 := 248) (v := nI 0) dL_law_247 rfl rfl ?_
  refine x_cVR hX (n := 3) (p0 := 251) (r1 := mX9_letterOf) (As := [_, _, _]) dL_law_248 lL_92 vX9_letterOf (by first | rfl | assumption | exact RW.s (by assumption) | exact TW.s (by assumption)) ⟨_, _, rfl⟩ (FITi rfl rfl) (Nat.le_of_ble_eq_true rfl) rfl rfl (hlo) rfl ?_
  refine x_iload hX (p0 := 253) dL_law_251 rfl rfl ?_
  first | ((with_reducible refine yisN2 ?_); refine x_icmpN_ne hX (tgt := 260) (p1 := 256) dL_law_253 rfl (by omega) (by omega) rfl (fun c_253 => by exfalso; first | exact c_253 rfl | omega | contradiction) (fun c_253 => ?_)) | refine x_icmp_ne hX (tgt := 260) (p1 := 256) dL_law_253 rfl rfl (fun c_253 => by exfalso; first | exact c_253 rfl | omega | contradiction) (fun c_253 => ?_)
  refine x_iconst hX (p0 := 257) (v := nI 1) dL_law_256 rfl rfl ?_
  refine x_goto hX (tgt := 261) dL_law_257 rfl ?_
  refine x_istore hX (p0 := 263) (i := 5) (ls2 := [_, _, _, _, _, _, _, _, _]) dL_law_261 (Nat.le_of_ble_eq_true rfl) rfl rfl ?_
  exact law_263 hX hK2
set_option maxRecDepth 20000 in
set_option maxHeartbeats 2000000 in
theorem law_173 {X : AX} {a b : Nat} (hX : Rules mL_law (Cd (rf mL_law)) QL X) (hc2 : ∀ ls σ, ls[0]? = some none → (∀ v, XM X a b 210 ls [ai v] σ) → XM X a b 205 ls [] σ) {x6 x7 x8 : Option AV} {σ : Sg} (hJ : LJ σ) : XM X a b 173 [none, some (ar 0), some (ar 79), some (ar 80), some (ar 81), some (ai (nI 1)), x6, x7, x8] [] σ := by
  obtain ⟨ρ, s, hK, ⟨⟨g0, g1, g2, g3⟩, h81, h80⟩, ⟨⟨bq, hb4, hb20, hb⟩, T, hT, hm⟩, hs⟩ := hJ
  have hend : XM X a b 263 [none, some (ar 0), some (ar 79), some (ar 80), some (ar 81), some (ai (nI 1)), x6, x7, x8] [] σ := law_263 hX hK
  have hnl : ¬ nI s < (-1000002 : Int32) := by
    rw [Int32.lt_iff_toInt_lt, nI_toInt (by omega), show ((-1000002 : Int32)).toInt = -1000002 by decide]
    omega
  by_cases h40 : 40 ≤ s
  · refine x_iload hX (p0 := 175) dL_law_173 rfl rfl ?_
    first | ((with_reducible refine yisN1 ?_); refine x_ifN_eq hX (tgt := 263) (p1 := 178) dL_law_175 rfl (by omega) rfl (fun c_175 => by exfalso; first | exact c_175 rfl | omega | contradiction) (fun c_175 => ?_)) | refine x_if_eq hX (tgt := 263) (p1 := 178) dL_law_175 rfl rfl (fun c_175 => by exfalso; first | exact c_175 rfl | omega | contradiction) (fun c_175 => ?_)
    refine x_aload_n hX (p0 := 179) (i := 2) dL_law_178 rfl rfl rfl ?_
    refine x_iconst hX (p0 := 180) (v := nI 3) dL_law_179 rfl rfl ?_
    first | ((with_reducible refine yisN1 ?_); refine x_aldN hX (p0 := 181) dL_law_180 (by first | rfl | assumption | exact RW.s (by assumption) | exact TW.s (by assumption)) (by first | decide | assumption) (by omega) (by first | assumption | ((repeat (first | exact up_hit | (apply up_nv; omega) | (apply up_mv; omega))) <;> first | assumption | rfl)) rfl ?_) | refine x_ald hX (p0 := 181) dL_law_180 (by first | rfl | assumption | exact RW.s (by assumption) | exact TW.s (by assumption)) (by assumption) (by first | assumption | ((repeat (first | exact up_hit | (apply up_nv; omega) | (apply up_mv; omega))) <;> first | assumption | rfl)) rfl ?_
    refine x_bipush hX (p0 := 183) (v := nI 40) dL_law_181 (by decide) rfl ?_
    first | ((with_reducible refine yisN2 ?_); refine x_icmpN_ge hX (tgt := 263) (p1 := 186) dL_law_183 rfl (by omega) (by omega) rfl (fun c_183 => ?_) (fun c_183 => by exfalso; first | exact c_183 rfl | omega | contradiction)) | refine x_icmp_ge hX (tgt := 263) (p1 := 186) dL_law_183 rfl rfl (fun c_183 => ?_) (fun c_183 => by exfalso; first | exact c_183 rfl | omega | contradiction)
    exact hend
  · have h217 : (0 < s → T (s - 1) ≤ 8000) → ∀ x7 j, j < 25 → x7 = some (ai (nI j)) → XM X a b 217 [none, some (ar 0), some (ar 79), some (ar 80), some (ar 81), some (ai (nI 1)), x6, x7, x8] [] σ := by
      rintro hT8 x7 j hj rfl
      obtain ⟨pz, hpz, hz⟩ : ∃ pz, pz ≤ 1 ∧ ρ 2 = nI pz := by
        rcases hK.1.2.2.1 with h | h
        · exact ⟨0, by decide, h⟩
        · exact ⟨1, Nat.le_refl 1, h⟩
      by_cases hp : s = 0 ∨ pz = 1
      · have h226 := law_226 (a := a) (b := b) (x6 := x6) (x8 := x8) hX hK g3 (by omega) hj hb4 hb20 hb hz hpz hp hT hm hT8
        have hpau : CM mX9_pause [ar 0] σ (Ret (-1000002) σ) := by
          have h15 : σ 1 5 = ρ 2 := hK.2.1.2.2.2.1
          by_cases h1 : pz = 1
          · exact pause_cP (by rw [h15, hz, h1])
          · exact pause_c0 (by rw [h15, hz, show pz = 0 by omega]) (by rw [hK.2.1.1, show s = 0 by omega])
        refine x_aload_n hX (p0 := 218) (i := 1) dL_law_217 rfl rfl rfl ?_
        refine x_cVR hX (n := 0) (p0 := 221) (r1 := mX9_pause) (As := []) dL_law_218 lL_67 vX9_pause (by first | rfl | assumption | exact RW.s (by assumption) | exact TW.s (by assumption)) ⟨_, _, rfl⟩ (FITi rfl rfl) (Nat.le_of_ble_eq_true rfl) rfl rfl (hpau) rfl ?_
        refine x_ldc hX (p0 := 223) dL_law_221 qL_71 rfl ?_
        first | ((with_reducible refine yisN2 ?_); refine x_icmpN_lt hX (tgt := 260) (p1 := 226) dL_law_223 rfl (by omega) (by omega) rfl (fun c_223 => by exfalso; first | exact absurd c_223 (by decide)) (fun c_223 => ?_)) | refine x_icmp_lt hX (tgt := 260) (p1 := 226) dL_law_223 rfl rfl (fun c_223 => by exfalso; first | exact absurd c_223 (by decide)) (fun c_223 => ?_)
        exact h226
      · have hz0 : ρ 2 = nI 0 := by rw [hz, show pz = 0 by omega]
        refine x_aload_n hX (p0 := 218) (i := 1) dL_law_217 rfl rfl rfl ?_
        refine x_cVI hX (n := 0) (p0 := 221) (r1 := mX9_pause) (As := []) dL_law_218 lL_67 vX9_pause (by first | rfl | assumption | exact RW.s (by assumption) | exact TW.s (by assumption)) ⟨_, _, rfl⟩ (FITi rfl rfl) (Nat.le_of_ble_eq_true rfl) rfl rfl (pause_K hK hz0 (by omega)) rfl ?_
        rintro u σ2 ⟨rfl, hK2, hf2⟩
        refine x_ldc hX (p0 := 223) dL_law_221 qL_71 rfl ?_
        first | ((with_reducible refine yisN2 ?_); refine x_icmpN_lt hX (tgt := 260) (p1 := 226) dL_law_223 rfl (by omega) (by omega) rfl (fun c_223 => by exfalso; first | exact hnl c_223) (fun c_223 => ?_)) | refine x_icmp_lt hX (tgt := 260) (p1 := 226) dL_law_223 rfl rfl (fun c_223 => by exfalso; first | exact hnl c_223) (fun c_223 => ?_)
        refine law_226 (ρ := upd ρ 2 (nI 1)) (T := T) (pz := 1) hX hK2 (by rw [hf2 79 (by decide)]; exact g3) (by omega) hj hb4 hb20 (by rw [upd_ne (by decide)]; exact hb) upd_hit (Nat.le_refl 1) (Or.inr rfl) (fun k hk => ⟨(hT k hk).1, by rw [upd_ne (by omega)]; exact (hT k hk).2⟩) hm hT8
    have h205 : (0 < s → T (s - 1) ≤ 8000) → XM X a b 205 [none, some (ar 0), some (ar 79), some (ar 80), some (ar 81), some (ai (nI 1)), x6, x7, x8] [] σ := by
      intro hT8
      refine hc2 _ σ rfl (fun v => ?_)
      obtain ⟨j, hj, hl⟩ := low_ex v 25 (by decide) (by decide)
      refine x_bipush hX (p0 := 212) (v := nI 25) dL_law_210 (by decide) rfl ?_
      refine x_cSR hX (n := 2) (p0 := 215) (r1 := mL_low) (As := [_, _]) dL_law_212 (Or.inl lL_39) vL_low (FITi rfl rfl) (Nat.le_of_ble_eq_true rfl) rfl rfl (hl σ) rfl ?_
      refine x_istore hX (p0 := 217) (i := 7) (ls2 := [_, _, _, _, _, _, _, _, _]) dL_law_215 (Nat.le_of_ble_eq_true rfl) rfl rfl ?_
      exact h217 hT8 _ j hj rfl
    by_cases h0 : s = 0
    · have h := h205 (fun h => absurd h (by omega))
      rw [h0] at g3
      refine x_iload hX (p0 := 175) dL_law_173 rfl rfl ?_
      first | ((with_reducible refine yisN1 ?_); refine x_ifN_eq hX (tgt := 263) (p1 := 178) dL_law_175 rfl (by omega) rfl (fun c_175 => by exfalso; first | exact c_175 rfl | omega | contradiction) (fun c_175 => ?_)) | refine x_if_eq hX (tgt := 263) (p1 := 178) dL_law_175 rfl rfl (fun c_175 => by exfalso; first | exact c_175 rfl | omega | contradiction) (fun c_175 => ?_)
      refine x_aload_n hX (p0 := 179) (i := 2) dL_law_178 rfl rfl rfl ?_
      refine x_iconst hX (p0 := 180) (v := nI 3) dL_law_179 rfl rfl ?_
      first | ((with_reducible refine yisN1 ?_); refine x_aldN hX (p0 := 181) dL_law_180 (by first | rfl | assumption | exact RW.s (by assumption) | exact TW.s (by assumption)) (by first | decide | assumption) (by omega) (by first | assumption | ((repeat (first | exact up_hit | (apply up_nv; omega) | (apply up_mv; omega))) <;> first | assumption | rfl)) rfl ?_) | refine x_ald hX (p0 := 181) dL_law_180 (by first | rfl | assumption | exact RW.s (by assumption) | exact TW.s (by assumption)) (by assumption) (by first | assumption | ((repeat (first | exact up_hit | (apply up_nv; omega) | (apply up_mv; omega))) <;> first | assumption | rfl)) rfl ?_
      refine x_bipush hX (p0 := 183) (v := nI 40) dL_law_181 (by decide) rfl ?_
      first | ((with_reducible refine yisN2 ?_); refine x_icmpN_ge hX (tgt := 263) (p1 := 186) dL_law_183 rfl (by omega) (by omega) rfl (fun c_183 => by exfalso; first | exact c_183 rfl | omega | contradiction) (fun c_183 => ?_)) | refine x_icmp_ge hX (tgt := 263) (p1 := 186) dL_law_183 rfl rfl (fun c_183 => by exfalso; first | exact c_183 rfl | omega | contradiction) (fun c_183 => ?_)
      refine x_aload_n hX (p0 := 187) (i := 2) dL_law_186 rfl rfl rfl ?_
      refine x_iconst hX (p0 := 188) (v := nI 3) dL_law_187 rfl rfl ?_
      first | ((with_reducible refine yisN1 ?_); refine x_aldN hX (p0 := 189) dL_law_188 (by first | rfl | assumption | exact RW.s (by assumption) | exact TW.s (by assumption)) (by first | decide | assumption) (by omega) (by first | assumption | ((repeat (first | exact up_hit | (apply up_nv; omega) | (apply up_mv; omega))) <;> first | assumption | rfl)) rfl ?_) | refine x_ald hX (p0 := 189) dL_law_188 (by first | rfl | assumption | exact RW.s (by assumption) | exact TW.s (by assumption)) (by assumption) (by first | assumption | ((repeat (first | exact up_hit | (apply up_nv; omega) | (apply up_mv; omega))) <;> first | assumption | rfl)) rfl ?_
      first | ((with_reducible refine yisN1 ?_); refine x_ifN_eq hX (tgt := 205) (p1 := 192) dL_law_189 rfl (by omega) rfl (fun c_189 => ?_) (fun c_189 => by exfalso; first | exact c_189 rfl | omega | contradiction)) | refine x_if_eq hX (tgt := 205) (p1 := 192) dL_law_189 rfl rfl (fun c_189 => ?_) (fun c_189 => by exfalso; first | exact c_189 rfl | omega | contradiction)
      exact h
    · have hx : σ 80 (s - 1) = nI (T (s - 1)) := by rw [h80 (s - 1) (by omega)]; exact (hT (s - 1) (by omega)).2
      have hTk := (hT (s - 1) (by omega)).1
      by_cases h8 : 8000 ≤ T (s - 1)
      · refine x_iload hX (p0 := 175) dL_law_173 rfl rfl ?_
        first | ((with_reducible refine yisN1 ?_); refine x_ifN_eq hX (tgt := 263) (p1 := 178) dL_law_175 rfl (by omega) rfl (fun c_175 => by exfalso; first | exact c_175 rfl | omega | contradiction) (fun c_175 => ?_)) | refine x_if_eq hX (tgt := 263) (p1 := 178) dL_law_175 rfl rfl (fun c_175 => by exfalso; first | exact c_175 rfl | omega | contradiction) (fun c_175 => ?_)
        refine x_aload_n hX (p0 := 179) (i := 2) dL_law_178 rfl rfl rfl ?_
        refine x_iconst hX (p0 := 180) (v := nI 3) dL_law_179 rfl rfl ?_
        first | ((with_reducible refine yisN1 ?_); refine x_aldN hX (p0 := 181) dL_law_180 (by first | rfl | assumption | exact RW.s (by assumption) | exact TW.s (by assumption)) (by first | decide | assumption) (by omega) (by first | assumption | ((repeat (first | exact up_hit | (apply up_nv; omega) | (apply up_mv; omega))) <;> first | assumption | rfl)) rfl ?_) | refine x_ald hX (p0 := 181) dL_law_180 (by first | rfl | assumption | exact RW.s (by assumption) | exact TW.s (by assumption)) (by assumption) (by first | assumption | ((repeat (first | exact up_hit | (apply up_nv; omega) | (apply up_mv; omega))) <;> first | assumption | rfl)) rfl ?_
        refine x_bipush hX (p0 := 183) (v := nI 40) dL_law_181 (by decide) rfl ?_
        first | ((with_reducible refine yisN2 ?_); refine x_icmpN_ge hX (tgt := 263) (p1 := 186) dL_law_183 rfl (by omega) (by omega) rfl (fun c_183 => by exfalso; first | exact c_183 rfl | omega | contradiction) (fun c_183 => ?_)) | refine x_icmp_ge hX (tgt := 263) (p1 := 186) dL_law_183 rfl rfl (fun c_183 => by exfalso; first | exact c_183 rfl | omega | contradiction) (fun c_183 => ?_)
        refine x_aload_n hX (p0 := 187) (i := 2) dL_law_186 rfl rfl rfl ?_
        refine x_iconst hX (p0 := 188) (v := nI 3) dL_law_187 rfl rfl ?_
        first | ((with_reducible refine yisN1 ?_); refine x_aldN hX (p0 := 189) dL_law_188 (by first | rfl | assumption | exact RW.s (by assumption) | exact TW.s (by assumption)) (by first | decide | assumption) (by omega) (by first | assumption | ((repeat (first | exact up_hit | (apply up_nv; omega) | (apply up_mv; omega))) <;> first | assumption | rfl)) rfl ?_) | refine x_ald hX (p0 := 189) dL_law_188 (by first | rfl | assumption | exact RW.s (by assumption) | exact TW.s (by assumption)) (by assumption) (by first | assumption | ((repeat (first | exact up_hit | (apply up_nv; omega) | (apply up_mv; omega))) <;> first | assumption | rfl)) rfl ?_
        first | ((with_reducible refine yisN1 ?_); refine x_ifN_eq hX (tgt := 205) (p1 := 192) dL_law_189 rfl (by omega) rfl (fun c_189 => by exfalso; first | exact c_189 rfl | omega | contradiction) (fun c_189 => ?_)) | refine x_if_eq hX (tgt := 205) (p1 := 192) dL_law_189 rfl rfl (fun c_189 => by exfalso; first | exact c_189 rfl | omega | contradiction) (fun c_189 => ?_)
        refine x_aload_n hX (p0 := 193) (i := 3) dL_law_192 rfl rfl rfl ?_
        refine x_aload_n hX (p0 := 194) (i := 2) dL_law_193 rfl rfl rfl ?_
        refine x_iconst hX (p0 := 195) (v := nI 3) dL_law_194 rfl rfl ?_
        first | ((with_reducible refine yisN1 ?_); refine x_aldN hX (p0 := 196) dL_law_195 (by first | rfl | assumption | exact RW.s (by assumption) | exact TW.s (by assumption)) (by first | decide | assumption) (by omega) (by first | assumption | ((repeat (first | exact up_hit | (apply up_nv; omega) | (apply up_mv; omega))) <;> first | assumption | rfl)) rfl ?_) | refine x_ald hX (p0 := 196) dL_law_195 (by first | rfl | assumption | exact RW.s (by assumption) | exact TW.s (by assumption)) (by assumption) (by first | assumption | ((repeat (first | exact up_hit | (apply up_nv; omega) | (apply up_mv; omega))) <;> first | assumption | rfl)) rfl ?_
        refine x_iconst hX (p0 := 197) (v := nI 1) dL_law_196 rfl rfl ?_
        first | ((with_reducible refine yisN2 ?_); refine x_isubN hX (p0 := 198) dL_law_197 (by omega) rfl ?_) | refine x_isub hX (p0 := 198) dL_law_197 rfl ?_
        first | ((with_reducible refine yisN1 ?_); refine x_aldN hX (p0 := 199) dL_law_198 (by first | rfl | assumption | exact RW.s (by assumption) | exact TW.s (by assumption)) (by first | decide | assumption) (by omega) (by first | assumption | ((repeat (first | exact up_hit | (apply up_nv; omega) | (apply up_mv; omega))) <;> first | assumption | rfl)) rfl ?_) | refine x_ald hX (p0 := 199) dL_law_198 (by first | rfl | assumption | exact RW.s (by assumption) | exact TW.s (by assumption)) (by assumption) (by first | assumption | ((repeat (first | exact up_hit | (apply up_nv; omega) | (apply up_mv; omega))) <;> first | assumption | rfl)) rfl ?_
        refine x_sipush hX (p0 := 202) (v := nI 8000) dL_law_199 (by decide) rfl ?_
        first | ((with_reducible refine yisN2 ?_); refine x_icmpN_ge hX (tgt := 263) (p1 := 205) dL_law_202 rfl (by omega) (by omega) rfl (fun c_202 => ?_) (fun c_202 => by exfalso; first | exact c_202 rfl | omega | contradiction)) | refine x_icmp_ge hX (tgt := 263) (p1 := 205) dL_law_202 rfl rfl (fun c_202 => ?_) (fun c_202 => by exfalso; first | exact c_202 rfl | omega | contradiction)
        exact hend
      · have h := h205 (fun _ => by omega)
        refine x_iload hX (p0 := 175) dL_law_173 rfl rfl ?_
        first | ((with_reducible refine yisN1 ?_); refine x_ifN_eq hX (tgt := 263) (p1 := 178) dL_law_175 rfl (by omega) rfl (fun c_175 => by exfalso; first | exact c_175 rfl | omega | contradiction) (fun c_175 => ?_)) | refine x_if_eq hX (tgt := 263) (p1 := 178) dL_law_175 rfl rfl (fun c_175 => by exfalso; first | exact c_175 rfl | omega | contradiction) (fun c_175 => ?_)
        refine x_aload_n hX (p0 := 179) (i := 2) dL_law_178 rfl rfl rfl ?_
        refine x_iconst hX (p0 := 180) (v := nI 3) dL_law_179 rfl rfl ?_
        first | ((with_reducible refine yisN1 ?_); refine x_aldN hX (p0 := 181) dL_law_180 (by first | rfl | assumption | exact RW.s (by assumption) | exact TW.s (by assumption)) (by first | decide | assumption) (by omega) (by first | assumption | ((repeat (first | exact up_hit | (apply up_nv; omega) | (apply up_mv; omega))) <;> first | assumption | rfl)) rfl ?_) | refine x_ald hX (p0 := 181) dL_law_180 (by first | rfl | assumption | exact RW.s (by assumption) | exact TW.s (by assumption)) (by assumption) (by first | assumption | ((repeat (first | exact up_hit | (apply up_nv; omega) | (apply up_mv; omega))) <;> first | assumption | rfl)) rfl ?_
        refine x_bipush hX (p0 := 183) (v := nI 40) dL_law_181 (by decide) rfl ?_
        first | ((with_reducible refine yisN2 ?_); refine x_icmpN_ge hX (tgt := 263) (p1 := 186) dL_law_183 rfl (by omega) (by omega) rfl (fun c_183 => by exfalso; first | exact c_183 rfl | omega | contradiction) (fun c_183 => ?_)) | refine x_icmp_ge hX (tgt := 263) (p1 := 186) dL_law_183 rfl rfl (fun c_183 => by exfalso; first | exact c_183 rfl | omega | contradiction) (fun c_183 => ?_)
        refine x_aload_n hX (p0 := 187) (i := 2) dL_law_186 rfl rfl rfl ?_
        refine x_iconst hX (p0 := 188) (v := nI 3) dL_law_187 rfl rfl ?_
        first | ((with_reducible refine yisN1 ?_); refine x_aldN hX (p0 := 189) dL_law_188 (by first | rfl | assumption | exact RW.s (by assumption) | exact TW.s (by assumption)) (by first | decide | assumption) (by omega) (by first | assumption | ((repeat (first | exact up_hit | (apply up_nv; omega) | (apply up_mv; omega))) <;> first | assumption | rfl)) rfl ?_) | refine x_ald hX (p0 := 189) dL_law_188 (by first | rfl | assumption | exact RW.s (by assumption) | exact TW.s (by assumption)) (by assumption) (by first | assumption | ((repeat (first | exact up_hit | (apply up_nv; omega) | (apply up_mv; omega))) <;> first | assumption | rfl)) rfl ?_
        first | ((with_reducible refine yisN1 ?_); refine x_ifN_eq hX (tgt := 205) (p1 := 192) dL_law_189 rfl (by omega) rfl (fun c_189 => by exfalso; first | exact c_189 rfl | omega | contradiction) (fun c_189 => ?_)) | refine x_if_eq hX (tgt := 205) (p1 := 192) dL_law_189 rfl rfl (fun c_189 => by exfalso; first | exact c_189 rfl | omega | contradiction) (fun c_189 => ?_)
        refine x_aload_n hX (p0 := 193) (i := 3) dL_law_192 rfl rfl rfl ?_
        refine x_aload_n hX (p0 := 194) (i := 2) dL_law_193 rfl rfl rfl ?_
        refine x_iconst hX (p0 := 195) (v := nI 3) dL_law_194 rfl rfl ?_
        first | ((with_reducible refine yisN1 ?_); refine x_aldN hX (p0 := 196) dL_law_195 (by first | rfl | assumption | exact RW.s (by assumption) | exact TW.s (by assumption)) (by first | decide | assumption) (by omega) (by first | assumption | ((repeat (first | exact up_hit | (apply up_nv; omega) | (apply up_mv; omega))) <;> first | assumption | rfl)) rfl ?_) | refine x_ald hX (p0 := 196) dL_law_195 (by first | rfl | assumption | exact RW.s (by assumption) | exact TW.s (by assumption)) (by assumption) (by first | assumption | ((repeat (first | exact up_hit | (apply up_nv; omega) | (apply up_mv; omega))) <;> first | assumption | rfl)) rfl ?_
        refine x_iconst hX (p0 := 197) (v := nI 1) dL_law_196 rfl rfl ?_
        first | ((with_reducible refine yisN2 ?_); refine x_isubN hX (p0 := 198) dL_law_197 (by omega) rfl ?_) | refine x_isub hX (p0 := 198) dL_law_197 rfl ?_
        first | ((with_reducible refine yisN1 ?_); refine x_aldN hX (p0 := 199) dL_law_198 (by first | rfl | assumption | exact RW.s (by assumption) | exact TW.s (by assumption)) (by first | decide | assumption) (by omega) (by first | assumption | ((repeat (first | exact up_hit | (apply up_nv; omega) | (apply up_mv; omega))) <;> first | assumption | rfl)) rfl ?_) | refine x_ald hX (p0 := 199) dL_law_198 (by first | rfl | assumption | exact RW.s (by assumption) | exact TW.s (by assumption)) (by assumption) (by first | assumption | ((repeat (first | exact up_hit | (apply up_nv; omega) | (apply up_mv; omega))) <;> first | assumption | rfl)) rfl ?_
        refine x_sipush hX (p0 := 202) (v := nI 8000) dL_law_199 (by decide) rfl ?_
        first | ((with_reducible refine yisN2 ?_); refine x_icmpN_ge hX (tgt := 263) (p1 := 205) dL_law_202 rfl (by omega) (by omega) rfl (fun c_202 => by exfalso; first | exact c_202 rfl | omega | contradiction) (fun c_202 => ?_)) | refine x_icmp_ge hX (tgt := 263) (p1 := 205) dL_law_202 rfl rfl (fun c_202 => by exfalso; first | exact c_202 rfl | omega | contradiction) (fun c_202 => ?_)
        exact h
set_option maxRecDepth 20000 in
set_option maxHeartbeats 2000000 in
theorem law_143 {X : AX} {n k tn n0 : Nat} (hX : Rules mL_law (Cd (rf mL_law)) QL X) {x8 : Option AV} {zz : Int32} {σ : Sg} (hJ : LJ σ) (hg : gN σ = n0) (hn : n0 < 9000) (next : ∀ σ1, LJ σ1 → gN σ1 = n0 + 7 → XM X (7 * n) (448 * n) 83 [none, some (ar 0), some (ar 79), some (ar 80), some (ar 81), some (ai (nI 1)), some (ai (nI tn)), some (ai (nI (k + 1))), x8] [] σ1) : XM X (7 * (n + 1)) (448 * (n + 1)) 143 [none, some (ar 0), some (ar 79), some (ar 80), some (ar 81), some (ai (nI 1)), some (ai (nI tn)), some (ai (nI k)), x8] [ai zz, ar 81, ar 80, ar 79, ar 0] σ := by
  refine x_cSI hX (n := 5) (p0 := 146) (r1 := mL_acts) (As := [_, _, _, _, _]) dL_law_143 (Or.inl lL_117) vL_acts (FITi rfl rfl) (Nat.le_of_ble_eq_true rfl) rfl rfl (acts_I hJ) rfl ?_
  rintro u σ1 ⟨rfl, hg1, hJ1⟩
  first | ((with_reducible refine yisN1 ?_); refine x_ifN_eq hX (tgt := 164) (p1 := 149) dL_law_146 rfl (by omega) rfl (fun c_146 => by exfalso; first | exact c_146 rfl | omega | contradiction) (fun c_146 => ?_)) | refine x_if_eq hX (tgt := 164) (p1 := 149) dL_law_146 rfl rfl (fun c_146 => by exfalso; first | exact c_146 rfl | omega | contradiction) (fun c_146 => ?_)
  refine x_aload_n hX (p0 := 150) (i := 1) dL_law_149 rfl rfl rfl ?_
  refine x_aload_n hX (p0 := 151) (i := 2) dL_law_150 rfl rfl rfl ?_
  refine x_aload_n hX (p0 := 152) (i := 3) dL_law_151 rfl rfl rfl ?_
  refine x_aload hX (p0 := 154) dL_law_152 rfl rfl ?_
  refine x_isSo (a := 7 * n) (b := 448 * n) (p0 := 157) hX dL_law_154 (by omega) (by omega) hJ1 (hg1.trans hg) hn rfl (fun σ2 f g => ?_)
  first | ((with_reducible refine yisN1 ?_); refine x_ifN_eq hX (tgt := 164) (p1 := 160) dL_law_157 rfl (by omega) rfl (fun c_157 => by exfalso; first | exact c_157 rfl | omega | contradiction) (fun c_157 => ?_)) | refine x_if_eq hX (tgt := 164) (p1 := 160) dL_law_157 rfl rfl (fun c_157 => by exfalso; first | exact c_157 rfl | omega | contradiction) (fun c_157 => ?_)
  refine x_iconst hX (p0 := 161) (v := nI 1) dL_law_160 rfl rfl ?_
  refine x_goto hX (tgt := 165) dL_law_161 rfl ?_
  refine x_istore hX (p0 := 167) (i := 5) (ls2 := [_, _, _, _, _, _, _, _, _]) dL_law_165 (Nat.le_of_ble_eq_true rfl) rfl rfl ?_
  first | refine x_iinc1 hX (p0 := 170) (ls2 := [_, _, _, _, _, _, _, _, _]) dL_law_167 rfl rfl rfl ?_ | refine x_iinc hX (p0 := 170) (ls2 := [_, _, _, _, _, _, _, _, _]) dL_law_167 rfl rfl rfl rfl ?_
  refine x_goto hX (tgt := 83) dL_law_170 rfl ?_
  exact next σ2 (hJ1.of f) g
set_option maxRecDepth 20000 in
set_option maxHeartbeats 2000000 in
theorem law_loop {X : AX} {tn : Nat} (hX : Rules mL_law (Cd (rf mL_law)) QL X) (hc1 : ∀ a b ls k σ, ls[0]? = some none → ls[7]? = some (some (ai (nI k))) → k < 100 → (∀ v, XM X a b 103 ls [ai v] σ) → XM X a b 95 ls [] σ) (hc2 : ∀ a b ls σ, ls[0]? = some none → (∀ v, XM X a b 210 ls [ai v] σ) → XM X a b 205 ls [] σ) (htn : tn ≤ 51) : ∀ n k, k + n = 52 → ∀ σ, LJ σ → gN σ = 7 * (k + 1) → ∀ x8, XM X (7 * n) (448 * n) 83 [none, some (ar 0), some (ar 79), some (ar 80), some (ar 81), some (ai (nI 1)), some (ai (nI tn)), some (ai (nI k)), x8] [] σ := by
  intro n
  induction n with
  | zero =>
    intro k hk σ hJ hg x8
    refine x_iload hX (p0 := 85) dL_law_83 rfl rfl ?_
    refine x_iload hX (p0 := 87) dL_law_85 rfl rfl ?_
    first | ((with_reducible refine yisN2 ?_); refine x_icmpN_ge hX (tgt := 173) (p1 := 90) dL_law_87 rfl (by omega) (by omega) rfl (fun c_87 => ?_) (fun c_87 => by exfalso; first | exact c_87 rfl | omega | contradiction)) | refine x_icmp_ge hX (tgt := 173) (p1 := 90) dL_law_87 rfl rfl (fun c_87 => ?_) (fun c_87 => by exfalso; first | exact c_87 rfl | omega | contradiction)
    exact law_173 hX (hc2 _ _) hJ
  | succ n ih =>
    intro k hk σ hJ hg x8
    by_cases hkt : tn ≤ k
    · refine x_iload hX (p0 := 85) dL_law_83 rfl rfl ?_
      refine x_iload hX (p0 := 87) dL_law_85 rfl rfl ?_
      first | ((with_reducible refine yisN2 ?_); refine x_icmpN_ge hX (tgt := 173) (p1 := 90) dL_law_87 rfl (by omega) (by omega) rfl (fun c_87 => ?_) (fun c_87 => by exfalso; first | exact c_87 rfl | omega | contradiction)) | refine x_icmp_ge hX (tgt := 173) (p1 := 90) dL_law_87 rfl rfl (fun c_87 => ?_) (fun c_87 => by exfalso; first | exact c_87 rfl | omega | contradiction)
      exact law_173 hX (hc2 _ _) hJ
    · have hnx : ∀ x8 σ1, LJ σ1 → gN σ1 = 7 * (k + 1) + 7 → XM X (7 * n) (448 * n) 83 [none, some (ar 0), some (ar 79), some (ar 80), some (ar 81), some (ai (nI 1)), some (ai (nI tn)), some (ai (nI (k + 1))), x8] [] σ1 := fun x8 σ1 h1 h2 => ih (k + 1) (by omega) σ1 h1 (by omega) x8
      have h95 : XM X (7 * (n + 1)) (448 * (n + 1)) 95 [none, some (ar 0), some (ar 79), some (ar 80), some (ar 81), some (ai (nI 1)), some (ai (nI tn)), some (ai (nI k)), x8] [] σ := by
        refine hc1 _ _ _ k σ rfl rfl (by omega) (fun v => ?_)
        by_cases h3 : 3 ≤ k
        · refine x_sipush hX (p0 := 106) (v := nI 7919) dL_law_103 (by decide) rfl ?_
          refine x_iload hX (p0 := 108) dL_law_106 rfl rfl ?_
          first | ((with_reducible refine yisN2 ?_); refine x_imulN hX (p0 := 109) dL_law_108 rfl ?_) | refine x_imul hX (p0 := 109) dL_law_108 rfl ?_
          refine x_ixor hX (p0 := 110) dL_law_109 rfl ?_
          refine x_istore hX (p0 := 112) (i := 8) (ls2 := [_, _, _, _, _, _, _, _, _]) dL_law_110 (Nat.le_of_ble_eq_true rfl) rfl rfl ?_
          refine x_aload_n hX (p0 := 113) (i := 1) dL_law_112 rfl rfl rfl ?_
          refine x_aload_n hX (p0 := 114) (i := 2) dL_law_113 rfl rfl rfl ?_
          refine x_aload_n hX (p0 := 115) (i := 3) dL_law_114 rfl rfl rfl ?_
          refine x_aload hX (p0 := 117) dL_law_115 rfl rfl ?_
          refine x_iload hX (p0 := 119) dL_law_117 rfl rfl ?_
          refine x_iconst hX (p0 := 120) (v := nI 3) dL_law_119 rfl rfl ?_
          first | ((with_reducible refine yisN2 ?_); refine x_icmpN_ge hX (tgt := 141) (p1 := 123) dL_law_120 rfl (by omega) (by omega) rfl (fun c_120 => ?_) (fun c_120 => by exfalso; first | exact c_120 rfl | omega | contradiction)) | refine x_icmp_ge hX (tgt := 141) (p1 := 123) dL_law_120 rfl rfl (fun c_120 => ?_) (fun c_120 => by exfalso; first | exact c_120 rfl | omega | contradiction)
          refine x_iload hX (p0 := 143) dL_law_141 rfl rfl ?_
          exact law_143 hX hJ hg (by omega) (hnx _)
        · refine x_sipush hX (p0 := 106) (v := nI 7919) dL_law_103 (by decide) rfl ?_
          refine x_iload hX (p0 := 108) dL_law_106 rfl rfl ?_
          first | ((with_reducible refine yisN2 ?_); refine x_imulN hX (p0 := 109) dL_law_108 rfl ?_) | refine x_imul hX (p0 := 109) dL_law_108 rfl ?_
          refine x_ixor hX (p0 := 110) dL_law_109 rfl ?_
          refine x_istore hX (p0 := 112) (i := 8) (ls2 := [_, _, _, _, _, _, _, _, _]) dL_law_110 (Nat.le_of_ble_eq_true rfl) rfl rfl ?_
          refine x_aload_n hX (p0 := 113) (i := 1) dL_law_112 rfl rfl rfl ?_
          refine x_aload_n hX (p0 := 114) (i := 2) dL_law_113 rfl rfl rfl ?_
          refine x_aload_n hX (p0 := 115) (i := 3) dL_law_114 rfl rfl rfl ?_
          refine x_aload hX (p0 := 117) dL_law_115 rfl rfl ?_
          refine x_iload hX (p0 := 119) dL_law_117 rfl rfl ?_
          refine x_iconst hX (p0 := 120) (v := nI 3) dL_law_119 rfl rfl ?_
          first | ((with_reducible refine yisN2 ?_); refine x_icmpN_ge hX (tgt := 141) (p1 := 123) dL_law_120 rfl (by omega) (by omega) rfl (fun c_120 => by exfalso; first | exact c_120 rfl | omega | contradiction) (fun c_120 => ?_)) | refine x_icmp_ge hX (tgt := 141) (p1 := 123) dL_law_120 rfl rfl (fun c_120 => by exfalso; first | exact c_120 rfl | omega | contradiction) (fun c_120 => ?_)
          refine x_iload hX (p0 := 125) dL_law_123 rfl rfl ?_
          refine x_ldc hX (p0 := 127) dL_law_125 qL_8 rfl ?_
          refine x_iand hX (p0 := 128) dL_law_127 rfl ?_
          refine x_sipush hX (p0 := 131) (v := nI 768) dL_law_128 (by decide) rfl ?_
          first | ((with_reducible refine yisN2 ?_); refine x_idivN hX (p0 := 132) dL_law_131 (by omega) (by omega) (by omega) rfl ?_) | refine x_idiv hX (p0 := 132) dL_law_131 (by decide) rfl ?_
          refine x_sipush hX (p0 := 135) (v := nI 768) dL_law_132 (by decide) rfl ?_
          first | ((with_reducible refine yisN2 ?_); refine x_imulN hX (p0 := 136) dL_law_135 rfl ?_) | refine x_imul hX (p0 := 136) dL_law_135 rfl ?_
          refine x_iconst hX (p0 := 137) (v := nI 5) dL_law_136 rfl rfl ?_
          first | ((with_reducible refine yisN2 ?_); refine x_iaddN hX (p0 := 138) dL_law_137 rfl ?_) | refine x_iadd hX (p0 := 138) dL_law_137 rfl ?_
          refine x_goto hX (tgt := 143) dL_law_138 rfl ?_
          exact law_143 hX hJ hg (by omega) (hnx _)
      refine x_iload hX (p0 := 85) dL_law_83 rfl rfl ?_
      refine x_iload hX (p0 := 87) dL_law_85 rfl rfl ?_
      first | ((with_reducible refine yisN2 ?_); refine x_icmpN_ge hX (tgt := 173) (p1 := 90) dL_law_87 rfl (by omega) (by omega) rfl (fun c_87 => by exfalso; first | exact c_87 rfl | omega | contradiction) (fun c_87 => ?_)) | refine x_icmp_ge hX (tgt := 173) (p1 := 90) dL_law_87 rfl rfl (fun c_87 => by exfalso; first | exact c_87 rfl | omega | contradiction) (fun c_87 => ?_)
      refine x_iload hX (p0 := 92) dL_law_90 rfl rfl ?_
      first | ((with_reducible refine yisN1 ?_); refine x_ifN_eq hX (tgt := 173) (p1 := 95) dL_law_92 rfl (by omega) rfl (fun c_92 => by exfalso; first | exact c_92 rfl | omega | contradiction) (fun c_92 => ?_)) | refine x_if_eq hX (tgt := 173) (p1 := 95) dL_law_92 rfl rfl (fun c_92 => by exfalso; first | exact c_92 rfl | omega | contradiction) (fun c_92 => ?_)
      exact h95
