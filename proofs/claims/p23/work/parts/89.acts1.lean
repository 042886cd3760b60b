/-! THE LAW ACTS: what class and law hold, before and behind; set, swap, pause -/
/-- the class holds the state ρ -/
def KI (σ : Sg) (ρ : Nat → Int32) (s : Nat) : Prop := RowOK ρ s ∧ Rep σ 1 ρ s ∧ (∃ n H, HC σ n H) ∧ RDC σ ρ s ∧ σ 76 1 = nI 0
/-- the law's arrays hold it -/
def GL (σ : Sg) (ρ : Nat → Int32) (s : Nat) : Prop := (σ 79 0 = ρ 0 ∧ σ 79 1 = ρ 1 ∧ σ 79 2 = ρ 2 ∧ σ 79 3 = nI s) ∧ (∀ l, l < 25 → σ 81 l = ρ (4 + l)) ∧ ∀ k, k < s → σ 80 k = ρ (29 + k)
/-- a beat as it can be set, times that rise -/
def SRT (ρ : Nat → Int32) (s : Nat) : Prop := (∃ b, 4 ≤ b ∧ b ≤ 20 ∧ ρ 0 = nI b) ∧ ∃ T : Nat → Nat, (∀ k, k < s → T k ≤ 9999 ∧ ρ (29 + k) = nI (T k)) ∧ ∀ i j, i < j → j < s → T i < T j
def LJ (σ : Sg) : Prop := ∃ ρ s, KI σ ρ s ∧ GL σ ρ s ∧ SRT ρ s ∧ s ≤ 60
def KO (σ : Sg) (ρ' : Nat → Int32) (s' : Nat) (v : Int32) : SP := RelI (fun u σ3 => u = v ∧ KI σ3 ρ' s' ∧ ∀ z, 72 ≤ z → σ3 z = σ z)
theorem KI.of {σ σ' : Sg} {ρ : Nat → Int32} {s : Nat} (h : KI σ ρ s) (f : ∀ z, z < 79 → σ' z = σ z) : KI σ' ρ s := by
  obtain ⟨hR, hRep, ⟨n, H, hHC⟩, hRD, h76⟩ := h
  exact ⟨hR, hRep.of_eq (f _ (by decide)) (f _ (by decide)) (f _ (by decide)), ⟨n, H, hHC.of (fun z h1 h2 => f z (by omega))⟩, hRD.of (fun z h1 h2 => f z (by omega)), by rw [f 76 (by decide)]; exact h76⟩
theorem LI_of {σ : Sg} {ρ : Nat → Int32} {s : Nat} (hK : KI σ ρ s) (hG : GL σ ρ s) (hs : s ≤ 60) : LI σ ρ s := by
  obtain ⟨hR, hRep, hHC, hRD, h76⟩ := hK
  obtain ⟨g, h81, h80⟩ := hG
  exact ⟨hR, hs, hRep, hHC, hRD, g, h81, h80, h76⟩
theorem KO_of {r : MR} {As : List AV} {σ : Sg} {ρ ρ' : Nat → Int32} {s s' : Nat} {v : Int32} (hK : KI σ ρ s) (hR : RowOK ρ' s') (h : ∀ n H, HC σ n H → σ 65 0 = nI 0 → CM r As σ (CPost ρ σ n H s ρ' s' v)) : CM r As σ (KO σ ρ' s' v) := by
  obtain ⟨_, _, ⟨n, H, hHC⟩, hRD, h76⟩ := hK
  refine CM.mono (h n H hHC hRD.2.2.2.2.2.2) ?_
  rintro w σ3 ⟨rfl, a1, a2, a3, a4⟩
  exact ⟨v, rfl, rfl, ⟨hR, a1, ⟨_, _, a2⟩, a3, by rw [a4 76 (by decide)]; exact h76⟩, a4⟩
theorem set0_K {σ : Sg} {ρ : Nat → Int32} {s x : Nat} (hK : KI σ ρ s) (h1 : 4 ≤ x) (h2 : x ≤ 20) : CM mX9_set [ar 0, ai (nI 0), ai (nI x)] σ (KO σ (upd ρ 0 (nI x)) s (ρ 0)) :=
  KO_of hK (hK.1.upd (by decide) (fun _ => ⟨x, h2, rfl⟩)) (fun _ _ hHC h65 => set_c0 hK.1 hK.2.1 hHC h65 h1 h2)
theorem set1_K {σ : Sg} {ρ : Nat → Int32} {s x : Nat} (hK : KI σ ρ s) (h2 : x ≤ 3) : CM mX9_set [ar 0, ai (nI 1), ai (nI x)] σ (KO σ (upd ρ 1 (nI x)) s (ρ 1)) :=
  KO_of hK (hK.1.upd (by decide) (fun z => absurd z (by decide))) (fun _ _ hHC h65 => set_c1 hK.1 hK.2.1 hHC h65 (Nat.zero_le _) h2)
theorem swap_K {σ : Sg} {ρ : Nat → Int32} {s i j c : Nat} (hK : KI σ ρ s) (hi : i < 25) (hj : j < 25) (hij : i ≠ j) (hc : ρ (4 + j) = nI c) (hc1 : c < 25) : CM mX9_swap [ar 0, ai (nI i), ai (nI j)] σ (KO σ (SWP ρ i j) s (nI (10 * (c / 5 + 1) + (c % 5 + 1)))) :=
  KO_of hK (RowOK_swp hK.1 hi hj) (fun _ _ hHC h65 => swap_c hK.1 hK.2.1 hHC h65 hi hj hij hc hc1)
theorem pause_K {σ : Sg} {ρ : Nat → Int32} {s : Nat} (hK : KI σ ρ s) (hz : ρ 2 = nI 0) (hs : 0 < s) : CM mX9_pause [ar 0] σ (KO σ (upd ρ 2 (nI 1)) s (nI s)) :=
  KO_of hK (RowOK_upd2 hK.1) (fun _ _ hHC _ => pause_c hK.1 hK.2.1 hHC hK.2.2.2.1 hz hs)
theorem mute_K {σ : Sg} {ρ : Nat → Int32} {s p : Nat} (hK : KI σ ρ s) (hp : p < s) : CM mX9_mute [ar 0, ai (nI p)] σ (KO σ (REM ρ s p) (s - 1) (ρ (29 + p))) :=
  KO_of hK (RowOK_rem hK.1) (fun _ _ hHC h65 => mute_c hK.1 hK.2.1 hHC h65 hp)
theorem GL_upd {σ σ3 : Sg} {ρ : Nat → Int32} {s k : Nat} {x : Int32} (hG : GL σ ρ s) (hk : k < 3) (f : ∀ z, 72 ≤ z → σ3 z = up σ 79 k x z) : GL σ3 (upd ρ k x) s := by
  obtain ⟨⟨g0, g1, g2, g3⟩, h81, h80⟩ := hG
  have e : ∀ q, q < 3 → σ 79 q = ρ q → σ3 79 q = upd ρ k x q := by
    intro q hq hg
    rw [f 79 (by decide), up_self]
    by_cases hqk : q = k
    · rw [hqk, upd_hit, upd_hit]
    · rw [upd_ne hqk, upd_ne hqk]; exact hg
  refine ⟨⟨e 0 (by decide) g0, e 1 (by decide) g1, e 2 (by decide) g2, ?_⟩, fun l hl => ?_, fun q hq => ?_⟩
  · rw [f 79 (by decide), up_miss (by omega)]; exact g3
  · rw [f 81 (by decide), up_ne (by decide), upd_ne (by omega)]; exact h81 l hl
  · rw [f 80 (by decide), up_ne (by decide), upd_ne (by omega)]; exact h80 q hq
theorem SRT_upd {ρ : Nat → Int32} {s k : Nat} {x : Int32} (h : SRT ρ s) (hk : k < 29) (hx : k = 0 → ∃ b, 4 ≤ b ∧ b ≤ 20 ∧ x = nI b) : SRT (upd ρ k x) s := by
  obtain ⟨⟨b, hb1, hb2, hb3⟩, T, h1, h2⟩ := h
  refine ⟨?_, T, fun q hq => ⟨(h1 q hq).1, by rw [upd_ne (by omega)]; exact (h1 q hq).2⟩, h2⟩
  by_cases hk0 : k = 0
  · obtain ⟨b', c1, c2, c3⟩ := hx hk0
    exact ⟨b', c1, c2, by rw [hk0, upd_hit]; exact c3⟩
  · exact ⟨b, hb1, hb2, by rw [upd_ne (by omega)]; exact hb3⟩
theorem GL_swp {σ σ3 : Sg} {ρ : Nat → Int32} {s i j : Nat} (hG : GL σ ρ s) (hi : i < 25) (hj : j < 25) (hij : i ≠ j) (f : ∀ z, 72 ≤ z → σ3 z = up (up σ 81 i (ρ (4 + j))) 81 j (ρ (4 + i)) z) : GL σ3 (SWP ρ i j) s := by
  obtain ⟨⟨g0, g1, g2, g3⟩, h81, h80⟩ := hG
  have e : σ3 79 = σ 79 := by rw [f 79 (by decide), up_ne (by decide), up_ne (by decide)]
  refine ⟨?_, fun l hl => ?_, fun q hq => ?_⟩
  · rw [e, SWP_ne (by omega) hi hj, SWP_ne (by omega) hi hj, SWP_ne (by omega) hi hj]
    exact ⟨g0, g1, g2, g3⟩
  · rw [f 81 (by decide), SWP_c]
    rcases pm_c i j l with ⟨h1, h2⟩ | ⟨h1, h2, h3⟩ | ⟨h1, h2, h3⟩
    · rw [h2, h1, up_hit]
    · rw [h3, h2, up_miss (by omega), up_hit]
    · rw [h3, up_miss h1, up_miss h2]; exact h81 l hl
  · rw [f 80 (by decide), up_ne (by decide), up_ne (by decide), SWP_ne (by omega) hi hj]; exact h80 q hq
theorem SRT_swp {ρ : Nat → Int32} {s i j : Nat} (h : SRT ρ s) (hi : i < 25) (hj : j < 25) : SRT (SWP ρ i j) s := by
  obtain ⟨⟨b, hb1, hb2, hb3⟩, T, h1, h2⟩ := h
  exact ⟨⟨b, hb1, hb2, by rw [SWP_ne (by omega) hi hj]; exact hb3⟩, T, fun q hq => ⟨(h1 q hq).1, by rw [SWP_ne (by omega) hi hj]; exact (h1 q hq).2⟩, h2⟩
theorem g_cV0I {r : MR} {Q : SP} {σ : Sg} {pc : Nat} {ls : List (Option AV)} {st : List AV} {i o ci p0 : Nat} {fl : List (Option Nat)} {r1 : MR} {P : Int32 → Sg → Prop} (h1 : decode (rc r) pc = .ok (.invokevirtual i, 3)) (h2 : Cond.methodLink (ro r) i (ry r1) ∈ Wl) (h3 : MV r1 0) (hs : SHl[o]? = some (.inl (ci, fl))) (hk : KC ci (ro r1)) (hf : FIT r1 r) (hl : st.length ≤ 8) (hc : CM r1 (ar o :: []) σ (RelI P)) (e1 : pc + 3 = p0) (k1 : ∀ v σ1, P v σ1 → WM r Q p0 ls (ai v :: st) σ1) : WM r Q pc ls (ar o :: st) σ := g_cV0R_base (As := []) h1 h2 h3 hs hk hf hl rfl rfl (conI hc e1 k1)
theorem g_cV1I {r : MR} {Q : SP} {σ : Sg} {pc : Nat} {ls : List (Option AV)} {st : List AV} {i o ci p0 : Nat} {fl : List (Option Nat)} {r1 : MR} {a1 : AV} {P : Int32 → Sg → Prop} (h1 : decode (rc r) pc = .ok (.invokevirtual i, 3)) (h2 : Cond.methodLink (ro r) i (ry r1) ∈ Wl) (h3 : MV r1 1) (hs : SHl[o]? = some (.inl (ci, fl))) (hk : KC ci (ro r1)) (hf : FIT r1 r) (hl : st.length ≤ 8) (hc : CM r1 (ar o :: [a1]) σ (RelI P)) (e1 : pc + 3 = p0) (k1 : ∀ v σ1, P v σ1 → WM r Q p0 ls (ai v :: st) σ1) : WM r Q pc ls (a1 :: ar o :: st) σ := g_cV0R_base (As := [a1]) h1 h2 h3 hs hk hf hl rfl rfl (conI hc e1 k1)
theorem g_cV2I {r : MR} {Q : SP} {σ : Sg} {pc : Nat} {ls : List (Option AV)} {st : List AV} {i o ci p0 : Nat} {fl : List (Option Nat)} {r1 : MR} {a1 a2 : AV} {P : Int32 → Sg → Prop} (h1 : decode (rc r) pc = .ok (.invokevirtual i, 3)) (h2 : Cond.methodLink (ro r) i (ry r1) ∈ Wl) (h3 : MV r1 2) (hs : SHl[o]? = some (.inl (ci, fl))) (hk : KC ci (ro r1)) (hf : FIT r1 r) (hl : st.length ≤ 8) (hc : CM r1 (ar o :: [a1, a2]) σ (RelI P)) (e1 : pc + 3 = p0) (k1 : ∀ v σ1, P v σ1 → WM r Q p0 ls (ai v :: st) σ1) : WM r Q pc ls (a2 :: a1 :: ar o :: st) σ := g_cV0R_base (As := [a1, a2]) h1 h2 h3 hs hk hf hl rfl rfl (conI hc e1 k1)
theorem g_cV3I {r : MR} {Q : SP} {σ : Sg} {pc : Nat} {ls : List (Option AV)} {st : List AV} {i o ci p0 : Nat} {fl : List (Option Nat)} {r1 : MR} {a1 a2 a3 : AV} {P : Int32 → Sg → Prop} (h1 : decode (rc r) pc = .ok (.invokevirtual i, 3)) (h2 : Cond.methodLink (ro r) i (ry r1) ∈ Wl) (h3 : MV r1 3) (hs : SHl[o]? = some (.inl (ci, fl))) (hk : KC ci (ro r1)) (hf : FIT r1 r) (hl : st.length ≤ 8) (hc : CM r1 (ar o :: [a1, a2, a3]) σ (RelI P)) (e1 : pc + 3 = p0) (k1 : ∀ v σ1, P v σ1 → WM r Q p0 ls (ai v :: st) σ1) : WM r Q pc ls (a3 :: a2 :: a1 :: ar o :: st) σ := g_cV0R_base (As := [a1, a2, a3]) h1 h2 h3 hs hk hf hl rfl rfl (conI hc e1 k1)
set_option maxRecDepth 20000 in
set_option maxHeartbeats 2000000 in
theorem act_set0 {s v w : Nat} {zz : Int32} {ρ : Nat → Int32} {σ : Sg} {Q : SP} {x7 x8 x9 x10 : Option AV} (hK : KI σ ρ s) (hG : GL σ ρ s) (hS : SRT ρ s) (hs : s ≤ 60) (hv : v < 10000000) (next : ∀ σ', gN σ' = gN σ → LJ σ' → Q (some (ai (nI 1))) σ') (hk : v % 2 = 0) : WM mL_acts Q 25 [some (ar 0), some (ar 79), some (ar 80), some (ar 81), some (ai zz), some (ai (nI v)), some (ai (nI w)), x7, x8, x9, x10] [] σ := by
  obtain ⟨⟨g0, g1, g2, g3⟩, h81, h80⟩ := id hG
  have hK3 := hK.of (σ' := up σ 79 0 (nI (4 + v / 2 % 17))) (fun z hz => by rw [up_ne (by omega)])
  refine g_iload (p0 := 27) dL_acts_25 rfl rfl ?_
  refine g_iconst (p0 := 28) (v := nI 2) dL_acts_27 rfl rfl ?_
  first | ((with_reducible refine isN2 ?_); refine g_iremN (p0 := 29) dL_acts_28 (by omega) (by omega) (by omega) rfl ?_) | refine g_irem (p0 := 29) dL_acts_28 (by decide) rfl ?_
  rw [hk]
  refine g_istore (p0 := 31) (i := 7) (ls2 := [_, _, _, _, _, _, _, _, _, _, _]) dL_acts_29 (Nat.le_of_ble_eq_true rfl) rfl rfl ?_
  refine g_aload_n (p0 := 32) (i := 1) dL_acts_31 rfl rfl rfl ?_
  refine g_iload (p0 := 34) dL_acts_32 rfl rfl ?_
  first | ((with_reducible refine isN1 ?_); refine g_aldN (p0 := 35) dL_acts_34 (by first | rfl | assumption | exact RW.s (by assumption) | exact TW.s (by assumption)) (by first | decide | assumption) (by omega) (by first | assumption | ((repeat (first | exact up_hit | (apply up_nv; omega) | (apply up_mv; omega))) <;> first | assumption | rfl)) rfl ?_) | refine g_ald (p0 := 35) dL_acts_34 (by first | rfl | assumption | exact RW.s (by assumption) | exact TW.s (by assumption)) (by assumption) (by first | assumption | ((repeat (first | exact up_hit | (apply up_nv; omega) | (apply up_mv; omega))) <;> first | assumption | rfl)) rfl ?_
  refine g_istore (p0 := 37) (i := 8) (ls2 := [_, _, _, _, _, _, _, _, _, _, _]) dL_acts_35 (Nat.le_of_ble_eq_true rfl) rfl rfl ?_
  refine g_aload_n (p0 := 38) (i := 1) dL_acts_37 rfl rfl rfl ?_
  refine g_iload (p0 := 40) dL_acts_38 rfl rfl ?_
  refine g_iload (p0 := 42) dL_acts_40 rfl rfl ?_
  first | ((with_reducible refine isN1 ?_); refine g_ifN_ne (tgt := 57) (p1 := 45) dL_acts_42 rfl (by omega) rfl (fun c_42 => by exfalso; first | exact c_42 rfl | omega | contradiction) (fun c_42 => ?_)) | refine g_if_ne (tgt := 57) (p1 := 45) dL_acts_42 rfl rfl (fun c_42 => by exfalso; first | exact c_42 rfl | omega | contradiction) (fun c_42 => ?_)
  refine g_iconst (p0 := 46) (v := nI 4) dL_acts_45 rfl rfl ?_
  refine g_iload (p0 := 48) dL_acts_46 rfl rfl ?_
  refine g_iconst (p0 := 49) (v := nI 2) dL_acts_48 rfl rfl ?_
  first | ((with_reducible refine isN2 ?_); refine g_idivN (p0 := 50) dL_acts_49 (by omega) (by omega) (by omega) rfl ?_) | refine g_idiv (p0 := 50) dL_acts_49 (by decide) rfl ?_
  refine g_bipush (p0 := 52) (v := nI 17) dL_acts_50 (by decide) rfl ?_
  first | ((with_reducible refine isN2 ?_); refine g_iremN (p0 := 53) dL_acts_52 (by omega) (by omega) (by omega) rfl ?_) | refine g_irem (p0 := 53) dL_acts_52 (by decide) rfl ?_
  first | ((with_reducible refine isN2 ?_); refine g_iaddN (p0 := 54) dL_acts_53 rfl ?_) | refine g_iadd (p0 := 54) dL_acts_53 rfl ?_
  refine g_goto (tgt := 63) dL_acts_54 rfl ?_
  first | ((with_reducible refine isNS ?_); refine g_astN (p0 := 64) dL_acts_63 (by first | rfl | assumption | exact RW.s (by assumption) | exact TW.s (by assumption)) (by first | decide | assumption) (by omega) rfl ?_) | refine g_ast (p0 := 64) dL_acts_63 (by first | rfl | assumption | exact RW.s (by assumption) | exact TW.s (by assumption)) (by assumption) rfl ?_
  refine g_aload_n (p0 := 65) (i := 0) dL_acts_64 rfl rfl rfl ?_
  refine g_iload (p0 := 67) dL_acts_65 rfl rfl ?_
  refine g_aload_n (p0 := 68) (i := 1) dL_acts_67 rfl rfl rfl ?_
  refine g_iload (p0 := 70) dL_acts_68 rfl rfl ?_
  first | ((with_reducible refine isN1 ?_); refine g_aldN (p0 := 71) dL_acts_70 (by first | rfl | assumption | exact RW.s (by assumption) | exact TW.s (by assumption)) (by first | decide | assumption) (by omega) (by first | assumption | ((repeat (first | exact up_hit | (apply up_nv; omega) | (apply up_mv; omega))) <;> first | assumption | rfl)) rfl ?_) | refine g_ald (p0 := 71) dL_acts_70 (by first | rfl | assumption | exact RW.s (by assumption) | exact TW.s (by assumption)) (by assumption) (by first | assumption | ((repeat (first | exact up_hit | (apply up_nv; omega) | (apply up_mv; omega))) <;> first | assumption | rfl)) rfl ?_
  refine g_cV2I (p0 := 74) (r1 := mX9_set) dL_acts_71 lL_43 vX9_set (by first | rfl | assumption | exact RW.s (by assumption) | exact TW.s (by assumption)) ⟨_, _, rfl⟩ (FITi rfl rfl) (Nat.le_of_ble_eq_true rfl) (set0_K hK3 (by omega) (by omega)) rfl ?_
  rintro u σ3 ⟨rfl, hK4, hf3⟩
  refine g_iload (p0 := 76) dL_acts_74 rfl rfl ?_
  first | ((with_reducible refine isN2 ?_); refine g_icmpN_ne (tgt := 83) (p1 := 79) dL_acts_76 rfl (by omega) (by omega) rfl (fun c_76 => by exfalso; first | exact c_76 rfl | omega | contradiction) (fun c_76 => ?_)) | refine g_icmp_ne (tgt := 83) (p1 := 79) dL_acts_76 rfl rfl (fun c_76 => by exfalso; first | exact c_76 rfl | omega | contradiction) (fun c_76 => ?_)
  refine g_iconst (p0 := 80) (v := nI 1) dL_acts_79 rfl rfl ?_
  refine g_goto (tgt := 84) dL_acts_80 rfl ?_
  refine g_ireturn dL_acts_84 rfl (by first | rfl | exact bool_narrow (by first | exact Or.inl rfl | exact Or.inr rfl | assumption | (split <;> first | exact Or.inl rfl | exact Or.inr rfl))) (?_)
  exact next σ3 (gN_of (by rw [hf3 99999 (by decide), up_ne (by decide)])) ⟨_, s, hK4, GL_upd hG (by decide) hf3, SRT_upd hS (by decide) (fun _ => ⟨_, by omega, by omega, rfl⟩), hs⟩
set_option maxRecDepth 20000 in
set_option maxHeartbeats 2000000 in
theorem act_set1 {s v w : Nat} {zz : Int32} {ρ : Nat → Int32} {σ : Sg} {Q : SP} {x7 x8 x9 x10 : Option AV} (hK : KI σ ρ s) (hG : GL σ ρ s) (hS : SRT ρ s) (hs : s ≤ 60) (hv : v < 10000000) (next : ∀ σ', gN σ' = gN σ → LJ σ' → Q (some (ai (nI 1))) σ') (hk : v % 2 = 1) : WM mL_acts Q 25 [some (ar 0), some (ar 79), some (ar 80), some (ar 81), some (ai zz), some (ai (nI v)), some (ai (nI w)), x7, x8, x9, x10] [] σ := by
  obtain ⟨⟨g0, g1, g2, g3⟩, h81, h80⟩ := id hG
  have hK3 := hK.of (σ' := up σ 79 1 (nI (v / 2 % 4))) (fun z hz => by rw [up_ne (by omega)])
  refine g_iload (p0 := 27) dL_acts_25 rfl rfl ?_
  refine g_iconst (p0 := 28) (v := nI 2) dL_acts_27 rfl rfl ?_
  first | ((with_reducible refine isN2 ?_); refine g_iremN (p0 := 29) dL_acts_28 (by omega) (by omega) (by omega) rfl ?_) | refine g_irem (p0 := 29) dL_acts_28 (by decide) rfl ?_
  rw [hk]
  refine g_istore (p0 := 31) (i := 7) (ls2 := [_, _, _, _, _, _, _, _, _, _, _]) dL_acts_29 (Nat.le_of_ble_eq_true rfl) rfl rfl ?_
  refine g_aload_n (p0 := 32) (i := 1) dL_acts_31 rfl rfl rfl ?_
  refine g_iload (p0 := 34) dL_acts_32 rfl rfl ?_
  first | ((with_reducible refine isN1 ?_); refine g_aldN (p0 := 35) dL_acts_34 (by first | rfl | assumption | exact RW.s (by assumption) | exact TW.s (by assumption)) (by first | decide | assumption) (by omega) (by first | assumption | ((repeat (first | exact up_hit | (apply up_nv; omega) | (apply up_mv; omega))) <;> first | assumption | rfl)) rfl ?_) | refine g_ald (p0 := 35) dL_acts_34 (by first | rfl | assumption | exact RW.s (by assumption) | exact TW.s (by assumption)) (by assumption) (by first | assumption | ((repeat (first | exact up_hit | (apply up_nv; omega) | (apply up_mv; omega))) <;> first | assumption | rfl)) rfl ?_
  refine g_istore (p0 := 37) (i := 8) (ls2 := [_, _, _, _, _, _, _, _, _, _, _]) dL_acts_35 (Nat.le_of_ble_eq_true rfl) rfl rfl ?_
  refine g_aload_n (p0 := 38) (i := 1) dL_acts_37 rfl rfl rfl ?_
  refine g_iload (p0 := 40) dL_acts_38 rfl rfl ?_
  refine g_iload (p0 := 42) dL_acts_40 rfl rfl ?_
  first | ((with_reducible refine isN1 ?_); refine g_ifN_ne (tgt := 57) (p1 := 45) dL_acts_42 rfl (by omega) rfl (fun c_42 => ?_) (fun c_42 => by exfalso; first | exact c_42 rfl | omega | contradiction)) | refine g_if_ne (tgt := 57) (p1 := 45) dL_acts_42 rfl rfl (fun c_42 => ?_) (fun c_42 => by exfalso; first | exact c_42 rfl | omega | contradiction)
  refine g_iload (p0 := 59) dL_acts_57 rfl rfl ?_
  refine g_iconst (p0 := 60) (v := nI 2) dL_acts_59 rfl rfl ?_
  first | ((with_reducible refine isN2 ?_); refine g_idivN (p0 := 61) dL_acts_60 (by omega) (by omega) (by omega) rfl ?_) | refine g_idiv (p0 := 61) dL_acts_60 (by decide) rfl ?_
  refine g_iconst (p0 := 62) (v := nI 4) dL_acts_61 rfl rfl ?_
  first | ((with_reducible refine isN2 ?_); refine g_iremN (p0 := 63) dL_acts_62 (by omega) (by omega) (by omega) rfl ?_) | refine g_irem (p0 := 63) dL_acts_62 (by decide) rfl ?_
  first | ((with_reducible refine isNS ?_); refine g_astN (p0 := 64) dL_acts_63 (by first | rfl | assumption | exact RW.s (by assumption) | exact TW.s (by assumption)) (by first | decide | assumption) (by omega) rfl ?_) | refine g_ast (p0 := 64) dL_acts_63 (by first | rfl | assumption | exact RW.s (by assumption) | exact TW.s (by assumption)) (by assumption) rfl ?_
  refine g_aload_n (p0 := 65) (i := 0) dL_acts_64 rfl rfl rfl ?_
  refine g_iload (p0 := 67) dL_acts_65 rfl rfl ?_
  refine g_aload_n (p0 := 68) (i := 1) dL_acts_67 rfl rfl rfl ?_
  refine g_iload (p0 := 70) dL_acts_68 rfl rfl ?_
  first | ((with_reducible refine isN1 ?_); refine g_aldN (p0 := 71) dL_acts_70 (by first | rfl | assumption | exact RW.s (by assumption) | exact TW.s (by assumption)) (by first | decide | assumption) (by omega) (by first | assumption | ((repeat (first | exact up_hit | (apply up_nv; omega) | (apply up_mv; omega))) <;> first | assumption | rfl)) rfl ?_) | refine g_ald (p0 := 71) dL_acts_70 (by first | rfl | assumption | exact RW.s (by assumption) | exact TW.s (by assumption)) (by assumption) (by first | assumption | ((repeat (first | exact up_hit | (apply up_nv; omega) | (apply up_mv; omega))) <;> first | assumption | rfl)) rfl ?_
  refine g_cV2I (p0 := 74) (r1 := mX9_set) dL_acts_71 lL_43 vX9_set (by first | rfl | assumption | exact RW.s (by assumption) | exact TW.s (by assumption)) ⟨_, _, rfl⟩ (FITi rfl rfl) (Nat.le_of_ble_eq_true rfl) (set1_K hK3 (by omega)) rfl ?_
  rintro u σ3 ⟨rfl, hK4, hf3⟩
  refine g_iload (p0 := 76) dL_acts_74 rfl rfl ?_
  first | ((with_reducible refine isN2 ?_); refine g_icmpN_ne (tgt := 83) (p1 := 79) dL_acts_76 rfl (by omega) (by omega) rfl (fun c_76 => by exfalso; first | exact c_76 rfl | omega | contradiction) (fun c_76 => ?_)) | refine g_icmp_ne (tgt := 83) (p1 := 79) dL_acts_76 rfl rfl (fun c_76 => by exfalso; first | exact c_76 rfl | omega | contradiction) (fun c_76 => ?_)
  refine g_iconst (p0 := 80) (v := nI 1) dL_acts_79 rfl rfl ?_
  refine g_goto (tgt := 84) dL_acts_80 rfl ?_
  refine g_ireturn dL_acts_84 rfl (by first | rfl | exact bool_narrow (by first | exact Or.inl rfl | exact Or.inr rfl | assumption | (split <;> first | exact Or.inl rfl | exact Or.inr rfl))) (?_)
  exact next σ3 (gN_of (by rw [hf3 99999 (by decide), up_ne (by decide)])) ⟨_, s, hK4, GL_upd hG (by decide) hf3, SRT_upd hS (by decide) (fun q => absurd q (by decide)), hs⟩
set_option maxRecDepth 20000 in
set_option maxHeartbeats 2000000 in
theorem act_swapE {s v w : Nat} {zz : Int32} {ρ : Nat → Int32} {σ : Sg} {Q : SP} {x7 x8 x9 x10 : Option AV} (hK : KI σ ρ s) (hG : GL σ ρ s) (hS : SRT ρ s) (hs : s ≤ 60) (hv : v < 10000000) (next : ∀ σ', gN σ' = gN σ → LJ σ' → Q (some (ai (nI 1))) σ') (he : v / 25 % 25 = v % 25) : WM mL_acts Q 91 [some (ar 0), some (ar 79), some (ar 80), some (ar 81), some (ai zz), some (ai (nI v)), some (ai (nI w)), x7, x8, x9, x10] [] σ := by
  obtain ⟨⟨g0, g1, g2, g3⟩, h81, h80⟩ := id hG
  have hi : v % 25 < 25 := Nat.mod_lt _ (by decide)
  refine g_iload (p0 := 93) dL_acts_91 rfl rfl ?_
  refine g_bipush (p0 := 95) (v := nI 25) dL_acts_93 (by decide) rfl ?_
  first | ((with_reducible refine isN2 ?_); refine g_iremN (p0 := 96) dL_acts_95 (by omega) (by omega) (by omega) rfl ?_) | refine g_irem (p0 := 96) dL_acts_95 (by decide) rfl ?_
  refine g_istore (p0 := 98) (i := 7) (ls2 := [_, _, _, _, _, _, _, _, _, _, _]) dL_acts_96 (Nat.le_of_ble_eq_true rfl) rfl rfl ?_
  refine g_iload (p0 := 100) dL_acts_98 rfl rfl ?_
  refine g_bipush (p0 := 102) (v := nI 25) dL_acts_100 (by decide) rfl ?_
  first | ((with_reducible refine isN2 ?_); refine g_idivN (p0 := 103) dL_acts_102 (by omega) (by omega) (by omega) rfl ?_) | refine g_idiv (p0 := 103) dL_acts_102 (by decide) rfl ?_
  refine g_bipush (p0 := 105) (v := nI 25) dL_acts_103 (by decide) rfl ?_
  first | ((with_reducible refine isN2 ?_); refine g_iremN (p0 := 106) dL_acts_105 (by omega) (by omega) (by omega) rfl ?_) | refine g_irem (p0 := 106) dL_acts_105 (by decide) rfl ?_
  rw [he]
  refine g_istore (p0 := 108) (i := 8) (ls2 := [_, _, _, _, _, _, _, _, _, _, _]) dL_acts_106 (Nat.le_of_ble_eq_true rfl) rfl rfl ?_
  refine g_iload (p0 := 110) dL_acts_108 rfl rfl ?_
  refine g_iload (p0 := 112) dL_acts_110 rfl rfl ?_
  first | ((with_reducible refine isN2 ?_); refine g_icmpN_ne (tgt := 134) (p1 := 115) dL_acts_112 rfl (by omega) (by omega) rfl (fun c_112 => by exfalso; first | exact c_112 rfl | omega | contradiction) (fun c_112 => ?_)) | refine g_icmp_ne (tgt := 134) (p1 := 115) dL_acts_112 rfl rfl (fun c_112 => by exfalso; first | exact c_112 rfl | omega | contradiction) (fun c_112 => ?_)
  refine g_aload_n (p0 := 116) (i := 0) dL_acts_115 rfl rfl rfl ?_
  refine g_iload (p0 := 118) dL_acts_116 rfl rfl ?_
  refine g_iload (p0 := 120) dL_acts_118 rfl rfl ?_
  refine g_cV2R (p0 := 123) (r1 := mX9_swap) dL_acts_120 lL_48 vX9_swap (by first | rfl | assumption | exact RW.s (by assumption) | exact TW.s (by assumption)) ⟨_, _, rfl⟩ (FITi rfl rfl) (Nat.le_of_ble_eq_true rfl) (swap_cF3 hi) rfl ?_
  refine g_ldc (p0 := 125) dL_acts_123 qL_51 rfl ?_
  first | ((with_reducible refine isN2 ?_); refine g_icmpN_ne (tgt := 132) (p1 := 128) dL_acts_125 rfl (by omega) (by omega) rfl (fun c_125 => by exfalso; first | exact c_125 rfl | omega | contradiction) (fun c_125 => ?_)) | refine g_icmp_ne (tgt := 132) (p1 := 128) dL_acts_125 rfl rfl (fun c_125 => by exfalso; first | exact c_125 rfl | omega | contradiction) (fun c_125 => ?_)
  refine g_iconst (p0 := 129) (v := nI 1) dL_acts_128 rfl rfl ?_
  refine g_goto (tgt := 133) dL_acts_129 rfl ?_
  refine g_ireturn dL_acts_133 rfl (by first | rfl | exact bool_narrow (by first | exact Or.inl rfl | exact Or.inr rfl | assumption | (split <;> first | exact Or.inl rfl | exact Or.inr rfl))) (?_)
  exact next σ rfl ⟨ρ, s, hK, hG, hS, hs⟩
set_option maxRecDepth 20000 in
set_option maxHeartbeats 2000000 in
theorem act_swapN {s v w : Nat} {zz : Int32} {ρ : Nat → Int32} {σ : Sg} {Q : SP} {x7 x8 x9 x10 : Option AV} (hK : KI σ ρ s) (hG : GL σ ρ s) (hS : SRT ρ s) (hs : s ≤ 60) (hv : v < 10000000) (next : ∀ σ', gN σ' = gN σ → LJ σ' → Q (some (ai (nI 1))) σ') (hne : ¬ v % 25 = v / 25 % 25) : WM mL_acts Q 91 [some (ar 0), some (ar 79), some (ar 80), some (ar 81), some (ai zz), some (ai (nI v)), some (ai (nI w)), x7, x8, x9, x10] [] σ := by
  obtain ⟨⟨g0, g1, g2, g3⟩, h81, h80⟩ := id hG
  obtain ⟨cf, hcf, hinj⟩ := hK.1.2.2.2.1
  obtain ⟨i, hi0⟩ : ∃ i, i = v % 25 := ⟨_, rfl⟩
  obtain ⟨j, hj0⟩ : ∃ j, j = v / 25 % 25 := ⟨_, rfl⟩
  have hi : i < 25 := by rw [hi0]; exact Nat.mod_lt _ (by decide)
  have hj : j < 25 := by rw [hj0]; exact Nat.mod_lt _ (by decide)
  rw [← hi0, ← hj0] at hne
  have ci := (hcf i hi).1
  have cj := (hcf j hj).1
  have cj2 := (hcf j hj).2
  have hvi : σ 81 i = ρ (4 + i) := h81 i hi
  have hvj : σ 81 j = ρ (4 + j) := h81 j hj
  obtain ⟨σ1, hσ1⟩ : ∃ z, z = up (up σ 81 i (ρ (4 + j))) 81 j (ρ (4 + i)) := ⟨_, rfl⟩
  have hK1 : KI σ1 ρ s := hK.of (fun z hz => by rw [hσ1, up_ne (by omega), up_ne (by omega)])
  refine g_iload (p0 := 93) dL_acts_91 rfl rfl ?_
  refine g_bipush (p0 := 95) (v := nI 25) dL_acts_93 (by decide) rfl ?_
  first | ((with_reducible refine isN2 ?_); refine g_iremN (p0 := 96) dL_acts_95 (by omega) (by omega) (by omega) rfl ?_) | refine g_irem (p0 := 96) dL_acts_95 (by decide) rfl ?_
  rw [← hi0]
  refine g_istore (p0 := 98) (i := 7) (ls2 := [_, _, _, _, _, _, _, _, _, _, _]) dL_acts_96 (Nat.le_of_ble_eq_true rfl) rfl rfl ?_
  refine g_iload (p0 := 100) dL_acts_98 rfl rfl ?_
  refine g_bipush (p0 := 102) (v := nI 25) dL_acts_100 (by decide) rfl ?_
  first | ((with_reducible refine isN2 ?_); refine g_idivN (p0 := 103) dL_acts_102 (by omega) (by omega) (by omega) rfl ?_) | refine g_idiv (p0 := 103) dL_acts_102 (by decide) rfl ?_
  refine g_bipush (p0 := 105) (v := nI 25) dL_acts_103 (by decide) rfl ?_
  first | ((with_reducible refine isN2 ?_); refine g_iremN (p0 := 106) dL_acts_105 (by omega) (by omega) (by omega) rfl ?_) | refine g_irem (p0 := 106) dL_acts_105 (by decide) rfl ?_
  rw [← hj0]
  refine g_istore (p0 := 108) (i := 8) (ls2 := [_, _, _, _, _, _, _, _, _, _, _]) dL_acts_106 (Nat.le_of_ble_eq_true rfl) rfl rfl ?_
  refine g_iload (p0 := 110) dL_acts_108 rfl rfl ?_
  refine g_iload (p0 := 112) dL_acts_110 rfl rfl ?_
  first | ((with_reducible refine isN2 ?_); refine g_icmpN_ne (tgt := 134) (p1 := 115) dL_acts_112 rfl (by omega) (by omega) rfl (fun c_112 => ?_) (fun c_112 => by exfalso; first | exact c_112 rfl | omega | contradiction)) | refine g_icmp_ne (tgt := 134) (p1 := 115) dL_acts_112 rfl rfl (fun c_112 => ?_) (fun c_112 => by exfalso; first | exact c_112 rfl | omega | contradiction)
  refine g_aload_n (p0 := 135) (i := 3) dL_acts_134 rfl rfl rfl ?_
  refine g_iload (p0 := 137) dL_acts_135 rfl rfl ?_
  first | ((with_reducible refine isN1 ?_); refine g_aldN (p0 := 138) dL_acts_137 (by first | rfl | assumption | exact RW.s (by assumption) | exact TW.s (by assumption)) (by first | decide | assumption) (by omega) (by first | assumption | ((repeat (first | exact up_hit | (apply up_nv; omega) | (apply up_mv; omega))) <;> first | assumption | rfl)) rfl ?_) | refine g_ald (p0 := 138) dL_acts_137 (by first | rfl | assumption | exact RW.s (by assumption) | exact TW.s (by assumption)) (by assumption) (by first | assumption | ((repeat (first | exact up_hit | (apply up_nv; omega) | (apply up_mv; omega))) <;> first | assumption | rfl)) rfl ?_
  refine g_istore (p0 := 140) (i := 9) (ls2 := [_, _, _, _, _, _, _, _, _, _, _]) dL_acts_138 (Nat.le_of_ble_eq_true rfl) rfl rfl ?_
  refine g_aload_n (p0 := 141) (i := 3) dL_acts_140 rfl rfl rfl ?_
  refine g_iload (p0 := 143) dL_acts_141 rfl rfl ?_
  refine g_aload_n (p0 := 144) (i := 3) dL_acts_143 rfl rfl rfl ?_
  refine g_iload (p0 := 146) dL_acts_144 rfl rfl ?_
  first | ((with_reducible refine isN1 ?_); refine g_aldN (p0 := 147) dL_acts_146 (by first | rfl | assumption | exact RW.s (by assumption) | exact TW.s (by assumption)) (by first | decide | assumption) (by omega) (by first | assumption | ((repeat (first | exact up_hit | (apply up_nv; omega) | (apply up_mv; omega))) <;> first | assumption | rfl)) rfl ?_) | refine g_ald (p0 := 147) dL_acts_146 (by first | rfl | assumption | exact RW.s (by assumption) | exact TW.s (by assumption)) (by assumption) (by first | assumption | ((repeat (first | exact up_hit | (apply up_nv; omega) | (apply up_mv; omega))) <;> first | assumption | rfl)) rfl ?_
  first | ((with_reducible refine isNS ?_); refine g_astN (p0 := 148) dL_acts_147 (by first | rfl | assumption | exact RW.s (by assumption) | exact TW.s (by assumption)) (by first | decide | assumption) (by omega) rfl ?_) | refine g_ast (p0 := 148) dL_acts_147 (by first | rfl | assumption | exact RW.s (by assumption) | exact TW.s (by assumption)) (by assumption) rfl ?_
  refine g_aload_n (p0 := 149) (i := 3) dL_acts_148 rfl rfl rfl ?_
  refine g_iload (p0 := 151) dL_acts_149 rfl rfl ?_
  refine g_iload (p0 := 153) dL_acts_151 rfl rfl ?_
  first | ((with_reducible refine isNS ?_); refine g_astN (p0 := 154) dL_acts_153 (by first | rfl | assumption | exact RW.s (by assumption) | exact TW.s (by assumption)) (by first | decide | assumption) (by omega) rfl ?_) | refine g_ast (p0 := 154) dL_acts_153 (by first | rfl | assumption | exact RW.s (by assumption) | exact TW.s (by assumption)) (by assumption) rfl ?_
  rw [← hσ1]
  refine g_aload_n (p0 := 155) (i := 0) dL_acts_154 rfl rfl rfl ?_
  refine g_iload (p0 := 157) dL_acts_155 rfl rfl ?_
  refine g_iload (p0 := 159) dL_acts_157 rfl rfl ?_
  refine g_cV2I (p0 := 162) (r1 := mX9_swap) dL_acts_159 lL_48 vX9_swap (by first | rfl | assumption | exact RW.s (by assumption) | exact TW.s (by assumption)) ⟨_, _, rfl⟩ (FITi rfl rfl) (Nat.le_of_ble_eq_true rfl) (swap_K hK1 hi hj hne cj cj2) rfl ?_
  rintro u σ3 ⟨rfl, hK4, hf3⟩
  have h3 : σ3 81 i = nI (cf j) := by rw [hf3 81 (by decide), hσ1, up_miss (by omega), up_hit]; exact cj
  refine g_bipush (p0 := 164) (v := nI 11) dL_acts_162 (by decide) rfl ?_
  refine g_bipush (p0 := 166) (v := nI 10) dL_acts_164 (by decide) rfl ?_
  refine g_aload_n (p0 := 167) (i := 3) dL_acts_166 rfl rfl rfl ?_
  refine g_iload (p0 := 169) dL_acts_167 rfl rfl ?_
  first | ((with_reducible refine isN1 ?_); refine g_aldN (p0 := 170) dL_acts_169 (by first | rfl | assumption | exact RW.s (by assumption) | exact TW.s (by assumption)) (by first | decide | assumption) (by omega) (by first | assumption | ((repeat (first | exact up_hit | (apply up_nv; omega) | (apply up_mv; omega))) <;> first | assumption | rfl)) rfl ?_) | refine g_ald (p0 := 170) dL_acts_169 (by first | rfl | assumption | exact RW.s (by assumption) | exact TW.s (by assumption)) (by assumption) (by first | assumption | ((repeat (first | exact up_hit | (apply up_nv; omega) | (apply up_mv; omega))) <;> first | assumption | rfl)) rfl ?_
  refine g_iconst (p0 := 171) (v := nI 5) dL_acts_170 rfl rfl ?_
  first | ((with_reducible refine isN2 ?_); refine g_idivN (p0 := 172) dL_acts_171 (by omega) (by omega) (by omega) rfl ?_) | refine g_idiv (p0 := 172) dL_acts_171 (by decide) rfl ?_
  first | ((with_reducible refine isN2 ?_); refine g_imulN (p0 := 173) dL_acts_172 rfl ?_) | refine g_imul (p0 := 173) dL_acts_172 rfl ?_
  first | ((with_reducible refine isN2 ?_); refine g_iaddN (p0 := 174) dL_acts_173 rfl ?_) | refine g_iadd (p0 := 174) dL_acts_173 rfl ?_
  refine g_aload_n (p0 := 175) (i := 3) dL_acts_174 rfl rfl rfl ?_
  refine g_iload (p0 := 177) dL_acts_175 rfl rfl ?_
  first | ((with_reducible refine isN1 ?_); refine g_aldN (p0 := 178) dL_acts_177 (by first | rfl | assumption | exact RW.s (by assumption) | exact TW.s (by assumption)) (by first | decide | assumption) (by omega) (by first | assumption | ((repeat (first | exact up_hit | (apply up_nv; omega) | (apply up_mv; omega))) <;> first | assumption | rfl)) rfl ?_) | refine g_ald (p0 := 178) dL_acts_177 (by first | rfl | assumption | exact RW.s (by assumption) | exact TW.s (by assumption)) (by assumption) (by first | assumption | ((repeat (first | exact up_hit | (apply up_nv; omega) | (apply up_mv; omega))) <;> first | assumption | rfl)) rfl ?_
  refine g_iconst (p0 := 179) (v := nI 5) dL_acts_178 rfl rfl ?_
  first | ((with_reducible refine isN2 ?_); refine g_iremN (p0 := 180) dL_acts_179 (by omega) (by omega) (by omega) rfl ?_) | refine g_irem (p0 := 180) dL_acts_179 (by decide) rfl ?_
  first | ((with_reducible refine isN2 ?_); refine g_iaddN (p0 := 181) dL_acts_180 rfl ?_) | refine g_iadd (p0 := 181) dL_acts_180 rfl ?_
  first | ((with_reducible refine isN2 ?_); refine g_icmpN_ne (tgt := 188) (p1 := 184) dL_acts_181 rfl (by omega) (by omega) rfl (fun c_181 => by exfalso; first | exact c_181 rfl | omega | contradiction) (fun c_181 => ?_)) | refine g_icmp_ne (tgt := 188) (p1 := 184) dL_acts_181 rfl rfl (fun c_181 => by exfalso; first | exact c_181 rfl | omega | contradiction) (fun c_181 => ?_)
  refine g_iconst (p0 := 185) (v := nI 1) dL_acts_184 rfl rfl ?_
  refine g_goto (tgt := 189) dL_acts_185 rfl ?_
  refine g_ireturn dL_acts_189 rfl (by first | rfl | exact bool_narrow (by first | exact Or.inl rfl | exact Or.inr rfl | assumption | (split <;> first | exact Or.inl rfl | exact Or.inr rfl))) (?_)
  rw [hσ1] at hf3
  exact next σ3 (gN_of (by rw [hf3 99999 (by decide), up_ne (by decide), up_ne (by decide)])) ⟨_, s, hK4, GL_swp hG hi hj hne hf3, SRT_swp hS hi hj, hs⟩
set_option maxRecDepth 20000 in
set_option maxHeartbeats 2000000 in
theorem act_pauseY {s v w : Nat} {zz : Int32} {ρ : Nat → Int32} {σ : Sg} {Q : SP} {x7 x8 x9 x10 : Option AV} (hK : KI σ ρ s) (hG : GL σ ρ s) (hS : SRT ρ s) (hs : s ≤ 60) (hv : v < 10000000) (next : ∀ σ', gN σ' = gN σ → LJ σ' → Q (some (ai (nI 1))) σ') (hz : ρ 2 = nI 0) (h0 : 0 < s) : WM mL_acts Q 375 [some (ar 0), some (ar 79), some (ar 80), some (ar 81), some (ai zz), some (ai (nI v)), some (ai (nI w)), x7, x8, x9, x10] [] σ := by
  obtain ⟨⟨g0, g1, g2, g3⟩, h81, h80⟩ := id hG
  rw [hz] at g2
  have hK3 := hK.of (σ' := up σ 79 2 (nI 1)) (fun z hz => by rw [up_ne (by omega)])
  refine g_aload_n (p0 := 376) (i := 1) dL_acts_375 rfl rfl rfl ?_
  refine g_iconst (p0 := 377) (v := nI 2) dL_acts_376 rfl rfl ?_
  first | ((with_reducible refine isN1 ?_); refine g_aldN (p0 := 378) dL_acts_377 (by first | rfl | assumption | exact RW.s (by assumption) | exact TW.s (by assumption)) (by first | decide | assumption) (by omega) (by first | assumption | ((repeat (first | exact up_hit | (apply up_nv; omega) | (apply up_mv; omega))) <;> first | assumption | rfl)) rfl ?_) | refine g_ald (p0 := 378) dL_acts_377 (by first | rfl | assumption | exact RW.s (by assumption) | exact TW.s (by assumption)) (by assumption) (by first | assumption | ((repeat (first | exact up_hit | (apply up_nv; omega) | (apply up_mv; omega))) <;> first | assumption | rfl)) rfl ?_
  first | ((with_reducible refine isN1 ?_); refine g_ifN_ne (tgt := 391) (p1 := 381) dL_acts_378 rfl (by omega) rfl (fun c_378 => by exfalso; first | exact c_378 rfl | omega | contradiction) (fun c_378 => ?_)) | refine g_if_ne (tgt := 391) (p1 := 381) dL_acts_378 rfl rfl (fun c_378 => by exfalso; first | exact c_378 rfl | omega | contradiction) (fun c_378 => ?_)
  refine g_aload_n (p0 := 382) (i := 1) dL_acts_381 rfl rfl rfl ?_
  refine g_iconst (p0 := 383) (v := nI 3) dL_acts_382 rfl rfl ?_
  first | ((with_reducible refine isN1 ?_); refine g_aldN (p0 := 384) dL_acts_383 (by first | rfl | assumption | exact RW.s (by assumption) | exact TW.s (by assumption)) (by first | decide | assumption) (by omega) (by first | assumption | ((repeat (first | exact up_hit | (apply up_nv; omega) | (apply up_mv; omega))) <;> first | assumption | rfl)) rfl ?_) | refine g_ald (p0 := 384) dL_acts_383 (by first | rfl | assumption | exact RW.s (by assumption) | exact TW.s (by assumption)) (by assumption) (by first | assumption | ((repeat (first | exact up_hit | (apply up_nv; omega) | (apply up_mv; omega))) <;> first | assumption | rfl)) rfl ?_
  first | ((with_reducible refine isN1 ?_); refine g_ifN_le (tgt := 391) (p1 := 387) dL_acts_384 rfl (by omega) rfl (fun c_384 => by exfalso; first | exact c_384 rfl | omega | contradiction) (fun c_384 => ?_)) | refine g_if_le (tgt := 391) (p1 := 387) dL_acts_384 rfl rfl (fun c_384 => by exfalso; first | exact c_384 rfl | omega | contradiction) (fun c_384 => ?_)
  refine g_iconst (p0 := 388) (v := nI 1) dL_acts_387 rfl rfl ?_
  refine g_goto (tgt := 392) dL_acts_388 rfl ?_
  refine g_istore (p0 := 394) (i := 7) (ls2 := [_, _, _, _, _, _, _, _, _, _, _]) dL_acts_392 (Nat.le_of_ble_eq_true rfl) rfl rfl ?_
  refine g_aload_n (p0 := 395) (i := 1) dL_acts_394 rfl rfl rfl ?_
  refine g_iconst (p0 := 396) (v := nI 2) dL_acts_395 rfl rfl ?_
  refine g_iload (p0 := 398) dL_acts_396 rfl rfl ?_
  first | ((with_reducible refine isN1 ?_); refine g_ifN_eq (tgt := 405) (p1 := 401) dL_acts_398 rfl (by omega) rfl (fun c_398 => by exfalso; first | exact c_398 rfl | omega | contradiction) (fun c_398 => ?_)) | refine g_if_eq (tgt := 405) (p1 := 401) dL_acts_398 rfl rfl (fun c_398 => by exfalso; first | exact c_398 rfl | omega | contradiction) (fun c_398 => ?_)
  refine g_iconst (p0 := 402) (v := nI 1) dL_acts_401 rfl rfl ?_
  refine g_goto (tgt := 408) dL_acts_402 rfl ?_
  first | ((with_reducible refine isNS ?_); refine g_astN (p0 := 409) dL_acts_408 (by first | rfl | assumption | exact RW.s (by assumption) | exact TW.s (by assumption)) (by first | decide | assumption) (by omega) rfl ?_) | refine g_ast (p0 := 409) dL_acts_408 (by first | rfl | assumption | exact RW.s (by assumption) | exact TW.s (by assumption)) (by assumption) rfl ?_
  refine g_aload_n (p0 := 410) (i := 0) dL_acts_409 rfl rfl rfl ?_
  refine g_cV0I (p0 := 413) (r1 := mX9_pause) dL_acts_410 lL_67 vX9_pause (by first | rfl | assumption | exact RW.s (by assumption) | exact TW.s (by assumption)) ⟨_, _, rfl⟩ (FITi rfl rfl) (Nat.le_of_ble_eq_true rfl) (pause_K hK3 hz h0) rfl ?_
  rintro u σ3 ⟨rfl, hK4, hf3⟩
  have h3 : σ3 79 3 = nI s := by rw [hf3 79 (by decide), up_miss (by decide)]; exact g3
  refine g_iload (p0 := 415) dL_acts_413 rfl rfl ?_
  first | ((with_reducible refine isN1 ?_); refine g_ifN_eq (tgt := 424) (p1 := 418) dL_acts_415 rfl (by omega) rfl (fun c_415 => by exfalso; first | exact c_415 rfl | omega | contradiction) (fun c_415 => ?_)) | refine g_if_eq (tgt := 424) (p1 := 418) dL_acts_415 rfl rfl (fun c_415 => by exfalso; first | exact c_415 rfl | omega | contradiction) (fun c_415 => ?_)
  refine g_aload_n (p0 := 419) (i := 1) dL_acts_418 rfl rfl rfl ?_
  refine g_iconst (p0 := 420) (v := nI 3) dL_acts_419 rfl rfl ?_
  first | ((with_reducible refine isN1 ?_); refine g_aldN (p0 := 421) dL_acts_420 (by first | rfl | assumption | exact RW.s (by assumption) | exact TW.s (by assumption)) (by first | decide | assumption) (by omega) (by first | assumption | ((repeat (first | exact up_hit | (apply up_nv; omega) | (apply up_mv; omega))) <;> first | assumption | rfl)) rfl ?_) | refine g_ald (p0 := 421) dL_acts_420 (by first | rfl | assumption | exact RW.s (by assumption) | exact TW.s (by assumption)) (by assumption) (by first | assumption | ((repeat (first | exact up_hit | (apply up_nv; omega) | (apply up_mv; omega))) <;> first | assumption | rfl)) rfl ?_
  refine g_goto (tgt := 426) dL_acts_421 rfl ?_
  first | ((with_reducible refine isN2 ?_); refine g_icmpN_ne (tgt := 433) (p1 := 429) dL_acts_426 rfl (by omega) (by omega) rfl (fun c_426 => by exfalso; first | exact c_426 rfl | omega | contradiction) (fun c_426 => ?_)) | refine g_icmp_ne (tgt := 433) (p1 := 429) dL_acts_426 rfl rfl (fun c_426 => by exfalso; first | exact c_426 rfl | omega | contradiction) (fun c_426 => ?_)
  refine g_iconst (p0 := 430) (v := nI 1) dL_acts_429 rfl rfl ?_
  refine g_goto (tgt := 434) dL_acts_430 rfl ?_
  refine g_ireturn dL_acts_434 rfl (by first | rfl | exact bool_narrow (by first | exact Or.inl rfl | exact Or.inr rfl | assumption | (split <;> first | exact Or.inl rfl | exact Or.inr rfl))) (?_)
  exact next σ3 (gN_of (by rw [hf3 99999 (by decide), up_ne (by decide)])) ⟨_, s, hK4, GL_upd hG (by decide) hf3, SRT_upd hS (by decide) (fun q => absurd q (by decide)), hs⟩
theorem up_same {σ : Sg} {c k : Nat} {x : Int32} (h : σ c k = x) : up σ c k x = σ := by
  rw [up_setR]
  exact setR_id (upd_self h)
set_option maxRecDepth 20000 in
set_option maxHeartbeats 2000000 in
theorem act_pauseP {s v w : Nat} {zz : Int32} {ρ : Nat → Int32} {σ : Sg} {Q : SP} {x7 x8 x9 x10 : Option AV} (hK : KI σ ρ s) (hG : GL σ ρ s) (hS : SRT ρ s) (hs : s ≤ 60) (hv : v < 10000000) (next : ∀ σ', gN σ' = gN σ → LJ σ' → Q (some (ai (nI 1))) σ') (hz : ρ 2 = nI 1) : WM mL_acts Q 375 [some (ar 0), some (ar 79), some (ar 80), some (ar 81), some (ai zz), some (ai (nI v)), some (ai (nI w)), x7, x8, x9, x10] [] σ := by
  obtain ⟨⟨g0, g1, g2, g3⟩, h81, h80⟩ := id hG
  rw [hz] at g2
  have h15 : σ 1 5 = nI 1 := by rw [hK.2.1.2.2.2.1]; exact hz
  refine g_aload_n (p0 := 376) (i := 1) dL_acts_375 rfl rfl rfl ?_
  refine g_iconst (p0 := 377) (v := nI 2) dL_acts_376 rfl rfl ?_
  first | ((with_reducible refine isN1 ?_); refine g_aldN (p0 := 378) dL_acts_377 (by first | rfl | assumption | exact RW.s (by assumption) | exact TW.s (by assumption)) (by first | decide | assumption) (by omega) (by first | assumption | ((repeat (first | exact up_hit | (apply up_nv; omega) | (apply up_mv; omega))) <;> first | assumption | rfl)) rfl ?_) | refine g_ald (p0 := 378) dL_acts_377 (by first | rfl | assumption | exact RW.s (by assumption) | exact TW.s (by assumption)) (by assumption) (by first | assumption | ((repeat (first | exact up_hit | (apply up_nv; omega) | (apply up_mv; omega))) <;> first | assumption | rfl)) rfl ?_
  first | ((with_reducible refine isN1 ?_); refine g_ifN_ne (tgt := 391) (p1 := 381) dL_acts_378 rfl (by omega) rfl (fun c_378 => ?_) (fun c_378 => by exfalso; first | exact c_378 rfl | omega | contradiction)) | refine g_if_ne (tgt := 391) (p1 := 381) dL_acts_378 rfl rfl (fun c_378 => ?_) (fun c_378 => by exfalso; first | exact c_378 rfl | omega | contradiction)
  refine g_iconst (p0 := 392) (v := nI 0) dL_acts_391 rfl rfl ?_
  refine g_istore (p0 := 394) (i := 7) (ls2 := [_, _, _, _, _, _, _, _, _, _, _]) dL_acts_392 (Nat.le_of_ble_eq_true rfl) rfl rfl ?_
  refine g_aload_n (p0 := 395) (i := 1) dL_acts_394 rfl rfl rfl ?_
  refine g_iconst (p0 := 396) (v := nI 2) dL_acts_395 rfl rfl ?_
  refine g_iload (p0 := 398) dL_acts_396 rfl rfl ?_
  first | ((with_reducible refine isN1 ?_); refine g_ifN_eq (tgt := 405) (p1 := 401) dL_acts_398 rfl (by omega) rfl (fun c_398 => ?_) (fun c_398 => by exfalso; first | exact c_398 rfl | omega | contradiction)) | refine g_if_eq (tgt := 405) (p1 := 401) dL_acts_398 rfl rfl (fun c_398 => ?_) (fun c_398 => by exfalso; first | exact c_398 rfl | omega | contradiction)
  refine g_aload_n (p0 := 406) (i := 1) dL_acts_405 rfl rfl rfl ?_
  refine g_iconst (p0 := 407) (v := nI 2) dL_acts_406 rfl rfl ?_
  first | ((with_reducible refine isN1 ?_); refine g_aldN (p0 := 408) dL_acts_407 (by first | rfl | assumption | exact RW.s (by assumption) | exact TW.s (by assumption)) (by first | decide | assumption) (by omega) (by first | assumption | ((repeat (first | exact up_hit | (apply up_nv; omega) | (apply up_mv; omega))) <;> first | assumption | rfl)) rfl ?_) | refine g_ald (p0 := 408) dL_acts_407 (by first | rfl | assumption | exact RW.s (by assumption) | exact TW.s (by assumption)) (by assumption) (by first | assumption | ((repeat (first | exact up_hit | (apply up_nv; omega) | (apply up_mv; omega))) <;> first | assumption | rfl)) rfl ?_
  first | ((with_reducible refine isNS ?_); refine g_astN (p0 := 409) dL_acts_408 (by first | rfl | assumption | exact RW.s (by assumption) | exact TW.s (by assumption)) (by first | decide | assumption) (by omega) rfl ?_) | refine g_ast (p0 := 409) dL_acts_408 (by first | rfl | assumption | exact RW.s (by assumption) | exact TW.s (by assumption)) (by assumption) rfl ?_
  rw [up_same g2]
  refine g_aload_n (p0 := 410) (i := 0) dL_acts_409 rfl rfl rfl ?_
  refine g_cV0R (p0 := 413) (r1 := mX9_pause) dL_acts_410 lL_67 vX9_pause (by first | rfl | assumption | exact RW.s (by assumption) | exact TW.s (by assumption)) ⟨_, _, rfl⟩ (FITi rfl rfl) (Nat.le_of_ble_eq_true rfl) (pause_cP h15) rfl ?_
  refine g_iload (p0 := 415) dL_acts_413 rfl rfl ?_
  first | ((with_reducible refine isN1 ?_); refine g_ifN_eq (tgt := 424) (p1 := 418) dL_acts_415 rfl (by omega) rfl (fun c_415 => ?_) (fun c_415 => by exfalso; first | exact c_415 rfl | omega | contradiction)) | refine g_if_eq (tgt := 424) (p1 := 418) dL_acts_415 rfl rfl (fun c_415 => ?_) (fun c_415 => by exfalso; first | exact c_415 rfl | omega | contradiction)
  refine g_ldc (p0 := 426) dL_acts_424 qL_71 rfl ?_
  first | ((with_reducible refine isN2 ?_); refine g_icmpN_ne (tgt := 433) (p1 := 429) dL_acts_426 rfl (by omega) (by omega) rfl (fun c_426 => by exfalso; first | exact c_426 rfl | omega | contradiction) (fun c_426 => ?_)) | refine g_icmp_ne (tgt := 433) (p1 := 429) dL_acts_426 rfl rfl (fun c_426 => by exfalso; first | exact c_426 rfl | omega | contradiction) (fun c_426 => ?_)
  refine g_iconst (p0 := 430) (v := nI 1) dL_acts_429 rfl rfl ?_
  refine g_goto (tgt := 434) dL_acts_430 rfl ?_
  refine g_ireturn dL_acts_434 rfl (by first | rfl | exact bool_narrow (by first | exact Or.inl rfl | exact Or.inr rfl | assumption | (split <;> first | exact Or.inl rfl | exact Or.inr rfl))) (?_)
  exact next σ rfl ⟨ρ, s, hK, hG, hS, hs⟩
set_option maxRecDepth 20000 in
set_option maxHeartbeats 2000000 in
theorem act_pause0 {s v w : Nat} {zz : Int32} {ρ : Nat → Int32} {σ : Sg} {Q : SP} {x7 x8 x9 x10 : Option AV} (hK : KI σ ρ s) (hG : GL σ ρ s) (hS : SRT ρ s) (hs : s ≤ 60) (hv : v < 10000000) (next : ∀ σ', gN σ' = gN σ → LJ σ' → Q (some (ai (nI 1))) σ') (hz : ρ 2 = nI 0) (h0 : s = 0) : WM mL_acts Q 375 [some (ar 0), some (ar 79), some (ar 80), some (ar 81), some (ai zz), some (ai (nI v)), some (ai (nI w)), x7, x8, x9, x10] [] σ := by
  obtain ⟨⟨g0, g1, g2, g3⟩, h81, h80⟩ := id hG
  rw [hz] at g2
  have h15 : σ 1 5 = nI 0 := by rw [hK.2.1.2.2.2.1]; exact hz
  have h12 : σ 1 2 = nI 0 := by rw [hK.2.1.1, h0]
  refine g_aload_n (p0 := 376) (i := 1) dL_acts_375 rfl rfl rfl ?_
  refine g_iconst (p0 := 377) (v := nI 2) dL_acts_376 rfl rfl ?_
  first | ((with_reducible refine isN1 ?_); refine g_aldN (p0 := 378) dL_acts_377 (by first | rfl | assumption | exact RW.s (by assumption) | exact TW.s (by assumption)) (by first | decide | assumption) (by omega) (by first | assumption | ((repeat (first | exact up_hit | (apply up_nv; omega) | (apply up_mv; omega))) <;> first | assumption | rfl)) rfl ?_) | refine g_ald (p0 := 378) dL_acts_377 (by first | rfl | assumption | exact RW.s (by assumption) | exact TW.s (by assumption)) (by assumption) (by first | assumption | ((repeat (first | exact up_hit | (apply up_nv; omega) | (apply up_mv; omega))) <;> first | assumption | rfl)) rfl ?_
  first | ((with_reducible refine isN1 ?_); refine g_ifN_ne (tgt := 391) (p1 := 381) dL_acts_378 rfl (by omega) rfl (fun c_378 => by exfalso; first | exact c_378 rfl | omega | contradiction) (fun c_378 => ?_)) | refine g_if_ne (tgt := 391) (p1 := 381) dL_acts_378 rfl rfl (fun c_378 => by exfalso; first | exact c_378 rfl | omega | contradiction) (fun c_378 => ?_)
  refine g_aload_n (p0 := 382) (i := 1) dL_acts_381 rfl rfl rfl ?_
  refine g_iconst (p0 := 383) (v := nI 3) dL_acts_382 rfl rfl ?_
  first | ((with_reducible refine isN1 ?_); refine g_aldN (p0 := 384) dL_acts_383 (by first | rfl | assumption | exact RW.s (by assumption) | exact TW.s (by assumption)) (by first | decide | assumption) (by omega) (by first | assumption | ((repeat (first | exact up_hit | (apply up_nv; omega) | (apply up_mv; omega))) <;> first | assumption | rfl)) rfl ?_) | refine g_ald (p0 := 384) dL_acts_383 (by first | rfl | assumption | exact RW.s (by assumption) | exact TW.s (by assumption)) (by assumption) (by first | assumption | ((repeat (first | exact up_hit | (apply up_nv; omega) | (apply up_mv; omega))) <;> first | assumption | rfl)) rfl ?_
  first | ((with_reducible refine isN1 ?_); refine g_ifN_le (tgt := 391) (p1 := 387) dL_acts_384 rfl (by omega) rfl (fun c_384 => ?_) (fun c_384 => by exfalso; first | exact c_384 rfl | omega | contradiction)) | refine g_if_le (tgt := 391) (p1 := 387) dL_acts_384 rfl rfl (fun c_384 => ?_) (fun c_384 => by exfalso; first | exact c_384 rfl | omega | contradiction)
  refine g_iconst (p0 := 392) (v := nI 0) dL_acts_391 rfl rfl ?_
  refine g_istore (p0 := 394) (i := 7) (ls2 := [_, _, _, _, _, _, _, _, _, _, _]) dL_acts_392 (Nat.le_of_ble_eq_true rfl) rfl rfl ?_
  refine g_aload_n (p0 := 395) (i := 1) dL_acts_394 rfl rfl rfl ?_
  refine g_iconst (p0 := 396) (v := nI 2) dL_acts_395 rfl rfl ?_
  refine g_iload (p0 := 398) dL_acts_396 rfl rfl ?_
  first | ((with_reducible refine isN1 ?_); refine g_ifN_eq (tgt := 405) (p1 := 401) dL_acts_398 rfl (by omega) rfl (fun c_398 => ?_) (fun c_398 => by exfalso; first | exact c_398 rfl | omega | contradiction)) | refine g_if_eq (tgt := 405) (p1 := 401) dL_acts_398 rfl rfl (fun c_398 => ?_) (fun c_398 => by exfalso; first | exact c_398 rfl | omega | contradiction)
  refine g_aload_n (p0 := 406) (i := 1) dL_acts_405 rfl rfl rfl ?_
  refine g_iconst (p0 := 407) (v := nI 2) dL_acts_406 rfl rfl ?_
  first | ((with_reducible refine isN1 ?_); refine g_aldN (p0 := 408) dL_acts_407 (by first | rfl | assumption | exact RW.s (by assumption) | exact TW.s (by assumption)) (by first | decide | assumption) (by omega) (by first | assumption | ((repeat (first | exact up_hit | (apply up_nv; omega) | (apply up_mv; omega))) <;> first | assumption | rfl)) rfl ?_) | refine g_ald (p0 := 408) dL_acts_407 (by first | rfl | assumption | exact RW.s (by assumption) | exact TW.s (by assumption)) (by assumption) (by first | assumption | ((repeat (first | exact up_hit | (apply up_nv; omega) | (apply up_mv; omega))) <;> first | assumption | rfl)) rfl ?_
  first | ((with_reducible refine isNS ?_); refine g_astN (p0 := 409) dL_acts_408 (by first | rfl | assumption | exact RW.s (by assumption) | exact TW.s (by assumption)) (by first | decide | assumption) (by omega) rfl ?_) | refine g_ast (p0 := 409) dL_acts_408 (by first | rfl | assumption | exact RW.s (by assumption) | exact TW.s (by assumption)) (by assumption) rfl ?_
  rw [up_same g2]
  refine g_aload_n (p0 := 410) (i := 0) dL_acts_409 rfl rfl rfl ?_
  refine g_cV0R (p0 := 413) (r1 := mX9_pause) dL_acts_410 lL_67 vX9_pause (by first | rfl | assumption | exact RW.s (by assumption) | exact TW.s (by assumption)) ⟨_, _, rfl⟩ (FITi rfl rfl) (Nat.le_of_ble_eq_true rfl) (pause_c0 h15 h12) rfl ?_
  refine g_iload (p0 := 415) dL_acts_413 rfl rfl ?_
  first | ((with_reducible refine isN1 ?_); refine g_ifN_eq (tgt := 424) (p1 := 418) dL_acts_415 rfl (by omega) rfl (fun c_415 => ?_) (fun c_415 => by exfalso; first | exact c_415 rfl | omega | contradiction)) | refine g_if_eq (tgt := 424) (p1 := 418) dL_acts_415 rfl rfl (fun c_415 => ?_) (fun c_415 => by exfalso; first | exact c_415 rfl | omega | contradiction)
  refine g_ldc (p0 := 426) dL_acts_424 qL_71 rfl ?_
  first | ((with_reducible refine isN2 ?_); refine g_icmpN_ne (tgt := 433) (p1 := 429) dL_acts_426 rfl (by omega) (by omega) rfl (fun c_426 => by exfalso; first | exact c_426 rfl | omega | contradiction) (fun c_426 => ?_)) | refine g_icmp_ne (tgt := 433) (p1 := 429) dL_acts_426 rfl rfl (fun c_426 => by exfalso; first | exact c_426 rfl | omega | contradiction) (fun c_426 => ?_)
  refine g_iconst (p0 := 430) (v := nI 1) dL_acts_429 rfl rfl ?_
  refine g_goto (tgt := 434) dL_acts_430 rfl ?_
  refine g_ireturn dL_acts_434 rfl (by first | rfl | exact bool_narrow (by first | exact Or.inl rfl | exact Or.inr rfl | assumption | (split <;> first | exact Or.inl rfl | exact Or.inr rfl))) (?_)
  exact next σ rfl ⟨ρ, s, hK, hG, hS, hs⟩
