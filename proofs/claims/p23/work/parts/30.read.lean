/-! THE CLASS: out of the rows of whole -/
def RelV (P : Sg → Prop) : SP := fun w σ' => w = none ∧ P σ'
def RelI (P : Int32 → Sg → Prop) : SP := fun w σ' => ∃ v, w = some (ai v) ∧ P v σ'
theorem conP {r r1 : MR} {Q : SP} {P : Sg → Prop} {as : List AV} {σ : Sg} {pc p0 : Nat} {ls : List (Option AV)} {st : List AV} (hc : CM r1 as σ (RelV P)) (e1 : pc + 3 = p0) (k1 : ∀ σ1, P σ1 → WM r Q p0 ls st σ1) : C r1 as (mem σ) 0 0 (fun w h1 => WPr r (lift Q) (pc + 3) ls (w.toList ++ st) h1 0 0) := by
  subst e1
  refine C.mono hc ?_
  intro w h q
  obtain ⟨σ2, e, ew, es⟩ := q
  rw [e, ew]
  exact k1 σ2 es
theorem conI {r r1 : MR} {Q : SP} {P : Int32 → Sg → Prop} {as : List AV} {σ : Sg} {pc p0 : Nat} {ls : List (Option AV)} {st : List AV} (hc : CM r1 as σ (RelI P)) (e1 : pc + 3 = p0) (k1 : ∀ v σ1, P v σ1 → WM r Q p0 ls (ai v :: st) σ1) : C r1 as (mem σ) 0 0 (fun w h1 => WPr r (lift Q) (pc + 3) ls (w.toList ++ st) h1 0 0) := by
  subst e1
  refine C.mono hc ?_
  intro w h q
  obtain ⟨σ2, e, v, ew, es⟩ := q
  rw [e, ew]
  exact k1 v σ2 es
theorem g_cV0P {r : MR} {Q : SP} {σ : Sg} {pc : Nat} {ls : List (Option AV)} {st : List AV} {i o ci p0 : Nat} {fl : List (Option Nat)} {r1 : MR} {P : Sg → Prop} (h1 : decode (rc r) pc = .ok (.invokevirtual i, 3)) (h2 : Cond.methodLink (ro r) i (ry r1) ∈ Wl) (h3 : MV r1 0) (hs : SHl[o]? = some (.inl (ci, fl))) (hk : KC ci (ro r1)) (hf : FIT r1 r) (hl : st.length ≤ 8) (hc : CM r1 (ar o :: []) σ (RelV P)) (e1 : pc + 3 = p0) (k1 : ∀ σ1, P σ1 → WM r Q p0 ls st σ1) : WM r Q pc ls (ar o :: st) σ := g_cV0R_base (As := []) h1 h2 h3 hs hk hf hl rfl rfl (conP hc e1 k1)
theorem g_cV1P {r : MR} {Q : SP} {σ : Sg} {pc : Nat} {ls : List (Option AV)} {st : List AV} {i o ci p0 : Nat} {fl : List (Option Nat)} {r1 : MR} {a1 : AV} {P : Sg → Prop} (h1 : decode (rc r) pc = .ok (.invokevirtual i, 3)) (h2 : Cond.methodLink (ro r) i (ry r1) ∈ Wl) (h3 : MV r1 1) (hs : SHl[o]? = some (.inl (ci, fl))) (hk : KC ci (ro r1)) (hf : FIT r1 r) (hl : st.length ≤ 8) (hc : CM r1 (ar o :: [a1]) σ (RelV P)) (e1 : pc + 3 = p0) (k1 : ∀ σ1, P σ1 → WM r Q p0 ls st σ1) : WM r Q pc ls (a1 :: ar o :: st) σ := g_cV0R_base (As := [a1]) h1 h2 h3 hs hk hf hl rfl rfl (conP hc e1 k1)
theorem g_cV2P {r : MR} {Q : SP} {σ : Sg} {pc : Nat} {ls : List (Option AV)} {st : List AV} {i o ci p0 : Nat} {fl : List (Option Nat)} {r1 : MR} {a1 a2 : AV} {P : Sg → Prop} (h1 : decode (rc r) pc = .ok (.invokevirtual i, 3)) (h2 : Cond.methodLink (ro r) i (ry r1) ∈ Wl) (h3 : MV r1 2) (hs : SHl[o]? = some (.inl (ci, fl))) (hk : KC ci (ro r1)) (hf : FIT r1 r) (hl : st.length ≤ 8) (hc : CM r1 (ar o :: [a1, a2]) σ (RelV P)) (e1 : pc + 3 = p0) (k1 : ∀ σ1, P σ1 → WM r Q p0 ls st σ1) : WM r Q pc ls (a2 :: a1 :: ar o :: st) σ := g_cV0R_base (As := [a1, a2]) h1 h2 h3 hs hk hf hl rfl rfl (conP hc e1 k1)
theorem add_NN {r a n j v x : Nat} {σ : Sg} (hr : RW r a n) (hj : j < n) (hv : σ a j = nI v) : CM mX7_add [ar r, ai (nI j), ai (nI x)] σ (RetV (up σ a j (nI (v + x)))) := by
  have h := add_N (x := nI x) hr hj hv
  rw [nI_add] at h
  exact h
def Mc (c : Nat → Nat) : Nat → Nat
  | 0 => 0
  | k + 1 => if c k = 5 then Mc c k + 1 else Mc c k
def Lc (c : Nat → Nat) : Nat → Nat
  | 0 => 0
  | k + 1 => if 4 ≤ c k then Lc c k + 1 else Lc c k
def gr (c : Nat → Nat) : Nat → Nat → Nat
  | 0, _ => 0
  | k + 1, l => if 4 ≤ c k then (if l = Lc c k then 1 else gr c k l) else if c k = 3 ∧ l + 1 = Lc c k then gr c k l + 1 else gr c k l
def o1 (c : Nat → Nat) : Nat → Nat → Nat
  | 0, _ => 0
  | k + 1, l => if 4 ≤ c k then (if l = Lc c k then 1 else o1 c k l) else if (c k = 1 ∨ c k = 2) ∧ l + 1 = Lc c k ∧ gr c k l = 1 then o1 c k l + c k else o1 c k l
def o2 (c : Nat → Nat) : Nat → Nat → Nat
  | 0, _ => 0
  | k + 1, l => if 4 ≤ c k then (if l = Lc c k then 0 else o2 c k l) else if (c k = 1 ∨ c k = 2) ∧ l + 1 = Lc c k ∧ gr c k l = 2 then o2 c k l + c k else if c k = 3 ∧ l + 1 = Lc c k ∧ gr c k l = 1 then o2 c k l + 1 else o2 c k l
def fs (c : Nat → Nat) : Nat → Nat → Nat
  | 0, _ => 0
  | k + 1, m => if c k = 5 ∧ m = Mc c k then k else fs c k m
def fl (c : Nat → Nat) : Nat → Nat → Nat
  | 0, _ => 0
  | k + 1, m => if c k = 5 ∧ m = Mc c k then Lc c k else fl c k m
def ln (c : Nat → Nat) : Nat → Nat → Nat
  | 0, _ => 0
  | k + 1, m => if c k = 5 ∧ m = Mc c k then 1 else if c k = 4 ∧ m + 1 = Mc c k then ln c k m + 1 else ln c k m
def pl (c : Nat → Nat) : Nat → Nat → Nat
  | 0, _ => 0
  | k + 1, m => if c k = 5 ∧ m = Mc c k then 0 else if c k = 2 ∧ m + 1 = Mc c k then pl c k m + 1 else pl c k m
def db (c d : Nat → Nat) : Nat → Nat → Nat
  | 0, _ => 0
  | k + 1, m => (if c k = 5 ∧ m = Mc c k then 0 else db c d k m) + (if m + 1 = Mc c (k + 1) then d k else 0)
def lo (c : Nat → Nat) : Nat → Nat
  | 0 => 0
  | k + 1 => if c k = 0 then lo c k + 1 else lo c k
theorem Mc_le (c : Nat → Nat) : ∀ k, Mc c k ≤ Lc c k ∧ Lc c k ≤ k
  | 0 => ⟨Nat.le_refl _, Nat.le_refl _⟩
  | k + 1 => by
    have h := Mc_le c k
    simp only [Mc, Lc]
    split <;> split <;> omega
theorem Mc_pos {c : Nat → Nat} (h0 : c 0 = 5) : ∀ k, 1 ≤ Mc c (k + 1)
  | 0 => by simp [Mc, h0]
  | k + 1 => by
    have h := Mc_pos h0 k
    rw [Mc]
    split <;> omega
theorem Lc_pos {c : Nat → Nat} (h0 : c 0 = 5) (k : Nat) : 1 ≤ Lc c (k + 1) := Nat.le_trans (Mc_pos h0 k) (Mc_le c (k + 1)).1
/-- the class's letters, messages -/
def LT (σ : Sg) (L : Nat) (g a b : Nat → Nat) : Prop := σ 34 5 = nI L ∧ ∀ l, l < L → σ 36 l = nI (g l) ∧ σ 38 l = nI (a l) ∧ σ 40 l = nI (b l)
def MT (σ : Sg) (M : Nat) (s f n p d : Nat → Nat) : Prop := σ 45 7 = nI M ∧ ∀ m, m < M → σ 47 m = nI (s m) ∧ σ 49 m = nI (f m) ∧ σ 51 m = nI (n m) ∧ σ 53 m = nI (p m) ∧ σ 55 m = nI (d m) ∧ σ 57 m = nI 0 ∧ σ 59 m = nI 0
theorem LT.of_eq {σ σ' : Sg} {L : Nat} {g a b : Nat → Nat} (h : LT σ L g a b) (h1 : σ' 34 = σ 34) (h2 : σ' 36 = σ 36) (h3 : σ' 38 = σ 38) (h4 : σ' 40 = σ 40) : LT σ' L g a b := by
  unfold LT
  rw [h1, h2, h3, h4]
  exact h
theorem MT.of_eq {σ σ' : Sg} {M : Nat} {s f n p d : Nat → Nat} (h : MT σ M s f n p d) (h1 : σ' 45 = σ 45) (h2 : σ' 47 = σ 47) (h3 : σ' 49 = σ 49) (h4 : σ' 51 = σ 51) (h5 : σ' 53 = σ 53) (h6 : σ' 55 = σ 55) (h7 : σ' 57 = σ 57) (h8 : σ' 59 = σ 59) : MT σ' M s f n p d := by
  unfold MT
  rw [h1, h2, h3, h4, h5, h6, h7, h8]
  exact h
def nu (f : Nat → Nat) (i x : Nat) : Nat → Nat := fun j => if j = i then x else f j
theorem upd_nI {f : Nat → Int32} {g : Nat → Nat} {i x n : Nat} (h : ∀ j, j < n → f j = nI (g j)) : ∀ j, j < n → upd f i (nI x) j = nI (nu g i x j) := by
  intro j hj
  by_cases hi : j = i
  · subst hi; simp [upd, nu]
  · simp [upd, nu, hi, h j hj]
theorem upd_nS {f : Nat → Int32} {g : Nat → Nat} {x n : Nat} (h : ∀ j, j < n → f j = nI (g j)) : ∀ j, j < n + 1 → upd f n (nI x) j = nI (nu g n x j) := by
  intro j hj
  by_cases hi : j = n
  · subst hi; simp [upd, nu]
  · simp [upd, nu, hi, h j (by omega)]
set_option maxRecDepth 20000 in
set_option maxHeartbeats 2000000 in
theorem begin_f {L : Nat} {σ : Sg} (hL : σ 34 5 = nI L) (hl : L < 160) : CM mX3_begin [ar 34] σ (RetV (up (up (up (up σ 36 L (nI 1)) 38 L (nI 1)) 40 L (nI 0)) 34 5 (nI (L + 1)))) := by
  refine CM_in (ls := [some (ar 34)]) rfl ?_
  refine g_aload_n (p0 := 1) (i := 0) dX3_begin_0 rfl rfl rfl ?_
  refine g_getR (p0 := 4) dX3_begin_1 fX3_14 (by first | rfl | assumption | exact RW.s (by assumption) | exact TW.s (by assumption)) rfl rfl ?_
  refine g_aload_n (p0 := 5) (i := 0) dX3_begin_4 rfl rfl rfl ?_
  refine g_getI (p0 := 8) dX3_begin_5 fX3_32 (by first | rfl | assumption | exact RW.s (by assumption) | exact TW.s (by assumption)) rfl (by first | assumption | ((repeat (first | exact up_hit | refine up_nv (by decide) ?_ | refine up_mv (by first | decide | omega) ?_)) <;> first | assumption | rfl)) rfl ?_
  refine g_iconst (p0 := 9) (v := nI 1) dX3_begin_8 rfl rfl ?_
  refine g_cV2V (p0 := 12) (r1 := mX7_put) dX3_begin_9 lX3_45 vX7_put (by first | rfl | assumption | exact RW.s (by assumption) | exact TW.s (by assumption)) ⟨_, _, rfl⟩ (FITi rfl rfl) (Nat.le_of_ble_eq_true rfl) (put_N (by first | exact ⟨rfl, rfl, by decide⟩ | assumption) (by omega)) rfl ?_
  refine g_aload_n (p0 := 13) (i := 0) dX3_begin_12 rfl rfl rfl ?_
  refine g_getR (p0 := 16) dX3_begin_13 fX3_20 (by first | rfl | assumption | exact RW.s (by assumption) | exact TW.s (by assumption)) rfl rfl ?_
  refine g_aload_n (p0 := 17) (i := 0) dX3_begin_16 rfl rfl rfl ?_
  refine g_getI (p0 := 20) dX3_begin_17 fX3_32 (by first | rfl | assumption | exact RW.s (by assumption) | exact TW.s (by assumption)) rfl (by first | assumption | ((repeat (first | exact up_hit | refine up_nv (by decide) ?_ | refine up_mv (by first | decide | omega) ?_)) <;> first | assumption | rfl)) rfl ?_
  refine g_iconst (p0 := 21) (v := nI 1) dX3_begin_20 rfl rfl ?_
  refine g_cV2V (p0 := 24) (r1 := mX7_put) dX3_begin_21 lX3_45 vX7_put (by first | rfl | assumption | exact RW.s (by assumption) | exact TW.s (by assumption)) ⟨_, _, rfl⟩ (FITi rfl rfl) (Nat.le_of_ble_eq_true rfl) (put_N (by first | exact ⟨rfl, rfl, by decide⟩ | assumption) (by omega)) rfl ?_
  refine g_aload_n (p0 := 25) (i := 0) dX3_begin_24 rfl rfl rfl ?_
  refine g_getR (p0 := 28) dX3_begin_25 fX3_23 (by first | rfl | assumption | exact RW.s (by assumption) | exact TW.s (by assumption)) rfl rfl ?_
  refine g_aload_n (p0 := 29) (i := 0) dX3_begin_28 rfl rfl rfl ?_
  refine g_getI (p0 := 32) dX3_begin_29 fX3_32 (by first | rfl | assumption | exact RW.s (by assumption) | exact TW.s (by assumption)) rfl (by first | assumption | ((repeat (first | exact up_hit | refine up_nv (by decide) ?_ | refine up_mv (by first | decide | omega) ?_)) <;> first | assumption | rfl)) rfl ?_
  refine g_iconst (p0 := 33) (v := nI 0) dX3_begin_32 rfl rfl ?_
  refine g_cV2V (p0 := 36) (r1 := mX7_put) dX3_begin_33 lX3_45 vX7_put (by first | rfl | assumption | exact RW.s (by assumption) | exact TW.s (by assumption)) ⟨_, _, rfl⟩ (FITi rfl rfl) (Nat.le_of_ble_eq_true rfl) (put_N (by first | exact ⟨rfl, rfl, by decide⟩ | assumption) (by omega)) rfl ?_
  refine g_aload_n (p0 := 37) (i := 0) dX3_begin_36 rfl rfl rfl ?_
  refine g_dup (p0 := 38) dX3_begin_37 rfl ?_
  refine g_getI (p0 := 41) dX3_begin_38 fX3_32 (by first | rfl | assumption | exact RW.s (by assumption) | exact TW.s (by assumption)) rfl (by first | assumption | ((repeat (first | exact up_hit | refine up_nv (by decide) ?_ | refine up_mv (by first | decide | omega) ?_)) <;> first | assumption | rfl)) rfl ?_
  refine g_iconst (p0 := 42) (v := nI 1) dX3_begin_41 rfl rfl ?_
  first | ((with_reducible refine isN2 ?_); refine g_iaddN (p0 := 43) dX3_begin_42 rfl ?_) | refine g_iadd (p0 := 43) dX3_begin_42 rfl ?_
  refine g_put (p0 := 46) dX3_begin_43 fX3_32 (by first | rfl | assumption | exact RW.s (by assumption) | exact TW.s (by assumption)) rfl nX3_5 (pX3_5 _) rfl ?_
  refine g_return dX3_begin_46 rfl ?_
  exact ⟨rfl, rfl⟩
theorem begin_r {L : Nat} {g a b : Nat → Nat} {σ : Sg} (h : LT σ L g a b) (hl : L < 160) : CM mX3_begin [ar 34] σ (RelV (fun σ' => LT σ' (L + 1) (nu g L 1) (nu a L 1) (nu b L 0) ∧ ∀ c, c ≠ 34 → c ≠ 36 → c ≠ 38 → c ≠ 40 → σ' c = σ c)) := by
  refine CM.mono (begin_f h.1 hl) ?_
  rintro w σ' ⟨rfl, rfl⟩
  have e36 : (up (up (up (up σ 36 L (nI 1)) 38 L (nI 1)) 40 L (nI 0)) 34 5 (nI (L + 1))) 36 = upd (σ 36) L (nI 1) := by
    rw [up_ne (by decide), up_ne (by decide), up_ne (by decide), up_self]
  have e38 : (up (up (up (up σ 36 L (nI 1)) 38 L (nI 1)) 40 L (nI 0)) 34 5 (nI (L + 1))) 38 = upd (σ 38) L (nI 1) := by
    rw [up_ne (by decide), up_ne (by decide), up_self, up_ne (by decide)]
  have e40 : (up (up (up (up σ 36 L (nI 1)) 38 L (nI 1)) 40 L (nI 0)) 34 5 (nI (L + 1))) 40 = upd (σ 40) L (nI 0) := by
    rw [up_ne (by decide), up_self, up_ne (by decide), up_ne (by decide)]
  refine ⟨rfl, ⟨up_hit, fun l hl2 => ⟨?_, ?_, ?_⟩⟩, fun c h1 h2 h3 h4 => ?_⟩
  · rw [e36]; exact upd_nS (fun j hj => (h.2 j hj).1) l hl2
  · rw [e38]; exact upd_nS (fun j hj => (h.2 j hj).2.1) l hl2
  · rw [e40]; exact upd_nS (fun j hj => (h.2 j hj).2.2) l hl2
  · rw [up_ne h1, up_ne h4, up_ne h3, up_ne h2]
set_option maxRecDepth 20000 in
set_option maxHeartbeats 2000000 in
theorem len_1 {L y : Nat} {g a b : Nat → Nat} {σ : Sg} (h : LT σ (L + 1) g a b) (hl : L < 160) (hg : g L = 1) : CM mX3_lengthen [ar 34, ai (nI y)] σ (RetV (up σ 38 L (nI (a L + y)))) := by
  have hL := h.1
  obtain ⟨h36, h38, h40⟩ := h.2 L (by omega)
  have hm : σ 36 (L + 1 - 1) = nI (g L) := h36
  have hm1 : σ 38 (L + 1 - 1) = nI (a L) := h38
  have hm2 : σ 40 (L + 1 - 1) = nI (b L) := h40
  rw [hg] at hm
  refine CM_in (ls := [some (ar 34), some (ai (nI y)), none]) rfl ?_
  refine g_aload_n (p0 := 1) (i := 0) dX3_lengthen_0 rfl rfl rfl ?_
  refine g_getI (p0 := 4) dX3_lengthen_1 fX3_32 (by first | rfl | assumption | exact RW.s (by assumption) | exact TW.s (by assumption)) rfl (by first | assumption | ((repeat (first | exact up_hit | refine up_nv (by decide) ?_ | refine up_mv (by first | decide | omega) ?_)) <;> first | assumption | rfl)) rfl ?_
  refine g_iconst (p0 := 5) (v := nI 1) dX3_lengthen_4 rfl rfl ?_
  first | ((with_reducible refine isN2 ?_); refine g_isubN (p0 := 6) dX3_lengthen_5 (by omega) rfl ?_) | refine g_isub (p0 := 6) dX3_lengthen_5 rfl ?_
  refine g_istore_n (p0 := 7) (i := 2) (ls2 := [_, _, _]) dX3_lengthen_6 rfl (Nat.le_of_ble_eq_true rfl) rfl rfl ?_
  refine g_aload_n (p0 := 8) (i := 0) dX3_lengthen_7 rfl rfl rfl ?_
  refine g_getR (p0 := 11) dX3_lengthen_8 fX3_14 (by first | rfl | assumption | exact RW.s (by assumption) | exact TW.s (by assumption)) rfl rfl ?_
  refine g_iload_n (p0 := 12) (i := 2) dX3_lengthen_11 rfl rfl rfl ?_
  refine g_cV1R (p0 := 15) (r1 := mX7_at) dX3_lengthen_12 lX3_41 vX7_at (by first | rfl | assumption | exact RW.s (by assumption) | exact TW.s (by assumption)) ⟨_, _, rfl⟩ (FITi rfl rfl) (Nat.le_of_ble_eq_true rfl) (at_N (by first | exact ⟨rfl, rfl, by decide⟩ | assumption) (by omega) (by first | assumption | exact up_hit | exact up_nv (by omega) (by assumption) | exact up_mv (by omega) (by assumption) | exact up_nv (by omega) (up_nv (by omega) (by assumption)) | exact up_nv (by omega) up_hit | rfl)) rfl ?_
  refine g_iconst (p0 := 16) (v := nI 1) dX3_lengthen_15 rfl rfl ?_
  first | ((with_reducible refine isN2 ?_); refine g_icmpN_ne (tgt := 31) (p1 := 19) dX3_lengthen_16 rfl (by omega) (by omega) rfl (fun c_16 => by exfalso; first | omega | contradiction | exact absurd (by assumption) c_16 | (simp_all; done)) (fun c_16 => ?_)) | refine g_icmp_ne (tgt := 31) (p1 := 19) dX3_lengthen_16 rfl rfl (fun c_16 => by exfalso; first | omega | contradiction | exact absurd (by assumption) c_16 | (simp_all; done)) (fun c_16 => ?_)
  refine g_aload_n (p0 := 20) (i := 0) dX3_lengthen_19 rfl rfl rfl ?_
  refine g_getR (p0 := 23) dX3_lengthen_20 fX3_20 (by first | rfl | assumption | exact RW.s (by assumption) | exact TW.s (by assumption)) rfl rfl ?_
  refine g_iload_n (p0 := 24) (i := 2) dX3_lengthen_23 rfl rfl rfl ?_
  refine g_iload_n (p0 := 25) (i := 1) dX3_lengthen_24 rfl rfl rfl ?_
  refine g_cV2V (p0 := 28) (r1 := mX7_add) dX3_lengthen_25 lX3_49 vX7_add (by first | rfl | assumption | exact RW.s (by assumption) | exact TW.s (by assumption)) ⟨_, _, rfl⟩ (FITi rfl rfl) (Nat.le_of_ble_eq_true rfl) (add_NN (by first | exact ⟨rfl, rfl, by decide⟩ | assumption) (by omega) (by first | assumption | ((repeat (first | exact up_hit | refine up_nv (by decide) ?_ | refine up_mv (by first | decide | omega) ?_)) <;> first | assumption | rfl))) rfl ?_
  refine g_goto (tgt := 52) dX3_lengthen_28 rfl ?_
  refine g_return dX3_lengthen_52 rfl ?_
  exact ⟨rfl, rfl⟩
set_option maxRecDepth 20000 in
set_option maxHeartbeats 2000000 in
theorem len_2 {L y : Nat} {g a b : Nat → Nat} {σ : Sg} (h : LT σ (L + 1) g a b) (hl : L < 160) (hg : g L = 2) : CM mX3_lengthen [ar 34, ai (nI y)] σ (RetV (up σ 40 L (nI (b L + y)))) := by
  have hL := h.1
  obtain ⟨h36, h38, h40⟩ := h.2 L (by omega)
  have hm : σ 36 (L + 1 - 1) = nI (g L) := h36
  have hm1 : σ 38 (L + 1 - 1) = nI (a L) := h38
  have hm2 : σ 40 (L + 1 - 1) = nI (b L) := h40
  rw [hg] at hm
  refine CM_in (ls := [some (ar 34), some (ai (nI y)), none]) rfl ?_
  refine g_aload_n (p0 := 1) (i := 0) dX3_lengthen_0 rfl rfl rfl ?_
  refine g_getI (p0 := 4) dX3_lengthen_1 fX3_32 (by first | rfl | assumption | exact RW.s (by assumption) | exact TW.s (by assumption)) rfl (by first | assumption | ((repeat (first | exact up_hit | refine up_nv (by decide) ?_ | refine up_mv (by first | decide | omega) ?_)) <;> first | assumption | rfl)) rfl ?_
  refine g_iconst (p0 := 5) (v := nI 1) dX3_lengthen_4 rfl rfl ?_
  first | ((with_reducible refine isN2 ?_); refine g_isubN (p0 := 6) dX3_lengthen_5 (by omega) rfl ?_) | refine g_isub (p0 := 6) dX3_lengthen_5 rfl ?_
  refine g_istore_n (p0 := 7) (i := 2) (ls2 := [_, _, _]) dX3_lengthen_6 rfl (Nat.le_of_ble_eq_true rfl) rfl rfl ?_
  refine g_aload_n (p0 := 8) (i := 0) dX3_lengthen_7 rfl rfl rfl ?_
  refine g_getR (p0 := 11) dX3_lengthen_8 fX3_14 (by first | rfl | assumption | exact RW.s (by assumption) | exact TW.s (by assumption)) rfl rfl ?_
  refine g_iload_n (p0 := 12) (i := 2) dX3_lengthen_11 rfl rfl rfl ?_
  refine g_cV1R (p0 := 15) (r1 := mX7_at) dX3_lengthen_12 lX3_41 vX7_at (by first | rfl | assumption | exact RW.s (by assumption) | exact TW.s (by assumption)) ⟨_, _, rfl⟩ (FITi rfl rfl) (Nat.le_of_ble_eq_true rfl) (at_N (by first | exact ⟨rfl, rfl, by decide⟩ | assumption) (by omega) (by first | assumption | exact up_hit | exact up_nv (by omega) (by assumption) | exact up_mv (by omega) (by assumption) | exact up_nv (by omega) (up_nv (by omega) (by assumption)) | exact up_nv (by omega) up_hit | rfl)) rfl ?_
  refine g_iconst (p0 := 16) (v := nI 1) dX3_lengthen_15 rfl rfl ?_
  first | ((with_reducible refine isN2 ?_); refine g_icmpN_ne (tgt := 31) (p1 := 19) dX3_lengthen_16 rfl (by omega) (by omega) rfl (fun c_16 => ?_) (fun c_16 => by exfalso; first | omega | contradiction | exact absurd (by assumption) c_16 | (simp_all; done))) | refine g_icmp_ne (tgt := 31) (p1 := 19) dX3_lengthen_16 rfl rfl (fun c_16 => ?_) (fun c_16 => by exfalso; first | omega | contradiction | exact absurd (by assumption) c_16 | (simp_all; done))
  refine g_aload_n (p0 := 32) (i := 0) dX3_lengthen_31 rfl rfl rfl ?_
  refine g_getR (p0 := 35) dX3_lengthen_32 fX3_14 (by first | rfl | assumption | exact RW.s (by assumption) | exact TW.s (by assumption)) rfl rfl ?_
  refine g_iload_n (p0 := 36) (i := 2) dX3_lengthen_35 rfl rfl rfl ?_
  refine g_cV1R (p0 := 39) (r1 := mX7_at) dX3_lengthen_36 lX3_41 vX7_at (by first | rfl | assumption | exact RW.s (by assumption) | exact TW.s (by assumption)) ⟨_, _, rfl⟩ (FITi rfl rfl) (Nat.le_of_ble_eq_true rfl) (at_N (by first | exact ⟨rfl, rfl, by decide⟩ | assumption) (by omega) (by first | assumption | exact up_hit | exact up_nv (by omega) (by assumption) | exact up_mv (by omega) (by assumption) | exact up_nv (by omega) (up_nv (by omega) (by assumption)) | exact up_nv (by omega) up_hit | rfl)) rfl ?_
  refine g_iconst (p0 := 40) (v := nI 2) dX3_lengthen_39 rfl rfl ?_
  first | ((with_reducible refine isN2 ?_); refine g_icmpN_ne (tgt := 52) (p1 := 43) dX3_lengthen_40 rfl (by omega) (by omega) rfl (fun c_40 => by exfalso; first | omega | contradiction | exact absurd (by assumption) c_40 | (simp_all; done)) (fun c_40 => ?_)) | refine g_icmp_ne (tgt := 52) (p1 := 43) dX3_lengthen_40 rfl rfl (fun c_40 => by exfalso; first | omega | contradiction | exact absurd (by assumption) c_40 | (simp_all; done)) (fun c_40 => ?_)
  refine g_aload_n (p0 := 44) (i := 0) dX3_lengthen_43 rfl rfl rfl ?_
  refine g_getR (p0 := 47) dX3_lengthen_44 fX3_23 (by first | rfl | assumption | exact RW.s (by assumption) | exact TW.s (by assumption)) rfl rfl ?_
  refine g_iload_n (p0 := 48) (i := 2) dX3_lengthen_47 rfl rfl rfl ?_
  refine g_iload_n (p0 := 49) (i := 1) dX3_lengthen_48 rfl rfl rfl ?_
  refine g_cV2V (p0 := 52) (r1 := mX7_add) dX3_lengthen_49 lX3_49 vX7_add (by first | rfl | assumption | exact RW.s (by assumption) | exact TW.s (by assumption)) ⟨_, _, rfl⟩ (FITi rfl rfl) (Nat.le_of_ble_eq_true rfl) (add_NN (by first | exact ⟨rfl, rfl, by decide⟩ | assumption) (by omega) (by first | assumption | ((repeat (first | exact up_hit | refine up_nv (by decide) ?_ | refine up_mv (by first | decide | omega) ?_)) <;> first | assumption | rfl))) rfl ?_
  refine g_return dX3_lengthen_52 rfl ?_
  exact ⟨rfl, rfl⟩
set_option maxRecDepth 20000 in
set_option maxHeartbeats 2000000 in
theorem len_3 {L y : Nat} {g a b : Nat → Nat} {σ : Sg} (h : LT σ (L + 1) g a b) (hl : L < 160) (hg : 2 < g L) (hg2 : g L < 1000) : CM mX3_lengthen [ar 34, ai (nI y)] σ (RetV σ) := by
  have hL := h.1
  obtain ⟨h36, h38, h40⟩ := h.2 L (by omega)
  have hm : σ 36 (L + 1 - 1) = nI (g L) := h36
  have hm1 : σ 38 (L + 1 - 1) = nI (a L) := h38
  have hm2 : σ 40 (L + 1 - 1) = nI (b L) := h40
  refine CM_in (ls := [some (ar 34), some (ai (nI y)), none]) rfl ?_
  refine g_aload_n (p0 := 1) (i := 0) dX3_lengthen_0 rfl rfl rfl ?_
  refine g_getI (p0 := 4) dX3_lengthen_1 fX3_32 (by first | rfl | assumption | exact RW.s (by assumption) | exact TW.s (by assumption)) rfl (by first | assumption | ((repeat (first | exact up_hit | refine up_nv (by decide) ?_ | refine up_mv (by first | decide | omega) ?_)) <;> first | assumption | rfl)) rfl ?_
  refine g_iconst (p0 := 5) (v := nI 1) dX3_lengthen_4 rfl rfl ?_
  first | ((with_reducible refine isN2 ?_); refine g_isubN (p0 := 6) dX3_lengthen_5 (by omega) rfl ?_) | refine g_isub (p0 := 6) dX3_lengthen_5 rfl ?_
  refine g_istore_n (p0 := 7) (i := 2) (ls2 := [_, _, _]) dX3_lengthen_6 rfl (Nat.le_of_ble_eq_true rfl) rfl rfl ?_
  refine g_aload_n (p0 := 8) (i := 0) dX3_lengthen_7 rfl rfl rfl ?_
  refine g_getR (p0 := 11) dX3_lengthen_8 fX3_14 (by first | rfl | assumption | exact RW.s (by assumption) | exact TW.s (by assumption)) rfl rfl ?_
  refine g_iload_n (p0 := 12) (i := 2) dX3_lengthen_11 rfl rfl rfl ?_
  refine g_cV1R (p0 := 15) (r1 := mX7_at) dX3_lengthen_12 lX3_41 vX7_at (by first | rfl | assumption | exact RW.s (by assumption) | exact TW.s (by assumption)) ⟨_, _, rfl⟩ (FITi rfl rfl) (Nat.le_of_ble_eq_true rfl) (at_N (by first | exact ⟨rfl, rfl, by decide⟩ | assumption) (by omega) (by first | assumption | exact up_hit | exact up_nv (by omega) (by assumption) | exact up_mv (by omega) (by assumption) | exact up_nv (by omega) (up_nv (by omega) (by assumption)) | exact up_nv (by omega) up_hit | rfl)) rfl ?_
  refine g_iconst (p0 := 16) (v := nI 1) dX3_lengthen_15 rfl rfl ?_
  first | ((with_reducible refine isN2 ?_); refine g_icmpN_ne (tgt := 31) (p1 := 19) dX3_lengthen_16 rfl (by omega) (by omega) rfl (fun c_16 => ?_) (fun c_16 => by exfalso; first | omega | contradiction | exact absurd (by assumption) c_16 | (simp_all; done))) | refine g_icmp_ne (tgt := 31) (p1 := 19) dX3_lengthen_16 rfl rfl (fun c_16 => ?_) (fun c_16 => by exfalso; first | omega | contradiction | exact absurd (by assumption) c_16 | (simp_all; done))
  refine g_aload_n (p0 := 32) (i := 0) dX3_lengthen_31 rfl rfl rfl ?_
  refine g_getR (p0 := 35) dX3_lengthen_32 fX3_14 (by first | rfl | assumption | exact RW.s (by assumption) | exact TW.s (by assumption)) rfl rfl ?_
  refine g_iload_n (p0 := 36) (i := 2) dX3_lengthen_35 rfl rfl rfl ?_
  refine g_cV1R (p0 := 39) (r1 := mX7_at) dX3_lengthen_36 lX3_41 vX7_at (by first | rfl | assumption | exact RW.s (by assumption) | exact TW.s (by assumption)) ⟨_, _, rfl⟩ (FITi rfl rfl) (Nat.le_of_ble_eq_true rfl) (at_N (by first | exact ⟨rfl, rfl, by decide⟩ | assumption) (by omega) (by first | assumption | exact up_hit | exact up_nv (by omega) (by assumption) | exact up_mv (by omega) (by assumption) | exact up_nv (by omega) (up_nv (by omega) (by assumption)) | exact up_nv (by omega) up_hit | rfl)) rfl ?_
  refine g_iconst (p0 := 40) (v := nI 2) dX3_lengthen_39 rfl rfl ?_
  first | ((with_reducible refine isN2 ?_); refine g_icmpN_ne (tgt := 52) (p1 := 43) dX3_lengthen_40 rfl (by omega) (by omega) rfl (fun c_40 => ?_) (fun c_40 => by exfalso; first | omega | contradiction | exact absurd (by assumption) c_40 | (simp_all; done))) | refine g_icmp_ne (tgt := 52) (p1 := 43) dX3_lengthen_40 rfl rfl (fun c_40 => ?_) (fun c_40 => by exfalso; first | omega | contradiction | exact absurd (by assumption) c_40 | (simp_all; done))
  refine g_return dX3_lengthen_52 rfl ?_
  exact ⟨rfl, rfl⟩
/-- the last letter's counts behind more strokes -/
theorem len_r {L y : Nat} {g a b : Nat → Nat} {σ : Sg} (h : LT σ (L + 1) g a b) (hl : L < 160) (hg : 1 ≤ g L) (hg2 : g L < 1000) : CM mX3_lengthen [ar 34, ai (nI y)] σ (RelV (fun σ' => LT σ' (L + 1) g (nu a L (if g L = 1 then a L + y else a L)) (nu b L (if g L = 2 then b L + y else b L)) ∧ ∀ c, c ≠ 38 → c ≠ 40 → σ' c = σ c)) := by
  have same : ∀ f : Nat → Nat, nu f L (f L) = f := fun f => by
    funext j
    by_cases hj : j = L
    · subst hj; simp [nu]
    · simp [nu, hj]
  by_cases h1 : g L = 1
  · refine CM.mono (len_1 (y := y) h hl h1) ?_
    rintro w σ' ⟨rfl, rfl⟩
    rw [if_pos h1, if_neg (by omega), same b]
    refine ⟨rfl, ⟨by rw [up_ne (by decide)]; exact h.1, fun l hl2 => ⟨by rw [up_ne (by decide)]; exact (h.2 l hl2).1, ?_, by rw [up_ne (by decide)]; exact (h.2 l hl2).2.2⟩⟩, fun c h1 h2 => up_ne h1⟩
    rw [up_self]
    exact upd_nI (fun j hj => (h.2 j hj).2.1) l hl2
  · by_cases h2 : g L = 2
    · refine CM.mono (len_2 (y := y) h hl h2) ?_
      rintro w σ' ⟨rfl, rfl⟩
      rw [if_neg h1, if_pos h2, same a]
      refine ⟨rfl, ⟨by rw [up_ne (by decide)]; exact h.1, fun l hl2 => ⟨by rw [up_ne (by decide)]; exact (h.2 l hl2).1, by rw [up_ne (by decide)]; exact (h.2 l hl2).2.1, ?_⟩⟩, fun c h1 h2 => up_ne h2⟩
      rw [up_self]
      exact upd_nI (fun j hj => (h.2 j hj).2.2) l hl2
    · refine CM.mono (len_3 (y := y) h hl (by omega) hg2) ?_
      rintro w σ' ⟨rfl, rfl⟩
      rw [if_neg h1, if_neg h2, same a, same b]
      exact ⟨rfl, h, fun _ _ _ => rfl⟩
set_option maxRecDepth 20000 in
set_option maxHeartbeats 2000000 in
theorem bg_r {L : Nat} {g a b : Nat → Nat} {σ : Sg} (h : LT σ (L + 1) g a b) (hl : L < 160) (hg : 1 ≤ g L) (hg2 : g L < 900) : CM mX3_beginGroup [ar 34] σ (RelV (fun σ' => LT σ' (L + 1) (nu g L (g L + 1)) a (nu b L (if g L = 1 then b L + 1 else b L)) ∧ ∀ c, c ≠ 36 → c ≠ 38 → c ≠ 40 → σ' c = σ c)) := by
  have hL := h.1
  have hm : σ 36 (L + 1 - 1) = nI (g L) := (h.2 L (by omega)).1
  have hLT1 : LT (up σ 36 (L + 1 - 1) (nI (g L + 1))) (L + 1) (nu g L (g L + 1)) a b := ⟨by rw [up_ne (by decide)]; exact h.1, fun l hl2 => ⟨by rw [up_self]; exact upd_nI (fun j hj => (h.2 j hj).1) l hl2, by rw [up_ne (by decide)]; exact (h.2 l hl2).2.1, by rw [up_ne (by decide)]; exact (h.2 l hl2).2.2⟩⟩
  refine CM_in (ls := [some (ar 34)]) rfl ?_
  refine g_aload_n (p0 := 1) (i := 0) dX3_beginGroup_0 rfl rfl rfl ?_
  refine g_getR (p0 := 4) dX3_beginGroup_1 fX3_14 (by first | rfl | assumption | exact RW.s (by assumption) | exact TW.s (by assumption)) rfl rfl ?_
  refine g_aload_n (p0 := 5) (i := 0) dX3_beginGroup_4 rfl rfl rfl ?_
  refine g_getI (p0 := 8) dX3_beginGroup_5 fX3_32 (by first | rfl | assumption | exact RW.s (by assumption) | exact TW.s (by assumption)) rfl (by first | assumption | ((repeat (first | exact up_hit | refine up_nv (by decide) ?_ | refine up_mv (by first | decide | omega) ?_)) <;> first | assumption | rfl)) rfl ?_
  refine g_iconst (p0 := 9) (v := nI 1) dX3_beginGroup_8 rfl rfl ?_
  first | ((with_reducible refine isN2 ?_); refine g_isubN (p0 := 10) dX3_beginGroup_9 (by omega) rfl ?_) | refine g_isub (p0 := 10) dX3_beginGroup_9 rfl ?_
  refine g_iconst (p0 := 11) (v := nI 1) dX3_beginGroup_10 rfl rfl ?_
  refine g_cV2V (p0 := 14) (r1 := mX7_add) dX3_beginGroup_11 lX3_49 vX7_add (by first | rfl | assumption | exact RW.s (by assumption) | exact TW.s (by assumption)) ⟨_, _, rfl⟩ (FITi rfl rfl) (Nat.le_of_ble_eq_true rfl) (add_NN (by first | exact ⟨rfl, rfl, by decide⟩ | assumption) (by omega) (by first | assumption | ((repeat (first | exact up_hit | refine up_nv (by decide) ?_ | refine up_mv (by first | decide | omega) ?_)) <;> first | assumption | rfl))) rfl ?_
  refine g_aload_n (p0 := 15) (i := 0) dX3_beginGroup_14 rfl rfl rfl ?_
  refine g_iconst (p0 := 16) (v := nI 1) dX3_beginGroup_15 rfl rfl ?_
  refine g_cV1P (p0 := 19) (r1 := mX3_lengthen) dX3_beginGroup_16 lX3_52 vX3_lengthen (by first | rfl | assumption | exact RW.s (by assumption) | exact TW.s (by assumption)) ⟨_, _, rfl⟩ (FITi rfl rfl) (Nat.le_of_ble_eq_true rfl) (len_r hLT1 hl (by rw [nu, if_pos rfl]; omega) (by rw [nu, if_pos rfl]; omega)) rfl ?_
  rintro σ1 ⟨hLT2, fr⟩
  refine g_return dX3_beginGroup_19 rfl ?_
  refine ⟨rfl, ?_, fun c h1 h2 h3 => ?_⟩
  · have e1 : nu g L (g L + 1) L = g L + 1 := by rw [nu, if_pos rfl]
    rw [e1] at hLT2
    have e2 : nu a L (if g L + 1 = 1 then a L + 1 else a L) = a := by
      rw [if_neg (by omega)]
      funext j
      by_cases hj : j = L
      · subst hj; simp [nu]
      · simp [nu, hj]
    have e3 : (g L + 1 = 2) = (g L = 1) := by simp
    rw [e2] at hLT2
    simp only [e3] at hLT2
    exact hLT2
  · rw [fr c h2 h3, up_ne h1]
set_option maxRecDepth 20000 in
set_option maxHeartbeats 2000000 in
theorem mbegin_f {M : Nat} {x y : Int32} {σ : Sg} (hM : σ 45 7 = nI M) (hl : M < 160) : CM mX4_begin [ar 45, ai x, ai y] σ (RetV (up (up (up (up (up (up (up (up σ 47 M x) 49 M y) 51 M (nI 0)) 53 M (nI 0)) 55 M (nI 0)) 57 M (nI 0)) 59 M (nI 0)) 45 7 (nI (M + 1)))) := by
  refine CM_in (ls := [some (ar 45), some (ai x), some (ai y)]) rfl ?_
  refine g_aload_n (p0 := 1) (i := 0) dX4_begin_0 rfl rfl rfl ?_
  refine g_getR (p0 := 4) dX4_begin_1 fX4_14 (by first | rfl | assumption | exact RW.s (by assumption) | exact TW.s (by assumption)) rfl rfl ?_
  refine g_aload_n (p0 := 5) (i := 0) dX4_begin_4 rfl rfl rfl ?_
  refine g_getI (p0 := 8) dX4_begin_5 fX4_38 (by first | rfl | assumption | exact RW.s (by assumption) | exact TW.s (by assumption)) rfl (by first | assumption | ((repeat (first | exact up_hit | refine up_nv (by decide) ?_ | refine up_mv (by first | decide | omega) ?_)) <;> first | assumption | rfl)) rfl ?_
  refine g_iload_n (p0 := 9) (i := 1) dX4_begin_8 rfl rfl rfl ?_
  refine g_cV2V (p0 := 12) (r1 := mX7_put) dX4_begin_9 lX4_42 vX7_put (by first | rfl | assumption | exact RW.s (by assumption) | exact TW.s (by assumption)) ⟨_, _, rfl⟩ (FITi rfl rfl) (Nat.le_of_ble_eq_true rfl) (put_N (by first | exact ⟨rfl, rfl, by decide⟩ | assumption) (by omega)) rfl ?_
  refine g_aload_n (p0 := 13) (i := 0) dX4_begin_12 rfl rfl rfl ?_
  refine g_getR (p0 := 16) dX4_begin_13 fX4_20 (by first | rfl | assumption | exact RW.s (by assumption) | exact TW.s (by assumption)) rfl rfl ?_
  refine g_aload_n (p0 := 17) (i := 0) dX4_begin_16 rfl rfl rfl ?_
  refine g_getI (p0 := 20) dX4_begin_17 fX4_38 (by first | rfl | assumption | exact RW.s (by assumption) | exact TW.s (by assumption)) rfl (by first | assumption | ((repeat (first | exact up_hit | refine up_nv (by decide) ?_ | refine up_mv (by first | decide | omega) ?_)) <;> first | assumption | rfl)) rfl ?_
  refine g_iload_n (p0 := 21) (i := 2) dX4_begin_20 rfl rfl rfl ?_
  refine g_cV2V (p0 := 24) (r1 := mX7_put) dX4_begin_21 lX4_42 vX7_put (by first | rfl | assumption | exact RW.s (by assumption) | exact TW.s (by assumption)) ⟨_, _, rfl⟩ (FITi rfl rfl) (Nat.le_of_ble_eq_true rfl) (put_N (by first | exact ⟨rfl, rfl, by decide⟩ | assumption) (by omega)) rfl ?_
  refine g_aload_n (p0 := 25) (i := 0) dX4_begin_24 rfl rfl rfl ?_
  refine g_getR (p0 := 28) dX4_begin_25 fX4_23 (by first | rfl | assumption | exact RW.s (by assumption) | exact TW.s (by assumption)) rfl rfl ?_
  refine g_aload_n (p0 := 29) (i := 0) dX4_begin_28 rfl rfl rfl ?_
  refine g_getI (p0 := 32) dX4_begin_29 fX4_38 (by first | rfl | assumption | exact RW.s (by assumption) | exact TW.s (by assumption)) rfl (by first | assumption | ((repeat (first | exact up_hit | refine up_nv (by decide) ?_ | refine up_mv (by first | decide | omega) ?_)) <;> first | assumption | rfl)) rfl ?_
  refine g_iconst (p0 := 33) (v := nI 0) dX4_begin_32 rfl rfl ?_
  refine g_cV2V (p0 := 36) (r1 := mX7_put) dX4_begin_33 lX4_42 vX7_put (by first | rfl | assumption | exact RW.s (by assumption) | exact TW.s (by assumption)) ⟨_, _, rfl⟩ (FITi rfl rfl) (Nat.le_of_ble_eq_true rfl) (put_N (by first | exact ⟨rfl, rfl, by decide⟩ | assumption) (by omega)) rfl ?_
  refine g_aload_n (p0 := 37) (i := 0) dX4_begin_36 rfl rfl rfl ?_
  refine g_getR (p0 := 40) dX4_begin_37 fX4_26 (by first | rfl | assumption | exact RW.s (by assumption) | exact TW.s (by assumption)) rfl rfl ?_
  refine g_aload_n (p0 := 41) (i := 0) dX4_begin_40 rfl rfl rfl ?_
  refine g_getI (p0 := 44) dX4_begin_41 fX4_38 (by first | rfl | assumption | exact RW.s (by assumption) | exact TW.s (by assumption)) rfl (by first | assumption | ((repeat (first | exact up_hit | refine up_nv (by decide) ?_ | refine up_mv (by first | decide | omega) ?_)) <;> first | assumption | rfl)) rfl ?_
  refine g_iconst (p0 := 45) (v := nI 0) dX4_begin_44 rfl rfl ?_
  refine g_cV2V (p0 := 48) (r1 := mX7_put) dX4_begin_45 lX4_42 vX7_put (by first | rfl | assumption | exact RW.s (by assumption) | exact TW.s (by assumption)) ⟨_, _, rfl⟩ (FITi rfl rfl) (Nat.le_of_ble_eq_true rfl) (put_N (by first | exact ⟨rfl, rfl, by decide⟩ | assumption) (by omega)) rfl ?_
  refine g_aload_n (p0 := 49) (i := 0) dX4_begin_48 rfl rfl rfl ?_
  refine g_getR (p0 := 52) dX4_begin_49 fX4_29 (by first | rfl | assumption | exact RW.s (by assumption) | exact TW.s (by assumption)) rfl rfl ?_
  refine g_aload_n (p0 := 53) (i := 0) dX4_begin_52 rfl rfl rfl ?_
  refine g_getI (p0 := 56) dX4_begin_53 fX4_38 (by first | rfl | assumption | exact RW.s (by assumption) | exact TW.s (by assumption)) rfl (by first | assumption | ((repeat (first | exact up_hit | refine up_nv (by decide) ?_ | refine up_mv (by first | decide | omega) ?_)) <;> first | assumption | rfl)) rfl ?_
  refine g_iconst (p0 := 57) (v := nI 0) dX4_begin_56 rfl rfl ?_
  refine g_cV2V (p0 := 60) (r1 := mX7_put) dX4_begin_57 lX4_42 vX7_put (by first | rfl | assumption | exact RW.s (by assumption) | exact TW.s (by assumption)) ⟨_, _, rfl⟩ (FITi rfl rfl) (Nat.le_of_ble_eq_true rfl) (put_N (by first | exact ⟨rfl, rfl, by decide⟩ | assumption) (by omega)) rfl ?_
  refine g_aload_n (p0 := 61) (i := 0) dX4_begin_60 rfl rfl rfl ?_
  refine g_getR (p0 := 64) dX4_begin_61 fX4_32 (by first | rfl | assumption | exact RW.s (by assumption) | exact TW.s (by assumption)) rfl rfl ?_
  refine g_aload_n (p0 := 65) (i := 0) dX4_begin_64 rfl rfl rfl ?_
  refine g_getI (p0 := 68) dX4_begin_65 fX4_38 (by first | rfl | assumption | exact RW.s (by assumption) | exact TW.s (by assumption)) rfl (by first | assumption | ((repeat (first | exact up_hit | refine up_nv (by decide) ?_ | refine up_mv (by first | decide | omega) ?_)) <;> first | assumption | rfl)) rfl ?_
  refine g_iconst (p0 := 69) (v := nI 0) dX4_begin_68 rfl rfl ?_
  refine g_cV2V (p0 := 72) (r1 := mX7_put) dX4_begin_69 lX4_42 vX7_put (by first | rfl | assumption | exact RW.s (by assumption) | exact TW.s (by assumption)) ⟨_, _, rfl⟩ (FITi rfl rfl) (Nat.le_of_ble_eq_true rfl) (put_N (by first | exact ⟨rfl, rfl, by decide⟩ | assumption) (by omega)) rfl ?_
  refine g_aload_n (p0 := 73) (i := 0) dX4_begin_72 rfl rfl rfl ?_
  refine g_getR (p0 := 76) dX4_begin_73 fX4_35 (by first | rfl | assumption | exact RW.s (by assumption) | exact TW.s (by assumption)) rfl rfl ?_
  refine g_aload_n (p0 := 77) (i := 0) dX4_begin_76 rfl rfl rfl ?_
  refine g_getI (p0 := 80) dX4_begin_77 fX4_38 (by first | rfl | assumption | exact RW.s (by assumption) | exact TW.s (by assumption)) rfl (by first | assumption | ((repeat (first | exact up_hit | refine up_nv (by decide) ?_ | refine up_mv (by first | decide | omega) ?_)) <;> first | assumption | rfl)) rfl ?_
  refine g_iconst (p0 := 81) (v := nI 0) dX4_begin_80 rfl rfl ?_
  refine g_cV2V (p0 := 84) (r1 := mX7_put) dX4_begin_81 lX4_42 vX7_put (by first | rfl | assumption | exact RW.s (by assumption) | exact TW.s (by assumption)) ⟨_, _, rfl⟩ (FITi rfl rfl) (Nat.le_of_ble_eq_true rfl) (put_N (by first | exact ⟨rfl, rfl, by decide⟩ | assumption) (by omega)) rfl ?_
  refine g_aload_n (p0 := 85) (i := 0) dX4_begin_84 rfl rfl rfl ?_
  refine g_dup (p0 := 86) dX4_begin_85 rfl ?_
  refine g_getI (p0 := 89) dX4_begin_86 fX4_38 (by first | rfl | assumption | exact RW.s (by assumption) | exact TW.s (by assumption)) rfl (by first | assumption | ((repeat (first | exact up_hit | refine up_nv (by decide) ?_ | refine up_mv (by first | decide | omega) ?_)) <;> first | assumption | rfl)) rfl ?_
  refine g_iconst (p0 := 90) (v := nI 1) dX4_begin_89 rfl rfl ?_
  first | ((with_reducible refine isN2 ?_); refine g_iaddN (p0 := 91) dX4_begin_90 rfl ?_) | refine g_iadd (p0 := 91) dX4_begin_90 rfl ?_
  refine g_put (p0 := 94) dX4_begin_91 fX4_38 (by first | rfl | assumption | exact RW.s (by assumption) | exact TW.s (by assumption)) rfl nX4_7 (pX4_7 _) rfl ?_
  refine g_return dX4_begin_94 rfl ?_
  exact ⟨rfl, rfl⟩
set_option maxRecDepth 20000 in
set_option maxHeartbeats 2000000 in
theorem addTo_f {M q a v : Nat} {σ : Sg} (hM : σ 45 7 = nI (M + 1)) (hl : M < 160) (hr : RW q a 160) (hv : σ a M = nI v) : CM mX4_addTo [ar 45, ar q] σ (RetV (up σ a M (nI (v + 1)))) := by
  have hv2 : σ a (M + 1 - 1) = nI v := hv
  refine CM_in (ls := [some (ar 45), some (ar q)]) rfl ?_
  refine g_aload_n (p0 := 1) (i := 1) dX4_addTo_0 rfl rfl rfl ?_
  refine g_aload_n (p0 := 2) (i := 0) dX4_addTo_1 rfl rfl rfl ?_
  refine g_getI (p0 := 5) dX4_addTo_2 fX4_38 (by first | rfl | assumption | exact RW.s (by assumption) | exact TW.s (by assumption)) rfl (by first | assumption | ((repeat (first | exact up_hit | refine up_nv (by decide) ?_ | refine up_mv (by first | decide | omega) ?_)) <;> first | assumption | rfl)) rfl ?_
  refine g_iconst (p0 := 6) (v := nI 1) dX4_addTo_5 rfl rfl ?_
  first | ((with_reducible refine isN2 ?_); refine g_isubN (p0 := 7) dX4_addTo_6 (by omega) rfl ?_) | refine g_isub (p0 := 7) dX4_addTo_6 rfl ?_
  refine g_iconst (p0 := 8) (v := nI 1) dX4_addTo_7 rfl rfl ?_
  refine g_cV2V (p0 := 11) (r1 := mX7_add) dX4_addTo_8 lX4_46 vX7_add (by first | rfl | assumption | exact RW.s (by assumption) | exact TW.s (by assumption)) ⟨_, _, rfl⟩ (FITi rfl rfl) (Nat.le_of_ble_eq_true rfl) (add_NN hr (by omega) hv2) rfl ?_
  refine g_return dX4_addTo_11 rfl ?_
  exact ⟨rfl, rfl⟩
theorem mbegin_r {M x y : Nat} {s f n p d : Nat → Nat} {σ : Sg} (h : MT σ M s f n p d) (hl : M < 160) : CM mX4_begin [ar 45, ai (nI x), ai (nI y)] σ (RelV (fun σ' => MT σ' (M + 1) (nu s M x) (nu f M y) (nu n M 0) (nu p M 0) (nu d M 0) ∧ ∀ c, c ≠ 45 → (c < 47 ∨ 60 ≤ c) → σ' c = σ c)) := by
  refine CM.mono (mbegin_f h.1 hl) ?_
  rintro w σ' ⟨rfl, rfl⟩
  have z : ∀ j, j < M → σ 57 j = nI ((fun _ => 0) j) := fun j hj => (h.2 j hj).2.2.2.2.2.1
  have z2 : ∀ j, j < M → σ 59 j = nI ((fun _ => 0) j) := fun j hj => (h.2 j hj).2.2.2.2.2.2
  have nz : nu (fun _ => 0) M 0 = fun _ => 0 := by funext j; simp [nu]
  refine ⟨rfl, ⟨up_hit, fun m hm => ⟨?_, ?_, ?_, ?_, ?_, ?_, ?_⟩⟩, fun c h1 h2 => ?_⟩
  · rw [up_ne (by decide), up_ne (by decide), up_ne (by decide), up_ne (by decide), up_ne (by decide), up_ne (by decide), up_ne (by decide), up_self]
    exact upd_nS (fun j hj => (h.2 j hj).1) m hm
  · rw [up_ne (by decide), up_ne (by decide), up_ne (by decide), up_ne (by decide), up_ne (by decide), up_ne (by decide), up_self, up_ne (by decide)]
    exact upd_nS (fun j hj => (h.2 j hj).2.1) m hm
  · rw [up_ne (by decide), up_ne (by decide), up_ne (by decide), up_ne (by decide), up_ne (by decide), up_self, up_ne (by decide), up_ne (by decide)]
    exact upd_nS (fun j hj => (h.2 j hj).2.2.1) m hm
  · rw [up_ne (by decide), up_ne (by decide), up_ne (by decide), up_ne (by decide), up_self, up_ne (by decide), up_ne (by decide), up_ne (by decide)]
    exact upd_nS (fun j hj => (h.2 j hj).2.2.2.1) m hm
  · rw [up_ne (by decide), up_ne (by decide), up_ne (by decide), up_self, up_ne (by decide), up_ne (by decide), up_ne (by decide), up_ne (by decide)]
    exact upd_nS (fun j hj => (h.2 j hj).2.2.2.2.1) m hm
  · rw [up_ne (by decide), up_ne (by decide), up_self, up_ne (by decide), up_ne (by decide), up_ne (by decide), up_ne (by decide), up_ne (by decide)]
    have e := upd_nS (x := 0) z m hm
    rw [nz] at e
    exact e
  · rw [up_ne (by decide), up_self, up_ne (by decide), up_ne (by decide), up_ne (by decide), up_ne (by decide), up_ne (by decide), up_ne (by decide)]
    have e := upd_nS (x := 0) z2 m hm
    rw [nz] at e
    exact e
  · rw [up_ne h1, up_ne (by omega), up_ne (by omega), up_ne (by omega), up_ne (by omega), up_ne (by omega), up_ne (by omega), up_ne (by omega)]
theorem addLn_r {M : Nat} {s f n p d : Nat → Nat} {σ : Sg} (h : MT σ (M + 1) s f n p d) (hl : M < 160) : CM mX4_addTo [ar 45, ar 50] σ (RelV (fun σ' => MT σ' (M + 1) s f (nu n M (n M + 1)) p d ∧ ∀ c, c ≠ 51 → σ' c = σ c)) := by
  refine CM.mono (addTo_f h.1 hl ⟨rfl, rfl, by decide⟩ (h.2 M (by omega)).2.2.1) ?_
  rintro w σ' ⟨rfl, rfl⟩
  refine ⟨rfl, ⟨by rw [up_ne (by decide)]; exact h.1, fun m hm => ?_⟩, fun c h1 => up_ne h1⟩
  obtain ⟨a1, a2, a3, a4, a5, a6, a7⟩ := h.2 m hm
  exact ⟨by rw [up_ne (by decide)]; exact a1, by rw [up_ne (by decide)]; exact a2, by rw [up_self]; exact upd_nI (fun j hj => (h.2 j hj).2.2.1) m hm, by rw [up_ne (by decide)]; exact a4, by rw [up_ne (by decide)]; exact a5, by rw [up_ne (by decide)]; exact a6, by rw [up_ne (by decide)]; exact a7⟩
theorem addPl_r {M : Nat} {s f n p d : Nat → Nat} {σ : Sg} (h : MT σ (M + 1) s f n p d) (hl : M < 160) : CM mX4_addTo [ar 45, ar 52] σ (RelV (fun σ' => MT σ' (M + 1) s f n (nu p M (p M + 1)) d ∧ ∀ c, c ≠ 53 → σ' c = σ c)) := by
  refine CM.mono (addTo_f h.1 hl ⟨rfl, rfl, by decide⟩ (h.2 M (by omega)).2.2.2.1) ?_
  rintro w σ' ⟨rfl, rfl⟩
  refine ⟨rfl, ⟨by rw [up_ne (by decide)]; exact h.1, fun m hm => ?_⟩, fun c h1 => up_ne h1⟩
  obtain ⟨a1, a2, a3, a4, a5, a6, a7⟩ := h.2 m hm
  exact ⟨by rw [up_ne (by decide)]; exact a1, by rw [up_ne (by decide)]; exact a2, by rw [up_ne (by decide)]; exact a3, by rw [up_self]; exact upd_nI (fun j hj => (h.2 j hj).2.2.2.1) m hm, by rw [up_ne (by decide)]; exact a5, by rw [up_ne (by decide)]; exact a6, by rw [up_ne (by decide)]; exact a7⟩
/-- the case of a gap g by the beat bt -/
def cs (bt g : Int32) : Nat := if nI 3 * bt ≤ nI 4 * g then (if nI 6 * bt ≤ nI 4 * g then (if nI 10 * bt ≤ nI 4 * g then (if nI 18 * bt ≤ nI 4 * g then (if nI 32 * bt ≤ nI 4 * g then 5 else 4) else 3) else 2) else 1) else 0
theorem cs_le (bt g : Int32) : cs bt g ≤ 5 := by
  unfold cs
  split
  · split
    · split
      · split
        · split <;> decide
        · decide
      · decide
    · decide
  · decide
set_option maxRecDepth 20000 in
set_option maxHeartbeats 2000000 in
theorem caseOf_sp {g bt : Int32} {σ : Sg} : CM mX6_caseOf [ar 33, ai g, ai bt] σ (Ret (nI (cs bt g)) σ) := by
  refine CM_in (ls := [some (ar 33), some (ai g), some (ai bt), none]) rfl ?_
  refine g_iconst (p0 := 1) (v := nI 4) dX6_caseOf_0 rfl rfl ?_
  refine g_iload_n (p0 := 2) (i := 1) dX6_caseOf_1 rfl rfl rfl ?_
  first | ((with_reducible refine isN2 ?_); refine g_imulN (p0 := 3) dX6_caseOf_2 rfl ?_) | refine g_imul (p0 := 3) dX6_caseOf_2 rfl ?_
  refine g_istore_n (p0 := 4) (i := 3) (ls2 := [_, _, _, _]) dX6_caseOf_3 rfl (Nat.le_of_ble_eq_true rfl) rfl rfl ?_
  refine g_iload_n (p0 := 5) (i := 3) dX6_caseOf_4 rfl rfl rfl ?_
  refine g_iconst (p0 := 6) (v := nI 3) dX6_caseOf_5 rfl rfl ?_
  refine g_iload_n (p0 := 7) (i := 2) dX6_caseOf_6 rfl rfl rfl ?_
  first | ((with_reducible refine isN2 ?_); refine g_imulN (p0 := 8) dX6_caseOf_7 rfl ?_) | refine g_imul (p0 := 8) dX6_caseOf_7 rfl ?_
  first | ((with_reducible refine isN2 ?_); refine g_icmpN_ge (tgt := 13) (p1 := 11) dX6_caseOf_8 rfl (by omega) (by omega) rfl (fun c_8 => ?_) (fun c_8 => ?_)) | refine g_icmp_ge (tgt := 13) (p1 := 11) dX6_caseOf_8 rfl rfl (fun c_8 => ?_) (fun c_8 => ?_)
  · refine g_iload_n (p0 := 14) (i := 3) dX6_caseOf_13 rfl rfl rfl ?_
    refine g_bipush (p0 := 16) (v := nI 6) dX6_caseOf_14 (by decide) rfl ?_
    refine g_iload_n (p0 := 17) (i := 2) dX6_caseOf_16 rfl rfl rfl ?_
    first | ((with_reducible refine isN2 ?_); refine g_imulN (p0 := 18) dX6_caseOf_17 rfl ?_) | refine g_imul (p0 := 18) dX6_caseOf_17 rfl ?_
    first | ((with_reducible refine isN2 ?_); refine g_icmpN_ge (tgt := 23) (p1 := 21) dX6_caseOf_18 rfl (by omega) (by omega) rfl (fun c_18 => ?_) (fun c_18 => ?_)) | refine g_icmp_ge (tgt := 23) (p1 := 21) dX6_caseOf_18 rfl rfl (fun c_18 => ?_) (fun c_18 => ?_)
    · refine g_iload_n (p0 := 24) (i := 3) dX6_caseOf_23 rfl rfl rfl ?_
      refine g_bipush (p0 := 26) (v := nI 10) dX6_caseOf_24 (by decide) rfl ?_
      refine g_iload_n (p0 := 27) (i := 2) dX6_caseOf_26 rfl rfl rfl ?_
      first | ((with_reducible refine isN2 ?_); refine g_imulN (p0 := 28) dX6_caseOf_27 rfl ?_) | refine g_imul (p0 := 28) dX6_caseOf_27 rfl ?_
      first | ((with_reducible refine isN2 ?_); refine g_icmpN_ge (tgt := 33) (p1 := 31) dX6_caseOf_28 rfl (by omega) (by omega) rfl (fun c_28 => ?_) (fun c_28 => ?_)) | refine g_icmp_ge (tgt := 33) (p1 := 31) dX6_caseOf_28 rfl rfl (fun c_28 => ?_) (fun c_28 => ?_)
      · refine g_iload_n (p0 := 34) (i := 3) dX6_caseOf_33 rfl rfl rfl ?_
        refine g_bipush (p0 := 36) (v := nI 18) dX6_caseOf_34 (by decide) rfl ?_
        refine g_iload_n (p0 := 37) (i := 2) dX6_caseOf_36 rfl rfl rfl ?_
        first | ((with_reducible refine isN2 ?_); refine g_imulN (p0 := 38) dX6_caseOf_37 rfl ?_) | refine g_imul (p0 := 38) dX6_caseOf_37 rfl ?_
        first | ((with_reducible refine isN2 ?_); refine g_icmpN_ge (tgt := 43) (p1 := 41) dX6_caseOf_38 rfl (by omega) (by omega) rfl (fun c_38 => ?_) (fun c_38 => ?_)) | refine g_icmp_ge (tgt := 43) (p1 := 41) dX6_caseOf_38 rfl rfl (fun c_38 => ?_) (fun c_38 => ?_)
        · refine g_iload_n (p0 := 44) (i := 3) dX6_caseOf_43 rfl rfl rfl ?_
          refine g_bipush (p0 := 46) (v := nI 32) dX6_caseOf_44 (by decide) rfl ?_
          refine g_iload_n (p0 := 47) (i := 2) dX6_caseOf_46 rfl rfl rfl ?_
          first | ((with_reducible refine isN2 ?_); refine g_imulN (p0 := 48) dX6_caseOf_47 rfl ?_) | refine g_imul (p0 := 48) dX6_caseOf_47 rfl ?_
          first | ((with_reducible refine isN2 ?_); refine g_icmpN_ge (tgt := 55) (p1 := 51) dX6_caseOf_48 rfl (by omega) (by omega) rfl (fun c_48 => ?_) (fun c_48 => ?_)) | refine g_icmp_ge (tgt := 55) (p1 := 51) dX6_caseOf_48 rfl rfl (fun c_48 => ?_) (fun c_48 => ?_)
          · refine g_iconst (p0 := 56) (v := nI 5) dX6_caseOf_55 rfl rfl ?_
            refine g_ireturn dX6_caseOf_56 rfl rfl (?_)
            exact Ret.i (by simp [cs, *]) rfl
          · refine g_iconst (p0 := 52) (v := nI 4) dX6_caseOf_51 rfl rfl ?_
            refine g_goto (tgt := 56) dX6_caseOf_52 rfl ?_
            refine g_ireturn dX6_caseOf_56 rfl rfl (?_)
            exact Ret.i (by simp [cs, *]) rfl
        · refine g_iconst (p0 := 42) (v := nI 3) dX6_caseOf_41 rfl rfl ?_
          refine g_ireturn dX6_caseOf_42 rfl rfl (?_)
          exact Ret.i (by simp [cs, *]) rfl
      · refine g_iconst (p0 := 32) (v := nI 2) dX6_caseOf_31 rfl rfl ?_
        refine g_ireturn dX6_caseOf_32 rfl rfl (?_)
        exact Ret.i (by simp [cs, *]) rfl
    · refine g_iconst (p0 := 22) (v := nI 1) dX6_caseOf_21 rfl rfl ?_
      refine g_ireturn dX6_caseOf_22 rfl rfl (?_)
      exact Ret.i (by simp [cs, *]) rfl
  · refine g_iconst (p0 := 12) (v := nI 0) dX6_caseOf_11 rfl rfl ?_
    refine g_ireturn dX6_caseOf_12 rfl rfl (?_)
    exact Ret.i (by simp [cs, *]) rfl

