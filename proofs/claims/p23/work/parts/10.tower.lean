/-! THE CLASS: out of the rows of whole -/
def RW (r a n : Nat) : Prop := SHl[r]? = some (.inl (7, [some a])) ∧ SHl[a]? = some (.inr (.inl n)) ∧ n ≤ 1000
def TW (t : Nat) : Prop := SHl[t]? = some (.inl (8, [some (t + 1), some (t + 3), none, none, none, none])) ∧ RW (t + 1) (t + 2) 160 ∧ RW (t + 3) (t + 4) 25
theorem RW.s {r a n : Nat} (h : RW r a n) : SHl[r]? = some (.inl (7, [some a])) := h.1
theorem TW.s {t : Nat} (h : TW t) : SHl[t]? = some (.inl (8, [some (t + 1), some (t + 3), none, none, none, none])) := h.1
theorem up_nv {σ : Sg} {c k c' k' : Nat} {x v : Int32} (h : c' ≠ c) (hv : σ c' k' = v) : up σ c k x c' k' = v := by rw [up_ne h, hv]
theorem up_mv {σ : Sg} {c k k' : Nat} {x v : Int32} (h : k' ≠ k) (hv : σ c k' = v) : up σ c k x c k' = v := by rw [up_miss h, hv]
theorem TW1 : TW 1 := ⟨rfl, ⟨rfl, rfl, by decide⟩, ⟨rfl, rfl, by decide⟩⟩
theorem TW6 : TW 6 := ⟨rfl, ⟨rfl, rfl, by decide⟩, ⟨rfl, rfl, by decide⟩⟩
theorem TW13 : TW 13 := ⟨rfl, ⟨rfl, rfl, by decide⟩, ⟨rfl, rfl, by decide⟩⟩
theorem TW18 : TW 18 := ⟨rfl, ⟨rfl, rfl, by decide⟩, ⟨rfl, rfl, by decide⟩⟩
theorem TW23 : TW 23 := ⟨rfl, ⟨rfl, rfl, by decide⟩, ⟨rfl, rfl, by decide⟩⟩
theorem TW28 : TW 28 := ⟨rfl, ⟨rfl, rfl, by decide⟩, ⟨rfl, rfl, by decide⟩⟩
/-- a whole cell replaced -/
def setR (σ : Sg) (a : Nat) (f : Nat → Int32) : Sg := fun c => if c = a then f else σ c
theorem setR_hit {σ : Sg} {a : Nat} {f : Nat → Int32} : setR σ a f a = f := by simp [setR]
theorem setR_ne {σ : Sg} {a c : Nat} {f : Nat → Int32} (h : c ≠ a) : setR σ a f c = σ c := by simp [setR, h]
theorem up_setR (σ : Sg) (c k : Nat) (x : Int32) : up σ c k x = setR σ c (upd (σ c) k x) := rfl
theorem setR_id {σ : Sg} {a : Nat} {f : Nat → Int32} (h : f = σ a) : setR σ a f = σ := by
  funext c
  by_cases hc : c = a
  · subst hc; rw [setR_hit, h]
  · rw [setR_ne hc]
theorem setR_setR {σ : Sg} {a : Nat} {f g : Nat → Int32} : setR (setR σ a f) a g = setR σ a g := by
  funext c
  by_cases hc : c = a
  · subst hc; rw [setR_hit, setR_hit]
  · rw [setR_ne hc, setR_ne hc, setR_ne hc]
theorem setR_comm {σ : Sg} {a b : Nat} {f g : Nat → Int32} (h : a ≠ b) : setR (setR σ a f) b g = setR (setR σ b g) a f := by
  funext c
  by_cases hc : c = a
  · subst hc; rw [setR_ne h, setR_hit, setR_hit]
  · by_cases hb : c = b
    · subst hb; rw [setR_hit, setR_ne hc, setR_hit]
    · rw [setR_ne hb, setR_ne hc, setR_ne hc, setR_ne hb]
theorem upd_self {f : Nat → Int32} {k : Nat} {x : Int32} (h : f k = x) : upd f k x = f := by
  funext j
  by_cases hj : j = k
  · subst hj; simp [upd, h]
  · simp [upd, hj]
theorem upd_upd {f : Nat → Int32} {k : Nat} {x y : Int32} : upd (upd f k x) k y = upd f k y := by
  funext j
  by_cases hj : j = k
  · subst hj; simp [upd]
  · simp [upd, hj]
theorem upd_hit {f : Nat → Int32} {k : Nat} {x : Int32} : upd f k x k = x := by simp [upd]
theorem upd_ne {f : Nat → Int32} {k j : Nat} {x : Int32} (h : j ≠ k) : upd f k x j = f j := by simp [upd, h]
/-- a row's answer at any index -/
def rowAt (f : Nat → Int32) (n : Nat) (i : Int32) : Int32 := if 0 ≤ i ∧ i < nI n then f i.toNatClampNeg else 0
theorem rowAt_N {f : Nat → Int32} {n j : Nat} (hj : j < n) (hn : n ≤ 1000) : rowAt f n (nI j) = f j := by
  have h1 : (0 : Int32) ≤ nI j := nI_pos' (by omega)
  have h2 : nI j < nI n := nI_lt hj (by omega)
  rw [rowAt, if_pos ⟨h1, h2⟩, nI_clamp (by omega)]
theorem vp_of {i : Int32} {n : Nat} (hn : n ≤ 1000) (h1 : (0 : Int32) ≤ i) (h2 : i < nI n) : vp_in i n := by
  rw [vp_in_iff]
  have e1 := Int32.le_iff_toInt_le.mp h1
  have e2 := Int32.lt_iff_toInt_lt.mp h2
  rw [nI_toInt (by omega)] at e2
  rw [Int32.toInt_zero] at e1
  exact ⟨e1, e2⟩
set_option maxRecDepth 20000 in
set_option maxHeartbeats 2000000 in
theorem at_sp {r a n : Nat} {i : Int32} {σ : Sg} (hr : RW r a n) : CM mX7_at [ar r, ai i] σ (Ret (rowAt (σ a) n i) σ) := by
  obtain ⟨hr1, hr2, hn⟩ := hr
  refine CM_in (ls := [some (ar r), some (ai i)]) rfl ?_
  refine g_iload_n (p0 := 1) (i := 1) dX7_at_0 rfl rfl rfl ?_
  first | ((with_reducible refine isN1 ?_); refine g_ifN_lt (tgt := 22) (p1 := 4) dX7_at_1 rfl (by omega) rfl (fun c_1 => ?_) (fun c_1 => ?_)) | refine g_if_lt (tgt := 22) (p1 := 4) dX7_at_1 rfl rfl (fun c_1 => ?_) (fun c_1 => ?_)
  · refine g_iconst (p0 := 23) (v := nI 0) dX7_at_22 rfl rfl ?_
    refine g_ireturn dX7_at_23 rfl rfl (?_)
    exact Ret.i (by first | rw [rowAt, if_neg (fun q => Int32.not_lt.mpr q.1 c_1)]; rfl | rw [rowAt, if_neg (fun q => Int32.not_lt.mpr c_10 q.2)]; rfl | rw [rowAt, if_pos ⟨Int32.not_lt.mp c_1, Int32.not_le.mp c_10⟩]) rfl
  · refine g_iload_n (p0 := 5) (i := 1) dX7_at_4 rfl rfl rfl ?_
    refine g_aload_n (p0 := 6) (i := 0) dX7_at_5 rfl rfl rfl ?_
    refine g_getR (p0 := 9) dX7_at_6 fX7_7 (by first | assumption | exact RW.s (by assumption) | exact TW.s (by assumption) | rfl) rfl rfl ?_
    first | refine g_alen (p0 := 10) dX7_at_9 (by first | assumption | exact RW.s (by assumption) | exact TW.s (by assumption) | rfl) rfl ?_ | refine g_alenq (p0 := 10) dX7_at_9 (by first | assumption | exact RW.s (by assumption) | exact TW.s (by assumption) | rfl) rfl ?_
    first | ((with_reducible refine isN2 ?_); refine g_icmpN_ge (tgt := 22) (p1 := 13) dX7_at_10 rfl (by omega) (by omega) rfl (fun c_10 => ?_) (fun c_10 => ?_)) | refine g_icmp_ge (tgt := 22) (p1 := 13) dX7_at_10 rfl rfl (fun c_10 => ?_) (fun c_10 => ?_)
    · refine g_iconst (p0 := 23) (v := nI 0) dX7_at_22 rfl rfl ?_
      refine g_ireturn dX7_at_23 rfl rfl (?_)
      exact Ret.i (by first | rw [rowAt, if_neg (fun q => Int32.not_lt.mpr q.1 c_1)]; rfl | rw [rowAt, if_neg (fun q => Int32.not_lt.mpr c_10 q.2)]; rfl | rw [rowAt, if_pos ⟨Int32.not_lt.mp c_1, Int32.not_le.mp c_10⟩]) rfl
    · have hvp : vp_in i n := vp_of hn (Int32.not_lt.mp c_1) (Int32.not_le.mp c_10)
      refine g_aload_n (p0 := 14) (i := 0) dX7_at_13 rfl rfl rfl ?_
      refine g_getR (p0 := 17) dX7_at_14 fX7_7 (by first | assumption | exact RW.s (by assumption) | exact TW.s (by assumption) | rfl) rfl rfl ?_
      refine g_iload_n (p0 := 18) (i := 1) dX7_at_17 rfl rfl rfl ?_
      first | ((with_reducible refine isN1 ?_); refine g_aldN (p0 := 19) dX7_at_18 (by first | assumption | exact RW.s (by assumption) | exact TW.s (by assumption) | rfl) (by first | decide | assumption) (by omega) (by first | assumption | exact up_hit | exact up_nv (by omega) (by assumption) | exact up_mv (by omega) (by assumption) | exact up_nv (by omega) (up_nv (by omega) (by assumption)) | exact up_nv (by omega) up_hit | rfl) rfl ?_) | refine g_ald (p0 := 19) dX7_at_18 (by first | assumption | exact RW.s (by assumption) | exact TW.s (by assumption) | rfl) (by assumption) (by first | assumption | exact up_hit | exact up_nv (by omega) (by assumption) | exact up_mv (by omega) (by assumption) | exact up_nv (by omega) (up_nv (by omega) (by assumption)) | exact up_nv (by omega) up_hit | rfl) rfl ?_
      refine g_goto (tgt := 23) dX7_at_19 rfl ?_
      refine g_ireturn dX7_at_23 rfl rfl (?_)
      exact Ret.i (by first | rw [rowAt, if_neg (fun q => Int32.not_lt.mpr q.1 c_1)]; rfl | rw [rowAt, if_neg (fun q => Int32.not_lt.mpr c_10 q.2)]; rfl | rw [rowAt, if_pos ⟨Int32.not_lt.mp c_1, Int32.not_le.mp c_10⟩]) rfl
theorem at_N {r a n j : Nat} {v : Int32} {σ : Sg} (hr : RW r a n) (hj : j < n) (hv : σ a j = v) : CM mX7_at [ar r, ai (nI j)] σ (Ret v σ) := by
  have h := at_sp (i := nI j) (σ := σ) hr
  rw [rowAt_N hj hr.2.2, hv] at h
  exact h
set_option maxRecDepth 20000 in
set_option maxHeartbeats 2000000 in
theorem put_N {r a n j : Nat} {x : Int32} {σ : Sg} (hr : RW r a n) (hj : j < n) : CM mX7_put [ar r, ai (nI j), ai x] σ (RetV (up σ a j x)) := by
  obtain ⟨hr1, hr2, hn⟩ := hr
  refine CM_in (ls := [some (ar r), some (ai (nI j)), some (ai x)]) rfl ?_
  refine g_iload_n (p0 := 1) (i := 1) dX7_put_0 rfl rfl rfl ?_
  first | ((with_reducible refine isN1 ?_); refine g_ifN_lt (tgt := 20) (p1 := 4) dX7_put_1 rfl (by omega) rfl (fun c_1 => by exfalso; first | omega | contradiction | exact absurd (by assumption) c_1 | (simp_all; done)) (fun c_1 => ?_)) | refine g_if_lt (tgt := 20) (p1 := 4) dX7_put_1 rfl rfl (fun c_1 => by exfalso; first | omega | contradiction | exact absurd (by assumption) c_1 | (simp_all; done)) (fun c_1 => ?_)
  refine g_iload_n (p0 := 5) (i := 1) dX7_put_4 rfl rfl rfl ?_
  refine g_aload_n (p0 := 6) (i := 0) dX7_put_5 rfl rfl rfl ?_
  refine g_getR (p0 := 9) dX7_put_6 fX7_7 (by first | assumption | exact RW.s (by assumption) | exact TW.s (by assumption) | rfl) rfl rfl ?_
  first | refine g_alen (p0 := 10) dX7_put_9 (by first | assumption | exact RW.s (by assumption) | exact TW.s (by assumption) | rfl) rfl ?_ | refine g_alenq (p0 := 10) dX7_put_9 (by first | assumption | exact RW.s (by assumption) | exact TW.s (by assumption) | rfl) rfl ?_
  first | ((with_reducible refine isN2 ?_); refine g_icmpN_ge (tgt := 20) (p1 := 13) dX7_put_10 rfl (by omega) (by omega) rfl (fun c_10 => by exfalso; first | omega | contradiction | exact absurd (by assumption) c_10 | (simp_all; done)) (fun c_10 => ?_)) | refine g_icmp_ge (tgt := 20) (p1 := 13) dX7_put_10 rfl rfl (fun c_10 => by exfalso; first | omega | contradiction | exact absurd (by assumption) c_10 | (simp_all; done)) (fun c_10 => ?_)
  refine g_aload_n (p0 := 14) (i := 0) dX7_put_13 rfl rfl rfl ?_
  refine g_getR (p0 := 17) dX7_put_14 fX7_7 (by first | assumption | exact RW.s (by assumption) | exact TW.s (by assumption) | rfl) rfl rfl ?_
  refine g_iload_n (p0 := 18) (i := 1) dX7_put_17 rfl rfl rfl ?_
  refine g_iload_n (p0 := 19) (i := 2) dX7_put_18 rfl rfl rfl ?_
  first | ((with_reducible refine isNS ?_); refine g_astN (p0 := 20) dX7_put_19 (by first | assumption | exact RW.s (by assumption) | exact TW.s (by assumption) | rfl) (by first | decide | assumption) (by omega) rfl ?_) | refine g_ast (p0 := 20) dX7_put_19 (by first | assumption | exact RW.s (by assumption) | exact TW.s (by assumption) | rfl) (by assumption) rfl ?_
  refine g_return dX7_put_20 rfl ?_
  exact ⟨rfl, rfl⟩
set_option maxRecDepth 20000 in
set_option maxHeartbeats 2000000 in
theorem add_N {r a n j : Nat} {x v : Int32} {σ : Sg} (hr : RW r a n) (hj : j < n) (hv : σ a j = v) : CM mX7_add [ar r, ai (nI j), ai x] σ (RetV (up σ a j (v + x))) := by
  have hr0 := hr
  obtain ⟨hr1, hr2, hn⟩ := hr
  refine CM_in (ls := [some (ar r), some (ai (nI j)), some (ai x)]) rfl ?_
  refine g_aload_n (p0 := 1) (i := 0) dX7_add_0 rfl rfl rfl ?_
  refine g_iload_n (p0 := 2) (i := 1) dX7_add_1 rfl rfl rfl ?_
  refine g_aload_n (p0 := 3) (i := 0) dX7_add_2 rfl rfl rfl ?_
  refine g_iload_n (p0 := 4) (i := 1) dX7_add_3 rfl rfl rfl ?_
  refine g_cV1R (p0 := 7) (r1 := mX7_at) dX7_add_4 lX7_13 vX7_at (by first | assumption | exact RW.s (by assumption) | exact TW.s (by assumption) | rfl) ⟨_, _, rfl⟩ (FITi rfl rfl) (Nat.le_of_ble_eq_true rfl) (at_N hr0 hj hv) rfl ?_
  refine g_iload_n (p0 := 8) (i := 2) dX7_add_7 rfl rfl rfl ?_
  first | ((with_reducible refine isN2 ?_); refine g_iaddN (p0 := 9) dX7_add_8 rfl ?_) | refine g_iadd (p0 := 9) dX7_add_8 rfl ?_
  refine g_cV2V (p0 := 12) (r1 := mX7_put) dX7_add_9 lX7_17 vX7_put (by first | assumption | exact RW.s (by assumption) | exact TW.s (by assumption) | rfl) ⟨_, _, rfl⟩ (FITi rfl rfl) (Nat.le_of_ble_eq_true rfl) (put_N hr0 hj) rfl ?_
  refine g_return dX7_add_12 rfl ?_
  exact ⟨rfl, rfl⟩
/-- the first n of g over f -/
def cpy (f g : Nat → Int32) (n : Nat) : Nat → Int32 := fun i => if i < n then g i else f i
theorem cpy_0 {f g : Nat → Int32} : cpy f g 0 = f := by funext i; simp [cpy]
theorem cpy_succ {f g : Nat → Int32} {n : Nat} : upd (cpy f g n) n (g n) = cpy f g (n + 1) := by
  funext i
  by_cases hi : i = n
  · subst hi; simp [upd, cpy]
  · have : (i < n + 1) ↔ i < n := by omega
    simp [upd, cpy, hi, this]
set_option maxRecDepth 20000 in
set_option maxHeartbeats 2000000 in
theorem copy_loop {r a n r2 a2 n2 L : Nat} {σ : Sg} {Q : SP} (hr : RW r a n) (hr2 : RW r2 a2 n2) (hne : a2 ≠ a) (hL : L ≤ n) (hL2 : L ≤ n2) (k : Q none (setR σ a (cpy (σ a) (σ a2) L))) : ∀ m j, j + m = L → WM mX7_copy Q 2 [some (ar r), some (ar r2), some (ai (nI L)), some (ai (nI j))] [] (setR σ a (cpy (σ a) (σ a2) j)) := by
  have hs := hr.1
  have hs2 := hr2.1
  have hn := hr.2.2
  intro m
  induction m with
  | zero =>
    intro j hj
    obtain rfl : j = L := by omega
    refine g_iload_n (p0 := 3) (i := 3) dX7_copy_2 rfl rfl rfl ?_
    refine g_iload_n (p0 := 4) (i := 2) dX7_copy_3 rfl rfl rfl ?_
    first | ((with_reducible refine isN2 ?_); refine g_icmpN_ge (tgt := 23) (p1 := 7) dX7_copy_4 rfl (by omega) (by omega) rfl (fun c_4 => ?_) (fun c_4 => by exfalso; first | omega | contradiction | exact absurd (by assumption) c_4 | (simp_all; done))) | refine g_icmp_ge (tgt := 23) (p1 := 7) dX7_copy_4 rfl rfl (fun c_4 => ?_) (fun c_4 => by exfalso; first | omega | contradiction | exact absurd (by assumption) c_4 | (simp_all; done))
    refine g_return dX7_copy_23 rfl ?_
    exact k
  | succ m ih =>
    intro j hj
    have e : up (setR σ a (cpy (σ a) (σ a2) j)) a j (σ a2 j) = setR σ a (cpy (σ a) (σ a2) (j + 1)) := by
      rw [up_setR, setR_setR, setR_hit, cpy_succ]
    have ev : setR σ a (cpy (σ a) (σ a2) j) a2 j = σ a2 j := by rw [setR_ne hne]
    refine g_iload_n (p0 := 3) (i := 3) dX7_copy_2 rfl rfl rfl ?_
    refine g_iload_n (p0 := 4) (i := 2) dX7_copy_3 rfl rfl rfl ?_
    first | ((with_reducible refine isN2 ?_); refine g_icmpN_ge (tgt := 23) (p1 := 7) dX7_copy_4 rfl (by omega) (by omega) rfl (fun c_4 => by exfalso; first | omega | contradiction | exact absurd (by assumption) c_4 | (simp_all; done)) (fun c_4 => ?_)) | refine g_icmp_ge (tgt := 23) (p1 := 7) dX7_copy_4 rfl rfl (fun c_4 => by exfalso; first | omega | contradiction | exact absurd (by assumption) c_4 | (simp_all; done)) (fun c_4 => ?_)
    refine g_aload_n (p0 := 8) (i := 0) dX7_copy_7 rfl rfl rfl ?_
    refine g_iload_n (p0 := 9) (i := 3) dX7_copy_8 rfl rfl rfl ?_
    refine g_aload_n (p0 := 10) (i := 1) dX7_copy_9 rfl rfl rfl ?_
    refine g_iload_n (p0 := 11) (i := 3) dX7_copy_10 rfl rfl rfl ?_
    refine g_cV1R (p0 := 14) (r1 := mX7_at) dX7_copy_11 lX7_13 vX7_at (by first | assumption | exact RW.s (by assumption) | exact TW.s (by assumption) | rfl) ⟨_, _, rfl⟩ (FITi rfl rfl) (Nat.le_of_ble_eq_true rfl) (at_N hr2 (by omega) ev) rfl ?_
    refine g_cV2V (p0 := 17) (r1 := mX7_put) dX7_copy_14 lX7_17 vX7_put (by first | assumption | exact RW.s (by assumption) | exact TW.s (by assumption) | rfl) ⟨_, _, rfl⟩ (FITi rfl rfl) (Nat.le_of_ble_eq_true rfl) (put_N hr (by omega)) rfl ?_
    first | refine g_iinc1 (p0 := 20) (ls2 := [_, _, _, _]) dX7_copy_17 rfl rfl rfl ?_ | refine g_iinc (p0 := 20) (ls2 := [_, _, _, _]) dX7_copy_17 rfl rfl rfl rfl ?_
    refine g_goto (tgt := 2) dX7_copy_20 rfl ?_
    rw [e]
    exact ih (j + 1) (by omega)
set_option maxRecDepth 20000 in
set_option maxHeartbeats 2000000 in
theorem copy_sp {r a n r2 a2 n2 L : Nat} {σ : Sg} (hr : RW r a n) (hr2 : RW r2 a2 n2) (hne : a2 ≠ a) (hL : L ≤ n) (hL2 : L ≤ n2) : CM mX7_copy [ar r, ar r2, ai (nI L)] σ (RetV (setR σ a (cpy (σ a) (σ a2) L))) := by
  refine CM_in (ls := [some (ar r), some (ar r2), some (ai (nI L)), none]) rfl ?_
  refine g_iconst (p0 := 1) (v := nI 0) dX7_copy_0 rfl rfl ?_
  refine g_istore_n (p0 := 2) (i := 3) (ls2 := [_, _, _, _]) dX7_copy_1 rfl (Nat.le_of_ble_eq_true rfl) rfl rfl ?_
  have h := copy_loop (σ := σ) (Q := RetV (setR σ a (cpy (σ a) (σ a2) L))) hr hr2 hne hL hL2 ⟨rfl, rfl⟩ L 0 (by omega)
  rw [cpy_0, setR_id rfl] at h
  exact h
/-- tower t becomes tower u, with s strokes -/
def twr (σ : Sg) (t u s : Nat) : Sg := setR (setR (setR σ (t + 2) (cpy (σ (t + 2)) (σ (u + 2)) s)) (t + 4) (cpy (σ (t + 4)) (σ (u + 4)) 25)) t (upd (upd (upd (upd (σ t) 2 (nI s)) 3 (σ u 3)) 4 (σ u 4)) 5 (σ u 5))
set_option maxRecDepth 20000 in
set_option maxHeartbeats 2000000 in
theorem become_sp {t u s : Nat} {σ : Sg} (ht : TW t) (hu : TW u) (htu : t + 4 < u ∨ u + 4 < t) (hs : σ u 2 = nI s) (hs1 : s ≤ 160) (hz : σ u 5 = 0 ∨ σ u 5 = 1) : CM mX8_become [ar t, ar u] σ (RetV (twr σ t u s)) := by
  obtain ⟨hT, hR1, hR2⟩ := ht
  obtain ⟨hU, hU1, hU2⟩ := hu
  obtain ⟨σ1, h1⟩ : ∃ z, z = setR σ (t + 2) (cpy (σ (t + 2)) (σ (u + 2)) s) := ⟨_, rfl⟩
  obtain ⟨σ2, h2⟩ : ∃ z, z = setR σ1 (t + 4) (cpy (σ1 (t + 4)) (σ1 (u + 4)) 25) := ⟨_, rfl⟩
  have e1 : ∀ c, c ≠ t + 2 → σ1 c = σ c := fun c hc => by rw [h1, setR_ne hc]
  have e2 : ∀ c, c ≠ t + 2 → c ≠ t + 4 → σ2 c = σ c := fun c hc hd => by rw [h2, setR_ne hd, e1 c hc]
  have g2 : σ2 u 2 = nI s := by rw [e2 u (by omega) (by omega), hs]
  have g3 : σ2 u 3 = σ u 3 := by rw [e2 u (by omega) (by omega)]
  have g4 : σ2 u 4 = σ u 4 := by rw [e2 u (by omega) (by omega)]
  have g5 : σ2 u 5 = σ u 5 := by rw [e2 u (by omega) (by omega)]
  have cp2 := copy_sp (σ := σ1) (L := 25) hR2 hU2 (show u + 4 ≠ t + 4 by omega) (by omega) (by omega)
  rw [← h2] at cp2
  have cp1 := copy_sp (σ := σ) (L := s) hR1 hU1 (show u + 2 ≠ t + 2 by omega) hs1 hs1
  rw [← h1] at cp1
  refine CM_in (ls := [some (ar t), some (ar u)]) rfl ?_
  refine g_aload_n (p0 := 1) (i := 0) dX8_become_0 rfl rfl rfl ?_
  refine g_getR (p0 := 4) dX8_become_1 fX8_14 (by first | assumption | exact RW.s (by assumption) | exact TW.s (by assumption) | rfl) rfl rfl ?_
  refine g_aload_n (p0 := 5) (i := 1) dX8_become_4 rfl rfl rfl ?_
  refine g_getR (p0 := 8) dX8_become_5 fX8_14 (by first | assumption | exact RW.s (by assumption) | exact TW.s (by assumption) | rfl) rfl rfl ?_
  refine g_aload_n (p0 := 9) (i := 1) dX8_become_8 rfl rfl rfl ?_
  refine g_getI (p0 := 12) dX8_become_9 fX8_23 (by first | assumption | exact RW.s (by assumption) | exact TW.s (by assumption) | rfl) rfl (by first | assumption | exact up_hit | exact up_nv (by omega) (by assumption) | exact up_mv (by omega) (by assumption) | exact up_nv (by omega) (up_nv (by omega) (by assumption)) | exact up_nv (by omega) up_hit | rfl) rfl ?_
  refine g_cV2V (p0 := 15) (r1 := mX7_copy) dX8_become_12 lX8_41 vX7_copy (by first | assumption | exact RW.s (by assumption) | exact TW.s (by assumption) | rfl) ⟨_, _, rfl⟩ (FITi rfl rfl) (Nat.le_of_ble_eq_true rfl) (cp1) rfl ?_
  refine g_aload_n (p0 := 16) (i := 0) dX8_become_15 rfl rfl rfl ?_
  refine g_getR (p0 := 19) dX8_become_16 fX8_20 (by first | assumption | exact RW.s (by assumption) | exact TW.s (by assumption) | rfl) rfl rfl ?_
  refine g_aload_n (p0 := 20) (i := 1) dX8_become_19 rfl rfl rfl ?_
  refine g_getR (p0 := 23) dX8_become_20 fX8_20 (by first | assumption | exact RW.s (by assumption) | exact TW.s (by assumption) | rfl) rfl rfl ?_
  refine g_bipush (p0 := 25) (v := nI 25) dX8_become_23 (by decide) rfl ?_
  refine g_cV2V (p0 := 28) (r1 := mX7_copy) dX8_become_25 lX8_41 vX7_copy (by first | assumption | exact RW.s (by assumption) | exact TW.s (by assumption) | rfl) ⟨_, _, rfl⟩ (FITi rfl rfl) (Nat.le_of_ble_eq_true rfl) (cp2) rfl ?_
  refine g_aload_n (p0 := 29) (i := 0) dX8_become_28 rfl rfl rfl ?_
  refine g_aload_n (p0 := 30) (i := 1) dX8_become_29 rfl rfl rfl ?_
  refine g_getI (p0 := 33) dX8_become_30 fX8_23 (by first | assumption | exact RW.s (by assumption) | exact TW.s (by assumption) | rfl) rfl (by first | assumption | exact up_nv (by omega) (by assumption) | exact up_nv (by omega) (up_nv (by omega) (by assumption)) | exact up_nv (by omega) (up_nv (by omega) (up_nv (by omega) (by assumption)))) rfl ?_
  refine g_put (p0 := 36) dX8_become_33 fX8_23 (by first | assumption | exact RW.s (by assumption) | exact TW.s (by assumption) | rfl) rfl nX8_2 (pX8_2 _) rfl ?_
  refine g_aload_n (p0 := 37) (i := 0) dX8_become_36 rfl rfl rfl ?_
  refine g_aload_n (p0 := 38) (i := 1) dX8_become_37 rfl rfl rfl ?_
  refine g_getI (p0 := 41) dX8_become_38 fX8_27 (by first | assumption | exact RW.s (by assumption) | exact TW.s (by assumption) | rfl) rfl (by first | assumption | exact up_nv (by omega) (by assumption) | exact up_nv (by omega) (up_nv (by omega) (by assumption)) | exact up_nv (by omega) (up_nv (by omega) (up_nv (by omega) (by assumption)))) rfl ?_
  refine g_put (p0 := 44) dX8_become_41 fX8_27 (by first | assumption | exact RW.s (by assumption) | exact TW.s (by assumption) | rfl) rfl nX8_3 (pX8_3 _) rfl ?_
  refine g_aload_n (p0 := 45) (i := 0) dX8_become_44 rfl rfl rfl ?_
  refine g_aload_n (p0 := 46) (i := 1) dX8_become_45 rfl rfl rfl ?_
  refine g_getI (p0 := 49) dX8_become_46 fX8_30 (by first | assumption | exact RW.s (by assumption) | exact TW.s (by assumption) | rfl) rfl (by first | assumption | exact up_nv (by omega) (by assumption) | exact up_nv (by omega) (up_nv (by omega) (by assumption)) | exact up_nv (by omega) (up_nv (by omega) (up_nv (by omega) (by assumption)))) rfl ?_
  refine g_put (p0 := 52) dX8_become_49 fX8_30 (by first | assumption | exact RW.s (by assumption) | exact TW.s (by assumption) | rfl) rfl nX8_4 (pX8_4 _) rfl ?_
  refine g_aload_n (p0 := 53) (i := 0) dX8_become_52 rfl rfl rfl ?_
  refine g_aload_n (p0 := 54) (i := 1) dX8_become_53 rfl rfl rfl ?_
  refine g_getI (p0 := 57) dX8_become_54 fX8_33 (by first | assumption | exact RW.s (by assumption) | exact TW.s (by assumption) | rfl) rfl (by first | assumption | exact up_nv (by omega) (by assumption) | exact up_nv (by omega) (up_nv (by omega) (by assumption)) | exact up_nv (by omega) (up_nv (by omega) (up_nv (by omega) (by assumption)))) rfl ?_
  refine g_put (p0 := 60) dX8_become_57 fX8_33 (by first | assumption | exact RW.s (by assumption) | exact TW.s (by assumption) | rfl) rfl nX8_5 (pX8_5 (by first | decide | assumption)) rfl ?_
  refine g_return dX8_become_60 rfl ?_
  refine ⟨rfl, ?_⟩
  simp only [up_setR, setR_setR, setR_hit]
  rw [e2 t (by omega) (by omega), h2, e1 (t + 4) (by omega), e1 (u + 4) (by omega), h1]
  rfl
set_option maxRecDepth 20000 in
set_option maxHeartbeats 2000000 in
theorem exchange_sp {t i j : Nat} {σ : Sg} (ht : TW t) (hi : i < 25) (hj : j < 25) : CM mX8_exchange [ar t, ai (nI i), ai (nI j)] σ (RetV (up (up σ (t + 4) i (σ (t + 4) j)) (t + 4) j (σ (t + 4) i))) := by
  obtain ⟨hT, hR1, hR2⟩ := ht
  refine CM_in (ls := [some (ar t), some (ai (nI i)), some (ai (nI j)), none]) rfl ?_
  refine g_aload_n (p0 := 1) (i := 0) dX8_exchange_0 rfl rfl rfl ?_
  refine g_getR (p0 := 4) dX8_exchange_1 fX8_20 (by first | assumption | exact RW.s (by assumption) | exact TW.s (by assumption) | rfl) rfl rfl ?_
  refine g_iload_n (p0 := 5) (i := 1) dX8_exchange_4 rfl rfl rfl ?_
  refine g_cV1R (p0 := 8) (r1 := mX7_at) dX8_exchange_5 lX8_45 vX7_at (by first | assumption | exact RW.s (by assumption) | exact TW.s (by assumption) | rfl) ⟨_, _, rfl⟩ (FITi rfl rfl) (Nat.le_of_ble_eq_true rfl) (at_N (by first | exact ⟨rfl, rfl, by decide⟩ | assumption) (by omega) (by first | assumption | exact up_hit | exact up_nv (by omega) (by assumption) | exact up_mv (by omega) (by assumption) | exact up_nv (by omega) (up_nv (by omega) (by assumption)) | exact up_nv (by omega) up_hit | rfl)) rfl ?_
  refine g_istore_n (p0 := 9) (i := 3) (ls2 := [_, _, _, _]) dX8_exchange_8 rfl (Nat.le_of_ble_eq_true rfl) rfl rfl ?_
  refine g_aload_n (p0 := 10) (i := 0) dX8_exchange_9 rfl rfl rfl ?_
  refine g_getR (p0 := 13) dX8_exchange_10 fX8_20 (by first | assumption | exact RW.s (by assumption) | exact TW.s (by assumption) | rfl) rfl rfl ?_
  refine g_iload_n (p0 := 14) (i := 1) dX8_exchange_13 rfl rfl rfl ?_
  refine g_aload_n (p0 := 15) (i := 0) dX8_exchange_14 rfl rfl rfl ?_
  refine g_getR (p0 := 18) dX8_exchange_15 fX8_20 (by first | assumption | exact RW.s (by assumption) | exact TW.s (by assumption) | rfl) rfl rfl ?_
  refine g_iload_n (p0 := 19) (i := 2) dX8_exchange_18 rfl rfl rfl ?_
  refine g_cV1R (p0 := 22) (r1 := mX7_at) dX8_exchange_19 lX8_45 vX7_at (by first | assumption | exact RW.s (by assumption) | exact TW.s (by assumption) | rfl) ⟨_, _, rfl⟩ (FITi rfl rfl) (Nat.le_of_ble_eq_true rfl) (at_N (by first | exact ⟨rfl, rfl, by decide⟩ | assumption) (by omega) (by first | assumption | exact up_hit | exact up_nv (by omega) (by assumption) | exact up_mv (by omega) (by assumption) | exact up_nv (by omega) (up_nv (by omega) (by assumption)) | exact up_nv (by omega) up_hit | rfl)) rfl ?_
  refine g_cV2V (p0 := 25) (r1 := mX7_put) dX8_exchange_22 lX8_37 vX7_put (by first | assumption | exact RW.s (by assumption) | exact TW.s (by assumption) | rfl) ⟨_, _, rfl⟩ (FITi rfl rfl) (Nat.le_of_ble_eq_true rfl) (put_N (by first | exact ⟨rfl, rfl, by decide⟩ | assumption) (by omega)) rfl ?_
  refine g_aload_n (p0 := 26) (i := 0) dX8_exchange_25 rfl rfl rfl ?_
  refine g_getR (p0 := 29) dX8_exchange_26 fX8_20 (by first | assumption | exact RW.s (by assumption) | exact TW.s (by assumption) | rfl) rfl rfl ?_
  refine g_iload_n (p0 := 30) (i := 2) dX8_exchange_29 rfl rfl rfl ?_
  refine g_iload_n (p0 := 31) (i := 3) dX8_exchange_30 rfl rfl rfl ?_
  refine g_cV2V (p0 := 34) (r1 := mX7_put) dX8_exchange_31 lX8_37 vX7_put (by first | assumption | exact RW.s (by assumption) | exact TW.s (by assumption) | rfl) ⟨_, _, rfl⟩ (FITi rfl rfl) (Nat.le_of_ble_eq_true rfl) (put_N (by first | exact ⟨rfl, rfl, by decide⟩ | assumption) (by omega)) rfl ?_
  refine g_return dX8_exchange_34 rfl ?_
  exact ⟨rfl, rfl⟩
set_option maxRecDepth 20000 in
set_option maxHeartbeats 2000000 in
theorem rowOf_sp {t j c : Nat} {σ : Sg} (ht : TW t) (hj : j < 25) (hv : σ (t + 4) j = nI c) (hc : c < 25) : CM mX8_rowOf [ar t, ai (nI j)] σ (Ret (nI (c / 5 + 1)) σ) := by
  obtain ⟨hT, hR1, hR2⟩ := ht
  refine CM_in (ls := [some (ar t), some (ai (nI j))]) rfl ?_
  refine g_aload_n (p0 := 1) (i := 0) dX8_rowOf_0 rfl rfl rfl ?_
  refine g_getR (p0 := 4) dX8_rowOf_1 fX8_20 (by first | assumption | exact RW.s (by assumption) | exact TW.s (by assumption) | rfl) rfl rfl ?_
  refine g_iload_n (p0 := 5) (i := 1) dX8_rowOf_4 rfl rfl rfl ?_
  refine g_cV1R (p0 := 8) (r1 := mX7_at) dX8_rowOf_5 lX8_45 vX7_at (by first | assumption | exact RW.s (by assumption) | exact TW.s (by assumption) | rfl) ⟨_, _, rfl⟩ (FITi rfl rfl) (Nat.le_of_ble_eq_true rfl) (at_N (by first | exact ⟨rfl, rfl, by decide⟩ | assumption) (by omega) (by first | assumption | exact up_hit | exact up_nv (by omega) (by assumption) | exact up_mv (by omega) (by assumption) | exact up_nv (by omega) (up_nv (by omega) (by assumption)) | exact up_nv (by omega) up_hit | rfl)) rfl ?_
  refine g_iconst (p0 := 9) (v := nI 5) dX8_rowOf_8 rfl rfl ?_
  first | ((with_reducible refine isN2 ?_); refine g_idivN (p0 := 10) dX8_rowOf_9 (by omega) (by omega) (by omega) rfl ?_) | refine g_idiv (p0 := 10) dX8_rowOf_9 (by decide) rfl ?_
  refine g_iconst (p0 := 11) (v := nI 1) dX8_rowOf_10 rfl rfl ?_
  first | ((with_reducible refine isN2 ?_); refine g_iaddN (p0 := 12) dX8_rowOf_11 rfl ?_) | refine g_iadd (p0 := 12) dX8_rowOf_11 rfl ?_
  refine g_ireturn dX8_rowOf_12 rfl rfl (?_)
  exact ⟨rfl, rfl⟩
set_option maxRecDepth 20000 in
set_option maxHeartbeats 2000000 in
theorem columnOf_sp {t j c : Nat} {σ : Sg} (ht : TW t) (hj : j < 25) (hv : σ (t + 4) j = nI c) (hc : c < 25) : CM mX8_columnOf [ar t, ai (nI j)] σ (Ret (nI (c % 5 + 1)) σ) := by
  obtain ⟨hT, hR1, hR2⟩ := ht
  refine CM_in (ls := [some (ar t), some (ai (nI j))]) rfl ?_
  refine g_aload_n (p0 := 1) (i := 0) dX8_columnOf_0 rfl rfl rfl ?_
  refine g_getR (p0 := 4) dX8_columnOf_1 fX8_20 (by first | assumption | exact RW.s (by assumption) | exact TW.s (by assumption) | rfl) rfl rfl ?_
  refine g_iload_n (p0 := 5) (i := 1) dX8_columnOf_4 rfl rfl rfl ?_
  refine g_cV1R (p0 := 8) (r1 := mX7_at) dX8_columnOf_5 lX8_45 vX7_at (by first | assumption | exact RW.s (by assumption) | exact TW.s (by assumption) | rfl) ⟨_, _, rfl⟩ (FITi rfl rfl) (Nat.le_of_ble_eq_true rfl) (at_N (by first | exact ⟨rfl, rfl, by decide⟩ | assumption) (by omega) (by first | assumption | exact up_hit | exact up_nv (by omega) (by assumption) | exact up_mv (by omega) (by assumption) | exact up_nv (by omega) (up_nv (by omega) (by assumption)) | exact up_nv (by omega) up_hit | rfl)) rfl ?_
  refine g_iconst (p0 := 9) (v := nI 5) dX8_columnOf_8 rfl rfl ?_
  first | ((with_reducible refine isN2 ?_); refine g_iremN (p0 := 10) dX8_columnOf_9 (by omega) (by omega) (by omega) rfl ?_) | refine g_irem (p0 := 10) dX8_columnOf_9 (by decide) rfl ?_
  refine g_iconst (p0 := 11) (v := nI 1) dX8_columnOf_10 rfl rfl ?_
  first | ((with_reducible refine isN2 ?_); refine g_iaddN (p0 := 12) dX8_columnOf_11 rfl ?_) | refine g_iadd (p0 := 12) dX8_columnOf_11 rfl ?_
  refine g_ireturn dX8_columnOf_12 rfl rfl (?_)
  exact ⟨rfl, rfl⟩
set_option maxRecDepth 20000 in
set_option maxHeartbeats 2000000 in
theorem tablePlace_sp {t j c : Nat} {σ : Sg} (ht : TW t) (hj : j < 25) (hv : σ (t + 4) j = nI c) (hc : c < 25) : CM mX8_tablePlace [ar t, ai (nI j)] σ (Ret (nI (10 * (c / 5 + 1) + (c % 5 + 1))) σ) := by
  refine CM_in (ls := [some (ar t), some (ai (nI j))]) rfl ?_
  refine g_bipush (p0 := 2) (v := nI 10) dX8_tablePlace_0 (by decide) rfl ?_
  refine g_aload_n (p0 := 3) (i := 0) dX8_tablePlace_2 rfl rfl rfl ?_
  refine g_iload_n (p0 := 4) (i := 1) dX8_tablePlace_3 rfl rfl rfl ?_
  refine g_cV1R (p0 := 7) (r1 := mX8_rowOf) dX8_tablePlace_4 lX8_49 vX8_rowOf (by first | assumption | exact RW.s (by assumption) | exact TW.s (by assumption) | rfl) ⟨_, _, rfl⟩ (FITi rfl rfl) (Nat.le_of_ble_eq_true rfl) (rowOf_sp (by first | exact TW1 | exact TW6 | assumption) (by first | assumption | omega) (by first | assumption | exact up_hit | exact up_nv (by omega) (by assumption) | exact up_mv (by omega) (by assumption) | exact up_nv (by omega) (up_nv (by omega) (by assumption)) | exact up_nv (by omega) up_hit | rfl) (by first | assumption | omega)) rfl ?_
  first | ((with_reducible refine isN2 ?_); refine g_imulN (p0 := 8) dX8_tablePlace_7 rfl ?_) | refine g_imul (p0 := 8) dX8_tablePlace_7 rfl ?_
  refine g_aload_n (p0 := 9) (i := 0) dX8_tablePlace_8 rfl rfl rfl ?_
  refine g_iload_n (p0 := 10) (i := 1) dX8_tablePlace_9 rfl rfl rfl ?_
  refine g_cV1R (p0 := 13) (r1 := mX8_columnOf) dX8_tablePlace_10 lX8_52 vX8_columnOf (by first | assumption | exact RW.s (by assumption) | exact TW.s (by assumption) | rfl) ⟨_, _, rfl⟩ (FITi rfl rfl) (Nat.le_of_ble_eq_true rfl) (columnOf_sp (by first | exact TW1 | exact TW6 | assumption) (by first | assumption | omega) (by first | assumption | exact up_hit | exact up_nv (by omega) (by assumption) | exact up_mv (by omega) (by assumption) | exact up_nv (by omega) (up_nv (by omega) (by assumption)) | exact up_nv (by omega) up_hit | rfl) (by first | assumption | omega)) rfl ?_
  first | ((with_reducible refine isN2 ?_); refine g_iaddN (p0 := 14) dX8_tablePlace_13 rfl ?_) | refine g_iadd (p0 := 14) dX8_tablePlace_13 rfl ?_
  refine g_ireturn dX8_tablePlace_14 rfl rfl (?_)
  exact ⟨rfl, rfl⟩
set_option maxRecDepth 20000 in
set_option maxHeartbeats 2000000 in
theorem hasStroke_T {t j s : Nat} {σ : Sg} (ht : TW t) (hs : σ t 2 = nI s) (hs1 : s ≤ 160) (hj : j < s) : CM mX8_hasStroke [ar t, ai (nI j)] σ (Ret (nI 1) σ) := by
  obtain ⟨hT, hR1, hR2⟩ := ht
  refine CM_in (ls := [some (ar t), some (ai (nI j))]) rfl ?_
  refine g_iload_n (p0 := 1) (i := 1) dX8_hasStroke_0 rfl rfl rfl ?_
  first | ((with_reducible refine isN1 ?_); refine g_ifN_lt (tgt := 16) (p1 := 4) dX8_hasStroke_1 rfl (by omega) rfl (fun c_1 => by exfalso; first | omega | contradiction | exact absurd (by assumption) c_1 | (simp_all; done)) (fun c_1 => ?_)) | refine g_if_lt (tgt := 16) (p1 := 4) dX8_hasStroke_1 rfl rfl (fun c_1 => by exfalso; first | omega | contradiction | exact absurd (by assumption) c_1 | (simp_all; done)) (fun c_1 => ?_)
  refine g_iload_n (p0 := 5) (i := 1) dX8_hasStroke_4 rfl rfl rfl ?_
  refine g_aload_n (p0 := 6) (i := 0) dX8_hasStroke_5 rfl rfl rfl ?_
  refine g_getI (p0 := 9) dX8_hasStroke_6 fX8_23 (by first | assumption | exact RW.s (by assumption) | exact TW.s (by assumption) | rfl) rfl (by first | assumption | exact up_hit | exact up_nv (by omega) (by assumption) | exact up_mv (by omega) (by assumption) | exact up_nv (by omega) (up_nv (by omega) (by assumption)) | exact up_nv (by omega) up_hit | rfl) rfl ?_
  first | ((with_reducible refine isN2 ?_); refine g_icmpN_ge (tgt := 16) (p1 := 12) dX8_hasStroke_9 rfl (by omega) (by omega) rfl (fun c_9 => by exfalso; first | omega | contradiction | exact absurd (by assumption) c_9 | (simp_all; done)) (fun c_9 => ?_)) | refine g_icmp_ge (tgt := 16) (p1 := 12) dX8_hasStroke_9 rfl rfl (fun c_9 => by exfalso; first | omega | contradiction | exact absurd (by assumption) c_9 | (simp_all; done)) (fun c_9 => ?_)
  refine g_iconst (p0 := 13) (v := nI 1) dX8_hasStroke_12 rfl rfl ?_
  refine g_goto (tgt := 17) dX8_hasStroke_13 rfl ?_
  refine g_ireturn dX8_hasStroke_17 rfl (by first | rfl | exact bool_narrow (by first | exact Or.inl rfl | exact Or.inr rfl | assumption | (split <;> first | exact Or.inl rfl | exact Or.inr rfl))) (?_)
  exact ⟨rfl, rfl⟩
set_option maxRecDepth 20000 in
set_option maxHeartbeats 2000000 in
theorem hasStroke_F1 {t : Nat} {x : Int32} {σ : Sg} (ht : TW t) (hx : x < 0) : CM mX8_hasStroke [ar t, ai x] σ (Ret (nI 0) σ) := by
  obtain ⟨hT, hR1, hR2⟩ := ht
  refine CM_in (ls := [some (ar t), some (ai x)]) rfl ?_
  refine g_iload_n (p0 := 1) (i := 1) dX8_hasStroke_0 rfl rfl rfl ?_
  first | ((with_reducible refine isN1 ?_); refine g_ifN_lt (tgt := 16) (p1 := 4) dX8_hasStroke_1 rfl (by omega) rfl (fun c_1 => ?_) (fun c_1 => by exfalso; first | omega | contradiction | exact absurd (by assumption) c_1 | (simp_all; done))) | refine g_if_lt (tgt := 16) (p1 := 4) dX8_hasStroke_1 rfl rfl (fun c_1 => ?_) (fun c_1 => by exfalso; first | omega | contradiction | exact absurd (by assumption) c_1 | (simp_all; done))
  refine g_iconst (p0 := 17) (v := nI 0) dX8_hasStroke_16 rfl rfl ?_
  refine g_ireturn dX8_hasStroke_17 rfl (by first | rfl | exact bool_narrow (by first | exact Or.inl rfl | exact Or.inr rfl | assumption | (split <;> first | exact Or.inl rfl | exact Or.inr rfl))) (?_)
  exact ⟨rfl, rfl⟩
set_option maxRecDepth 20000 in
set_option maxHeartbeats 2000000 in
theorem hasStroke_F2 {t s : Nat} {x : Int32} {σ : Sg} (ht : TW t) (hs : σ t 2 = nI s) (h0 : ¬ x < 0) (hx : nI s ≤ x) : CM mX8_hasStroke [ar t, ai x] σ (Ret (nI 0) σ) := by
  obtain ⟨hT, hR1, hR2⟩ := ht
  refine CM_in (ls := [some (ar t), some (ai x)]) rfl ?_
  refine g_iload_n (p0 := 1) (i := 1) dX8_hasStroke_0 rfl rfl rfl ?_
  first | ((with_reducible refine isN1 ?_); refine g_ifN_lt (tgt := 16) (p1 := 4) dX8_hasStroke_1 rfl (by omega) rfl (fun c_1 => by exfalso; first | omega | contradiction | exact absurd (by assumption) c_1 | (simp_all; done)) (fun c_1 => ?_)) | refine g_if_lt (tgt := 16) (p1 := 4) dX8_hasStroke_1 rfl rfl (fun c_1 => by exfalso; first | omega | contradiction | exact absurd (by assumption) c_1 | (simp_all; done)) (fun c_1 => ?_)
  refine g_iload_n (p0 := 5) (i := 1) dX8_hasStroke_4 rfl rfl rfl ?_
  refine g_aload_n (p0 := 6) (i := 0) dX8_hasStroke_5 rfl rfl rfl ?_
  refine g_getI (p0 := 9) dX8_hasStroke_6 fX8_23 (by first | assumption | exact RW.s (by assumption) | exact TW.s (by assumption) | rfl) rfl (by first | assumption | exact up_hit | exact up_nv (by omega) (by assumption) | exact up_mv (by omega) (by assumption) | exact up_nv (by omega) (up_nv (by omega) (by assumption)) | exact up_nv (by omega) up_hit | rfl) rfl ?_
  first | ((with_reducible refine isN2 ?_); refine g_icmpN_ge (tgt := 16) (p1 := 12) dX8_hasStroke_9 rfl (by omega) (by omega) rfl (fun c_9 => ?_) (fun c_9 => by exfalso; first | omega | contradiction | exact absurd (by assumption) c_9 | (simp_all; done))) | refine g_icmp_ge (tgt := 16) (p1 := 12) dX8_hasStroke_9 rfl rfl (fun c_9 => ?_) (fun c_9 => by exfalso; first | omega | contradiction | exact absurd (by assumption) c_9 | (simp_all; done))
  refine g_iconst (p0 := 17) (v := nI 0) dX8_hasStroke_16 rfl rfl ?_
  refine g_ireturn dX8_hasStroke_17 rfl (by first | rfl | exact bool_narrow (by first | exact Or.inl rfl | exact Or.inr rfl | assumption | (split <;> first | exact Or.inl rfl | exact Or.inr rfl))) (?_)
  exact ⟨rfl, rfl⟩
set_option maxRecDepth 20000 in
set_option maxHeartbeats 2000000 in
theorem isFull_F {t s : Nat} {σ : Sg} (ht : TW t) (hs : σ t 2 = nI s) (hs1 : s < 160) : CM mX8_isFull [ar t] σ (Ret (nI 0) σ) := by
  obtain ⟨hT, hR1, hR2⟩ := ht
  refine CM_in (ls := [some (ar t)]) rfl ?_
  refine g_aload_n (p0 := 1) (i := 0) dX8_isFull_0 rfl rfl rfl ?_
  refine g_getI (p0 := 4) dX8_isFull_1 fX8_23 (by first | assumption | exact RW.s (by assumption) | exact TW.s (by assumption) | rfl) rfl (by first | assumption | exact up_hit | exact up_nv (by omega) (by assumption) | exact up_mv (by omega) (by assumption) | exact up_nv (by omega) (up_nv (by omega) (by assumption)) | exact up_nv (by omega) up_hit | rfl) rfl ?_
  refine g_sipush (p0 := 7) (v := nI 160) dX8_isFull_4 (by decide) rfl ?_
  first | ((with_reducible refine isN2 ?_); refine g_icmpN_lt (tgt := 14) (p1 := 10) dX8_isFull_7 rfl (by omega) (by omega) rfl (fun c_7 => ?_) (fun c_7 => by exfalso; first | omega | contradiction | exact absurd (by assumption) c_7 | (simp_all; done))) | refine g_icmp_lt (tgt := 14) (p1 := 10) dX8_isFull_7 rfl rfl (fun c_7 => ?_) (fun c_7 => by exfalso; first | omega | contradiction | exact absurd (by assumption) c_7 | (simp_all; done))
  refine g_iconst (p0 := 15) (v := nI 0) dX8_isFull_14 rfl rfl ?_
  refine g_ireturn dX8_isFull_15 rfl (by first | rfl | exact bool_narrow (by first | exact Or.inl rfl | exact Or.inr rfl | assumption | (split <;> first | exact Or.inl rfl | exact Or.inr rfl))) (?_)
  exact ⟨rfl, rfl⟩
set_option maxRecDepth 20000 in
set_option maxHeartbeats 2000000 in
theorem lastTime_sp {t s : Nat} {v : Int32} {σ : Sg} (ht : TW t) (hs : σ t 2 = nI s) (hs0 : 0 < s) (hs1 : s ≤ 160) (hv : σ (t + 2) (s - 1) = v) : CM mX8_lastTime [ar t] σ (Ret v σ) := by
  obtain ⟨hT, hR1, hR2⟩ := ht
  refine CM_in (ls := [some (ar t)]) rfl ?_
  refine g_aload_n (p0 := 1) (i := 0) dX8_lastTime_0 rfl rfl rfl ?_
  refine g_getR (p0 := 4) dX8_lastTime_1 fX8_14 (by first | assumption | exact RW.s (by assumption) | exact TW.s (by assumption) | rfl) rfl rfl ?_
  refine g_aload_n (p0 := 5) (i := 0) dX8_lastTime_4 rfl rfl rfl ?_
  refine g_getI (p0 := 8) dX8_lastTime_5 fX8_23 (by first | assumption | exact RW.s (by assumption) | exact TW.s (by assumption) | rfl) rfl (by first | assumption | exact up_hit | exact up_nv (by omega) (by assumption) | exact up_mv (by omega) (by assumption) | exact up_nv (by omega) (up_nv (by omega) (by assumption)) | exact up_nv (by omega) up_hit | rfl) rfl ?_
  refine g_iconst (p0 := 9) (v := nI 1) dX8_lastTime_8 rfl rfl ?_
  first | ((with_reducible refine isN2 ?_); refine g_isubN (p0 := 10) dX8_lastTime_9 (by omega) rfl ?_) | refine g_isub (p0 := 10) dX8_lastTime_9 rfl ?_
  refine g_cV1R (p0 := 13) (r1 := mX7_at) dX8_lastTime_10 lX8_45 vX7_at (by first | assumption | exact RW.s (by assumption) | exact TW.s (by assumption) | rfl) ⟨_, _, rfl⟩ (FITi rfl rfl) (Nat.le_of_ble_eq_true rfl) (at_N (by first | exact ⟨rfl, rfl, by decide⟩ | assumption) (by omega) (by first | assumption | exact up_hit | exact up_nv (by omega) (by assumption) | exact up_mv (by omega) (by assumption) | exact up_nv (by omega) (up_nv (by omega) (by assumption)) | exact up_nv (by omega) up_hit | rfl)) rfl ?_
  refine g_ireturn dX8_lastTime_13 rfl rfl (?_)
  exact ⟨rfl, rfl⟩
/-- strokes ahead of a time: from k on, n strokes left -/
def ahF (τ : Nat → Int32) (x : Int32) : Nat → Nat → Nat
  | 0, k => k
  | n + 1, k => if τ k < x then ahF τ x n (k + 1) else k
theorem ahF_le (τ : Nat → Int32) (x : Int32) : ∀ n k, k ≤ ahF τ x n k ∧ ahF τ x n k ≤ k + n
  | 0, k => ⟨Nat.le_refl k, Nat.le_refl k⟩
  | n + 1, k => by
    rw [ahF]
    split
    · have := ahF_le τ x n (k + 1)
      omega
    · omega
def ah (τ : Nat → Int32) (s : Nat) (x : Int32) : Nat := ahF τ x s 0
theorem ah_le (τ : Nat → Int32) (s : Nat) (x : Int32) : ah τ s x ≤ s := by
  have h := (ahF_le τ x s 0).2
  rw [Nat.zero_add] at h
  exact h
set_option maxRecDepth 20000 in
set_option maxHeartbeats 2000000 in
theorem ahead_loop {t s : Nat} {x : Int32} {σ : Sg} {Q : SP} (ht : TW t) (hs : σ t 2 = nI s) (hs1 : s ≤ 160) (k : Q (some (ai (nI (ah (σ (t + 2)) s x)))) σ) : ∀ m j, j + m = s → ahF (σ (t + 2)) x m j = ah (σ (t + 2)) s x → WM mX8_strokesAhead Q 2 [some (ar t), some (ai x), some (ai (nI j))] [] σ := by
  obtain ⟨hT, hR1, hR2⟩ := ht
  intro m
  induction m with
  | zero =>
    intro j hj hv
    obtain rfl : j = s := by omega
    have e : j = ah (σ (t + 2)) j x := hv
    refine g_iload_n (p0 := 3) (i := 2) dX8_strokesAhead_2 rfl rfl rfl ?_
    refine g_aload_n (p0 := 4) (i := 0) dX8_strokesAhead_3 rfl rfl rfl ?_
    refine g_getI (p0 := 7) dX8_strokesAhead_4 fX8_23 (by first | assumption | exact RW.s (by assumption) | exact TW.s (by assumption) | rfl) rfl (by first | assumption | exact up_hit | exact up_nv (by omega) (by assumption) | exact up_mv (by omega) (by assumption) | exact up_nv (by omega) (up_nv (by omega) (by assumption)) | exact up_nv (by omega) up_hit | rfl) rfl ?_
    first | ((with_reducible refine isN2 ?_); refine g_icmpN_ge (tgt := 28) (p1 := 10) dX8_strokesAhead_7 rfl (by omega) (by omega) rfl (fun c_7 => ?_) (fun c_7 => by exfalso; first | omega | contradiction | exact absurd (by assumption) c_7 | (simp_all; done))) | refine g_icmp_ge (tgt := 28) (p1 := 10) dX8_strokesAhead_7 rfl rfl (fun c_7 => ?_) (fun c_7 => by exfalso; first | omega | contradiction | exact absurd (by assumption) c_7 | (simp_all; done))
    refine g_iload_n (p0 := 29) (i := 2) dX8_strokesAhead_28 rfl rfl rfl ?_
    refine g_ireturn dX8_strokesAhead_29 rfl rfl (?_)
    rw [← e] at k; exact k
  | succ m ih =>
    intro j hj hv
    rw [ahF] at hv
    by_cases hc : σ (t + 2) j < x
    · rw [if_pos hc] at hv
      refine g_iload_n (p0 := 3) (i := 2) dX8_strokesAhead_2 rfl rfl rfl ?_
      refine g_aload_n (p0 := 4) (i := 0) dX8_strokesAhead_3 rfl rfl rfl ?_
      refine g_getI (p0 := 7) dX8_strokesAhead_4 fX8_23 (by first | assumption | exact RW.s (by assumption) | exact TW.s (by assumption) | rfl) rfl (by first | assumption | exact up_hit | exact up_nv (by omega) (by assumption) | exact up_mv (by omega) (by assumption) | exact up_nv (by omega) (up_nv (by omega) (by assumption)) | exact up_nv (by omega) up_hit | rfl) rfl ?_
      first | ((with_reducible refine isN2 ?_); refine g_icmpN_ge (tgt := 28) (p1 := 10) dX8_strokesAhead_7 rfl (by omega) (by omega) rfl (fun c_7 => by exfalso; first | omega | exact Int32.not_le.mpr hc c_7) (fun c_7 => ?_)) | refine g_icmp_ge (tgt := 28) (p1 := 10) dX8_strokesAhead_7 rfl rfl (fun c_7 => by exfalso; first | omega | exact Int32.not_le.mpr hc c_7) (fun c_7 => ?_)
      refine g_aload_n (p0 := 11) (i := 0) dX8_strokesAhead_10 rfl rfl rfl ?_
      refine g_getR (p0 := 14) dX8_strokesAhead_11 fX8_14 (by first | assumption | exact RW.s (by assumption) | exact TW.s (by assumption) | rfl) rfl rfl ?_
      refine g_iload_n (p0 := 15) (i := 2) dX8_strokesAhead_14 rfl rfl rfl ?_
      refine g_cV1R (p0 := 18) (r1 := mX7_at) dX8_strokesAhead_15 lX8_45 vX7_at (by first | assumption | exact RW.s (by assumption) | exact TW.s (by assumption) | rfl) ⟨_, _, rfl⟩ (FITi rfl rfl) (Nat.le_of_ble_eq_true rfl) (at_N (by first | exact ⟨rfl, rfl, by decide⟩ | assumption) (by omega) (by first | assumption | exact up_hit | exact up_nv (by omega) (by assumption) | exact up_mv (by omega) (by assumption) | exact up_nv (by omega) (up_nv (by omega) (by assumption)) | exact up_nv (by omega) up_hit | rfl)) rfl ?_
      refine g_iload_n (p0 := 19) (i := 1) dX8_strokesAhead_18 rfl rfl rfl ?_
      first | ((with_reducible refine isN2 ?_); refine g_icmpN_ge (tgt := 28) (p1 := 22) dX8_strokesAhead_19 rfl (by omega) (by omega) rfl (fun c_19 => by exfalso; first | omega | exact Int32.not_le.mpr hc c_19) (fun c_19 => ?_)) | refine g_icmp_ge (tgt := 28) (p1 := 22) dX8_strokesAhead_19 rfl rfl (fun c_19 => by exfalso; first | omega | exact Int32.not_le.mpr hc c_19) (fun c_19 => ?_)
      first | refine g_iinc1 (p0 := 25) (ls2 := [_, _, _]) dX8_strokesAhead_22 rfl rfl rfl ?_ | refine g_iinc (p0 := 25) (ls2 := [_, _, _]) dX8_strokesAhead_22 rfl rfl rfl rfl ?_
      refine g_goto (tgt := 2) dX8_strokesAhead_25 rfl ?_
      exact ih (j + 1) (by omega) hv
    · rw [if_neg hc] at hv
      refine g_iload_n (p0 := 3) (i := 2) dX8_strokesAhead_2 rfl rfl rfl ?_
      refine g_aload_n (p0 := 4) (i := 0) dX8_strokesAhead_3 rfl rfl rfl ?_
      refine g_getI (p0 := 7) dX8_strokesAhead_4 fX8_23 (by first | assumption | exact RW.s (by assumption) | exact TW.s (by assumption) | rfl) rfl (by first | assumption | exact up_hit | exact up_nv (by omega) (by assumption) | exact up_mv (by omega) (by assumption) | exact up_nv (by omega) (up_nv (by omega) (by assumption)) | exact up_nv (by omega) up_hit | rfl) rfl ?_
      first | ((with_reducible refine isN2 ?_); refine g_icmpN_ge (tgt := 28) (p1 := 10) dX8_strokesAhead_7 rfl (by omega) (by omega) rfl (fun c_7 => by exfalso; first | omega | exact c_7 (Int32.not_lt.mp hc)) (fun c_7 => ?_)) | refine g_icmp_ge (tgt := 28) (p1 := 10) dX8_strokesAhead_7 rfl rfl (fun c_7 => by exfalso; first | omega | exact c_7 (Int32.not_lt.mp hc)) (fun c_7 => ?_)
      refine g_aload_n (p0 := 11) (i := 0) dX8_strokesAhead_10 rfl rfl rfl ?_
      refine g_getR (p0 := 14) dX8_strokesAhead_11 fX8_14 (by first | assumption | exact RW.s (by assumption) | exact TW.s (by assumption) | rfl) rfl rfl ?_
      refine g_iload_n (p0 := 15) (i := 2) dX8_strokesAhead_14 rfl rfl rfl ?_
      refine g_cV1R (p0 := 18) (r1 := mX7_at) dX8_strokesAhead_15 lX8_45 vX7_at (by first | assumption | exact RW.s (by assumption) | exact TW.s (by assumption) | rfl) ⟨_, _, rfl⟩ (FITi rfl rfl) (Nat.le_of_ble_eq_true rfl) (at_N (by first | exact ⟨rfl, rfl, by decide⟩ | assumption) (by omega) (by first | assumption | exact up_hit | exact up_nv (by omega) (by assumption) | exact up_mv (by omega) (by assumption) | exact up_nv (by omega) (up_nv (by omega) (by assumption)) | exact up_nv (by omega) up_hit | rfl)) rfl ?_
      refine g_iload_n (p0 := 19) (i := 1) dX8_strokesAhead_18 rfl rfl rfl ?_
      first | ((with_reducible refine isN2 ?_); refine g_icmpN_ge (tgt := 28) (p1 := 22) dX8_strokesAhead_19 rfl (by omega) (by omega) rfl (fun c_19 => ?_) (fun c_19 => by exfalso; first | omega | exact c_19 (Int32.not_lt.mp hc))) | refine g_icmp_ge (tgt := 28) (p1 := 22) dX8_strokesAhead_19 rfl rfl (fun c_19 => ?_) (fun c_19 => by exfalso; first | omega | exact c_19 (Int32.not_lt.mp hc))
      refine g_iload_n (p0 := 29) (i := 2) dX8_strokesAhead_28 rfl rfl rfl ?_
      refine g_ireturn dX8_strokesAhead_29 rfl rfl (?_)
      rw [← hv] at k; exact k
set_option maxRecDepth 20000 in
set_option maxHeartbeats 2000000 in
theorem ahead_sp {t s : Nat} {x : Int32} {σ : Sg} (ht : TW t) (hs : σ t 2 = nI s) (hs1 : s ≤ 160) : CM mX8_strokesAhead [ar t, ai x] σ (Ret (nI (ah (σ (t + 2)) s x)) σ) := by
  refine CM_in (ls := [some (ar t), some (ai x), none]) rfl ?_
  refine g_iconst (p0 := 1) (v := nI 0) dX8_strokesAhead_0 rfl rfl ?_
  refine g_istore_n (p0 := 2) (i := 2) (ls2 := [_, _, _]) dX8_strokesAhead_1 rfl (Nat.le_of_ble_eq_true rfl) rfl rfl ?_
  exact ahead_loop ht hs hs1 ⟨rfl, rfl⟩ s 0 (by omega) rfl
set_option maxRecDepth 20000 in
set_option maxHeartbeats 2000000 in
theorem hasStrokeAt_T {t s : Nat} {x : Int32} {σ : Sg} (ht : TW t) (hs : σ t 2 = nI s) (hs1 : s ≤ 160) (h1 : ah (σ (t + 2)) s x < s) (h2 : σ (t + 2) (ah (σ (t + 2)) s x) = x) : CM mX8_hasStrokeAt [ar t, ai x] σ (Ret (nI 1) σ) := by
  have ht0 := ht
  obtain ⟨hT, hR1, hR2⟩ := ht
  refine CM_in (ls := [some (ar t), some (ai x), none]) rfl ?_
  refine g_aload_n (p0 := 1) (i := 0) dX8_hasStrokeAt_0 rfl rfl rfl ?_
  refine g_iload_n (p0 := 2) (i := 1) dX8_hasStrokeAt_1 rfl rfl rfl ?_
  refine g_cV1R (p0 := 5) (r1 := mX8_strokesAhead) dX8_hasStrokeAt_2 lX8_55 vX8_strokesAhead (by first | assumption | exact RW.s (by assumption) | exact TW.s (by assumption) | rfl) ⟨_, _, rfl⟩ (FITi rfl rfl) (Nat.le_of_ble_eq_true rfl) (ahead_sp (by first | exact TW1 | exact TW6 | assumption) (by first | assumption | exact up_hit | exact up_nv (by omega) (by assumption) | exact up_mv (by omega) (by assumption) | exact up_nv (by omega) (up_nv (by omega) (by assumption)) | exact up_nv (by omega) up_hit | rfl) (by first | assumption | omega)) rfl ?_
  refine g_istore_n (p0 := 6) (i := 2) (ls2 := [_, _, _]) dX8_hasStrokeAt_5 rfl (Nat.le_of_ble_eq_true rfl) rfl rfl ?_
  refine g_iload_n (p0 := 7) (i := 2) dX8_hasStrokeAt_6 rfl rfl rfl ?_
  refine g_aload_n (p0 := 8) (i := 0) dX8_hasStrokeAt_7 rfl rfl rfl ?_
  refine g_getI (p0 := 11) dX8_hasStrokeAt_8 fX8_23 (by first | assumption | exact RW.s (by assumption) | exact TW.s (by assumption) | rfl) rfl (by first | assumption | exact up_hit | exact up_nv (by omega) (by assumption) | exact up_mv (by omega) (by assumption) | exact up_nv (by omega) (up_nv (by omega) (by assumption)) | exact up_nv (by omega) up_hit | rfl) rfl ?_
  first | ((with_reducible refine isN2 ?_); refine g_icmpN_ge (tgt := 30) (p1 := 14) dX8_hasStrokeAt_11 rfl (by omega) (by omega) rfl (fun c_11 => by exfalso; first | omega | exact absurd rfl c_11) (fun c_11 => ?_)) | refine g_icmp_ge (tgt := 30) (p1 := 14) dX8_hasStrokeAt_11 rfl rfl (fun c_11 => by exfalso; first | omega | exact absurd rfl c_11) (fun c_11 => ?_)
  refine g_aload_n (p0 := 15) (i := 0) dX8_hasStrokeAt_14 rfl rfl rfl ?_
  refine g_getR (p0 := 18) dX8_hasStrokeAt_15 fX8_14 (by first | assumption | exact RW.s (by assumption) | exact TW.s (by assumption) | rfl) rfl rfl ?_
  refine g_iload_n (p0 := 19) (i := 2) dX8_hasStrokeAt_18 rfl rfl rfl ?_
  refine g_cV1R (p0 := 22) (r1 := mX7_at) dX8_hasStrokeAt_19 lX8_45 vX7_at (by first | assumption | exact RW.s (by assumption) | exact TW.s (by assumption) | rfl) ⟨_, _, rfl⟩ (FITi rfl rfl) (Nat.le_of_ble_eq_true rfl) (at_N (by first | exact ⟨rfl, rfl, by decide⟩ | assumption) (by omega) (by first | assumption | exact up_hit | exact up_nv (by omega) (by assumption) | exact up_mv (by omega) (by assumption) | exact up_nv (by omega) (up_nv (by omega) (by assumption)) | exact up_nv (by omega) up_hit | rfl)) rfl ?_
  refine g_iload_n (p0 := 23) (i := 1) dX8_hasStrokeAt_22 rfl rfl rfl ?_
  first | ((with_reducible refine isN2 ?_); refine g_icmpN_ne (tgt := 30) (p1 := 26) dX8_hasStrokeAt_23 rfl (by omega) (by omega) rfl (fun c_23 => by exfalso; first | omega | exact absurd rfl c_23) (fun c_23 => ?_)) | refine g_icmp_ne (tgt := 30) (p1 := 26) dX8_hasStrokeAt_23 rfl rfl (fun c_23 => by exfalso; first | omega | exact absurd rfl c_23) (fun c_23 => ?_)
  refine g_iconst (p0 := 27) (v := nI 1) dX8_hasStrokeAt_26 rfl rfl ?_
  refine g_goto (tgt := 31) dX8_hasStrokeAt_27 rfl ?_
  refine g_ireturn dX8_hasStrokeAt_31 rfl (by first | rfl | exact bool_narrow (by first | exact Or.inl rfl | exact Or.inr rfl | assumption | (split <;> first | exact Or.inl rfl | exact Or.inr rfl))) (?_)
  exact ⟨rfl, rfl⟩
set_option maxRecDepth 20000 in
set_option maxHeartbeats 2000000 in
theorem hasStrokeAt_F {t s : Nat} {x : Int32} {σ : Sg} (ht : TW t) (hs : σ t 2 = nI s) (hs1 : s ≤ 160) (h1 : ah (σ (t + 2)) s x < s → ¬ σ (t + 2) (ah (σ (t + 2)) s x) = x) : CM mX8_hasStrokeAt [ar t, ai x] σ (Ret (nI 0) σ) := by
  have ht0 := ht
  obtain ⟨hT, hR1, hR2⟩ := ht
  have hle := ah_le (σ (t + 2)) s x
  by_cases hlt : ah (σ (t + 2)) s x < s
  · have hne := h1 hlt
    refine CM_in (ls := [some (ar t), some (ai x), none]) rfl ?_
    refine g_aload_n (p0 := 1) (i := 0) dX8_hasStrokeAt_0 rfl rfl rfl ?_
    refine g_iload_n (p0 := 2) (i := 1) dX8_hasStrokeAt_1 rfl rfl rfl ?_
    refine g_cV1R (p0 := 5) (r1 := mX8_strokesAhead) dX8_hasStrokeAt_2 lX8_55 vX8_strokesAhead (by first | assumption | exact RW.s (by assumption) | exact TW.s (by assumption) | rfl) ⟨_, _, rfl⟩ (FITi rfl rfl) (Nat.le_of_ble_eq_true rfl) (ahead_sp (by first | exact TW1 | exact TW6 | assumption) (by first | assumption | exact up_hit | exact up_nv (by omega) (by assumption) | exact up_mv (by omega) (by assumption) | exact up_nv (by omega) (up_nv (by omega) (by assumption)) | exact up_nv (by omega) up_hit | rfl) (by first | assumption | omega)) rfl ?_
    refine g_istore_n (p0 := 6) (i := 2) (ls2 := [_, _, _]) dX8_hasStrokeAt_5 rfl (Nat.le_of_ble_eq_true rfl) rfl rfl ?_
    refine g_iload_n (p0 := 7) (i := 2) dX8_hasStrokeAt_6 rfl rfl rfl ?_
    refine g_aload_n (p0 := 8) (i := 0) dX8_hasStrokeAt_7 rfl rfl rfl ?_
    refine g_getI (p0 := 11) dX8_hasStrokeAt_8 fX8_23 (by first | assumption | exact RW.s (by assumption) | exact TW.s (by assumption) | rfl) rfl (by first | assumption | exact up_hit | exact up_nv (by omega) (by assumption) | exact up_mv (by omega) (by assumption) | exact up_nv (by omega) (up_nv (by omega) (by assumption)) | exact up_nv (by omega) up_hit | rfl) rfl ?_
    first | ((with_reducible refine isN2 ?_); refine g_icmpN_ge (tgt := 30) (p1 := 14) dX8_hasStrokeAt_11 rfl (by omega) (by omega) rfl (fun c_11 => by exfalso; first | omega | exact absurd c_11 hne) (fun c_11 => ?_)) | refine g_icmp_ge (tgt := 30) (p1 := 14) dX8_hasStrokeAt_11 rfl rfl (fun c_11 => by exfalso; first | omega | exact absurd c_11 hne) (fun c_11 => ?_)
    refine g_aload_n (p0 := 15) (i := 0) dX8_hasStrokeAt_14 rfl rfl rfl ?_
    refine g_getR (p0 := 18) dX8_hasStrokeAt_15 fX8_14 (by first | assumption | exact RW.s (by assumption) | exact TW.s (by assumption) | rfl) rfl rfl ?_
    refine g_iload_n (p0 := 19) (i := 2) dX8_hasStrokeAt_18 rfl rfl rfl ?_
    refine g_cV1R (p0 := 22) (r1 := mX7_at) dX8_hasStrokeAt_19 lX8_45 vX7_at (by first | assumption | exact RW.s (by assumption) | exact TW.s (by assumption) | rfl) ⟨_, _, rfl⟩ (FITi rfl rfl) (Nat.le_of_ble_eq_true rfl) (at_N (by first | exact ⟨rfl, rfl, by decide⟩ | assumption) (by omega) (by first | assumption | exact up_hit | exact up_nv (by omega) (by assumption) | exact up_mv (by omega) (by assumption) | exact up_nv (by omega) (up_nv (by omega) (by assumption)) | exact up_nv (by omega) up_hit | rfl)) rfl ?_
    refine g_iload_n (p0 := 23) (i := 1) dX8_hasStrokeAt_22 rfl rfl rfl ?_
    first | ((with_reducible refine isN2 ?_); refine g_icmpN_ne (tgt := 30) (p1 := 26) dX8_hasStrokeAt_23 rfl (by omega) (by omega) rfl (fun c_23 => ?_) (fun c_23 => by exfalso; first | omega | exact absurd c_23 hne)) | refine g_icmp_ne (tgt := 30) (p1 := 26) dX8_hasStrokeAt_23 rfl rfl (fun c_23 => ?_) (fun c_23 => by exfalso; first | omega | exact absurd c_23 hne)
    refine g_iconst (p0 := 31) (v := nI 0) dX8_hasStrokeAt_30 rfl rfl ?_
    refine g_ireturn dX8_hasStrokeAt_31 rfl (by first | rfl | exact bool_narrow (by first | exact Or.inl rfl | exact Or.inr rfl | assumption | (split <;> first | exact Or.inl rfl | exact Or.inr rfl))) (?_)
    exact ⟨rfl, rfl⟩
  refine CM_in (ls := [some (ar t), some (ai x), none]) rfl ?_
  refine g_aload_n (p0 := 1) (i := 0) dX8_hasStrokeAt_0 rfl rfl rfl ?_
  refine g_iload_n (p0 := 2) (i := 1) dX8_hasStrokeAt_1 rfl rfl rfl ?_
  refine g_cV1R (p0 := 5) (r1 := mX8_strokesAhead) dX8_hasStrokeAt_2 lX8_55 vX8_strokesAhead (by first | assumption | exact RW.s (by assumption) | exact TW.s (by assumption) | rfl) ⟨_, _, rfl⟩ (FITi rfl rfl) (Nat.le_of_ble_eq_true rfl) (ahead_sp (by first | exact TW1 | exact TW6 | assumption) (by first | assumption | exact up_hit | exact up_nv (by omega) (by assumption) | exact up_mv (by omega) (by assumption) | exact up_nv (by omega) (up_nv (by omega) (by assumption)) | exact up_nv (by omega) up_hit | rfl) (by first | assumption | omega)) rfl ?_
  refine g_istore_n (p0 := 6) (i := 2) (ls2 := [_, _, _]) dX8_hasStrokeAt_5 rfl (Nat.le_of_ble_eq_true rfl) rfl rfl ?_
  refine g_iload_n (p0 := 7) (i := 2) dX8_hasStrokeAt_6 rfl rfl rfl ?_
  refine g_aload_n (p0 := 8) (i := 0) dX8_hasStrokeAt_7 rfl rfl rfl ?_
  refine g_getI (p0 := 11) dX8_hasStrokeAt_8 fX8_23 (by first | assumption | exact RW.s (by assumption) | exact TW.s (by assumption) | rfl) rfl (by first | assumption | exact up_hit | exact up_nv (by omega) (by assumption) | exact up_mv (by omega) (by assumption) | exact up_nv (by omega) (up_nv (by omega) (by assumption)) | exact up_nv (by omega) up_hit | rfl) rfl ?_
  first | ((with_reducible refine isN2 ?_); refine g_icmpN_ge (tgt := 30) (p1 := 14) dX8_hasStrokeAt_11 rfl (by omega) (by omega) rfl (fun c_11 => ?_) (fun c_11 => by exfalso; first | omega | contradiction | exact absurd (by assumption) c_11 | (simp_all; done))) | refine g_icmp_ge (tgt := 30) (p1 := 14) dX8_hasStrokeAt_11 rfl rfl (fun c_11 => ?_) (fun c_11 => by exfalso; first | omega | contradiction | exact absurd (by assumption) c_11 | (simp_all; done))
  refine g_iconst (p0 := 31) (v := nI 0) dX8_hasStrokeAt_30 rfl rfl ?_
  refine g_ireturn dX8_hasStrokeAt_31 rfl (by first | rfl | exact bool_narrow (by first | exact Or.inl rfl | exact Or.inr rfl | assumption | (split <;> first | exact Or.inl rfl | exact Or.inr rfl))) (?_)
  exact ⟨rfl, rfl⟩
/-- a time put in at place p, the later ones behind it -/
def insR (τ : Nat → Int32) (s p : Nat) (x : Int32) : Nat → Int32 := fun k => if k < p then τ k else if k = p then x else if k ≤ s then τ (k - 1) else τ k
/-- the shift that makes room: done from s down to j -/
def shU (τ : Nat → Int32) (s j : Nat) : Nat → Int32 := fun k => if j < k ∧ k ≤ s then τ (k - 1) else τ k
/-- the one at place p taken out -/
def remR (τ : Nat → Int32) (s p : Nat) : Nat → Int32 := fun k => if p ≤ k ∧ k + 1 < s then τ (k + 1) else τ k
/-- the shift that closes up: done from p up to j -/
def shD (τ : Nat → Int32) (p j : Nat) : Nat → Int32 := fun k => if p ≤ k ∧ k < j then τ (k + 1) else τ k
theorem shU_0 {τ : Nat → Int32} {s : Nat} : shU τ s s = τ := by
  funext k
  have : ¬ (s < k ∧ k ≤ s) := by omega
  simp only [shU, if_neg this]
theorem shU_step {τ : Nat → Int32} {s j : Nat} (h1 : 1 ≤ j) (h2 : j ≤ s) : upd (shU τ s j) j (τ (j - 1)) = shU τ s (j - 1) := by
  funext k
  by_cases hk : k = j
  · subst hk
    have : (k - 1 < k ∧ k ≤ s) := by omega
    simp only [upd, shU, if_pos this, if_true]
  · have : (j - 1 < k ∧ k ≤ s) ↔ (j < k ∧ k ≤ s) := by omega
    simp only [upd, shU, if_neg hk, this]
theorem shU_end {τ : Nat → Int32} {s p : Nat} {x : Int32} (h : p ≤ s) : upd (shU τ s p) p x = insR τ s p x := by
  funext k
  by_cases hk : k = p
  · subst hk
    simp [upd, insR]
  · by_cases h2 : k < p
    · have : ¬ (p < k ∧ k ≤ s) := by omega
      simp only [upd, shU, insR, if_neg hk, if_neg this, if_pos h2]
    · by_cases h3 : k ≤ s
      · have : (p < k ∧ k ≤ s) := by omega
        simp only [upd, shU, insR, if_neg hk, if_pos this, if_neg h2, if_pos h3]
      · have : ¬ (p < k ∧ k ≤ s) := by omega
        simp only [upd, shU, insR, if_neg hk, if_neg this, if_neg h2, if_neg h3]
theorem shD_0 {τ : Nat → Int32} {p : Nat} : shD τ p p = τ := by
  funext k
  have : ¬ (p ≤ k ∧ k < p) := by omega
  simp only [shD, if_neg this]
theorem shD_step {τ : Nat → Int32} {p j : Nat} (h1 : p ≤ j) : upd (shD τ p j) j (τ (j + 1)) = shD τ p (j + 1) := by
  funext k
  by_cases hk : k = j
  · subst hk
    have : (p ≤ k ∧ k < k + 1) := by omega
    simp only [upd, shD, if_pos this, if_true]
  · have : (p ≤ k ∧ k < j + 1) ↔ (p ≤ k ∧ k < j) := by omega
    simp only [upd, shD, if_neg hk, this]
theorem shD_end {τ : Nat → Int32} {s p : Nat} : shD τ p (s - 1) = remR τ s p := by
  funext k
  have : (p ≤ k ∧ k < s - 1) ↔ (p ≤ k ∧ k + 1 < s) := by omega
  simp only [shD, remR, this]
set_option maxRecDepth 20000 in
set_option maxHeartbeats 2000000 in
theorem addStroke_loop {t s p : Nat} {x : Int32} {σ : Sg} {Q : SP} (ht : TW t) (hs : σ t 2 = nI s) (hs1 : s < 160) (hp : p ≤ s) (k : Q (some (ai (nI p))) (setR (setR σ (t + 2) (insR (σ (t + 2)) s p x)) t (upd (σ t) 2 (nI (s + 1))))) : ∀ m j, p + m = j → j ≤ s → WM mX8_addStroke Q 11 [some (ar t), some (ai x), some (ai (nI p)), some (ai (nI j))] [] (setR σ (t + 2) (shU (σ (t + 2)) s j)) := by
  obtain ⟨hT, hR1, hR2⟩ := ht
  intro m
  induction m with
  | zero =>
    intro j hj hjs
    obtain rfl : p = j := by omega
    have e2 : setR σ (t + 2) (shU (σ (t + 2)) s p) t 2 = nI s := by rw [setR_ne (by omega), hs]
    refine g_iload_n (p0 := 12) (i := 3) dX8_addStroke_11 rfl rfl rfl ?_
    refine g_iload_n (p0 := 13) (i := 2) dX8_addStroke_12 rfl rfl rfl ?_
    first | ((with_reducible refine isN2 ?_); refine g_icmpN_le (tgt := 40) (p1 := 16) dX8_addStroke_13 rfl (by omega) (by omega) rfl (fun c_13 => ?_) (fun c_13 => by exfalso; first | omega | contradiction | exact absurd (by assumption) c_13 | (simp_all; done))) | refine g_icmp_le (tgt := 40) (p1 := 16) dX8_addStroke_13 rfl rfl (fun c_13 => ?_) (fun c_13 => by exfalso; first | omega | contradiction | exact absurd (by assumption) c_13 | (simp_all; done))
    refine g_aload_n (p0 := 41) (i := 0) dX8_addStroke_40 rfl rfl rfl ?_
    refine g_getR (p0 := 44) dX8_addStroke_41 fX8_14 (by first | assumption | exact RW.s (by assumption) | exact TW.s (by assumption) | rfl) rfl rfl ?_
    refine g_iload_n (p0 := 45) (i := 2) dX8_addStroke_44 rfl rfl rfl ?_
    refine g_iload_n (p0 := 46) (i := 1) dX8_addStroke_45 rfl rfl rfl ?_
    refine g_cV2V (p0 := 49) (r1 := mX7_put) dX8_addStroke_46 lX8_37 vX7_put (by first | assumption | exact RW.s (by assumption) | exact TW.s (by assumption) | rfl) ⟨_, _, rfl⟩ (FITi rfl rfl) (Nat.le_of_ble_eq_true rfl) (put_N (by first | exact ⟨rfl, rfl, by decide⟩ | assumption) (by omega)) rfl ?_
    refine g_aload_n (p0 := 50) (i := 0) dX8_addStroke_49 rfl rfl rfl ?_
    refine g_dup (p0 := 51) dX8_addStroke_50 rfl ?_
    refine g_getI (p0 := 54) dX8_addStroke_51 fX8_23 (by first | assumption | exact RW.s (by assumption) | exact TW.s (by assumption) | rfl) rfl (by first | assumption | exact up_hit | exact up_nv (by omega) (by assumption) | exact up_mv (by omega) (by assumption) | exact up_nv (by omega) (up_nv (by omega) (by assumption)) | exact up_nv (by omega) up_hit | rfl) rfl ?_
    refine g_iconst (p0 := 55) (v := nI 1) dX8_addStroke_54 rfl rfl ?_
    first | ((with_reducible refine isN2 ?_); refine g_iaddN (p0 := 56) dX8_addStroke_55 rfl ?_) | refine g_iadd (p0 := 56) dX8_addStroke_55 rfl ?_
    refine g_put (p0 := 59) dX8_addStroke_56 fX8_23 (by first | assumption | exact RW.s (by assumption) | exact TW.s (by assumption) | rfl) rfl nX8_2 (pX8_2 _) rfl ?_
    refine g_iload_n (p0 := 60) (i := 2) dX8_addStroke_59 rfl rfl rfl ?_
    refine g_ireturn dX8_addStroke_60 rfl rfl (?_)
    have e3 : up (up (setR σ (t + 2) (shU (σ (t + 2)) s p)) (t + 2) p x) t 2 (nI (s + 1)) = setR (setR σ (t + 2) (insR (σ (t + 2)) s p x)) t (upd (σ t) 2 (nI (s + 1))) := by
      rw [up_setR, up_setR, setR_setR, setR_hit, shU_end hp, setR_ne (by omega)]
    rw [e3]
    exact k
  | succ m ih =>
    intro j hj hjs
    have e2 : setR σ (t + 2) (shU (σ (t + 2)) s j) (t + 2) (j - 1) = σ (t + 2) (j - 1) := by
      rw [setR_hit]
      have : ¬ (j < j - 1 ∧ j - 1 ≤ s) := by omega
      simp only [shU, if_neg this]
    refine g_iload_n (p0 := 12) (i := 3) dX8_addStroke_11 rfl rfl rfl ?_
    refine g_iload_n (p0 := 13) (i := 2) dX8_addStroke_12 rfl rfl rfl ?_
    first | ((with_reducible refine isN2 ?_); refine g_icmpN_le (tgt := 40) (p1 := 16) dX8_addStroke_13 rfl (by omega) (by omega) rfl (fun c_13 => by exfalso; first | omega | contradiction | exact absurd (by assumption) c_13 | (simp_all; done)) (fun c_13 => ?_)) | refine g_icmp_le (tgt := 40) (p1 := 16) dX8_addStroke_13 rfl rfl (fun c_13 => by exfalso; first | omega | contradiction | exact absurd (by assumption) c_13 | (simp_all; done)) (fun c_13 => ?_)
    refine g_aload_n (p0 := 17) (i := 0) dX8_addStroke_16 rfl rfl rfl ?_
    refine g_getR (p0 := 20) dX8_addStroke_17 fX8_14 (by first | assumption | exact RW.s (by assumption) | exact TW.s (by assumption) | rfl) rfl rfl ?_
    refine g_iload_n (p0 := 21) (i := 3) dX8_addStroke_20 rfl rfl rfl ?_
    refine g_aload_n (p0 := 22) (i := 0) dX8_addStroke_21 rfl rfl rfl ?_
    refine g_getR (p0 := 25) dX8_addStroke_22 fX8_14 (by first | assumption | exact RW.s (by assumption) | exact TW.s (by assumption) | rfl) rfl rfl ?_
    refine g_iload_n (p0 := 26) (i := 3) dX8_addStroke_25 rfl rfl rfl ?_
    refine g_iconst (p0 := 27) (v := nI 1) dX8_addStroke_26 rfl rfl ?_
    first | ((with_reducible refine isN2 ?_); refine g_isubN (p0 := 28) dX8_addStroke_27 (by omega) rfl ?_) | refine g_isub (p0 := 28) dX8_addStroke_27 rfl ?_
    refine g_cV1R (p0 := 31) (r1 := mX7_at) dX8_addStroke_28 lX8_45 vX7_at (by first | assumption | exact RW.s (by assumption) | exact TW.s (by assumption) | rfl) ⟨_, _, rfl⟩ (FITi rfl rfl) (Nat.le_of_ble_eq_true rfl) (at_N (by first | exact ⟨rfl, rfl, by decide⟩ | assumption) (by omega) (by first | assumption | exact up_hit | exact up_nv (by omega) (by assumption) | exact up_mv (by omega) (by assumption) | exact up_nv (by omega) (up_nv (by omega) (by assumption)) | exact up_nv (by omega) up_hit | rfl)) rfl ?_
    refine g_cV2V (p0 := 34) (r1 := mX7_put) dX8_addStroke_31 lX8_37 vX7_put (by first | assumption | exact RW.s (by assumption) | exact TW.s (by assumption) | rfl) ⟨_, _, rfl⟩ (FITi rfl rfl) (Nat.le_of_ble_eq_true rfl) (put_N (by first | exact ⟨rfl, rfl, by decide⟩ | assumption) (by omega)) rfl ?_
    first | refine g_iincM (p0 := 37) (ls2 := [_, _, _, _]) dX8_addStroke_34 rfl (by omega) rfl rfl ?_ | refine g_iinc (p0 := 37) (ls2 := [_, _, _, _]) dX8_addStroke_34 rfl rfl rfl rfl ?_
    refine g_goto (tgt := 11) dX8_addStroke_37 rfl ?_
    have e3 : up (setR σ (t + 2) (shU (σ (t + 2)) s j)) (t + 2) j (σ (t + 2) (j - 1)) = setR σ (t + 2) (shU (σ (t + 2)) s (j - 1)) := by
      rw [up_setR, setR_setR, setR_hit, shU_step (by omega) hjs]
    rw [e3]
    exact ih (j - 1) (by omega) (by omega)
set_option maxRecDepth 20000 in
set_option maxHeartbeats 2000000 in
theorem addStroke_sp {t s : Nat} {x : Int32} {σ : Sg} (ht : TW t) (hs : σ t 2 = nI s) (hs1 : s < 160) : CM mX8_addStroke [ar t, ai x] σ (Ret (nI (ah (σ (t + 2)) s x)) (setR (setR σ (t + 2) (insR (σ (t + 2)) s (ah (σ (t + 2)) s x) x)) t (upd (σ t) 2 (nI (s + 1))))) := by
  have ht0 := ht
  obtain ⟨hT, hR1, hR2⟩ := ht
  have hp := ah_le (σ (t + 2)) s x
  refine CM_in (ls := [some (ar t), some (ai x), none, none]) rfl ?_
  refine g_aload_n (p0 := 1) (i := 0) dX8_addStroke_0 rfl rfl rfl ?_
  refine g_iload_n (p0 := 2) (i := 1) dX8_addStroke_1 rfl rfl rfl ?_
  refine g_cV1R (p0 := 5) (r1 := mX8_strokesAhead) dX8_addStroke_2 lX8_55 vX8_strokesAhead (by first | assumption | exact RW.s (by assumption) | exact TW.s (by assumption) | rfl) ⟨_, _, rfl⟩ (FITi rfl rfl) (Nat.le_of_ble_eq_true rfl) (ahead_sp (by first | exact TW1 | exact TW6 | assumption) (by first | assumption | exact up_hit | exact up_nv (by omega) (by assumption) | exact up_mv (by omega) (by assumption) | exact up_nv (by omega) (up_nv (by omega) (by assumption)) | exact up_nv (by omega) up_hit | rfl) (by first | assumption | omega)) rfl ?_
  refine g_istore_n (p0 := 6) (i := 2) (ls2 := [_, _, _, _]) dX8_addStroke_5 rfl (Nat.le_of_ble_eq_true rfl) rfl rfl ?_
  refine g_aload_n (p0 := 7) (i := 0) dX8_addStroke_6 rfl rfl rfl ?_
  refine g_getI (p0 := 10) dX8_addStroke_7 fX8_23 (by first | assumption | exact RW.s (by assumption) | exact TW.s (by assumption) | rfl) rfl (by first | assumption | exact up_hit | exact up_nv (by omega) (by assumption) | exact up_mv (by omega) (by assumption) | exact up_nv (by omega) (up_nv (by omega) (by assumption)) | exact up_nv (by omega) up_hit | rfl) rfl ?_
  refine g_istore_n (p0 := 11) (i := 3) (ls2 := [_, _, _, _]) dX8_addStroke_10 rfl (Nat.le_of_ble_eq_true rfl) rfl rfl ?_
  have h := addStroke_loop (x := x) (σ := σ) (Q := Ret (nI (ah (σ (t + 2)) s x)) (setR (setR σ (t + 2) (insR (σ (t + 2)) s (ah (σ (t + 2)) s x) x)) t (upd (σ t) 2 (nI (s + 1))))) ht0 hs hs1 hp ⟨rfl, rfl⟩ (s - ah (σ (t + 2)) s x) s (by omega) (by omega)
  rw [shU_0, setR_id rfl] at h
  exact h
set_option maxRecDepth 20000 in
set_option maxHeartbeats 2000000 in
theorem removeStroke_loop {t s p : Nat} {σ : Sg} {Q : SP} (ht : TW t) (hs : σ t 2 = nI s) (hs1 : s ≤ 160) (hp : p < s) (k : Q none (setR (setR σ (t + 2) (remR (σ (t + 2)) s p)) t (upd (σ t) 2 (nI (s - 1))))) : ∀ m j, j + m = s - 1 → p ≤ j → WM mX8_removeStroke Q 2 [some (ar t), some (ai (nI p)), some (ai (nI j))] [] (setR σ (t + 2) (shD (σ (t + 2)) p j)) := by
  obtain ⟨hT, hR1, hR2⟩ := ht
  intro m
  induction m with
  | zero =>
    intro j hj hjs
    obtain rfl : s - 1 = j := by omega
    have e2 : setR σ (t + 2) (shD (σ (t + 2)) p (s - 1)) t 2 = nI s := by rw [setR_ne (by omega), hs]
    refine g_iload_n (p0 := 3) (i := 2) dX8_removeStroke_2 rfl rfl rfl ?_
    refine g_aload_n (p0 := 4) (i := 0) dX8_removeStroke_3 rfl rfl rfl ?_
    refine g_getI (p0 := 7) dX8_removeStroke_4 fX8_23 (by first | assumption | exact RW.s (by assumption) | exact TW.s (by assumption) | rfl) rfl (by first | assumption | exact up_hit | exact up_nv (by omega) (by assumption) | exact up_mv (by omega) (by assumption) | exact up_nv (by omega) (up_nv (by omega) (by assumption)) | exact up_nv (by omega) up_hit | rfl) rfl ?_
    refine g_iconst (p0 := 8) (v := nI 1) dX8_removeStroke_7 rfl rfl ?_
    first | ((with_reducible refine isN2 ?_); refine g_isubN (p0 := 9) dX8_removeStroke_8 (by omega) rfl ?_) | refine g_isub (p0 := 9) dX8_removeStroke_8 rfl ?_
    first | ((with_reducible refine isN2 ?_); refine g_icmpN_ge (tgt := 36) (p1 := 12) dX8_removeStroke_9 rfl (by omega) (by omega) rfl (fun c_9 => ?_) (fun c_9 => by exfalso; first | omega | contradiction | exact absurd (by assumption) c_9 | (simp_all; done))) | refine g_icmp_ge (tgt := 36) (p1 := 12) dX8_removeStroke_9 rfl rfl (fun c_9 => ?_) (fun c_9 => by exfalso; first | omega | contradiction | exact absurd (by assumption) c_9 | (simp_all; done))
    refine g_aload_n (p0 := 37) (i := 0) dX8_removeStroke_36 rfl rfl rfl ?_
    refine g_dup (p0 := 38) dX8_removeStroke_37 rfl ?_
    refine g_getI (p0 := 41) dX8_removeStroke_38 fX8_23 (by first | assumption | exact RW.s (by assumption) | exact TW.s (by assumption) | rfl) rfl (by first | assumption | exact up_hit | exact up_nv (by omega) (by assumption) | exact up_mv (by omega) (by assumption) | exact up_nv (by omega) (up_nv (by omega) (by assumption)) | exact up_nv (by omega) up_hit | rfl) rfl ?_
    refine g_iconst (p0 := 42) (v := nI 1) dX8_removeStroke_41 rfl rfl ?_
    first | ((with_reducible refine isN2 ?_); refine g_isubN (p0 := 43) dX8_removeStroke_42 (by omega) rfl ?_) | refine g_isub (p0 := 43) dX8_removeStroke_42 rfl ?_
    refine g_put (p0 := 46) dX8_removeStroke_43 fX8_23 (by first | assumption | exact RW.s (by assumption) | exact TW.s (by assumption) | rfl) rfl nX8_2 (pX8_2 _) rfl ?_
    refine g_return dX8_removeStroke_46 rfl ?_
    have e3 : up (setR σ (t + 2) (shD (σ (t + 2)) p (s - 1))) t 2 (nI (s - 1)) = setR (setR σ (t + 2) (remR (σ (t + 2)) s p)) t (upd (σ t) 2 (nI (s - 1))) := by
      rw [up_setR, shD_end, setR_ne (by omega)]
    rw [e3]
    exact k
  | succ m ih =>
    intro j hj hjs
    have e1 : setR σ (t + 2) (shD (σ (t + 2)) p j) t 2 = nI s := by rw [setR_ne (by omega), hs]
    have e2 : setR σ (t + 2) (shD (σ (t + 2)) p j) (t + 2) (j + 1) = σ (t + 2) (j + 1) := by
      rw [setR_hit]
      have : ¬ (p ≤ j + 1 ∧ j + 1 < j) := by omega
      simp only [shD, if_neg this]
    refine g_iload_n (p0 := 3) (i := 2) dX8_removeStroke_2 rfl rfl rfl ?_
    refine g_aload_n (p0 := 4) (i := 0) dX8_removeStroke_3 rfl rfl rfl ?_
    refine g_getI (p0 := 7) dX8_removeStroke_4 fX8_23 (by first | assumption | exact RW.s (by assumption) | exact TW.s (by assumption) | rfl) rfl (by first | assumption | exact up_hit | exact up_nv (by omega) (by assumption) | exact up_mv (by omega) (by assumption) | exact up_nv (by omega) (up_nv (by omega) (by assumption)) | exact up_nv (by omega) up_hit | rfl) rfl ?_
    refine g_iconst (p0 := 8) (v := nI 1) dX8_removeStroke_7 rfl rfl ?_
    first | ((with_reducible refine isN2 ?_); refine g_isubN (p0 := 9) dX8_removeStroke_8 (by omega) rfl ?_) | refine g_isub (p0 := 9) dX8_removeStroke_8 rfl ?_
    first | ((with_reducible refine isN2 ?_); refine g_icmpN_ge (tgt := 36) (p1 := 12) dX8_removeStroke_9 rfl (by omega) (by omega) rfl (fun c_9 => by exfalso; first | omega | contradiction | exact absurd (by assumption) c_9 | (simp_all; done)) (fun c_9 => ?_)) | refine g_icmp_ge (tgt := 36) (p1 := 12) dX8_removeStroke_9 rfl rfl (fun c_9 => by exfalso; first | omega | contradiction | exact absurd (by assumption) c_9 | (simp_all; done)) (fun c_9 => ?_)
    refine g_aload_n (p0 := 13) (i := 0) dX8_removeStroke_12 rfl rfl rfl ?_
    refine g_getR (p0 := 16) dX8_removeStroke_13 fX8_14 (by first | assumption | exact RW.s (by assumption) | exact TW.s (by assumption) | rfl) rfl rfl ?_
    refine g_iload_n (p0 := 17) (i := 2) dX8_removeStroke_16 rfl rfl rfl ?_
    refine g_aload_n (p0 := 18) (i := 0) dX8_removeStroke_17 rfl rfl rfl ?_
    refine g_getR (p0 := 21) dX8_removeStroke_18 fX8_14 (by first | assumption | exact RW.s (by assumption) | exact TW.s (by assumption) | rfl) rfl rfl ?_
    refine g_iload_n (p0 := 22) (i := 2) dX8_removeStroke_21 rfl rfl rfl ?_
    refine g_iconst (p0 := 23) (v := nI 1) dX8_removeStroke_22 rfl rfl ?_
    first | ((with_reducible refine isN2 ?_); refine g_iaddN (p0 := 24) dX8_removeStroke_23 rfl ?_) | refine g_iadd (p0 := 24) dX8_removeStroke_23 rfl ?_
    refine g_cV1R (p0 := 27) (r1 := mX7_at) dX8_removeStroke_24 lX8_45 vX7_at (by first | assumption | exact RW.s (by assumption) | exact TW.s (by assumption) | rfl) ⟨_, _, rfl⟩ (FITi rfl rfl) (Nat.le_of_ble_eq_true rfl) (at_N (by first | exact ⟨rfl, rfl, by decide⟩ | assumption) (by omega) (by first | assumption | exact up_hit | exact up_nv (by omega) (by assumption) | exact up_mv (by omega) (by assumption) | exact up_nv (by omega) (up_nv (by omega) (by assumption)) | exact up_nv (by omega) up_hit | rfl)) rfl ?_
    refine g_cV2V (p0 := 30) (r1 := mX7_put) dX8_removeStroke_27 lX8_37 vX7_put (by first | assumption | exact RW.s (by assumption) | exact TW.s (by assumption) | rfl) ⟨_, _, rfl⟩ (FITi rfl rfl) (Nat.le_of_ble_eq_true rfl) (put_N (by first | exact ⟨rfl, rfl, by decide⟩ | assumption) (by omega)) rfl ?_
    first | refine g_iinc1 (p0 := 33) (ls2 := [_, _, _]) dX8_removeStroke_30 rfl rfl rfl ?_ | refine g_iinc (p0 := 33) (ls2 := [_, _, _]) dX8_removeStroke_30 rfl rfl rfl rfl ?_
    refine g_goto (tgt := 2) dX8_removeStroke_33 rfl ?_
    have e3 : up (setR σ (t + 2) (shD (σ (t + 2)) p j)) (t + 2) j (σ (t + 2) (j + 1)) = setR σ (t + 2) (shD (σ (t + 2)) p (j + 1)) := by
      rw [up_setR, setR_setR, setR_hit, shD_step hjs]
    rw [e3]
    exact ih (j + 1) (by omega) (by omega)
set_option maxRecDepth 20000 in
set_option maxHeartbeats 2000000 in
theorem removeStroke_sp {t s p : Nat} {σ : Sg} (ht : TW t) (hs : σ t 2 = nI s) (hs1 : s ≤ 160) (hp : p < s) : CM mX8_removeStroke [ar t, ai (nI p)] σ (RetV (setR (setR σ (t + 2) (remR (σ (t + 2)) s p)) t (upd (σ t) 2 (nI (s - 1))))) := by
  refine CM_in (ls := [some (ar t), some (ai (nI p)), none]) rfl ?_
  refine g_iload_n (p0 := 1) (i := 1) dX8_removeStroke_0 rfl rfl rfl ?_
  refine g_istore_n (p0 := 2) (i := 2) (ls2 := [_, _, _]) dX8_removeStroke_1 rfl (Nat.le_of_ble_eq_true rfl) rfl rfl ?_
  have h := removeStroke_loop (σ := σ) (Q := RetV (setR (setR σ (t + 2) (remR (σ (t + 2)) s p)) t (upd (σ t) 2 (nI (s - 1))))) ht hs hs1 hp ⟨rfl, rfl⟩ (s - 1 - p) p (by omega) (by omega)
  rw [shD_0, setR_id rfl] at h
  exact h

