/-! CONSTRUCTORS, second half: the history, the class, the reference; the memory that they make -/
theorem get_app {h l : AH} {y : AC} {i : Nat} : (h ++ (y :: l))[h.length + 1 + i]? = l[i]? := by
  rw [List.getElem?_append_right (by omega), show h.length + 1 + i - h.length = i + 1 by omega]; rfl
theorem set_app {h l : AH} {y z : AC} {i : Nat} : (h ++ (y :: l)).set (h.length + 1 + i) z = h ++ (y :: l.set i z) := by
  rw [List.set_append_right _ _ (by omega), show h.length + 1 + i - h.length = i + 1 by omega]; rfl
def qf (n j : Nat) : Nat → Option Nat := fun k => if k < j then some (n + 5 * k) else none
def tws (n : Nat) : Nat → AH
  | 0 => []
  | j + 1 => tws n j ++ towC (n + 5 * j)
theorem tws_len (n j : Nat) : (tws n j).length = 5 * j := by
  induction j with
  | zero => rfl
  | succ j ih => rw [tws, List.length_append, ih]; show 5 * j + 5 = _; omega
theorem qf_step {n j : Nat} : va_up (qf n j) j (some (n + 5 * j)) = qf n (j + 1) := by
  funext k
  by_cases hk : k = j
  · subst hk; simp [va_up, qf]
  · have : (k < j + 1) ↔ k < j := by omega
    simp [va_up, qf, hk, this]
set_option maxRecDepth 20000 in
set_option maxHeartbeats 2000000 in
theorem hist_loop {h : AH} {Q : AP} (k : Q none (h ++ (.inl (2, [ar (h.length + 1), ai (nI 0), ai (nI 0)]) :: (.inr (.inr (4, qf (h.length + 2) 4)) :: tws (h.length + 2) 4)))) : ∀ m j, j + m = 4 → WPr mX2_init Q 24 [some (ar h.length), some (ai (nI j))] [] (h ++ (.inl (2, [ar (h.length + 1), ai (nI 0), ai (nI 0)]) :: (.inr (.inr (4, qf (h.length + 2) j)) :: tws (h.length + 2) j))) (5 * m) (193 * m) := by
  intro m
  induction m with
  | zero =>
    intro j hj
    obtain rfl : j = 4 := by omega
    refine k_iload (p0 := 25) dX2_init_24 rfl rfl ?_
    refine k_aload (p0 := 26) dX2_init_25 rfl rfl ?_
    refine i_getf dX2_init_26 fX2_11 get_this rfl ?_
    refine i_alenq dX2_init_29 (get_app (i := 0)) ?_
    refine i_icmp_ge (tgt := 52) dX2_init_30 rfl (fun _ => ?_) (fun c => absurd (Int32.le_refl _) c)
    exact k_ret dX2_init_52 rfl k
  | succ m ih =>
    intro j hj
    refine k_iload (p0 := 25) dX2_init_24 rfl rfl ?_
    refine k_aload (p0 := 26) dX2_init_25 rfl rfl ?_
    refine i_getf dX2_init_26 fX2_11 get_this rfl ?_
    refine i_alenq dX2_init_29 (get_app (i := 0)) ?_
    refine i_icmp_ge (tgt := 52) dX2_init_30 rfl (fun c => absurd c (nI_ge (by omega) (by omega))) (fun _ => ?_)
    refine k_aload (p0 := 34) dX2_init_33 rfl rfl ?_
    refine i_getf dX2_init_34 fX2_11 get_this rfl ?_
    refine k_iload (p0 := 38) dX2_init_37 rfl rfl ?_
    have hlen : (h ++ (.inl (2, [ar (h.length + 1), ai (nI 0), ai (nI 0)]) :: (.inr (.inr (4, qf (h.length + 2) j)) :: tws (h.length + 2) j)) : AH).length = h.length + 2 + 5 * j := by
      rw [List.length_append, List.length_cons, List.length_cons, tws_len]; omega
    refine k_new (p0 := 41) (ci := 8) (fs := [an, an, ai 0, ai 0, ai 0, ai 0]) (n := h.length + 2 + 5 * j) (a1 := 5 * m + 4) (b1 := 193 * m + 187) dX2_init_38 rfl kX2_9 eX8 jX8 rfl dvX8 hlen rfl (by omega) (by omega) ?_
    refine k_dup (p0 := 42) dX2_init_41 rfl ?_
    refine k_ctor (p0 := 45) (r1 := mX8_init) (As := []) (n := h.length + 2 + 5 * j) (a := 5 * m) (b := 193 * m) dX2_init_42 (Or.inl lX2_24) vX8_init rfl (FITi rfl rfl) (Nat.le_of_ble_eq_true rfl) hlen rfl (by omega) (by omega) ct_X8 rfl ?_
    have e1 : (h ++ (.inl (2, [ar (h.length + 1), ai (nI 0), ai (nI 0)]) :: (.inr (.inr (4, qf (h.length + 2) j)) :: tws (h.length + 2) j)) : AH) ++ towC (h.length + 2 + 5 * j) = h ++ (.inl (2, [ar (h.length + 1), ai (nI 0), ai (nI 0)]) :: (.inr (.inr (4, qf (h.length + 2) j)) :: tws (h.length + 2) (j + 1))) := by
      simp [tws]
    refine WPr.heap e1 ?_
    have e2 : (h ++ (.inl (2, [ar (h.length + 1), ai (nI 0), ai (nI 0)]) :: (.inr (.inr (4, qf (h.length + 2) j)) :: tws (h.length + 2) (j + 1))) : AH)[h.length + 2 + 5 * j]? = some (.inl (8, [ar (h.length + 2 + 5 * j + 1), ar (h.length + 2 + 5 * j + 3), ai (nI 0), ai (nI 8), ai (nI 1), ai (nI 0)])) := by
      rw [List.getElem?_append_right (by omega), show h.length + 2 + 5 * j - h.length = 5 * j + 1 + 1 by omega, List.getElem?_cons_succ, List.getElem?_cons_succ, tws, List.getElem?_append_right (by rw [tws_len]; omega), tws_len, Nat.sub_self]
      rfl
    refine i_aast dX2_init_45 (get_app (i := 0)) e2 (vp_in_nI (show j < 4 by omega) (by decide)) ?_
    rw [show h.length + 1 = h.length + 1 + 0 from rfl, set_app, nI_clamp (by omega), qf_step]
    refine k_iinc (p0 := 49) (l2 := [_, _]) (y := nI (j + 1)) dX2_init_46 rfl (nI_1 j) rfl rfl ?_
    refine k_goto (p0 := 24) dX2_init_49 rfl ?_
    exact ih (j + 1) (by omega)
def chk_X2 (n : Nat) : AH := .inl (2, [ar (n + 1), ai (nI 0), ai (nI 0)]) :: (.inr (.inr (4, qf (n + 2) 4)) :: tws (n + 2) 4)
set_option maxRecDepth 20000 in
set_option maxHeartbeats 2000000 in
theorem ct_X2 : CT mX2_init [] (.inl (2, [an, ai 0, ai 0])) 21 776 chk_X2 := by
  intro h
  refine C.enter (ls := [some (ar h.length), none]) rfl ?_
  refine k_aload (p0 := 1) dX2_init_0 rfl rfl ?_
  refine k_objI (p0 := 4) dX2_init_1 lX2_3 (Nat.le_of_ble_eq_true rfl) (Nat.le_of_ble_eq_true rfl) (Nat.le_of_ble_eq_true rfl) rfl ?_
  refine k_aload (p0 := 5) dX2_init_4 rfl rfl ?_
  refine k_iconst (p0 := 6) (v := nI 4) dX2_init_5 rfl rfl ?_
  have z : ∀ Q, (Q none (h ++ chk_X2 h.length)) → WPr mX2_init Q 6 [some (ar h.length), none] (ai (nI 4) :: [ar h.length]) (h ++ [.inl (2, [an, ai 0, ai 0])]) (20 + 1) (772 + 4) := by
    intro Q kq
    refine i_newq (N := 4) dX2_init_6 kX2_9 (nI_pos (by decide)) (nI_clamp (by decide)) (by decide) ?_
    rw [show (h ++ [Sum.inl (2, [an, ai 0, ai 0])] : AH).length = h.length + 1 by rw [List.length_append]; rfl]
    refine WPr.heap (app_this (l := [])) ?_
    refine k_put (p0 := 12) (fs2 := [_, _, _]) dX2_init_9 fX2_11 (Or.inr ⟨rfl, nX2_0⟩) (pX2_0 _) (Nat.le_of_ble_eq_true rfl) rfl rfl ?_
    refine k_aload (p0 := 13) dX2_init_12 rfl rfl ?_
    refine k_iconst (p0 := 14) (v := nI 0) dX2_init_13 rfl rfl ?_
    refine k_put (p0 := 17) (fs2 := [_, _, _]) dX2_init_14 fX2_17 (Or.inl nX2_1) (pX2_1 _) (Nat.le_of_ble_eq_true rfl) rfl rfl ?_
    refine k_aload (p0 := 18) dX2_init_17 rfl rfl ?_
    refine k_iconst (p0 := 19) (v := nI 0) dX2_init_18 rfl rfl ?_
    refine k_put (p0 := 22) (fs2 := [_, _, _]) dX2_init_19 fX2_21 (Or.inl nX2_2) (pX2_2 _) (Nat.le_of_ble_eq_true rfl) rfl rfl ?_
    refine k_iconst (p0 := 23) (v := nI 0) dX2_init_22 rfl rfl ?_
    refine k_istore (p0 := 24) (l2 := [_, _]) dX2_init_23 (Nat.le_of_ble_eq_true rfl) rfl rfl ?_
    have e : (fun _ => none : Nat → Option Nat) = qf (h.length + 2) 0 := by funext k; simp [qf]
    rw [e]
    exact hist_loop kq 4 0 rfl
  exact z _ ⟨rfl, rfl⟩
def chk_X9 (n : Nat) : AH := .inl (9, [ar (n + 1), ar (n + 6), ar (n + 11), ar (n + 33), ar (n + 72), ar (n + 73), ar (n + 76)]) :: (((((((([] : AH) ++ towC (n + 1)) ++ towC (n + 6)) ++ chk_X2 (n + 11)) ++ chk_X6 (n + 33)) ++ chk_X1 (n + 72)) ++ chk_X0 (n + 73)) ++ chk_X5 (n + 76))
set_option maxRecDepth 20000 in
set_option maxHeartbeats 2000000 in
theorem ct_X9 : CT mX9_init [] (.inl (9, [an, an, an, an, an, an, an])) 78 4051 chk_X9 := by
  intro h
  refine C.enter (ls := [some (ar h.length)]) rfl ?_
  refine k_aload (p0 := 1) dX9_init_0 rfl rfl ?_
  refine k_objI (p0 := 4) dX9_init_1 lX9_1 (Nat.le_of_ble_eq_true rfl) (Nat.le_of_ble_eq_true rfl) (Nat.le_of_ble_eq_true rfl) rfl ?_
  refine k_aload (p0 := 5) dX9_init_4 rfl rfl ?_
  refine k_new (p0 := 8) (ci := 8) (fs := [an, an, ai 0, ai 0, ai 0, ai 0]) (n := h.length + 1) (a1 := 77) (b1 := 4045) dX9_init_5 rfl kX9_7 eX8 jX8 rfl dvX8 (len_this rfl) rfl rfl rfl ?_
  refine k_dup (p0 := 9) dX9_init_8 rfl ?_
  refine k_ctor (p0 := 12) (r1 := mX8_init) (As := []) (n := h.length + 1) (a := 73) (b := 3858) dX9_init_9 (Or.inl lX9_9) vX8_init rfl (FITi rfl rfl) (Nat.le_of_ble_eq_true rfl) (len_this rfl) rfl rfl rfl (ct_X8) rfl ?_
  refine WPr.heap app_this ?_
  refine k_put (p0 := 15) (fs2 := [_, _, _, _, _, _, _]) dX9_init_12 fX9_10 (Or.inr ⟨rfl, nX9_0⟩) (pX9_0 _) (Nat.le_of_ble_eq_true rfl) rfl rfl ?_
  refine k_aload (p0 := 16) dX9_init_15 rfl rfl ?_
  refine k_new (p0 := 19) (ci := 8) (fs := [an, an, ai 0, ai 0, ai 0, ai 0]) (n := h.length + 6) (a1 := 72) (b1 := 3852) dX9_init_16 rfl kX9_7 eX8 jX8 rfl dvX8 (len_this rfl) rfl rfl rfl ?_
  refine k_dup (p0 := 20) dX9_init_19 rfl ?_
  refine k_ctor (p0 := 23) (r1 := mX8_init) (As := []) (n := h.length + 6) (a := 68) (b := 3665) dX9_init_20 (Or.inl lX9_9) vX8_init rfl (FITi rfl rfl) (Nat.le_of_ble_eq_true rfl) (len_this rfl) rfl rfl rfl (ct_X8) rfl ?_
  refine WPr.heap app_this ?_
  refine k_put (p0 := 26) (fs2 := [_, _, _, _, _, _, _]) dX9_init_23 fX9_16 (Or.inr ⟨rfl, nX9_1⟩) (pX9_1 _) (Nat.le_of_ble_eq_true rfl) rfl rfl ?_
  refine k_aload (p0 := 27) dX9_init_26 rfl rfl ?_
  refine k_new (p0 := 30) (ci := 2) (fs := [an, ai 0, ai 0]) (n := h.length + 11) (a1 := 67) (b1 := 3662) dX9_init_27 rfl kX9_19 eX2 jX2 rfl dvX2 (len_this rfl) rfl rfl rfl ?_
  refine k_dup (p0 := 31) dX9_init_30 rfl ?_
  refine k_ctor (p0 := 34) (r1 := mX2_init) (As := []) (n := h.length + 11) (a := 46) (b := 2886) dX9_init_31 (Or.inl lX9_21) vX2_init rfl (FITi rfl rfl) (Nat.le_of_ble_eq_true rfl) (len_this rfl) rfl rfl rfl (ct_X2) rfl ?_
  refine WPr.heap app_this ?_
  refine k_put (p0 := 37) (fs2 := [_, _, _, _, _, _, _]) dX9_init_34 fX9_22 (Or.inr ⟨rfl, nX9_2⟩) (pX9_2 _) (Nat.le_of_ble_eq_true rfl) rfl rfl ?_
  refine k_aload (p0 := 38) dX9_init_37 rfl rfl ?_
  refine k_new (p0 := 41) (ci := 6) (fs := [an, an, an, an, an, an, an, an, ai 0]) (n := h.length + 33) (a1 := 45) (b1 := 2877) dX9_init_38 rfl kX9_26 eX6 jX6 rfl dvX6 (len_this rfl) rfl rfl rfl ?_
  refine k_dup (p0 := 42) dX9_init_41 rfl ?_
  refine k_ctor (p0 := 45) (r1 := mX6_init) (As := []) (n := h.length + 33) (a := 7) (b := 100) dX9_init_42 (Or.inr lX9_28) vX6_init rfl (FITi rfl rfl) (Nat.le_of_ble_eq_true rfl) (len_this rfl) rfl rfl rfl (ct_X6) rfl ?_
  refine WPr.heap app_this ?_
  refine k_put (p0 := 48) (fs2 := [_, _, _, _, _, _, _]) dX9_init_45 fX9_29 (Or.inr ⟨rfl, nX9_3⟩) (pX9_3 _) (Nat.le_of_ble_eq_true rfl) rfl rfl ?_
  refine k_aload (p0 := 49) dX9_init_48 rfl rfl ?_
  refine k_new (p0 := 52) (ci := 1) (fs := [ai 0, ai 0, ai 0, ai 0, ai 0]) (n := h.length + 72) (a1 := 6) (b1 := 95) dX9_init_49 rfl kX9_33 eX1 jX1 rfl dvX1 (len_this rfl) rfl rfl rfl ?_
  refine k_dup (p0 := 53) dX9_init_52 rfl ?_
  refine k_ctor (p0 := 56) (r1 := mX1_init) (As := []) (n := h.length + 72) (a := 6) (b := 95) dX9_init_53 (Or.inr lX9_35) vX1_init rfl (FITi rfl rfl) (Nat.le_of_ble_eq_true rfl) (len_this rfl) rfl rfl rfl (ct_X1) rfl ?_
  refine WPr.heap app_this ?_
  refine k_put (p0 := 59) (fs2 := [_, _, _, _, _, _, _]) dX9_init_56 fX9_36 (Or.inr ⟨rfl, nX9_4⟩) (pX9_4 _) (Nat.le_of_ble_eq_true rfl) rfl rfl ?_
  refine k_aload (p0 := 60) dX9_init_59 rfl rfl ?_
  refine k_new (p0 := 63) (ci := 0) (fs := [an, ai 0, ai 0, ai 0]) (n := h.length + 73) (a1 := 5) (b1 := 91) dX9_init_60 rfl kX9_40 eX0 jX0 rfl dvX0 (len_this rfl) rfl rfl rfl ?_
  refine k_dup (p0 := 64) dX9_init_63 rfl ?_
  refine k_ctor (p0 := 67) (r1 := mX0_init) (As := []) (n := h.length + 73) (a := 3) (b := 65) dX9_init_64 (Or.inr lX9_42) vX0_init rfl (FITi rfl rfl) (Nat.le_of_ble_eq_true rfl) (len_this rfl) rfl rfl rfl (ct_X0) rfl ?_
  refine WPr.heap app_this ?_
  refine k_put (p0 := 70) (fs2 := [_, _, _, _, _, _, _]) dX9_init_67 fX9_43 (Or.inr ⟨rfl, nX9_5⟩) (pX9_5 _) (Nat.le_of_ble_eq_true rfl) rfl rfl ?_
  refine k_aload (p0 := 71) dX9_init_70 rfl rfl ?_
  refine k_new (p0 := 74) (ci := 5) (fs := [an, ai 0, ai 0, ai 0]) (n := h.length + 76) (a1 := 2) (b1 := 61) dX9_init_71 rfl kX9_47 eX5 jX5 rfl dvX5 (len_this rfl) rfl rfl rfl ?_
  refine k_dup (p0 := 75) dX9_init_74 rfl ?_
  refine k_ctor (p0 := 78) (r1 := mX5_init) (As := []) (n := h.length + 76) (a := 0) (b := 0) dX9_init_75 (Or.inr lX9_49) vX5_init rfl (FITi rfl rfl) (Nat.le_of_ble_eq_true rfl) (len_this rfl) rfl rfl rfl (ct_X5) rfl ?_
  refine WPr.heap app_this ?_
  refine k_put (p0 := 81) (fs2 := [_, _, _, _, _, _, _]) dX9_init_78 fX9_50 (Or.inr ⟨rfl, nX9_6⟩) (pX9_6 _) (Nat.le_of_ble_eq_true rfl) rfl rfl ?_
  exact k_ret dX9_init_81 rfl ⟨rfl, rfl⟩
theorem k_newi {r : MR} {Q : AP} {pc p0 : Nat} {ls : List (Option AV)} {st : List AV} {h l : AH} {y : AC} {a b a1 b1 N n : Nat} (d : decode (rc r) pc = .ok (.newarray .int, 2)) (hN : N ≤ 1000) (hn : (h ++ (y :: l)).length = n) (e : pc + 2 = p0) (ea : a1 + 1 = a) (eb : b1 + N = b) (kk : WPr r Q p0 ls (ar n :: st) (h ++ (y :: (l ++ [.inr (.inl (N, fun _ => 0))]))) a1 b1) : WPr r Q pc ls (ai (nI N) :: st) (h ++ (y :: l)) a b := by
  subst e; subst hn; subst ea; subst eb
  refine i_newi d (nI_pos (by omega)) (nI_clamp (by omega)) hN ?_
  rw [app_this]
  exact kk
def mrest : AH := [.inr (.inl (756, fun _ => 0)), .inr (.inl (189, fun _ => 0)), .inr (.inl (60, fun _ => 0)), .inr (.inl (160, fun _ => 0)), .inr (.inl (160, fun _ => 0)), .inr (.inl (160, fun _ => 0)), .inr (.inl (160, fun _ => 0)), .inr (.inl (160, fun _ => 0)), .inr (.inl (160, fun _ => 0)), .inr (.inl (160, fun _ => 0)), .inr (.inl (160, fun _ => 0)), .inr (.inl (161, fun _ => 0)), .inr (.inl (160, fun _ => 0)), .inr (.inl (160, fun _ => 0)), .inr (.inl (160, fun _ => 0)), .inr (.inl (4, fun _ => 0))]
def sf (j : Nat) : Nat → Int32 := fun k => if k = 0 then nI 8 else if k = 1 then nI 1 else if 4 ≤ k ∧ k < 4 + j then nI (k - 4) else 0
theorem sf_0 : upd (upd (fun _ => 0) 0 (nI 8)) 1 (nI 1) = sf 0 := by
  funext k
  by_cases h1 : k = 1
  · subst h1; simp [upd, sf]
  · by_cases h0 : k = 0
    · subst h0; simp [upd, sf]
    · have : ¬ (4 ≤ k ∧ k < 4 + 0) := by omega
      simp only [upd, sf, if_neg h1, if_neg h0, if_neg this]
theorem sf_step {j : Nat} : upd (sf j) (4 + j) (nI j) = sf (j + 1) := by
  funext k
  by_cases hk : k = 4 + j
  · subst hk
    have h1 : ¬ 4 + j = 0 := by omega
    have h2 : ¬ 4 + j = 1 := by omega
    have h3 : 4 ≤ 4 + j ∧ 4 + j < 4 + (j + 1) := by omega
    simp only [upd, sf, if_neg h1, if_neg h2, if_pos h3, if_true, show 4 + j - 4 = j by omega]
  · have : (4 ≤ k ∧ k < 4 + (j + 1)) ↔ (4 ≤ k ∧ k < 4 + j) := by omega
    simp only [upd, sf, if_neg hk, this]
def mobj (n : Nat) : AC := .inl (10, [ar (n + 1), ar (n + 2), ar (n + 3), ai 0, ar (n + 4), ai 0, ar (n + 5), ar (n + 6), ar (n + 7), ar (n + 8), ar (n + 9), ai 0, ai 0, ar (n + 10), ar (n + 11), ar (n + 12), ar (n + 13), ar (n + 14), ar (n + 15), ar (n + 16), ar (n + 17), ai 0, ai 0, ai 0, ai 0])
set_option maxRecDepth 20000 in
set_option maxHeartbeats 2000000 in
theorem model_loop {h : AH} {Q : AP} (k : Q none (h ++ (mobj h.length :: (.inr (.inl (189, sf 25)) :: mrest)))) : ∀ m j, j + m = 25 → WPr mX10_init Q 171 [some (ar h.length), some (ai (nI j))] [] (h ++ (mobj h.length :: (.inr (.inl (189, sf j)) :: mrest))) 0 0 := by
  intro m
  induction m with
  | zero =>
    intro j hj
    obtain rfl : j = 25 := by omega
    refine k_iload (p0 := 172) dX10_init_171 rfl rfl ?_
    refine k_bipush (p0 := 174) (v := nI 25) dX10_init_172 (by decide) rfl ?_
    refine i_icmp_ge (tgt := 192) dX10_init_174 rfl (fun _ => ?_) (fun c => absurd (Int32.le_refl _) c)
    exact k_ret dX10_init_192 rfl k
  | succ m ih =>
    intro j hj
    refine k_iload (p0 := 172) dX10_init_171 rfl rfl ?_
    refine k_bipush (p0 := 174) (v := nI 25) dX10_init_172 (by decide) rfl ?_
    refine i_icmp_ge (tgt := 192) dX10_init_174 rfl (fun c => absurd c (nI_ge (by omega) (by omega))) (fun _ => ?_)
    refine k_aload (p0 := 178) dX10_init_177 rfl rfl ?_
    refine i_getf dX10_init_178 fX10_7 get_this rfl ?_
    refine k_iconst (p0 := 182) (v := nI 4) dX10_init_181 rfl rfl ?_
    refine k_iload (p0 := 183) dX10_init_182 rfl rfl ?_
    refine i_iadd dX10_init_183 ?_
    rw [nI_add]
    refine k_iload (p0 := 185) dX10_init_184 rfl rfl ?_
    refine i_iast dX10_init_185 (get_app (i := 0)) (vp_in_nI (show 4 + j < 189 by omega) (by decide)) ?_
    rw [show h.length + 1 = h.length + 1 + 0 from rfl, set_app, nI_clamp (by omega)]
    show WPr mX10_init Q _ _ _ (h ++ (mobj h.length :: (.inr (.inl (189, upd (sf j) (4 + j) (nI j))) :: mrest))) 0 0
    rw [sf_step]
    refine k_iinc (p0 := 189) (l2 := [_, _]) (y := nI (j + 1)) dX10_init_186 rfl (nI_1 j) rfl rfl ?_
    refine k_goto (p0 := 171) dX10_init_189 rfl ?_
    exact ih (j + 1) (by omega)
def chk_X10 (n : Nat) : AH := mobj n :: (.inr (.inl (189, sf 25)) :: mrest)
set_option maxRecDepth 20000 in
set_option maxHeartbeats 2000000 in
theorem ct_X10 : CT mX10_init [] (.inl (10, [an, an, an, ai 0, an, ai 0, an, an, an, an, an, ai 0, ai 0, an, an, an, an, an, an, an, an, ai 0, ai 0, ai 0, ai 0])) 17 3119 chk_X10 := by
  intro h
  refine C.enter (ls := [some (ar h.length), none]) rfl ?_
  refine k_aload (p0 := 1) dX10_init_0 rfl rfl ?_
  refine k_objI (p0 := 4) dX10_init_1 lX10_1 (Nat.le_of_ble_eq_true rfl) (Nat.le_of_ble_eq_true rfl) (Nat.le_of_ble_eq_true rfl) rfl ?_
  refine k_aload (p0 := 5) dX10_init_4 rfl rfl ?_
  refine k_sipush (p0 := 8) (v := nI 189) dX10_init_5 (by decide) rfl ?_
  refine k_newi (p0 := 10) (n := h.length + 1) (a1 := 16) (b1 := 2930) dX10_init_8 (by decide) (len_this rfl) rfl rfl rfl ?_
  refine k_put (p0 := 13) (fs2 := [_, _, _, _, _, _, _, _, _, _, _, _, _, _, _, _, _, _, _, _, _, _, _, _, _]) dX10_init_10 fX10_7 (Or.inr ⟨rfl, nX10_0⟩) (pX10_0 _) (Nat.le_of_ble_eq_true rfl) rfl rfl ?_
  refine k_aload (p0 := 14) dX10_init_13 rfl rfl ?_
  refine k_sipush (p0 := 17) (v := nI 756) dX10_init_14 (by decide) rfl ?_
  refine k_newi (p0 := 19) (n := h.length + 2) (a1 := 15) (b1 := 2174) dX10_init_17 (by decide) (len_this rfl) rfl rfl rfl ?_
  refine k_put (p0 := 22) (fs2 := [_, _, _, _, _, _, _, _, _, _, _, _, _, _, _, _, _, _, _, _, _, _, _, _, _]) dX10_init_19 fX10_13 (Or.inr ⟨rfl, nX10_1⟩) (pX10_1 _) (Nat.le_of_ble_eq_true rfl) rfl rfl ?_
  refine k_aload (p0 := 23) dX10_init_22 rfl rfl ?_
  refine k_sipush (p0 := 26) (v := nI 189) dX10_init_23 (by decide) rfl ?_
  refine k_newi (p0 := 28) (n := h.length + 3) (a1 := 14) (b1 := 1985) dX10_init_26 (by decide) (len_this rfl) rfl rfl rfl ?_
  refine k_put (p0 := 31) (fs2 := [_, _, _, _, _, _, _, _, _, _, _, _, _, _, _, _, _, _, _, _, _, _, _, _, _]) dX10_init_28 fX10_16 (Or.inr ⟨rfl, nX10_2⟩) (pX10_2 _) (Nat.le_of_ble_eq_true rfl) rfl rfl ?_
  refine k_aload (p0 := 32) dX10_init_31 rfl rfl ?_
  refine k_bipush (p0 := 34) (v := nI 60) dX10_init_32 (by decide) rfl ?_
  refine k_newi (p0 := 36) (n := h.length + 4) (a1 := 13) (b1 := 1925) dX10_init_34 (by decide) (len_this rfl) rfl rfl rfl ?_
  refine k_put (p0 := 39) (fs2 := [_, _, _, _, _, _, _, _, _, _, _, _, _, _, _, _, _, _, _, _, _, _, _, _, _]) dX10_init_36 fX10_19 (Or.inr ⟨rfl, nX10_4⟩) (pX10_4 _) (Nat.le_of_ble_eq_true rfl) rfl rfl ?_
  refine k_aload (p0 := 40) dX10_init_39 rfl rfl ?_
  refine k_sipush (p0 := 43) (v := nI 160) dX10_init_40 (by decide) rfl ?_
  refine k_newi (p0 := 45) (n := h.length + 5) (a1 := 12) (b1 := 1765) dX10_init_43 (by decide) (len_this rfl) rfl rfl rfl ?_
  refine k_put (p0 := 48) (fs2 := [_, _, _, _, _, _, _, _, _, _, _, _, _, _, _, _, _, _, _, _, _, _, _, _, _]) dX10_init_45 fX10_22 (Or.inr ⟨rfl, nX10_6⟩) (pX10_6 _) (Nat.le_of_ble_eq_true rfl) rfl rfl ?_
  refine k_aload (p0 := 49) dX10_init_48 rfl rfl ?_
  refine k_sipush (p0 := 52) (v := nI 160) dX10_init_49 (by decide) rfl ?_
  refine k_newi (p0 := 54) (n := h.length + 6) (a1 := 11) (b1 := 1605) dX10_init_52 (by decide) (len_this rfl) rfl rfl rfl ?_
  refine k_put (p0 := 57) (fs2 := [_, _, _, _, _, _, _, _, _, _, _, _, _, _, _, _, _, _, _, _, _, _, _, _, _]) dX10_init_54 fX10_25 (Or.inr ⟨rfl, nX10_7⟩) (pX10_7 _) (Nat.le_of_ble_eq_true rfl) rfl rfl ?_
  refine k_aload (p0 := 58) dX10_init_57 rfl rfl ?_
  refine k_sipush (p0 := 61) (v := nI 160) dX10_init_58 (by decide) rfl ?_
  refine k_newi (p0 := 63) (n := h.length + 7) (a1 := 10) (b1 := 1445) dX10_init_61 (by decide) (len_this rfl) rfl rfl rfl ?_
  refine k_put (p0 := 66) (fs2 := [_, _, _, _, _, _, _, _, _, _, _, _, _, _, _, _, _, _, _, _, _, _, _, _, _]) dX10_init_63 fX10_28 (Or.inr ⟨rfl, nX10_8⟩) (pX10_8 _) (Nat.le_of_ble_eq_true rfl) rfl rfl ?_
  refine k_aload (p0 := 67) dX10_init_66 rfl rfl ?_
  refine k_sipush (p0 := 70) (v := nI 160) dX10_init_67 (by decide) rfl ?_
  refine k_newi (p0 := 72) (n := h.length + 8) (a1 := 9) (b1 := 1285) dX10_init_70 (by decide) (len_this rfl) rfl rfl rfl ?_
  refine k_put (p0 := 75) (fs2 := [_, _, _, _, _, _, _, _, _, _, _, _, _, _, _, _, _, _, _, _, _, _, _, _, _]) dX10_init_72 fX10_31 (Or.inr ⟨rfl, nX10_9⟩) (pX10_9 _) (Nat.le_of_ble_eq_true rfl) rfl rfl ?_
  refine k_aload (p0 := 76) dX10_init_75 rfl rfl ?_
  refine k_sipush (p0 := 79) (v := nI 160) dX10_init_76 (by decide) rfl ?_
  refine k_newi (p0 := 81) (n := h.length + 9) (a1 := 8) (b1 := 1125) dX10_init_79 (by decide) (len_this rfl) rfl rfl rfl ?_
  refine k_put (p0 := 84) (fs2 := [_, _, _, _, _, _, _, _, _, _, _, _, _, _, _, _, _, _, _, _, _, _, _, _, _]) dX10_init_81 fX10_34 (Or.inr ⟨rfl, nX10_10⟩) (pX10_10 _) (Nat.le_of_ble_eq_true rfl) rfl rfl ?_
  refine k_aload (p0 := 85) dX10_init_84 rfl rfl ?_
  refine k_sipush (p0 := 88) (v := nI 160) dX10_init_85 (by decide) rfl ?_
  refine k_newi (p0 := 90) (n := h.length + 10) (a1 := 7) (b1 := 965) dX10_init_88 (by decide) (len_this rfl) rfl rfl rfl ?_
  refine k_put (p0 := 93) (fs2 := [_, _, _, _, _, _, _, _, _, _, _, _, _, _, _, _, _, _, _, _, _, _, _, _, _]) dX10_init_90 fX10_37 (Or.inr ⟨rfl, nX10_13⟩) (pX10_13 _) (Nat.le_of_ble_eq_true rfl) rfl rfl ?_
  refine k_aload (p0 := 94) dX10_init_93 rfl rfl ?_
  refine k_sipush (p0 := 97) (v := nI 160) dX10_init_94 (by decide) rfl ?_
  refine k_newi (p0 := 99) (n := h.length + 11) (a1 := 6) (b1 := 805) dX10_init_97 (by decide) (len_this rfl) rfl rfl rfl ?_
  refine k_put (p0 := 102) (fs2 := [_, _, _, _, _, _, _, _, _, _, _, _, _, _, _, _, _, _, _, _, _, _, _, _, _]) dX10_init_99 fX10_40 (Or.inr ⟨rfl, nX10_14⟩) (pX10_14 _) (Nat.le_of_ble_eq_true rfl) rfl rfl ?_
  refine k_aload (p0 := 103) dX10_init_102 rfl rfl ?_
  refine k_sipush (p0 := 106) (v := nI 160) dX10_init_103 (by decide) rfl ?_
  refine k_newi (p0 := 108) (n := h.length + 12) (a1 := 5) (b1 := 645) dX10_init_106 (by decide) (len_this rfl) rfl rfl rfl ?_
  refine k_put (p0 := 111) (fs2 := [_, _, _, _, _, _, _, _, _, _, _, _, _, _, _, _, _, _, _, _, _, _, _, _, _]) dX10_init_108 fX10_43 (Or.inr ⟨rfl, nX10_15⟩) (pX10_15 _) (Nat.le_of_ble_eq_true rfl) rfl rfl ?_
  refine k_aload (p0 := 112) dX10_init_111 rfl rfl ?_
  refine k_sipush (p0 := 115) (v := nI 161) dX10_init_112 (by decide) rfl ?_
  refine k_newi (p0 := 117) (n := h.length + 13) (a1 := 4) (b1 := 484) dX10_init_115 (by decide) (len_this rfl) rfl rfl rfl ?_
  refine k_put (p0 := 120) (fs2 := [_, _, _, _, _, _, _, _, _, _, _, _, _, _, _, _, _, _, _, _, _, _, _, _, _]) dX10_init_117 fX10_46 (Or.inr ⟨rfl, nX10_16⟩) (pX10_16 _) (Nat.le_of_ble_eq_true rfl) rfl rfl ?_
  refine k_aload (p0 := 121) dX10_init_120 rfl rfl ?_
  refine k_sipush (p0 := 124) (v := nI 160) dX10_init_121 (by decide) rfl ?_
  refine k_newi (p0 := 126) (n := h.length + 14) (a1 := 3) (b1 := 324) dX10_init_124 (by decide) (len_this rfl) rfl rfl rfl ?_
  refine k_put (p0 := 129) (fs2 := [_, _, _, _, _, _, _, _, _, _, _, _, _, _, _, _, _, _, _, _, _, _, _, _, _]) dX10_init_126 fX10_49 (Or.inr ⟨rfl, nX10_17⟩) (pX10_17 _) (Nat.le_of_ble_eq_true rfl) rfl rfl ?_
  refine k_aload (p0 := 130) dX10_init_129 rfl rfl ?_
  refine k_sipush (p0 := 133) (v := nI 160) dX10_init_130 (by decide) rfl ?_
  refine k_newi (p0 := 135) (n := h.length + 15) (a1 := 2) (b1 := 164) dX10_init_133 (by decide) (len_this rfl) rfl rfl rfl ?_
  refine k_put (p0 := 138) (fs2 := [_, _, _, _, _, _, _, _, _, _, _, _, _, _, _, _, _, _, _, _, _, _, _, _, _]) dX10_init_135 fX10_52 (Or.inr ⟨rfl, nX10_18⟩) (pX10_18 _) (Nat.le_of_ble_eq_true rfl) rfl rfl ?_
  refine k_aload (p0 := 139) dX10_init_138 rfl rfl ?_
  refine k_sipush (p0 := 142) (v := nI 160) dX10_init_139 (by decide) rfl ?_
  refine k_newi (p0 := 144) (n := h.length + 16) (a1 := 1) (b1 := 4) dX10_init_142 (by decide) (len_this rfl) rfl rfl rfl ?_
  refine k_put (p0 := 147) (fs2 := [_, _, _, _, _, _, _, _, _, _, _, _, _, _, _, _, _, _, _, _, _, _, _, _, _]) dX10_init_144 fX10_55 (Or.inr ⟨rfl, nX10_19⟩) (pX10_19 _) (Nat.le_of_ble_eq_true rfl) rfl rfl ?_
  refine k_aload (p0 := 148) dX10_init_147 rfl rfl ?_
  refine k_iconst (p0 := 149) (v := nI 4) dX10_init_148 rfl rfl ?_
  refine k_newi (p0 := 151) (n := h.length + 17) (a1 := 0) (b1 := 0) dX10_init_149 (by decide) (len_this rfl) rfl rfl rfl ?_
  refine k_put (p0 := 154) (fs2 := [_, _, _, _, _, _, _, _, _, _, _, _, _, _, _, _, _, _, _, _, _, _, _, _, _]) dX10_init_151 fX10_58 (Or.inr ⟨rfl, nX10_20⟩) (pX10_20 _) (Nat.le_of_ble_eq_true rfl) rfl rfl ?_
  refine WPr.heap (h2 := h ++ (mobj h.length :: (.inr (.inl (189, fun _ => 0)) :: mrest))) rfl ?_
  refine k_aload (p0 := 155) dX10_init_154 rfl rfl ?_
  refine i_getf dX10_init_155 fX10_7 get_this rfl ?_
  refine k_iconst (p0 := 159) (v := nI 0) dX10_init_158 rfl rfl ?_
  refine k_bipush (p0 := 161) (v := nI 8) dX10_init_159 (by decide) rfl ?_
  refine i_iast dX10_init_161 (get_app (i := 0)) (vp_in_nI (show 0 < 189 by decide) (by decide)) ?_
  rw [show h.length + 1 = h.length + 1 + 0 from rfl, set_app, nI_clamp (by decide)]
  refine k_aload (p0 := 163) dX10_init_162 rfl rfl ?_
  refine i_getf dX10_init_163 fX10_7 get_this rfl ?_
  refine k_iconst (p0 := 167) (v := nI 1) dX10_init_166 rfl rfl ?_
  refine k_iconst (p0 := 168) (v := nI 1) dX10_init_167 rfl rfl ?_
  refine i_iast dX10_init_168 (get_app (i := 0)) (vp_in_nI (show 1 < 189 by decide) (by decide)) ?_
  rw [show h.length + 1 = h.length + 1 + 0 from rfl, set_app, nI_clamp (by decide)]
  refine WPr.heap (h2 := h ++ (mobj h.length :: (.inr (.inl (189, upd (upd (fun _ => 0) 0 (nI 8)) 1 (nI 1))) :: mrest))) rfl ?_
  rw [sf_0]
  refine k_iconst (p0 := 170) (v := nI 0) dX10_init_169 rfl rfl ?_
  refine k_istore (p0 := 171) (l2 := [_, _]) dX10_init_170 (Nat.le_of_ble_eq_true rfl) rfl rfl ?_
  exact model_loop ⟨rfl, rfl⟩ 25 0 rfl
/-- the memory that a heap holds -/
def rdS (h : AH) : Sg := fun c k => match h[c]? with
  | some (.inl (_, fs)) => (match fs[k]? with | some (.inl x) => x | _ => 0)
  | some (.inr (.inl (_, f))) => f k
  | _ => 0
def h00 : AH := chk_X9 0 ++ chk_X10 79
def σ00 : Sg := rdS h00
set_option maxRecDepth 20000 in
set_option maxHeartbeats 2000000 in
theorem mem00_12 : h00[12]? = (mem σ00)[12]? := by
  rw [mem_get (s := .inr (.inr [13, 18, 23, 28])) rfl]
  show some (Sum.inr (Sum.inr (4, qf 13 4))) = some (Sum.inr (Sum.inr (4, fun j => ([13, 18, 23, 28] : List Nat)[j]?)))
  have e : qf 13 4 = fun j => ([13, 18, 23, 28] : List Nat)[j]? := by
    funext k
    match k with
    | 0 => rfl
    | 1 => rfl
    | 2 => rfl
    | 3 => rfl
    | k + 4 =>
      have hk : ¬ k + 4 < 4 := by omega
      simp [qf]
  rw [e]
set_option maxRecDepth 20000 in
set_option maxHeartbeats 2000000 in
theorem mem00_all : ∀ j, j < 97 → h00[j]? = (mem σ00)[j]?
  | 0, _ => rfl
  | 1, _ => rfl
  | 2, _ => rfl
  | 3, _ => rfl
  | 4, _ => rfl
  | 5, _ => rfl
  | 6, _ => rfl
  | 7, _ => rfl
  | 8, _ => rfl
  | 9, _ => rfl
  | 10, _ => rfl
  | 11, _ => rfl
  | 12, _ => mem00_12
  | 13, _ => rfl
  | 14, _ => rfl
  | 15, _ => rfl
  | 16, _ => rfl
  | 17, _ => rfl
  | 18, _ => rfl
  | 19, _ => rfl
  | 20, _ => rfl
  | 21, _ => rfl
  | 22, _ => rfl
  | 23, _ => rfl
  | 24, _ => rfl
  | 25, _ => rfl
  | 26, _ => rfl
  | 27, _ => rfl
  | 28, _ => rfl
  | 29, _ => rfl
  | 30, _ => rfl
  | 31, _ => rfl
  | 32, _ => rfl
  | 33, _ => rfl
  | 34, _ => rfl
  | 35, _ => rfl
  | 36, _ => rfl
  | 37, _ => rfl
  | 38, _ => rfl
  | 39, _ => rfl
  | 40, _ => rfl
  | 41, _ => rfl
  | 42, _ => rfl
  | 43, _ => rfl
  | 44, _ => rfl
  | 45, _ => rfl
  | 46, _ => rfl
  | 47, _ => rfl
  | 48, _ => rfl
  | 49, _ => rfl
  | 50, _ => rfl
  | 51, _ => rfl
  | 52, _ => rfl
  | 53, _ => rfl
  | 54, _ => rfl
  | 55, _ => rfl
  | 56, _ => rfl
  | 57, _ => rfl
  | 58, _ => rfl
  | 59, _ => rfl
  | 60, _ => rfl
  | 61, _ => rfl
  | 62, _ => rfl
  | 63, _ => rfl
  | 64, _ => rfl
  | 65, _ => rfl
  | 66, _ => rfl
  | 67, _ => rfl
  | 68, _ => rfl
  | 69, _ => rfl
  | 70, _ => rfl
  | 71, _ => rfl
  | 72, _ => rfl
  | 73, _ => rfl
  | 74, _ => rfl
  | 75, _ => rfl
  | 76, _ => rfl
  | 77, _ => rfl
  | 78, _ => rfl
  | 79, _ => rfl
  | 80, _ => rfl
  | 81, _ => rfl
  | 82, _ => rfl
  | 83, _ => rfl
  | 84, _ => rfl
  | 85, _ => rfl
  | 86, _ => rfl
  | 87, _ => rfl
  | 88, _ => rfl
  | 89, _ => rfl
  | 90, _ => rfl
  | 91, _ => rfl
  | 92, _ => rfl
  | 93, _ => rfl
  | 94, _ => rfl
  | 95, _ => rfl
  | 96, _ => rfl
  | k + 97, h => absurd h (by omega)
set_option maxRecDepth 20000 in
set_option maxHeartbeats 2000000 in
theorem mem00 : h00 = mem σ00 := by
  apply List.ext_getElem?
  intro i
  by_cases hi : i < 97
  · exact mem00_all i hi
  · rw [List.getElem?_eq_none (by show h00.length ≤ i; rw [show h00.length = 97 from rfl]; omega), List.getElem?_eq_none (by show (mem σ00).length ≤ i; rw [show (mem σ00).length = 97 by rw [mem, List.length_mapIdx]; rfl]; omega)]
