/-! THE CLASS: out of the rows of whole -/
theorem get_app {h l : AH} {y : AC} {i : Nat} : (h ++ (y :: l))[h.length + 1 + i]? = l[i]? := by
  rw [List.getElem?_append_right (by omega), show h.length + 1 + i - h.length = i + 1 by omega]; rfl
theorem set_app {h l : AH} {y z : AC} {i : Nat} : (h ++ (y :: l)).set (h.length + 1 + i) z = h ++ (y :: l.set i z) := by
  rw [List.set_append_right _ _ (by omega), show h.length + 1 + i - h.length = i + 1 by omega]; rfl
def qf (n j : Nat) : Nat → Option Nat := fun k => if k < j then some (n + 5 * k) else none
def tws (n : Nat) : Nat → AH
  | 0 => []
  | j + 1 => tws n j ++ towC (n + 5 * j)
theorem tws_len (n j : Nat) : (tws n j).length = 5 * j := by
  induction j with
  | zero => rfl
  | succ j ih => rw [tws, List.length_append, ih]; show 5 * j + 5 = _; omega
theorem qf_step {n j : Nat} : va_up (qf n j) j (some (n + 5 * j)) = qf n (j + 1) := by
  funext k
  by_cases hk : k = j
  · subst hk; simp [va_up, qf]
  · have : (k < j + 1) ↔ k < j := by omega
    simp [va_up, qf, hk, this]
set_option maxRecDepth 20000 in
set_option maxHeartbeats 2000000 in
theorem hist_loop {h : AH} {Q : AP} (k : Q none (h ++ (.inl (2, [ar (h.length + 1), ai (nI 0), ai (nI 0)]) :: (.inr (.inr (4, qf (h.length + 2) 4)) :: tws (h.length + 2) 4)))) : ∀ m j, j + m = 4 → WPr mX2_init Q 24 [some (ar h.length), some (ai (nI j))] [] (h ++ (.inl (2, [ar (h.length + 1), ai (nI 0), ai (nI 0)]) :: (.inr (.inr (4, qf (h.length + 2) j)) :: tws (h.length + 2) j))) (5 * m) (193 * m) := by
  intro m
  induction m with
  | zero =>
    intro j hj
    obtain rfl : j = 4 := by omega
    refine k_iload (p0 := 25) dX2_init_24 rfl rfl ?_
    refine k_aload (p0 := 26) dX2_init_25 rfl rfl ?_
    refine i_getf dX2_init_26 fX2_11 get_this rfl ?_
    refine i_alenq dX2_init_29 (get_app (i := 0)) ?_
    refine i_icmp_ge (tgt := 52) dX2_init_30 rfl (fun _ => ?_) (fun c => absurd (Int32.le_refl _) c)
    exact k_ret dX2_init_52 rfl k
  | succ m ih =>
    intro j hj
    refine k_iload (p0 := 25) dX2_init_24 rfl rfl ?_
    refine k_aload (p0 := 26) dX2_init_25 rfl rfl ?_
    refine i_getf dX2_init_26 fX2_11 get_this rfl ?_
    refine i_alenq dX2_init_29 (get_app (i := 0)) ?_
    refine i_icmp_ge (tgt := 52) dX2_init_30 rfl (fun c => absurd c (nI_ge (by omega) (by omega))) (fun _ => ?_)
    refine k_aload (p0 := 34) dX2_init_33 rfl rfl ?_
    refine i_getf dX2_init_34 fX2_11 get_this rfl ?_
    refine k_iload (p0 := 38) dX2_init_37 rfl rfl ?_
    have hlen : (h ++ (.inl (2, [ar (h.length + 1), ai (nI 0), ai (nI 0)]) :: (.inr (.inr (4, qf (h.length + 2) j)) :: tws (h.length + 2) j)) : AH).length = h.length + 2 + 5 * j := by
      rw [List.length_append, List.length_cons, List.length_cons, tws_len]; omega
    refine k_new (p0 := 41) (ci := 8) (fs := [an, an, ai 0, ai 0, ai 0, ai 0]) (n := h.length + 2 + 5 * j) (a1 := 5 * m + 4) (b1 := 193 * m + 187) dX2_init_38 rfl kX2_9 eX8 jX8 rfl dvX8 hlen rfl (by omega) (by omega) ?_
    refine k_dup (p0 := 42) dX2_init_41 rfl ?_
    refine k_ctor (p0 := 45) (r1 := mX8_init) (As := []) (n := h.length + 2 + 5 * j) (a := 5 * m) (b := 193 * m) dX2_init_42 (Or.inl lX2_24) vX8_init rfl (FITi rfl rfl) (Nat.le_of_ble_eq_true rfl) hlen rfl (by omega) (by omega) ct_X8 rfl ?_
    have e1 : (h ++ (.inl (2, [ar (h.length + 1), ai (nI 0), ai (nI 0)]) :: (.inr (.inr (4, qf (h.length + 2) j)) :: tws (h.length + 2) j)) : AH) ++ towC (h.length + 2 + 5 * j) = h ++ (.inl (2, [ar (h.length + 1), ai (nI 0), ai (nI 0)]) :: (.inr (.inr (4, qf (h.length + 2) j)) :: tws (h.length + 2) (j + 1))) := by
      simp [tws]
    refine WPr.heap e1 ?_
    have e2 : (h ++ (.inl (2, [ar (h.length + 1), ai (nI 0), ai (nI 0)]) :: (.inr (.inr (4, qf (h.length + 2) j)) :: tws (h.length + 2) (j + 1))) : AH)[h.length + 2 + 5 * j]? = some (.inl (8, [ar (h.length + 2 + 5 * j + 1), ar (h.length + 2 + 5 * j + 3), ai (nI 0), ai (nI 8), ai (nI 1), ai (nI 0)])) := by
      rw [List.getElem?_append_right (by omega), show h.length + 2 + 5 * j - h.length = 5 * j + 1 + 1 by omega, List.getElem?_cons_succ, List.getElem?_cons_succ, tws, List.getElem?_append_right (by rw [tws_len]; omega), tws_len, Nat.sub_self]
      rfl
    refine i_aast dX2_init_45 (get_app (i := 0)) e2 (vp_in_nI (show j < 4 by omega) (by decide)) ?_
    rw [show h.length + 1 = h.length + 1 + 0 from rfl, set_app, nI_clamp (by omega), qf_step]
    refine k_iinc (p0 := 49) (l2 := [_, _]) (y := nI (j + 1)) dX2_init_46 rfl (nI_1 j) rfl rfl ?_
    refine k_goto (p0 := 24) dX2_init_49 rfl ?_
    exact ih (j + 1) (by omega)
def chk_X2 (n : Nat) : AH := .inl (2, [ar (n + 1), ai (nI 0), ai (nI 0)]) :: (.inr (.inr (4, qf (n + 2) 4)) :: tws (n + 2) 4)
set_option maxRecDepth 20000 in
set_option maxHeartbeats 2000000 in
theorem ct_X2 : CT mX2_init [] (.inl (2, [an, ai 0, ai 0])) 21 776 chk_X2 := by
  intro h
  refine C.enter (ls := [some (ar h.length), none]) rfl ?_
  refine k_aload (p0 := 1) dX2_init_0 rfl rfl ?_
  refine k_objI (p0 := 4) dX2_init_1 lX2_3 (Nat.le_of_ble_eq_true rfl) (Nat.le_of_ble_eq_true rfl) (Nat.le_of_ble_eq_true rfl) rfl ?_
  refine k_aload (p0 := 5) dX2_init_4 rfl rfl ?_
  refine k_iconst (p0 := 6) (v := nI 4) dX2_init_5 rfl rfl ?_
  have z : ∀ Q, (Q none (h ++ chk_X2 h.length)) → WPr mX2_init Q 6 [some (ar h.length), none] (ai (nI 4) :: [ar h.length]) (h ++ [.inl (2, [an, ai 0, ai 0])]) (20 + 1) (772 + 4) := by
    intro Q kq
    refine i_newq (N := 4) dX2_init_6 kX2_9 (nI_pos (by decide)) (nI_clamp (by decide)) (by decide) ?_
    rw [show (h ++ [Sum.inl (2, [an, ai 0, ai 0])] : AH).length = h.length + 1 by rw [List.length_append]; rfl]
    refine WPr.heap (app_this (l := [])) ?_
    refine k_put (p0 := 12) (fs2 := [_, _, _]) dX2_init_9 fX2_11 (Or.inr ⟨rfl, nX2_0⟩) (pX2_0 _) (Nat.le_of_ble_eq_true rfl) rfl rfl ?_
    refine k_aload (p0 := 13) dX2_init_12 rfl rfl ?_
    refine k_iconst (p0 := 14) (v := nI 0) dX2_init_13 rfl rfl ?_
    refine k_put (p0 := 17) (fs2 := [_, _, _]) dX2_init_14 fX2_17 (Or.inl nX2_1) (pX2_1 _) (Nat.le_of_ble_eq_true rfl) rfl rfl ?_
    refine k_aload (p0 := 18) dX2_init_17 rfl rfl ?_
    refine k_iconst (p0 := 19) (v := nI 0) dX2_init_18 rfl rfl ?_
    refine k_put (p0 := 22) (fs2 := [_, _, _]) dX2_init_19 fX2_21 (Or.inl nX2_2) (pX2_2 _) (Nat.le_of_ble_eq_true rfl) rfl rfl ?_
    refine k_iconst (p0 := 23) (v := nI 0) dX2_init_22 rfl rfl ?_
    refine k_istore (p0 := 24) (l2 := [_, _]) dX2_init_23 (Nat.le_of_ble_eq_true rfl) rfl rfl ?_
    have e : (fun _ => none : Nat → Option Nat) = qf (h.length + 2) 0 := by funext k; simp [qf]
    rw [e]
    exact hist_loop kq 4 0 rfl
  exact z _ ⟨rfl, rfl⟩
def chk_X9 (n : Nat) : AH := .inl (9, [ar (n + 1), ar (n + 6), ar (n + 11), ar (n + 33), ar (n + 72), ar (n + 73), ar (n + 76)]) :: (((((((([] : AH) ++ towC (n + 1)) ++ towC (n + 6)) ++ chk_X2 (n + 11)) ++ chk_X6 (n + 33)) ++ chk_X1 (n + 72)) ++ chk_X0 (n + 73)) ++ chk_X5 (n + 76))
set_option maxRecDepth 20000 in
set_option maxHeartbeats 2000000 in
theorem ct_X9 : CT mX9_init [] (.inl (9, [an, an, an, an, an, an, an])) 78 4051 chk_X9 := by
  intro h
  refine C.enter (ls := [some (ar h.length)]) rfl ?_
  refine k_aload (p0 := 1) dX9_init_0 rfl rfl ?_
  refine k_objI (p0 := 4) dX9_init_1 lX9_1 (Nat.le_of_ble_eq_true rfl) (Nat.le_of_ble_eq_true rfl) (Nat.le_of_ble_eq_true rfl) rfl ?_
  refine k_aload (p0 := 5) dX9_init_4 rfl rfl ?_
  refine k_new (p0 := 8) (ci := 8) (fs := [an, an, ai 0, ai 0, ai 0, ai 0]) (n := h.length + 1) (a1 := 77) (b1 := 4045) dX9_init_5 rfl kX9_7 eX8 jX8 rfl dvX8 (len_this rfl) rfl rfl rfl ?_
  refine k_dup (p0 := 9) dX9_init_8 rfl ?_
  refine k_ctor (p0 := 12) (r1 := mX8_init) (As := []) (n := h.length + 1) (a := 73) (b := 3858) dX9_init_9 (Or.inl lX9_9) vX8_init rfl (FITi rfl rfl) (Nat.le_of_ble_eq_true rfl) (len_this rfl) rfl rfl rfl (ct_X8) rfl ?_
  refine WPr.heap app_this ?_
  refine k_put (p0 := 15) (fs2 := [_, _, _, _, _, _, _]) dX9_init_12 fX9_10 (Or.inr ⟨rfl, nX9_0⟩) (pX9_0 _) (Nat.le_of_ble_eq_true rfl) rfl rfl ?_
  refine k_aload (p0 := 16) dX9_init_15 rfl rfl ?_
  refine k_new (p0 := 19) (ci := 8) (fs := [an, an, ai 0, ai 0, ai 0, ai 0]) (n := h.length + 6) (a1 := 72) (b1 := 3852) dX9_init_16 rfl kX9_7 eX8 jX8 rfl dvX8 (len_this rfl) rfl rfl rfl ?_
  refine k_dup (p0 := 20) dX9_init_19 rfl ?_
  refine k_ctor (p0 := 23) (r1 := mX8_init) (As := []) (n := h.length + 6) (a := 68) (b := 3665) dX9_init_20 (Or.inl lX9_9) vX8_init rfl (FITi rfl rfl) (Nat.le_of_ble_eq_true rfl) (len_this rfl) rfl rfl rfl (ct_X8) rfl ?_
  refine WPr.heap app_this ?_
  refine k_put (p0 := 26) (fs2 := [_, _, _, _, _, _, _]) dX9_init_23 fX9_16 (Or.inr ⟨rfl, nX9_1⟩) (pX9_1 _) (Nat.le_of_ble_eq_true rfl) rfl rfl ?_
  refine k_aload (p0 := 27) dX9_init_26 rfl rfl ?_
  refine k_new (p0 := 30) (ci := 2) (fs := [an, ai 0, ai 0]) (n := h.length + 11) (a1 := 67) (b1 := 3662) dX9_init_27 rfl kX9_19 eX2 jX2 rfl dvX2 (len_this rfl) rfl rfl rfl ?_
  refine k_dup (p0 := 31) dX9_init_30 rfl ?_
  refine k_ctor (p0 := 34) (r1 := mX2_init) (As := []) (n := h.length + 11) (a := 46) (b := 2886) dX9_init_31 (Or.inl lX9_21) vX2_init rfl (FITi rfl rfl) (Nat.le_of_ble_eq_true rfl) (len_this rfl) rfl rfl rfl (ct_X2) rfl ?_
  refine WPr.heap app_this ?_
  refine k_put (p0 := 37) (fs2 := [_, _, _, _, _, _, _]) dX9_init_34 fX9_22 (Or.inr ⟨rfl, nX9_2⟩) (pX9_2 _) (Nat.le_of_ble_eq_true rfl) rfl rfl ?_
  refine k_aload (p0 := 38) dX9_init_37 rfl rfl ?_
  refine k_new (p0 := 41) (ci := 6) (fs := [an, an, an, an, an, an, an, an, ai 0]) (n := h.length + 33) (a1 := 45) (b1 := 2877) dX9_init_38 rfl kX9_26 eX6 jX6 rfl dvX6 (len_this rfl) rfl rfl rfl ?_
  refine k_dup (p0 := 42) dX9_init_41 rfl ?_
  refine k_ctor (p0 := 45) (r1 := mX6_init) (As := []) (n := h.length + 33) (a := 7) (b := 100) dX9_init_42 (Or.inr lX9_28) vX6_init rfl (FITi rfl rfl) (Nat.le_of_ble_eq_true rfl) (len_this rfl) rfl rfl rfl (ct_X6) rfl ?_
  refine WPr.heap app_this ?_
  refine k_put (p0 := 48) (fs2 := [_, _, _, _, _, _, _]) dX9_init_45 fX9_29 (Or.inr ⟨rfl, nX9_3⟩) (pX9_3 _) (Nat.le_of_ble_eq_true rfl) rfl rfl ?_
  refine k_aload (p0 := 49) dX9_init_48 rfl rfl ?_
  refine k_new (p0 := 52) (ci := 1) (fs := [ai 0, ai 0, ai 0, ai 0, ai 0]) (n := h.length + 72) (a1 := 6) (b1 := 95) dX9_init_49 rfl kX9_33 eX1 jX1 rfl dvX1 (len_this rfl) rfl rfl rfl ?_
  refine k_dup (p0 := 53) dX9_init_52 rfl ?_
  refine k_ctor (p0 := 56) (r1 := mX1_init) (As := []) (n := h.length + 72) (a := 6) (b := 95) dX9_init_53 (Or.inr lX9_35) vX1_init rfl (FITi rfl rfl) (Nat.le_of_ble_eq_true rfl) (len_this rfl) rfl rfl rfl (ct_X1) rfl ?_
  refine WPr.heap app_this ?_
  refine k_put (p0 := 59) (fs2 := [_, _, _, _, _, _, _]) dX9_init_56 fX9_36 (Or.inr ⟨rfl, nX9_4⟩) (pX9_4 _) (Nat.le_of_ble_eq_true rfl) rfl rfl ?_
  refine k_aload (p0 := 60) dX9_init_59 rfl rfl ?_
  refine k_new (p0 := 63) (ci := 0) (fs := [an, ai 0, ai 0, ai 0]) (n := h.length + 73) (a1 := 5) (b1 := 91) dX9_init_60 rfl kX9_40 eX0 jX0 rfl dvX0 (len_this rfl) rfl rfl rfl ?_
  refine k_dup (p0 := 64) dX9_init_63 rfl ?_
  refine k_ctor (p0 := 67) (r1 := mX0_init) (As := []) (n := h.length + 73) (a := 3) (b := 65) dX9_init_64 (Or.inr lX9_42) vX0_init rfl (FITi rfl rfl) (Nat.le_of_ble_eq_true rfl) (len_this rfl) rfl rfl rfl (ct_X0) rfl ?_
  refine WPr.heap app_this ?_
  refine k_put (p0 := 70) (fs2 := [_, _, _, _, _, _, _]) dX9_init_67 fX9_43 (Or.inr ⟨rfl, nX9_5⟩) (pX9_5 _) (Nat.le_of_ble_eq_true rfl) rfl rfl ?_
  refine k_aload (p0 := 71) dX9_init_70 rfl rfl ?_
  refine k_new (p0 := 74) (ci := 5) (fs := [an, ai 0, ai 0, ai 0]) (n := h.length + 76) (a1 := 2) (b1 := 61) dX9_init_71 rfl kX9_47 eX5 jX5 rfl dvX5 (len_this rfl) rfl rfl rfl ?_
  refine k_dup (p0 := 75) dX9_init_74 rfl ?_
  refine k_ctor (p0 := 78) (r1 := mX5_init) (As := []) (n := h.length + 76) (a := 0) (b := 0) dX9_init_75 (Or.inr lX9_49) vX5_init rfl (FITi rfl rfl) (Nat.le_of_ble_eq_true rfl) (len_this rfl) rfl rfl rfl (ct_X5) rfl ?_
  refine WPr.heap app_this ?_
  refine k_put (p0 := 81) (fs2 := [_, _, _, _, _, _, _]) dX9_init_78 fX9_50 (Or.inr ⟨rfl, nX9_6⟩) (pX9_6 _) (Nat.le_of_ble_eq_true rfl) rfl rfl ?_
  exact k_ret dX9_init_81 rfl ⟨rfl, rfl⟩
/-- the memory that a heap holds -/
def rdS (h : AH) : Sg := fun c k => match h[c]? with
  | some (.inl (_, fs)) => (match fs[k]? with | some (.inl x) => x | _ => 0)
  | some (.inr (.inl (_, f))) => f k
  | _ => 0
