/-! THE CLASS: out of the rows of whole -/
theorem k_aload {r : MR} {Q : AP} {pc p0 : Nat} {ls : List (Option AV)} {st : List AV} {h : AH} {a b : Nat} {k : Fin 4} {x : Nat} (d : decode (rc r) pc = .ok (.aload_n k, 1)) (h3 : ls[(k : Nat)]? = some (some (ar x))) (e : pc + 1 = p0) (kk : WPr r Q p0 ls (ar x :: st) h a b) : WPr r Q pc ls st h a b := by
  subst e; exact i_aload_n d rfl h3 kk
theorem k_iload {r : MR} {Q : AP} {pc p0 : Nat} {ls : List (Option AV)} {st : List AV} {h : AH} {a b : Nat} {k : Fin 4} {x : Int32} (d : decode (rc r) pc = .ok (.iload_n k, 1)) (h3 : ls[(k : Nat)]? = some (some (ai x))) (e : pc + 1 = p0) (kk : WPr r Q p0 ls (ai x :: st) h a b) : WPr r Q pc ls st h a b := by
  subst e; exact i_iload_n d rfl h3 kk
theorem k_iconst {r : MR} {Q : AP} {pc p0 : Nat} {ls : List (Option AV)} {st : List AV} {h : AH} {a b : Nat} {n : Int} {v : Int32} (d : decode (rc r) pc = .ok (.iconst n, 1)) (h2 : Int32.ofInt n = v) (e : pc + 1 = p0) (kk : WPr r Q p0 ls (ai v :: st) h a b) : WPr r Q pc ls st h a b := by
  subst e; exact i_iconst d h2 kk
theorem k_bipush {r : MR} {Q : AP} {pc p0 : Nat} {ls : List (Option AV)} {st : List AV} {h : AH} {a b : Nat} {n : Int} {v : Int32} (d : decode (rc r) pc = .ok (.bipush n, 2)) (h2 : (Int8.ofInt n).toInt32 = v) (e : pc + 2 = p0) (kk : WPr r Q p0 ls (ai v :: st) h a b) : WPr r Q pc ls st h a b := by
  subst e; exact i_bipush d h2 kk
theorem k_sipush {r : MR} {Q : AP} {pc p0 : Nat} {ls : List (Option AV)} {st : List AV} {h : AH} {a b : Nat} {n : Int} {v : Int32} (d : decode (rc r) pc = .ok (.sipush n, 3)) (h2 : (Int16.ofInt n).toInt32 = v) (e : pc + 3 = p0) (kk : WPr r Q p0 ls (ai v :: st) h a b) : WPr r Q pc ls st h a b := by
  subst e; exact i_sipush d h2 kk
theorem k_istore {r : MR} {Q : AP} {pc p0 : Nat} {ls : List (Option AV)} {st : List AV} {h : AH} {a b : Nat} {k : Fin 4} {x : Int32} {l2 : List (Option AV)} (d : decode (rc r) pc = .ok (.istore_n k, 1)) (hl : (k : Nat) < ls.length) (el : ls.set (k : Nat) (some (ai x)) = l2) (e : pc + 1 = p0) (kk : WPr r Q p0 l2 st h a b) : WPr r Q pc ls (ai x :: st) h a b := by
  subst e; subst el; exact i_istore_n d rfl hl kk
theorem k_iinc {r : MR} {Q : AP} {pc p0 : Nat} {ls : List (Option AV)} {st : List AV} {h : AH} {a b : Nat} {i : Nat} {n : Int} {x y : Int32} {l2 : List (Option AV)} (d : decode (rc r) pc = .ok (.iinc i n, 3)) (h2 : ls[i]? = some (some (ai x))) (hy : x + Int32.ofInt n = y) (el : ls.set i (some (ai y)) = l2) (e : pc + 3 = p0) (kk : WPr r Q p0 l2 st h a b) : WPr r Q pc ls st h a b := by
  subst e; subst hy; subst el; exact i_iinc d h2 kk
theorem k_goto {r : MR} {Q : AP} {pc p0 : Nat} {ls : List (Option AV)} {st : List AV} {h : AH} {a b : Nat} {off : Int} (d : decode (rc r) pc = .ok (.goto off, 3)) (e : (pc : Int) + off = (p0 : Int)) (kk : WPr r Q p0 ls st h a b) : WPr r Q pc ls st h a b := i_goto d e kk
theorem k_dup {r : MR} {Q : AP} {pc p0 : Nat} {ls : List (Option AV)} {st : List AV} {h : AH} {a b : Nat} {v : AV} (d : decode (rc r) pc = .ok (.dup, 1)) (e : pc + 1 = p0) (kk : WPr r Q p0 ls (v :: v :: st) h a b) : WPr r Q pc ls (v :: st) h a b := by
  subst e; exact i_dup d kk
theorem k_ret {r : MR} {Q : AP} {pc : Nat} {ls : List (Option AV)} {h : AH} {a b : Nat} (d : decode (rc r) pc = .ok (.return_, 1)) (h2 : rt r = none) (q : Q none h) : WPr r Q pc ls [] h a b := i_return d h2 q
theorem k_objI {r : MR} {Q : AP} {pc p0 : Nat} {ls : List (Option AV)} {st : List AV} {h : AH} {a b : Nat} {i x : Nat} (d : decode (rc r) pc = .ok (.invokespecial i, 3)) (h2 : Cond.methodLink (ro r) i objectInit ∈ Wl) (h3 : st.length ≤ 8) (h4 : 1 ≤ rf r) (h5 : 20 ≤ rl r) (e : pc + 3 = p0) (kk : WPr r Q p0 ls st h a b) : WPr r Q pc ls (ar x :: st) h a b := by
  subst e; exact i_obj d h2 h3 h4 h5 kk
theorem get_this {h l : AH} {y : AC} : (h ++ (y :: l))[h.length]? = some y := by
  rw [List.getElem?_append_right (Nat.le_refl _), Nat.sub_self]; rfl
theorem set_this {h l : AH} {y z : AC} : (h ++ (y :: l)).set h.length z = h ++ (z :: l) := by
  rw [List.set_append_right _ _ (Nat.le_refl _), Nat.sub_self]; rfl
/-- a field of the object that is made -/
theorem k_put {r : MR} {Q : AP} {pc p0 : Nat} {ls : List (Option AV)} {st : List AV} {h l : AH} {a b i ci k : Nat} {fs fs2 : List AV} {v : AV} (d : decode (rc r) pc = .ok (.putfield i, 3)) (h2 : FL (ro r) i ci k) (h3 : FN ci k ∨ ((ry r).name = "<init>" ∧ FF (ro r) ci k)) (h4 : FP ci k v) (hk : k < fs.length) (ef : fs.set k v = fs2) (e : pc + 3 = p0) (kk : WPr r Q p0 ls st (h ++ (.inl (ci, fs2) :: l)) a b) : WPr r Q pc ls (v :: ar h.length :: st) (h ++ (.inl (ci, fs) :: l)) a b := by
  subst e; subst ef
  refine i_putf d h2 h3 h4 get_this hk ?_
  rw [set_this]
  exact kk
/-- what a constructor makes: the object, and what it reaches -/
def CT (r1 : MR) (As : List AV) (y : AC) (a b : Nat) (ch : Nat → AH) : Prop := ∀ h : AH, C r1 (ar h.length :: As) (h ++ [y]) a b (fun w h' => w = none ∧ h' = h ++ ch h.length)
theorem k_new {r : MR} {Q : AP} {pc p0 : Nat} {ls : List (Option AV)} {st : List AV} {h : AH} {a b : Nat} {i ci N a1 b1 : Nat} {C0 : String} {T : u_T} {fs : List AV} {n : Nat} (d : decode (rc r) pc = .ok (.new i, 3)) (hc : vwCl[ci]? = some (C0, T, N)) (h3 : Cond.classLink (ro r) i C0 ∈ Wl) (h4 : Cond.instantiable C0 N ∈ Wl) (h5 : Cond.initialized C0 ∈ Wl) (h6 : fs.length = N) (h7 : ∀ j, j < N → (parseFieldDescriptor (T j).2.2.1).map defaultValue = some (cv 0 (fs.getD j an)) ∧ (∀ q, fs[j]? ≠ some (ar q))) (hn : h.length = n) (e : pc + 3 = p0) (ea : a1 + 1 = a) (eb : b1 + N = b) (kk : WPr r Q p0 ls (ar n :: st) (h ++ [.inl (ci, fs)]) a1 b1) : WPr r Q pc ls st h a b := by
  subst e; subst hn; subst ea; subst eb
  exact i_new d hc h3 h4 h5 h6 h7 kk
theorem k_ctor {r : MR} {Q : AP} {pc p0 : Nat} {ls : List (Option AV)} {st st0 : List AV} {h : AH} {y : AC} {a b a0 b0 a1 b1 i m n : Nat} {r1 : MR} {As : List AV} {ch : Nat → AH} (d : decode (rc r) pc = .ok (.invokespecial i, 3)) (h2 : Cond.methodLink (ro r) i (ry r1) ∈ Wl ∨ (ro r, i, ry r1) ∈ nestL) (h3 : MI r1 m) (hm : As.length = m) (hf : FIT r1 r) (hl : st.length ≤ 8) (hn : h.length = n) (hst : As.reverse ++ ar n :: st = st0) (ea : a1 + a = a0) (eb : b1 + b = b0) (ct : CT r1 As y a1 b1 ch) (e : pc + 3 = p0) (kk : WPr r Q p0 ls st (h ++ ch n) a b) : WPr r Q pc ls st0 (h ++ [y]) a0 b0 := by
  subst e; subst hn; subst hst; subst ea; subst eb; subst hm
  refine i_callI d h2 h3 hf hl ?_
  refine C.mono (ct h) ?_
  rintro w h' ⟨rfl, rfl⟩
  exact kk
theorem app_this {h l m : AH} {y : AC} : (h ++ (y :: l)) ++ m = h ++ (y :: (l ++ m)) := by simp
theorem WPr.heap {r : MR} {Q : AP} {pc : Nat} {ls : List (Option AV)} {st : List AV} {h h2 : AH} {a b : Nat} (e : h = h2) (k : WPr r Q pc ls st h2 a b) : WPr r Q pc ls st h a b := e ▸ k
theorem C.enter {r : MR} {as : List AV} {h : AH} {a b : Nat} {Q : AP} {ls : List (Option AV)} (e : lsOf r as = ls) (k : WPr r Q 0 ls [] h a b) : C r as h a b Q := by
  subst e; exact k
theorem len_this {h l : AH} {y : AC} {n : Nat} (e : l.length + 1 = n) : (h ++ (y :: l)).length = h.length + n := by
  rw [List.length_append, List.length_cons, e]
def rowC (len n : Nat) : AH := [.inl (7, [ar (n + 1)]), .inr (.inl (len, fun _ => 0))]
def idn (j : Nat) : Nat → Int32 := fun k => if k < j then nI k else 0
def towC (n : Nat) : AH := [.inl (8, [ar (n + 1), ar (n + 3), ai (nI 0), ai (nI 8), ai (nI 1), ai (nI 0)]), .inl (7, [ar (n + 2)]), .inr (.inl (160, fun _ => 0)), .inl (7, [ar (n + 4)]), .inr (.inl (25, idn 25))]
set_option maxRecDepth 20000 in
set_option maxHeartbeats 2000000 in
theorem ct_Row {len : Nat} (h0 : 0 < len) (h1 : len ≤ 1000) : CT mX7_init [ai (nI len)] (.inl (7, [an])) 1 len (rowC len) := by
  intro h
  refine C.enter (ls := [some (ar h.length), some (ai (nI len))]) rfl ?_
  refine k_aload (p0 := 1) dX7_init_0 rfl rfl ?_
  refine k_objI (p0 := 4) dX7_init_1 lX7_1 (Nat.le_of_ble_eq_true rfl) (Nat.le_of_ble_eq_true rfl) (Nat.le_of_ble_eq_true rfl) rfl ?_
  refine k_aload (p0 := 5) dX7_init_4 rfl rfl ?_
  refine k_iload (p0 := 6) dX7_init_5 rfl rfl ?_
  refine i_if_le (tgt := 13) dX7_init_6 rfl (fun c => absurd c (nI_nle h0 (by omega))) (fun c => ?_)
  refine k_iload (p0 := 10) dX7_init_9 rfl rfl ?_
  refine k_goto (p0 := 14) dX7_init_10 rfl ?_
  have z : WPr mX7_init (fun w h' => w = none ∧ h' = h ++ rowC len h.length) 14 [some (ar h.length), some (ai (nI len))] (ai (nI len) :: [ar h.length]) (h ++ [.inl (7, [an])]) (0 + 1) (0 + len) := by
    refine i_newi (N := len) dX7_init_14 (nI_pos (by omega)) (nI_clamp (by omega)) h1 ?_
    rw [show (h ++ [Sum.inl (7, [an])] : AH).length = h.length + 1 by rw [List.length_append]; rfl]
    rw [show (h ++ [Sum.inl (7, [an])] ++ [Sum.inr (Sum.inl (len, fun _ => 0))] : AH) = h ++ (Sum.inl (7, [an]) :: [Sum.inr (Sum.inl (len, fun _ => 0))]) by simp]
    refine k_put (p0 := 19) dX7_init_16 fX7_7 (Or.inr ⟨rfl, nX7_0⟩) (pX7_0 _) (Nat.le_of_ble_eq_true rfl) rfl rfl ?_
    exact k_ret dX7_init_19 rfl ⟨rfl, rfl⟩
  rw [Nat.zero_add, Nat.zero_add] at z
  exact z
theorem dvX0 : ∀ j, j < 4 → (parseFieldDescriptor (TX0 j).2.2.1).map defaultValue = some (cv 0 (([an, ai 0, ai 0, ai 0] : List AV).getD j an)) ∧ (∀ q, ([an, ai 0, ai 0, ai 0] : List AV)[j]? ≠ some (ar q)) := by
  intro j hj
  rw [tyX0_ok j hj]
  match j, hj with
  | 0, _ => exact ⟨rfl, fun q => by simp⟩
  | 1, _ => exact ⟨rfl, fun q => by simp⟩
  | 2, _ => exact ⟨rfl, fun q => by simp⟩
  | 3, _ => exact ⟨rfl, fun q => by simp⟩
  | k + 4, h => exact absurd h (by omega)
theorem dvX1 : ∀ j, j < 5 → (parseFieldDescriptor (TX1 j).2.2.1).map defaultValue = some (cv 0 (([ai 0, ai 0, ai 0, ai 0, ai 0] : List AV).getD j an)) ∧ (∀ q, ([ai 0, ai 0, ai 0, ai 0, ai 0] : List AV)[j]? ≠ some (ar q)) := by
  intro j hj
  rw [tyX1_ok j hj]
  match j, hj with
  | 0, _ => exact ⟨rfl, fun q => by simp⟩
  | 1, _ => exact ⟨rfl, fun q => by simp⟩
  | 2, _ => exact ⟨rfl, fun q => by simp⟩
  | 3, _ => exact ⟨rfl, fun q => by simp⟩
  | 4, _ => exact ⟨rfl, fun q => by simp⟩
  | k + 5, h => exact absurd h (by omega)
theorem dvX2 : ∀ j, j < 3 → (parseFieldDescriptor (TX2 j).2.2.1).map defaultValue = some (cv 0 (([an, ai 0, ai 0] : List AV).getD j an)) ∧ (∀ q, ([an, ai 0, ai 0] : List AV)[j]? ≠ some (ar q)) := by
  intro j hj
  rw [tyX2_ok j hj]
  match j, hj with
  | 0, _ => exact ⟨rfl, fun q => by simp⟩
  | 1, _ => exact ⟨rfl, fun q => by simp⟩
  | 2, _ => exact ⟨rfl, fun q => by simp⟩
  | k + 3, h => exact absurd h (by omega)
theorem dvX3 : ∀ j, j < 6 → (parseFieldDescriptor (TX3 j).2.2.1).map defaultValue = some (cv 0 (([an, an, an, an, an, ai 0] : List AV).getD j an)) ∧ (∀ q, ([an, an, an, an, an, ai 0] : List AV)[j]? ≠ some (ar q)) := by
  intro j hj
  rw [tyX3_ok j hj]
  match j, hj with
  | 0, _ => exact ⟨rfl, fun q => by simp⟩
  | 1, _ => exact ⟨rfl, fun q => by simp⟩
  | 2, _ => exact ⟨rfl, fun q => by simp⟩
  | 3, _ => exact ⟨rfl, fun q => by simp⟩
  | 4, _ => exact ⟨rfl, fun q => by simp⟩
  | 5, _ => exact ⟨rfl, fun q => by simp⟩
  | k + 6, h => exact absurd h (by omega)
theorem dvX4 : ∀ j, j < 8 → (parseFieldDescriptor (TX4 j).2.2.1).map defaultValue = some (cv 0 (([an, an, an, an, an, an, an, ai 0] : List AV).getD j an)) ∧ (∀ q, ([an, an, an, an, an, an, an, ai 0] : List AV)[j]? ≠ some (ar q)) := by
  intro j hj
  rw [tyX4_ok j hj]
  match j, hj with
  | 0, _ => exact ⟨rfl, fun q => by simp⟩
  | 1, _ => exact ⟨rfl, fun q => by simp⟩
  | 2, _ => exact ⟨rfl, fun q => by simp⟩
  | 3, _ => exact ⟨rfl, fun q => by simp⟩
  | 4, _ => exact ⟨rfl, fun q => by simp⟩
  | 5, _ => exact ⟨rfl, fun q => by simp⟩
  | 6, _ => exact ⟨rfl, fun q => by simp⟩
  | 7, _ => exact ⟨rfl, fun q => by simp⟩
  | k + 8, h => exact absurd h (by omega)
theorem dvX5 : ∀ j, j < 4 → (parseFieldDescriptor (TX5 j).2.2.1).map defaultValue = some (cv 0 (([an, ai 0, ai 0, ai 0] : List AV).getD j an)) ∧ (∀ q, ([an, ai 0, ai 0, ai 0] : List AV)[j]? ≠ some (ar q)) := by
  intro j hj
  rw [tyX5_ok j hj]
  match j, hj with
  | 0, _ => exact ⟨rfl, fun q => by simp⟩
  | 1, _ => exact ⟨rfl, fun q => by simp⟩
  | 2, _ => exact ⟨rfl, fun q => by simp⟩
  | 3, _ => exact ⟨rfl, fun q => by simp⟩
  | k + 4, h => exact absurd h (by omega)
theorem dvX6 : ∀ j, j < 9 → (parseFieldDescriptor (TX6 j).2.2.1).map defaultValue = some (cv 0 (([an, an, an, an, an, an, an, an, ai 0] : List AV).getD j an)) ∧ (∀ q, ([an, an, an, an, an, an, an, an, ai 0] : List AV)[j]? ≠ some (ar q)) := by
  intro j hj
  rw [tyX6_ok j hj]
  match j, hj with
  | 0, _ => exact ⟨rfl, fun q => by simp⟩
  | 1, _ => exact ⟨rfl, fun q => by simp⟩
  | 2, _ => exact ⟨rfl, fun q => by simp⟩
  | 3, _ => exact ⟨rfl, fun q => by simp⟩
  | 4, _ => exact ⟨rfl, fun q => by simp⟩
  | 5, _ => exact ⟨rfl, fun q => by simp⟩
  | 6, _ => exact ⟨rfl, fun q => by simp⟩
  | 7, _ => exact ⟨rfl, fun q => by simp⟩
  | 8, _ => exact ⟨rfl, fun q => by simp⟩
  | k + 9, h => exact absurd h (by omega)
theorem dvX7 : ∀ j, j < 1 → (parseFieldDescriptor (TX7 j).2.2.1).map defaultValue = some (cv 0 (([an] : List AV).getD j an)) ∧ (∀ q, ([an] : List AV)[j]? ≠ some (ar q)) := by
  intro j hj
  rw [tyX7_ok j hj]
  match j, hj with
  | 0, _ => exact ⟨rfl, fun q => by simp⟩
  | k + 1, h => exact absurd h (by omega)
theorem dvX8 : ∀ j, j < 6 → (parseFieldDescriptor (TX8 j).2.2.1).map defaultValue = some (cv 0 (([an, an, ai 0, ai 0, ai 0, ai 0] : List AV).getD j an)) ∧ (∀ q, ([an, an, ai 0, ai 0, ai 0, ai 0] : List AV)[j]? ≠ some (ar q)) := by
  intro j hj
  rw [tyX8_ok j hj]
  match j, hj with
  | 0, _ => exact ⟨rfl, fun q => by simp⟩
  | 1, _ => exact ⟨rfl, fun q => by simp⟩
  | 2, _ => exact ⟨rfl, fun q => by simp⟩
  | 3, _ => exact ⟨rfl, fun q => by simp⟩
  | 4, _ => exact ⟨rfl, fun q => by simp⟩
  | 5, _ => exact ⟨rfl, fun q => by simp⟩
  | k + 6, h => exact absurd h (by omega)
set_option maxRecDepth 20000 in
set_option maxHeartbeats 2000000 in
theorem put_ah {h : AH} {r a n j : Nat} {f : Nat → Int32} {x : Int32} (h1 : h[r]? = some (.inl (7, [ar a]))) (h2 : h[a]? = some (.inr (.inl (n, f)))) (hn : n ≤ 1000) (hj : j < n) : C mX7_put [ar r, ai (nI j), ai x] h 0 0 (fun w h' => w = none ∧ h' = h.set a (.inr (.inl (n, upd f j x)))) := by
  refine C.enter (ls := [some (ar r), some (ai (nI j)), some (ai x)]) rfl ?_
  refine k_iload (p0 := 1) dX7_put_0 rfl rfl ?_
  refine i_if_lt (tgt := 20) dX7_put_1 rfl (fun c => absurd c (nI_pos (by omega))) (fun _ => ?_)
  refine k_iload (p0 := 5) dX7_put_4 rfl rfl ?_
  refine k_aload (p0 := 6) dX7_put_5 rfl rfl ?_
  refine i_getf dX7_put_6 fX7_7 h1 rfl ?_
  refine i_alen dX7_put_9 h2 ?_
  refine i_icmp_ge (tgt := 20) dX7_put_10 rfl (fun c => absurd c (nI_ge hj (by omega))) (fun _ => ?_)
  refine k_aload (p0 := 14) dX7_put_13 rfl rfl ?_
  refine i_getf dX7_put_14 fX7_7 h1 rfl ?_
  refine k_iload (p0 := 18) dX7_put_17 rfl rfl ?_
  refine k_iload (p0 := 19) dX7_put_18 rfl rfl ?_
  refine i_iast dX7_put_19 h2 (vp_in_nI hj (by omega)) ?_
  rw [nI_clamp (by omega)]
  exact k_ret dX7_put_20 rfl ⟨rfl, rfl⟩
set_option maxRecDepth 20000 in
set_option maxHeartbeats 2000000 in
theorem tower_loop {h : AH} {Q : AP} (k : Q none (h ++ (.inl (8, [ar (h.length + 1), ar (h.length + 3), ai (nI 0), ai (nI 8), ai (nI 1), ai (nI 0)]) :: ([.inl (7, [ar (h.length + 2)]), .inr (.inl (160, fun _ => 0)), .inl (7, [ar (h.length + 4)]), .inr (.inl (25, idn 25))] : AH)))) : ∀ m j, j + m = 25 → WPr mX8_init Q 54 [some (ar h.length), some (ai (nI j))] [] (h ++ (.inl (8, [ar (h.length + 1), ar (h.length + 3), ai (nI 0), ai (nI 8), ai (nI 1), ai (nI 0)]) :: ([.inl (7, [ar (h.length + 2)]), .inr (.inl (160, fun _ => 0)), .inl (7, [ar (h.length + 4)]), .inr (.inl (25, idn j))] : AH))) 0 0 := by
  intro m
  induction m with
  | zero =>
    intro j hj
    obtain rfl : j = 25 := by omega
    refine k_iload (p0 := 55) dX8_init_54 rfl rfl ?_
    refine k_bipush (p0 := 57) (v := nI 25) dX8_init_55 (by decide) rfl ?_
    refine i_icmp_ge (tgt := 75) dX8_init_57 rfl (fun _ => ?_) (fun c => absurd (Int32.le_refl _) c)
    exact k_ret dX8_init_75 rfl k
  | succ m ih =>
    intro j hj
    refine k_iload (p0 := 55) dX8_init_54 rfl rfl ?_
    refine k_bipush (p0 := 57) (v := nI 25) dX8_init_55 (by decide) rfl ?_
    refine i_icmp_ge (tgt := 75) dX8_init_57 rfl (fun c => absurd c (nI_ge (by omega) (by omega))) (fun _ => ?_)
    refine k_aload (p0 := 61) dX8_init_60 rfl rfl ?_
    refine i_getf dX8_init_61 fX8_20 get_this rfl ?_
    refine k_iload (p0 := 65) dX8_init_64 rfl rfl ?_
    refine k_iload (p0 := 66) dX8_init_65 rfl rfl ?_
    have g3 : (h ++ (.inl (8, [ar (h.length + 1), ar (h.length + 3), ai (nI 0), ai (nI 8), ai (nI 1), ai (nI 0)]) :: ([.inl (7, [ar (h.length + 2)]), .inr (.inl (160, fun _ => 0)), .inl (7, [ar (h.length + 4)]), .inr (.inl (25, idn j))] : AH)) : AH)[h.length + 3]? = some (.inl (7, [ar (h.length + 4)])) := by
      rw [List.getElem?_append_right (by omega), show h.length + 3 - h.length = 3 by omega]; rfl
    have g4 : (h ++ (.inl (8, [ar (h.length + 1), ar (h.length + 3), ai (nI 0), ai (nI 8), ai (nI 1), ai (nI 0)]) :: ([.inl (7, [ar (h.length + 2)]), .inr (.inl (160, fun _ => 0)), .inl (7, [ar (h.length + 4)]), .inr (.inl (25, idn j))] : AH)) : AH)[h.length + 4]? = some (.inr (.inl (25, idn j))) := by
      rw [List.getElem?_append_right (by omega), show h.length + 4 - h.length = 4 by omega]; rfl
    have e4 : (h ++ (.inl (8, [ar (h.length + 1), ar (h.length + 3), ai (nI 0), ai (nI 8), ai (nI 1), ai (nI 0)]) :: ([.inl (7, [ar (h.length + 2)]), .inr (.inl (160, fun _ => 0)), .inl (7, [ar (h.length + 4)]), .inr (.inl (25, idn j))] : AH)) : AH).set (h.length + 4) (.inr (.inl (25, upd (idn j) j (nI j)))) = h ++ (.inl (8, [ar (h.length + 1), ar (h.length + 3), ai (nI 0), ai (nI 8), ai (nI 1), ai (nI 0)]) :: ([.inl (7, [ar (h.length + 2)]), .inr (.inl (160, fun _ => 0)), .inl (7, [ar (h.length + 4)]), .inr (.inl (25, idn (j + 1)))] : AH)) := by
      rw [List.set_append_right _ _ (by omega), show h.length + 4 - h.length = 4 by omega]
      have e5 : upd (idn j) j (nI j) = idn (j + 1) := by
        funext i
        by_cases hi : i = j
        · subst hi; simp [upd, idn]
        · have : (i < j + 1) ↔ i < j := by omega
          simp [upd, idn, hi, this]
      rw [e5]; rfl
    have hc := put_ah (x := nI j) g3 g4 (by decide) (show j < 25 by omega)
    rw [e4] at hc
    refine i_callV (r1 := mX7_put) (st := []) (As := [ai (nI j), ai (nI j)]) (a := 0) (b := 0) (a1 := 0) (b1 := 0) dX8_init_66 lX8_37 vX7_put g3 ⟨_, _, rfl⟩ (FITi rfl rfl) (Nat.le_of_ble_eq_true rfl) ?_
    refine C.mono hc ?_
    rintro w h' ⟨rfl, rfl⟩
    refine k_iinc (p0 := 72) (l2 := [_, _]) (y := nI (j + 1)) dX8_init_69 rfl (nI_1 j) rfl rfl ?_
    refine k_goto (p0 := 54) dX8_init_72 rfl ?_
    exact ih (j + 1) (by omega)
set_option maxRecDepth 20000 in
set_option maxHeartbeats 2000000 in
theorem ct_X8 : CT mX8_init [] (.inl (8, [an, an, ai 0, ai 0, ai 0, ai 0])) 4 187 towC := by
  intro h
  refine C.enter (ls := [some (ar h.length), none]) rfl ?_
  refine k_aload (p0 := 1) dX8_init_0 rfl rfl ?_
  refine k_objI (p0 := 4) dX8_init_1 lX8_3 (Nat.le_of_ble_eq_true rfl) (Nat.le_of_ble_eq_true rfl) (Nat.le_of_ble_eq_true rfl) rfl ?_
  refine k_aload (p0 := 5) dX8_init_4 rfl rfl ?_
  refine k_new (p0 := 8) (ci := 7) (fs := [an]) (n := h.length + 1) (a1 := 3) (b1 := 186) dX8_init_5 rfl kX8_9 eX7 jX7 rfl dvX7 (len_this rfl) rfl rfl rfl ?_
  refine k_dup (p0 := 9) dX8_init_8 rfl ?_
  refine k_sipush (p0 := 12) (v := nI 160) dX8_init_9 (by decide) rfl ?_
  refine k_ctor (p0 := 15) (r1 := mX7_init) (As := [ai (nI 160)]) (n := h.length + 1) (a := 2) (b := 26) dX8_init_12 (Or.inl lX8_11) vX7_init rfl (FITi rfl rfl) (Nat.le_of_ble_eq_true rfl) (len_this rfl) rfl rfl rfl (ct_Row (len := 160) (by decide) (by decide)) rfl ?_
  refine WPr.heap app_this ?_
  refine k_put (p0 := 18) (fs2 := [_, _, _, _, _, _]) dX8_init_15 fX8_14 (Or.inr ⟨rfl, nX8_0⟩) (pX8_0 _) (Nat.le_of_ble_eq_true rfl) rfl rfl ?_
  refine k_aload (p0 := 19) dX8_init_18 rfl rfl ?_
  refine k_new (p0 := 22) (ci := 7) (fs := [an]) (n := h.length + 3) (a1 := 1) (b1 := 25) dX8_init_19 rfl kX8_9 eX7 jX7 rfl dvX7 (len_this rfl) rfl rfl rfl ?_
  refine k_dup (p0 := 23) dX8_init_22 rfl ?_
  refine k_bipush (p0 := 25) (v := nI 25) dX8_init_23 (by decide) rfl ?_
  refine k_ctor (p0 := 28) (r1 := mX7_init) (As := [ai (nI 25)]) (n := h.length + 3) (a := 0) (b := 0) dX8_init_25 (Or.inl lX8_11) vX7_init rfl (FITi rfl rfl) (Nat.le_of_ble_eq_true rfl) (len_this rfl) rfl rfl rfl (ct_Row (len := 25) (by decide) (by decide)) rfl ?_
  refine WPr.heap app_this ?_
  refine k_put (p0 := 31) (fs2 := [_, _, _, _, _, _]) dX8_init_28 fX8_20 (Or.inr ⟨rfl, nX8_1⟩) (pX8_1 _) (Nat.le_of_ble_eq_true rfl) rfl rfl ?_
  refine k_aload (p0 := 32) dX8_init_31 rfl rfl ?_
  refine k_iconst (p0 := 33) (v := nI 0) dX8_init_32 rfl rfl ?_
  refine k_put (p0 := 36) (fs2 := [_, _, _, _, _, _]) dX8_init_33 fX8_23 (Or.inl nX8_2) (pX8_2 _) (Nat.le_of_ble_eq_true rfl) rfl rfl ?_
  refine k_aload (p0 := 37) dX8_init_36 rfl rfl ?_
  refine k_bipush (p0 := 39) (v := nI 8) dX8_init_37 (by decide) rfl ?_
  refine k_put (p0 := 42) (fs2 := [_, _, _, _, _, _]) dX8_init_39 fX8_27 (Or.inl nX8_3) (pX8_3 _) (Nat.le_of_ble_eq_true rfl) rfl rfl ?_
  refine k_aload (p0 := 43) dX8_init_42 rfl rfl ?_
  refine k_iconst (p0 := 44) (v := nI 1) dX8_init_43 rfl rfl ?_
  refine k_put (p0 := 47) (fs2 := [_, _, _, _, _, _]) dX8_init_44 fX8_30 (Or.inl nX8_4) (pX8_4 _) (Nat.le_of_ble_eq_true rfl) rfl rfl ?_
  refine k_aload (p0 := 48) dX8_init_47 rfl rfl ?_
  refine k_iconst (p0 := 49) (v := nI 0) dX8_init_48 rfl rfl ?_
  refine k_put (p0 := 52) (fs2 := [_, _, _, _, _, _]) dX8_init_49 fX8_33 (Or.inl nX8_5) (pX8_5 (by decide)) (Nat.le_of_ble_eq_true rfl) rfl rfl ?_
  refine k_iconst (p0 := 53) (v := nI 0) dX8_init_52 rfl rfl ?_
  refine k_istore (p0 := 54) (l2 := [_, _]) dX8_init_53 (Nat.le_of_ble_eq_true rfl) rfl rfl ?_
  exact tower_loop ⟨rfl, rfl⟩ 25 0 rfl
def chk_X3 (n : Nat) : AH := .inl (3, [ar (n + 1), ar (n + 3), ar (n + 5), ar (n + 7), ar (n + 9), ai (nI 0)]) :: (((((([] : AH) ++ rowC 160 (n + 1)) ++ rowC 160 (n + 3)) ++ rowC 160 (n + 5)) ++ rowC 160 (n + 7)) ++ rowC 25 (n + 9))
set_option maxRecDepth 20000 in
set_option maxHeartbeats 2000000 in
theorem ct_X3 : CT mX3_init [] (.inl (3, [an, an, an, an, an, ai 0])) 10 670 chk_X3 := by
  intro h
  refine C.enter (ls := [some (ar h.length)]) rfl ?_
  refine k_aload (p0 := 1) dX3_init_0 rfl rfl ?_
  refine k_objI (p0 := 4) dX3_init_1 lX3_3 (Nat.le_of_ble_eq_true rfl) (Nat.le_of_ble_eq_true rfl) (Nat.le_of_ble_eq_true rfl) rfl ?_
  refine k_aload (p0 := 5) dX3_init_4 rfl rfl ?_
  refine k_new (p0 := 8) (ci := 7) (fs := [an]) (n := h.length + 1) (a1 := 9) (b1 := 669) dX3_init_5 rfl kX3_9 eX7 jX7 rfl dvX7 (len_this rfl) rfl rfl rfl ?_
  refine k_dup (p0 := 9) dX3_init_8 rfl ?_
  refine k_sipush (p0 := 12) (v := nI 160) dX3_init_9 (by decide) rfl ?_
  refine k_ctor (p0 := 15) (r1 := mX7_init) (As := [ai (nI 160)]) (n := h.length + 1) (a := 8) (b := 509) dX3_init_12 (Or.inl lX3_11) vX7_init rfl (FITi rfl rfl) (Nat.le_of_ble_eq_true rfl) (len_this rfl) rfl rfl rfl (ct_Row (len := 160) (by decide) (by decide)) rfl ?_
  refine WPr.heap app_this ?_
  refine k_put (p0 := 18) (fs2 := [_, _, _, _, _, _]) dX3_init_15 fX3_14 (Or.inr ⟨rfl, nX3_0⟩) (pX3_0 _) (Nat.le_of_ble_eq_true rfl) rfl rfl ?_
  refine k_aload (p0 := 19) dX3_init_18 rfl rfl ?_
  refine k_new (p0 := 22) (ci := 7) (fs := [an]) (n := h.length + 3) (a1 := 7) (b1 := 508) dX3_init_19 rfl kX3_9 eX7 jX7 rfl dvX7 (len_this rfl) rfl rfl rfl ?_
  refine k_dup (p0 := 23) dX3_init_22 rfl ?_
  refine k_sipush (p0 := 26) (v := nI 160) dX3_init_23 (by decide) rfl ?_
  refine k_ctor (p0 := 29) (r1 := mX7_init) (As := [ai (nI 160)]) (n := h.length + 3) (a := 6) (b := 348) dX3_init_26 (Or.inl lX3_11) vX7_init rfl (FITi rfl rfl) (Nat.le_of_ble_eq_true rfl) (len_this rfl) rfl rfl rfl (ct_Row (len := 160) (by decide) (by decide)) rfl ?_
  refine WPr.heap app_this ?_
  refine k_put (p0 := 32) (fs2 := [_, _, _, _, _, _]) dX3_init_29 fX3_20 (Or.inr ⟨rfl, nX3_1⟩) (pX3_1 _) (Nat.le_of_ble_eq_true rfl) rfl rfl ?_
  refine k_aload (p0 := 33) dX3_init_32 rfl rfl ?_
  refine k_new (p0 := 36) (ci := 7) (fs := [an]) (n := h.length + 5) (a1 := 5) (b1 := 347) dX3_init_33 rfl kX3_9 eX7 jX7 rfl dvX7 (len_this rfl) rfl rfl rfl ?_
  refine k_dup (p0 := 37) dX3_init_36 rfl ?_
  refine k_sipush (p0 := 40) (v := nI 160) dX3_init_37 (by decide) rfl ?_
  refine k_ctor (p0 := 43) (r1 := mX7_init) (As := [ai (nI 160)]) (n := h.length + 5) (a := 4) (b := 187) dX3_init_40 (Or.inl lX3_11) vX7_init rfl (FITi rfl rfl) (Nat.le_of_ble_eq_true rfl) (len_this rfl) rfl rfl rfl (ct_Row (len := 160) (by decide) (by decide)) rfl ?_
  refine WPr.heap app_this ?_
  refine k_put (p0 := 46) (fs2 := [_, _, _, _, _, _]) dX3_init_43 fX3_23 (Or.inr ⟨rfl, nX3_2⟩) (pX3_2 _) (Nat.le_of_ble_eq_true rfl) rfl rfl ?_
  refine k_aload (p0 := 47) dX3_init_46 rfl rfl ?_
  refine k_new (p0 := 50) (ci := 7) (fs := [an]) (n := h.length + 7) (a1 := 3) (b1 := 186) dX3_init_47 rfl kX3_9 eX7 jX7 rfl dvX7 (len_this rfl) rfl rfl rfl ?_
  refine k_dup (p0 := 51) dX3_init_50 rfl ?_
  refine k_sipush (p0 := 54) (v := nI 160) dX3_init_51 (by decide) rfl ?_
  refine k_ctor (p0 := 57) (r1 := mX7_init) (As := [ai (nI 160)]) (n := h.length + 7) (a := 2) (b := 26) dX3_init_54 (Or.inl lX3_11) vX7_init rfl (FITi rfl rfl) (Nat.le_of_ble_eq_true rfl) (len_this rfl) rfl rfl rfl (ct_Row (len := 160) (by decide) (by decide)) rfl ?_
  refine WPr.heap app_this ?_
  refine k_put (p0 := 60) (fs2 := [_, _, _, _, _, _]) dX3_init_57 fX3_26 (Or.inr ⟨rfl, nX3_3⟩) (pX3_3 _) (Nat.le_of_ble_eq_true rfl) rfl rfl ?_
  refine k_aload (p0 := 61) dX3_init_60 rfl rfl ?_
  refine k_new (p0 := 64) (ci := 7) (fs := [an]) (n := h.length + 9) (a1 := 1) (b1 := 25) dX3_init_61 rfl kX3_9 eX7 jX7 rfl dvX7 (len_this rfl) rfl rfl rfl ?_
  refine k_dup (p0 := 65) dX3_init_64 rfl ?_
  refine k_bipush (p0 := 67) (v := nI 25) dX3_init_65 (by decide) rfl ?_
  refine k_ctor (p0 := 70) (r1 := mX7_init) (As := [ai (nI 25)]) (n := h.length + 9) (a := 0) (b := 0) dX3_init_67 (Or.inl lX3_11) vX7_init rfl (FITi rfl rfl) (Nat.le_of_ble_eq_true rfl) (len_this rfl) rfl rfl rfl (ct_Row (len := 25) (by decide) (by decide)) rfl ?_
  refine WPr.heap app_this ?_
  refine k_put (p0 := 73) (fs2 := [_, _, _, _, _, _]) dX3_init_70 fX3_29 (Or.inr ⟨rfl, nX3_4⟩) (pX3_4 _) (Nat.le_of_ble_eq_true rfl) rfl rfl ?_
  refine k_aload (p0 := 74) dX3_init_73 rfl rfl ?_
  refine k_iconst (p0 := 75) (v := nI 0) dX3_init_74 rfl rfl ?_
  refine k_put (p0 := 78) (fs2 := [_, _, _, _, _, _]) dX3_init_75 fX3_32 (Or.inl nX3_5) (pX3_5 _) (Nat.le_of_ble_eq_true rfl) rfl rfl ?_
  exact k_ret dX3_init_78 rfl ⟨rfl, rfl⟩
def chk_X4 (n : Nat) : AH := .inl (4, [ar (n + 1), ar (n + 3), ar (n + 5), ar (n + 7), ar (n + 9), ar (n + 11), ar (n + 13), ai (nI 0)]) :: (((((((([] : AH) ++ rowC 160 (n + 1)) ++ rowC 160 (n + 3)) ++ rowC 160 (n + 5)) ++ rowC 160 (n + 7)) ++ rowC 160 (n + 9)) ++ rowC 160 (n + 11)) ++ rowC 160 (n + 13))
set_option maxRecDepth 20000 in
set_option maxHeartbeats 2000000 in
theorem ct_X4 : CT mX4_init [] (.inl (4, [an, an, an, an, an, an, an, ai 0])) 14 1127 chk_X4 := by
  intro h
  refine C.enter (ls := [some (ar h.length)]) rfl ?_
  refine k_aload (p0 := 1) dX4_init_0 rfl rfl ?_
  refine k_objI (p0 := 4) dX4_init_1 lX4_3 (Nat.le_of_ble_eq_true rfl) (Nat.le_of_ble_eq_true rfl) (Nat.le_of_ble_eq_true rfl) rfl ?_
  refine k_aload (p0 := 5) dX4_init_4 rfl rfl ?_
  refine k_new (p0 := 8) (ci := 7) (fs := [an]) (n := h.length + 1) (a1 := 13) (b1 := 1126) dX4_init_5 rfl kX4_9 eX7 jX7 rfl dvX7 (len_this rfl) rfl rfl rfl ?_
  refine k_dup (p0 := 9) dX4_init_8 rfl ?_
  refine k_sipush (p0 := 12) (v := nI 160) dX4_init_9 (by decide) rfl ?_
  refine k_ctor (p0 := 15) (r1 := mX7_init) (As := [ai (nI 160)]) (n := h.length + 1) (a := 12) (b := 966) dX4_init_12 (Or.inl lX4_11) vX7_init rfl (FITi rfl rfl) (Nat.le_of_ble_eq_true rfl) (len_this rfl) rfl rfl rfl (ct_Row (len := 160) (by decide) (by decide)) rfl ?_
  refine WPr.heap app_this ?_
  refine k_put (p0 := 18) (fs2 := [_, _, _, _, _, _, _, _]) dX4_init_15 fX4_14 (Or.inr ⟨rfl, nX4_0⟩) (pX4_0 _) (Nat.le_of_ble_eq_true rfl) rfl rfl ?_
  refine k_aload (p0 := 19) dX4_init_18 rfl rfl ?_
  refine k_new (p0 := 22) (ci := 7) (fs := [an]) (n := h.length + 3) (a1 := 11) (b1 := 965) dX4_init_19 rfl kX4_9 eX7 jX7 rfl dvX7 (len_this rfl) rfl rfl rfl ?_
  refine k_dup (p0 := 23) dX4_init_22 rfl ?_
  refine k_sipush (p0 := 26) (v := nI 160) dX4_init_23 (by decide) rfl ?_
  refine k_ctor (p0 := 29) (r1 := mX7_init) (As := [ai (nI 160)]) (n := h.length + 3) (a := 10) (b := 805) dX4_init_26 (Or.inl lX4_11) vX7_init rfl (FITi rfl rfl) (Nat.le_of_ble_eq_true rfl) (len_this rfl) rfl rfl rfl (ct_Row (len := 160) (by decide) (by decide)) rfl ?_
  refine WPr.heap app_this ?_
  refine k_put (p0 := 32) (fs2 := [_, _, _, _, _, _, _, _]) dX4_init_29 fX4_20 (Or.inr ⟨rfl, nX4_1⟩) (pX4_1 _) (Nat.le_of_ble_eq_true rfl) rfl rfl ?_
  refine k_aload (p0 := 33) dX4_init_32 rfl rfl ?_
  refine k_new (p0 := 36) (ci := 7) (fs := [an]) (n := h.length + 5) (a1 := 9) (b1 := 804) dX4_init_33 rfl kX4_9 eX7 jX7 rfl dvX7 (len_this rfl) rfl rfl rfl ?_
  refine k_dup (p0 := 37) dX4_init_36 rfl ?_
  refine k_sipush (p0 := 40) (v := nI 160) dX4_init_37 (by decide) rfl ?_
  refine k_ctor (p0 := 43) (r1 := mX7_init) (As := [ai (nI 160)]) (n := h.length + 5) (a := 8) (b := 644) dX4_init_40 (Or.inl lX4_11) vX7_init rfl (FITi rfl rfl) (Nat.le_of_ble_eq_true rfl) (len_this rfl) rfl rfl rfl (ct_Row (len := 160) (by decide) (by decide)) rfl ?_
  refine WPr.heap app_this ?_
  refine k_put (p0 := 46) (fs2 := [_, _, _, _, _, _, _, _]) dX4_init_43 fX4_23 (Or.inr ⟨rfl, nX4_2⟩) (pX4_2 _) (Nat.le_of_ble_eq_true rfl) rfl rfl ?_
  refine k_aload (p0 := 47) dX4_init_46 rfl rfl ?_
  refine k_new (p0 := 50) (ci := 7) (fs := [an]) (n := h.length + 7) (a1 := 7) (b1 := 643) dX4_init_47 rfl kX4_9 eX7 jX7 rfl dvX7 (len_this rfl) rfl rfl rfl ?_
  refine k_dup (p0 := 51) dX4_init_50 rfl ?_
  refine k_sipush (p0 := 54) (v := nI 160) dX4_init_51 (by decide) rfl ?_
  refine k_ctor (p0 := 57) (r1 := mX7_init) (As := [ai (nI 160)]) (n := h.length + 7) (a := 6) (b := 483) dX4_init_54 (Or.inl lX4_11) vX7_init rfl (FITi rfl rfl) (Nat.le_of_ble_eq_true rfl) (len_this rfl) rfl rfl rfl (ct_Row (len := 160) (by decide) (by decide)) rfl ?_
  refine WPr.heap app_this ?_
  refine k_put (p0 := 60) (fs2 := [_, _, _, _, _, _, _, _]) dX4_init_57 fX4_26 (Or.inr ⟨rfl, nX4_3⟩) (pX4_3 _) (Nat.le_of_ble_eq_true rfl) rfl rfl ?_
  refine k_aload (p0 := 61) dX4_init_60 rfl rfl ?_
  refine k_new (p0 := 64) (ci := 7) (fs := [an]) (n := h.length + 9) (a1 := 5) (b1 := 482) dX4_init_61 rfl kX4_9 eX7 jX7 rfl dvX7 (len_this rfl) rfl rfl rfl ?_
  refine k_dup (p0 := 65) dX4_init_64 rfl ?_
  refine k_sipush (p0 := 68) (v := nI 160) dX4_init_65 (by decide) rfl ?_
  refine k_ctor (p0 := 71) (r1 := mX7_init) (As := [ai (nI 160)]) (n := h.length + 9) (a := 4) (b := 322) dX4_init_68 (Or.inl lX4_11) vX7_init rfl (FITi rfl rfl) (Nat.le_of_ble_eq_true rfl) (len_this rfl) rfl rfl rfl (ct_Row (len := 160) (by decide) (by decide)) rfl ?_
  refine WPr.heap app_this ?_
  refine k_put (p0 := 74) (fs2 := [_, _, _, _, _, _, _, _]) dX4_init_71 fX4_29 (Or.inr ⟨rfl, nX4_4⟩) (pX4_4 _) (Nat.le_of_ble_eq_true rfl) rfl rfl ?_
  refine k_aload (p0 := 75) dX4_init_74 rfl rfl ?_
  refine k_new (p0 := 78) (ci := 7) (fs := [an]) (n := h.length + 11) (a1 := 3) (b1 := 321) dX4_init_75 rfl kX4_9 eX7 jX7 rfl dvX7 (len_this rfl) rfl rfl rfl ?_
  refine k_dup (p0 := 79) dX4_init_78 rfl ?_
  refine k_sipush (p0 := 82) (v := nI 160) dX4_init_79 (by decide) rfl ?_
  refine k_ctor (p0 := 85) (r1 := mX7_init) (As := [ai (nI 160)]) (n := h.length + 11) (a := 2) (b := 161) dX4_init_82 (Or.inl lX4_11) vX7_init rfl (FITi rfl rfl) (Nat.le_of_ble_eq_true rfl) (len_this rfl) rfl rfl rfl (ct_Row (len := 160) (by decide) (by decide)) rfl ?_
  refine WPr.heap app_this ?_
  refine k_put (p0 := 88) (fs2 := [_, _, _, _, _, _, _, _]) dX4_init_85 fX4_32 (Or.inr ⟨rfl, nX4_5⟩) (pX4_5 _) (Nat.le_of_ble_eq_true rfl) rfl rfl ?_
  refine k_aload (p0 := 89) dX4_init_88 rfl rfl ?_
  refine k_new (p0 := 92) (ci := 7) (fs := [an]) (n := h.length + 13) (a1 := 1) (b1 := 160) dX4_init_89 rfl kX4_9 eX7 jX7 rfl dvX7 (len_this rfl) rfl rfl rfl ?_
  refine k_dup (p0 := 93) dX4_init_92 rfl ?_
  refine k_sipush (p0 := 96) (v := nI 160) dX4_init_93 (by decide) rfl ?_
  refine k_ctor (p0 := 99) (r1 := mX7_init) (As := [ai (nI 160)]) (n := h.length + 13) (a := 0) (b := 0) dX4_init_96 (Or.inl lX4_11) vX7_init rfl (FITi rfl rfl) (Nat.le_of_ble_eq_true rfl) (len_this rfl) rfl rfl rfl (ct_Row (len := 160) (by decide) (by decide)) rfl ?_
  refine WPr.heap app_this ?_
  refine k_put (p0 := 102) (fs2 := [_, _, _, _, _, _, _, _]) dX4_init_99 fX4_35 (Or.inr ⟨rfl, nX4_6⟩) (pX4_6 _) (Nat.le_of_ble_eq_true rfl) rfl rfl ?_
  refine k_aload (p0 := 103) dX4_init_102 rfl rfl ?_
  refine k_iconst (p0 := 104) (v := nI 0) dX4_init_103 rfl rfl ?_
  refine k_put (p0 := 107) (fs2 := [_, _, _, _, _, _, _, _]) dX4_init_104 fX4_38 (Or.inl nX4_7) (pX4_7 _) (Nat.le_of_ble_eq_true rfl) rfl rfl ?_
  exact k_ret dX4_init_107 rfl ⟨rfl, rfl⟩
def chk_X0 (n : Nat) : AH := .inl (0, [ar (n + 1), ai (-1), ai (nI 0), ai (nI 0)]) :: (([] : AH) ++ rowC 25 (n + 1))
set_option maxRecDepth 20000 in
set_option maxHeartbeats 2000000 in
theorem ct_X0 : CT mX0_init [] (.inl (0, [an, ai 0, ai 0, ai 0])) 2 26 chk_X0 := by
  intro h
  refine C.enter (ls := [some (ar h.length)]) rfl ?_
  refine k_aload (p0 := 1) dX0_init_0 rfl rfl ?_
  refine k_objI (p0 := 4) dX0_init_1 lX0_3 (Nat.le_of_ble_eq_true rfl) (Nat.le_of_ble_eq_true rfl) (Nat.le_of_ble_eq_true rfl) rfl ?_
  refine k_aload (p0 := 5) dX0_init_4 rfl rfl ?_
  refine k_new (p0 := 8) (ci := 7) (fs := [an]) (n := h.length + 1) (a1 := 1) (b1 := 25) dX0_init_5 rfl kX0_9 eX7 jX7 rfl dvX7 (len_this rfl) rfl rfl rfl ?_
  refine k_dup (p0 := 9) dX0_init_8 rfl ?_
  refine k_bipush (p0 := 11) (v := nI 25) dX0_init_9 (by decide) rfl ?_
  refine k_ctor (p0 := 14) (r1 := mX7_init) (As := [ai (nI 25)]) (n := h.length + 1) (a := 0) (b := 0) dX0_init_11 (Or.inl lX0_11) vX7_init rfl (FITi rfl rfl) (Nat.le_of_ble_eq_true rfl) (len_this rfl) rfl rfl rfl (ct_Row (len := 25) (by decide) (by decide)) rfl ?_
  refine WPr.heap app_this ?_
  refine k_put (p0 := 17) (fs2 := [_, _, _, _]) dX0_init_14 fX0_14 (Or.inr ⟨rfl, nX0_0⟩) (pX0_0 _) (Nat.le_of_ble_eq_true rfl) rfl rfl ?_
  refine k_aload (p0 := 18) dX0_init_17 rfl rfl ?_
  refine k_iconst (p0 := 19) (v := -1) dX0_init_18 rfl rfl ?_
  refine k_put (p0 := 22) (fs2 := [_, _, _, _]) dX0_init_19 fX0_20 (Or.inl nX0_1) (pX0_1 _) (Nat.le_of_ble_eq_true rfl) rfl rfl ?_
  refine k_aload (p0 := 23) dX0_init_22 rfl rfl ?_
  refine k_iconst (p0 := 24) (v := nI 0) dX0_init_23 rfl rfl ?_
  refine k_put (p0 := 27) (fs2 := [_, _, _, _]) dX0_init_24 fX0_24 (Or.inl nX0_2) (pX0_2 _) (Nat.le_of_ble_eq_true rfl) rfl rfl ?_
  refine k_aload (p0 := 28) dX0_init_27 rfl rfl ?_
  refine k_iconst (p0 := 29) (v := nI 0) dX0_init_28 rfl rfl ?_
  refine k_put (p0 := 32) (fs2 := [_, _, _, _]) dX0_init_29 fX0_27 (Or.inl nX0_3) (pX0_3 (by decide)) (Nat.le_of_ble_eq_true rfl) rfl rfl ?_
  exact k_ret dX0_init_32 rfl ⟨rfl, rfl⟩
def chk_X1 (n : Nat) : AH := .inl (1, [ai (-1), ai (-1), ai (nI 0), ai (-1), ai (nI 0)]) :: ([] : AH)
set_option maxRecDepth 20000 in
set_option maxHeartbeats 2000000 in
theorem ct_X1 : CT mX1_init [] (.inl (1, [ai 0, ai 0, ai 0, ai 0, ai 0])) 0 0 chk_X1 := by
  intro h
  refine C.enter (ls := [some (ar h.length)]) rfl ?_
  refine k_aload (p0 := 1) dX1_init_0 rfl rfl ?_
  refine k_objI (p0 := 4) dX1_init_1 lX1_3 (Nat.le_of_ble_eq_true rfl) (Nat.le_of_ble_eq_true rfl) (Nat.le_of_ble_eq_true rfl) rfl ?_
  refine k_aload (p0 := 5) dX1_init_4 rfl rfl ?_
  refine k_iconst (p0 := 6) (v := -1) dX1_init_5 rfl rfl ?_
  refine k_put (p0 := 9) (fs2 := [_, _, _, _, _]) dX1_init_6 fX1_9 (Or.inl nX1_0) (pX1_0 _) (Nat.le_of_ble_eq_true rfl) rfl rfl ?_
  refine k_aload (p0 := 10) dX1_init_9 rfl rfl ?_
  refine k_iconst (p0 := 11) (v := -1) dX1_init_10 rfl rfl ?_
  refine k_put (p0 := 14) (fs2 := [_, _, _, _, _]) dX1_init_11 fX1_15 (Or.inl nX1_1) (pX1_1 _) (Nat.le_of_ble_eq_true rfl) rfl rfl ?_
  refine k_aload (p0 := 15) dX1_init_14 rfl rfl ?_
  refine k_iconst (p0 := 16) (v := nI 0) dX1_init_15 rfl rfl ?_
  refine k_put (p0 := 19) (fs2 := [_, _, _, _, _]) dX1_init_16 fX1_18 (Or.inl nX1_2) (pX1_2 _) (Nat.le_of_ble_eq_true rfl) rfl rfl ?_
  refine k_aload (p0 := 20) dX1_init_19 rfl rfl ?_
  refine k_iconst (p0 := 21) (v := -1) dX1_init_20 rfl rfl ?_
  refine k_put (p0 := 24) (fs2 := [_, _, _, _, _]) dX1_init_21 fX1_21 (Or.inl nX1_3) (pX1_3 _) (Nat.le_of_ble_eq_true rfl) rfl rfl ?_
  refine k_aload (p0 := 25) dX1_init_24 rfl rfl ?_
  refine k_iconst (p0 := 26) (v := nI 0) dX1_init_25 rfl rfl ?_
  refine k_put (p0 := 29) (fs2 := [_, _, _, _, _]) dX1_init_26 fX1_24 (Or.inl nX1_4) (pX1_4 _) (Nat.le_of_ble_eq_true rfl) rfl rfl ?_
  exact k_ret dX1_init_29 rfl ⟨rfl, rfl⟩
def chk_X5 (n : Nat) : AH := .inl (5, [ar (n + 1), ai (nI 0), ai (nI 0), ai (nI 0)]) :: (([] : AH) ++ rowC 60 (n + 1))
set_option maxRecDepth 20000 in
set_option maxHeartbeats 2000000 in
theorem ct_X5 : CT mX5_init [] (.inl (5, [an, ai 0, ai 0, ai 0])) 2 61 chk_X5 := by
  intro h
  refine C.enter (ls := [some (ar h.length)]) rfl ?_
  refine k_aload (p0 := 1) dX5_init_0 rfl rfl ?_
  refine k_objI (p0 := 4) dX5_init_1 lX5_3 (Nat.le_of_ble_eq_true rfl) (Nat.le_of_ble_eq_true rfl) (Nat.le_of_ble_eq_true rfl) rfl ?_
  refine k_aload (p0 := 5) dX5_init_4 rfl rfl ?_
  refine k_new (p0 := 8) (ci := 7) (fs := [an]) (n := h.length + 1) (a1 := 1) (b1 := 60) dX5_init_5 rfl kX5_9 eX7 jX7 rfl dvX7 (len_this rfl) rfl rfl rfl ?_
  refine k_dup (p0 := 9) dX5_init_8 rfl ?_
  refine k_bipush (p0 := 11) (v := nI 60) dX5_init_9 (by decide) rfl ?_
  refine k_ctor (p0 := 14) (r1 := mX7_init) (As := [ai (nI 60)]) (n := h.length + 1) (a := 0) (b := 0) dX5_init_11 (Or.inl lX5_11) vX7_init rfl (FITi rfl rfl) (Nat.le_of_ble_eq_true rfl) (len_this rfl) rfl rfl rfl (ct_Row (len := 60) (by decide) (by decide)) rfl ?_
  refine WPr.heap app_this ?_
  refine k_put (p0 := 17) (fs2 := [_, _, _, _]) dX5_init_14 fX5_14 (Or.inr ⟨rfl, nX5_0⟩) (pX5_0 _) (Nat.le_of_ble_eq_true rfl) rfl rfl ?_
  refine k_aload (p0 := 18) dX5_init_17 rfl rfl ?_
  refine k_iconst (p0 := 19) (v := nI 0) dX5_init_18 rfl rfl ?_
  refine k_put (p0 := 22) (fs2 := [_, _, _, _]) dX5_init_19 fX5_20 (Or.inl nX5_1) (pX5_1 _) (Nat.le_of_ble_eq_true rfl) rfl rfl ?_
  refine k_aload (p0 := 23) dX5_init_22 rfl rfl ?_
  refine k_iconst (p0 := 24) (v := nI 0) dX5_init_23 rfl rfl ?_
  refine k_put (p0 := 27) (fs2 := [_, _, _, _]) dX5_init_24 fX5_24 (Or.inl nX5_2) (pX5_2 _) (Nat.le_of_ble_eq_true rfl) rfl rfl ?_
  refine k_aload (p0 := 28) dX5_init_27 rfl rfl ?_
  refine k_iconst (p0 := 29) (v := nI 0) dX5_init_28 rfl rfl ?_
  refine k_put (p0 := 32) (fs2 := [_, _, _, _]) dX5_init_29 fX5_27 (Or.inl nX5_3) (pX5_3 _) (Nat.le_of_ble_eq_true rfl) rfl rfl ?_
  exact k_ret dX5_init_32 rfl ⟨rfl, rfl⟩
def chk_X6 (n : Nat) : AH := .inl (6, [ar (n + 1), ar (n + 12), ar (n + 27), ar (n + 29), ar (n + 31), ar (n + 33), ar (n + 35), ar (n + 37), ai (nI 0)]) :: ((((((((([] : AH) ++ chk_X3 (n + 1)) ++ chk_X4 (n + 12)) ++ rowC 160 (n + 27)) ++ rowC 160 (n + 29)) ++ rowC 160 (n + 31)) ++ rowC 160 (n + 33)) ++ rowC 160 (n + 35)) ++ rowC 160 (n + 37))
set_option maxRecDepth 20000 in
set_option maxHeartbeats 2000000 in
theorem ct_X6 : CT mX6_init [] (.inl (6, [an, an, an, an, an, an, an, an, ai 0])) 38 2777 chk_X6 := by
  intro h
  refine C.enter (ls := [some (ar h.length)]) rfl ?_
  refine k_aload (p0 := 1) dX6_init_0 rfl rfl ?_
  refine k_objI (p0 := 4) dX6_init_1 lX6_3 (Nat.le_of_ble_eq_true rfl) (Nat.le_of_ble_eq_true rfl) (Nat.le_of_ble_eq_true rfl) rfl ?_
  refine k_aload (p0 := 5) dX6_init_4 rfl rfl ?_
  refine k_new (p0 := 8) (ci := 3) (fs := [an, an, an, an, an, ai 0]) (n := h.length + 1) (a1 := 37) (b1 := 2771) dX6_init_5 rfl kX6_9 eX3 jX3 rfl dvX3 (len_this rfl) rfl rfl rfl ?_
  refine k_dup (p0 := 9) dX6_init_8 rfl ?_
  refine k_ctor (p0 := 12) (r1 := mX3_init) (As := []) (n := h.length + 1) (a := 27) (b := 2101) dX6_init_9 (Or.inr lX6_11) vX3_init rfl (FITi rfl rfl) (Nat.le_of_ble_eq_true rfl) (len_this rfl) rfl rfl rfl (ct_X3) rfl ?_
  refine WPr.heap app_this ?_
  refine k_put (p0 := 15) (fs2 := [_, _, _, _, _, _, _, _, _]) dX6_init_12 fX6_12 (Or.inr ⟨rfl, nX6_0⟩) (pX6_0 _) (Nat.le_of_ble_eq_true rfl) rfl rfl ?_
  refine k_aload (p0 := 16) dX6_init_15 rfl rfl ?_
  refine k_new (p0 := 19) (ci := 4) (fs := [an, an, an, an, an, an, an, ai 0]) (n := h.length + 12) (a1 := 26) (b1 := 2093) dX6_init_16 rfl kX6_18 eX4 jX4 rfl dvX4 (len_this rfl) rfl rfl rfl ?_
  refine k_dup (p0 := 20) dX6_init_19 rfl ?_
  refine k_ctor (p0 := 23) (r1 := mX4_init) (As := []) (n := h.length + 12) (a := 12) (b := 966) dX6_init_20 (Or.inr lX6_20) vX4_init rfl (FITi rfl rfl) (Nat.le_of_ble_eq_true rfl) (len_this rfl) rfl rfl rfl (ct_X4) rfl ?_
  refine WPr.heap app_this ?_
  refine k_put (p0 := 26) (fs2 := [_, _, _, _, _, _, _, _, _]) dX6_init_23 fX6_21 (Or.inr ⟨rfl, nX6_1⟩) (pX6_1 _) (Nat.le_of_ble_eq_true rfl) rfl rfl ?_
  refine k_aload (p0 := 27) dX6_init_26 rfl rfl ?_
  refine k_new (p0 := 30) (ci := 7) (fs := [an]) (n := h.length + 27) (a1 := 11) (b1 := 965) dX6_init_27 rfl kX6_25 eX7 jX7 rfl dvX7 (len_this rfl) rfl rfl rfl ?_
  refine k_dup (p0 := 31) dX6_init_30 rfl ?_
  refine k_sipush (p0 := 34) (v := nI 160) dX6_init_31 (by decide) rfl ?_
  refine k_ctor (p0 := 37) (r1 := mX7_init) (As := [ai (nI 160)]) (n := h.length + 27) (a := 10) (b := 805) dX6_init_34 (Or.inl lX6_27) vX7_init rfl (FITi rfl rfl) (Nat.le_of_ble_eq_true rfl) (len_this rfl) rfl rfl rfl (ct_Row (len := 160) (by decide) (by decide)) rfl ?_
  refine WPr.heap app_this ?_
  refine k_put (p0 := 40) (fs2 := [_, _, _, _, _, _, _, _, _]) dX6_init_37 fX6_30 (Or.inr ⟨rfl, nX6_2⟩) (pX6_2 _) (Nat.le_of_ble_eq_true rfl) rfl rfl ?_
  refine k_aload (p0 := 41) dX6_init_40 rfl rfl ?_
  refine k_new (p0 := 44) (ci := 7) (fs := [an]) (n := h.length + 29) (a1 := 9) (b1 := 804) dX6_init_41 rfl kX6_25 eX7 jX7 rfl dvX7 (len_this rfl) rfl rfl rfl ?_
  refine k_dup (p0 := 45) dX6_init_44 rfl ?_
  refine k_sipush (p0 := 48) (v := nI 160) dX6_init_45 (by decide) rfl ?_
  refine k_ctor (p0 := 51) (r1 := mX7_init) (As := [ai (nI 160)]) (n := h.length + 29) (a := 8) (b := 644) dX6_init_48 (Or.inl lX6_27) vX7_init rfl (FITi rfl rfl) (Nat.le_of_ble_eq_true rfl) (len_this rfl) rfl rfl rfl (ct_Row (len := 160) (by decide) (by decide)) rfl ?_
  refine WPr.heap app_this ?_
  refine k_put (p0 := 54) (fs2 := [_, _, _, _, _, _, _, _, _]) dX6_init_51 fX6_34 (Or.inr ⟨rfl, nX6_3⟩) (pX6_3 _) (Nat.le_of_ble_eq_true rfl) rfl rfl ?_
  refine k_aload (p0 := 55) dX6_init_54 rfl rfl ?_
  refine k_new (p0 := 58) (ci := 7) (fs := [an]) (n := h.length + 31) (a1 := 7) (b1 := 643) dX6_init_55 rfl kX6_25 eX7 jX7 rfl dvX7 (len_this rfl) rfl rfl rfl ?_
  refine k_dup (p0 := 59) dX6_init_58 rfl ?_
  refine k_sipush (p0 := 62) (v := nI 160) dX6_init_59 (by decide) rfl ?_
  refine k_ctor (p0 := 65) (r1 := mX7_init) (As := [ai (nI 160)]) (n := h.length + 31) (a := 6) (b := 483) dX6_init_62 (Or.inl lX6_27) vX7_init rfl (FITi rfl rfl) (Nat.le_of_ble_eq_true rfl) (len_this rfl) rfl rfl rfl (ct_Row (len := 160) (by decide) (by decide)) rfl ?_
  refine WPr.heap app_this ?_
  refine k_put (p0 := 68) (fs2 := [_, _, _, _, _, _, _, _, _]) dX6_init_65 fX6_37 (Or.inr ⟨rfl, nX6_4⟩) (pX6_4 _) (Nat.le_of_ble_eq_true rfl) rfl rfl ?_
  refine k_aload (p0 := 69) dX6_init_68 rfl rfl ?_
  refine k_new (p0 := 72) (ci := 7) (fs := [an]) (n := h.length + 33) (a1 := 5) (b1 := 482) dX6_init_69 rfl kX6_25 eX7 jX7 rfl dvX7 (len_this rfl) rfl rfl rfl ?_
  refine k_dup (p0 := 73) dX6_init_72 rfl ?_
  refine k_sipush (p0 := 76) (v := nI 160) dX6_init_73 (by decide) rfl ?_
  refine k_ctor (p0 := 79) (r1 := mX7_init) (As := [ai (nI 160)]) (n := h.length + 33) (a := 4) (b := 322) dX6_init_76 (Or.inl lX6_27) vX7_init rfl (FITi rfl rfl) (Nat.le_of_ble_eq_true rfl) (len_this rfl) rfl rfl rfl (ct_Row (len := 160) (by decide) (by decide)) rfl ?_
  refine WPr.heap app_this ?_
  refine k_put (p0 := 82) (fs2 := [_, _, _, _, _, _, _, _, _]) dX6_init_79 fX6_40 (Or.inr ⟨rfl, nX6_5⟩) (pX6_5 _) (Nat.le_of_ble_eq_true rfl) rfl rfl ?_
  refine k_aload (p0 := 83) dX6_init_82 rfl rfl ?_
  refine k_new (p0 := 86) (ci := 7) (fs := [an]) (n := h.length + 35) (a1 := 3) (b1 := 321) dX6_init_83 rfl kX6_25 eX7 jX7 rfl dvX7 (len_this rfl) rfl rfl rfl ?_
  refine k_dup (p0 := 87) dX6_init_86 rfl ?_
  refine k_sipush (p0 := 90) (v := nI 160) dX6_init_87 (by decide) rfl ?_
  refine k_ctor (p0 := 93) (r1 := mX7_init) (As := [ai (nI 160)]) (n := h.length + 35) (a := 2) (b := 161) dX6_init_90 (Or.inl lX6_27) vX7_init rfl (FITi rfl rfl) (Nat.le_of_ble_eq_true rfl) (len_this rfl) rfl rfl rfl (ct_Row (len := 160) (by decide) (by decide)) rfl ?_
  refine WPr.heap app_this ?_
  refine k_put (p0 := 96) (fs2 := [_, _, _, _, _, _, _, _, _]) dX6_init_93 fX6_43 (Or.inr ⟨rfl, nX6_6⟩) (pX6_6 _) (Nat.le_of_ble_eq_true rfl) rfl rfl ?_
  refine k_aload (p0 := 97) dX6_init_96 rfl rfl ?_
  refine k_new (p0 := 100) (ci := 7) (fs := [an]) (n := h.length + 37) (a1 := 1) (b1 := 160) dX6_init_97 rfl kX6_25 eX7 jX7 rfl dvX7 (len_this rfl) rfl rfl rfl ?_
  refine k_dup (p0 := 101) dX6_init_100 rfl ?_
  refine k_sipush (p0 := 104) (v := nI 160) dX6_init_101 (by decide) rfl ?_
  refine k_ctor (p0 := 107) (r1 := mX7_init) (As := [ai (nI 160)]) (n := h.length + 37) (a := 0) (b := 0) dX6_init_104 (Or.inl lX6_27) vX7_init rfl (FITi rfl rfl) (Nat.le_of_ble_eq_true rfl) (len_this rfl) rfl rfl rfl (ct_Row (len := 160) (by decide) (by decide)) rfl ?_
  refine WPr.heap app_this ?_
  refine k_put (p0 := 110) (fs2 := [_, _, _, _, _, _, _, _, _]) dX6_init_107 fX6_46 (Or.inr ⟨rfl, nX6_7⟩) (pX6_7 _) (Nat.le_of_ble_eq_true rfl) rfl rfl ?_
  refine k_aload (p0 := 111) dX6_init_110 rfl rfl ?_
  refine k_iconst (p0 := 112) (v := nI 0) dX6_init_111 rfl rfl ?_
  refine k_put (p0 := 115) (fs2 := [_, _, _, _, _, _, _, _, _]) dX6_init_112 fX6_49 (Or.inl nX6_8) (pX6_8 _) (Nat.le_of_ble_eq_true rfl) rfl rfl ?_
  exact k_ret dX6_init_115 rfl ⟨rfl, rfl⟩

