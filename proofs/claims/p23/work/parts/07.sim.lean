/-! EVERY RULE IS THE MACHINE'S -/
abbrev aG : Type := (Nat → ClassId) × (Nat → Nat → Nat) × ClassId × ClassId
def cE (b : Nat) (G : aG) : AC → va_E
  | .inl (ci, fs) => .inr (ci, fs.map (cv b))
  | .inr (.inl (n, f)) => .inl (G.2.2.1, n, .inl f)
  | .inr (.inr (n, f)) => .inl (G.2.2.2, n, .inr (.inr (.inr (.inr (fun j => (f j).map (fun k => b + k))))))
def wsOf (b : Nat) (G : aG) (h : AH) : va_W := h.mapIdx (fun k c => (b + k, cE b G c))
theorem wsOf_get {b : Nat} {G : aG} {h : AH} {k : Nat} {c : AC} (hk : h[k]? = some c) : (wsOf b G h)[k]? = some (b + k, cE b G c) := by
  simp [wsOf, List.getElem?_mapIdx, hk]
theorem wsOf_inv {b : Nat} {G : aG} {h : AH} {k : Nat} {q : Nat × va_E} (hk : (wsOf b G h)[k]? = some q) : k < h.length ∧ q.1 = b + k := by
  simp only [wsOf, List.getElem?_mapIdx, Option.map_eq_some_iff] at hk
  obtain ⟨c, hc, rfl⟩ := hk
  exact ⟨(List.getElem?_eq_some_iff.mp hc).1, rfl⟩
theorem wsOf_set {b : Nat} {G : aG} {h : AH} {k : Nat} {c : AC} : (wsOf b G h).set k (b + k, cE b G c) = wsOf b G (h.set k c) := by
  apply List.ext_getElem?
  intro i
  simp only [wsOf, List.getElem?_set, List.getElem?_mapIdx, List.length_mapIdx]
  by_cases hi : k = i
  · subst hi
    by_cases hl : k < h.length <;> simp [hl]
  · simp [hi]
theorem wsOf_push {b : Nat} {G : aG} {h : AH} {c : AC} : wsOf b G (h ++ [c]) = wsOf b G h ++ [(b + h.length, cE b G c)] := by
  simp [wsOf, List.mapIdx_append]
theorem wsOf_D {b : Nat} {G : aG} {h : AH} : va_D (fun q => b ≤ q) (wsOf b G h) := by
  refine ⟨fun i j p q hi hj hpq => ?_, fun k q hk => ?_⟩
  · have h1 := (wsOf_inv hi).2
    have h2 := (wsOf_inv hj).2
    omega
  · have := (wsOf_inv hk).2
    show b ≤ q.1
    omega
abbrev aD (G : aG) : va_G := (G.1, G.2.1)
def Wd (G : aG) (b : Nat) (h : AH) (H : Heap) : Prop := H.size = b + h.length ∧ va_P (aD G) vwCl (wsOf b G h) H
abbrev aT (G : aG) : List (ClassId × FieldType) := [(G.2.2.1, .int), (G.2.2.2, .object RX8)]
def KK (G : aG) (U : State) : Prop := va_K (aD G) vwCl (aT G) U ∧ va_AO RX8 U ∧ ∀ q ∈ nestL, va_Nw (nestW q) U
theorem KK.warm {G : aG} {s U : State} (hW : s.WarmedH U.vm) (h : KK G s) : KK G U := ⟨va_K.moved hW.alike h.1, va_AO.moved hW.alike h.2.1, fun q hq => va_Nw.warmM hW (h.2.2 q hq)⟩
theorem KK.calling {G : aG} {U : State} {g : JFrame} {mk : MethodId} {a : Array Value} (h : KK G U) : KK G (U.calling g mk a) :=
  ⟨va_K.moved (u := U) (U := U.calling g mk a) (Vm.Alike.refl U.vm) h.1, va_AO.moved (u := U) (U := U.calling g mk a) (Vm.Alike.refl U.vm) h.2.1, fun q hq => va_Nw.same (u := U) (U := U.calling g mk a) rfl rfl (h.2.2 q hq)⟩
/-- locals -/
def LH (E : Option Value) (b : Nat) (ls : List (Option AV)) (cls : Array Slot) (nL : Nat) : Prop := ls.length = nL ∧ cls.size = nL ∧ lv_wf cls ∧ (∀ (i : Nat) (v : AV), ls[i]? = some (some v) → cls[i]? = some (.val (cv b v))) ∧ ∀ w, E = some w → w.category = 1 ∧ (ls[0]? = some none → cls[0]? = some (.val w))
def asc (b : Nat) (ls : List (Option AV)) : List (Nat × Value) := (List.range ls.length).filterMap (fun i => match ls[i]? with | some (some v) => some (i, cv b v) | _ => none)
theorem asc_mem {b : Nat} {ls : List (Option AV)} {q : Nat × Value} : q ∈ asc b ls ↔ ∃ v, ls[q.1]? = some (some v) ∧ q.2 = cv b v := by
  obtain ⟨i, w⟩ := q
  simp only [asc, List.mem_filterMap, List.mem_range]
  constructor
  · rintro ⟨j, hj, h⟩
    revert h
    split
    · next v hv => intro h; cases h; exact ⟨v, hv, rfl⟩
    · intro h; cases h
  · rintro ⟨v, hv, rfl⟩
    exact ⟨i, (List.getElem?_eq_some_iff.mp hv).1, by rw [hv]⟩
/-- what is known of the locals: local 0's raw value too -/
def asE (E : Option Value) (b : Nat) (ls : List (Option AV)) : List (Nat × Value) := asc b ls ++ (match E with | some w => if ls[0]? = some none then [(0, w)] else [] | none => [])
theorem asE_mem {E : Option Value} {b : Nat} {ls : List (Option AV)} {q : Nat × Value} : q ∈ asE E b ls ↔ q ∈ asc b ls ∨ (ls[0]? = some none ∧ ∃ w, E = some w ∧ q = (0, w)) := by
  unfold asE
  rw [List.mem_append]
  cases E with
  | none => simp
  | some w =>
    by_cases h : ls[0]? = some none
    · simp [h]
    · simp [h]
theorem LH.has {E : Option Value} {b nL : Nat} {ls : List (Option AV)} {cls : Array Slot} (h : LH E b ls cls nL) : lv_has cls nL (asE E b ls) := by
  refine ⟨h.2.1, h.2.2.1, fun q hq => ?_⟩
  rcases asE_mem.mp hq with hq | ⟨h0, w, hw, rfl⟩
  · obtain ⟨v, hv, e⟩ := asc_mem.mp hq
    rw [e]
    exact h.2.2.2.1 _ _ hv
  · exact (h.2.2.2.2 w hw).2 h0
theorem LH.at {E : Option Value} {b nL i : Nat} {ls : List (Option AV)} {cls : Array Slot} {v : AV} (h : LH E b ls cls nL) (hi : ls[i]? = some (some v)) : cls[i]? = some (.val (cv b v)) := h.2.2.2.1 i v hi
theorem LH.set {E : Option Value} {b nL i : Nat} {ls : List (Option AV)} {cls cls' : Array Slot} {v : AV} (h : LH E b ls cls nL) (h' : lv_has cls' nL ((i, cv b v) :: (asE E b ls).filter (fun q => !(q.1 == i) && !(q.1 + 1 == i && q.2.category == 2)))) : LH E b (ls.set i (some v)) cls' nL := by
  refine ⟨by rw [List.length_set]; exact h.1, h'.1, h'.2.1, fun j u hj => ?_, fun w hw => ⟨(h.2.2.2.2 w hw).1, fun h0 => ?_⟩⟩
  · rw [List.getElem?_set] at hj
    by_cases hij : i = j
    · subst hij
      simp only [if_true] at hj
      split at hj
      · cases hj
        exact h'.2.2 _ List.mem_cons_self
      · cases hj
    · rw [if_neg hij] at hj
      refine h'.2.2 (j, cv b u) (List.mem_cons_of_mem _ (List.mem_filter.mpr ⟨asE_mem.mpr (Or.inl (asc_mem.mpr ⟨u, hj, rfl⟩)), ?_⟩))
      have hne : (j == i) = false := by simp; exact fun e => hij e.symm
      simp [hne, cv_cat]
  · rw [List.getElem?_set] at h0
    by_cases hij : i = 0
    · subst hij
      simp only [if_true] at h0
      split at h0 <;> cases h0
    · rw [if_neg hij] at h0
      refine h'.2.2 (0, w) (List.mem_cons_of_mem _ (List.mem_filter.mpr ⟨asE_mem.mpr (Or.inr ⟨h0, w, hw, rfl⟩), ?_⟩))
      have hne : ((0 : Nat) == i) = false := by simp; exact fun e => hij e.symm
      simp [hne, (h.2.2.2.2 w hw).1]
theorem lsOf_LH (b : Nat) (r : MR) (as : List AV) (hl : as.length ≤ rL r) : LH none b (lsOf r as) ((lg_sl (as.map (cv b)) ++ List.replicate (rL r - (lg_sl (as.map (cv b))).length) Slot.unset).toArray) (rL r) := by
  have e1 : ∀ as : List AV, lg_sl (as.map (cv b)) = as.map (fun v => Slot.val (cv b v)) := by
    intro as
    induction as with
    | nil => rfl
    | cons v vs ih =>
      show lg_sl (cv b v :: vs.map (cv b)) = _
      simp only [lg_sl, List.flatMap_cons, cv_cat] at ih ⊢
      simp [ih]
  have hen := lv_entry (as.map (cv b)) (n := rL r) (by rw [e1, List.length_map]; exact hl)
  refine ⟨?_, hen.1, hen.2.1, fun i v hi => ?_, fun w hw => by cases hw⟩
  · simp [lsOf]; omega
  · rw [e1]
    have hlt : i < as.length := by
      rcases Nat.lt_or_ge i as.length with q | q
      · exact q
      · rw [lsOf, List.getElem?_append_right (by simpa using q)] at hi
        simp only [List.length_map, List.getElem?_replicate] at hi
        split at hi <;> cases hi
    rw [lsOf, List.getElem?_append_left (by simpa using hlt)] at hi
    simp only [List.getElem?_map, Option.map_eq_some_iff] at hi
    obtain ⟨u, hu, e⟩ := hi
    cases e
    show (List.toArray _)[i]? = _
    rw [List.getElem?_toArray, List.getElem?_append_left (by simpa using hlt)]
    simp [hu]
theorem cls_all {P : String → u_T → Nat → Prop} (h0 : P RX0 TX0 4) (h1 : P RX1 TX1 5) (h2 : P RX2 TX2 3) (h3 : P RX3 TX3 6) (h4 : P RX4 TX4 8) (h5 : P RX5 TX5 4) (h6 : P RX6 TX6 9) (h7 : P RX7 TX7 1) (h8 : P RX8 TX8 6) (h9 : P RX9 TX9 7) : ∀ (ci : Nat) (C : String) (T : u_T) (N : Nat), vwCl[ci]? = some (C, T, N) → P C T N := by
  intro ci C T N h
  match ci, h with
  | 0, h => cases h; exact h0
  | 1, h => cases h; exact h1
  | 2, h => cases h; exact h2
  | 3, h => cases h; exact h3
  | 4, h => cases h; exact h4
  | 5, h => cases h; exact h5
  | 6, h => cases h; exact h6
  | 7, h => cases h; exact h7
  | 8, h => cases h; exact h8
  | 9, h => cases h; exact h9
  | k + 10, h => simp [vwCl] at h
theorem wlX0 : ∀ w ∈ u_ws RX0 TX0 4, w ∈ Wl := fun w h => Wl_in ((show ∀ w ∈ u_ws RX0 TX0 4, w ∈ lw_tbl by decide +kernel) w h) (List.all_eq_true.mp (show (u_ws RX0 TX0 4).all goodWord = true by decide +kernel) w h)
theorem wlX1 : ∀ w ∈ u_ws RX1 TX1 5, w ∈ Wl := fun w h => Wl_in ((show ∀ w ∈ u_ws RX1 TX1 5, w ∈ lw_tbl by decide +kernel) w h) (List.all_eq_true.mp (show (u_ws RX1 TX1 5).all goodWord = true by decide +kernel) w h)
theorem wlX2 : ∀ w ∈ u_ws RX2 TX2 3, w ∈ Wl := fun w h => Wl_in ((show ∀ w ∈ u_ws RX2 TX2 3, w ∈ lw_tbl by decide +kernel) w h) (List.all_eq_true.mp (show (u_ws RX2 TX2 3).all goodWord = true by decide +kernel) w h)
theorem wlX3 : ∀ w ∈ u_ws RX3 TX3 6, w ∈ Wl := fun w h => Wl_in ((show ∀ w ∈ u_ws RX3 TX3 6, w ∈ lw_tbl by decide +kernel) w h) (List.all_eq_true.mp (show (u_ws RX3 TX3 6).all goodWord = true by decide +kernel) w h)
theorem wlX4 : ∀ w ∈ u_ws RX4 TX4 8, w ∈ Wl := fun w h => Wl_in ((show ∀ w ∈ u_ws RX4 TX4 8, w ∈ lw_tbl by decide +kernel) w h) (List.all_eq_true.mp (show (u_ws RX4 TX4 8).all goodWord = true by decide +kernel) w h)
theorem wlX5 : ∀ w ∈ u_ws RX5 TX5 4, w ∈ Wl := fun w h => Wl_in ((show ∀ w ∈ u_ws RX5 TX5 4, w ∈ lw_tbl by decide +kernel) w h) (List.all_eq_true.mp (show (u_ws RX5 TX5 4).all goodWord = true by decide +kernel) w h)
theorem wlX6 : ∀ w ∈ u_ws RX6 TX6 9, w ∈ Wl := fun w h => Wl_in ((show ∀ w ∈ u_ws RX6 TX6 9, w ∈ lw_tbl by decide +kernel) w h) (List.all_eq_true.mp (show (u_ws RX6 TX6 9).all goodWord = true by decide +kernel) w h)
theorem wlX7 : ∀ w ∈ u_ws RX7 TX7 1, w ∈ Wl := fun w h => Wl_in ((show ∀ w ∈ u_ws RX7 TX7 1, w ∈ lw_tbl by decide +kernel) w h) (List.all_eq_true.mp (show (u_ws RX7 TX7 1).all goodWord = true by decide +kernel) w h)
theorem wlX8 : ∀ w ∈ u_ws RX8 TX8 6, w ∈ Wl := fun w h => Wl_in ((show ∀ w ∈ u_ws RX8 TX8 6, w ∈ lw_tbl by decide +kernel) w h) (List.all_eq_true.mp (show (u_ws RX8 TX8 6).all goodWord = true by decide +kernel) w h)
theorem wlX9 : ∀ w ∈ u_ws RX9 TX9 7, w ∈ Wl := fun w h => Wl_in ((show ∀ w ∈ u_ws RX9 TX9 7, w ∈ lw_tbl by decide +kernel) w h) (List.all_eq_true.mp (show (u_ws RX9 TX9 7).all goodWord = true by decide +kernel) w h)
theorem arrI : Cond.arrayClass .int ∈ Wl := Wl_in (by decide +kernel) (by decide +kernel)
theorem objI : Cond.instanceMethod objectInit ∈ Wl := Wl_in (by decide +kernel) (by decide +kernel)
theorem objC : Cond.code objectInit ⟨#[0xb1]⟩ 1 none ∈ Wl := Wl_in (by decide +kernel) (by decide +kernel)
theorem lv_room0 {m : MethodId} {pc : Nat} {ls : Array Slot} {st : List Value} {n : Nat} (h : n ≤ 8) : 2 * (F0 m pc ls st).monitorRoom + n ≤ 8 := by
  have e : (F0 m pc ls st).monitorRoom = 0 := rfl
  rw [e]
  omega
theorem cls_in : ∀ (ci : Nat) (C : String) (T : u_T) (N : Nat), vwCl[ci]? = some (C, T, N) → ∀ w ∈ u_ws C T N, w ∈ Wl :=
  cls_all (P := fun C T N => ∀ w ∈ u_ws C T N, w ∈ Wl) wlX0 wlX1 wlX2 wlX3 wlX4 wlX5 wlX6 wlX7 wlX8 wlX9
theorem cls_ty : ∀ (ci : Nat) (C : String) (T : u_T) (N : Nat), vwCl[ci]? = some (C, T, N) → ∃ ty : Nat → FieldType, (∀ k, k < N → parseFieldDescriptor (T k).2.2.1 = some (ty k)) ∧ ∀ a, a < N → ∀ b, b < N → a ≠ b → (T a).2.1 ≠ (T b).2.1 :=
  cls_all (P := fun C T N => ∃ ty : Nat → FieldType, (∀ k, k < N → parseFieldDescriptor (T k).2.2.1 = some (ty k)) ∧ ∀ a, a < N → ∀ b, b < N → a ≠ b → (T a).2.1 ≠ (T b).2.1) ⟨tyX0, tyX0_ok, nmX0⟩ ⟨tyX1, tyX1_ok, nmX1⟩ ⟨tyX2, tyX2_ok, nmX2⟩ ⟨tyX3, tyX3_ok, nmX3⟩ ⟨tyX4, tyX4_ok, nmX4⟩ ⟨tyX5, tyX5_ok, nmX5⟩ ⟨tyX6, tyX6_ok, nmX6⟩ ⟨tyX7, tyX7_ok, nmX7⟩ ⟨tyX8, tyX8_ok, nmX8⟩ ⟨tyX9, tyX9_ok, nmX9⟩
section SIM
variable {p : Program} {l : Launch} {e : Env} {s : State} {m : MethodId} {args : Array Value} {below : List Frame} {meth : Method} {c : Code} {r : MR} {OO : AO} {Q : AP} {G : aG} {bs mc ms : Nat} {E : Option Value} {Qf : State → Prop}
abbrev wm (r : MR) : List Cond := .code (ry r) (rc r) (rL r) (rt r) :: Wl
abbrev rmOf (r : MR) (mc ms : Nat) : Room := { frames := rf r, cells := mc, slots := ms, locals := rl r }
def QcA (G : aG) (b : Nat) (Q : AP) : Array Value → State → Outcome → State → Prop := fun _ st o t => (∃ (w : Option AV) (h : AH), o = .returned (w.map (cv b)) ∧ Q w h ∧ Wd G b h t.heap) ∧ va_F (fun q => b ≤ q) st t
def PcA (G : aG) (b : Nat) (as : List AV) (h : AH) : Array Value → State → Prop := fun v U => v = (as.map (cv b)).toArray ∧ Wd G b h U.heap ∧ KK G U
def Ctx (p : Program) (s : State) (m : MethodId) (args : Array Value) (meth : Method) (c : Code) (r : MR) (G : aG) : Prop :=
  p.tables.exec = Jvm.exec ∧ c.code = rc r ∧ meth.sig.returnType = rt r ∧ c.maxLocals = rL r ∧ s.vm.findClass (ro r) = some m.cls ∧ (∀ w ∈ Wl, w.before args s = true) ∧ meth.locks = false ∧ ((ry r).name = "<init>" → meth.name = (ry r).name) ∧ KK G s
def SX (p : Program) (l : Launch) (e : Env) (s : State) (m : MethodId) (args : Array Value) (below : List Frame) (meth : Method) (c : Code) (r : MR) (G : aG) (bs mc ms : Nat) (E : Option Value) (Qf : State → Prop) : AX := fun pc ls st h a b =>
  ∀ (H : Heap) (locs : List Loc) (cells slots : Nat) (cls : Array Slot), Wd G bs h H → va_S (fun q => bs ≤ q) s.heap H locs → LH E bs ls cls (rL r) → cells + a ≤ mc → slots + b ≤ ms →
    W p l e (rmOf r mc ms) s m args below meth c H locs cells slots Qf (F0 m pc cls (st.map (cv bs)))
variable (K : Ctx p s m args meth c r G)
theorem s_iconst (K : Ctx p s m args meth c r G) : R_iconst r (SX p l e s m args below meth c r G bs mc ms E Qf) := by
  obtain ⟨hx, hb, hr, hml, hown, hts, hlocks, hnm, hK⟩ := K
  intro pc ls st h a b n v d1 d2 k H locs cells slots cls hW hS hl ha hbb
  exact lv_iconst hx hb d1 d2 (k H locs cells slots cls hW hS hl ha hbb)
theorem s_bipush (K : Ctx p s m args meth c r G) : R_bipush r (SX p l e s m args below meth c r G bs mc ms E Qf) := by
  obtain ⟨hx, hb, hr, hml, hown, hts, hlocks, hnm, hK⟩ := K
  intro pc ls st h a b n v d1 d2 k H locs cells slots cls hW hS hl ha hbb
  exact lv_bipush hx hb d1 d2 (k H locs cells slots cls hW hS hl ha hbb)
theorem s_sipush (K : Ctx p s m args meth c r G) : R_sipush r (SX p l e s m args below meth c r G bs mc ms E Qf) := by
  obtain ⟨hx, hb, hr, hml, hown, hts, hlocks, hnm, hK⟩ := K
  intro pc ls st h a b n v d1 d2 k H locs cells slots cls hW hS hl ha hbb
  exact lv_sipush hx hb d1 d2 (k H locs cells slots cls hW hS hl ha hbb)
theorem s_ldc (K : Ctx p s m args meth c r G) : R_ldc r (SX p l e s m args below meth c r G bs mc ms E Qf) := by
  obtain ⟨hx, hb, hr, hml, hown, hts, hlocks, hnm, hK⟩ := K
  intro pc ls st h a b i v d1 d2 k H locs cells slots cls hW hS hl ha hbb
  exact lv_ldc hx hb hown (hts _ d2) d1 (k H locs cells slots cls hW hS hl ha hbb)
theorem s_null (K : Ctx p s m args meth c r G) : R_null r (SX p l e s m args below meth c r G bs mc ms E Qf) := by
  obtain ⟨hx, hb, hr, hml, hown, hts, hlocks, hnm, hK⟩ := K
  intro pc ls st h a b  d1 k H locs cells slots cls hW hS hl ha hbb
  exact lv_null hx hb d1 (k H locs cells slots cls hW hS hl ha hbb)
theorem s_iload_n (K : Ctx p s m args meth c r G) : R_iload_n r (SX p l e s m args below meth c r G bs mc ms E Qf) := by
  obtain ⟨hx, hb, hr, hml, hown, hts, hlocks, hnm, hK⟩ := K
  intro pc ls st h a b kk i x d1 d2 d3 k H locs cells slots cls hW hS hl ha hbb
  exact lv_iload_n hx hb d1 d2 (hl.at d3) (k H locs cells slots cls hW hS hl ha hbb)
theorem s_iload (K : Ctx p s m args meth c r G) : R_iload r (SX p l e s m args below meth c r G bs mc ms E Qf) := by
  obtain ⟨hx, hb, hr, hml, hown, hts, hlocks, hnm, hK⟩ := K
  intro pc ls st h a b i x d1 d2 k H locs cells slots cls hW hS hl ha hbb
  exact lv_iload hx hb d1 (hl.at d2) (k H locs cells slots cls hW hS hl ha hbb)
theorem s_aload_n (K : Ctx p s m args meth c r G) : R_aload_n r (SX p l e s m args below meth c r G bs mc ms E Qf) := by
  obtain ⟨hx, hb, hr, hml, hown, hts, hlocks, hnm, hK⟩ := K
  intro pc ls st h a b kk i x d1 d2 d3 k H locs cells slots cls hW hS hl ha hbb
  exact lv_aload_n hx hb d1 d2 (hl.at d3) (k H locs cells slots cls hW hS hl ha hbb)
theorem s_aload (K : Ctx p s m args meth c r G) : R_aload r (SX p l e s m args below meth c r G bs mc ms E Qf) := by
  obtain ⟨hx, hb, hr, hml, hown, hts, hlocks, hnm, hK⟩ := K
  intro pc ls st h a b i x d1 d2 k H locs cells slots cls hW hS hl ha hbb
  exact lv_aload hx hb d1 (hl.at d2) (k H locs cells slots cls hW hS hl ha hbb)
theorem s_istore_n (K : Ctx p s m args meth c r G) : R_istore_n r (SX p l e s m args below meth c r G bs mc ms E Qf) := by
  obtain ⟨hx, hb, hr, hml, hown, hts, hlocks, hnm, hK⟩ := K
  intro pc ls st h a b kk i x d1 d2 d3 k H locs cells slots cls hW hS hl ha hbb
  exact lv_istore_n hx hb d1 d2 hl.has (hl.1 ▸ d3) rfl (fun ls2 hl2 => k H locs cells slots ls2 hW hS (hl.set hl2) ha hbb)
theorem s_istore (K : Ctx p s m args meth c r G) : R_istore r (SX p l e s m args below meth c r G bs mc ms E Qf) := by
  obtain ⟨hx, hb, hr, hml, hown, hts, hlocks, hnm, hK⟩ := K
  intro pc ls st h a b i x d1 d3 k H locs cells slots cls hW hS hl ha hbb
  exact lv_istore hx hb d1 hl.has (hl.1 ▸ d3) rfl (fun ls2 hl2 => k H locs cells slots ls2 hW hS (hl.set hl2) ha hbb)
theorem s_astore_n (K : Ctx p s m args meth c r G) : R_astore_n r (SX p l e s m args below meth c r G bs mc ms E Qf) := by
  obtain ⟨hx, hb, hr, hml, hown, hts, hlocks, hnm, hK⟩ := K
  intro pc ls st h a b kk i x d1 d2 d3 k H locs cells slots cls hW hS hl ha hbb
  exact lv_astore_n hx hb d1 d2 hl.has (hl.1 ▸ d3) rfl (fun ls2 hl2 => k H locs cells slots ls2 hW hS (hl.set hl2) ha hbb)
theorem s_astore (K : Ctx p s m args meth c r G) : R_astore r (SX p l e s m args below meth c r G bs mc ms E Qf) := by
  obtain ⟨hx, hb, hr, hml, hown, hts, hlocks, hnm, hK⟩ := K
  intro pc ls st h a b i x d1 d3 k H locs cells slots cls hW hS hl ha hbb
  exact lv_astore hx hb d1 hl.has (hl.1 ▸ d3) rfl (fun ls2 hl2 => k H locs cells slots ls2 hW hS (hl.set hl2) ha hbb)
theorem s_iinc (K : Ctx p s m args meth c r G) : R_iinc r (SX p l e s m args below meth c r G bs mc ms E Qf) := by
  obtain ⟨hx, hb, hr, hml, hown, hts, hlocks, hnm, hK⟩ := K
  intro pc ls st h a b i n x d1 d2 k H locs cells slots cls hW hS hl ha hbb
  have hm : (i, Value.int x) ∈ asE E bs ls := asE_mem.mpr (Or.inl (asc_mem.mpr ⟨_, d2, rfl⟩))
  obtain ⟨j, hj⟩ := List.getElem?_of_mem hm
  exact lv_iinc (k := j) hx hb d1 hl.has hj rfl (hl.1 ▸ (List.getElem?_eq_some_iff.mp d2).1) rfl (fun ls2 hl2 => k H locs cells slots ls2 hW hS (hl.set hl2) ha hbb)
theorem s_iadd (K : Ctx p s m args meth c r G) : R_iadd r (SX p l e s m args below meth c r G bs mc ms E Qf) := by
  obtain ⟨hx, hb, hr, hml, hown, hts, hlocks, hnm, hK⟩ := K
  intro pc ls st h a b x y d1 k H locs cells slots cls hW hS hl ha hbb
  exact lv_iadd hx hb d1 (k H locs cells slots cls hW hS hl ha hbb)
theorem s_isub (K : Ctx p s m args meth c r G) : R_isub r (SX p l e s m args below meth c r G bs mc ms E Qf) := by
  obtain ⟨hx, hb, hr, hml, hown, hts, hlocks, hnm, hK⟩ := K
  intro pc ls st h a b x y d1 k H locs cells slots cls hW hS hl ha hbb
  exact lv_isub hx hb d1 (k H locs cells slots cls hW hS hl ha hbb)
theorem s_imul (K : Ctx p s m args meth c r G) : R_imul r (SX p l e s m args below meth c r G bs mc ms E Qf) := by
  obtain ⟨hx, hb, hr, hml, hown, hts, hlocks, hnm, hK⟩ := K
  intro pc ls st h a b x y d1 k H locs cells slots cls hW hS hl ha hbb
  exact lv_imul hx hb d1 (k H locs cells slots cls hW hS hl ha hbb)
theorem s_ior (K : Ctx p s m args meth c r G) : R_ior r (SX p l e s m args below meth c r G bs mc ms E Qf) := by
  obtain ⟨hx, hb, hr, hml, hown, hts, hlocks, hnm, hK⟩ := K
  intro pc ls st h a b x y d1 k H locs cells slots cls hW hS hl ha hbb
  exact lv_ior hx hb d1 (k H locs cells slots cls hW hS hl ha hbb)
theorem s_iand (K : Ctx p s m args meth c r G) : R_iand r (SX p l e s m args below meth c r G bs mc ms E Qf) := by
  obtain ⟨hx, hb, hr, hml, hown, hts, hlocks, hnm, hK⟩ := K
  intro pc ls st h a b x y d1 k H locs cells slots cls hW hS hl ha hbb
  exact lv_iand hx hb d1 (k H locs cells slots cls hW hS hl ha hbb)
theorem s_ixor (K : Ctx p s m args meth c r G) : R_ixor r (SX p l e s m args below meth c r G bs mc ms E Qf) := by
  obtain ⟨hx, hb, hr, hml, hown, hts, hlocks, hnm, hK⟩ := K
  intro pc ls st h a b x y d1 k H locs cells slots cls hW hS hl ha hbb
  exact lv_ixor hx hb d1 (k H locs cells slots cls hW hS hl ha hbb)
theorem s_ishl (K : Ctx p s m args meth c r G) : R_ishl r (SX p l e s m args below meth c r G bs mc ms E Qf) := by
  obtain ⟨hx, hb, hr, hml, hown, hts, hlocks, hnm, hK⟩ := K
  intro pc ls st h a b x y d1 k H locs cells slots cls hW hS hl ha hbb
  exact lv_ishl hx hb d1 (k H locs cells slots cls hW hS hl ha hbb)
theorem s_ishr (K : Ctx p s m args meth c r G) : R_ishr r (SX p l e s m args below meth c r G bs mc ms E Qf) := by
  obtain ⟨hx, hb, hr, hml, hown, hts, hlocks, hnm, hK⟩ := K
  intro pc ls st h a b x y d1 k H locs cells slots cls hW hS hl ha hbb
  exact lv_ishr hx hb d1 (k H locs cells slots cls hW hS hl ha hbb)
theorem s_idiv (K : Ctx p s m args meth c r G) : R_idiv r (SX p l e s m args below meth c r G bs mc ms E Qf) := by
  obtain ⟨hx, hb, hr, hml, hown, hts, hlocks, hnm, hK⟩ := K
  intro pc ls st h a b x y d1 d2 k H locs cells slots cls hW hS hl ha hbb
  exact lv_idiv hx hb d1 d2 (k H locs cells slots cls hW hS hl ha hbb)
theorem s_irem (K : Ctx p s m args meth c r G) : R_irem r (SX p l e s m args below meth c r G bs mc ms E Qf) := by
  obtain ⟨hx, hb, hr, hml, hown, hts, hlocks, hnm, hK⟩ := K
  intro pc ls st h a b x y d1 d2 k H locs cells slots cls hW hS hl ha hbb
  exact lv_irem hx hb d1 d2 (k H locs cells slots cls hW hS hl ha hbb)
theorem s_dup (K : Ctx p s m args meth c r G) : R_dup r (SX p l e s m args below meth c r G bs mc ms E Qf) := by
  obtain ⟨hx, hb, hr, hml, hown, hts, hlocks, hnm, hK⟩ := K
  intro pc ls st h a b v d1 k H locs cells slots cls hW hS hl ha hbb
  exact lv_dup hx hb d1 (cv_cat _ _) (k H locs cells slots cls hW hS hl ha hbb)
theorem s_dup2 (K : Ctx p s m args meth c r G) : R_dup2 r (SX p l e s m args below meth c r G bs mc ms E Qf) := by
  obtain ⟨hx, hb, hr, hml, hown, hts, hlocks, hnm, hK⟩ := K
  intro pc ls st h a b v u d1 k H locs cells slots cls hW hS hl ha hbb
  exact lv_dup2_11 hx hb d1 (cv_cat _ _) (cv_cat _ _) (k H locs cells slots cls hW hS hl ha hbb)
theorem s_pop (K : Ctx p s m args meth c r G) : R_pop r (SX p l e s m args below meth c r G bs mc ms E Qf) := by
  obtain ⟨hx, hb, hr, hml, hown, hts, hlocks, hnm, hK⟩ := K
  intro pc ls st h a b v d1 k H locs cells slots cls hW hS hl ha hbb
  exact lv_pop hx hb d1 (cv_cat _ _) (k H locs cells slots cls hW hS hl ha hbb)
theorem s_goto (K : Ctx p s m args meth c r G) : R_goto r (SX p l e s m args below meth c r G bs mc ms E Qf) := by
  obtain ⟨hx, hb, hr, hml, hown, hts, hlocks, hnm, hK⟩ := K
  intro pc ls st h a b off tgt d1 d2 k H locs cells slots cls hW hS hl ha hbb
  exact lv_goto hx hb d1 d2 (k H locs cells slots cls hW hS hl ha hbb)
theorem s_icmp_eq (K : Ctx p s m args meth c r G) : R_icmp_eq r (SX p l e s m args below meth c r G bs mc ms E Qf) := by
  obtain ⟨hx, hb, hr, hml, hown, hts, hlocks, hnm, hK⟩ := K
  intro pc ls st h a b x y off tgt d1 d2 k1 k2 H locs cells slots cls hW hS hl ha hbb
  exact lv_icmp_eq hx hb d1 d2 (fun q => k1 q H locs cells slots cls hW hS hl ha hbb) (fun q => k2 q H locs cells slots cls hW hS hl ha hbb)
theorem s_if_eq (K : Ctx p s m args meth c r G) : R_if_eq r (SX p l e s m args below meth c r G bs mc ms E Qf) := by
  obtain ⟨hx, hb, hr, hml, hown, hts, hlocks, hnm, hK⟩ := K
  intro pc ls st h a b x off tgt d1 d2 k1 k2 H locs cells slots cls hW hS hl ha hbb
  exact lv_if_eq hx hb d1 d2 (fun q => k1 q H locs cells slots cls hW hS hl ha hbb) (fun q => k2 q H locs cells slots cls hW hS hl ha hbb)
theorem s_icmp_ne (K : Ctx p s m args meth c r G) : R_icmp_ne r (SX p l e s m args below meth c r G bs mc ms E Qf) := by
  obtain ⟨hx, hb, hr, hml, hown, hts, hlocks, hnm, hK⟩ := K
  intro pc ls st h a b x y off tgt d1 d2 k1 k2 H locs cells slots cls hW hS hl ha hbb
  exact lv_icmp_ne hx hb d1 d2 (fun q => k1 q H locs cells slots cls hW hS hl ha hbb) (fun q => k2 q H locs cells slots cls hW hS hl ha hbb)
theorem s_if_ne (K : Ctx p s m args meth c r G) : R_if_ne r (SX p l e s m args below meth c r G bs mc ms E Qf) := by
  obtain ⟨hx, hb, hr, hml, hown, hts, hlocks, hnm, hK⟩ := K
  intro pc ls st h a b x off tgt d1 d2 k1 k2 H locs cells slots cls hW hS hl ha hbb
  exact lv_if_ne hx hb d1 d2 (fun q => k1 q H locs cells slots cls hW hS hl ha hbb) (fun q => k2 q H locs cells slots cls hW hS hl ha hbb)
theorem s_icmp_lt (K : Ctx p s m args meth c r G) : R_icmp_lt r (SX p l e s m args below meth c r G bs mc ms E Qf) := by
  obtain ⟨hx, hb, hr, hml, hown, hts, hlocks, hnm, hK⟩ := K
  intro pc ls st h a b x y off tgt d1 d2 k1 k2 H locs cells slots cls hW hS hl ha hbb
  exact lv_icmp_lt hx hb d1 d2 (fun q => k1 q H locs cells slots cls hW hS hl ha hbb) (fun q => k2 q H locs cells slots cls hW hS hl ha hbb)
theorem s_if_lt (K : Ctx p s m args meth c r G) : R_if_lt r (SX p l e s m args below meth c r G bs mc ms E Qf) := by
  obtain ⟨hx, hb, hr, hml, hown, hts, hlocks, hnm, hK⟩ := K
  intro pc ls st h a b x off tgt d1 d2 k1 k2 H locs cells slots cls hW hS hl ha hbb
  exact lv_if_lt hx hb d1 d2 (fun q => k1 q H locs cells slots cls hW hS hl ha hbb) (fun q => k2 q H locs cells slots cls hW hS hl ha hbb)
theorem s_icmp_ge (K : Ctx p s m args meth c r G) : R_icmp_ge r (SX p l e s m args below meth c r G bs mc ms E Qf) := by
  obtain ⟨hx, hb, hr, hml, hown, hts, hlocks, hnm, hK⟩ := K
  intro pc ls st h a b x y off tgt d1 d2 k1 k2 H locs cells slots cls hW hS hl ha hbb
  exact lv_icmp_ge hx hb d1 d2 (fun q => k1 q H locs cells slots cls hW hS hl ha hbb) (fun q => k2 q H locs cells slots cls hW hS hl ha hbb)
theorem s_if_ge (K : Ctx p s m args meth c r G) : R_if_ge r (SX p l e s m args below meth c r G bs mc ms E Qf) := by
  obtain ⟨hx, hb, hr, hml, hown, hts, hlocks, hnm, hK⟩ := K
  intro pc ls st h a b x off tgt d1 d2 k1 k2 H locs cells slots cls hW hS hl ha hbb
  exact lv_if_ge hx hb d1 d2 (fun q => k1 q H locs cells slots cls hW hS hl ha hbb) (fun q => k2 q H locs cells slots cls hW hS hl ha hbb)
theorem s_icmp_gt (K : Ctx p s m args meth c r G) : R_icmp_gt r (SX p l e s m args below meth c r G bs mc ms E Qf) := by
  obtain ⟨hx, hb, hr, hml, hown, hts, hlocks, hnm, hK⟩ := K
  intro pc ls st h a b x y off tgt d1 d2 k1 k2 H locs cells slots cls hW hS hl ha hbb
  exact lv_icmp_gt hx hb d1 d2 (fun q => k1 q H locs cells slots cls hW hS hl ha hbb) (fun q => k2 q H locs cells slots cls hW hS hl ha hbb)
theorem s_if_gt (K : Ctx p s m args meth c r G) : R_if_gt r (SX p l e s m args below meth c r G bs mc ms E Qf) := by
  obtain ⟨hx, hb, hr, hml, hown, hts, hlocks, hnm, hK⟩ := K
  intro pc ls st h a b x off tgt d1 d2 k1 k2 H locs cells slots cls hW hS hl ha hbb
  exact lv_if_gt hx hb d1 d2 (fun q => k1 q H locs cells slots cls hW hS hl ha hbb) (fun q => k2 q H locs cells slots cls hW hS hl ha hbb)
theorem s_icmp_le (K : Ctx p s m args meth c r G) : R_icmp_le r (SX p l e s m args below meth c r G bs mc ms E Qf) := by
  obtain ⟨hx, hb, hr, hml, hown, hts, hlocks, hnm, hK⟩ := K
  intro pc ls st h a b x y off tgt d1 d2 k1 k2 H locs cells slots cls hW hS hl ha hbb
  exact lv_icmp_le hx hb d1 d2 (fun q => k1 q H locs cells slots cls hW hS hl ha hbb) (fun q => k2 q H locs cells slots cls hW hS hl ha hbb)
theorem s_if_le (K : Ctx p s m args meth c r G) : R_if_le r (SX p l e s m args below meth c r G bs mc ms E Qf) := by
  obtain ⟨hx, hb, hr, hml, hown, hts, hlocks, hnm, hK⟩ := K
  intro pc ls st h a b x off tgt d1 d2 k1 k2 H locs cells slots cls hW hS hl ha hbb
  exact lv_if_le hx hb d1 d2 (fun q => k1 q H locs cells slots cls hW hS hl ha hbb) (fun q => k2 q H locs cells slots cls hW hS hl ha hbb)
theorem s_ifnull (K : Ctx p s m args meth c r G) : R_ifnull r (SX p l e s m args below meth c r G bs mc ms E Qf) := by
  obtain ⟨hx, hb, hr, hml, hown, hts, hlocks, hnm, hK⟩ := K
  intro pc ls st h a b x off d1 k H locs cells slots cls hW hS hl ha hbb
  exact lv_ifnull hx hb d1 (k H locs cells slots cls hW hS hl ha hbb)
theorem s_tabIn (K : Ctx p s m args meth c r G) : R_tabIn r (SX p l e s m args below meth c r G bs mc ms E Qf) := by
  obtain ⟨hx, hb, hr, hml, hown, hts, hlocks, hnm, hK⟩ := K
  intro pc ls st h a b dflt lo hi offs len x off tgt d1 d2 d3 d4 d5 k H locs cells slots cls hW hS hl ha hbb
  exact lv_tableIn hx hb d1 d2 d3 d4 d5 (k H locs cells slots cls hW hS hl ha hbb)
theorem s_tabOut (K : Ctx p s m args meth c r G) : R_tabOut r (SX p l e s m args below meth c r G bs mc ms E Qf) := by
  obtain ⟨hx, hb, hr, hml, hown, hts, hlocks, hnm, hK⟩ := K
  intro pc ls st h a b dflt lo hi offs len x tgt d1 d2 d3 k H locs cells slots cls hW hS hl ha hbb
  exact lv_tableOut hx hb d1 d2 d3 (k H locs cells slots cls hW hS hl ha hbb)
theorem s_look (K : Ctx p s m args meth c r G) : R_look r (SX p l e s m args below meth c r G bs mc ms E Qf) := by
  obtain ⟨hx, hb, hr, hml, hown, hts, hlocks, hnm, hK⟩ := K
  intro pc ls st h a b dflt ps len x off tgt d1 d2 d3 d4 k H locs cells slots cls hW hS hl ha hbb
  exact lv_lookup hx hb d1 d2 d3 d4 (k H locs cells slots cls hW hS hl ha hbb)
theorem s_getf (K : Ctx p s m args meth c r G) : R_getf r (SX p l e s m args below meth c r G bs mc ms E Qf) := by
  obtain ⟨hx, hb, hr, hml, hown, hts, hlocks, hnm, hK⟩ := K
  intro pc ls st h a b i ci k o fs v d1 d2 d3 d4 kk H locs cells slots cls hW hS hl ha hbb
  obtain ⟨C, T, N, hc, hk, hw⟩ := d2
  exact va_get (D := aD G) (ci := ci) (v := cv bs v) (C := C) (T := T) (N := N) (Ts := Wl) hx hb (hts) (cls_in _ _ _ _ hc) hown hK.1 hW.2 o (wsOf_get d3) hc k hk (hts _ hw) (fun _ h9 => h9) (by rw [List.getElem?_map, d4]; rfl) d1 (kk H locs cells slots cls hW hS hl ha hbb)
theorem s_putf (K : Ctx p s m args meth c r G) : R_putf r (SX p l e s m args below meth c r G bs mc ms E Qf) := by
  obtain ⟨hx, hb, hr, hml, hown, hts, hlocks, hnm, hK⟩ := K
  intro pc ls st h a b i ci k o fs v d1 d2 d3 d4 d5 d6 kk H locs cells slots cls hW hS hl ha hbb
  obtain ⟨C, T, N, hc, hk, hw⟩ := d2
  obtain ⟨C4, T4, N4, ty, hc4, hd, hn, hfit⟩ := d4 bs
  cases hc.symm.trans hc4
  have hts2 : ∀ w ∈ Wl, w.before args s = true := hts
  obtain ⟨ty0, hty, hdist⟩ := cls_ty _ _ _ _ hc
  have hap := va_apart (own := ro r) hts2 (cls_in _ _ _ _ hc) ty0 hty hdist hK.1 hc
  obtain ⟨r1, h1, cell, q1, q2, q3, q4⟩ := hW.2 o _ (wsOf_get d5)
  cases h1.symm.trans hc
  obtain ⟨hSl, hfc, kC, hkC, hkind⟩ := hK.1.1 ci _ hc
  obtain ⟨cf, kf, fi, f, hi, hsl⟩ := hSl k hk
  have hlays := u_lays hts2 (cls_in _ _ _ _ hc) hk
  have hst := (u_facts hfc hkC hlays hi).1
  have fin : ∀ H1 : Heap, H1[bs + o]? = some (cell.setSlot f.slot (cv bs v)) → H1.size = H.size → (∀ q, q ≠ bs + o → H1[q]? = H[q]?) → Wd G bs (h.set o (.inl (ci, fs.set k v))) H1 ∧ va_S (fun q => bs ≤ q) s.heap H1 (locs ++ [⟨bs + o, f.slot⟩]) := by
    intro H1 e1 e2 e3
    rw [hsl] at e1
    refine ⟨⟨by rw [e2, List.length_set]; exact hW.1, ?_⟩, hS.put e2 e3 (Nat.le_add_right _ _)⟩
    rw [← wsOf_set]
    have hl2 : k < (fs.map (cv bs)).length := by rw [List.length_map]; exact d6
    refine hW.2.set wsOf_D (wsOf_get d5) ⟨_, hc, t_OB.to (V := updV (vp_V (fs.map (cv bs))) k (cv bs v)) ⟨_, e1, q2, q3, t_set q4 hap hk (cv bs v)⟩ (fun j _ => ?_)⟩ e3
    rw [vp_updV_set hl2, List.map_set]
  have hslot := k2_hasslot (q4 k hk)
  by_cases hfin : (T k).2.2.2 = true
  · have hini : (ry r).name = "<init>" ∧ FF (ro r) ci k := by
      rcases d3 with ⟨C3, T3, N3, hc3, hf3⟩ | q
      · cases hc.symm.trans hc3
        rw [hfin] at hf3
        cases hf3
      · exact q
    obtain ⟨hin2, C3, T3, N3, hc3, -, hdecl⟩ := hini
    cases hc.symm.trans hc3
    have hlay := hts2 _ (cls_in _ _ _ _ hc _ (u_in_lay hk))
    unfold u_lay at hlay
    rw [if_pos hfin] at hlay
    have hcf : m.cls = cf := by
      obtain ⟨_, _, c', _, _, _, -, -, hf', -, -, -, hown2, -⟩ := Cond.laysFinal_spec hlay
      have e1 : c' = cf := by
        have h9 := hi.symm.trans hf'
        simp at h9
        exact h9.1.symm
      rw [hdecl] at hown2
      rw [← e1]
      exact Option.some.inj (hown.symm.trans hown2)
    refine W.putFinK hx hb hown (hts _ hw) hi hst hcf ((hnm hin2).trans hin2) (by rw [q2]; exact u_fits hfc hkC hkind (Or.inr hlay) hi hd hn hfit) q1 q3 (by rw [hsl]; exact hslot) rfl rfl d1 fun H1 e1 e2 e3 => ?_
    obtain ⟨f1, f2⟩ := fin H1 e1 e2 e3
    exact kk H1 _ cells slots cls f1 f2 hl ha hbb
  · have hfin2 : (T k).2.2.2 = false := by simpa using hfin
    have hlay := hts2 _ (cls_in _ _ _ _ hc _ (u_in_lay hk))
    unfold u_lay at hlay
    rw [if_neg hfin] at hlay
    refine W.putK hx hb (f := f) ⟨hown, hts _ hw, ⟨_, _, _, hi⟩, hst⟩ (by rw [q2]; exact u_store hfc hkC hkind hlay hi hd hn hfit) q1 q3 (by rw [hsl]; exact hslot) rfl rfl d1 fun H1 e1 e2 e3 => ?_
    obtain ⟨f1, f2⟩ := fin H1 e1 e2 e3
    exact kk H1 _ cells slots cls f1 f2 hl ha hbb
theorem s_iald (K : Ctx p s m args meth c r G) : R_iald r (SX p l e s m args below meth c r G bs mc ms E Qf) := by
  obtain ⟨hx, hb, hr, hml, hown, hts, hlocks, hnm, hK⟩ := K
  intro pc ls st h a b o n f i d1 d2 d3 k H locs cells slots cls hW hS hl ha hbb
  exact va_iald hx hb hK.1 hW.2 o 0 (wsOf_get d2) rfl d3 d1 (k H locs cells slots cls hW hS hl ha hbb)
theorem s_iast (K : Ctx p s m args meth c r G) : R_iast r (SX p l e s m args below meth c r G bs mc ms E Qf) := by
  obtain ⟨hx, hb, hr, hml, hown, hts, hlocks, hnm, hK⟩ := K
  intro pc ls st h a b o n f i x d1 d2 d3 kk H locs cells slots cls hW hS hl ha hbb
  have hsz : ∀ z : Nat → Value, (arrV G.2.2.1 n z).slots.size = n := fun z => arrV_size _ _ _
  refine W.iast hx hb (hW.2 o _ (wsOf_get d2)) ((hK.1.2 0 _ rfl).1 n (fun j => .int (f j))) (fun q => by cases q) (by show ¬ (i < 0 ∨ (arrV _ _ _).slots.size ≤ _); rw [hsz]; exact d3) rfl rfl d1 fun H1 e1 e2 e3 => ?_
  refine kk H1 _ cells slots cls ⟨by rw [e2, List.length_set]; exact hW.1, ?_⟩ (hS.put e2 e3 (Nat.le_add_right _ _)) hl ha hbb
  rw [← wsOf_set]
  refine hW.2.set wsOf_D (wsOf_get d2) ?_ e3
  show H1[bs + o]? = some (vp_cell _ _)
  rw [e1]
  show some ((vp_cell _ (n, .inl f)).setSlot _ _) = _
  rw [vp_cell_i, vp_cell_i, arrV_store]
  congr 2
  funext q
  by_cases hq : q = i.toNatClampNeg
  · subst hq
    simp [updV, upd]
  · simp [updV, upd, hq]
theorem s_alen (K : Ctx p s m args meth c r G) : R_alen r (SX p l e s m args below meth c r G bs mc ms E Qf) := by
  obtain ⟨hx, hb, hr, hml, hown, hts, hlocks, hnm, hK⟩ := K
  intro pc ls st h a b o n f d1 d2 k H locs cells slots cls hW hS hl ha hbb
  exact va_alen hx hb hK.1 hW.2 o 0 (wsOf_get d2) (ty := .int) rfl rfl d1 (k H locs cells slots cls hW hS hl ha hbb)
theorem s_alenq (K : Ctx p s m args meth c r G) : R_alenq r (SX p l e s m args below meth c r G bs mc ms E Qf) := by
  obtain ⟨hx, hb, hr, hml, hown, hts, hlocks, hnm, hK⟩ := K
  intro pc ls st h a b o n f d1 d2 k H locs cells slots cls hW hS hl ha hbb
  exact va_alen hx hb hK.1 hW.2 o 1 (wsOf_get d2) (ty := .object RX8) rfl rfl d1 (k H locs cells slots cls hW hS hl ha hbb)
theorem s_aald (K : Ctx p s m args meth c r G) : R_aald r (SX p l e s m args below meth c r G bs mc ms E Qf) := by
  obtain ⟨hx, hb, hr, hml, hown, hts, hlocks, hnm, hK⟩ := K
  intro pc ls st h a b o n f i d1 d2 d3 k H locs cells slots cls hW hS hl ha hbb
  have k2 := k H locs cells slots cls hW hS hl ha hbb
  refine va_aldq hx hb hK.1 hW.2 o 1 (wsOf_get d2) rfl d3 d1 ?_
  have e1 : va_rf ((f i.toNatClampNeg).map (fun k => bs + k)) = cv bs (.inr (f i.toNatClampNeg)) := by
    cases f i.toNatClampNeg <;> rfl
  rw [e1]
  exact k2
theorem s_aast (K : Ctx p s m args meth c r G) : R_aast r (SX p l e s m args below meth c r G bs mc ms E Qf) := by
  obtain ⟨hx, hb, hr, hml, hown, hts, hlocks, hnm, hK⟩ := K
  intro pc ls st h a b o n v fs f i d1 d2 dv d3 kk H locs cells slots cls hW hS hl ha hbb
  have hsz : ∀ z : Nat → Value, (arrV G.2.2.2 n z).slots.size = n := fun z => arrV_size _ _ _
  have hlt : i.toNatClampNeg < n := Nat.not_le.mp fun q => d3 (Or.inr q)
  obtain ⟨r1, hr1, cellV, g1, g2, g3, -⟩ := hW.2 v _ (wsOf_get dv)
  have hcls := (hK.1.1 8 (RX8, TX8, 6) rfl).2
  obtain ⟨kA, comp, k1, k2, k3, -⟩ := (hK.1.2 1 _ rfl).2
  cases Option.some.inj (k3.symm.trans hcls.1)
  obtain ⟨kC, hkC, hkind⟩ := hcls.2
  refine W.aast hx hb (hW.2 o _ (wsOf_get d2)) (fun q h => by cases h) (fun h => by cases h) k1 k2 rfl hkC ⟨fun q => d3 (Or.inl q), by show _ < (arrV _ _ _).slots.size; rw [hsz]; exact hlt⟩ g1 (fun q h => by rw [g3] at h; cases h) (by rw [g2]; exact hkC) (by rw [g2]; exact va_assign ⟨hcls.1, kC, hkC, hkind⟩) rfl rfl d1 fun H1 e1 e2 e3 => ?_
  refine kk H1 _ cells slots cls ⟨by rw [e2, List.length_set]; exact hW.1, ?_⟩ (hS.put e2 e3 (Nat.le_add_right _ _)) hl ha hbb
  rw [← wsOf_set]
  refine hW.2.set wsOf_D (wsOf_get d2) ?_ e3
  show H1[bs + o]? = some (vp_cell _ _)
  rw [e1]
  show some ((vp_cell _ (n, .inr (.inr (.inr (.inr _))))).setSlot _ _) = _
  rw [vp_cell_q, vp_cell_q, arrV_store]
  congr 2
  funext q
  by_cases hq : q = i.toNatClampNeg
  · subst hq
    simp [updV, va_up, va_rf]
  · simp [updV, va_up, hq]
theorem s_new (K : Ctx p s m args meth c r G) : R_new r (SX p l e s m args below meth c r G bs mc ms E Qf) := by
  obtain ⟨hx, hb, hr, hml, hown, hts, hlocks, hnm, hK⟩ := K
  intro pc ls st h a b i ci N C T fs d1 hc d3 d4 d5 d6 d7 kk H locs cells slots cls hW hS hl ha hbb
  have hts2 : ∀ w ∈ Wl, w.before args s = true := hts
  obtain ⟨ty0, hty, hdist⟩ := cls_ty _ _ _ _ hc
  have hKn := hK.1.1 ci _ hc
  refine W.newcK hx hb hown (hts2 _ d3) (hts2 _ d4) (hts2 _ d5) rfl d1 (by show cells + 1 ≤ mc; omega) (by show slots + N ≤ ms; omega) hKn.2.1 rfl fun H1 kC hkC e1 z1 o1 => ?_
  have hk : ∀ (k : Nat) (x : Nat × va_E), (wsOf bs G h)[k]? = some x → H1[x.1]? = H[x.1]? := fun k x hx => o1 x.1 ((hW.2 k x hx).lt)
  have hS2 : va_S (fun q => bs ≤ q) s.heap H1 locs := ⟨Nat.le_trans hS.1 (by omega), fun x h1 h2 => (o1 x (Nat.lt_of_lt_of_le h1 hS.1)).trans (hS.2.1 x h1 h2), hS.2.2⟩
  have hW2 : Wd G bs (h ++ [.inl (ci, fs)]) H1 := by
    refine ⟨by rw [z1, hW.1, List.length_append]; rfl, ?_⟩
    rw [wsOf_push]
    refine (hW.2.kept hk).app (fun k x hx => ?_)
    have hz : k < 1 := (List.getElem?_eq_some_iff.mp hx).1
    rw [show k = 0 by omega] at hx
    cases hx
    refine ⟨_, hc, ?_⟩
    rw [← hW.1]
    refine (u_born ty0 hts2 (cls_in _ _ _ _ hc) hKn hkC e1 hty).to (fun j hj => ?_)
    obtain ⟨f1, f2⟩ := d7 j hj
    rw [hty j hj] at f1
    simp only [Option.map_some, Option.some.injEq] at f1
    have hlt : j < fs.length := by omega
    have e2 : fs[j]? = some (fs.getD j an) := by
      rw [List.getD_eq_getElem?_getD, List.getElem?_eq_getElem hlt]; rfl
    rw [f1]
    have e3 : vp_V (fs.map (cv bs)) j = cv bs (fs.getD j an) := by
      show (fs.map (cv bs)).getD j .null = _
      rw [List.getD_eq_getElem?_getD, List.getElem?_map, e2]; rfl
    rw [e3]
    rcases hv : fs.getD j an with x | (_ | q)
    · rfl
    · rfl
    · rw [hv] at e2
      exact absurd e2 (f2 q)
  have k2 := kk H1 locs (cells + 1) (slots + N) cls hW2 hS2 hl (by omega) (by omega)
  have e9 : (ar h.length :: st).map (cv bs) = .ref H.size :: st.map (cv bs) := by
    rw [hW.1]; rfl
  rw [e9] at k2
  exact k2
theorem s_newi (K : Ctx p s m args meth c r G) : R_newi r (SX p l e s m args below meth c r G bs mc ms E Qf) := by
  obtain ⟨hx, hb, hr, hml, hown, hts, hlocks, hnm, hK⟩ := K
  intro pc ls st h a b n N d1 d2 d3 d4 kk H locs cells slots cls hW hS hl ha hbb
  have hts2 : ∀ w ∈ Wl, w.before args s = true := hts
  refine va_newaK hx hb (atype := .int) (hts2 _ arrI) rfl d1 rfl d2 d3 (by show N * 4 ≤ 536870912; omega) (by show cells + 1 ≤ mc; omega) (by show slots + N ≤ ms; omega) rfl fun H1 cA e1 z1 o1 hAr hNm => ?_
  have hcA : cA = G.2.2.1 := by
    have h2 := (hK.1.2 0 _ rfl).2
    exact Option.some.inj (hNm.symm.trans h2)
  subst hcA
  have hk : ∀ (k : Nat) (x : Nat × va_E), (wsOf bs G h)[k]? = some x → H1[x.1]? = H[x.1]? := fun k x hx => o1 x.1 ((hW.2 k x hx).lt)
  have hS2 : va_S (fun q => bs ≤ q) s.heap H1 locs := ⟨Nat.le_trans hS.1 (by omega), fun x h1 h2 => (o1 x (Nat.lt_of_lt_of_le h1 hS.1)).trans (hS.2.1 x h1 h2), hS.2.2⟩
  have hW2 : Wd G bs (h ++ [.inr (.inl (N, fun _ => 0))]) H1 := by
    refine ⟨by rw [z1, hW.1, List.length_append]; rfl, ?_⟩
    rw [wsOf_push]
    refine (hW.2.kept hk).app (fun k x hx => ?_)
    have hz : k < 1 := (List.getElem?_eq_some_iff.mp hx).1
    rw [show k = 0 by omega] at hx
    cases hx
    rw [← hW.1]
    exact e1
  have k2 := kk H1 locs (cells + 1) (slots + N) cls hW2 hS2 hl (by omega) (by omega)
  have e9 : (ar h.length :: st).map (cv bs) = .ref H.size :: st.map (cv bs) := by
    rw [hW.1]; rfl
  rw [e9] at k2
  exact k2
theorem s_newq (K : Ctx p s m args meth c r G) : R_newq r (SX p l e s m args below meth c r G bs mc ms E Qf) := by
  obtain ⟨hx, hb, hr, hml, hown, hts, hlocks, hnm, hK⟩ := K
  intro pc ls st h a b i n N d1 dc d2 d3 d4 kk H locs cells slots cls hW hS hl ha hbb
  have hts2 : ∀ w ∈ Wl, w.before args s = true := hts
  subst d3
  refine W.anew hx hb hown (hts2 _ dc) (va_AO.use hK.2.1) rfl d1 rfl d2 (by omega) (by show cells + 1 ≤ mc; omega) (by show slots + n.toNatClampNeg ≤ ms; omega) fun cA kA comp f1 f2 f3 f4 => ?_
  have hcA : cA = G.2.2.2 := by
    obtain ⟨kA2, comp2, g1, g2, g3, g4⟩ := (hK.1.2 1 _ rfl).2
    exact Option.some.inj (f1.symm.trans g4)
  subst hcA
  generalize hH1 : H.push ({ cls := G.2.2.2, slots := Array.replicate n.toNatClampNeg .null, vm := .none } : Cell) = H1
  have z1 : H1.size = H.size + 1 := by rw [← hH1, Array.size_push]
  have e1 : H1[H.size]? = some (arrV G.2.2.2 n.toNatClampNeg (fun _ => .null)) := by rw [← hH1, Array.getElem?_push_size, ← arrV_new]
  have o1 : ∀ q : Nat, q < H.size → H1[q]? = H[q]? := fun q hq => by rw [← hH1, Array.getElem?_push, if_neg (Nat.ne_of_lt hq)]
  have hk : ∀ (k : Nat) (x : Nat × va_E), (wsOf bs G h)[k]? = some x → H1[x.1]? = H[x.1]? := fun k x hx => o1 x.1 ((hW.2 k x hx).lt)
  have hS2 : va_S (fun q => bs ≤ q) s.heap H1 locs := ⟨Nat.le_trans hS.1 (by omega), fun x h1 h2 => (o1 x (Nat.lt_of_lt_of_le h1 hS.1)).trans (hS.2.1 x h1 h2), hS.2.2⟩
  have hW2 : Wd G bs (h ++ [.inr (.inr (n.toNatClampNeg, fun _ => none))]) H1 := by
    refine ⟨by rw [z1, hW.1, List.length_append]; rfl, ?_⟩
    rw [wsOf_push]
    refine (hW.2.kept hk).app (fun k x hx => ?_)
    have hz : k < 1 := (List.getElem?_eq_some_iff.mp hx).1
    rw [show k = 0 by omega] at hx
    cases hx
    rw [← hW.1]
    exact e1
  have k2 := kk H1 locs (cells + 1) (slots + n.toNatClampNeg) cls hW2 hS2 hl (by omega) (by omega)
  have e9 : (ar h.length :: st).map (cv bs) = .ref H.size :: st.map (cv bs) := by
    rw [hW.1]; rfl
  rw [e9] at k2
  exact k2
theorem cat_sum (b : Nat) (st : List AV) : ((st.map (cv b)).map fun v => v.category).sum = st.length := by
  induction st with
  | nil => rfl
  | cons v t ih => simp only [List.map_cons, List.sum_cons, cv_cat, List.length_cons, ih]; omega
theorem s_obj (K : Ctx p s m args meth c r G) : R_obj r (SX p l e s m args below meth c r G bs mc ms E Qf) := by
  obtain ⟨hx, hb, hr, hml, hown, hts, hlocks, hnm, hK⟩ := K
  intro pc ls st h a b i o d1 d2 d3 d4 d5 k H locs cells slots cls hW hS hl ha hbb
  refine W.objInit hx hb hown (hts _ d2) (hts _ objI) (hts _ objC) rfl (by rw [hml]; exact hl.2.1) rfl d1 d4 ?_ (k H locs cells slots cls hW hS hl ha hbb)
  show 2 * 0 + ((st.map (cv bs)).map fun v => v.category).sum + 12 ≤ rl r
  rw [cat_sum]
  omega
theorem s_ireturn (K : Ctx p s m args meth c r G) : R_ireturn r Q (SX p l e s m args below meth c r G bs mc ms E (MQ below (QcA G bs Q) args s mc ms (fun q => bs ≤ q))) := by
  obtain ⟨hx, hb, hr, hml, hown, hts, hlocks, hnm, hK⟩ := K
  intro pc ls h a b x ty d1 d2 d3 d4 H locs cells slots cls hW hS hl ha hbb
  refine W.widen (k := mc) (n := ms) (by omega) (by omega) ?_
  exact W.zret hx hb (hr.trans d2) d3 (fun t ht hw => ⟨⟨_, _, rfl, d4, by rw [ht]; exact hW⟩, hS.F ht⟩) hS.2.2 d1
theorem s_areturn (K : Ctx p s m args meth c r G) : R_areturn r Q (SX p l e s m args below meth c r G bs mc ms E (MQ below (QcA G bs Q) args s mc ms (fun q => bs ≤ q))) := by
  obtain ⟨hx, hb, hr, hml, hown, hts, hlocks, hnm, hK⟩ := K
  intro pc ls h a b x C d1 d2 d4 H locs cells slots cls hW hS hl ha hbb
  refine W.widen (k := mc) (n := ms) (by omega) (by omega) ?_
  refine W.aret hx hb (hr.trans d2) (Or.inl ⟨_, rfl⟩) ?_ (fun t ht hw => ⟨⟨some (.inr x), _, rfl, d4, by rw [ht]; exact hW⟩, hS.F ht⟩) hS.2.2 d1
  cases x with
  | none => exact Or.inl rfl
  | some k => exact Or.inr ⟨_, rfl⟩
theorem s_return (K : Ctx p s m args meth c r G) : R_return r Q (SX p l e s m args below meth c r G bs mc ms E (MQ below (QcA G bs Q) args s mc ms (fun q => bs ≤ q))) := by
  obtain ⟨hx, hb, hr, hml, hown, hts, hlocks, hnm, hK⟩ := K
  intro pc ls h a b d1 d2 d4 H locs cells slots cls hW hS hl ha hbb
  refine W.widen (k := mc) (n := ms) (by omega) (by omega) ?_
  exact W.vret hx hb (hr.trans d2) (fun t ht hw => ⟨⟨none, _, rfl, d4, by rw [ht]; exact hW⟩, hS.F ht⟩) hS.2.2 d1
/-- what a callee's contract gives -/
def OK (l : Launch) (G : aG) (bs : Nat) (OO : AO) : Prop := ∀ (r : MR) (n : Nat) (as : List AV) (h : AH) (a b : Nat) (Q : AP), MB r n → as.length ≤ rL r → OO r as h a b Q → Met l (ry r) (wm r) (rmOf r a b) (PcA G bs as h) (QcA G bs Q) a b (fun q => bs ≤ q)
theorem PcA_blind {as : List AV} {h : AH} : FrameBlind (PcA G bs as h) := fun a U g mk q => ⟨q.1, q.2.1, q.2.2.calling⟩
theorem wm_good {r1 : MR} {n : Nat} (h : MB r1 n) : GoodIn Wl (wm r1) := by
  intro w hw
  have hin : w ∈ Wl := by
    rcases List.mem_cons.mp hw with rfl | q
    · exact h.2.1
    · exact q
  exact ⟨hin, good_of_word (Wl_good _ hin)⟩
theorem call_on {st : List AV} {a b a1 b1 pc : Nat} {ls : List (Option AV)} {Q1 : AP} {H : Heap} {locs : List Loc} {cells slots : Nat} {cls : Array Slot} {cst : List Value} {av : Array Value}
    (hrun : va_Run p l e (rmOf r mc ms) s m args below meth c H locs cells slots a1 b1 (F0 m pc cls cst) (st.map (cv bs)) (QcA G bs Q1 av) (fun q => bs ≤ q))
    (kk : ∀ w h1, Q1 w h1 → SX p l e s m args below meth c r G bs mc ms E Qf (pc + 3) ls (w.toList ++ st) h1 a b)
    (hb0 : bs ≤ H.size) (hS : va_S (fun q => bs ≤ q) s.heap H locs) (hl : LH E bs ls cls (rL r)) (ha : cells + (a1 + a) ≤ mc) (hbb : slots + (b1 + b) ≤ ms) :
    W p l e (rmOf r mc ms) s m args below meth c H locs cells slots Qf (F0 m pc cls cst) := by
  intro T hT X
  obtain ⟨v, st₀, t, T', L, h0, X', hL, e1, e2, ⟨⟨w, h1, hv, hq, hW1⟩, hz, hk⟩, go⟩ := hrun T hT X
  cases hv
  rw [h0] at hz hk
  have hS1 : va_S (fun q => bs ≤ q) s.heap T'.heap (locs ++ L) := by
    refine ⟨Nat.le_trans hS.1 (by rw [e1]; exact hz), fun q g1 g2 => ?_, fun q hq => ?_⟩
    · rw [e1, hk q (Nat.lt_of_lt_of_le g1 hS.1) g2]
      exact hS.2.1 q g1 g2
    · rcases List.mem_append.mp hq with g | g
      · exact hS.2.2 q g
      · exact hL q g
  obtain ⟨t2, g1, g2⟩ := kk w h1 hq T'.heap (locs ++ L) (cells + a1) (slots + b1) cls (by rw [e1]; exact hW1) hS1 hl (by omega) (by omega) T' rfl X'
  refine ⟨t2, go t2 ?_, g2⟩
  have e9 : (w.toList ++ st).map (cv bs) = (w.map (cv bs)).toList ++ st.map (cv bs) := by
    cases w <;> rfl
  rw [e9] at g1
  exact g1
theorem s_callV (hO : OK l G bs OO) (K : Ctx p s m args meth c r G) : R_callV r OO (SX p l e s m args below meth c r G bs mc ms E Qf) := by
  obtain ⟨hx, hb, hr, hml, hown, hts, hlocks, hnm, hK⟩ := K
  intro pc ls st h a b a1 b1 i r1 As Q1 ci o fs d1 d2 d3 d4 d5 d6 d7 d8 k H locs cells slots cls hW hS hl ha hbb
  have hts2 : ∀ w ∈ Wl, w.before args s = true := hts
  obtain ⟨T, N, hc⟩ := d5
  have hM := hO r1 As.length (ar o :: As) h a1 b1 Q1 d3.1 (by rw [List.length_cons]; exact d3.2.1) d8
  have cw : CallW (rmOf r mc ms) s args (ro r) (ro r1) i (ry r1) (rc r1) (rL r1) (rt r1) (wm r1) (rmOf r1 a1 b1) a1 b1 As.length := ⟨callB_of As.length hts (wm_good d3.1) rfl rfl rfl (hts2 _ d3.1.1) (hts2 _ d2) d3.1.2.2.2.2 d6, hts2 _ d3.2.2.1, hts2 _ d3.2.2.2⟩
  obtain ⟨cell, g1, g2, g3⟩ := va_recv hK.1 hW.2 hc (wsOf_get d4)
  have hrun := va_runV (e := e) (meth := meth) (below := below) (cells := cells) (slots := slots) (b := bs + o) (As := As.map (cv bs)) (rest := st.map (cv bs)) (g := F0 m pc cls ((As.reverse ++ ar o :: st).map (cv bs))) (locs := locs) ⟨hx, hb, hml, hown, hts⟩ hM cw ⟨PcA_blind, ⟨cell, g1, g2, g3⟩, fun U hU hw => ⟨rfl, by rw [hU]; exact hW, hK.warm hw⟩⟩ rfl (by rw [List.length_map]) hl.2.1 (by show (As.reverse ++ ar o :: st).map (cv bs) = _; rw [List.map_append, List.map_cons, List.map_reverse]; rfl) (by rw [cat_sum]; exact lv_room0 d7) d1 ⟨by show cells + a1 ≤ mc; omega, by show slots + b1 ≤ ms; omega⟩
  exact call_on hrun k (by rw [hW.1]; omega) hS hl ha hbb
theorem s_callS (hO : OK l G bs OO) (K : Ctx p s m args meth c r G) : R_callS r OO (SX p l e s m args below meth c r G bs mc ms E Qf) := by
  obtain ⟨hx, hb, hr, hml, hown, hts, hlocks, hnm, hK⟩ := K
  intro pc ls st h a b a1 b1 i r1 As Q1 d1 d2 d3 d6 d7 d8 k H locs cells slots cls hW hS hl ha hbb
  have hts2 : ∀ w ∈ Wl, w.before args s = true := hts
  have hM := hO r1 As.length (As) h a1 b1 Q1 d3.1 (d3.1.2.2.2.1) d8
  rcases d2 with d2 | d2
  · have cb := callB_of (R := rmOf r mc ms) (own := ro r) (index := i) (y := ry r1) (bytes := rc r1) (maxL := rL r1) (ret := rt r1) (mc := a1) (ms := b1) (rm := rmOf r1 a1 b1) As.length hts (wm_good d3.1) rfl rfl rfl (hts2 _ d3.1.1) (hts2 _ d2) d3.1.2.2.2.2 d6
    have hrun := va_runS (e := e) (meth := meth) (below := below) (cells := cells) (slots := slots) (As := As.map (cv bs)) (rest := st.map (cv bs)) (g := F0 m pc cls ((As.reverse ++ st).map (cv bs))) (locs := locs) ⟨hx, hb, hml, hown, hts⟩ hM ⟨cb, hts2 _ d3.2⟩ ⟨PcA_blind, fun U hU hw => ⟨rfl, by rw [hU]; exact hW, hK.warm hw⟩⟩ rfl (by rw [List.length_map]) hl.2.1 (by show List.map (cv bs) _ = _; rw [List.map_append, List.map_reverse]) (by rw [cat_sum]; exact lv_room0 d7) d1 ⟨by show cells + a1 ≤ mc; omega, by show slots + b1 ≤ ms; omega⟩
    exact call_on hrun k (by rw [hW.1]; omega) hS hl ha hbb
  · have cb := va_cnB (R := rmOf r mc ms) (own := ro r) (host := RX9) (index := i) (y := ry r1) (bytes := rc r1) (maxL := rL r1) (ret := rt r1) (mc := a1) (ms := b1) (rm := rmOf r1 a1 b1) As.length hts (wm_good d3.1) rfl rfl rfl (hK.2.2 _ d2) (hts2 _ d3.1.1) d3.1.2.2.2.2 d6
    have hrun := va_runSN (e := e) (meth := meth) (below := below) (cells := cells) (slots := slots) (As := As.map (cv bs)) (rest := st.map (cv bs)) (g := F0 m pc cls ((As.reverse ++ st).map (cv bs))) (locs := locs) ⟨hx, hb, hml, hown, hts⟩ hM ⟨cb, hts2 _ d3.2, trivial⟩ ⟨PcA_blind, fun U hU hw => ⟨rfl, by rw [hU]; exact hW, hK.warm hw⟩⟩ rfl (by rw [List.length_map]) hl.2.1 (by show List.map (cv bs) _ = _; rw [List.map_append, List.map_reverse]) (by rw [cat_sum]; exact lv_room0 d7) d1 ⟨by show cells + a1 ≤ mc; omega, by show slots + b1 ≤ ms; omega⟩
    exact call_on hrun k (by rw [hW.1]; omega) hS hl ha hbb
theorem s_callI (hO : OK l G bs OO) (K : Ctx p s m args meth c r G) : R_callI r OO (SX p l e s m args below meth c r G bs mc ms E Qf) := by
  obtain ⟨hx, hb, hr, hml, hown, hts, hlocks, hnm, hK⟩ := K
  intro pc ls st h a b a1 b1 i r1 As Q1 o d1 d2 d3 d6 d7 d8 k H locs cells slots cls hW hS hl ha hbb
  have hts2 : ∀ w ∈ Wl, w.before args s = true := hts
  obtain ⟨y1, c1, L1, t1, f1, w1⟩ := r1
  have hrt : t1 = none := d3.2.2.2.2
  subst hrt
  have hM := hO (y1, c1, L1, none, f1, w1) As.length (ar o :: As) h a1 b1 Q1 d3.1 (by rw [List.length_cons]; exact d3.2.1) d8
  rcases d2 with d2 | d2
  · have cb := callB_of (R := rmOf r mc ms) (own := ro r) (index := i) (y := y1) (bytes := c1) (maxL := L1) (ret := none) (mc := a1) (ms := b1) (rm := rmOf (y1, c1, L1, none, f1, w1) a1 b1) As.length hts (wm_good d3.1) rfl rfl rfl (hts2 _ d3.1.1) (hts2 _ d2) d3.1.2.2.2.2 d6
    have hrun := va_runI (e := e) (meth := meth) (below := below) (cells := cells) (slots := slots) (b := bs + o) (As := As.map (cv bs)) (rest := st.map (cv bs)) (g := F0 m pc cls ((As.reverse ++ ar o :: st).map (cv bs))) (locs := locs) ⟨hx, hb, hml, hown, hts⟩ hM ⟨cb, d3.2.2.2.1, hts2 _ d3.2.2.1⟩ ⟨PcA_blind, fun U hU hw => ⟨rfl, by rw [hU]; exact hW, hK.warm hw⟩⟩ rfl (by rw [List.length_map]) hl.2.1 (by show List.map (cv bs) _ = _; rw [List.map_append, List.map_cons, List.map_reverse]; rfl) (by rw [cat_sum]; exact lv_room0 d7) d1 ⟨by show cells + a1 ≤ mc; omega, by show slots + b1 ≤ ms; omega⟩
    exact call_on hrun k (by rw [hW.1]; omega) hS hl ha hbb
  · have cb := va_cnB (R := rmOf r mc ms) (own := ro r) (host := RX9) (index := i) (y := y1) (bytes := c1) (maxL := L1) (ret := none) (mc := a1) (ms := b1) (rm := rmOf (y1, c1, L1, none, f1, w1) a1 b1) As.length hts (wm_good d3.1) rfl rfl rfl (hK.2.2 _ d2) (hts2 _ d3.1.1) d3.1.2.2.2.2 d6
    have hrun := va_runIN (e := e) (meth := meth) (below := below) (cells := cells) (slots := slots) (b := bs + o) (As := As.map (cv bs)) (rest := st.map (cv bs)) (g := F0 m pc cls ((As.reverse ++ ar o :: st).map (cv bs))) (locs := locs) ⟨hx, hb, hml, hown, hts⟩ hM ⟨cb, d3.2.2.2.1, hts2 _ d3.2.2.1⟩ ⟨PcA_blind, fun U hU hw => ⟨rfl, by rw [hU]; exact hW, hK.warm hw⟩⟩ rfl (by rw [List.length_map]) hl.2.1 (by show List.map (cv bs) _ = _; rw [List.map_append, List.map_cons, List.map_reverse]; rfl) (by rw [cat_sum]; exact lv_room0 d7) d1 ⟨by show cells + a1 ≤ mc; omega, by show slots + b1 ≤ ms; omega⟩
    exact call_on hrun k (by rw [hW.1]; omega) hS hl ha hbb
theorem sim_rules (hO : OK l G bs OO) (K : Ctx p s m args meth c r G) (h_ireturn : R_ireturn r Q (SX p l e s m args below meth c r G bs mc ms E Qf)) (h_areturn : R_areturn r Q (SX p l e s m args below meth c r G bs mc ms E Qf)) (h_return : R_return r Q (SX p l e s m args below meth c r G bs mc ms E Qf)) : Rules r OO Q (SX p l e s m args below meth c r G bs mc ms E Qf) :=
  ⟨s_iconst K, s_bipush K, s_sipush K, s_ldc K, s_null K, s_iload_n K, s_iload K, s_aload_n K, s_aload K, s_istore_n K, s_istore K, s_astore_n K, s_astore K, s_iinc K, s_iadd K, s_isub K, s_imul K, s_ior K, s_iand K, s_ixor K, s_ishl K, s_ishr K, s_idiv K, s_irem K, s_dup K, s_dup2 K, s_pop K, s_goto K, s_icmp_eq K, s_if_eq K, s_icmp_ne K, s_if_ne K, s_icmp_lt K, s_if_lt K, s_icmp_ge K, s_if_ge K, s_icmp_gt K, s_if_gt K, s_icmp_le K, s_if_le K, s_ifnull K, s_tabIn K, s_tabOut K, s_look K, s_getf K, s_putf K, s_iald K, s_iast K, s_alen K, s_alenq K, s_aald K, s_aast K, s_new K, s_newi K, s_newq K, s_obj K, h_ireturn, h_areturn, h_return, s_callV hO K, s_callS hO K, s_callI hO K⟩
end SIM
theorem OK_Cd (l : Launch) (G : aG) (bs : Nat) : ∀ d : Nat, OK l G bs (Cd d)
  | 0 => fun _ _ _ _ _ _ _ _ _ k => k.elim
  | d + 1 => by
    intro r n as h a b Q hB hl k
    refine MetFree.of_bodySF (code := rc r) (maxLocals := rL r) (ret := rt r) hB.2.2.1 ?_ ?_
    · intro args s m h hn
      obtain ⟨meth, c, h1, h2, h3, h4, h5, h6, -, -⟩ := Cond.code_spec hn (atoms_spec (ws := wm r) h _ List.mem_cons_self)
      exact ⟨meth, c, h1, h2, h3, h4, h5, h6⟩
    · intro p e s m args below meth c s₁ B hml hv _
      obtain ⟨rfl, hW, hK⟩ := hv
      have hh0 : s₁.heap = s.heap := by rw [B.state]; rfl
      have hown : s.vm.findClass (ro r) = some m.cls := findClass_of_methodNamed B.named
      have K : Ctx p s m ((as.map (cv bs)).toArray) meth c r G := ⟨B.exec, B.bytes, B.returns, hml, hown, fun w hw => atoms_spec (ws := wm r) B.pre w (List.mem_cons_of_mem _ hw), B.notSynchronized, fun _ => (name_of_methodNamed B.named B.method).1, hK⟩
      have X := k _ (sim_rules (e := e) (below := below) (mc := a) (ms := b) (E := none) (Qf := MQ below (QcA G bs Q) (as.map (cv bs)).toArray s a b (fun q => bs ≤ q)) (OK_Cd l G bs d) K (s_ireturn K) (s_areturn K) (s_return K)) s.heap [] 0 0 _ hW va_S.rf (lsOf_LH bs r as hl) (by omega) (by omega)
      rw [List.map_nil, ← lg_entry_eq] at X
      obtain ⟨t, a1, o, b1, b2, b3⟩ := X s₁ hh0 (Stand.of_body B)
      exact ⟨t, o, a1, b1, b2, ⟨b3.1, b3.2⟩⟩
theorem C_met {l : Launch} {G : aG} {bs n : Nat} {r : MR} {as : List AV} {h : AH} {a b : Nat} {Q : AP} (hB : MB r n) (hl : as.length ≤ rL r) (k : C r as h a b Q) : Met l (ry r) (wm r) (rmOf r a b) (PcA G bs as h) (QcA G bs Q) a b (fun q => bs ≤ q) := OK_Cd l G bs _ r n as h a b Q hB hl k
