/-! THE LAW: its calls, its loop, over an invariant of the memory that every operation keeps -/
/-! THE CLAIM OUT OF ONE WALK OF THE LAW'S BODY. Your part is whole_start (and what it stands on); all else here is the same for every law, but numbers. -/
def R_law : String := "BellWordsLaw"
def lw_P (b : Addr) (xs : List Int32) (args : Array Value) (s : State) : Prop := args = #[.ref b] ∧ s.IntsAt b xs ∧ xs.length ≤ 2048 ∧ (Jvm.Cond.and given_1 narrow_1).before args s = true
def lw_Q (_ : Array Value) (s : State) (o : Outcome) (t : State) : Prop := o = .returned (some (.int 1)) ∧ Framed s o t [] 600000 7302250
def lw_Z (below : List Frame) (a : Array Value) (s : State) : State → Prop := fun t => ∃ o, t.status = .running ∧ Ended t below o ∧ lw_Q a s o t
/-- the law's own end, with 1 on the stack, nothing written that was there before, its room as the claim has it -/
theorem lw_ret {p : Program} {l : Launch} {e : Env} {s : State} {m : MethodId} {below : List Frame} {meth : Method} {c : Code} {b : Nat} (hx : p.tables.exec = Jvm.exec) (hb : c.code = code) (hr : meth.sig.returnType = ret) (hlocks : meth.locks = false) {pc : Nat} {H : Heap} {ls : Array Slot} (hdg : decode code pc = .ok (.ireturn, 1)) : W p l e room_1 s m #[Value.ref b] below meth c H [] 600000 7302250 (lw_Z below #[Value.ref b] s) (F0 m pc ls [.int 1]) := by
  intro T hT X
  obtain ⟨fs, hret, hrun, hended, hW, hframe⟩ := X.leave (v := some (.int 1)) (hlocks := hlocks) (fun h => by rw [hr] at h; cases h)
  have hmeth' : T.vm.method? m = some meth := X.method'
  refine ⟨T.setFrames fs, ?_, .returned (some (.int 1)), hrun, hended, rfl, ⟨_, rfl⟩, hW, hframe⟩
  jvm_step X.here [X.here.top, hx, hb, hdg, hmeth', hr, ret, narrow_b1]
  (try refine ⟨rfl, ?_⟩); (try refine ⟨rfl, ?_⟩)
  first | (intro acts; rw [hret _ acts rfl rfl rfl]) | rw [hret _ _ rfl rfl rfl]
  exact Steps.refl _
/-- what holds at the law's entry: the machine, the code, the tables' words (any of lw_tbl by 'hts w (by decide +kernel)'), the script of L ints xs at the cell b, what the Statement gives of the start (any of its parts by flat_of_before) -/
def lw_At (p : Program) (s : State) (m : MethodId) (meth : Method) (c : Code) (b L : Nat) (xs : Nat → Int32) : Prop :=
  p.tables.exec = Jvm.exec ∧ c.code = code ∧ meth.sig.returnType = ret ∧ c.maxLocals = 4 ∧ s.vm.findClass R_law = some m.cls ∧ (∀ w ∈ lw_tbl, w.before #[Value.ref b] s = true) ∧ va_X b L xs s s.heap ∧ b < s.heap.size ∧ meth.locks = false ∧ (Jvm.Cond.and given_1 narrow_1).before #[Value.ref b] s = true

set_option maxRecDepth 20000 in
set_option maxHeartbeats 4000000 in
theorem law_on {p : Program} {l : Launch} {e : Env} {s : State} {m : MethodId} {below : List Frame} {meth : Method} {c : Code} {b L : Nat} {xs : Nat → Int32} {G : aG} {H : Heap} {locs : List Loc} {cells slots : Nat} {Qf : State → Prop} {ls : Array Slot} {rest : List Value} {R : Room} {pc a1 b1 : Nat} {Q1 : AP} {cst : List Value} {av : Array Value}
    (hrun : va_Run p l e R s m #[Value.ref b] below meth c H locs cells slots a1 b1 (F0 m pc ls cst) rest (QcA G s.heap.size Q1 av) (fun q => s.heap.size ≤ q)) (hS : va_S (fun q => s.heap.size ≤ q) s.heap H locs)
    (kk : ∀ w h1 H1 locs1, Q1 w h1 → Wd G s.heap.size h1 H1 → va_S (fun q => s.heap.size ≤ q) s.heap H1 locs1 → W p l e R s m #[Value.ref b] below meth c H1 locs1 (cells + a1) (slots + b1) Qf (F0 m (pc + 3) ls ((w.map (cv s.heap.size)).toList ++ rest))) :
    W p l e R s m #[Value.ref b] below meth c H locs cells slots Qf (F0 m pc ls cst) := by
  intro T1 hT X
  obtain ⟨v, st₀, t, T', L2, h0, X', hL, e1, e2, ⟨⟨w, h1, hv, hq, hW1⟩, hz, hk1⟩, go⟩ := hrun T1 hT X
  cases hv
  rw [h0] at hz hk1
  have hS1 : va_S (fun q => s.heap.size ≤ q) s.heap T'.heap (locs ++ L2) := by
    refine ⟨Nat.le_trans hS.1 (by rw [e1]; exact hz), fun q g1 g2 => ?_, fun q hq => ?_⟩
    · rw [e1, hk1 q (Nat.lt_of_lt_of_le g1 hS.1) g2]
      exact hS.2.1 q g1 g2
    · rcases List.mem_append.mp hq with g | g
      · exact hS.2.2 q g
      · exact hL q g
  obtain ⟨t2, g1, g2⟩ := kk w h1 T'.heap (locs ++ L2) hq (by rw [e1]; exact hW1) hS1 T' rfl X'
  exact ⟨t2, go t2 g1, g2⟩
set_option maxRecDepth 20000 in
set_option maxHeartbeats 4000000 in
theorem law_run {p : Program} {l : Launch} {e : Env} {s : State} {m : MethodId} {below : List Frame} {meth : Method} {c : Code} {b L : Nat} {xs : Nat → Int32} {G : aG} {H : Heap} {locs : List Loc} {cells slots : Nat} {Qf : State → Prop} {ls : Array Slot} {rest : List Value} {R : Room} {pc i o ci a1 b1 : Nat} {fs : List AV} {r1 : MR} {As : List AV} {h : AH} {Q1 : AP} (C0 : lw_At p s m meth c b L xs) (hK : KK G s) (hW : Wd G s.heap.size h H) (hls : ls.size = 4)
    (d : decode code pc = .ok (.invokevirtual i, 3)) (h2 : Cond.methodLink R_law i (ry r1) ∈ lw_tbl) (h3 : MV r1 As.length) (hs : h[o]? = some (.inl (ci, fs))) (hk : KC ci (ro r1)) (f1 : rf r1 + 1 ≤ R.frames) (f2 : 8 + (rL r1 + 11) + rl r1 ≤ R.locals) (hr : (rest.map fun v => v.category).sum ≤ 8) (hc : C r1 (ar o :: As) h a1 b1 Q1) (hcs : cells + a1 ≤ R.cells) (hss : slots + b1 ≤ R.slots) :
    va_Run p l e R s m #[Value.ref b] below meth c H locs cells slots a1 b1 (F0 m pc ls ((As.map (cv s.heap.size)).reverse ++ .ref (s.heap.size + o) :: rest)) rest (QcA G s.heap.size Q1 (Value.ref (s.heap.size + o) :: As.map (cv s.heap.size)).toArray) (fun q => s.heap.size ≤ q) := by
  obtain ⟨hx, hb, hret, hml, hown, hts, hX, hbl, hlocks, hgv⟩ := C0
  obtain ⟨T, N, hcl⟩ := hk
  have hgood : GoodIn lw_tbl (wm r1) := by
    intro w hw
    have hin : w ∈ Wl := by
      rcases List.mem_cons.mp hw with rfl | q
      · exact h3.1.2.1
      · exact q
    exact ⟨Wl_tbl w hin, good_of_word (Wl_good _ hin)⟩
  have hts2 : ∀ w ∈ Wl, w.before #[Value.ref b] s = true := fun w hq => hts w (Wl_tbl w hq)
  have hM := C_met (l := l) (G := G) (bs := s.heap.size) h3.1 (as := ar o :: As) (by rw [List.length_cons]; exact h3.2.1) hc
  have cw : CallW R s #[Value.ref b] R_law (ro r1) i (ry r1) (rc r1) (rL r1) (rt r1) (wm r1) (rmOf r1 a1 b1) a1 b1 As.length := ⟨callB_of As.length hts hgood rfl rfl rfl (hts2 _ h3.1.1) (hts _ h2) h3.1.2.2.2.2 ⟨f1, f2⟩, hts2 _ h3.2.2.1, hts2 _ h3.2.2.2⟩
  obtain ⟨cell, g1, g2, g3⟩ := va_recv hK.1 hW.2 hcl (wsOf_get hs)
  exact va_runV (e := e) (meth := meth) (below := below) (cells := cells) (slots := slots) (b := s.heap.size + o) (As := As.map (cv s.heap.size)) (rest := rest) (g := F0 m pc ls ((As.map (cv s.heap.size)).reverse ++ .ref (s.heap.size + o) :: rest)) (locs := locs) ⟨hx, hb, hml, hown, hts⟩ hM cw ⟨PcA_blind, ⟨cell, g1, g2, g3⟩, fun U hU hw => ⟨rfl, by rw [hU]; exact hW, hK.warm hw⟩⟩ rfl (by rw [List.length_map]) hls rfl (lv_room0 hr) d ⟨hcs, hss⟩
set_option maxRecDepth 20000 in
set_option maxHeartbeats 4000000 in
theorem law_V {p : Program} {l : Launch} {e : Env} {s : State} {m : MethodId} {below : List Frame} {meth : Method} {c : Code} {b L : Nat} {xs : Nat → Int32} {G : aG} {H : Heap} {locs : List Loc} {cells slots : Nat} {Qf : State → Prop} {ls : Array Slot} {rest : List Value} {R : Room} {pc i o ci : Nat} {fl : List (Option Nat)} {r1 : MR} {As : List AV} {σ : Sg} {Q1 : SP} (C0 : lw_At p s m meth c b L xs) (hK : KK G s) (hW : Wd G s.heap.size (mem σ) H) (hS : va_S (fun q => s.heap.size ≤ q) s.heap H locs) (hls : ls.size = 4)
    (d : decode code pc = .ok (.invokevirtual i, 3)) (h2 : Cond.methodLink R_law i (ry r1) ∈ lw_tbl) (h3 : MV r1 As.length) (hs : SHl[o]? = some (.inl (ci, fl))) (hk : KC ci (ro r1)) (f1 : rf r1 + 1 ≤ R.frames) (f2 : 8 + (rL r1 + 11) + rl r1 ≤ R.locals) (hr : (rest.map fun v => v.category).sum ≤ 8) (hc : CM r1 (ar o :: As) σ Q1) (hcs : cells ≤ R.cells) (hss : slots ≤ R.slots)
    (kk : ∀ w σ' H1 locs1, Q1 w σ' → Wd G s.heap.size (mem σ') H1 → va_S (fun q => s.heap.size ≤ q) s.heap H1 locs1 → W p l e R s m #[Value.ref b] below meth c H1 locs1 cells slots Qf (F0 m (pc + 3) ls ((w.map (cv s.heap.size)).toList ++ rest))) :
    W p l e R s m #[Value.ref b] below meth c H locs cells slots Qf (F0 m pc ls ((As.map (cv s.heap.size)).reverse ++ .ref (s.heap.size + o) :: rest)) := by
  have hg : (mem σ)[o]? = some (.inl (ci, fOf σ o fl)) := mem_get hs
  generalize hm : mem σ = h at hg hW
  have hc2 : C r1 (ar o :: As) h 0 0 (lift Q1) := by rw [← hm]; exact hc
  refine law_on (L := L) (xs := xs) (law_run (Qf := Qf) (a1 := 0) (b1 := 0) C0 hK hW hls d h2 h3 hg hk f1 f2 hr hc2 hcs hss) hS ?_
  intro w h1 H1 locs1 q hW1 hS1
  obtain ⟨σ', hh, hq⟩ := q
  rw [hh] at hW1
  exact kk w σ' H1 locs1 hq hW1 hS1
set_option maxRecDepth 20000 in
set_option maxHeartbeats 4000000 in
theorem law_I {p : Program} {l : Launch} {e : Env} {s : State} {m : MethodId} {below : List Frame} {meth : Method} {c : Code} {b L : Nat} {xs : Nat → Int32} {G : aG} {H : Heap} {locs : List Loc} {cells slots : Nat} {Qf : State → Prop} {ls : Array Slot} {rest : List Value} {R : Room} {pc i a1 b1 : Nat} {r1 : MR} {y : AC} {h : AH} {ch : Nat → AH} (C0 : lw_At p s m meth c b L xs) (hK : KK G s) (hW : Wd G s.heap.size (h ++ [y]) H) (hS : va_S (fun q => s.heap.size ≤ q) s.heap H locs) (hls : ls.size = 4)
    (d : decode code pc = .ok (.invokespecial i, 3)) (h2 : Cond.methodLink R_law i (ry r1) ∈ lw_tbl) (h3 : MI r1 0) (f1 : rf r1 + 1 ≤ R.frames) (f2 : 8 + (rL r1 + 11) + rl r1 ≤ R.locals) (hr : (rest.map fun v => v.category).sum ≤ 8) (hc : CT r1 [] y a1 b1 ch) (hcs : cells + a1 ≤ R.cells) (hss : slots + b1 ≤ R.slots)
    (kk : ∀ H1 locs1, Wd G s.heap.size (h ++ ch h.length) H1 → va_S (fun q => s.heap.size ≤ q) s.heap H1 locs1 → W p l e R s m #[Value.ref b] below meth c H1 locs1 (cells + a1) (slots + b1) Qf (F0 m (pc + 3) ls rest)) :
    W p l e R s m #[Value.ref b] below meth c H locs cells slots Qf (F0 m pc ls (.ref (s.heap.size + h.length) :: rest)) := by
  obtain ⟨hx, hb, hret, hml, hown, hts, hX, hbl, hlocks, hgv⟩ := C0
  obtain ⟨y1, c1, L1, t1, fr1, w1⟩ := r1
  have hrt : t1 = none := h3.2.2.2.2
  subst hrt
  have hgood : GoodIn lw_tbl (wm (y1, c1, L1, none, fr1, w1)) := by
    intro w hw
    have hin : w ∈ Wl := by
      rcases List.mem_cons.mp hw with rfl | q
      · exact h3.1.2.1
      · exact q
    exact ⟨Wl_tbl w hin, good_of_word (Wl_good _ hin)⟩
  have hts2 : ∀ w ∈ Wl, w.before #[Value.ref b] s = true := fun w hq => hts w (Wl_tbl w hq)
  have hM := C_met (l := l) (G := G) (bs := s.heap.size) h3.1 (as := ar h.length :: []) (by rw [List.length_cons]; exact h3.2.1) (hc h)
  have cb := callB_of (R := R) (own := R_law) (index := i) (y := y1) (bytes := c1) (maxL := L1) (ret := none) (mc := a1) (ms := b1) (rm := rmOf (y1, c1, L1, none, fr1, w1) a1 b1) 0 hts hgood rfl rfl rfl (hts2 _ h3.1.1) (hts _ h2) h3.1.2.2.2.2 ⟨f1, f2⟩
  have hrun := va_runI (e := e) (meth := meth) (below := below) (cells := cells) (slots := slots) (b := s.heap.size + h.length) (As := []) (rest := rest) (g := F0 m pc ls (.ref (s.heap.size + h.length) :: rest)) (locs := locs) ⟨hx, hb, hml, hown, hts⟩ hM ⟨cb, h3.2.2.2.1, hts2 _ h3.2.2.1⟩ ⟨PcA_blind, fun U hU hw => ⟨rfl, by rw [hU]; exact hW, hK.warm hw⟩⟩ rfl rfl hls rfl (lv_room0 hr) d ⟨hcs, hss⟩
  intro T1 hT X
  obtain ⟨v, st₀, t, T', L2, h0, X', hL, e1, e2, ⟨⟨w, h1, hv, ⟨hw0, hh⟩, hW1⟩, hz, hk1⟩, go⟩ := hrun T1 hT X
  subst hw0
  cases hv
  subst hh
  rw [h0] at hz hk1
  have hS1 : va_S (fun q => s.heap.size ≤ q) s.heap T'.heap (locs ++ L2) := by
    refine ⟨Nat.le_trans hS.1 (by rw [e1]; exact hz), fun q g1 g2 => ?_, fun q hq => ?_⟩
    · rw [e1, hk1 q (Nat.lt_of_lt_of_le g1 hS.1) g2]
      exact hS.2.1 q g1 g2
    · rcases List.mem_append.mp hq with g | g
      · exact hS.2.2 q g
      · exact hL q g
  obtain ⟨t2, g1, g2⟩ := kk T'.heap (locs ++ L2) (by rw [e1]; exact hW1) hS1 T' rfl X'
  exact ⟨t2, go t2 g1, g2⟩
set_option maxRecDepth 20000 in
set_option maxHeartbeats 4000000 in
theorem law_new {p : Program} {l : Launch} {e : Env} {s : State} {m : MethodId} {below : List Frame} {meth : Method} {c : Code} {b L : Nat} {xs : Nat → Int32} {G : aG} {H : Heap} {locs : List Loc} {cells slots : Nat} {Qf : State → Prop} {ls : Array Slot} {rest : List Value} {pc i ci N : Nat} {Cn : String} {T : u_T} {fs : List AV} {h : AH} (C0 : lw_At p s m meth c b L xs) (hK : KK G s) (hW : Wd G s.heap.size h H) (hS : va_S (fun q => s.heap.size ≤ q) s.heap H locs)
    (d1 : decode code pc = .ok (.new i, 3)) (hc : vwCl[ci]? = some (Cn, T, N)) (d3 : Cond.classLink R_law i Cn ∈ lw_tbl) (d4 : Cond.instantiable Cn N ∈ Wl) (d5 : Cond.initialized Cn ∈ Wl) (d6 : fs.length = N) (d7 : ∀ j, j < N → (parseFieldDescriptor (T j).2.2.1).map defaultValue = some (cv 0 (fs.getD j an)) ∧ (∀ q, fs[j]? ≠ some (ar q))) (hcs : cells + 1 ≤ 600000) (hss : slots + N ≤ 7302250)
    (kk : ∀ H1, Wd G s.heap.size (h ++ [.inl (ci, fs)]) H1 → va_S (fun q => s.heap.size ≤ q) s.heap H1 locs → W p l e room_1 s m #[Value.ref b] below meth c H1 locs (cells + 1) (slots + N) Qf (F0 m (pc + 3) ls (.ref (s.heap.size + h.length) :: rest))) :
    W p l e room_1 s m #[Value.ref b] below meth c H locs cells slots Qf (F0 m pc ls rest) := by
  obtain ⟨hx, hb, hret, hml, hown, hts, hX, hbl, hlocks, hgv⟩ := C0
  have hts2 : ∀ w ∈ Wl, w.before #[Value.ref b] s = true := fun w hq => hts w (Wl_tbl w hq)
  obtain ⟨ty0, hty, hdist⟩ := cls_ty _ _ _ _ hc
  have hKn := hK.1.1 ci _ hc
  refine W.newcK hx hb hown (hts _ d3) (hts2 _ d4) (hts2 _ d5) rfl d1 hcs hss hKn.2.1 rfl fun H1 kC hkC e1 z1 o1 => ?_
  have hk : ∀ (k : Nat) (x : Nat × va_E), (wsOf s.heap.size G h)[k]? = some x → H1[x.1]? = H[x.1]? := fun k x hx => o1 x.1 ((hW.2 k x hx).lt)
  have hS2 : va_S (fun q => s.heap.size ≤ q) s.heap H1 locs := ⟨Nat.le_trans hS.1 (by omega), fun x h1 h2 => (o1 x (Nat.lt_of_lt_of_le h1 hS.1)).trans (hS.2.1 x h1 h2), hS.2.2⟩
  have hW2 : Wd G s.heap.size (h ++ [.inl (ci, fs)]) H1 := by
    refine ⟨by rw [z1, hW.1, List.length_append]; rfl, ?_⟩
    rw [wsOf_push]
    refine (hW.2.kept hk).app (fun k x hx => ?_)
    have hz : k < 1 := (List.getElem?_eq_some_iff.mp hx).1
    rw [show k = 0 by omega] at hx
    cases hx
    refine ⟨_, hc, ?_⟩
    rw [← hW.1]
    refine (u_born ty0 hts2 (cls_in _ _ _ _ hc) hKn hkC e1 hty).to (fun j hj => ?_)
    obtain ⟨f1, f2⟩ := d7 j hj
    rw [hty j hj] at f1
    simp only [Option.map_some, Option.some.injEq] at f1
    have hlt : j < fs.length := by omega
    have e2 : fs[j]? = some (fs.getD j an) := by
      rw [List.getD_eq_getElem?_getD, List.getElem?_eq_getElem hlt]; rfl
    rw [f1]
    have e3 : vp_V (fs.map (cv s.heap.size)) j = cv s.heap.size (fs.getD j an) := by
      show (fs.map (cv s.heap.size)).getD j .null = _
      rw [List.getD_eq_getElem?_getD, List.getElem?_map, e2]; rfl
    rw [e3]
    rcases hv : fs.getD j an with x | (_ | q)
    · rfl
    · rfl
    · rw [hv] at e2
      exact absurd e2 (f2 q)
  have k2 := kk H1 hW2 hS2
  rw [← hW.1] at k2
  exact k2
set_option maxRecDepth 20000 in
set_option maxHeartbeats 4000000 in
theorem law_arg {p : Program} {l : Launch} {e : Env} {s : State} {m : MethodId} {below : List Frame} {meth : Method} {c : Code} {b L : Nat} {xs : Nat → Int32} {H : Heap} {locs : List Loc} {cells slots : Nat} {Qf : State → Prop} {ls : Array Slot} {rest : List Value} {pc k i x1 x2 : Nat} (C0 : lw_At p s m meth c b L xs) (hS : va_S (fun q => s.heap.size ≤ q) s.heap H locs) (hl : lv_has ls 4 [(0, .ref b), (1, .ref x1), (2, .ref x2), (3, .int (nI i))])
    (d1 : decode code pc = .ok (.aload_n 0, 1)) (d2 : decode code (pc + 1) = .ok (.iload_n 3, 1)) (d3 : decode code (pc + 1 + 1) = .ok (.iconst (k : Int), 1)) (d4 : decode code (pc + 1 + 1 + 1) = .ok (.iadd, 1)) (d5 : decode code (pc + 1 + 1 + 1 + 1) = .ok (.iaload, 1)) (hk : Int32.ofInt (k : Int) = nI k) (hi : i + k < L) (hL : L ≤ 2048)
    (kk : W p l e room_1 s m #[Value.ref b] below meth c H locs cells slots Qf (F0 m (pc + 1 + 1 + 1 + 1 + 1) ls (.int (xs (i + k)) :: rest))) : W p l e room_1 s m #[Value.ref b] below meth c H locs cells slots Qf (F0 m pc ls rest) := by
  obtain ⟨hx, hb, hret, hml, hown, hts, hX, hbl, hlocks, hgv⟩ := C0
  refine lv_aload_n hx hb d1 rfl (lv_at hl 0 rfl) ?_
  refine lv_iload_n hx hb d2 rfl (lv_at hl 3 rfl) ?_
  refine lv_iconst (v := nI k) hx hb d3 hk ?_
  refine lv_iadd hx hb d4 ?_
  rw [nI_add]
  refine va_sld hx hb hX hbl (Nat.not_le.mpr hbl) hS (vp_in_nI hi (by omega)) d5 ?_
  rw [nI_clamp (by omega)]
  exact kk
/-- an operation on both: the same answer, the invariant kept -/
def OpOK (Inv : Sg → Prop) (r1 r2 : MR) (As : List AV) : Prop := ∀ σ, Inv σ → CM r1 (ar 0 :: As) σ (fun w σ1 => ∃ v, w = some (ai v) ∧ CM r2 (ar 79 :: As) σ1 (fun w2 σ2 => w2 = some (ai v) ∧ Inv σ2))
def AllOps (Inv : Sg → Prop) : Prop := (∀ (x0 x1 : Int32), OpOK Inv mX9_set mX10_set [ai x0, ai x1]) ∧ (∀ (x0 x1 : Int32), OpOK Inv mX9_swap mX10_swap [ai x0, ai x1]) ∧ (∀ (x0 : Int32), OpOK Inv mX9_ring mX10_ring [ai x0]) ∧ (∀ (_ : Unit), OpOK Inv mX9_pause mX10_pause []) ∧ (∀ (x0 : Int32), OpOK Inv mX9_strike mX10_strike [ai x0]) ∧ (∀ (x0 : Int32), OpOK Inv mX9_mute mX10_mute [ai x0]) ∧ (∀ (x0 x1 : Int32), OpOK Inv mX9_shift mX10_shift [ai x0, ai x1]) ∧ (∀ (x0 x1 : Int32), OpOK Inv mX9_strokeOf mX10_strokeOf [ai x0, ai x1]) ∧ (∀ (x0 x1 : Int32), OpOK Inv mX9_messageOf mX10_messageOf [ai x0, ai x1]) ∧ (∀ (x0 x1 x2 : Int32), OpOK Inv mX9_letterOf mX10_letterOf [ai x0, ai x1, ai x2]) ∧ (∀ (x0 x1 x2 : Int32), OpOK Inv mX9_correction mX10_correction [ai x0, ai x1, ai x2]) ∧ (∀ (x0 x1 : Int32), OpOK Inv mX9_vote mX10_vote [ai x0, ai x1]) ∧ (∀ (x0 : Int32), OpOK Inv mX9_read mX10_read [ai x0]) ∧ (∀ (x0 : Int32), OpOK Inv mX9_tableOf mX10_tableOf [ai x0]) ∧ (∀ (x0 : Int32), OpOK Inv mX9_count mX10_count [ai x0]) ∧ (∀ (_ : Unit), OpOK Inv mX9_undo mX10_undo []) ∧ (∀ (x0 : Int32), OpOK Inv mX9_type mX10_type [ai x0]) ∧ (∀ (_ : Unit), OpOK Inv mX9_clearText mX10_clearText []) ∧ (∀ (x0 : Int32), OpOK Inv mX9_fault mX10_fault [ai x0]) ∧ (∀ (_ : Unit), OpOK Inv mX9_play mX10_play [])
theorem ll_13 : Cond.methodLink R_law 13 yX9_set ∈ lw_tbl := by decide +kernel
theorem ll_17 : Cond.methodLink R_law 17 yX10_set ∈ lw_tbl := by decide +kernel
set_option maxRecDepth 20000 in
set_option maxHeartbeats 4000000 in
theorem law_0 {p : Program} {l : Launch} {e : Env} {s : State} {m : MethodId} {below : List Frame} {meth : Method} {c : Code} {b L : Nat} {xs : Nat → Int32} {G : aG} {H : Heap} {locs : List Loc} {cells slots : Nat} {Qf : State → Prop} {ls : Array Slot} {i : Nat} {σ : Sg} {Inv : Sg → Prop} (C0 : lw_At p s m meth c b L xs) (hK : KK G s) (hI : Inv σ) (hOp : OpOK Inv mX9_set mX10_set [ai (xs (i + 1)), ai (xs (i + 2))]) (hW : Wd G s.heap.size (mem σ) H) (hS : va_S (fun q => s.heap.size ≤ q) s.heap H locs) (hl : lv_has ls 4 [(0, .ref b), (1, .ref (s.heap.size + 0)), (2, .ref (s.heap.size + 79)), (3, .int (nI i))]) (hi : i + 4 ≤ L) (hL : L ≤ 2048) (hcs : cells ≤ 600000) (hss : slots ≤ 7302250) (kk : ∀ σ2 H2 locs2, Inv σ2 → Wd G s.heap.size (mem σ2) H2 → va_S (fun q => s.heap.size ≤ q) s.heap H2 locs2 → W p l e room_1 s m #[Value.ref b] below meth c H2 locs2 cells slots Qf (F0 m 648 ls [])) : W p l e room_1 s m #[Value.ref b] below meth c H locs cells slots Qf (F0 m 128 ls []) := by
  have hx := C0.1
  have hb := C0.2.1
  refine lv_aload_n hx hb dL_law_128 rfl (lv_at hl 1 rfl) ?_
  refine law_arg (k := 1) C0 hS hl dL_law_129 dL_law_130 dL_law_131 dL_law_132 dL_law_133 rfl (by omega) hL ?_
  refine law_arg (k := 2) C0 hS hl dL_law_134 dL_law_135 dL_law_136 dL_law_137 dL_law_138 rfl (by omega) hL ?_
  refine law_V (r1 := mX9_set) (o := 0) (As := [ai (xs (i + 1)), ai (xs (i + 2))]) (rest := []) C0 hK hW hS hl.1 dL_law_139 ll_13 vX9_set rfl ⟨_, _, rfl⟩ (Nat.le_of_ble_eq_true rfl) (Nat.le_of_ble_eq_true rfl) (Nat.zero_le _) (hOp σ hI) hcs hss ?_
  rintro w σ1 H1 locs1 ⟨v, rfl, hc2⟩ hW hS
  refine lv_aload_n hx hb dL_law_142 rfl (lv_at hl 2 rfl) ?_
  refine law_arg (k := 1) C0 hS hl dL_law_143 dL_law_144 dL_law_145 dL_law_146 dL_law_147 rfl (by omega) hL ?_
  refine law_arg (k := 2) C0 hS hl dL_law_148 dL_law_149 dL_law_150 dL_law_151 dL_law_152 rfl (by omega) hL ?_
  refine law_V (r1 := mX10_set) (o := 79) (As := [ai (xs (i + 1)), ai (xs (i + 2))]) (rest := [.int v]) C0 hK hW hS hl.1 dL_law_153 ll_17 vX10_set rfl ⟨_, _, rfl⟩ (Nat.le_of_ble_eq_true rfl) (Nat.le_of_ble_eq_true rfl) (by simp [Value.category]) hc2 hcs hss ?_
  rintro w σ2 H2 locs2 ⟨rfl, hI2⟩ hW hS
  refine lv_icmp_eq (tgt := 648) hx hb dL_law_156 (by decide) (fun _ => ?_) (fun q => absurd rfl q)
  exact kk σ2 H2 locs2 hI2 hW hS
theorem ll_18 : Cond.methodLink R_law 18 yX9_swap ∈ lw_tbl := by decide +kernel
theorem ll_21 : Cond.methodLink R_law 21 yX10_swap ∈ lw_tbl := by decide +kernel
set_option maxRecDepth 20000 in
set_option maxHeartbeats 4000000 in
theorem law_1 {p : Program} {l : Launch} {e : Env} {s : State} {m : MethodId} {below : List Frame} {meth : Method} {c : Code} {b L : Nat} {xs : Nat → Int32} {G : aG} {H : Heap} {locs : List Loc} {cells slots : Nat} {Qf : State → Prop} {ls : Array Slot} {i : Nat} {σ : Sg} {Inv : Sg → Prop} (C0 : lw_At p s m meth c b L xs) (hK : KK G s) (hI : Inv σ) (hOp : OpOK Inv mX9_swap mX10_swap [ai (xs (i + 1)), ai (xs (i + 2))]) (hW : Wd G s.heap.size (mem σ) H) (hS : va_S (fun q => s.heap.size ≤ q) s.heap H locs) (hl : lv_has ls 4 [(0, .ref b), (1, .ref (s.heap.size + 0)), (2, .ref (s.heap.size + 79)), (3, .int (nI i))]) (hi : i + 4 ≤ L) (hL : L ≤ 2048) (hcs : cells ≤ 600000) (hss : slots ≤ 7302250) (kk : ∀ σ2 H2 locs2, Inv σ2 → Wd G s.heap.size (mem σ2) H2 → va_S (fun q => s.heap.size ≤ q) s.heap H2 locs2 → W p l e room_1 s m #[Value.ref b] below meth c H2 locs2 cells slots Qf (F0 m 648 ls [])) : W p l e room_1 s m #[Value.ref b] below meth c H locs cells slots Qf (F0 m 161 ls []) := by
  have hx := C0.1
  have hb := C0.2.1
  refine lv_aload_n hx hb dL_law_161 rfl (lv_at hl 1 rfl) ?_
  refine law_arg (k := 1) C0 hS hl dL_law_162 dL_law_163 dL_law_164 dL_law_165 dL_law_166 rfl (by omega) hL ?_
  refine law_arg (k := 2) C0 hS hl dL_law_167 dL_law_168 dL_law_169 dL_law_170 dL_law_171 rfl (by omega) hL ?_
  refine law_V (r1 := mX9_swap) (o := 0) (As := [ai (xs (i + 1)), ai (xs (i + 2))]) (rest := []) C0 hK hW hS hl.1 dL_law_172 ll_18 vX9_swap rfl ⟨_, _, rfl⟩ (Nat.le_of_ble_eq_true rfl) (Nat.le_of_ble_eq_true rfl) (Nat.zero_le _) (hOp σ hI) hcs hss ?_
  rintro w σ1 H1 locs1 ⟨v, rfl, hc2⟩ hW hS
  refine lv_aload_n hx hb dL_law_175 rfl (lv_at hl 2 rfl) ?_
  refine law_arg (k := 1) C0 hS hl dL_law_176 dL_law_177 dL_law_178 dL_law_179 dL_law_180 rfl (by omega) hL ?_
  refine law_arg (k := 2) C0 hS hl dL_law_181 dL_law_182 dL_law_183 dL_law_184 dL_law_185 rfl (by omega) hL ?_
  refine law_V (r1 := mX10_swap) (o := 79) (As := [ai (xs (i + 1)), ai (xs (i + 2))]) (rest := [.int v]) C0 hK hW hS hl.1 dL_law_186 ll_21 vX10_swap rfl ⟨_, _, rfl⟩ (Nat.le_of_ble_eq_true rfl) (Nat.le_of_ble_eq_true rfl) (by simp [Value.category]) hc2 hcs hss ?_
  rintro w σ2 H2 locs2 ⟨rfl, hI2⟩ hW hS
  refine lv_icmp_eq (tgt := 648) hx hb dL_law_189 (by decide) (fun _ => ?_) (fun q => absurd rfl q)
  exact kk σ2 H2 locs2 hI2 hW hS
theorem ll_22 : Cond.methodLink R_law 22 yX9_ring ∈ lw_tbl := by decide +kernel
theorem ll_26 : Cond.methodLink R_law 26 yX10_ring ∈ lw_tbl := by decide +kernel
set_option maxRecDepth 20000 in
set_option maxHeartbeats 4000000 in
theorem law_2 {p : Program} {l : Launch} {e : Env} {s : State} {m : MethodId} {below : List Frame} {meth : Method} {c : Code} {b L : Nat} {xs : Nat → Int32} {G : aG} {H : Heap} {locs : List Loc} {cells slots : Nat} {Qf : State → Prop} {ls : Array Slot} {i : Nat} {σ : Sg} {Inv : Sg → Prop} (C0 : lw_At p s m meth c b L xs) (hK : KK G s) (hI : Inv σ) (hOp : OpOK Inv mX9_ring mX10_ring [ai (xs (i + 1))]) (hW : Wd G s.heap.size (mem σ) H) (hS : va_S (fun q => s.heap.size ≤ q) s.heap H locs) (hl : lv_has ls 4 [(0, .ref b), (1, .ref (s.heap.size + 0)), (2, .ref (s.heap.size + 79)), (3, .int (nI i))]) (hi : i + 4 ≤ L) (hL : L ≤ 2048) (hcs : cells ≤ 600000) (hss : slots ≤ 7302250) (kk : ∀ σ2 H2 locs2, Inv σ2 → Wd G s.heap.size (mem σ2) H2 → va_S (fun q => s.heap.size ≤ q) s.heap H2 locs2 → W p l e room_1 s m #[Value.ref b] below meth c H2 locs2 cells slots Qf (F0 m 648 ls [])) : W p l e room_1 s m #[Value.ref b] below meth c H locs cells slots Qf (F0 m 194 ls []) := by
  have hx := C0.1
  have hb := C0.2.1
  refine lv_aload_n hx hb dL_law_194 rfl (lv_at hl 1 rfl) ?_
  refine law_arg (k := 1) C0 hS hl dL_law_195 dL_law_196 dL_law_197 dL_law_198 dL_law_199 rfl (by omega) hL ?_
  refine law_V (r1 := mX9_ring) (o := 0) (As := [ai (xs (i + 1))]) (rest := []) C0 hK hW hS hl.1 dL_law_200 ll_22 vX9_ring rfl ⟨_, _, rfl⟩ (Nat.le_of_ble_eq_true rfl) (Nat.le_of_ble_eq_true rfl) (Nat.zero_le _) (hOp σ hI) hcs hss ?_
  rintro w σ1 H1 locs1 ⟨v, rfl, hc2⟩ hW hS
  refine lv_aload_n hx hb dL_law_203 rfl (lv_at hl 2 rfl) ?_
  refine law_arg (k := 1) C0 hS hl dL_law_204 dL_law_205 dL_law_206 dL_law_207 dL_law_208 rfl (by omega) hL ?_
  refine law_V (r1 := mX10_ring) (o := 79) (As := [ai (xs (i + 1))]) (rest := [.int v]) C0 hK hW hS hl.1 dL_law_209 ll_26 vX10_ring rfl ⟨_, _, rfl⟩ (Nat.le_of_ble_eq_true rfl) (Nat.le_of_ble_eq_true rfl) (by simp [Value.category]) hc2 hcs hss ?_
  rintro w σ2 H2 locs2 ⟨rfl, hI2⟩ hW hS
  refine lv_icmp_eq (tgt := 648) hx hb dL_law_212 (by decide) (fun _ => ?_) (fun q => absurd rfl q)
  exact kk σ2 H2 locs2 hI2 hW hS
theorem ll_27 : Cond.methodLink R_law 27 yX9_pause ∈ lw_tbl := by decide +kernel
theorem ll_31 : Cond.methodLink R_law 31 yX10_pause ∈ lw_tbl := by decide +kernel
set_option maxRecDepth 20000 in
set_option maxHeartbeats 4000000 in
theorem law_3 {p : Program} {l : Launch} {e : Env} {s : State} {m : MethodId} {below : List Frame} {meth : Method} {c : Code} {b L : Nat} {xs : Nat → Int32} {G : aG} {H : Heap} {locs : List Loc} {cells slots : Nat} {Qf : State → Prop} {ls : Array Slot} {i : Nat} {σ : Sg} {Inv : Sg → Prop} (C0 : lw_At p s m meth c b L xs) (hK : KK G s) (hI : Inv σ) (hOp : OpOK Inv mX9_pause mX10_pause []) (hW : Wd G s.heap.size (mem σ) H) (hS : va_S (fun q => s.heap.size ≤ q) s.heap H locs) (hl : lv_has ls 4 [(0, .ref b), (1, .ref (s.heap.size + 0)), (2, .ref (s.heap.size + 79)), (3, .int (nI i))]) (hi : i + 4 ≤ L) (hL : L ≤ 2048) (hcs : cells ≤ 600000) (hss : slots ≤ 7302250) (kk : ∀ σ2 H2 locs2, Inv σ2 → Wd G s.heap.size (mem σ2) H2 → va_S (fun q => s.heap.size ≤ q) s.heap H2 locs2 → W p l e room_1 s m #[Value.ref b] below meth c H2 locs2 cells slots Qf (F0 m 648 ls [])) : W p l e room_1 s m #[Value.ref b] below meth c H locs cells slots Qf (F0 m 217 ls []) := by
  have hx := C0.1
  have hb := C0.2.1
  refine lv_aload_n hx hb dL_law_217 rfl (lv_at hl 1 rfl) ?_
  refine law_V (r1 := mX9_pause) (o := 0) (As := []) (rest := []) C0 hK hW hS hl.1 dL_law_218 ll_27 vX9_pause rfl ⟨_, _, rfl⟩ (Nat.le_of_ble_eq_true rfl) (Nat.le_of_ble_eq_true rfl) (Nat.zero_le _) (hOp σ hI) hcs hss ?_
  rintro w σ1 H1 locs1 ⟨v, rfl, hc2⟩ hW hS
  refine lv_aload_n hx hb dL_law_221 rfl (lv_at hl 2 rfl) ?_
  refine law_V (r1 := mX10_pause) (o := 79) (As := []) (rest := [.int v]) C0 hK hW hS hl.1 dL_law_222 ll_31 vX10_pause rfl ⟨_, _, rfl⟩ (Nat.le_of_ble_eq_true rfl) (Nat.le_of_ble_eq_true rfl) (by simp [Value.category]) hc2 hcs hss ?_
  rintro w σ2 H2 locs2 ⟨rfl, hI2⟩ hW hS
  refine lv_icmp_eq (tgt := 648) hx hb dL_law_225 (by decide) (fun _ => ?_) (fun q => absurd rfl q)
  exact kk σ2 H2 locs2 hI2 hW hS
theorem ll_32 : Cond.methodLink R_law 32 yX9_strike ∈ lw_tbl := by decide +kernel
theorem ll_35 : Cond.methodLink R_law 35 yX10_strike ∈ lw_tbl := by decide +kernel
set_option maxRecDepth 20000 in
set_option maxHeartbeats 4000000 in
theorem law_4 {p : Program} {l : Launch} {e : Env} {s : State} {m : MethodId} {below : List Frame} {meth : Method} {c : Code} {b L : Nat} {xs : Nat → Int32} {G : aG} {H : Heap} {locs : List Loc} {cells slots : Nat} {Qf : State → Prop} {ls : Array Slot} {i : Nat} {σ : Sg} {Inv : Sg → Prop} (C0 : lw_At p s m meth c b L xs) (hK : KK G s) (hI : Inv σ) (hOp : OpOK Inv mX9_strike mX10_strike [ai (xs (i + 1))]) (hW : Wd G s.heap.size (mem σ) H) (hS : va_S (fun q => s.heap.size ≤ q) s.heap H locs) (hl : lv_has ls 4 [(0, .ref b), (1, .ref (s.heap.size + 0)), (2, .ref (s.heap.size + 79)), (3, .int (nI i))]) (hi : i + 4 ≤ L) (hL : L ≤ 2048) (hcs : cells ≤ 600000) (hss : slots ≤ 7302250) (kk : ∀ σ2 H2 locs2, Inv σ2 → Wd G s.heap.size (mem σ2) H2 → va_S (fun q => s.heap.size ≤ q) s.heap H2 locs2 → W p l e room_1 s m #[Value.ref b] below meth c H2 locs2 cells slots Qf (F0 m 648 ls [])) : W p l e room_1 s m #[Value.ref b] below meth c H locs cells slots Qf (F0 m 230 ls []) := by
  have hx := C0.1
  have hb := C0.2.1
  refine lv_aload_n hx hb dL_law_230 rfl (lv_at hl 1 rfl) ?_
  refine law_arg (k := 1) C0 hS hl dL_law_231 dL_law_232 dL_law_233 dL_law_234 dL_law_235 rfl (by omega) hL ?_
  refine law_V (r1 := mX9_strike) (o := 0) (As := [ai (xs (i + 1))]) (rest := []) C0 hK hW hS hl.1 dL_law_236 ll_32 vX9_strike rfl ⟨_, _, rfl⟩ (Nat.le_of_ble_eq_true rfl) (Nat.le_of_ble_eq_true rfl) (Nat.zero_le _) (hOp σ hI) hcs hss ?_
  rintro w σ1 H1 locs1 ⟨v, rfl, hc2⟩ hW hS
  refine lv_aload_n hx hb dL_law_239 rfl (lv_at hl 2 rfl) ?_
  refine law_arg (k := 1) C0 hS hl dL_law_240 dL_law_241 dL_law_242 dL_law_243 dL_law_244 rfl (by omega) hL ?_
  refine law_V (r1 := mX10_strike) (o := 79) (As := [ai (xs (i + 1))]) (rest := [.int v]) C0 hK hW hS hl.1 dL_law_245 ll_35 vX10_strike rfl ⟨_, _, rfl⟩ (Nat.le_of_ble_eq_true rfl) (Nat.le_of_ble_eq_true rfl) (by simp [Value.category]) hc2 hcs hss ?_
  rintro w σ2 H2 locs2 ⟨rfl, hI2⟩ hW hS
  refine lv_icmp_eq (tgt := 648) hx hb dL_law_248 (by decide) (fun _ => ?_) (fun q => absurd rfl q)
  exact kk σ2 H2 locs2 hI2 hW hS
theorem ll_36 : Cond.methodLink R_law 36 yX9_mute ∈ lw_tbl := by decide +kernel
theorem ll_39 : Cond.methodLink R_law 39 yX10_mute ∈ lw_tbl := by decide +kernel
set_option maxRecDepth 20000 in
set_option maxHeartbeats 4000000 in
theorem law_5 {p : Program} {l : Launch} {e : Env} {s : State} {m : MethodId} {below : List Frame} {meth : Method} {c : Code} {b L : Nat} {xs : Nat → Int32} {G : aG} {H : Heap} {locs : List Loc} {cells slots : Nat} {Qf : State → Prop} {ls : Array Slot} {i : Nat} {σ : Sg} {Inv : Sg → Prop} (C0 : lw_At p s m meth c b L xs) (hK : KK G s) (hI : Inv σ) (hOp : OpOK Inv mX9_mute mX10_mute [ai (xs (i + 1))]) (hW : Wd G s.heap.size (mem σ) H) (hS : va_S (fun q => s.heap.size ≤ q) s.heap H locs) (hl : lv_has ls 4 [(0, .ref b), (1, .ref (s.heap.size + 0)), (2, .ref (s.heap.size + 79)), (3, .int (nI i))]) (hi : i + 4 ≤ L) (hL : L ≤ 2048) (hcs : cells ≤ 600000) (hss : slots ≤ 7302250) (kk : ∀ σ2 H2 locs2, Inv σ2 → Wd G s.heap.size (mem σ2) H2 → va_S (fun q => s.heap.size ≤ q) s.heap H2 locs2 → W p l e room_1 s m #[Value.ref b] below meth c H2 locs2 cells slots Qf (F0 m 648 ls [])) : W p l e room_1 s m #[Value.ref b] below meth c H locs cells slots Qf (F0 m 253 ls []) := by
  have hx := C0.1
  have hb := C0.2.1
  refine lv_aload_n hx hb dL_law_253 rfl (lv_at hl 1 rfl) ?_
  refine law_arg (k := 1) C0 hS hl dL_law_254 dL_law_255 dL_law_256 dL_law_257 dL_law_258 rfl (by omega) hL ?_
  refine law_V (r1 := mX9_mute) (o := 0) (As := [ai (xs (i + 1))]) (rest := []) C0 hK hW hS hl.1 dL_law_259 ll_36 vX9_mute rfl ⟨_, _, rfl⟩ (Nat.le_of_ble_eq_true rfl) (Nat.le_of_ble_eq_true rfl) (Nat.zero_le _) (hOp σ hI) hcs hss ?_
  rintro w σ1 H1 locs1 ⟨v, rfl, hc2⟩ hW hS
  refine lv_aload_n hx hb dL_law_262 rfl (lv_at hl 2 rfl) ?_
  refine law_arg (k := 1) C0 hS hl dL_law_263 dL_law_264 dL_law_265 dL_law_266 dL_law_267 rfl (by omega) hL ?_
  refine law_V (r1 := mX10_mute) (o := 79) (As := [ai (xs (i + 1))]) (rest := [.int v]) C0 hK hW hS hl.1 dL_law_268 ll_39 vX10_mute rfl ⟨_, _, rfl⟩ (Nat.le_of_ble_eq_true rfl) (Nat.le_of_ble_eq_true rfl) (by simp [Value.category]) hc2 hcs hss ?_
  rintro w σ2 H2 locs2 ⟨rfl, hI2⟩ hW hS
  refine lv_icmp_eq (tgt := 648) hx hb dL_law_271 (by decide) (fun _ => ?_) (fun q => absurd rfl q)
  exact kk σ2 H2 locs2 hI2 hW hS
theorem ll_40 : Cond.methodLink R_law 40 yX9_shift ∈ lw_tbl := by decide +kernel
theorem ll_43 : Cond.methodLink R_law 43 yX10_shift ∈ lw_tbl := by decide +kernel
set_option maxRecDepth 20000 in
set_option maxHeartbeats 4000000 in
theorem law_6 {p : Program} {l : Launch} {e : Env} {s : State} {m : MethodId} {below : List Frame} {meth : Method} {c : Code} {b L : Nat} {xs : Nat → Int32} {G : aG} {H : Heap} {locs : List Loc} {cells slots : Nat} {Qf : State → Prop} {ls : Array Slot} {i : Nat} {σ : Sg} {Inv : Sg → Prop} (C0 : lw_At p s m meth c b L xs) (hK : KK G s) (hI : Inv σ) (hOp : OpOK Inv mX9_shift mX10_shift [ai (xs (i + 1)), ai (xs (i + 2))]) (hW : Wd G s.heap.size (mem σ) H) (hS : va_S (fun q => s.heap.size ≤ q) s.heap H locs) (hl : lv_has ls 4 [(0, .ref b), (1, .ref (s.heap.size + 0)), (2, .ref (s.heap.size + 79)), (3, .int (nI i))]) (hi : i + 4 ≤ L) (hL : L ≤ 2048) (hcs : cells ≤ 600000) (hss : slots ≤ 7302250) (kk : ∀ σ2 H2 locs2, Inv σ2 → Wd G s.heap.size (mem σ2) H2 → va_S (fun q => s.heap.size ≤ q) s.heap H2 locs2 → W p l e room_1 s m #[Value.ref b] below meth c H2 locs2 cells slots Qf (F0 m 648 ls [])) : W p l e room_1 s m #[Value.ref b] below meth c H locs cells slots Qf (F0 m 276 ls []) := by
  have hx := C0.1
  have hb := C0.2.1
  refine lv_aload_n hx hb dL_law_276 rfl (lv_at hl 1 rfl) ?_
  refine law_arg (k := 1) C0 hS hl dL_law_277 dL_law_278 dL_law_279 dL_law_280 dL_law_281 rfl (by omega) hL ?_
  refine law_arg (k := 2) C0 hS hl dL_law_282 dL_law_283 dL_law_284 dL_law_285 dL_law_286 rfl (by omega) hL ?_
  refine law_V (r1 := mX9_shift) (o := 0) (As := [ai (xs (i + 1)), ai (xs (i + 2))]) (rest := []) C0 hK hW hS hl.1 dL_law_287 ll_40 vX9_shift rfl ⟨_, _, rfl⟩ (Nat.le_of_ble_eq_true rfl) (Nat.le_of_ble_eq_true rfl) (Nat.zero_le _) (hOp σ hI) hcs hss ?_
  rintro w σ1 H1 locs1 ⟨v, rfl, hc2⟩ hW hS
  refine lv_aload_n hx hb dL_law_290 rfl (lv_at hl 2 rfl) ?_
  refine law_arg (k := 1) C0 hS hl dL_law_291 dL_law_292 dL_law_293 dL_law_294 dL_law_295 rfl (by omega) hL ?_
  refine law_arg (k := 2) C0 hS hl dL_law_296 dL_law_297 dL_law_298 dL_law_299 dL_law_300 rfl (by omega) hL ?_
  refine law_V (r1 := mX10_shift) (o := 79) (As := [ai (xs (i + 1)), ai (xs (i + 2))]) (rest := [.int v]) C0 hK hW hS hl.1 dL_law_301 ll_43 vX10_shift rfl ⟨_, _, rfl⟩ (Nat.le_of_ble_eq_true rfl) (Nat.le_of_ble_eq_true rfl) (by simp [Value.category]) hc2 hcs hss ?_
  rintro w σ2 H2 locs2 ⟨rfl, hI2⟩ hW hS
  refine lv_icmp_eq (tgt := 648) hx hb dL_law_304 (by decide) (fun _ => ?_) (fun q => absurd rfl q)
  exact kk σ2 H2 locs2 hI2 hW hS
theorem ll_44 : Cond.methodLink R_law 44 yX9_strokeOf ∈ lw_tbl := by decide +kernel
theorem ll_47 : Cond.methodLink R_law 47 yX10_strokeOf ∈ lw_tbl := by decide +kernel
set_option maxRecDepth 20000 in
set_option maxHeartbeats 4000000 in
theorem law_7 {p : Program} {l : Launch} {e : Env} {s : State} {m : MethodId} {below : List Frame} {meth : Method} {c : Code} {b L : Nat} {xs : Nat → Int32} {G : aG} {H : Heap} {locs : List Loc} {cells slots : Nat} {Qf : State → Prop} {ls : Array Slot} {i : Nat} {σ : Sg} {Inv : Sg → Prop} (C0 : lw_At p s m meth c b L xs) (hK : KK G s) (hI : Inv σ) (hOp : OpOK Inv mX9_strokeOf mX10_strokeOf [ai (xs (i + 1)), ai (xs (i + 2))]) (hW : Wd G s.heap.size (mem σ) H) (hS : va_S (fun q => s.heap.size ≤ q) s.heap H locs) (hl : lv_has ls 4 [(0, .ref b), (1, .ref (s.heap.size + 0)), (2, .ref (s.heap.size + 79)), (3, .int (nI i))]) (hi : i + 4 ≤ L) (hL : L ≤ 2048) (hcs : cells ≤ 600000) (hss : slots ≤ 7302250) (kk : ∀ σ2 H2 locs2, Inv σ2 → Wd G s.heap.size (mem σ2) H2 → va_S (fun q => s.heap.size ≤ q) s.heap H2 locs2 → W p l e room_1 s m #[Value.ref b] below meth c H2 locs2 cells slots Qf (F0 m 648 ls [])) : W p l e room_1 s m #[Value.ref b] below meth c H locs cells slots Qf (F0 m 309 ls []) := by
  have hx := C0.1
  have hb := C0.2.1
  refine lv_aload_n hx hb dL_law_309 rfl (lv_at hl 1 rfl) ?_
  refine law_arg (k := 1) C0 hS hl dL_law_310 dL_law_311 dL_law_312 dL_law_313 dL_law_314 rfl (by omega) hL ?_
  refine law_arg (k := 2) C0 hS hl dL_law_315 dL_law_316 dL_law_317 dL_law_318 dL_law_319 rfl (by omega) hL ?_
  refine law_V (r1 := mX9_strokeOf) (o := 0) (As := [ai (xs (i + 1)), ai (xs (i + 2))]) (rest := []) C0 hK hW hS hl.1 dL_law_320 ll_44 vX9_strokeOf rfl ⟨_, _, rfl⟩ (Nat.le_of_ble_eq_true rfl) (Nat.le_of_ble_eq_true rfl) (Nat.zero_le _) (hOp σ hI) hcs hss ?_
  rintro w σ1 H1 locs1 ⟨v, rfl, hc2⟩ hW hS
  refine lv_aload_n hx hb dL_law_323 rfl (lv_at hl 2 rfl) ?_
  refine law_arg (k := 1) C0 hS hl dL_law_324 dL_law_325 dL_law_326 dL_law_327 dL_law_328 rfl (by omega) hL ?_
  refine law_arg (k := 2) C0 hS hl dL_law_329 dL_law_330 dL_law_331 dL_law_332 dL_law_333 rfl (by omega) hL ?_
  refine law_V (r1 := mX10_strokeOf) (o := 79) (As := [ai (xs (i + 1)), ai (xs (i + 2))]) (rest := [.int v]) C0 hK hW hS hl.1 dL_law_334 ll_47 vX10_strokeOf rfl ⟨_, _, rfl⟩ (Nat.le_of_ble_eq_true rfl) (Nat.le_of_ble_eq_true rfl) (by simp [Value.category]) hc2 hcs hss ?_
  rintro w σ2 H2 locs2 ⟨rfl, hI2⟩ hW hS
  refine lv_icmp_eq (tgt := 648) hx hb dL_law_337 (by decide) (fun _ => ?_) (fun q => absurd rfl q)
  exact kk σ2 H2 locs2 hI2 hW hS
theorem ll_48 : Cond.methodLink R_law 48 yX9_messageOf ∈ lw_tbl := by decide +kernel
theorem ll_51 : Cond.methodLink R_law 51 yX10_messageOf ∈ lw_tbl := by decide +kernel
set_option maxRecDepth 20000 in
set_option maxHeartbeats 4000000 in
theorem law_8 {p : Program} {l : Launch} {e : Env} {s : State} {m : MethodId} {below : List Frame} {meth : Method} {c : Code} {b L : Nat} {xs : Nat → Int32} {G : aG} {H : Heap} {locs : List Loc} {cells slots : Nat} {Qf : State → Prop} {ls : Array Slot} {i : Nat} {σ : Sg} {Inv : Sg → Prop} (C0 : lw_At p s m meth c b L xs) (hK : KK G s) (hI : Inv σ) (hOp : OpOK Inv mX9_messageOf mX10_messageOf [ai (xs (i + 1)), ai (xs (i + 2))]) (hW : Wd G s.heap.size (mem σ) H) (hS : va_S (fun q => s.heap.size ≤ q) s.heap H locs) (hl : lv_has ls 4 [(0, .ref b), (1, .ref (s.heap.size + 0)), (2, .ref (s.heap.size + 79)), (3, .int (nI i))]) (hi : i + 4 ≤ L) (hL : L ≤ 2048) (hcs : cells ≤ 600000) (hss : slots ≤ 7302250) (kk : ∀ σ2 H2 locs2, Inv σ2 → Wd G s.heap.size (mem σ2) H2 → va_S (fun q => s.heap.size ≤ q) s.heap H2 locs2 → W p l e room_1 s m #[Value.ref b] below meth c H2 locs2 cells slots Qf (F0 m 648 ls [])) : W p l e room_1 s m #[Value.ref b] below meth c H locs cells slots Qf (F0 m 342 ls []) := by
  have hx := C0.1
  have hb := C0.2.1
  refine lv_aload_n hx hb dL_law_342 rfl (lv_at hl 1 rfl) ?_
  refine law_arg (k := 1) C0 hS hl dL_law_343 dL_law_344 dL_law_345 dL_law_346 dL_law_347 rfl (by omega) hL ?_
  refine law_arg (k := 2) C0 hS hl dL_law_348 dL_law_349 dL_law_350 dL_law_351 dL_law_352 rfl (by omega) hL ?_
  refine law_V (r1 := mX9_messageOf) (o := 0) (As := [ai (xs (i + 1)), ai (xs (i + 2))]) (rest := []) C0 hK hW hS hl.1 dL_law_353 ll_48 vX9_messageOf rfl ⟨_, _, rfl⟩ (Nat.le_of_ble_eq_true rfl) (Nat.le_of_ble_eq_true rfl) (Nat.zero_le _) (hOp σ hI) hcs hss ?_
  rintro w σ1 H1 locs1 ⟨v, rfl, hc2⟩ hW hS
  refine lv_aload_n hx hb dL_law_356 rfl (lv_at hl 2 rfl) ?_
  refine law_arg (k := 1) C0 hS hl dL_law_357 dL_law_358 dL_law_359 dL_law_360 dL_law_361 rfl (by omega) hL ?_
  refine law_arg (k := 2) C0 hS hl dL_law_362 dL_law_363 dL_law_364 dL_law_365 dL_law_366 rfl (by omega) hL ?_
  refine law_V (r1 := mX10_messageOf) (o := 79) (As := [ai (xs (i + 1)), ai (xs (i + 2))]) (rest := [.int v]) C0 hK hW hS hl.1 dL_law_367 ll_51 vX10_messageOf rfl ⟨_, _, rfl⟩ (Nat.le_of_ble_eq_true rfl) (Nat.le_of_ble_eq_true rfl) (by simp [Value.category]) hc2 hcs hss ?_
  rintro w σ2 H2 locs2 ⟨rfl, hI2⟩ hW hS
  refine lv_icmp_eq (tgt := 648) hx hb dL_law_370 (by decide) (fun _ => ?_) (fun q => absurd rfl q)
  exact kk σ2 H2 locs2 hI2 hW hS
theorem ll_52 : Cond.methodLink R_law 52 yX9_letterOf ∈ lw_tbl := by decide +kernel
theorem ll_56 : Cond.methodLink R_law 56 yX10_letterOf ∈ lw_tbl := by decide +kernel
set_option maxRecDepth 20000 in
set_option maxHeartbeats 4000000 in
theorem law_9 {p : Program} {l : Launch} {e : Env} {s : State} {m : MethodId} {below : List Frame} {meth : Method} {c : Code} {b L : Nat} {xs : Nat → Int32} {G : aG} {H : Heap} {locs : List Loc} {cells slots : Nat} {Qf : State → Prop} {ls : Array Slot} {i : Nat} {σ : Sg} {Inv : Sg → Prop} (C0 : lw_At p s m meth c b L xs) (hK : KK G s) (hI : Inv σ) (hOp : OpOK Inv mX9_letterOf mX10_letterOf [ai (xs (i + 1)), ai (xs (i + 2)), ai (xs (i + 3))]) (hW : Wd G s.heap.size (mem σ) H) (hS : va_S (fun q => s.heap.size ≤ q) s.heap H locs) (hl : lv_has ls 4 [(0, .ref b), (1, .ref (s.heap.size + 0)), (2, .ref (s.heap.size + 79)), (3, .int (nI i))]) (hi : i + 4 ≤ L) (hL : L ≤ 2048) (hcs : cells ≤ 600000) (hss : slots ≤ 7302250) (kk : ∀ σ2 H2 locs2, Inv σ2 → Wd G s.heap.size (mem σ2) H2 → va_S (fun q => s.heap.size ≤ q) s.heap H2 locs2 → W p l e room_1 s m #[Value.ref b] below meth c H2 locs2 cells slots Qf (F0 m 648 ls [])) : W p l e room_1 s m #[Value.ref b] below meth c H locs cells slots Qf (F0 m 375 ls []) := by
  have hx := C0.1
  have hb := C0.2.1
  refine lv_aload_n hx hb dL_law_375 rfl (lv_at hl 1 rfl) ?_
  refine law_arg (k := 1) C0 hS hl dL_law_376 dL_law_377 dL_law_378 dL_law_379 dL_law_380 rfl (by omega) hL ?_
  refine law_arg (k := 2) C0 hS hl dL_law_381 dL_law_382 dL_law_383 dL_law_384 dL_law_385 rfl (by omega) hL ?_
  refine law_arg (k := 3) C0 hS hl dL_law_386 dL_law_387 dL_law_388 dL_law_389 dL_law_390 rfl (by omega) hL ?_
  refine law_V (r1 := mX9_letterOf) (o := 0) (As := [ai (xs (i + 1)), ai (xs (i + 2)), ai (xs (i + 3))]) (rest := []) C0 hK hW hS hl.1 dL_law_391 ll_52 vX9_letterOf rfl ⟨_, _, rfl⟩ (Nat.le_of_ble_eq_true rfl) (Nat.le_of_ble_eq_true rfl) (Nat.zero_le _) (hOp σ hI) hcs hss ?_
  rintro w σ1 H1 locs1 ⟨v, rfl, hc2⟩ hW hS
  refine lv_aload_n hx hb dL_law_394 rfl (lv_at hl 2 rfl) ?_
  refine law_arg (k := 1) C0 hS hl dL_law_395 dL_law_396 dL_law_397 dL_law_398 dL_law_399 rfl (by omega) hL ?_
  refine law_arg (k := 2) C0 hS hl dL_law_400 dL_law_401 dL_law_402 dL_law_403 dL_law_404 rfl (by omega) hL ?_
  refine law_arg (k := 3) C0 hS hl dL_law_405 dL_law_406 dL_law_407 dL_law_408 dL_law_409 rfl (by omega) hL ?_
  refine law_V (r1 := mX10_letterOf) (o := 79) (As := [ai (xs (i + 1)), ai (xs (i + 2)), ai (xs (i + 3))]) (rest := [.int v]) C0 hK hW hS hl.1 dL_law_410 ll_56 vX10_letterOf rfl ⟨_, _, rfl⟩ (Nat.le_of_ble_eq_true rfl) (Nat.le_of_ble_eq_true rfl) (by simp [Value.category]) hc2 hcs hss ?_
  rintro w σ2 H2 locs2 ⟨rfl, hI2⟩ hW hS
  refine lv_icmp_eq (tgt := 648) hx hb dL_law_413 (by decide) (fun _ => ?_) (fun q => absurd rfl q)
  exact kk σ2 H2 locs2 hI2 hW hS
theorem ll_57 : Cond.methodLink R_law 57 yX9_correction ∈ lw_tbl := by decide +kernel
theorem ll_60 : Cond.methodLink R_law 60 yX10_correction ∈ lw_tbl := by decide +kernel
set_option maxRecDepth 20000 in
set_option maxHeartbeats 4000000 in
theorem law_10 {p : Program} {l : Launch} {e : Env} {s : State} {m : MethodId} {below : List Frame} {meth : Method} {c : Code} {b L : Nat} {xs : Nat → Int32} {G : aG} {H : Heap} {locs : List Loc} {cells slots : Nat} {Qf : State → Prop} {ls : Array Slot} {i : Nat} {σ : Sg} {Inv : Sg → Prop} (C0 : lw_At p s m meth c b L xs) (hK : KK G s) (hI : Inv σ) (hOp : OpOK Inv mX9_correction mX10_correction [ai (xs (i + 1)), ai (xs (i + 2)), ai (xs (i + 3))]) (hW : Wd G s.heap.size (mem σ) H) (hS : va_S (fun q => s.heap.size ≤ q) s.heap H locs) (hl : lv_has ls 4 [(0, .ref b), (1, .ref (s.heap.size + 0)), (2, .ref (s.heap.size + 79)), (3, .int (nI i))]) (hi : i + 4 ≤ L) (hL : L ≤ 2048) (hcs : cells ≤ 600000) (hss : slots ≤ 7302250) (kk : ∀ σ2 H2 locs2, Inv σ2 → Wd G s.heap.size (mem σ2) H2 → va_S (fun q => s.heap.size ≤ q) s.heap H2 locs2 → W p l e room_1 s m #[Value.ref b] below meth c H2 locs2 cells slots Qf (F0 m 648 ls [])) : W p l e room_1 s m #[Value.ref b] below meth c H locs cells slots Qf (F0 m 418 ls []) := by
  have hx := C0.1
  have hb := C0.2.1
  refine lv_aload_n hx hb dL_law_418 rfl (lv_at hl 1 rfl) ?_
  refine law_arg (k := 1) C0 hS hl dL_law_419 dL_law_420 dL_law_421 dL_law_422 dL_law_423 rfl (by omega) hL ?_
  refine law_arg (k := 2) C0 hS hl dL_law_424 dL_law_425 dL_law_426 dL_law_427 dL_law_428 rfl (by omega) hL ?_
  refine law_arg (k := 3) C0 hS hl dL_law_429 dL_law_430 dL_law_431 dL_law_432 dL_law_433 rfl (by omega) hL ?_
  refine law_V (r1 := mX9_correction) (o := 0) (As := [ai (xs (i + 1)), ai (xs (i + 2)), ai (xs (i + 3))]) (rest := []) C0 hK hW hS hl.1 dL_law_434 ll_57 vX9_correction rfl ⟨_, _, rfl⟩ (Nat.le_of_ble_eq_true rfl) (Nat.le_of_ble_eq_true rfl) (Nat.zero_le _) (hOp σ hI) hcs hss ?_
  rintro w σ1 H1 locs1 ⟨v, rfl, hc2⟩ hW hS
  refine lv_aload_n hx hb dL_law_437 rfl (lv_at hl 2 rfl) ?_
  refine law_arg (k := 1) C0 hS hl dL_law_438 dL_law_439 dL_law_440 dL_law_441 dL_law_442 rfl (by omega) hL ?_
  refine law_arg (k := 2) C0 hS hl dL_law_443 dL_law_444 dL_law_445 dL_law_446 dL_law_447 rfl (by omega) hL ?_
  refine law_arg (k := 3) C0 hS hl dL_law_448 dL_law_449 dL_law_450 dL_law_451 dL_law_452 rfl (by omega) hL ?_
  refine law_V (r1 := mX10_correction) (o := 79) (As := [ai (xs (i + 1)), ai (xs (i + 2)), ai (xs (i + 3))]) (rest := [.int v]) C0 hK hW hS hl.1 dL_law_453 ll_60 vX10_correction rfl ⟨_, _, rfl⟩ (Nat.le_of_ble_eq_true rfl) (Nat.le_of_ble_eq_true rfl) (by simp [Value.category]) hc2 hcs hss ?_
  rintro w σ2 H2 locs2 ⟨rfl, hI2⟩ hW hS
  refine lv_icmp_eq (tgt := 648) hx hb dL_law_456 (by decide) (fun _ => ?_) (fun q => absurd rfl q)
  exact kk σ2 H2 locs2 hI2 hW hS
theorem ll_61 : Cond.methodLink R_law 61 yX9_vote ∈ lw_tbl := by decide +kernel
theorem ll_64 : Cond.methodLink R_law 64 yX10_vote ∈ lw_tbl := by decide +kernel
set_option maxRecDepth 20000 in
set_option maxHeartbeats 4000000 in
theorem law_11 {p : Program} {l : Launch} {e : Env} {s : State} {m : MethodId} {below : List Frame} {meth : Method} {c : Code} {b L : Nat} {xs : Nat → Int32} {G : aG} {H : Heap} {locs : List Loc} {cells slots : Nat} {Qf : State → Prop} {ls : Array Slot} {i : Nat} {σ : Sg} {Inv : Sg → Prop} (C0 : lw_At p s m meth c b L xs) (hK : KK G s) (hI : Inv σ) (hOp : OpOK Inv mX9_vote mX10_vote [ai (xs (i + 1)), ai (xs (i + 2))]) (hW : Wd G s.heap.size (mem σ) H) (hS : va_S (fun q => s.heap.size ≤ q) s.heap H locs) (hl : lv_has ls 4 [(0, .ref b), (1, .ref (s.heap.size + 0)), (2, .ref (s.heap.size + 79)), (3, .int (nI i))]) (hi : i + 4 ≤ L) (hL : L ≤ 2048) (hcs : cells ≤ 600000) (hss : slots ≤ 7302250) (kk : ∀ σ2 H2 locs2, Inv σ2 → Wd G s.heap.size (mem σ2) H2 → va_S (fun q => s.heap.size ≤ q) s.heap H2 locs2 → W p l e room_1 s m #[Value.ref b] below meth c H2 locs2 cells slots Qf (F0 m 648 ls [])) : W p l e room_1 s m #[Value.ref b] below meth c H locs cells slots Qf (F0 m 461 ls []) := by
  have hx := C0.1
  have hb := C0.2.1
  refine lv_aload_n hx hb dL_law_461 rfl (lv_at hl 1 rfl) ?_
  refine law_arg (k := 1) C0 hS hl dL_law_462 dL_law_463 dL_law_464 dL_law_465 dL_law_466 rfl (by omega) hL ?_
  refine law_arg (k := 2) C0 hS hl dL_law_467 dL_law_468 dL_law_469 dL_law_470 dL_law_471 rfl (by omega) hL ?_
  refine law_V (r1 := mX9_vote) (o := 0) (As := [ai (xs (i + 1)), ai (xs (i + 2))]) (rest := []) C0 hK hW hS hl.1 dL_law_472 ll_61 vX9_vote rfl ⟨_, _, rfl⟩ (Nat.le_of_ble_eq_true rfl) (Nat.le_of_ble_eq_true rfl) (Nat.zero_le _) (hOp σ hI) hcs hss ?_
  rintro w σ1 H1 locs1 ⟨v, rfl, hc2⟩ hW hS
  refine lv_aload_n hx hb dL_law_475 rfl (lv_at hl 2 rfl) ?_
  refine law_arg (k := 1) C0 hS hl dL_law_476 dL_law_477 dL_law_478 dL_law_479 dL_law_480 rfl (by omega) hL ?_
  refine law_arg (k := 2) C0 hS hl dL_law_481 dL_law_482 dL_law_483 dL_law_484 dL_law_485 rfl (by omega) hL ?_
  refine law_V (r1 := mX10_vote) (o := 79) (As := [ai (xs (i + 1)), ai (xs (i + 2))]) (rest := [.int v]) C0 hK hW hS hl.1 dL_law_486 ll_64 vX10_vote rfl ⟨_, _, rfl⟩ (Nat.le_of_ble_eq_true rfl) (Nat.le_of_ble_eq_true rfl) (by simp [Value.category]) hc2 hcs hss ?_
  rintro w σ2 H2 locs2 ⟨rfl, hI2⟩ hW hS
  refine lv_icmp_eq (tgt := 648) hx hb dL_law_489 (by decide) (fun _ => ?_) (fun q => absurd rfl q)
  exact kk σ2 H2 locs2 hI2 hW hS
theorem ll_65 : Cond.methodLink R_law 65 yX9_read ∈ lw_tbl := by decide +kernel
theorem ll_68 : Cond.methodLink R_law 68 yX10_read ∈ lw_tbl := by decide +kernel
set_option maxRecDepth 20000 in
set_option maxHeartbeats 4000000 in
theorem law_12 {p : Program} {l : Launch} {e : Env} {s : State} {m : MethodId} {below : List Frame} {meth : Method} {c : Code} {b L : Nat} {xs : Nat → Int32} {G : aG} {H : Heap} {locs : List Loc} {cells slots : Nat} {Qf : State → Prop} {ls : Array Slot} {i : Nat} {σ : Sg} {Inv : Sg → Prop} (C0 : lw_At p s m meth c b L xs) (hK : KK G s) (hI : Inv σ) (hOp : OpOK Inv mX9_read mX10_read [ai (xs (i + 1))]) (hW : Wd G s.heap.size (mem σ) H) (hS : va_S (fun q => s.heap.size ≤ q) s.heap H locs) (hl : lv_has ls 4 [(0, .ref b), (1, .ref (s.heap.size + 0)), (2, .ref (s.heap.size + 79)), (3, .int (nI i))]) (hi : i + 4 ≤ L) (hL : L ≤ 2048) (hcs : cells ≤ 600000) (hss : slots ≤ 7302250) (kk : ∀ σ2 H2 locs2, Inv σ2 → Wd G s.heap.size (mem σ2) H2 → va_S (fun q => s.heap.size ≤ q) s.heap H2 locs2 → W p l e room_1 s m #[Value.ref b] below meth c H2 locs2 cells slots Qf (F0 m 648 ls [])) : W p l e room_1 s m #[Value.ref b] below meth c H locs cells slots Qf (F0 m 494 ls []) := by
  have hx := C0.1
  have hb := C0.2.1
  refine lv_aload_n hx hb dL_law_494 rfl (lv_at hl 1 rfl) ?_
  refine law_arg (k := 1) C0 hS hl dL_law_495 dL_law_496 dL_law_497 dL_law_498 dL_law_499 rfl (by omega) hL ?_
  refine law_V (r1 := mX9_read) (o := 0) (As := [ai (xs (i + 1))]) (rest := []) C0 hK hW hS hl.1 dL_law_500 ll_65 vX9_read rfl ⟨_, _, rfl⟩ (Nat.le_of_ble_eq_true rfl) (Nat.le_of_ble_eq_true rfl) (Nat.zero_le _) (hOp σ hI) hcs hss ?_
  rintro w σ1 H1 locs1 ⟨v, rfl, hc2⟩ hW hS
  refine lv_aload_n hx hb dL_law_503 rfl (lv_at hl 2 rfl) ?_
  refine law_arg (k := 1) C0 hS hl dL_law_504 dL_law_505 dL_law_506 dL_law_507 dL_law_508 rfl (by omega) hL ?_
  refine law_V (r1 := mX10_read) (o := 79) (As := [ai (xs (i + 1))]) (rest := [.int v]) C0 hK hW hS hl.1 dL_law_509 ll_68 vX10_read rfl ⟨_, _, rfl⟩ (Nat.le_of_ble_eq_true rfl) (Nat.le_of_ble_eq_true rfl) (by simp [Value.category]) hc2 hcs hss ?_
  rintro w σ2 H2 locs2 ⟨rfl, hI2⟩ hW hS
  refine lv_icmp_eq (tgt := 648) hx hb dL_law_512 (by decide) (fun _ => ?_) (fun q => absurd rfl q)
  exact kk σ2 H2 locs2 hI2 hW hS
theorem ll_69 : Cond.methodLink R_law 69 yX9_tableOf ∈ lw_tbl := by decide +kernel
theorem ll_72 : Cond.methodLink R_law 72 yX10_tableOf ∈ lw_tbl := by decide +kernel
set_option maxRecDepth 20000 in
set_option maxHeartbeats 4000000 in
theorem law_13 {p : Program} {l : Launch} {e : Env} {s : State} {m : MethodId} {below : List Frame} {meth : Method} {c : Code} {b L : Nat} {xs : Nat → Int32} {G : aG} {H : Heap} {locs : List Loc} {cells slots : Nat} {Qf : State → Prop} {ls : Array Slot} {i : Nat} {σ : Sg} {Inv : Sg → Prop} (C0 : lw_At p s m meth c b L xs) (hK : KK G s) (hI : Inv σ) (hOp : OpOK Inv mX9_tableOf mX10_tableOf [ai (xs (i + 1))]) (hW : Wd G s.heap.size (mem σ) H) (hS : va_S (fun q => s.heap.size ≤ q) s.heap H locs) (hl : lv_has ls 4 [(0, .ref b), (1, .ref (s.heap.size + 0)), (2, .ref (s.heap.size + 79)), (3, .int (nI i))]) (hi : i + 4 ≤ L) (hL : L ≤ 2048) (hcs : cells ≤ 600000) (hss : slots ≤ 7302250) (kk : ∀ σ2 H2 locs2, Inv σ2 → Wd G s.heap.size (mem σ2) H2 → va_S (fun q => s.heap.size ≤ q) s.heap H2 locs2 → W p l e room_1 s m #[Value.ref b] below meth c H2 locs2 cells slots Qf (F0 m 648 ls [])) : W p l e room_1 s m #[Value.ref b] below meth c H locs cells slots Qf (F0 m 517 ls []) := by
  have hx := C0.1
  have hb := C0.2.1
  refine lv_aload_n hx hb dL_law_517 rfl (lv_at hl 1 rfl) ?_
  refine law_arg (k := 1) C0 hS hl dL_law_518 dL_law_519 dL_law_520 dL_law_521 dL_law_522 rfl (by omega) hL ?_
  refine law_V (r1 := mX9_tableOf) (o := 0) (As := [ai (xs (i + 1))]) (rest := []) C0 hK hW hS hl.1 dL_law_523 ll_69 vX9_tableOf rfl ⟨_, _, rfl⟩ (Nat.le_of_ble_eq_true rfl) (Nat.le_of_ble_eq_true rfl) (Nat.zero_le _) (hOp σ hI) hcs hss ?_
  rintro w σ1 H1 locs1 ⟨v, rfl, hc2⟩ hW hS
  refine lv_aload_n hx hb dL_law_526 rfl (lv_at hl 2 rfl) ?_
  refine law_arg (k := 1) C0 hS hl dL_law_527 dL_law_528 dL_law_529 dL_law_530 dL_law_531 rfl (by omega) hL ?_
  refine law_V (r1 := mX10_tableOf) (o := 79) (As := [ai (xs (i + 1))]) (rest := [.int v]) C0 hK hW hS hl.1 dL_law_532 ll_72 vX10_tableOf rfl ⟨_, _, rfl⟩ (Nat.le_of_ble_eq_true rfl) (Nat.le_of_ble_eq_true rfl) (by simp [Value.category]) hc2 hcs hss ?_
  rintro w σ2 H2 locs2 ⟨rfl, hI2⟩ hW hS
  refine lv_icmp_eq (tgt := 648) hx hb dL_law_535 (by decide) (fun _ => ?_) (fun q => absurd rfl q)
  exact kk σ2 H2 locs2 hI2 hW hS
theorem ll_73 : Cond.methodLink R_law 73 yX9_count ∈ lw_tbl := by decide +kernel
theorem ll_76 : Cond.methodLink R_law 76 yX10_count ∈ lw_tbl := by decide +kernel
set_option maxRecDepth 20000 in
set_option maxHeartbeats 4000000 in
theorem law_14 {p : Program} {l : Launch} {e : Env} {s : State} {m : MethodId} {below : List Frame} {meth : Method} {c : Code} {b L : Nat} {xs : Nat → Int32} {G : aG} {H : Heap} {locs : List Loc} {cells slots : Nat} {Qf : State → Prop} {ls : Array Slot} {i : Nat} {σ : Sg} {Inv : Sg → Prop} (C0 : lw_At p s m meth c b L xs) (hK : KK G s) (hI : Inv σ) (hOp : OpOK Inv mX9_count mX10_count [ai (xs (i + 1))]) (hW : Wd G s.heap.size (mem σ) H) (hS : va_S (fun q => s.heap.size ≤ q) s.heap H locs) (hl : lv_has ls 4 [(0, .ref b), (1, .ref (s.heap.size + 0)), (2, .ref (s.heap.size + 79)), (3, .int (nI i))]) (hi : i + 4 ≤ L) (hL : L ≤ 2048) (hcs : cells ≤ 600000) (hss : slots ≤ 7302250) (kk : ∀ σ2 H2 locs2, Inv σ2 → Wd G s.heap.size (mem σ2) H2 → va_S (fun q => s.heap.size ≤ q) s.heap H2 locs2 → W p l e room_1 s m #[Value.ref b] below meth c H2 locs2 cells slots Qf (F0 m 648 ls [])) : W p l e room_1 s m #[Value.ref b] below meth c H locs cells slots Qf (F0 m 540 ls []) := by
  have hx := C0.1
  have hb := C0.2.1
  refine lv_aload_n hx hb dL_law_540 rfl (lv_at hl 1 rfl) ?_
  refine law_arg (k := 1) C0 hS hl dL_law_541 dL_law_542 dL_law_543 dL_law_544 dL_law_545 rfl (by omega) hL ?_
  refine law_V (r1 := mX9_count) (o := 0) (As := [ai (xs (i + 1))]) (rest := []) C0 hK hW hS hl.1 dL_law_546 ll_73 vX9_count rfl ⟨_, _, rfl⟩ (Nat.le_of_ble_eq_true rfl) (Nat.le_of_ble_eq_true rfl) (Nat.zero_le _) (hOp σ hI) hcs hss ?_
  rintro w σ1 H1 locs1 ⟨v, rfl, hc2⟩ hW hS
  refine lv_aload_n hx hb dL_law_549 rfl (lv_at hl 2 rfl) ?_
  refine law_arg (k := 1) C0 hS hl dL_law_550 dL_law_551 dL_law_552 dL_law_553 dL_law_554 rfl (by omega) hL ?_
  refine law_V (r1 := mX10_count) (o := 79) (As := [ai (xs (i + 1))]) (rest := [.int v]) C0 hK hW hS hl.1 dL_law_555 ll_76 vX10_count rfl ⟨_, _, rfl⟩ (Nat.le_of_ble_eq_true rfl) (Nat.le_of_ble_eq_true rfl) (by simp [Value.category]) hc2 hcs hss ?_
  rintro w σ2 H2 locs2 ⟨rfl, hI2⟩ hW hS
  refine lv_icmp_eq (tgt := 648) hx hb dL_law_558 (by decide) (fun _ => ?_) (fun q => absurd rfl q)
  exact kk σ2 H2 locs2 hI2 hW hS
theorem ll_77 : Cond.methodLink R_law 77 yX9_undo ∈ lw_tbl := by decide +kernel
theorem ll_80 : Cond.methodLink R_law 80 yX10_undo ∈ lw_tbl := by decide +kernel
set_option maxRecDepth 20000 in
set_option maxHeartbeats 4000000 in
theorem law_15 {p : Program} {l : Launch} {e : Env} {s : State} {m : MethodId} {below : List Frame} {meth : Method} {c : Code} {b L : Nat} {xs : Nat → Int32} {G : aG} {H : Heap} {locs : List Loc} {cells slots : Nat} {Qf : State → Prop} {ls : Array Slot} {i : Nat} {σ : Sg} {Inv : Sg → Prop} (C0 : lw_At p s m meth c b L xs) (hK : KK G s) (hI : Inv σ) (hOp : OpOK Inv mX9_undo mX10_undo []) (hW : Wd G s.heap.size (mem σ) H) (hS : va_S (fun q => s.heap.size ≤ q) s.heap H locs) (hl : lv_has ls 4 [(0, .ref b), (1, .ref (s.heap.size + 0)), (2, .ref (s.heap.size + 79)), (3, .int (nI i))]) (hi : i + 4 ≤ L) (hL : L ≤ 2048) (hcs : cells ≤ 600000) (hss : slots ≤ 7302250) (kk : ∀ σ2 H2 locs2, Inv σ2 → Wd G s.heap.size (mem σ2) H2 → va_S (fun q => s.heap.size ≤ q) s.heap H2 locs2 → W p l e room_1 s m #[Value.ref b] below meth c H2 locs2 cells slots Qf (F0 m 648 ls [])) : W p l e room_1 s m #[Value.ref b] below meth c H locs cells slots Qf (F0 m 563 ls []) := by
  have hx := C0.1
  have hb := C0.2.1
  refine lv_aload_n hx hb dL_law_563 rfl (lv_at hl 1 rfl) ?_
  refine law_V (r1 := mX9_undo) (o := 0) (As := []) (rest := []) C0 hK hW hS hl.1 dL_law_564 ll_77 vX9_undo rfl ⟨_, _, rfl⟩ (Nat.le_of_ble_eq_true rfl) (Nat.le_of_ble_eq_true rfl) (Nat.zero_le _) (hOp σ hI) hcs hss ?_
  rintro w σ1 H1 locs1 ⟨v, rfl, hc2⟩ hW hS
  refine lv_aload_n hx hb dL_law_567 rfl (lv_at hl 2 rfl) ?_
  refine law_V (r1 := mX10_undo) (o := 79) (As := []) (rest := [.int v]) C0 hK hW hS hl.1 dL_law_568 ll_80 vX10_undo rfl ⟨_, _, rfl⟩ (Nat.le_of_ble_eq_true rfl) (Nat.le_of_ble_eq_true rfl) (by simp [Value.category]) hc2 hcs hss ?_
  rintro w σ2 H2 locs2 ⟨rfl, hI2⟩ hW hS
  refine lv_icmp_eq (tgt := 648) hx hb dL_law_571 (by decide) (fun _ => ?_) (fun q => absurd rfl q)
  exact kk σ2 H2 locs2 hI2 hW hS
theorem ll_81 : Cond.methodLink R_law 81 yX9_type ∈ lw_tbl := by decide +kernel
theorem ll_84 : Cond.methodLink R_law 84 yX10_type ∈ lw_tbl := by decide +kernel
set_option maxRecDepth 20000 in
set_option maxHeartbeats 4000000 in
theorem law_16 {p : Program} {l : Launch} {e : Env} {s : State} {m : MethodId} {below : List Frame} {meth : Method} {c : Code} {b L : Nat} {xs : Nat → Int32} {G : aG} {H : Heap} {locs : List Loc} {cells slots : Nat} {Qf : State → Prop} {ls : Array Slot} {i : Nat} {σ : Sg} {Inv : Sg → Prop} (C0 : lw_At p s m meth c b L xs) (hK : KK G s) (hI : Inv σ) (hOp : OpOK Inv mX9_type mX10_type [ai (xs (i + 1))]) (hW : Wd G s.heap.size (mem σ) H) (hS : va_S (fun q => s.heap.size ≤ q) s.heap H locs) (hl : lv_has ls 4 [(0, .ref b), (1, .ref (s.heap.size + 0)), (2, .ref (s.heap.size + 79)), (3, .int (nI i))]) (hi : i + 4 ≤ L) (hL : L ≤ 2048) (hcs : cells ≤ 600000) (hss : slots ≤ 7302250) (kk : ∀ σ2 H2 locs2, Inv σ2 → Wd G s.heap.size (mem σ2) H2 → va_S (fun q => s.heap.size ≤ q) s.heap H2 locs2 → W p l e room_1 s m #[Value.ref b] below meth c H2 locs2 cells slots Qf (F0 m 648 ls [])) : W p l e room_1 s m #[Value.ref b] below meth c H locs cells slots Qf (F0 m 576 ls []) := by
  have hx := C0.1
  have hb := C0.2.1
  refine lv_aload_n hx hb dL_law_576 rfl (lv_at hl 1 rfl) ?_
  refine law_arg (k := 1) C0 hS hl dL_law_577 dL_law_578 dL_law_579 dL_law_580 dL_law_581 rfl (by omega) hL ?_
  refine law_V (r1 := mX9_type) (o := 0) (As := [ai (xs (i + 1))]) (rest := []) C0 hK hW hS hl.1 dL_law_582 ll_81 vX9_type rfl ⟨_, _, rfl⟩ (Nat.le_of_ble_eq_true rfl) (Nat.le_of_ble_eq_true rfl) (Nat.zero_le _) (hOp σ hI) hcs hss ?_
  rintro w σ1 H1 locs1 ⟨v, rfl, hc2⟩ hW hS
  refine lv_aload_n hx hb dL_law_585 rfl (lv_at hl 2 rfl) ?_
  refine law_arg (k := 1) C0 hS hl dL_law_586 dL_law_587 dL_law_588 dL_law_589 dL_law_590 rfl (by omega) hL ?_
  refine law_V (r1 := mX10_type) (o := 79) (As := [ai (xs (i + 1))]) (rest := [.int v]) C0 hK hW hS hl.1 dL_law_591 ll_84 vX10_type rfl ⟨_, _, rfl⟩ (Nat.le_of_ble_eq_true rfl) (Nat.le_of_ble_eq_true rfl) (by simp [Value.category]) hc2 hcs hss ?_
  rintro w σ2 H2 locs2 ⟨rfl, hI2⟩ hW hS
  refine lv_icmp_eq (tgt := 648) hx hb dL_law_594 (by decide) (fun _ => ?_) (fun q => absurd rfl q)
  exact kk σ2 H2 locs2 hI2 hW hS
theorem ll_85 : Cond.methodLink R_law 85 yX9_clearText ∈ lw_tbl := by decide +kernel
theorem ll_88 : Cond.methodLink R_law 88 yX10_clearText ∈ lw_tbl := by decide +kernel
set_option maxRecDepth 20000 in
set_option maxHeartbeats 4000000 in
theorem law_17 {p : Program} {l : Launch} {e : Env} {s : State} {m : MethodId} {below : List Frame} {meth : Method} {c : Code} {b L : Nat} {xs : Nat → Int32} {G : aG} {H : Heap} {locs : List Loc} {cells slots : Nat} {Qf : State → Prop} {ls : Array Slot} {i : Nat} {σ : Sg} {Inv : Sg → Prop} (C0 : lw_At p s m meth c b L xs) (hK : KK G s) (hI : Inv σ) (hOp : OpOK Inv mX9_clearText mX10_clearText []) (hW : Wd G s.heap.size (mem σ) H) (hS : va_S (fun q => s.heap.size ≤ q) s.heap H locs) (hl : lv_has ls 4 [(0, .ref b), (1, .ref (s.heap.size + 0)), (2, .ref (s.heap.size + 79)), (3, .int (nI i))]) (hi : i + 4 ≤ L) (hL : L ≤ 2048) (hcs : cells ≤ 600000) (hss : slots ≤ 7302250) (kk : ∀ σ2 H2 locs2, Inv σ2 → Wd G s.heap.size (mem σ2) H2 → va_S (fun q => s.heap.size ≤ q) s.heap H2 locs2 → W p l e room_1 s m #[Value.ref b] below meth c H2 locs2 cells slots Qf (F0 m 648 ls [])) : W p l e room_1 s m #[Value.ref b] below meth c H locs cells slots Qf (F0 m 599 ls []) := by
  have hx := C0.1
  have hb := C0.2.1
  refine lv_aload_n hx hb dL_law_599 rfl (lv_at hl 1 rfl) ?_
  refine law_V (r1 := mX9_clearText) (o := 0) (As := []) (rest := []) C0 hK hW hS hl.1 dL_law_600 ll_85 vX9_clearText rfl ⟨_, _, rfl⟩ (Nat.le_of_ble_eq_true rfl) (Nat.le_of_ble_eq_true rfl) (Nat.zero_le _) (hOp σ hI) hcs hss ?_
  rintro w σ1 H1 locs1 ⟨v, rfl, hc2⟩ hW hS
  refine lv_aload_n hx hb dL_law_603 rfl (lv_at hl 2 rfl) ?_
  refine law_V (r1 := mX10_clearText) (o := 79) (As := []) (rest := [.int v]) C0 hK hW hS hl.1 dL_law_604 ll_88 vX10_clearText rfl ⟨_, _, rfl⟩ (Nat.le_of_ble_eq_true rfl) (Nat.le_of_ble_eq_true rfl) (by simp [Value.category]) hc2 hcs hss ?_
  rintro w σ2 H2 locs2 ⟨rfl, hI2⟩ hW hS
  refine lv_icmp_eq (tgt := 648) hx hb dL_law_607 (by decide) (fun _ => ?_) (fun q => absurd rfl q)
  exact kk σ2 H2 locs2 hI2 hW hS
theorem ll_89 : Cond.methodLink R_law 89 yX9_fault ∈ lw_tbl := by decide +kernel
theorem ll_92 : Cond.methodLink R_law 92 yX10_fault ∈ lw_tbl := by decide +kernel
set_option maxRecDepth 20000 in
set_option maxHeartbeats 4000000 in
theorem law_18 {p : Program} {l : Launch} {e : Env} {s : State} {m : MethodId} {below : List Frame} {meth : Method} {c : Code} {b L : Nat} {xs : Nat → Int32} {G : aG} {H : Heap} {locs : List Loc} {cells slots : Nat} {Qf : State → Prop} {ls : Array Slot} {i : Nat} {σ : Sg} {Inv : Sg → Prop} (C0 : lw_At p s m meth c b L xs) (hK : KK G s) (hI : Inv σ) (hOp : OpOK Inv mX9_fault mX10_fault [ai (xs (i + 1))]) (hW : Wd G s.heap.size (mem σ) H) (hS : va_S (fun q => s.heap.size ≤ q) s.heap H locs) (hl : lv_has ls 4 [(0, .ref b), (1, .ref (s.heap.size + 0)), (2, .ref (s.heap.size + 79)), (3, .int (nI i))]) (hi : i + 4 ≤ L) (hL : L ≤ 2048) (hcs : cells ≤ 600000) (hss : slots ≤ 7302250) (kk : ∀ σ2 H2 locs2, Inv σ2 → Wd G s.heap.size (mem σ2) H2 → va_S (fun q => s.heap.size ≤ q) s.heap H2 locs2 → W p l e room_1 s m #[Value.ref b] below meth c H2 locs2 cells slots Qf (F0 m 648 ls [])) : W p l e room_1 s m #[Value.ref b] below meth c H locs cells slots Qf (F0 m 612 ls []) := by
  have hx := C0.1
  have hb := C0.2.1
  refine lv_aload_n hx hb dL_law_612 rfl (lv_at hl 1 rfl) ?_
  refine law_arg (k := 1) C0 hS hl dL_law_613 dL_law_614 dL_law_615 dL_law_616 dL_law_617 rfl (by omega) hL ?_
  refine law_V (r1 := mX9_fault) (o := 0) (As := [ai (xs (i + 1))]) (rest := []) C0 hK hW hS hl.1 dL_law_618 ll_89 vX9_fault rfl ⟨_, _, rfl⟩ (Nat.le_of_ble_eq_true rfl) (Nat.le_of_ble_eq_true rfl) (Nat.zero_le _) (hOp σ hI) hcs hss ?_
  rintro w σ1 H1 locs1 ⟨v, rfl, hc2⟩ hW hS
  refine lv_aload_n hx hb dL_law_621 rfl (lv_at hl 2 rfl) ?_
  refine law_arg (k := 1) C0 hS hl dL_law_622 dL_law_623 dL_law_624 dL_law_625 dL_law_626 rfl (by omega) hL ?_
  refine law_V (r1 := mX10_fault) (o := 79) (As := [ai (xs (i + 1))]) (rest := [.int v]) C0 hK hW hS hl.1 dL_law_627 ll_92 vX10_fault rfl ⟨_, _, rfl⟩ (Nat.le_of_ble_eq_true rfl) (Nat.le_of_ble_eq_true rfl) (by simp [Value.category]) hc2 hcs hss ?_
  rintro w σ2 H2 locs2 ⟨rfl, hI2⟩ hW hS
  refine lv_icmp_eq (tgt := 648) hx hb dL_law_630 (by decide) (fun _ => ?_) (fun q => absurd rfl q)
  exact kk σ2 H2 locs2 hI2 hW hS
theorem ll_93 : Cond.methodLink R_law 93 yX9_play ∈ lw_tbl := by decide +kernel
theorem ll_96 : Cond.methodLink R_law 96 yX10_play ∈ lw_tbl := by decide +kernel
set_option maxRecDepth 20000 in
set_option maxHeartbeats 4000000 in
theorem law_19 {p : Program} {l : Launch} {e : Env} {s : State} {m : MethodId} {below : List Frame} {meth : Method} {c : Code} {b L : Nat} {xs : Nat → Int32} {G : aG} {H : Heap} {locs : List Loc} {cells slots : Nat} {Qf : State → Prop} {ls : Array Slot} {i : Nat} {σ : Sg} {Inv : Sg → Prop} (C0 : lw_At p s m meth c b L xs) (hK : KK G s) (hI : Inv σ) (hOp : OpOK Inv mX9_play mX10_play []) (hW : Wd G s.heap.size (mem σ) H) (hS : va_S (fun q => s.heap.size ≤ q) s.heap H locs) (hl : lv_has ls 4 [(0, .ref b), (1, .ref (s.heap.size + 0)), (2, .ref (s.heap.size + 79)), (3, .int (nI i))]) (hi : i + 4 ≤ L) (hL : L ≤ 2048) (hcs : cells ≤ 600000) (hss : slots ≤ 7302250) (kk : ∀ σ2 H2 locs2, Inv σ2 → Wd G s.heap.size (mem σ2) H2 → va_S (fun q => s.heap.size ≤ q) s.heap H2 locs2 → W p l e room_1 s m #[Value.ref b] below meth c H2 locs2 cells slots Qf (F0 m 648 ls [])) : W p l e room_1 s m #[Value.ref b] below meth c H locs cells slots Qf (F0 m 635 ls []) := by
  have hx := C0.1
  have hb := C0.2.1
  refine lv_aload_n hx hb dL_law_635 rfl (lv_at hl 1 rfl) ?_
  refine law_V (r1 := mX9_play) (o := 0) (As := []) (rest := []) C0 hK hW hS hl.1 dL_law_636 ll_93 vX9_play rfl ⟨_, _, rfl⟩ (Nat.le_of_ble_eq_true rfl) (Nat.le_of_ble_eq_true rfl) (Nat.zero_le _) (hOp σ hI) hcs hss ?_
  rintro w σ1 H1 locs1 ⟨v, rfl, hc2⟩ hW hS
  refine lv_aload_n hx hb dL_law_639 rfl (lv_at hl 2 rfl) ?_
  refine law_V (r1 := mX10_play) (o := 79) (As := []) (rest := [.int v]) C0 hK hW hS hl.1 dL_law_640 ll_96 vX10_play rfl ⟨_, _, rfl⟩ (Nat.le_of_ble_eq_true rfl) (Nat.le_of_ble_eq_true rfl) (by simp [Value.category]) hc2 hcs hss ?_
  rintro w σ2 H2 locs2 ⟨rfl, hI2⟩ hW hS
  refine lv_icmp_eq (tgt := 648) hx hb dL_law_643 (by decide) (fun _ => ?_) (fun q => absurd rfl q)
  exact kk σ2 H2 locs2 hI2 hW hS
set_option maxRecDepth 20000 in
set_option maxHeartbeats 4000000 in
theorem law_loop {p : Program} {l : Launch} {e : Env} {s : State} {m : MethodId} {below : List Frame} {meth : Method} {c : Code} {b L : Nat} {xs : Nat → Int32} {G : aG} {Inv : Sg → Prop} (hAll : AllOps Inv) (hL : L ≤ 2048) (C0 : lw_At p s m meth c b L xs) (hK : KK G s) : ∀ (n i : Nat), i ≤ L + 4 → L + 1 ≤ i + n → ∀ (σ : Sg) (H : Heap) (locs : List Loc) (ls : Array Slot), Inv σ → Wd G s.heap.size (mem σ) H → va_S (fun q => s.heap.size ≤ q) s.heap H locs → lv_has ls 4 [(0, .ref b), (1, .ref (s.heap.size + 0)), (2, .ref (s.heap.size + 79)), (3, .int (nI i))] → W p l e room_1 s m #[Value.ref b] below meth c H locs 600000 7302250 (lw_Z below #[Value.ref b] s) (F0 m 18 ls []) := by
  obtain ⟨hx, hb, hr, hml, hown, hts, hX, hbl, hlocks, hgv⟩ := id C0
  have exitW : ∀ (H : Heap) (locs : List Loc) (ls : Array Slot), va_S (fun q => s.heap.size ≤ q) s.heap H locs → W p l e room_1 s m #[Value.ref b] below meth c H locs 600000 7302250 (lw_Z below #[Value.ref b] s) (F0 m 654 ls []) := by
    intro H locs ls hS
    refine lv_iconst (v := 1) hx hb dL_law_654 (by decide) ?_
    refine va_forget (fun q hq => hS.2.2 q hq) ?_
    exact lw_ret hx hb hr hlocks dL_law_655
  intro n
  induction n with
  | zero =>
    intro i h1 h2 σ H locs ls hI hW hS hl
    refine lv_iload_n hx hb dL_law_18 rfl (lv_at hl 3 rfl) ?_
    refine lv_aload_n hx hb dL_law_19 rfl (lv_at hl 0 rfl) ?_
    refine va_slen hx hb hX hbl (Nat.not_le.mpr hbl) hS dL_law_20 ?_
    refine lv_iconst (v := nI 4) hx hb dL_law_21 rfl ?_
    refine lv_isub hx hb dL_law_22 ?_
    refine lv_icmp_gt (tgt := 654) hx hb dL_law_23 (by decide) (fun _ => exitW _ _ _ hS) (fun q => absurd ?_ q)
    rw [Int32.lt_iff_toInt_lt]
    have e1 := pk_sub_toInt (a := L) (b := 4) (by omega) (by omega)
    have e2 := nI_toInt (n := i) (by omega)
    show (nI L - nI 4).toInt < (nI i).toInt
    rw [e1, e2]
    omega
  | succ n ih =>
    intro i h1 h2 σ H locs ls hI hW hS hl
    refine lv_iload_n hx hb dL_law_18 rfl (lv_at hl 3 rfl) ?_
    refine lv_aload_n hx hb dL_law_19 rfl (lv_at hl 0 rfl) ?_
    refine va_slen hx hb hX hbl (Nat.not_le.mpr hbl) hS dL_law_20 ?_
    refine lv_iconst (v := nI 4) hx hb dL_law_21 rfl ?_
    refine lv_isub hx hb dL_law_22 ?_
    refine lv_icmp_gt (tgt := 654) hx hb dL_law_23 (by decide) (fun _ => exitW _ _ _ hS) (fun q => ?_)
    have hi : i + 4 ≤ L := by
      rw [Int32.lt_iff_toInt_lt] at q
      have e1 := pk_sub_toInt (a := L) (b := 4) (by omega) (by omega)
      have e2 := nI_toInt (n := i) (by omega)
      have q2 : ¬ (nI L - nI 4).toInt < (nI i).toInt := q
      rw [e1, e2] at q2
      omega
    refine lv_aload_n hx hb dL_law_26 rfl (lv_at hl 0 rfl) ?_
    refine lv_iload_n hx hb dL_law_27 rfl (lv_at hl 3 rfl) ?_
    refine va_sld hx hb hX hbl (Nat.not_le.mpr hbl) hS (vp_in_nI (show i < L by omega) (by omega)) dL_law_28 ?_
    refine lv_bipush (v := 31) hx hb dL_law_29 (by decide) ?_
    refine lv_iand hx hb dL_law_31 ?_
    obtain ⟨j, hj, ej⟩ := pk_andE (xs (nI i).toNatClampNeg) (m := 31) 5 (by decide)
    rw [ej]
    have back : ∀ σ2 H2 locs2, Inv σ2 → Wd G s.heap.size (mem σ2) H2 → va_S (fun q => s.heap.size ≤ q) s.heap H2 locs2 → W p l e room_1 s m #[Value.ref b] below meth c H2 locs2 600000 7302250 (lw_Z below #[Value.ref b] s) (F0 m 648 ls []) := by
      intro σ2 H2 locs2 hI2 hW2 hS2
      refine lv_iinc (v := nI (i + 4)) (lv' := [(3, .int (nI (i + 4))), (0, .ref b), (1, .ref (s.heap.size + 0)), (2, .ref (s.heap.size + 79))]) hx hb dL_law_648 hl (k := 3) rfl (nI_add i 4) (by decide) rfl (fun ls2 hl2 => ?_)
      refine lv_goto (tgt := 18) hx hb dL_law_651 (by decide) ?_
      exact ih (i + 4) (by omega) (by omega) σ2 H2 locs2 ls2 hI2 hW2 hS2 (lv_sub hl2 [1, 2, 3, 0] rfl)
    by_cases h20 : j < 20
    · match j, h20 with
      | 0, _ =>
        refine lv_tableIn (off := 96) (tgt := 128) hx hb dL_law_32 (by decide) (by decide) (by decide +kernel) (by decide) ?_
        exact law_0 C0 hK hI (hAll.1 _ _) hW hS hl hi hL (Nat.le_refl _) (Nat.le_refl _) back
      | 1, _ =>
        refine lv_tableIn (off := 129) (tgt := 161) hx hb dL_law_32 (by decide) (by decide) (by decide +kernel) (by decide) ?_
        exact law_1 C0 hK hI (hAll.2.1 _ _) hW hS hl hi hL (Nat.le_refl _) (Nat.le_refl _) back
      | 2, _ =>
        refine lv_tableIn (off := 162) (tgt := 194) hx hb dL_law_32 (by decide) (by decide) (by decide +kernel) (by decide) ?_
        exact law_2 C0 hK hI (hAll.2.2.1 _) hW hS hl hi hL (Nat.le_refl _) (Nat.le_refl _) back
      | 3, _ =>
        refine lv_tableIn (off := 185) (tgt := 217) hx hb dL_law_32 (by decide) (by decide) (by decide +kernel) (by decide) ?_
        exact law_3 C0 hK hI (hAll.2.2.2.1 ()) hW hS hl hi hL (Nat.le_refl _) (Nat.le_refl _) back
      | 4, _ =>
        refine lv_tableIn (off := 198) (tgt := 230) hx hb dL_law_32 (by decide) (by decide) (by decide +kernel) (by decide) ?_
        exact law_4 C0 hK hI (hAll.2.2.2.2.1 _) hW hS hl hi hL (Nat.le_refl _) (Nat.le_refl _) back
      | 5, _ =>
        refine lv_tableIn (off := 221) (tgt := 253) hx hb dL_law_32 (by decide) (by decide) (by decide +kernel) (by decide) ?_
        exact law_5 C0 hK hI (hAll.2.2.2.2.2.1 _) hW hS hl hi hL (Nat.le_refl _) (Nat.le_refl _) back
      | 6, _ =>
        refine lv_tableIn (off := 244) (tgt := 276) hx hb dL_law_32 (by decide) (by decide) (by decide +kernel) (by decide) ?_
        exact law_6 C0 hK hI (hAll.2.2.2.2.2.2.1 _ _) hW hS hl hi hL (Nat.le_refl _) (Nat.le_refl _) back
      | 7, _ =>
        refine lv_tableIn (off := 277) (tgt := 309) hx hb dL_law_32 (by decide) (by decide) (by decide +kernel) (by decide) ?_
        exact law_7 C0 hK hI (hAll.2.2.2.2.2.2.2.1 _ _) hW hS hl hi hL (Nat.le_refl _) (Nat.le_refl _) back
      | 8, _ =>
        refine lv_tableIn (off := 310) (tgt := 342) hx hb dL_law_32 (by decide) (by decide) (by decide +kernel) (by decide) ?_
        exact law_8 C0 hK hI (hAll.2.2.2.2.2.2.2.2.1 _ _) hW hS hl hi hL (Nat.le_refl _) (Nat.le_refl _) back
      | 9, _ =>
        refine lv_tableIn (off := 343) (tgt := 375) hx hb dL_law_32 (by decide) (by decide) (by decide +kernel) (by decide) ?_
        exact law_9 C0 hK hI (hAll.2.2.2.2.2.2.2.2.2.1 _ _ _) hW hS hl hi hL (Nat.le_refl _) (Nat.le_refl _) back
      | 10, _ =>
        refine lv_tableIn (off := 386) (tgt := 418) hx hb dL_law_32 (by decide) (by decide) (by decide +kernel) (by decide) ?_
        exact law_10 C0 hK hI (hAll.2.2.2.2.2.2.2.2.2.2.1 _ _ _) hW hS hl hi hL (Nat.le_refl _) (Nat.le_refl _) back
      | 11, _ =>
        refine lv_tableIn (off := 429) (tgt := 461) hx hb dL_law_32 (by decide) (by decide) (by decide +kernel) (by decide) ?_
        exact law_11 C0 hK hI (hAll.2.2.2.2.2.2.2.2.2.2.2.1 _ _) hW hS hl hi hL (Nat.le_refl _) (Nat.le_refl _) back
      | 12, _ =>
        refine lv_tableIn (off := 462) (tgt := 494) hx hb dL_law_32 (by decide) (by decide) (by decide +kernel) (by decide) ?_
        exact law_12 C0 hK hI (hAll.2.2.2.2.2.2.2.2.2.2.2.2.1 _) hW hS hl hi hL (Nat.le_refl _) (Nat.le_refl _) back
      | 13, _ =>
        refine lv_tableIn (off := 485) (tgt := 517) hx hb dL_law_32 (by decide) (by decide) (by decide +kernel) (by decide) ?_
        exact law_13 C0 hK hI (hAll.2.2.2.2.2.2.2.2.2.2.2.2.2.1 _) hW hS hl hi hL (Nat.le_refl _) (Nat.le_refl _) back
      | 14, _ =>
        refine lv_tableIn (off := 508) (tgt := 540) hx hb dL_law_32 (by decide) (by decide) (by decide +kernel) (by decide) ?_
        exact law_14 C0 hK hI (hAll.2.2.2.2.2.2.2.2.2.2.2.2.2.2.1 _) hW hS hl hi hL (Nat.le_refl _) (Nat.le_refl _) back
      | 15, _ =>
        refine lv_tableIn (off := 531) (tgt := 563) hx hb dL_law_32 (by decide) (by decide) (by decide +kernel) (by decide) ?_
        exact law_15 C0 hK hI (hAll.2.2.2.2.2.2.2.2.2.2.2.2.2.2.2.1 ()) hW hS hl hi hL (Nat.le_refl _) (Nat.le_refl _) back
      | 16, _ =>
        refine lv_tableIn (off := 544) (tgt := 576) hx hb dL_law_32 (by decide) (by decide) (by decide +kernel) (by decide) ?_
        exact law_16 C0 hK hI (hAll.2.2.2.2.2.2.2.2.2.2.2.2.2.2.2.2.1 _) hW hS hl hi hL (Nat.le_refl _) (Nat.le_refl _) back
      | 17, _ =>
        refine lv_tableIn (off := 567) (tgt := 599) hx hb dL_law_32 (by decide) (by decide) (by decide +kernel) (by decide) ?_
        exact law_17 C0 hK hI (hAll.2.2.2.2.2.2.2.2.2.2.2.2.2.2.2.2.2.1 ()) hW hS hl hi hL (Nat.le_refl _) (Nat.le_refl _) back
      | 18, _ =>
        refine lv_tableIn (off := 580) (tgt := 612) hx hb dL_law_32 (by decide) (by decide) (by decide +kernel) (by decide) ?_
        exact law_18 C0 hK hI (hAll.2.2.2.2.2.2.2.2.2.2.2.2.2.2.2.2.2.2.1 _) hW hS hl hi hL (Nat.le_refl _) (Nat.le_refl _) back
      | 19, _ =>
        refine lv_tableIn (off := 603) (tgt := 635) hx hb dL_law_32 (by decide) (by decide) (by decide +kernel) (by decide) ?_
        exact law_19 C0 hK hI (hAll.2.2.2.2.2.2.2.2.2.2.2.2.2.2.2.2.2.2.2 ()) hW hS hl hi hL (Nat.le_refl _) (Nat.le_refl _) back
      | j + 20, h => exact absurd h (by omega)
    · refine lv_tableOut (tgt := 648) hx hb dL_law_32 (Or.inr ?_) (by decide) ?_
      · rw [nI_toInt (by omega)]; omega
      · exact back σ H locs hI hW hS
theorem nest_in : ∀ q ∈ nestL, nestW q ∈ lw_tbl := by decide +kernel
theorem over_in : Cond.arrayOver (.object RX8) ∈ lw_tbl := by decide +kernel
theorem ll_new9 : Cond.classLink R_law 7 RX9 ∈ lw_tbl := by decide +kernel
theorem ll_new10 : Cond.classLink R_law 10 RX10 ∈ lw_tbl := by decide +kernel
theorem ll_i9 : Cond.methodLink R_law 9 yX9_init ∈ lw_tbl := by decide +kernel
theorem ll_i10 : Cond.methodLink R_law 12 yX10_init ∈ lw_tbl := by decide +kernel
set_option maxRecDepth 20000 in
set_option maxHeartbeats 4000000 in
theorem law_known {s : State} {b : Nat} (hts : ∀ w ∈ lw_tbl, w.before #[Value.ref b] s = true) : ∃ G : aG, KK G s := by
  obtain ⟨c0, iS0, hKn0⟩ := u_known (C := RX0) (T := TX0) (N := 4) (n := 4) hts (fun w h => Wl_tbl w (wlX0 w h)) (hts (.instantiable RX0 4) (Wl_tbl _ eX0))
  obtain ⟨c1, iS1, hKn1⟩ := u_known (C := RX1) (T := TX1) (N := 5) (n := 5) hts (fun w h => Wl_tbl w (wlX1 w h)) (hts (.instantiable RX1 5) (Wl_tbl _ eX1))
  obtain ⟨c2, iS2, hKn2⟩ := u_known (C := RX2) (T := TX2) (N := 3) (n := 3) hts (fun w h => Wl_tbl w (wlX2 w h)) (hts (.instantiable RX2 3) (Wl_tbl _ eX2))
  obtain ⟨c3, iS3, hKn3⟩ := u_known (C := RX3) (T := TX3) (N := 6) (n := 6) hts (fun w h => Wl_tbl w (wlX3 w h)) (hts (.instantiable RX3 6) (Wl_tbl _ eX3))
  obtain ⟨c4, iS4, hKn4⟩ := u_known (C := RX4) (T := TX4) (N := 8) (n := 8) hts (fun w h => Wl_tbl w (wlX4 w h)) (hts (.instantiable RX4 8) (Wl_tbl _ eX4))
  obtain ⟨c5, iS5, hKn5⟩ := u_known (C := RX5) (T := TX5) (N := 4) (n := 4) hts (fun w h => Wl_tbl w (wlX5 w h)) (hts (.instantiable RX5 4) (Wl_tbl _ eX5))
  obtain ⟨c6, iS6, hKn6⟩ := u_known (C := RX6) (T := TX6) (N := 9) (n := 9) hts (fun w h => Wl_tbl w (wlX6 w h)) (hts (.instantiable RX6 9) (Wl_tbl _ eX6))
  obtain ⟨c7, iS7, hKn7⟩ := u_known (C := RX7) (T := TX7) (N := 1) (n := 1) hts (fun w h => Wl_tbl w (wlX7 w h)) (hts (.instantiable RX7 1) (Wl_tbl _ eX7))
  obtain ⟨c8, iS8, hKn8⟩ := u_known (C := RX8) (T := TX8) (N := 6) (n := 6) hts (fun w h => Wl_tbl w (wlX8 w h)) (hts (.instantiable RX8 6) (Wl_tbl _ eX8))
  obtain ⟨c9, iS9, hKn9⟩ := u_known (C := RX9) (T := TX9) (N := 7) (n := 7) hts (fun w h => Wl_tbl w (wlX9 w h)) (hts (.instantiable RX9 7) (Wl_tbl _ eX9))
  obtain ⟨c10, iS10, hKn10⟩ := u_known (C := RX10) (T := TX10) (N := 25) (n := 25) hts (fun w h => Wl_tbl w (wlX10 w h)) (hts (.instantiable RX10 25) (Wl_tbl _ eX10))
  obtain ⟨cI, kI, compI, i1, i2, i3⟩ := Cond.arrayClass_spec (hts _ (Wl_tbl _ arrI))
  obtain ⟨comp, cT, kT, t1, t2, t3, t4, t5⟩ := Cond.arrayOver_spec (hts _ over_in)
  refine ⟨(fun k => match k with | 0 => c0 | 1 => c1 | 2 => c2 | 3 => c3 | 4 => c4 | 5 => c5 | 6 => c6 | 7 => c7 | 8 => c8 | 9 => c9 | _ => c10, fun k => match k with | 0 => iS0 | 1 => iS1 | 2 => iS2 | 3 => iS3 | 4 => iS4 | 5 => iS5 | 6 => iS6 | 7 => iS7 | 8 => iS8 | 9 => iS9 | _ => iS10, cI, cT), ⟨fun k q hq => ?_, fun k q hq => ?_⟩, va_AO.of (hts _ over_in), fun q hq => va_Nw.of rfl (hts _ (nest_in q hq))⟩
  · match k, hq with
    | 0, hq => cases hq; exact hKn0
    | 1, hq => cases hq; exact hKn1
    | 2, hq => cases hq; exact hKn2
    | 3, hq => cases hq; exact hKn3
    | 4, hq => cases hq; exact hKn4
    | 5, hq => cases hq; exact hKn5
    | 6, hq => cases hq; exact hKn6
    | 7, hq => cases hq; exact hKn7
    | 8, hq => cases hq; exact hKn8
    | 9, hq => cases hq; exact hKn9
    | 10, hq => cases hq; exact hKn10
    | k + 11, hq => simp [vwCl] at hq
  · match k, hq with
    | 0, hq => cases hq; exact ⟨fun n z => ⟨fun k h => (by cases h), kI, i2, compI, i3⟩, i1⟩
    | 1, hq => cases hq; exact ⟨fun n z => ⟨fun k h => (by cases h), kT, t3, comp, t4⟩, kT, comp, t3, t4, t1, t5⟩
    | k + 2, hq => simp at hq
set_option maxRecDepth 20000 in
set_option maxHeartbeats 4000000 in
theorem whole_of {p : Program} {e : Env} {s : State} {m : MethodId} {below : List Frame} {meth : Method} {c : Code} (l : Launch) {b L : Nat} {xs : Nat → Int32} {Inv : Sg → Prop} (hAll : AllOps Inv) (h00 : Inv σ00) (hL : L ≤ 2048) (C0 : lw_At p s m meth c b L xs) : W p l e room_1 s m #[Value.ref b] below meth c s.heap [] 0 0 (lw_Z below #[Value.ref b] s) (entryFrame m ([Value.ref b] : List Value).toArray 4) := by
  obtain ⟨hx, hb, hr, hml, hown, hts, hX, hbl, hlocks, hgv⟩ := id C0
  obtain ⟨G, hK⟩ := law_known hts
  have hS : va_S (fun q : Nat => s.heap.size ≤ q) s.heap s.heap [] := va_S.rf
  have hW : Wd G s.heap.size [] s.heap := ⟨rfl, fun k q h => by simp [wsOf] at h⟩
  have hl := lv_entry ([.ref b]) (n := 4) (Nat.le_of_ble_eq_true rfl)
  rw [lg_entry_eq]
  generalize (lg_sl ([.ref b]) ++ List.replicate (4 - (lg_sl ([.ref b])).length) Slot.unset).toArray = ls at hl ⊢
  have hl : lv_has ls 4 [(0, .ref b)] := hl
  refine law_new (h := []) (ci := 9) (fs := [an, an, an, an, an, an, an]) C0 hK hW hS dL_law_0 rfl ll_new9 eX9 jX9 rfl dvX9 (Nat.le_of_ble_eq_true rfl) (Nat.le_of_ble_eq_true rfl) (fun H hW hS => ?_)
  refine lv_dup hx hb dL_law_3 rfl ?_
  refine law_I (h := []) C0 hK hW hS hl.1 dL_law_4 ll_i9 vX9_init (Nat.le_of_ble_eq_true rfl) (Nat.le_of_ble_eq_true rfl) (Nat.le_of_ble_eq_true rfl) ct_X9 (Nat.le_of_ble_eq_true rfl) (Nat.le_of_ble_eq_true rfl) (fun H locs hW hS => ?_)
  refine lv_astore_n (lv' := [(1, .ref (s.heap.size + 0)), (0, .ref b)]) hx hb dL_law_7 rfl hl (by decide) rfl (fun ls hl => ?_)
  refine law_new (h := chk_X9 0) (ci := 10) (fs := [an, an, an, ai 0, an, ai 0, an, an, an, an, an, ai 0, ai 0, an, an, an, an, an, an, an, an, ai 0, ai 0, ai 0, ai 0]) C0 hK hW hS dL_law_8 rfl ll_new10 eX10 jX10 rfl dvX10 (Nat.le_of_ble_eq_true rfl) (Nat.le_of_ble_eq_true rfl) (fun H hW hS => ?_)
  refine lv_dup hx hb dL_law_11 rfl ?_
  refine law_I (h := chk_X9 0) C0 hK hW hS hl.1 dL_law_12 ll_i10 vX10_init (Nat.le_of_ble_eq_true rfl) (Nat.le_of_ble_eq_true rfl) (Nat.le_of_ble_eq_true rfl) ct_X10 (Nat.le_of_ble_eq_true rfl) (Nat.le_of_ble_eq_true rfl) (fun H locs hW hS => ?_)
  refine lv_astore_n (lv' := [(2, .ref (s.heap.size + 79)), (1, .ref (s.heap.size + 0)), (0, .ref b)]) hx hb dL_law_15 rfl hl (by decide) rfl (fun ls hl => ?_)
  refine lv_iconst (v := nI 0) hx hb dL_law_16 rfl ?_
  refine lv_istore_n (lv' := [(3, .int (nI 0)), (2, .ref (s.heap.size + 79)), (1, .ref (s.heap.size + 0)), (0, .ref b)]) hx hb dL_law_17 rfl hl (by decide) rfl (fun ls hl => ?_)
  have hW0 : Wd G s.heap.size (mem σ00) H := by
    rw [← mem00]
    exact hW
  refine W.widen (k := 600000) (n := 7302250) (Nat.le_of_ble_eq_true rfl) (Nat.le_of_ble_eq_true rfl) ?_
  exact law_loop hAll hL C0 hK (L + 1) 0 (by omega) (by omega) σ00 H locs ls h00 hW0 hS (lv_sub hl [3, 2, 1, 0] rfl)
