/-! THE LAW: out of the script, the abstract set is the machine -/
/-! THE CLAIM OUT OF ONE WALK OF THE LAW'S BODY. Your part is whole_start (and what it stands on); all else here is the same for every law, but numbers. -/
def R_law : String := "BellWordsLaw"
def lw_P (b : Addr) (xs : List Int32) (args : Array Value) (s : State) : Prop := args = #[.ref b] ∧ s.IntsAt b xs ∧ xs.length ≤ 260 ∧ (Jvm.Cond.and given_1 narrow_1).before args s = true
def lw_Q (_ : Array Value) (s : State) (o : Outcome) (t : State) : Prop := o = .returned (some (.int 1)) ∧ Framed s o t [] 600000 7302250
def lw_Z (below : List Frame) (a : Array Value) (s : State) : State → Prop := fun t => ∃ o, t.status = .running ∧ Ended t below o ∧ lw_Q a s o t
/-- the law's own end, with 1 on the stack, nothing written that was there before, its room as the claim has it -/
theorem lw_ret {p : Program} {l : Launch} {e : Env} {s : State} {m : MethodId} {below : List Frame} {meth : Method} {c : Code} {b : Nat} (hx : p.tables.exec = Jvm.exec) (hb : c.code = code) (hr : meth.sig.returnType = ret) (hlocks : meth.locks = false) {pc : Nat} {H : Heap} {ls : Array Slot} (hdg : decode code pc = .ok (.ireturn, 1)) : W p l e room_1 s m #[Value.ref b] below meth c H [] 600000 7302250 (lw_Z below #[Value.ref b] s) (F0 m pc ls [.int 1]) := by
  intro T hT X
  obtain ⟨fs, hret, hrun, hended, hW, hframe⟩ := X.leave (v := some (.int 1)) (hlocks := hlocks) (fun h => by rw [hr] at h; cases h)
  have hmeth' : T.vm.method? m = some meth := X.method'
  refine ⟨T.setFrames fs, ?_, .returned (some (.int 1)), hrun, hended, rfl, ⟨_, rfl⟩, hW, hframe⟩
  jvm_step X.here [X.here.top, hx, hb, hdg, hmeth', hr, ret, narrow_b1]
  (try refine ⟨rfl, ?_⟩); (try refine ⟨rfl, ?_⟩)
  first | (intro acts; rw [hret _ acts rfl rfl rfl]) | rw [hret _ _ rfl rfl rfl]
  exact Steps.refl _
/-- what holds at the law's entry: the machine, the code, the tables' words (any of lw_tbl by 'hts w (by decide +kernel)'), the script of L ints xs at the cell b, what the Statement gives of the start (any of its parts by flat_of_before) -/
def lw_At (p : Program) (s : State) (m : MethodId) (meth : Method) (c : Code) (b L : Nat) (xs : Nat → Int32) : Prop :=
  p.tables.exec = Jvm.exec ∧ c.code = code ∧ meth.sig.returnType = ret ∧ c.maxLocals = 9 ∧ s.vm.findClass R_law = some m.cls ∧ (∀ w ∈ lw_tbl, w.before #[Value.ref b] s = true) ∧ va_X b L xs s s.heap ∧ b < s.heap.size ∧ meth.locks = false ∧ (Jvm.Cond.and given_1 narrow_1).before #[Value.ref b] s = true

theorem nest_in : ∀ q ∈ nestL, nestW q ∈ lw_tbl := by decide +kernel
theorem over_in : Cond.arrayOver (.object RX8) ∈ lw_tbl := by decide +kernel
set_option maxRecDepth 20000 in
set_option maxHeartbeats 4000000 in
theorem law_known {s : State} {b : Nat} (hts : ∀ w ∈ lw_tbl, w.before #[Value.ref b] s = true) : ∃ G : aG, KK G s := by
  obtain ⟨c0, iS0, hKn0⟩ := u_known (C := RX0) (T := TX0) (N := 4) (n := 4) hts (fun w h => Wl_tbl w (wlX0 w h)) (hts (.instantiable RX0 4) (Wl_tbl _ eX0))
  obtain ⟨c1, iS1, hKn1⟩ := u_known (C := RX1) (T := TX1) (N := 5) (n := 5) hts (fun w h => Wl_tbl w (wlX1 w h)) (hts (.instantiable RX1 5) (Wl_tbl _ eX1))
  obtain ⟨c2, iS2, hKn2⟩ := u_known (C := RX2) (T := TX2) (N := 3) (n := 3) hts (fun w h => Wl_tbl w (wlX2 w h)) (hts (.instantiable RX2 3) (Wl_tbl _ eX2))
  obtain ⟨c3, iS3, hKn3⟩ := u_known (C := RX3) (T := TX3) (N := 6) (n := 6) hts (fun w h => Wl_tbl w (wlX3 w h)) (hts (.instantiable RX3 6) (Wl_tbl _ eX3))
  obtain ⟨c4, iS4, hKn4⟩ := u_known (C := RX4) (T := TX4) (N := 8) (n := 8) hts (fun w h => Wl_tbl w (wlX4 w h)) (hts (.instantiable RX4 8) (Wl_tbl _ eX4))
  obtain ⟨c5, iS5, hKn5⟩ := u_known (C := RX5) (T := TX5) (N := 4) (n := 4) hts (fun w h => Wl_tbl w (wlX5 w h)) (hts (.instantiable RX5 4) (Wl_tbl _ eX5))
  obtain ⟨c6, iS6, hKn6⟩ := u_known (C := RX6) (T := TX6) (N := 9) (n := 9) hts (fun w h => Wl_tbl w (wlX6 w h)) (hts (.instantiable RX6 9) (Wl_tbl _ eX6))
  obtain ⟨c7, iS7, hKn7⟩ := u_known (C := RX7) (T := TX7) (N := 1) (n := 1) hts (fun w h => Wl_tbl w (wlX7 w h)) (hts (.instantiable RX7 1) (Wl_tbl _ eX7))
  obtain ⟨c8, iS8, hKn8⟩ := u_known (C := RX8) (T := TX8) (N := 6) (n := 6) hts (fun w h => Wl_tbl w (wlX8 w h)) (hts (.instantiable RX8 6) (Wl_tbl _ eX8))
  obtain ⟨c9, iS9, hKn9⟩ := u_known (C := RX9) (T := TX9) (N := 7) (n := 7) hts (fun w h => Wl_tbl w (wlX9 w h)) (hts (.instantiable RX9 7) (Wl_tbl _ eX9))
  obtain ⟨cI, kI, compI, i1, i2, i3⟩ := Cond.arrayClass_spec (hts _ (Wl_tbl _ arrI))
  obtain ⟨comp, cT, kT, t1, t2, t3, t4, t5⟩ := Cond.arrayOver_spec (hts _ over_in)
  refine ⟨(fun k => match k with | 0 => c0 | 1 => c1 | 2 => c2 | 3 => c3 | 4 => c4 | 5 => c5 | 6 => c6 | 7 => c7 | 8 => c8 | _ => c9, fun k => match k with | 0 => iS0 | 1 => iS1 | 2 => iS2 | 3 => iS3 | 4 => iS4 | 5 => iS5 | 6 => iS6 | 7 => iS7 | 8 => iS8 | _ => iS9, cI, cT), ⟨fun k q hq => ?_, fun k q hq => ?_⟩, va_AO.of (hts _ over_in), fun q hq => va_Nw.of rfl (hts _ (nest_in q hq))⟩
  · match k, hq with
    | 0, hq => cases hq; exact hKn0
    | 1, hq => cases hq; exact hKn1
    | 2, hq => cases hq; exact hKn2
    | 3, hq => cases hq; exact hKn3
    | 4, hq => cases hq; exact hKn4
    | 5, hq => cases hq; exact hKn5
    | 6, hq => cases hq; exact hKn6
    | 7, hq => cases hq; exact hKn7
    | 8, hq => cases hq; exact hKn8
    | 9, hq => cases hq; exact hKn9
    | k + 10, hq => simp [vwCl] at hq
  · match k, hq with
    | 0, hq => cases hq; exact ⟨fun n z => ⟨fun k h => (by cases h), kI, i2, compI, i3⟩, i1⟩
    | 1, hq => cases hq; exact ⟨fun n z => ⟨fun k h => (by cases h), kT, t3, comp, t4⟩, kT, comp, t3, t4, t1, t5⟩
    | k + 2, hq => simp at hq
set_option maxRecDepth 20000 in
set_option maxHeartbeats 4000000 in
theorem cell_met {l : Launch} {b L n : Nat} {xs : Nat → Int32} {free : Addr → Prop} (hn : n < 1000) (hL : L ≤ 260) : Met l yL_cell (wm mL_cell) (rmOf mL_cell 0 0) (fun v U => v = ([.ref b, .int (nI n)] : List Value).toArray ∧ va_X b L xs U U.heap ∧ b < U.heap.size) QcAny 0 0 free := by
  refine Met.ofW (cc := cL_cell) (maxL := 2) (ret := some .int) (by decide +kernel) rfl ?_
  intro p e s m args below meth c s₁ B hml hv
  obtain ⟨rfl, hX, hbl⟩ := hv
  have hx := B.exec
  have hb := B.bytes
  have hr := B.returns
  have hown : s.vm.findClass RL = some m.cls := findClass_of_methodNamed B.named
  have hts := atoms_spec (ws := wm mL_cell) B.pre
  have hlocks := B.notSynchronized
  have hS : va_S (fun q : Nat => s.heap.size ≤ q) s.heap s.heap [] := va_S.rf
  have hl := lv_entry ([.ref b, .int (nI n)]) (n := 2) (Nat.le_of_ble_eq_true rfl)
  rw [lg_entry_eq]
  generalize (lg_sl ([.ref b, .int (nI n)]) ++ List.replicate (2 - (lg_sl ([.ref b, .int (nI n)])).length) Slot.unset).toArray = ls at hl ⊢
  have hl : lv_has ls 2 [(0, .ref b), (1, .int (nI n))] := hl
  refine lv_iload_n hx hb dL_cell_0 rfl (lv_at hl 1 rfl) ?_
  refine lv_aload_n hx hb dL_cell_1 rfl (lv_at hl 0 rfl) ?_
  refine va_slen hx hb hX hbl (Nat.not_le.mpr hbl) hS dL_cell_2 ?_
  refine lv_icmp_ge (tgt := 12) hx hb dL_cell_3 (by decide) (fun _ => ?_) (fun q => ?_)
  · refine lv_ldc hx hb hown (hts _ (List.mem_cons_of_mem _ qL_7)) dL_cell_12 ?_
    refine lv_iload_n hx hb dL_cell_14 rfl (lv_at hl 1 rfl) ?_
    refine lv_iconst (v := nI 3) hx hb dL_cell_15 rfl ?_
    refine lv_iadd hx hb dL_cell_16 ?_
    refine lv_imul hx hb dL_cell_17 ?_
    exact W.iret hx hb hr (fun t ht _ => ⟨_, rfl, ht⟩) (fun q hq => by cases hq) dL_cell_18
  · have hlt : n < L := by
      rcases Nat.lt_or_ge n L with h | h
      · exact h
      · exact absurd (nI_le h (by omega)) q
    refine lv_aload_n hx hb dL_cell_6 rfl (lv_at hl 0 rfl) ?_
    refine lv_iload_n hx hb dL_cell_7 rfl (lv_at hl 1 rfl) ?_
    refine va_sld hx hb hX hbl (Nat.not_le.mpr hbl) hS (vp_in_nI hlt (by omega)) dL_cell_8 ?_
    refine lv_goto (tgt := 18) hx hb dL_cell_9 (by decide) ?_
    exact W.iret hx hb hr (fun t ht _ => ⟨_, rfl, ht⟩) (fun q hq => by cases hq) dL_cell_18
set_option maxRecDepth 20000 in
set_option maxHeartbeats 4000000 in
theorem law_cell {p : Program} {l : Launch} {e : Env} {s : State} {m : MethodId} {below : List Frame} {meth : Method} {c : Code} {b L : Nat} {xs : Nat → Int32} {G : aG} {pc n a b1 cells slots : Nat} {ls : List (Option AV)} {st : List AV} {h : AH} {H : Heap} {locs : List Loc} {cls : Array Slot} (C0 : lw_At p s m meth c b L xs) (hK : KK G s) (hL : L ≤ 260) (hn : n < 1000) (d : decode code pc = .ok (.invokestatic 114, 3)) (hW : Wd G s.heap.size h H) (hS : va_S (fun q => s.heap.size ≤ q) s.heap H locs) (hl : LH (some (.ref b)) s.heap.size ls cls 9) (ha : cells + a ≤ 600000) (hbb : slots + b1 ≤ 7302250) (hst : st.length ≤ 8) (kk : ∀ v, SX p l e s m #[Value.ref b] below meth c mL_law G s.heap.size 600000 7302250 (some (.ref b)) (lw_Z below #[Value.ref b] s) (pc + 3) ls (ai v :: st) h a b1) :
    W p l e (rmOf mL_law 600000 7302250) s m #[Value.ref b] below meth c H locs cells slots (lw_Z below #[Value.ref b] s) (F0 m pc cls (.int (nI n) :: .ref b :: st.map (cv s.heap.size))) := by
  obtain ⟨hx, hb, hret, hml, hown, hts, hX, hbl, hlocks, hgv⟩ := C0
  have hts2 : ∀ w ∈ Wl, w.before #[Value.ref b] s = true := fun w hq => hts w (Wl_tbl w hq)
  have hgood : GoodIn lw_tbl (wm mL_cell) := by
    intro w hw
    have hin : w ∈ Wl := by
      rcases List.mem_cons.mp hw with rfl | q
      · exact vL_cell.1.2.1
      · exact q
    exact ⟨Wl_tbl w hin, good_of_word (Wl_good _ hin)⟩
  have hM := cell_met (l := l) (b := b) (L := L) (n := n) (xs := xs) (free := fun q => s.heap.size ≤ q) hn hL
  have cb := callB_of (R := rmOf mL_law 600000 7302250) (own := RL) (index := 114) (y := yL_cell) (bytes := cL_cell) (maxL := 2) (ret := some .int) (mc := 0) (ms := 0) (rm := rmOf mL_cell 0 0) 2 hts hgood rfl rfl rfl (hts2 _ vL_cell.1.1) (hts2 _ lL_114) vL_cell.1.2.2.2.2 ⟨Nat.le_of_ble_eq_true rfl, Nat.le_of_ble_eq_true rfl⟩
  have hXH : va_X b L xs s H := hX.kept (hS.2.1 b hbl (Nat.not_le.mpr hbl))
  have hbH : b < H.size := Nat.lt_of_lt_of_le hbl hS.1
  have hrun := va_runS (e := e) (meth := meth) (below := below) (cells := cells) (slots := slots) (As := [.ref b, .int (nI n)]) (rest := st.map (cv s.heap.size)) (g := F0 m pc cls (.int (nI n) :: .ref b :: st.map (cv s.heap.size))) (locs := locs) ⟨hx, hb, hml, hown, hts⟩ hM ⟨cb, hts2 _ vL_cell.2⟩ ⟨fun a U g mk q => ⟨q.1, va_X.moved (u := U) (U := U.calling g mk a) (Vm.Alike.refl U.vm) q.2.1, q.2.2⟩, fun U hU hw => ⟨rfl, by rw [hU]; exact va_X.moved hw.alike hXH, by rw [hU]; exact hbH⟩⟩ rfl rfl hl.2.1 rfl (by rw [cat_sum]; exact lv_room0 hst) d ⟨by show cells + 0 ≤ 600000; omega, by show slots + 0 ≤ 7302250; omega⟩
  intro T1 hT X
  obtain ⟨v, st₀, t, T', L2, h0, X', hL2, e1, e2, ⟨v', hv, hh⟩, go⟩ := hrun T1 hT X
  cases hv
  have hH : T'.heap = H := by rw [e1, hh, h0]
  have hS1 : va_S (fun q => s.heap.size ≤ q) s.heap T'.heap (locs ++ L2) := by
    rw [hH]
    refine ⟨hS.1, hS.2.1, fun q hq => ?_⟩
    rcases List.mem_append.mp hq with g | g
    · exact hS.2.2 q g
    · exact hL2 q g
  obtain ⟨t2, g1, g2⟩ := kk v' T'.heap (locs ++ L2) (cells + 0) (slots + 0) cls (by rw [hH]; exact hW) hS1 hl (by omega) (by omega) T' rfl X'
  exact ⟨t2, go t2 g1, g2⟩
set_option maxRecDepth 20000 in
set_option maxHeartbeats 4000000 in
theorem law_cell0 {p : Program} {l : Launch} {e : Env} {s : State} {m : MethodId} {below : List Frame} {meth : Method} {c : Code} {b L : Nat} {xs : Nat → Int32} {G : aG} {a b1 : Nat} {ls : List (Option AV)} {st : List AV} {h : AH} (C0 : lw_At p s m meth c b L xs) (hK : KK G s) (hL : L ≤ 260) (hst : st.length ≤ 8) (h0 : ls[0]? = some none) (kk : ∀ v, SX p l e s m #[Value.ref b] below meth c mL_law G s.heap.size 600000 7302250 (some (.ref b)) (lw_Z below #[Value.ref b] s) 72 ls (ai v :: st) h a b1) : SX p l e s m #[Value.ref b] below meth c mL_law G s.heap.size 600000 7302250 (some (.ref b)) (lw_Z below #[Value.ref b] s) 67 ls st h a b1 := by
  intro H locs cells slots cls hW hS hl ha hbb
  have hx := C0.1
  have hb : c.code = cL_law := C0.2.1
  have hw0 := (hl.2.2.2.2 _ rfl).2 h0
  refine lv_aload_n hx hb dL_law_67 rfl hw0 ?_
  refine lv_iconst (v := nI 0) hx hb dL_law_68 rfl ?_
  exact law_cell (n := 0) C0 hK hL (by omega) dL_law_69 hW hS hl ha hbb hst kk
set_option maxRecDepth 20000 in
set_option maxHeartbeats 4000000 in
theorem law_cell2 {p : Program} {l : Launch} {e : Env} {s : State} {m : MethodId} {below : List Frame} {meth : Method} {c : Code} {b L : Nat} {xs : Nat → Int32} {G : aG} {a b1 : Nat} {ls : List (Option AV)} {st : List AV} {h : AH} (C0 : lw_At p s m meth c b L xs) (hK : KK G s) (hL : L ≤ 260) (hst : st.length ≤ 8) (h0 : ls[0]? = some none) (kk : ∀ v, SX p l e s m #[Value.ref b] below meth c mL_law G s.heap.size 600000 7302250 (some (.ref b)) (lw_Z below #[Value.ref b] s) 210 ls (ai v :: st) h a b1) : SX p l e s m #[Value.ref b] below meth c mL_law G s.heap.size 600000 7302250 (some (.ref b)) (lw_Z below #[Value.ref b] s) 205 ls st h a b1 := by
  intro H locs cells slots cls hW hS hl ha hbb
  have hx := C0.1
  have hb : c.code = cL_law := C0.2.1
  have hw0 := (hl.2.2.2.2 _ rfl).2 h0
  refine lv_aload_n hx hb dL_law_205 rfl hw0 ?_
  refine lv_iconst (v := nI 2) hx hb dL_law_206 rfl ?_
  exact law_cell (n := 2) C0 hK hL (by omega) dL_law_207 hW hS hl ha hbb hst kk
set_option maxRecDepth 20000 in
set_option maxHeartbeats 4000000 in
theorem law_cell1 {p : Program} {l : Launch} {e : Env} {s : State} {m : MethodId} {below : List Frame} {meth : Method} {c : Code} {b L : Nat} {xs : Nat → Int32} {G : aG} {a b1 : Nat} {ls : List (Option AV)} {st : List AV} {h : AH} (C0 : lw_At p s m meth c b L xs) (hK : KK G s) (hL : L ≤ 260) (hst : st.length ≤ 8) (h0 : ls[0]? = some none) {k : Nat} (h7 : ls[7]? = some (some (ai (nI k)))) (hk : k < 100) (kk : ∀ v, SX p l e s m #[Value.ref b] below meth c mL_law G s.heap.size 600000 7302250 (some (.ref b)) (lw_Z below #[Value.ref b] s) 103 ls (ai v :: st) h a b1) : SX p l e s m #[Value.ref b] below meth c mL_law G s.heap.size 600000 7302250 (some (.ref b)) (lw_Z below #[Value.ref b] s) 95 ls st h a b1 := by
  intro H locs cells slots cls hW hS hl ha hbb
  have hx := C0.1
  have hb : c.code = cL_law := C0.2.1
  have hw0 := (hl.2.2.2.2 _ rfl).2 h0
  refine lv_aload_n hx hb dL_law_95 rfl hw0 ?_
  refine lv_iconst (v := nI 1) hx hb dL_law_96 rfl ?_
  refine lv_iload hx hb dL_law_97 (hl.at h7) ?_
  refine lv_iadd hx hb dL_law_99 ?_
  rw [nI_add]
  exact law_cell (n := 1 + k) C0 hK hL (by omega) dL_law_100 hW hS hl ha hbb hst kk
