theorem nI_inj {a b : Nat} (ha : a < 2147483648) (hb : b < 2147483648) : nI a = nI b ↔ a = b := nI_eq (by simpa using ha) (by simpa using hb)
theorem nI_lt_iff {a b : Nat} (ha : a < 2147483648) (hb : b < 2147483648) : nI a < nI b ↔ a < b := nI_ltI (by simpa using ha) (by simpa using hb)
theorem nI_le_iff {a b : Nat} (ha : a < 2147483648) (hb : b < 2147483648) : nI a ≤ nI b ↔ a ≤ b := nI_leI (by simpa using ha) (by simpa using hb)
theorem g_iconstN {r : MR} {Q : SP} {σ : Sg} {pc : Nat} {ls : List (Option AV)} {st : List AV} {n : Int} {m : Nat} {p0 : Nat} (h1 : decode (rc r) pc = .ok (.iconst n, 1)) (h2 : Int32.ofInt n = nI m) (e1 : pc + 1 = p0) (k1 : WM r Q p0 ls (ai (nI m) :: st) σ) : WM r Q pc ls st σ := g_iconst h1 h2 e1 k1
theorem g_iaddN {r : MR} {Q : SP} {σ : Sg} {pc : Nat} {ls : List (Option AV)} {st : List AV} {x y p0 : Nat} (h1 : decode (rc r) pc = .ok (.iadd, 1)) (e1 : pc + 1 = p0) (k1 : WM r Q p0 ls (ai (nI (x + y)) :: st) σ) : WM r Q pc ls (ai (nI y) :: ai (nI x) :: st) σ := by
  refine g_iadd h1 e1 ?_
  rw [nI_add]
  exact k1
theorem g_imulN {r : MR} {Q : SP} {σ : Sg} {pc : Nat} {ls : List (Option AV)} {st : List AV} {x y p0 : Nat} (h1 : decode (rc r) pc = .ok (.imul, 1)) (e1 : pc + 1 = p0) (k1 : WM r Q p0 ls (ai (nI (x * y)) :: st) σ) : WM r Q pc ls (ai (nI y) :: ai (nI x) :: st) σ := by
  refine g_imul h1 e1 ?_
  rw [pk_mul]
  exact k1
theorem g_isubN {r : MR} {Q : SP} {σ : Sg} {pc : Nat} {ls : List (Option AV)} {st : List AV} {x y p0 : Nat} (h1 : decode (rc r) pc = .ok (.isub, 1)) (hle : y ≤ x) (e1 : pc + 1 = p0) (k1 : WM r Q p0 ls (ai (nI (x - y)) :: st) σ) : WM r Q pc ls (ai (nI y) :: ai (nI x) :: st) σ := by
  refine g_isub h1 e1 ?_
  rw [pk_sub hle]
  exact k1
theorem isN2 {r : MR} {Q : SP} {σ : Sg} {pc : Nat} {ls : List (Option AV)} {st : List AV} {x y : Nat} (k : WM r Q pc ls (ai (nI y) :: ai (nI x) :: st) σ) : WM r Q pc ls (ai (nI y) :: ai (nI x) :: st) σ := k
theorem isN1 {r : MR} {Q : SP} {σ : Sg} {pc : Nat} {ls : List (Option AV)} {st : List AV} {x : Nat} (k : WM r Q pc ls (ai (nI x) :: st) σ) : WM r Q pc ls (ai (nI x) :: st) σ := k
theorem isNS {r : MR} {Q : SP} {σ : Sg} {pc : Nat} {ls : List (Option AV)} {st : List AV} {x : Nat} {v : AV} (k : WM r Q pc ls (v :: ai (nI x) :: st) σ) : WM r Q pc ls (v :: ai (nI x) :: st) σ := k
theorem nI_dec {n : Nat} (h : 1 ≤ n) : nI n + Int32.ofInt (-1) = nI (n - 1) := by
  obtain ⟨m, rfl⟩ : ∃ m, n = m + 1 := ⟨n - 1, by omega⟩
  exact pk_m1 m
theorem g_iinc1 {r : MR} {Q : SP} {σ : Sg} {pc : Nat} {ls : List (Option AV)} {st : List AV} {i x p0 : Nat} {ls2 : List (Option AV)} (h1 : decode (rc r) pc = .ok (.iinc i 1, 3)) (h2 : ls[i]? = some (some (ai (nI x)))) (el : ls.set i (some (ai (nI (x + 1)))) = ls2) (e1 : pc + 3 = p0) (k1 : WM r Q p0 ls2 st σ) : WM r Q pc ls st σ := g_iinc h1 h2 (nI_1 x) el e1 k1
theorem g_iincM {r : MR} {Q : SP} {σ : Sg} {pc : Nat} {ls : List (Option AV)} {st : List AV} {i x p0 : Nat} {ls2 : List (Option AV)} (h1 : decode (rc r) pc = .ok (.iinc i (-1), 3)) (h2 : ls[i]? = some (some (ai (nI x)))) (hx : 1 ≤ x) (el : ls.set i (some (ai (nI (x - 1)))) = ls2) (e1 : pc + 3 = p0) (k1 : WM r Q p0 ls2 st σ) : WM r Q pc ls st σ := g_iinc h1 h2 (nI_dec hx) el e1 k1
theorem g_idivN {r : MR} {Q : SP} {σ : Sg} {pc : Nat} {ls : List (Option AV)} {st : List AV} {x y p0 : Nat} (h1 : decode (rc r) pc = .ok (.idiv, 1)) (hx : x < 2147483648) (hy : y < 2147483648) (h0 : 0 < y) (e1 : pc + 1 = p0) (k1 : WM r Q p0 ls (ai (nI (x / y)) :: st) σ) : WM r Q pc ls (ai (nI y) :: ai (nI x) :: st) σ := by
  refine g_idiv h1 (nI_ne0 h0 (by simpa using hy)) e1 ?_
  rw [pk_div (by simpa using hx) h0 (by simpa using hy)]
  exact k1
theorem g_iremN {r : MR} {Q : SP} {σ : Sg} {pc : Nat} {ls : List (Option AV)} {st : List AV} {x y p0 : Nat} (h1 : decode (rc r) pc = .ok (.irem, 1)) (hx : x < 2147483648) (hy : y < 2147483648) (h0 : 0 < y) (e1 : pc + 1 = p0) (k1 : WM r Q p0 ls (ai (nI (x % y)) :: st) σ) : WM r Q pc ls (ai (nI y) :: ai (nI x) :: st) σ := by
  refine g_irem h1 (nI_ne0 h0 (by simpa using hy)) e1 ?_
  rw [pk_rem (by simpa using hx) h0 (by simpa using hy)]
  exact k1
theorem g_icmpN_eq {r : MR} {Q : SP} {σ : Sg} {pc : Nat} {ls : List (Option AV)} {st : List AV} {x y : Nat} {off : Int} {tgt p1 : Nat} (h1 : decode (rc r) pc = .ok (.if_icmp .eq off, 3)) (h2 : (pc : Int) + off = (tgt : Int)) (hx : x < 2147483648) (hy : y < 2147483648) (e2 : pc + 3 = p1) (k1 : x = y → WM r Q tgt ls st σ) (k2 : ¬ x = y → WM r Q p1 ls st σ) : WM r Q pc ls (ai (nI y) :: ai (nI x) :: st) σ := g_icmp_eq h1 h2 e2 (fun q => k1 ((nI_inj hx hy).mp q)) (fun q => k2 (fun z => q ((nI_inj hx hy).mpr z)))
theorem g_ifN_eq {r : MR} {Q : SP} {σ : Sg} {pc : Nat} {ls : List (Option AV)} {st : List AV} {x : Nat} {off : Int} {tgt p1 : Nat} (h1 : decode (rc r) pc = .ok (.ifCond .eq off, 3)) (h2 : (pc : Int) + off = (tgt : Int)) (hx : x < 2147483648) (e2 : pc + 3 = p1) (k1 : x = 0 → WM r Q tgt ls st σ) (k2 : ¬ x = 0 → WM r Q p1 ls st σ) : WM r Q pc ls (ai (nI x) :: st) σ := g_if_eq h1 h2 e2 (fun q => k1 ((nI_inj hx (by decide)).mp q)) (fun q => k2 (fun z => q ((nI_inj hx (by decide)).mpr z)))
theorem g_icmpN_ne {r : MR} {Q : SP} {σ : Sg} {pc : Nat} {ls : List (Option AV)} {st : List AV} {x y : Nat} {off : Int} {tgt p1 : Nat} (h1 : decode (rc r) pc = .ok (.if_icmp .ne off, 3)) (h2 : (pc : Int) + off = (tgt : Int)) (hx : x < 2147483648) (hy : y < 2147483648) (e2 : pc + 3 = p1) (k1 : ¬ x = y → WM r Q tgt ls st σ) (k2 : x = y → WM r Q p1 ls st σ) : WM r Q pc ls (ai (nI y) :: ai (nI x) :: st) σ := g_icmp_ne h1 h2 e2 (fun q => k1 (fun z => q ((nI_inj hx hy).mpr z))) (fun q => k2 ((nI_inj hx hy).mp q))
theorem g_ifN_ne {r : MR} {Q : SP} {σ : Sg} {pc : Nat} {ls : List (Option AV)} {st : List AV} {x : Nat} {off : Int} {tgt p1 : Nat} (h1 : decode (rc r) pc = .ok (.ifCond .ne off, 3)) (h2 : (pc : Int) + off = (tgt : Int)) (hx : x < 2147483648) (e2 : pc + 3 = p1) (k1 : ¬ x = 0 → WM r Q tgt ls st σ) (k2 : x = 0 → WM r Q p1 ls st σ) : WM r Q pc ls (ai (nI x) :: st) σ := g_if_ne h1 h2 e2 (fun q => k1 (fun z => q ((nI_inj hx (by decide)).mpr z))) (fun q => k2 ((nI_inj hx (by decide)).mp q))
theorem g_icmpN_lt {r : MR} {Q : SP} {σ : Sg} {pc : Nat} {ls : List (Option AV)} {st : List AV} {x y : Nat} {off : Int} {tgt p1 : Nat} (h1 : decode (rc r) pc = .ok (.if_icmp .lt off, 3)) (h2 : (pc : Int) + off = (tgt : Int)) (hx : x < 2147483648) (hy : y < 2147483648) (e2 : pc + 3 = p1) (k1 : x < y → WM r Q tgt ls st σ) (k2 : ¬ x < y → WM r Q p1 ls st σ) : WM r Q pc ls (ai (nI y) :: ai (nI x) :: st) σ := g_icmp_lt h1 h2 e2 (fun q => k1 ((nI_lt_iff hx hy).mp q)) (fun q => k2 (fun z => q ((nI_lt_iff hx hy).mpr z)))
theorem g_ifN_lt {r : MR} {Q : SP} {σ : Sg} {pc : Nat} {ls : List (Option AV)} {st : List AV} {x : Nat} {off : Int} {tgt p1 : Nat} (h1 : decode (rc r) pc = .ok (.ifCond .lt off, 3)) (h2 : (pc : Int) + off = (tgt : Int)) (hx : x < 2147483648) (e2 : pc + 3 = p1) (k1 : x < 0 → WM r Q tgt ls st σ) (k2 : ¬ x < 0 → WM r Q p1 ls st σ) : WM r Q pc ls (ai (nI x) :: st) σ := g_if_lt h1 h2 e2 (fun q => k1 ((nI_lt_iff hx (by decide)).mp q)) (fun q => k2 (fun z => q ((nI_lt_iff hx (by decide)).mpr z)))
theorem g_icmpN_ge {r : MR} {Q : SP} {σ : Sg} {pc : Nat} {ls : List (Option AV)} {st : List AV} {x y : Nat} {off : Int} {tgt p1 : Nat} (h1 : decode (rc r) pc = .ok (.if_icmp .ge off, 3)) (h2 : (pc : Int) + off = (tgt : Int)) (hx : x < 2147483648) (hy : y < 2147483648) (e2 : pc + 3 = p1) (k1 : y ≤ x → WM r Q tgt ls st σ) (k2 : ¬ y ≤ x → WM r Q p1 ls st σ) : WM r Q pc ls (ai (nI y) :: ai (nI x) :: st) σ := g_icmp_ge h1 h2 e2 (fun q => k1 ((nI_le_iff hy hx).mp q)) (fun q => k2 (fun z => q ((nI_le_iff hy hx).mpr z)))
theorem g_ifN_ge {r : MR} {Q : SP} {σ : Sg} {pc : Nat} {ls : List (Option AV)} {st : List AV} {x : Nat} {off : Int} {tgt p1 : Nat} (h1 : decode (rc r) pc = .ok (.ifCond .ge off, 3)) (h2 : (pc : Int) + off = (tgt : Int)) (hx : x < 2147483648) (e2 : pc + 3 = p1) (k1 : 0 ≤ x → WM r Q tgt ls st σ) (k2 : ¬ 0 ≤ x → WM r Q p1 ls st σ) : WM r Q pc ls (ai (nI x) :: st) σ := g_if_ge h1 h2 e2 (fun q => k1 ((nI_le_iff (by decide) hx).mp q)) (fun q => k2 (fun z => q ((nI_le_iff (by decide) hx).mpr z)))
theorem g_icmpN_gt {r : MR} {Q : SP} {σ : Sg} {pc : Nat} {ls : List (Option AV)} {st : List AV} {x y : Nat} {off : Int} {tgt p1 : Nat} (h1 : decode (rc r) pc = .ok (.if_icmp .gt off, 3)) (h2 : (pc : Int) + off = (tgt : Int)) (hx : x < 2147483648) (hy : y < 2147483648) (e2 : pc + 3 = p1) (k1 : y < x → WM r Q tgt ls st σ) (k2 : ¬ y < x → WM r Q p1 ls st σ) : WM r Q pc ls (ai (nI y) :: ai (nI x) :: st) σ := g_icmp_gt h1 h2 e2 (fun q => k1 ((nI_lt_iff hy hx).mp q)) (fun q => k2 (fun z => q ((nI_lt_iff hy hx).mpr z)))
theorem g_ifN_gt {r : MR} {Q : SP} {σ : Sg} {pc : Nat} {ls : List (Option AV)} {st : List AV} {x : Nat} {off : Int} {tgt p1 : Nat} (h1 : decode (rc r) pc = .ok (.ifCond .gt off, 3)) (h2 : (pc : Int) + off = (tgt : Int)) (hx : x < 2147483648) (e2 : pc + 3 = p1) (k1 : 0 < x → WM r Q tgt ls st σ) (k2 : ¬ 0 < x → WM r Q p1 ls st σ) : WM r Q pc ls (ai (nI x) :: st) σ := g_if_gt h1 h2 e2 (fun q => k1 ((nI_lt_iff (by decide) hx).mp q)) (fun q => k2 (fun z => q ((nI_lt_iff (by decide) hx).mpr z)))
theorem g_icmpN_le {r : MR} {Q : SP} {σ : Sg} {pc : Nat} {ls : List (Option AV)} {st : List AV} {x y : Nat} {off : Int} {tgt p1 : Nat} (h1 : decode (rc r) pc = .ok (.if_icmp .le off, 3)) (h2 : (pc : Int) + off = (tgt : Int)) (hx : x < 2147483648) (hy : y < 2147483648) (e2 : pc + 3 = p1) (k1 : x ≤ y → WM r Q tgt ls st σ) (k2 : ¬ x ≤ y → WM r Q p1 ls st σ) : WM r Q pc ls (ai (nI y) :: ai (nI x) :: st) σ := g_icmp_le h1 h2 e2 (fun q => k1 ((nI_le_iff hx hy).mp q)) (fun q => k2 (fun z => q ((nI_le_iff hx hy).mpr z)))
theorem g_ifN_le {r : MR} {Q : SP} {σ : Sg} {pc : Nat} {ls : List (Option AV)} {st : List AV} {x : Nat} {off : Int} {tgt p1 : Nat} (h1 : decode (rc r) pc = .ok (.ifCond .le off, 3)) (h2 : (pc : Int) + off = (tgt : Int)) (hx : x < 2147483648) (e2 : pc + 3 = p1) (k1 : x ≤ 0 → WM r Q tgt ls st σ) (k2 : ¬ x ≤ 0 → WM r Q p1 ls st σ) : WM r Q pc ls (ai (nI x) :: st) σ := g_if_le h1 h2 e2 (fun q => k1 ((nI_le_iff hx (by decide)).mp q)) (fun q => k2 (fun z => q ((nI_le_iff hx (by decide)).mpr z)))
theorem g_getI {r : MR} {Q : SP} {σ : Sg} {pc : Nat} {ls : List (Option AV)} {st : List AV} {i ci k o p0 : Nat} {fl : List (Option Nat)} {v : Int32} (h1 : decode (rc r) pc = .ok (.getfield i, 3)) (h2 : FL (ro r) i ci k) (hs : SHl[o]? = some (.inl (ci, fl))) (hk : fl[k]? = some none) (hv : σ o k = v) (e1 : pc + 3 = p0) (k1 : WM r Q p0 ls (ai v :: st) σ) : WM r Q pc ls (ar o :: st) σ := by
  subst e1; subst hv; exact i_getf h1 h2 (mem_get hs) (fOf_int hk) k1
theorem g_getR {r : MR} {Q : SP} {σ : Sg} {pc : Nat} {ls : List (Option AV)} {st : List AV} {i ci k o q p0 : Nat} {fl : List (Option Nat)} (h1 : decode (rc r) pc = .ok (.getfield i, 3)) (h2 : FL (ro r) i ci k) (hs : SHl[o]? = some (.inl (ci, fl))) (hk : fl[k]? = some (some q)) (e1 : pc + 3 = p0) (k1 : WM r Q p0 ls (ar q :: st) σ) : WM r Q pc ls (ar o :: st) σ := by
  subst e1; exact i_getf h1 h2 (mem_get hs) (fOf_ref hk) k1
theorem g_put {r : MR} {Q : SP} {σ : Sg} {pc : Nat} {ls : List (Option AV)} {st : List AV} {i ci k o p0 : Nat} {fl : List (Option Nat)} {x : Int32} (h1 : decode (rc r) pc = .ok (.putfield i, 3)) (h2 : FL (ro r) i ci k) (hs : SHl[o]? = some (.inl (ci, fl))) (hk : fl[k]? = some none) (hn : FN ci k) (hp : FP ci k (ai x)) (e1 : pc + 3 = p0) (k1 : WM r Q p0 ls st (up σ o k x)) : WM r Q pc ls (ai x :: ar o :: st) σ := by
  subst e1
  refine i_putf h1 h2 (Or.inl hn) hp (mem_get hs) (List.getElem?_eq_some_iff.mp (fOf_int hk)).1 ?_
  rw [mem_setI hs hk]
  exact k1
theorem g_ald {r : MR} {Q : SP} {σ : Sg} {pc : Nat} {ls : List (Option AV)} {st : List AV} {o n p0 : Nat} {i v : Int32} (h1 : decode (rc r) pc = .ok (.iaload, 1)) (hs : SHl[o]? = some (.inr (.inl n))) (hi : vp_in i n) (hv : σ o i.toNatClampNeg = v) (e1 : pc + 1 = p0) (k1 : WM r Q p0 ls (ai v :: st) σ) : WM r Q pc ls (ai i :: ar o :: st) σ := by
  subst e1; subst hv; exact i_iald h1 (mem_get hs) hi k1
theorem g_aldN {r : MR} {Q : SP} {σ : Sg} {pc : Nat} {ls : List (Option AV)} {st : List AV} {o n j p0 : Nat} {v : Int32} (h1 : decode (rc r) pc = .ok (.iaload, 1)) (hs : SHl[o]? = some (.inr (.inl n))) (hn : n ≤ 1000) (hj : j < n) (hv : σ o j = v) (e1 : pc + 1 = p0) (k1 : WM r Q p0 ls (ai v :: st) σ) : WM r Q pc ls (ai (nI j) :: ar o :: st) σ := by
  have hl : j < 2 ^ 31 := by omega
  exact g_ald h1 hs (vp_in_nI hj (by omega)) (by rw [nI_clamp hl]; exact hv) e1 k1
theorem g_ast {r : MR} {Q : SP} {σ : Sg} {pc : Nat} {ls : List (Option AV)} {st : List AV} {o n p0 : Nat} {i x : Int32} (h1 : decode (rc r) pc = .ok (.iastore, 1)) (hs : SHl[o]? = some (.inr (.inl n))) (hi : vp_in i n) (e1 : pc + 1 = p0) (k1 : WM r Q p0 ls st (up σ o i.toNatClampNeg x)) : WM r Q pc ls (ai x :: ai i :: ar o :: st) σ := by
  subst e1
  refine i_iast h1 (mem_get hs) hi ?_
  rw [mem_setA hs]
  exact k1
theorem g_astN {r : MR} {Q : SP} {σ : Sg} {pc : Nat} {ls : List (Option AV)} {st : List AV} {o n j p0 : Nat} {x : Int32} (h1 : decode (rc r) pc = .ok (.iastore, 1)) (hs : SHl[o]? = some (.inr (.inl n))) (hn : n ≤ 1000) (hj : j < n) (e1 : pc + 1 = p0) (k1 : WM r Q p0 ls st (up σ o j x)) : WM r Q pc ls (ai x :: ai (nI j) :: ar o :: st) σ := by
  have hl : j < 2 ^ 31 := by omega
  refine g_ast h1 hs (vp_in_nI hj (by omega)) e1 ?_
  rw [nI_clamp hl]
  exact k1
theorem g_aldX {r : MR} {Q : SP} {σ : Sg} {pc : Nat} {ls : List (Option AV)} {st : List AV} {e o k j p0 : Nat} {v : Int32} (h1 : decode (rc r) pc = .ok (.iaload, 1)) (hB : XB σ e) (ho : o = e + k ∧ k < 7) (hj : j < 64) (hv : σ o j = v) (e1 : pc + 1 = p0) (k1 : WM r Q p0 ls (ai v :: st) σ) : WM r Q pc ls (ai (nI j) :: ar o :: st) σ := by
  subst e1; subst hv
  have hl : j < 2 ^ 31 := by omega
  refine i_iald h1 (mem_getX (hB.s ho)) (vp_in_nI hj (by omega)) ?_
  rw [nI_clamp hl]
  exact k1
theorem g_astX {r : MR} {Q : SP} {σ : Sg} {pc : Nat} {ls : List (Option AV)} {st : List AV} {e o k j p0 : Nat} {x : Int32} (h1 : decode (rc r) pc = .ok (.iastore, 1)) (hB : XB σ e) (ho : o = e + k ∧ k < 7) (hj : j < 64) (e1 : pc + 1 = p0) (k1 : WM r Q p0 ls st (up σ o j x)) : WM r Q pc ls (ai x :: ai (nI j) :: ar o :: st) σ := by
  subst e1
  have hl : j < 2 ^ 31 := by omega
  refine i_iast h1 (mem_getX (hB.s ho)) (vp_in_nI hj (by omega)) ?_
  rw [nI_clamp hl]
  show WPr r (lift Q) (pc + 1) ls st ((mem σ).set o (.inr (.inl (64, upd (σ o) j x)))) 0 0
  rw [mem_setX (hB.s ho) (hB.n ho)]
  exact k1
theorem g_alen {r : MR} {Q : SP} {σ : Sg} {pc : Nat} {ls : List (Option AV)} {st : List AV} {o n p0 : Nat} (h1 : decode (rc r) pc = .ok (.arraylength, 1)) (hs : SHl[o]? = some (.inr (.inl n))) (e1 : pc + 1 = p0) (k1 : WM r Q p0 ls (ai (nI n) :: st) σ) : WM r Q pc ls (ar o :: st) σ := by
  subst e1; exact i_alen h1 (mem_get hs) k1
theorem g_alenq {r : MR} {Q : SP} {σ : Sg} {pc : Nat} {ls : List (Option AV)} {st : List AV} {o p0 : Nat} {l : List Nat} (h1 : decode (rc r) pc = .ok (.arraylength, 1)) (hs : SHl[o]? = some (.inr (.inr l))) (e1 : pc + 1 = p0) (k1 : WM r Q p0 ls (ai (nI l.length) :: st) σ) : WM r Q pc ls (ar o :: st) σ := by
  subst e1; exact i_alenq h1 (mem_get hs) k1
theorem g_aald {r : MR} {Q : SP} {σ : Sg} {pc : Nat} {ls : List (Option AV)} {st : List AV} {o j q p0 : Nat} {l : List Nat} (h1 : decode (rc r) pc = .ok (.aaload, 1)) (hs : SHl[o]? = some (.inr (.inr l))) (hn : l.length ≤ 1000) (hq : l[j]? = some q) (e1 : pc + 1 = p0) (k1 : WM r Q p0 ls (ar q :: st) σ) : WM r Q pc ls (ai (nI j) :: ar o :: st) σ := by
  subst e1
  have hj := (List.getElem?_eq_some_iff.mp hq).1
  have hl : j < 2 ^ 31 := by omega
  refine i_aald h1 (mem_get hs) (vp_in_nI hj (by omega)) ?_
  rw [nI_clamp hl, hq]
  exact k1
theorem g_ireturn {r : MR} {Q : SP} {σ : Sg} {pc : Nat} {ls : List (Option AV)} {x : Int32} {ty : FieldType} (h1 : decode (rc r) pc = .ok (.ireturn, 1)) (h2 : rt r = some ty) (h3 : narrow ty (.int x) = .int x) (k : Q (some (ai x)) σ) : WM r Q pc ls [ai x] σ := i_ireturn h1 h2 h3 ⟨_, rfl, k⟩
theorem g_areturn {r : MR} {Q : SP} {σ : Sg} {pc : Nat} {ls : List (Option AV)} {x : Nat} {C : String} (h1 : decode (rc r) pc = .ok (.areturn, 1)) (h2 : rt r = some (.object C)) (k : Q (some (ar x)) σ) : WM r Q pc ls [ar x] σ := i_areturn h1 h2 ⟨_, rfl, k⟩
theorem g_return {r : MR} {Q : SP} {σ : Sg} {pc : Nat} {ls : List (Option AV)} (h1 : decode (rc r) pc = .ok (.return_, 1)) (h2 : rt r = none) (k : Q none σ) : WM r Q pc ls [] σ := i_return h1 h2 ⟨_, rfl, k⟩
theorem bool_narrow {x : Int32} (h : x = 0 ∨ x = 1) : narrow .boolean (.int x) = .int x := by rcases h with rfl | rfl <;> rfl
