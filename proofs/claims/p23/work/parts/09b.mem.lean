theorem g_iconst {r : MR} {Q : SP} {σ : Sg} {pc : Nat} {ls : List (Option AV)} {st : List AV} {n : Int} {v : Int32} {p0 : Nat} (h1 : decode (rc r) pc = .ok (.iconst n, 1)) (h2 : Int32.ofInt n = v) (e1 : pc + 1 = p0) (k1 : WM r Q p0 (ls) (ai v :: st) σ) : WM r Q pc (ls) (st) σ := by
  subst e1; exact i_iconst h1 h2 k1
theorem g_bipush {r : MR} {Q : SP} {σ : Sg} {pc : Nat} {ls : List (Option AV)} {st : List AV} {n : Int} {v : Int32} {p0 : Nat} (h1 : decode (rc r) pc = .ok (.bipush n, 2)) (h2 : (Int8.ofInt n).toInt32 = v) (e1 : pc + 2 = p0) (k1 : WM r Q p0 (ls) (ai v :: st) σ) : WM r Q pc (ls) (st) σ := by
  subst e1; exact i_bipush h1 h2 k1
theorem g_sipush {r : MR} {Q : SP} {σ : Sg} {pc : Nat} {ls : List (Option AV)} {st : List AV} {n : Int} {v : Int32} {p0 : Nat} (h1 : decode (rc r) pc = .ok (.sipush n, 3)) (h2 : (Int16.ofInt n).toInt32 = v) (e1 : pc + 3 = p0) (k1 : WM r Q p0 (ls) (ai v :: st) σ) : WM r Q pc (ls) (st) σ := by
  subst e1; exact i_sipush h1 h2 k1
theorem g_ldc {r : MR} {Q : SP} {σ : Sg} {pc : Nat} {ls : List (Option AV)} {st : List AV} {i : Nat} {v : Int32} {p0 : Nat} (h1 : decode (rc r) pc = .ok (.ldc i, 2)) (h2 : Cond.constant (ro r) i v ∈ Wl) (e1 : pc + 2 = p0) (k1 : WM r Q p0 (ls) (ai v :: st) σ) : WM r Q pc (ls) (st) σ := by
  subst e1; exact i_ldc h1 h2 k1
theorem g_null {r : MR} {Q : SP} {σ : Sg} {pc : Nat} {ls : List (Option AV)} {st : List AV}  {p0 : Nat} (h1 : decode (rc r) pc = .ok (.aconst_null, 1)) (e1 : pc + 1 = p0) (k1 : WM r Q p0 (ls) (an :: st) σ) : WM r Q pc (ls) (st) σ := by
  subst e1; exact i_null h1 k1
theorem g_iload_n {r : MR} {Q : SP} {σ : Sg} {pc : Nat} {ls : List (Option AV)} {st : List AV} {k : Fin 4} {i : Nat} {x : Int32} {p0 : Nat} (h1 : decode (rc r) pc = .ok (.iload_n k, 1)) (h2 : (k : Nat) = i) (h3 : ls[i]? = some (some (ai x))) (e1 : pc + 1 = p0) (k1 : WM r Q p0 (ls) (ai x :: st) σ) : WM r Q pc (ls) (st) σ := by
  subst e1; exact i_iload_n h1 h2 h3 k1
theorem g_iload {r : MR} {Q : SP} {σ : Sg} {pc : Nat} {ls : List (Option AV)} {st : List AV} {i : Nat} {x : Int32} {p0 : Nat} (h1 : decode (rc r) pc = .ok (.iload i, 2)) (h2 : ls[i]? = some (some (ai x))) (e1 : pc + 2 = p0) (k1 : WM r Q p0 (ls) (ai x :: st) σ) : WM r Q pc (ls) (st) σ := by
  subst e1; exact i_iload h1 h2 k1
theorem g_aload_n {r : MR} {Q : SP} {σ : Sg} {pc : Nat} {ls : List (Option AV)} {st : List AV} {k : Fin 4} {i : Nat} {x : Nat} {p0 : Nat} (h1 : decode (rc r) pc = .ok (.aload_n k, 1)) (h2 : (k : Nat) = i) (h3 : ls[i]? = some (some (ar x))) (e1 : pc + 1 = p0) (k1 : WM r Q p0 (ls) (ar x :: st) σ) : WM r Q pc (ls) (st) σ := by
  subst e1; exact i_aload_n h1 h2 h3 k1
theorem g_aload {r : MR} {Q : SP} {σ : Sg} {pc : Nat} {ls : List (Option AV)} {st : List AV} {i : Nat} {x : Nat} {p0 : Nat} (h1 : decode (rc r) pc = .ok (.aload i, 2)) (h2 : ls[i]? = some (some (ar x))) (e1 : pc + 2 = p0) (k1 : WM r Q p0 (ls) (ar x :: st) σ) : WM r Q pc (ls) (st) σ := by
  subst e1; exact i_aload h1 h2 k1
theorem g_istore_n {r : MR} {Q : SP} {σ : Sg} {pc : Nat} {ls : List (Option AV)} {st : List AV} {k : Fin 4} {i : Nat} {x : Int32} {p0 : Nat} {ls2 : List (Option AV)} (h1 : decode (rc r) pc = .ok (.istore_n k, 1)) (h2 : (k : Nat) = i) (h3 : i < ls.length) (e1 : pc + 1 = p0) (el : ls.set i (some (ai x)) = ls2) (k1 : WM r Q p0 (ls2) (st) σ) : WM r Q pc (ls) (ai x :: st) σ := by
  subst e1; subst el; exact i_istore_n h1 h2 h3 k1
theorem g_istore {r : MR} {Q : SP} {σ : Sg} {pc : Nat} {ls : List (Option AV)} {st : List AV} {i : Nat} {x : Int32} {p0 : Nat} {ls2 : List (Option AV)} (h1 : decode (rc r) pc = .ok (.istore i, 2)) (h2 : i < ls.length) (e1 : pc + 2 = p0) (el : ls.set i (some (ai x)) = ls2) (k1 : WM r Q p0 (ls2) (st) σ) : WM r Q pc (ls) (ai x :: st) σ := by
  subst e1; subst el; exact i_istore h1 h2 k1
theorem g_astore_n {r : MR} {Q : SP} {σ : Sg} {pc : Nat} {ls : List (Option AV)} {st : List AV} {k : Fin 4} {i : Nat} {x : Nat} {p0 : Nat} {ls2 : List (Option AV)} (h1 : decode (rc r) pc = .ok (.astore_n k, 1)) (h2 : (k : Nat) = i) (h3 : i < ls.length) (e1 : pc + 1 = p0) (el : ls.set i (some (ar x)) = ls2) (k1 : WM r Q p0 (ls2) (st) σ) : WM r Q pc (ls) (ar x :: st) σ := by
  subst e1; subst el; exact i_astore_n h1 h2 h3 k1
theorem g_astore {r : MR} {Q : SP} {σ : Sg} {pc : Nat} {ls : List (Option AV)} {st : List AV} {i : Nat} {x : Nat} {p0 : Nat} {ls2 : List (Option AV)} (h1 : decode (rc r) pc = .ok (.astore i, 2)) (h2 : i < ls.length) (e1 : pc + 2 = p0) (el : ls.set i (some (ar x)) = ls2) (k1 : WM r Q p0 (ls2) (st) σ) : WM r Q pc (ls) (ar x :: st) σ := by
  subst e1; subst el; exact i_astore h1 h2 k1
theorem g_iinc {r : MR} {Q : SP} {σ : Sg} {pc : Nat} {ls : List (Option AV)} {st : List AV} {i : Nat} {n : Int} {x y : Int32} {p0 : Nat} {ls2 : List (Option AV)} (h1 : decode (rc r) pc = .ok (.iinc i n, 3)) (h2 : ls[i]? = some (some (ai x))) (hy : x + Int32.ofInt n = y) (el : ls.set i (some (ai y)) = ls2) (e1 : pc + 3 = p0) (k1 : WM r Q p0 ls2 st σ) : WM r Q pc ls st σ := by
  subst hy; subst el; subst e1; exact i_iinc h1 h2 k1
theorem g_iadd {r : MR} {Q : SP} {σ : Sg} {pc : Nat} {ls : List (Option AV)} {st : List AV} {x y : Int32} {p0 : Nat} (h1 : decode (rc r) pc = .ok (.iadd, 1)) (e1 : pc + 1 = p0) (k1 : WM r Q p0 (ls) (ai (x + y) :: st) σ) : WM r Q pc (ls) (ai y :: ai x :: st) σ := by
  subst e1; exact i_iadd h1 k1
theorem g_isub {r : MR} {Q : SP} {σ : Sg} {pc : Nat} {ls : List (Option AV)} {st : List AV} {x y : Int32} {p0 : Nat} (h1 : decode (rc r) pc = .ok (.isub, 1)) (e1 : pc + 1 = p0) (k1 : WM r Q p0 (ls) (ai (x - y) :: st) σ) : WM r Q pc (ls) (ai y :: ai x :: st) σ := by
  subst e1; exact i_isub h1 k1
theorem g_imul {r : MR} {Q : SP} {σ : Sg} {pc : Nat} {ls : List (Option AV)} {st : List AV} {x y : Int32} {p0 : Nat} (h1 : decode (rc r) pc = .ok (.imul, 1)) (e1 : pc + 1 = p0) (k1 : WM r Q p0 (ls) (ai (x * y) :: st) σ) : WM r Q pc (ls) (ai y :: ai x :: st) σ := by
  subst e1; exact i_imul h1 k1
theorem g_ior {r : MR} {Q : SP} {σ : Sg} {pc : Nat} {ls : List (Option AV)} {st : List AV} {x y : Int32} {p0 : Nat} (h1 : decode (rc r) pc = .ok (.ior, 1)) (e1 : pc + 1 = p0) (k1 : WM r Q p0 (ls) (ai (x ||| y) :: st) σ) : WM r Q pc (ls) (ai y :: ai x :: st) σ := by
  subst e1; exact i_ior h1 k1
theorem g_iand {r : MR} {Q : SP} {σ : Sg} {pc : Nat} {ls : List (Option AV)} {st : List AV} {x y : Int32} {p0 : Nat} (h1 : decode (rc r) pc = .ok (.iand, 1)) (e1 : pc + 1 = p0) (k1 : WM r Q p0 (ls) (ai (x &&& y) :: st) σ) : WM r Q pc (ls) (ai y :: ai x :: st) σ := by
  subst e1; exact i_iand h1 k1
theorem g_ixor {r : MR} {Q : SP} {σ : Sg} {pc : Nat} {ls : List (Option AV)} {st : List AV} {x y : Int32} {p0 : Nat} (h1 : decode (rc r) pc = .ok (.ixor, 1)) (e1 : pc + 1 = p0) (k1 : WM r Q p0 (ls) (ai (x ^^^ y) :: st) σ) : WM r Q pc (ls) (ai y :: ai x :: st) σ := by
  subst e1; exact i_ixor h1 k1
theorem g_ishl {r : MR} {Q : SP} {σ : Sg} {pc : Nat} {ls : List (Option AV)} {st : List AV} {x y : Int32} {p0 : Nat} (h1 : decode (rc r) pc = .ok (.ishl, 1)) (e1 : pc + 1 = p0) (k1 : WM r Q p0 (ls) (ai (x <<< (y &&& 31)) :: st) σ) : WM r Q pc (ls) (ai y :: ai x :: st) σ := by
  subst e1; exact i_ishl h1 k1
theorem g_ishr {r : MR} {Q : SP} {σ : Sg} {pc : Nat} {ls : List (Option AV)} {st : List AV} {x y : Int32} {p0 : Nat} (h1 : decode (rc r) pc = .ok (.ishr, 1)) (e1 : pc + 1 = p0) (k1 : WM r Q p0 (ls) (ai (x >>> (y &&& 31)) :: st) σ) : WM r Q pc (ls) (ai y :: ai x :: st) σ := by
  subst e1; exact i_ishr h1 k1
theorem g_idiv {r : MR} {Q : SP} {σ : Sg} {pc : Nat} {ls : List (Option AV)} {st : List AV} {x y : Int32} {p0 : Nat} (h1 : decode (rc r) pc = .ok (.idiv, 1)) (h2 : ¬ y = 0) (e1 : pc + 1 = p0) (k1 : WM r Q p0 (ls) (ai (x / y) :: st) σ) : WM r Q pc (ls) (ai y :: ai x :: st) σ := by
  subst e1; exact i_idiv h1 h2 k1
theorem g_irem {r : MR} {Q : SP} {σ : Sg} {pc : Nat} {ls : List (Option AV)} {st : List AV} {x y : Int32} {p0 : Nat} (h1 : decode (rc r) pc = .ok (.irem, 1)) (h2 : ¬ y = 0) (e1 : pc + 1 = p0) (k1 : WM r Q p0 (ls) (ai (x - x / y * y) :: st) σ) : WM r Q pc (ls) (ai y :: ai x :: st) σ := by
  subst e1; exact i_irem h1 h2 k1
theorem g_dup {r : MR} {Q : SP} {σ : Sg} {pc : Nat} {ls : List (Option AV)} {st : List AV} {v : AV} {p0 : Nat} (h1 : decode (rc r) pc = .ok (.dup, 1)) (e1 : pc + 1 = p0) (k1 : WM r Q p0 (ls) (v :: v :: st) σ) : WM r Q pc (ls) (v :: st) σ := by
  subst e1; exact i_dup h1 k1
theorem g_dup2 {r : MR} {Q : SP} {σ : Sg} {pc : Nat} {ls : List (Option AV)} {st : List AV} {v u : AV} {p0 : Nat} (h1 : decode (rc r) pc = .ok (.dup2, 1)) (e1 : pc + 1 = p0) (k1 : WM r Q p0 (ls) (v :: u :: v :: u :: st) σ) : WM r Q pc (ls) (v :: u :: st) σ := by
  subst e1; exact i_dup2 h1 k1
theorem g_pop {r : MR} {Q : SP} {σ : Sg} {pc : Nat} {ls : List (Option AV)} {st : List AV} {v : AV} {p0 : Nat} (h1 : decode (rc r) pc = .ok (.pop, 1)) (e1 : pc + 1 = p0) (k1 : WM r Q p0 (ls) (st) σ) : WM r Q pc (ls) (v :: st) σ := by
  subst e1; exact i_pop h1 k1
theorem g_goto {r : MR} {Q : SP} {σ : Sg} {pc : Nat} {ls : List (Option AV)} {st : List AV} {off : Int} {tgt : Nat} (h1 : decode (rc r) pc = .ok (.goto off, 3)) (h2 : (pc : Int) + off = (tgt : Int)) (k1 : WM r Q tgt (ls) (st) σ) : WM r Q pc (ls) (st) σ := by
  exact i_goto h1 h2 k1
theorem g_icmp_eq {r : MR} {Q : SP} {σ : Sg} {pc : Nat} {ls : List (Option AV)} {st : List AV} {x y : Int32} {off : Int} {tgt : Nat} {p1 : Nat} (h1 : decode (rc r) pc = .ok (.if_icmp .eq off, 3)) (h2 : (pc : Int) + off = (tgt : Int)) (e2 : pc + 3 = p1) (k1 : x = y → WM r Q tgt (ls) (st) σ) (k2 : ¬ x = y → WM r Q p1 (ls) (st) σ) : WM r Q pc (ls) (ai y :: ai x :: st) σ := by
  subst e2; exact i_icmp_eq h1 h2 k1 k2
theorem g_if_eq {r : MR} {Q : SP} {σ : Sg} {pc : Nat} {ls : List (Option AV)} {st : List AV} {x : Int32} {off : Int} {tgt : Nat} {p1 : Nat} (h1 : decode (rc r) pc = .ok (.ifCond .eq off, 3)) (h2 : (pc : Int) + off = (tgt : Int)) (e2 : pc + 3 = p1) (k1 : x = 0 → WM r Q tgt (ls) (st) σ) (k2 : ¬ x = 0 → WM r Q p1 (ls) (st) σ) : WM r Q pc (ls) (ai x :: st) σ := by
  subst e2; exact i_if_eq h1 h2 k1 k2
theorem g_icmp_ne {r : MR} {Q : SP} {σ : Sg} {pc : Nat} {ls : List (Option AV)} {st : List AV} {x y : Int32} {off : Int} {tgt : Nat} {p1 : Nat} (h1 : decode (rc r) pc = .ok (.if_icmp .ne off, 3)) (h2 : (pc : Int) + off = (tgt : Int)) (e2 : pc + 3 = p1) (k1 : ¬ x = y → WM r Q tgt (ls) (st) σ) (k2 : x = y → WM r Q p1 (ls) (st) σ) : WM r Q pc (ls) (ai y :: ai x :: st) σ := by
  subst e2; exact i_icmp_ne h1 h2 k1 k2
theorem g_if_ne {r : MR} {Q : SP} {σ : Sg} {pc : Nat} {ls : List (Option AV)} {st : List AV} {x : Int32} {off : Int} {tgt : Nat} {p1 : Nat} (h1 : decode (rc r) pc = .ok (.ifCond .ne off, 3)) (h2 : (pc : Int) + off = (tgt : Int)) (e2 : pc + 3 = p1) (k1 : ¬ x = 0 → WM r Q tgt (ls) (st) σ) (k2 : x = 0 → WM r Q p1 (ls) (st) σ) : WM r Q pc (ls) (ai x :: st) σ := by
  subst e2; exact i_if_ne h1 h2 k1 k2
theorem g_icmp_lt {r : MR} {Q : SP} {σ : Sg} {pc : Nat} {ls : List (Option AV)} {st : List AV} {x y : Int32} {off : Int} {tgt : Nat} {p1 : Nat} (h1 : decode (rc r) pc = .ok (.if_icmp .lt off, 3)) (h2 : (pc : Int) + off = (tgt : Int)) (e2 : pc + 3 = p1) (k1 : x < y → WM r Q tgt (ls) (st) σ) (k2 : ¬ x < y → WM r Q p1 (ls) (st) σ) : WM r Q pc (ls) (ai y :: ai x :: st) σ := by
  subst e2; exact i_icmp_lt h1 h2 k1 k2
theorem g_if_lt {r : MR} {Q : SP} {σ : Sg} {pc : Nat} {ls : List (Option AV)} {st : List AV} {x : Int32} {off : Int} {tgt : Nat} {p1 : Nat} (h1 : decode (rc r) pc = .ok (.ifCond .lt off, 3)) (h2 : (pc : Int) + off = (tgt : Int)) (e2 : pc + 3 = p1) (k1 : x < 0 → WM r Q tgt (ls) (st) σ) (k2 : ¬ x < 0 → WM r Q p1 (ls) (st) σ) : WM r Q pc (ls) (ai x :: st) σ := by
  subst e2; exact i_if_lt h1 h2 k1 k2
theorem g_icmp_ge {r : MR} {Q : SP} {σ : Sg} {pc : Nat} {ls : List (Option AV)} {st : List AV} {x y : Int32} {off : Int} {tgt : Nat} {p1 : Nat} (h1 : decode (rc r) pc = .ok (.if_icmp .ge off, 3)) (h2 : (pc : Int) + off = (tgt : Int)) (e2 : pc + 3 = p1) (k1 : y ≤ x → WM r Q tgt (ls) (st) σ) (k2 : ¬ y ≤ x → WM r Q p1 (ls) (st) σ) : WM r Q pc (ls) (ai y :: ai x :: st) σ := by
  subst e2; exact i_icmp_ge h1 h2 k1 k2
theorem g_if_ge {r : MR} {Q : SP} {σ : Sg} {pc : Nat} {ls : List (Option AV)} {st : List AV} {x : Int32} {off : Int} {tgt : Nat} {p1 : Nat} (h1 : decode (rc r) pc = .ok (.ifCond .ge off, 3)) (h2 : (pc : Int) + off = (tgt : Int)) (e2 : pc + 3 = p1) (k1 : 0 ≤ x → WM r Q tgt (ls) (st) σ) (k2 : ¬ 0 ≤ x → WM r Q p1 (ls) (st) σ) : WM r Q pc (ls) (ai x :: st) σ := by
  subst e2; exact i_if_ge h1 h2 k1 k2
theorem g_icmp_gt {r : MR} {Q : SP} {σ : Sg} {pc : Nat} {ls : List (Option AV)} {st : List AV} {x y : Int32} {off : Int} {tgt : Nat} {p1 : Nat} (h1 : decode (rc r) pc = .ok (.if_icmp .gt off, 3)) (h2 : (pc : Int) + off = (tgt : Int)) (e2 : pc + 3 = p1) (k1 : y < x → WM r Q tgt (ls) (st) σ) (k2 : ¬ y < x → WM r Q p1 (ls) (st) σ) : WM r Q pc (ls) (ai y :: ai x :: st) σ := by
  subst e2; exact i_icmp_gt h1 h2 k1 k2
theorem g_if_gt {r : MR} {Q : SP} {σ : Sg} {pc : Nat} {ls : List (Option AV)} {st : List AV} {x : Int32} {off : Int} {tgt : Nat} {p1 : Nat} (h1 : decode (rc r) pc = .ok (.ifCond .gt off, 3)) (h2 : (pc : Int) + off = (tgt : Int)) (e2 : pc + 3 = p1) (k1 : 0 < x → WM r Q tgt (ls) (st) σ) (k2 : ¬ 0 < x → WM r Q p1 (ls) (st) σ) : WM r Q pc (ls) (ai x :: st) σ := by
  subst e2; exact i_if_gt h1 h2 k1 k2
theorem g_icmp_le {r : MR} {Q : SP} {σ : Sg} {pc : Nat} {ls : List (Option AV)} {st : List AV} {x y : Int32} {off : Int} {tgt : Nat} {p1 : Nat} (h1 : decode (rc r) pc = .ok (.if_icmp .le off, 3)) (h2 : (pc : Int) + off = (tgt : Int)) (e2 : pc + 3 = p1) (k1 : x ≤ y → WM r Q tgt (ls) (st) σ) (k2 : ¬ x ≤ y → WM r Q p1 (ls) (st) σ) : WM r Q pc (ls) (ai y :: ai x :: st) σ := by
  subst e2; exact i_icmp_le h1 h2 k1 k2
theorem g_if_le {r : MR} {Q : SP} {σ : Sg} {pc : Nat} {ls : List (Option AV)} {st : List AV} {x : Int32} {off : Int} {tgt : Nat} {p1 : Nat} (h1 : decode (rc r) pc = .ok (.ifCond .le off, 3)) (h2 : (pc : Int) + off = (tgt : Int)) (e2 : pc + 3 = p1) (k1 : x ≤ 0 → WM r Q tgt (ls) (st) σ) (k2 : ¬ x ≤ 0 → WM r Q p1 (ls) (st) σ) : WM r Q pc (ls) (ai x :: st) σ := by
  subst e2; exact i_if_le h1 h2 k1 k2
theorem g_ifnull {r : MR} {Q : SP} {σ : Sg} {pc : Nat} {ls : List (Option AV)} {st : List AV} {x : Nat} {off : Int} {p0 : Nat} (h1 : decode (rc r) pc = .ok (.ifnull off, 3)) (e1 : pc + 3 = p0) (k1 : WM r Q p0 (ls) (st) σ) : WM r Q pc (ls) (ar x :: st) σ := by
  subst e1; exact i_ifnull h1 k1
theorem g_tabIn {r : MR} {Q : SP} {σ : Sg} {pc : Nat} {ls : List (Option AV)} {st : List AV} {dflt lo hi : Int} {offs : Array Int} {len : Nat} {x : Int32} {off : Int} {tgt : Nat} (h1 : decode (rc r) pc = .ok (.tableswitch dflt lo hi offs, len)) (h2 : ¬ x.toInt < lo) (h3 : ¬ hi < x.toInt) (h4 : offs[(x.toInt - lo).toNat]? = some off) (h5 : (pc : Int) + off = (tgt : Int)) (k1 : WM r Q tgt (ls) (st) σ) : WM r Q pc (ls) (ai x :: st) σ := by
  exact i_tabIn h1 h2 h3 h4 h5 k1
theorem g_tabOut {r : MR} {Q : SP} {σ : Sg} {pc : Nat} {ls : List (Option AV)} {st : List AV} {dflt lo hi : Int} {offs : Array Int} {len : Nat} {x : Int32} {tgt : Nat} (h1 : decode (rc r) pc = .ok (.tableswitch dflt lo hi offs, len)) (h2 : x.toInt < lo ∨ hi < x.toInt) (h3 : (pc : Int) + dflt = (tgt : Int)) (k1 : WM r Q tgt (ls) (st) σ) : WM r Q pc (ls) (ai x :: st) σ := by
  exact i_tabOut h1 h2 h3 k1
theorem g_look {r : MR} {Q : SP} {σ : Sg} {pc : Nat} {ls : List (Option AV)} {st : List AV} {dflt : Int} {ps : Array (Int × Int)} {len : Nat} {x : Int32} {off : Int} {tgt : Nat} (h1 : decode (rc r) pc = .ok (.lookupswitch dflt ps, len)) (h2 : (ps.toList.zip (ps.toList.drop 1)).all (fun (a, next) => a.1 < next.1) = true) (h3 : Op.lookupswitch.offset ps.toList dflt x.toInt = off) (h4 : (pc : Int) + off = (tgt : Int)) (k1 : WM r Q tgt (ls) (st) σ) : WM r Q pc (ls) (ai x :: st) σ := by
  exact i_look h1 h2 h3 h4 k1
