/-! MEMORY BEHIND THE CONSTRUCTORS: a fixed shape, and one function of ints -/
abbrev Sg : Type := Nat → Nat → Int32
abbrev Sh : Type := (Nat × List (Option Nat)) ⊕ (Nat ⊕ List Nat)
def SHl : List Sh := [.inl (9, [some 1, some 6, some 11, some 33, some 72, some 73, some 76]),
  .inl (8, [some 2, some 4, none, none, none, none]),
  .inl (7, [some 3]),
  .inr (.inl 160),
  .inl (7, [some 5]),
  .inr (.inl 25),
  .inl (8, [some 7, some 9, none, none, none, none]),
  .inl (7, [some 8]),
  .inr (.inl 160),
  .inl (7, [some 10]),
  .inr (.inl 25),
  .inl (2, [some 12, none, none]),
  .inr (.inr [13, 18, 23, 28]),
  .inl (8, [some 14, some 16, none, none, none, none]),
  .inl (7, [some 15]),
  .inr (.inl 160),
  .inl (7, [some 17]),
  .inr (.inl 25),
  .inl (8, [some 19, some 21, none, none, none, none]),
  .inl (7, [some 20]),
  .inr (.inl 160),
  .inl (7, [some 22]),
  .inr (.inl 25),
  .inl (8, [some 24, some 26, none, none, none, none]),
  .inl (7, [some 25]),
  .inr (.inl 160),
  .inl (7, [some 27]),
  .inr (.inl 25),
  .inl (8, [some 29, some 31, none, none, none, none]),
  .inl (7, [some 30]),
  .inr (.inl 160),
  .inl (7, [some 32]),
  .inr (.inl 25),
  .inl (6, [some 34, some 45, some 60, some 62, some 64, some 66, some 68, some 70, none]),
  .inl (3, [some 35, some 37, some 39, some 41, some 43, none]),
  .inl (7, [some 36]),
  .inr (.inl 160),
  .inl (7, [some 38]),
  .inr (.inl 160),
  .inl (7, [some 40]),
  .inr (.inl 160),
  .inl (7, [some 42]),
  .inr (.inl 160),
  .inl (7, [some 44]),
  .inr (.inl 25),
  .inl (4, [some 46, some 48, some 50, some 52, some 54, some 56, some 58, none]),
  .inl (7, [some 47]),
  .inr (.inl 160),
  .inl (7, [some 49]),
  .inr (.inl 160),
  .inl (7, [some 51]),
  .inr (.inl 160),
  .inl (7, [some 53]),
  .inr (.inl 160),
  .inl (7, [some 55]),
  .inr (.inl 160),
  .inl (7, [some 57]),
  .inr (.inl 160),
  .inl (7, [some 59]),
  .inr (.inl 160),
  .inl (7, [some 61]),
  .inr (.inl 160),
  .inl (7, [some 63]),
  .inr (.inl 160),
  .inl (7, [some 65]),
  .inr (.inl 160),
  .inl (7, [some 67]),
  .inr (.inl 160),
  .inl (7, [some 69]),
  .inr (.inl 160),
  .inl (7, [some 71]),
  .inr (.inl 160),
  .inl (1, [none, none, none, none, none]),
  .inl (0, [some 74, none, none, none]),
  .inl (7, [some 75]),
  .inr (.inl 25),
  .inl (5, [some 77, none, none, none]),
  .inl (7, [some 78]),
  .inr (.inl 60),
  .inl (10, [some 80, some 81, some 82, none, some 83, none, some 84, some 85, some 86, some 87, some 88, none, none, some 89, some 90, some 91, some 92, some 93, some 94, some 95, some 96, none, none, none, none]),
  .inr (.inl 189),
  .inr (.inl 756),
  .inr (.inl 189),
  .inr (.inl 60),
  .inr (.inl 160),
  .inr (.inl 160),
  .inr (.inl 160),
  .inr (.inl 160),
  .inr (.inl 160),
  .inr (.inl 160),
  .inr (.inl 160),
  .inr (.inl 160),
  .inr (.inl 161),
  .inr (.inl 160),
  .inr (.inl 160),
  .inr (.inl 160),
  .inr (.inl 4)]
def fOf (σ : Sg) (c : Nat) (fl : List (Option Nat)) : List AV := fl.mapIdx (fun k o => match o with | none => ai (σ c k) | some q => ar q)
def cOf (σ : Sg) (c : Nat) : Sh → AC
  | .inl (ci, fl) => .inl (ci, fOf σ c fl)
  | .inr (.inl n) => .inr (.inl (n, σ c))
  | .inr (.inr l) => .inr (.inr (l.length, fun j => l[j]?))
def mem (σ : Sg) : AH := SHl.mapIdx (fun c s => cOf σ c s)
def up (σ : Sg) (c k : Nat) (x : Int32) : Sg := fun c' => if c' = c then upd (σ c) k x else σ c'
theorem up_ne {σ : Sg} {c k c' : Nat} {x : Int32} (h : c' ≠ c) : up σ c k x c' = σ c' := by simp [up, h]
theorem up_self {σ : Sg} {c k : Nat} {x : Int32} : up σ c k x c = upd (σ c) k x := by simp [up]
theorem up_hit {σ : Sg} {c k : Nat} {x : Int32} : up σ c k x c k = x := by simp [up, upd]
theorem up_miss {σ : Sg} {c k k' : Nat} {x : Int32} (h : k' ≠ k) : up σ c k x c k' = σ c k' := by simp [up, upd, h]
theorem up_eq {σ : Sg} {c k c' k' : Nat} {x : Int32} : up σ c k x c' k' = if c' = c ∧ k' = k then x else σ c' k' := by
  by_cases h : c' = c
  · subst h
    simp [up, upd]
  · simp [up, h]
theorem mem_get {σ : Sg} {c : Nat} {s : Sh} (h : SHl[c]? = some s) : (mem σ)[c]? = some (cOf σ c s) := by simp [mem, List.getElem?_mapIdx, h]
theorem fOf_int {σ : Sg} {c k : Nat} {fl : List (Option Nat)} (h : fl[k]? = some none) : (fOf σ c fl)[k]? = some (ai (σ c k)) := by simp [fOf, List.getElem?_mapIdx, h]
theorem fOf_ref {σ : Sg} {c k q : Nat} {fl : List (Option Nat)} (h : fl[k]? = some (some q)) : (fOf σ c fl)[k]? = some (ar q) := by simp [fOf, List.getElem?_mapIdx, h]
theorem fOf_set {σ : Sg} {c k : Nat} {x : Int32} {fl : List (Option Nat)} (h : fl[k]? = some none) : (fOf σ c fl).set k (ai x) = fOf (up σ c k x) c fl := by
  apply List.ext_getElem?
  intro i
  simp only [fOf, List.getElem?_set, List.getElem?_mapIdx, List.length_mapIdx]
  by_cases hi : k = i
  · subst hi
    have hl := (List.getElem?_eq_some_iff.mp h).1
    simp [h, hl, up_hit]
  · rw [if_neg hi]
    congr 1
    funext o
    rw [up_miss (fun e => hi e.symm)]
theorem mem_setI {σ : Sg} {c ci k : Nat} {x : Int32} {fl : List (Option Nat)} (hs : SHl[c]? = some (.inl (ci, fl))) (h : fl[k]? = some none) : (mem σ).set c (.inl (ci, (fOf σ c fl).set k (ai x))) = mem (up σ c k x) := by
  apply List.ext_getElem?
  intro i
  simp only [mem, List.getElem?_set, List.getElem?_mapIdx, List.length_mapIdx]
  by_cases hi : c = i
  · subst hi
    have hl := (List.getElem?_eq_some_iff.mp hs).1
    simp only [if_true, hl, hs, Option.map_some, cOf]
    rw [fOf_set h]
  · rw [if_neg hi]
    congr 1
    funext s
    rcases s with ⟨a, b⟩ | n | l
    · show _ = Sum.inl _
      simp only [cOf, fOf]
      rw [up_ne (fun e => hi e.symm)]
    · simp only [cOf]
      rw [up_ne (fun e => hi e.symm)]
    · rfl
theorem mem_setA {σ : Sg} {c k n : Nat} {x : Int32} (hs : SHl[c]? = some (.inr (.inl n))) : (mem σ).set c (.inr (.inl (n, upd (σ c) k x))) = mem (up σ c k x) := by
  apply List.ext_getElem?
  intro i
  simp only [mem, List.getElem?_set, List.getElem?_mapIdx, List.length_mapIdx]
  by_cases hi : c = i
  · subst hi
    have hl := (List.getElem?_eq_some_iff.mp hs).1
    simp only [if_true, hl, hs, Option.map_some, cOf]
    rw [up_self]
  · rw [if_neg hi]
    congr 1
    funext s
    rcases s with ⟨a, b⟩ | n | l
    · simp only [cOf, fOf]
      rw [up_ne (fun e => hi e.symm)]
    · simp only [cOf]
      rw [up_ne (fun e => hi e.symm)]
    · rfl
abbrev SP : Type := Option AV → Sg → Prop
def lift (Q : SP) : AP := fun w h => ∃ σ', h = mem σ' ∧ Q w σ'
def WM (r : MR) (Q : SP) (pc : Nat) (ls : List (Option AV)) (st : List AV) (σ : Sg) : Prop := WPr r (lift Q) pc ls st (mem σ) 0 0
def CM (r : MR) (as : List AV) (σ : Sg) (Q : SP) : Prop := C r as (mem σ) 0 0 (lift Q)
theorem CM_in {r : MR} {as : List AV} {σ : Sg} {Q : SP} {ls : List (Option AV)} (hl : lsOf r as = ls) (k : WM r Q 0 ls [] σ) : CM r as σ Q := by
  subst hl
  exact C_in k
theorem CM.mono {r : MR} {as : List AV} {σ : Sg} {Q1 Q2 : SP} (k : CM r as σ Q1) (h : ∀ w σ', Q1 w σ' → Q2 w σ') : CM r as σ Q2 := C.mono k (fun _ _ ⟨σ', e, q⟩ => ⟨σ', e, h _ _ q⟩)
def Ret (v : Int32) (σ1 : Sg) : SP := fun w σ' => w = some (ai v) ∧ σ' = σ1
def RetV (σ1 : Sg) : SP := fun w σ' => w = none ∧ σ' = σ1
theorem Ret.i {v v' : Int32} {σ σ' : Sg} (h : v = v') (hs : σ = σ') : Ret v' σ' (some (ai v)) σ := ⟨by rw [h], hs⟩
theorem FITi {r' r : MR} (h1 : Nat.ble (rf r' + 1) (rf r) = true) (h2 : Nat.ble (8 + (rL r' + 11) + rl r') (rl r) = true) : FIT r' r := ⟨Nat.le_of_ble_eq_true h1, Nat.le_of_ble_eq_true h2⟩
theorem g_iconst {r : MR} {Q : SP} {σ : Sg} {pc : Nat} {ls : List (Option AV)} {st : List AV} {n : Int} {v : Int32} {p0 : Nat} (h1 : decode (rc r) pc = .ok (.iconst n, 1)) (h2 : Int32.ofInt n = v) (e1 : pc + 1 = p0) (k1 : WM r Q p0 (ls) (ai v :: st) σ) : WM r Q pc (ls) (st) σ := by
  subst e1; exact i_iconst h1 h2 k1
theorem g_bipush {r : MR} {Q : SP} {σ : Sg} {pc : Nat} {ls : List (Option AV)} {st : List AV} {n : Int} {v : Int32} {p0 : Nat} (h1 : decode (rc r) pc = .ok (.bipush n, 2)) (h2 : (Int8.ofInt n).toInt32 = v) (e1 : pc + 2 = p0) (k1 : WM r Q p0 (ls) (ai v :: st) σ) : WM r Q pc (ls) (st) σ := by
  subst e1; exact i_bipush h1 h2 k1
theorem g_sipush {r : MR} {Q : SP} {σ : Sg} {pc : Nat} {ls : List (Option AV)} {st : List AV} {n : Int} {v : Int32} {p0 : Nat} (h1 : decode (rc r) pc = .ok (.sipush n, 3)) (h2 : (Int16.ofInt n).toInt32 = v) (e1 : pc + 3 = p0) (k1 : WM r Q p0 (ls) (ai v :: st) σ) : WM r Q pc (ls) (st) σ := by
  subst e1; exact i_sipush h1 h2 k1
theorem g_ldc {r : MR} {Q : SP} {σ : Sg} {pc : Nat} {ls : List (Option AV)} {st : List AV} {i : Nat} {v : Int32} {p0 : Nat} (h1 : decode (rc r) pc = .ok (.ldc i, 2)) (h2 : Cond.constant (ro r) i v ∈ Wl) (e1 : pc + 2 = p0) (k1 : WM r Q p0 (ls) (ai v :: st) σ) : WM r Q pc (ls) (st) σ := by
  subst e1; exact i_ldc h1 h2 k1
theorem g_null {r : MR} {Q : SP} {σ : Sg} {pc : Nat} {ls : List (Option AV)} {st : List AV}  {p0 : Nat} (h1 : decode (rc r) pc = .ok (.aconst_null, 1)) (e1 : pc + 1 = p0) (k1 : WM r Q p0 (ls) (an :: st) σ) : WM r Q pc (ls) (st) σ := by
  subst e1; exact i_null h1 k1
theorem g_iload_n {r : MR} {Q : SP} {σ : Sg} {pc : Nat} {ls : List (Option AV)} {st : List AV} {k : Fin 4} {i : Nat} {x : Int32} {p0 : Nat} (h1 : decode (rc r) pc = .ok (.iload_n k, 1)) (h2 : (k : Nat) = i) (h3 : ls[i]? = some (some (ai x))) (e1 : pc + 1 = p0) (k1 : WM r Q p0 (ls) (ai x :: st) σ) : WM r Q pc (ls) (st) σ := by
  subst e1; exact i_iload_n h1 h2 h3 k1
theorem g_iload {r : MR} {Q : SP} {σ : Sg} {pc : Nat} {ls : List (Option AV)} {st : List AV} {i : Nat} {x : Int32} {p0 : Nat} (h1 : decode (rc r) pc = .ok (.iload i, 2)) (h2 : ls[i]? = some (some (ai x))) (e1 : pc + 2 = p0) (k1 : WM r Q p0 (ls) (ai x :: st) σ) : WM r Q pc (ls) (st) σ := by
  subst e1; exact i_iload h1 h2 k1
theorem g_aload_n {r : MR} {Q : SP} {σ : Sg} {pc : Nat} {ls : List (Option AV)} {st : List AV} {k : Fin 4} {i : Nat} {x : Nat} {p0 : Nat} (h1 : decode (rc r) pc = .ok (.aload_n k, 1)) (h2 : (k : Nat) = i) (h3 : ls[i]? = some (some (ar x))) (e1 : pc + 1 = p0) (k1 : WM r Q p0 (ls) (ar x :: st) σ) : WM r Q pc (ls) (st) σ := by
  subst e1; exact i_aload_n h1 h2 h3 k1
theorem g_aload {r : MR} {Q : SP} {σ : Sg} {pc : Nat} {ls : List (Option AV)} {st : List AV} {i : Nat} {x : Nat} {p0 : Nat} (h1 : decode (rc r) pc = .ok (.aload i, 2)) (h2 : ls[i]? = some (some (ar x))) (e1 : pc + 2 = p0) (k1 : WM r Q p0 (ls) (ar x :: st) σ) : WM r Q pc (ls) (st) σ := by
  subst e1; exact i_aload h1 h2 k1
theorem g_istore_n {r : MR} {Q : SP} {σ : Sg} {pc : Nat} {ls : List (Option AV)} {st : List AV} {k : Fin 4} {i : Nat} {x : Int32} {p0 : Nat} {ls2 : List (Option AV)} (h1 : decode (rc r) pc = .ok (.istore_n k, 1)) (h2 : (k : Nat) = i) (h3 : i < ls.length) (e1 : pc + 1 = p0) (el : ls.set i (some (ai x)) = ls2) (k1 : WM r Q p0 (ls2) (st) σ) : WM r Q pc (ls) (ai x :: st) σ := by
  subst e1; subst el; exact i_istore_n h1 h2 h3 k1
theorem g_istore {r : MR} {Q : SP} {σ : Sg} {pc : Nat} {ls : List (Option AV)} {st : List AV} {i : Nat} {x : Int32} {p0 : Nat} {ls2 : List (Option AV)} (h1 : decode (rc r) pc = .ok (.istore i, 2)) (h2 : i < ls.length) (e1 : pc + 2 = p0) (el : ls.set i (some (ai x)) = ls2) (k1 : WM r Q p0 (ls2) (st) σ) : WM r Q pc (ls) (ai x :: st) σ := by
  subst e1; subst el; exact i_istore h1 h2 k1
theorem g_astore_n {r : MR} {Q : SP} {σ : Sg} {pc : Nat} {ls : List (Option AV)} {st : List AV} {k : Fin 4} {i : Nat} {x : Nat} {p0 : Nat} {ls2 : List (Option AV)} (h1 : decode (rc r) pc = .ok (.astore_n k, 1)) (h2 : (k : Nat) = i) (h3 : i < ls.length) (e1 : pc + 1 = p0) (el : ls.set i (some (ar x)) = ls2) (k1 : WM r Q p0 (ls2) (st) σ) : WM r Q pc (ls) (ar x :: st) σ := by
  subst e1; subst el; exact i_astore_n h1 h2 h3 k1
theorem g_astore {r : MR} {Q : SP} {σ : Sg} {pc : Nat} {ls : List (Option AV)} {st : List AV} {i : Nat} {x : Nat} {p0 : Nat} {ls2 : List (Option AV)} (h1 : decode (rc r) pc = .ok (.astore i, 2)) (h2 : i < ls.length) (e1 : pc + 2 = p0) (el : ls.set i (some (ar x)) = ls2) (k1 : WM r Q p0 (ls2) (st) σ) : WM r Q pc (ls) (ar x :: st) σ := by
  subst e1; subst el; exact i_astore h1 h2 k1
theorem g_iinc {r : MR} {Q : SP} {σ : Sg} {pc : Nat} {ls : List (Option AV)} {st : List AV} {i : Nat} {n : Int} {x : Int32} {p0 : Nat} {y : Int32} (h1 : decode (rc r) pc = .ok (.iinc i n, 3)) (h2 : ls[i]? = some (some (ai x))) (hy : x + Int32.ofInt n = y) (e1 : pc + 3 = p0) (k1 : WM r Q p0 (some (ai (x + Int32.ofInt n))) (st) σ) : WM r Q pc (ls) (st) σ := by
  subst hy; subst e1; exact i_iinc h1 h2 k1
theorem g_iadd {r : MR} {Q : SP} {σ : Sg} {pc : Nat} {ls : List (Option AV)} {st : List AV} {x y : Int32} {p0 : Nat} (h1 : decode (rc r) pc = .ok (.iadd, 1)) (e1 : pc + 1 = p0) (k1 : WM r Q p0 (ls) (ai (x + y) :: st) σ) : WM r Q pc (ls) (ai y :: ai x :: st) σ := by
  subst e1; exact i_iadd h1 k1
theorem g_isub {r : MR} {Q : SP} {σ : Sg} {pc : Nat} {ls : List (Option AV)} {st : List AV} {x y : Int32} {p0 : Nat} (h1 : decode (rc r) pc = .ok (.isub, 1)) (e1 : pc + 1 = p0) (k1 : WM r Q p0 (ls) (ai (x - y) :: st) σ) : WM r Q pc (ls) (ai y :: ai x :: st) σ := by
  subst e1; exact i_isub h1 k1
theorem g_imul {r : MR} {Q : SP} {σ : Sg} {pc : Nat} {ls : List (Option AV)} {st : List AV} {x y : Int32} {p0 : Nat} (h1 : decode (rc r) pc = .ok (.imul, 1)) (e1 : pc + 1 = p0) (k1 : WM r Q p0 (ls) (ai (x * y) :: st) σ) : WM r Q pc (ls) (ai y :: ai x :: st) σ := by
  subst e1; exact i_imul h1 k1
theorem g_ior {r : MR} {Q : SP} {σ : Sg} {pc : Nat} {ls : List (Option AV)} {st : List AV} {x y : Int32} {p0 : Nat} (h1 : decode (rc r) pc = .ok (.ior, 1)) (e1 : pc + 1 = p0) (k1 : WM r Q p0 (ls) (ai (x ||| y) :: st) σ) : WM r Q pc (ls) (ai y :: ai x :: st) σ := by
  subst e1; exact i_ior h1 k1
theorem g_iand {r : MR} {Q : SP} {σ : Sg} {pc : Nat} {ls : List (Option AV)} {st : List AV} {x y : Int32} {p0 : Nat} (h1 : decode (rc r) pc = .ok (.iand, 1)) (e1 : pc + 1 = p0) (k1 : WM r Q p0 (ls) (ai (x &&& y) :: st) σ) : WM r Q pc (ls) (ai y :: ai x :: st) σ := by
  subst e1; exact i_iand h1 k1
theorem g_ixor {r : MR} {Q : SP} {σ : Sg} {pc : Nat} {ls : List (Option AV)} {st : List AV} {x y : Int32} {p0 : Nat} (h1 : decode (rc r) pc = .ok (.ixor, 1)) (e1 : pc + 1 = p0) (k1 : WM r Q p0 (ls) (ai (x ^^^ y) :: st) σ) : WM r Q pc (ls) (ai y :: ai x :: st) σ := by
  subst e1; exact i_ixor h1 k1
theorem g_ishl {r : MR} {Q : SP} {σ : Sg} {pc : Nat} {ls : List (Option AV)} {st : List AV} {x y : Int32} {p0 : Nat} (h1 : decode (rc r) pc = .ok (.ishl, 1)) (e1 : pc + 1 = p0) (k1 : WM r Q p0 (ls) (ai (x <<< (y &&& 31)) :: st) σ) : WM r Q pc (ls) (ai y :: ai x :: st) σ := by
  subst e1; exact i_ishl h1 k1
theorem g_idiv {r : MR} {Q : SP} {σ : Sg} {pc : Nat} {ls : List (Option AV)} {st : List AV} {x y : Int32} {p0 : Nat} (h1 : decode (rc r) pc = .ok (.idiv, 1)) (h2 : ¬ y = 0) (e1 : pc + 1 = p0) (k1 : WM r Q p0 (ls) (ai (x / y) :: st) σ) : WM r Q pc (ls) (ai y :: ai x :: st) σ := by
  subst e1; exact i_idiv h1 h2 k1
theorem g_irem {r : MR} {Q : SP} {σ : Sg} {pc : Nat} {ls : List (Option AV)} {st : List AV} {x y : Int32} {p0 : Nat} (h1 : decode (rc r) pc = .ok (.irem, 1)) (h2 : ¬ y = 0) (e1 : pc + 1 = p0) (k1 : WM r Q p0 (ls) (ai (x - x / y * y) :: st) σ) : WM r Q pc (ls) (ai y :: ai x :: st) σ := by
  subst e1; exact i_irem h1 h2 k1
theorem g_dup {r : MR} {Q : SP} {σ : Sg} {pc : Nat} {ls : List (Option AV)} {st : List AV} {v : AV} {p0 : Nat} (h1 : decode (rc r) pc = .ok (.dup, 1)) (e1 : pc + 1 = p0) (k1 : WM r Q p0 (ls) (v :: v :: st) σ) : WM r Q pc (ls) (v :: st) σ := by
  subst e1; exact i_dup h1 k1
theorem g_dup2 {r : MR} {Q : SP} {σ : Sg} {pc : Nat} {ls : List (Option AV)} {st : List AV} {v u : AV} {p0 : Nat} (h1 : decode (rc r) pc = .ok (.dup2, 1)) (e1 : pc + 1 = p0) (k1 : WM r Q p0 (ls) (v :: u :: v :: u :: st) σ) : WM r Q pc (ls) (v :: u :: st) σ := by
  subst e1; exact i_dup2 h1 k1
theorem g_pop {r : MR} {Q : SP} {σ : Sg} {pc : Nat} {ls : List (Option AV)} {st : List AV} {v : AV} {p0 : Nat} (h1 : decode (rc r) pc = .ok (.pop, 1)) (e1 : pc + 1 = p0) (k1 : WM r Q p0 (ls) (st) σ) : WM r Q pc (ls) (v :: st) σ := by
  subst e1; exact i_pop h1 k1
theorem g_goto {r : MR} {Q : SP} {σ : Sg} {pc : Nat} {ls : List (Option AV)} {st : List AV} {off : Int} {tgt : Nat} (h1 : decode (rc r) pc = .ok (.goto off, 3)) (h2 : (pc : Int) + off = (tgt : Int)) (k1 : WM r Q tgt (ls) (st) σ) : WM r Q pc (ls) (st) σ := by
  exact i_goto h1 h2 k1
theorem g_icmp_eq {r : MR} {Q : SP} {σ : Sg} {pc : Nat} {ls : List (Option AV)} {st : List AV} {x y : Int32} {off : Int} {tgt : Nat} {p1 : Nat} (h1 : decode (rc r) pc = .ok (.if_icmp .eq off, 3)) (h2 : (pc : Int) + off = (tgt : Int)) (e2 : pc + 3 = p1) (k1 : x = y → WM r Q tgt (ls) (st) σ) (k2 : ¬ x = y → WM r Q p1 (ls) (st) σ) : WM r Q pc (ls) (ai y :: ai x :: st) σ := by
  subst e2; exact i_icmp_eq h1 h2 k1 k2
theorem g_if_eq {r : MR} {Q : SP} {σ : Sg} {pc : Nat} {ls : List (Option AV)} {st : List AV} {x : Int32} {off : Int} {tgt : Nat} {p1 : Nat} (h1 : decode (rc r) pc = .ok (.ifCond .eq off, 3)) (h2 : (pc : Int) + off = (tgt : Int)) (e2 : pc + 3 = p1) (k1 : x = 0 → WM r Q tgt (ls) (st) σ) (k2 : ¬ x = 0 → WM r Q p1 (ls) (st) σ) : WM r Q pc (ls) (ai x :: st) σ := by
  subst e2; exact i_if_eq h1 h2 k1 k2
theorem g_icmp_ne {r : MR} {Q : SP} {σ : Sg} {pc : Nat} {ls : List (Option AV)} {st : List AV} {x y : Int32} {off : Int} {tgt : Nat} {p1 : Nat} (h1 : decode (rc r) pc = .ok (.if_icmp .ne off, 3)) (h2 : (pc : Int) + off = (tgt : Int)) (e2 : pc + 3 = p1) (k1 : ¬ x = y → WM r Q tgt (ls) (st) σ) (k2 : x = y → WM r Q p1 (ls) (st) σ) : WM r Q pc (ls) (ai y :: ai x :: st) σ := by
  subst e2; exact i_icmp_ne h1 h2 k1 k2
theorem g_if_ne {r : MR} {Q : SP} {σ : Sg} {pc : Nat} {ls : List (Option AV)} {st : List AV} {x : Int32} {off : Int} {tgt : Nat} {p1 : Nat} (h1 : decode (rc r) pc = .ok (.ifCond .ne off, 3)) (h2 : (pc : Int) + off = (tgt : Int)) (e2 : pc + 3 = p1) (k1 : ¬ x = 0 → WM r Q tgt (ls) (st) σ) (k2 : x = 0 → WM r Q p1 (ls) (st) σ) : WM r Q pc (ls) (ai x :: st) σ := by
  subst e2; exact i_if_ne h1 h2 k1 k2
theorem g_icmp_lt {r : MR} {Q : SP} {σ : Sg} {pc : Nat} {ls : List (Option AV)} {st : List AV} {x y : Int32} {off : Int} {tgt : Nat} {p1 : Nat} (h1 : decode (rc r) pc = .ok (.if_icmp .lt off, 3)) (h2 : (pc : Int) + off = (tgt : Int)) (e2 : pc + 3 = p1) (k1 : x < y → WM r Q tgt (ls) (st) σ) (k2 : ¬ x < y → WM r Q p1 (ls) (st) σ) : WM r Q pc (ls) (ai y :: ai x :: st) σ := by
  subst e2; exact i_icmp_lt h1 h2 k1 k2
theorem g_if_lt {r : MR} {Q : SP} {σ : Sg} {pc : Nat} {ls : List (Option AV)} {st : List AV} {x : Int32} {off : Int} {tgt : Nat} {p1 : Nat} (h1 : decode (rc r) pc = .ok (.ifCond .lt off, 3)) (h2 : (pc : Int) + off = (tgt : Int)) (e2 : pc + 3 = p1) (k1 : x < 0 → WM r Q tgt (ls) (st) σ) (k2 : ¬ x < 0 → WM r Q p1 (ls) (st) σ) : WM r Q pc (ls) (ai x :: st) σ := by
  subst e2; exact i_if_lt h1 h2 k1 k2
theorem g_icmp_ge {r : MR} {Q : SP} {σ : Sg} {pc : Nat} {ls : List (Option AV)} {st : List AV} {x y : Int32} {off : Int} {tgt : Nat} {p1 : Nat} (h1 : decode (rc r) pc = .ok (.if_icmp .ge off, 3)) (h2 : (pc : Int) + off = (tgt : Int)) (e2 : pc + 3 = p1) (k1 : y ≤ x → WM r Q tgt (ls) (st) σ) (k2 : ¬ y ≤ x → WM r Q p1 (ls) (st) σ) : WM r Q pc (ls) (ai y :: ai x :: st) σ := by
  subst e2; exact i_icmp_ge h1 h2 k1 k2
theorem g_if_ge {r : MR} {Q : SP} {σ : Sg} {pc : Nat} {ls : List (Option AV)} {st : List AV} {x : Int32} {off : Int} {tgt : Nat} {p1 : Nat} (h1 : decode (rc r) pc = .ok (.ifCond .ge off, 3)) (h2 : (pc : Int) + off = (tgt : Int)) (e2 : pc + 3 = p1) (k1 : 0 ≤ x → WM r Q tgt (ls) (st) σ) (k2 : ¬ 0 ≤ x → WM r Q p1 (ls) (st) σ) : WM r Q pc (ls) (ai x :: st) σ := by
  subst e2; exact i_if_ge h1 h2 k1 k2
theorem g_icmp_gt {r : MR} {Q : SP} {σ : Sg} {pc : Nat} {ls : List (Option AV)} {st : List AV} {x y : Int32} {off : Int} {tgt : Nat} {p1 : Nat} (h1 : decode (rc r) pc = .ok (.if_icmp .gt off, 3)) (h2 : (pc : Int) + off = (tgt : Int)) (e2 : pc + 3 = p1) (k1 : y < x → WM r Q tgt (ls) (st) σ) (k2 : ¬ y < x → WM r Q p1 (ls) (st) σ) : WM r Q pc (ls) (ai y :: ai x :: st) σ := by
  subst e2; exact i_icmp_gt h1 h2 k1 k2
theorem g_if_gt {r : MR} {Q : SP} {σ : Sg} {pc : Nat} {ls : List (Option AV)} {st : List AV} {x : Int32} {off : Int} {tgt : Nat} {p1 : Nat} (h1 : decode (rc r) pc = .ok (.ifCond .gt off, 3)) (h2 : (pc : Int) + off = (tgt : Int)) (e2 : pc + 3 = p1) (k1 : 0 < x → WM r Q tgt (ls) (st) σ) (k2 : ¬ 0 < x → WM r Q p1 (ls) (st) σ) : WM r Q pc (ls) (ai x :: st) σ := by
  subst e2; exact i_if_gt h1 h2 k1 k2
theorem g_icmp_le {r : MR} {Q : SP} {σ : Sg} {pc : Nat} {ls : List (Option AV)} {st : List AV} {x y : Int32} {off : Int} {tgt : Nat} {p1 : Nat} (h1 : decode (rc r) pc = .ok (.if_icmp .le off, 3)) (h2 : (pc : Int) + off = (tgt : Int)) (e2 : pc + 3 = p1) (k1 : x ≤ y → WM r Q tgt (ls) (st) σ) (k2 : ¬ x ≤ y → WM r Q p1 (ls) (st) σ) : WM r Q pc (ls) (ai y :: ai x :: st) σ := by
  subst e2; exact i_icmp_le h1 h2 k1 k2
theorem g_if_le {r : MR} {Q : SP} {σ : Sg} {pc : Nat} {ls : List (Option AV)} {st : List AV} {x : Int32} {off : Int} {tgt : Nat} {p1 : Nat} (h1 : decode (rc r) pc = .ok (.ifCond .le off, 3)) (h2 : (pc : Int) + off = (tgt : Int)) (e2 : pc + 3 = p1) (k1 : x ≤ 0 → WM r Q tgt (ls) (st) σ) (k2 : ¬ x ≤ 0 → WM r Q p1 (ls) (st) σ) : WM r Q pc (ls) (ai x :: st) σ := by
  subst e2; exact i_if_le h1 h2 k1 k2
theorem g_ifnull {r : MR} {Q : SP} {σ : Sg} {pc : Nat} {ls : List (Option AV)} {st : List AV} {x : Nat} {off : Int} {p0 : Nat} (h1 : decode (rc r) pc = .ok (.ifnull off, 3)) (e1 : pc + 3 = p0) (k1 : WM r Q p0 (ls) (st) σ) : WM r Q pc (ls) (ar x :: st) σ := by
  subst e1; exact i_ifnull h1 k1
theorem g_tabIn {r : MR} {Q : SP} {σ : Sg} {pc : Nat} {ls : List (Option AV)} {st : List AV} {dflt lo hi : Int} {offs : Array Int} {len : Nat} {x : Int32} {off : Int} {tgt : Nat} (h1 : decode (rc r) pc = .ok (.tableswitch dflt lo hi offs, len)) (h2 : ¬ x.toInt < lo) (h3 : ¬ hi < x.toInt) (h4 : offs[(x.toInt - lo).toNat]? = some off) (h5 : (pc : Int) + off = (tgt : Int)) (k1 : WM r Q tgt (ls) (st) σ) : WM r Q pc (ls) (ai x :: st) σ := by
  exact i_tabIn h1 h2 h3 h4 h5 k1
theorem g_tabOut {r : MR} {Q : SP} {σ : Sg} {pc : Nat} {ls : List (Option AV)} {st : List AV} {dflt lo hi : Int} {offs : Array Int} {len : Nat} {x : Int32} {tgt : Nat} (h1 : decode (rc r) pc = .ok (.tableswitch dflt lo hi offs, len)) (h2 : x.toInt < lo ∨ hi < x.toInt) (h3 : (pc : Int) + dflt = (tgt : Int)) (k1 : WM r Q tgt (ls) (st) σ) : WM r Q pc (ls) (ai x :: st) σ := by
  exact i_tabOut h1 h2 h3 k1
theorem g_look {r : MR} {Q : SP} {σ : Sg} {pc : Nat} {ls : List (Option AV)} {st : List AV} {dflt : Int} {ps : Array (Int × Int)} {len : Nat} {x : Int32} {off : Int} {tgt : Nat} (h1 : decode (rc r) pc = .ok (.lookupswitch dflt ps, len)) (h2 : (ps.toList.zip (ps.toList.drop 1)).all (fun (a, next) => a.1 < next.1) = true) (h3 : Op.lookupswitch.offset ps.toList dflt x.toInt = off) (h4 : (pc : Int) + off = (tgt : Int)) (k1 : WM r Q tgt (ls) (st) σ) : WM r Q pc (ls) (ai x :: st) σ := by
  exact i_look h1 h2 h3 h4 k1
theorem nI_inj {a b : Nat} (ha : a < 2147483648) (hb : b < 2147483648) : nI a = nI b ↔ a = b := nI_eq (by simpa using ha) (by simpa using hb)
theorem nI_lt_iff {a b : Nat} (ha : a < 2147483648) (hb : b < 2147483648) : nI a < nI b ↔ a < b := nI_ltI (by simpa using ha) (by simpa using hb)
theorem nI_le_iff {a b : Nat} (ha : a < 2147483648) (hb : b < 2147483648) : nI a ≤ nI b ↔ a ≤ b := nI_leI (by simpa using ha) (by simpa using hb)
theorem g_iconstN {r : MR} {Q : SP} {σ : Sg} {pc : Nat} {ls : List (Option AV)} {st : List AV} {n : Int} {m : Nat} {p0 : Nat} (h1 : decode (rc r) pc = .ok (.iconst n, 1)) (h2 : Int32.ofInt n = nI m) (e1 : pc + 1 = p0) (k1 : WM r Q p0 ls (ai (nI m) :: st) σ) : WM r Q pc ls st σ := g_iconst h1 h2 e1 k1
theorem g_iaddN {r : MR} {Q : SP} {σ : Sg} {pc : Nat} {ls : List (Option AV)} {st : List AV} {x y p0 : Nat} (h1 : decode (rc r) pc = .ok (.iadd, 1)) (e1 : pc + 1 = p0) (k1 : WM r Q p0 ls (ai (nI (x + y)) :: st) σ) : WM r Q pc ls (ai (nI y) :: ai (nI x) :: st) σ := by
  refine g_iadd h1 e1 ?_
  rw [nI_add]
  exact k1
theorem g_imulN {r : MR} {Q : SP} {σ : Sg} {pc : Nat} {ls : List (Option AV)} {st : List AV} {x y p0 : Nat} (h1 : decode (rc r) pc = .ok (.imul, 1)) (e1 : pc + 1 = p0) (k1 : WM r Q p0 ls (ai (nI (x * y)) :: st) σ) : WM r Q pc ls (ai (nI y) :: ai (nI x) :: st) σ := by
  refine g_imul h1 e1 ?_
  rw [pk_mul]
  exact k1
theorem g_isubN {r : MR} {Q : SP} {σ : Sg} {pc : Nat} {ls : List (Option AV)} {st : List AV} {x y p0 : Nat} (h1 : decode (rc r) pc = .ok (.isub, 1)) (hle : y ≤ x) (e1 : pc + 1 = p0) (k1 : WM r Q p0 ls (ai (nI (x - y)) :: st) σ) : WM r Q pc ls (ai (nI y) :: ai (nI x) :: st) σ := by
  refine g_isub h1 e1 ?_
  rw [pk_sub hle]
  exact k1
theorem g_idivN {r : MR} {Q : SP} {σ : Sg} {pc : Nat} {ls : List (Option AV)} {st : List AV} {x y p0 : Nat} (h1 : decode (rc r) pc = .ok (.idiv, 1)) (hx : x < 2147483648) (hy : y < 2147483648) (h0 : 0 < y) (e1 : pc + 1 = p0) (k1 : WM r Q p0 ls (ai (nI (x / y)) :: st) σ) : WM r Q pc ls (ai (nI y) :: ai (nI x) :: st) σ := by
  refine g_idiv h1 (nI_ne0 h0 (by simpa using hy)) e1 ?_
  rw [pk_div (by simpa using hx) h0 (by simpa using hy)]
  exact k1
theorem g_iremN {r : MR} {Q : SP} {σ : Sg} {pc : Nat} {ls : List (Option AV)} {st : List AV} {x y p0 : Nat} (h1 : decode (rc r) pc = .ok (.irem, 1)) (hx : x < 2147483648) (hy : y < 2147483648) (h0 : 0 < y) (e1 : pc + 1 = p0) (k1 : WM r Q p0 ls (ai (nI (x % y)) :: st) σ) : WM r Q pc ls (ai (nI y) :: ai (nI x) :: st) σ := by
  refine g_irem h1 (nI_ne0 h0 (by simpa using hy)) e1 ?_
  rw [pk_rem (by simpa using hx) h0 (by simpa using hy)]
  exact k1
theorem g_icmpN_eq {r : MR} {Q : SP} {σ : Sg} {pc : Nat} {ls : List (Option AV)} {st : List AV} {x y : Nat} {off : Int} {tgt p1 : Nat} (h1 : decode (rc r) pc = .ok (.if_icmp .eq off, 3)) (h2 : (pc : Int) + off = (tgt : Int)) (hx : x < 2147483648) (hy : y < 2147483648) (e2 : pc + 3 = p1) (k1 : x = y → WM r Q tgt ls st σ) (k2 : ¬ x = y → WM r Q p1 ls st σ) : WM r Q pc ls (ai (nI y) :: ai (nI x) :: st) σ := g_icmp_eq h1 h2 e2 (fun q => k1 ((nI_inj hx hy).mp q)) (fun q => k2 (fun z => q ((nI_inj hx hy).mpr z)))
theorem g_ifN_eq {r : MR} {Q : SP} {σ : Sg} {pc : Nat} {ls : List (Option AV)} {st : List AV} {x : Nat} {off : Int} {tgt p1 : Nat} (h1 : decode (rc r) pc = .ok (.ifCond .eq off, 3)) (h2 : (pc : Int) + off = (tgt : Int)) (hx : x < 2147483648) (e2 : pc + 3 = p1) (k1 : x = 0 → WM r Q tgt ls st σ) (k2 : ¬ x = 0 → WM r Q p1 ls st σ) : WM r Q pc ls (ai (nI x) :: st) σ := g_if_eq h1 h2 e2 (fun q => k1 ((nI_inj hx (by decide)).mp q)) (fun q => k2 (fun z => q ((nI_inj hx (by decide)).mpr z)))
theorem g_icmpN_ne {r : MR} {Q : SP} {σ : Sg} {pc : Nat} {ls : List (Option AV)} {st : List AV} {x y : Nat} {off : Int} {tgt p1 : Nat} (h1 : decode (rc r) pc = .ok (.if_icmp .ne off, 3)) (h2 : (pc : Int) + off = (tgt : Int)) (hx : x < 2147483648) (hy : y < 2147483648) (e2 : pc + 3 = p1) (k1 : ¬ x = y → WM r Q tgt ls st σ) (k2 : x = y → WM r Q p1 ls st σ) : WM r Q pc ls (ai (nI y) :: ai (nI x) :: st) σ := g_icmp_ne h1 h2 e2 (fun q => k1 (fun z => q ((nI_inj hx hy).mpr z))) (fun q => k2 ((nI_inj hx hy).mp q))
theorem g_ifN_ne {r : MR} {Q : SP} {σ : Sg} {pc : Nat} {ls : List (Option AV)} {st : List AV} {x : Nat} {off : Int} {tgt p1 : Nat} (h1 : decode (rc r) pc = .ok (.ifCond .ne off, 3)) (h2 : (pc : Int) + off = (tgt : Int)) (hx : x < 2147483648) (e2 : pc + 3 = p1) (k1 : ¬ x = 0 → WM r Q tgt ls st σ) (k2 : x = 0 → WM r Q p1 ls st σ) : WM r Q pc ls (ai (nI x) :: st) σ := g_if_ne h1 h2 e2 (fun q => k1 (fun z => q ((nI_inj hx (by decide)).mpr z))) (fun q => k2 ((nI_inj hx (by decide)).mp q))
theorem g_icmpN_lt {r : MR} {Q : SP} {σ : Sg} {pc : Nat} {ls : List (Option AV)} {st : List AV} {x y : Nat} {off : Int} {tgt p1 : Nat} (h1 : decode (rc r) pc = .ok (.if_icmp .lt off, 3)) (h2 : (pc : Int) + off = (tgt : Int)) (hx : x < 2147483648) (hy : y < 2147483648) (e2 : pc + 3 = p1) (k1 : x < y → WM r Q tgt ls st σ) (k2 : ¬ x < y → WM r Q p1 ls st σ) : WM r Q pc ls (ai (nI y) :: ai (nI x) :: st) σ := g_icmp_lt h1 h2 e2 (fun q => k1 ((nI_lt_iff hx hy).mp q)) (fun q => k2 (fun z => q ((nI_lt_iff hx hy).mpr z)))
theorem g_ifN_lt {r : MR} {Q : SP} {σ : Sg} {pc : Nat} {ls : List (Option AV)} {st : List AV} {x : Nat} {off : Int} {tgt p1 : Nat} (h1 : decode (rc r) pc = .ok (.ifCond .lt off, 3)) (h2 : (pc : Int) + off = (tgt : Int)) (hx : x < 2147483648) (e2 : pc + 3 = p1) (k1 : x < 0 → WM r Q tgt ls st σ) (k2 : ¬ x < 0 → WM r Q p1 ls st σ) : WM r Q pc ls (ai (nI x) :: st) σ := g_if_lt h1 h2 e2 (fun q => k1 ((nI_lt_iff hx (by decide)).mp q)) (fun q => k2 (fun z => q ((nI_lt_iff hx (by decide)).mpr z)))
theorem g_icmpN_ge {r : MR} {Q : SP} {σ : Sg} {pc : Nat} {ls : List (Option AV)} {st : List AV} {x y : Nat} {off : Int} {tgt p1 : Nat} (h1 : decode (rc r) pc = .ok (.if_icmp .ge off, 3)) (h2 : (pc : Int) + off = (tgt : Int)) (hx : x < 2147483648) (hy : y < 2147483648) (e2 : pc + 3 = p1) (k1 : y ≤ x → WM r Q tgt ls st σ) (k2 : ¬ y ≤ x → WM r Q p1 ls st σ) : WM r Q pc ls (ai (nI y) :: ai (nI x) :: st) σ := g_icmp_ge h1 h2 e2 (fun q => k1 ((nI_le_iff hy hx).mp q)) (fun q => k2 (fun z => q ((nI_le_iff hy hx).mpr z)))
theorem g_ifN_ge {r : MR} {Q : SP} {σ : Sg} {pc : Nat} {ls : List (Option AV)} {st : List AV} {x : Nat} {off : Int} {tgt p1 : Nat} (h1 : decode (rc r) pc = .ok (.ifCond .ge off, 3)) (h2 : (pc : Int) + off = (tgt : Int)) (hx : x < 2147483648) (e2 : pc + 3 = p1) (k1 : 0 ≤ x → WM r Q tgt ls st σ) (k2 : ¬ 0 ≤ x → WM r Q p1 ls st σ) : WM r Q pc ls (ai (nI x) :: st) σ := g_if_ge h1 h2 e2 (fun q => k1 ((nI_le_iff (by decide) hx).mp q)) (fun q => k2 (fun z => q ((nI_le_iff (by decide) hx).mpr z)))
theorem g_icmpN_gt {r : MR} {Q : SP} {σ : Sg} {pc : Nat} {ls : List (Option AV)} {st : List AV} {x y : Nat} {off : Int} {tgt p1 : Nat} (h1 : decode (rc r) pc = .ok (.if_icmp .gt off, 3)) (h2 : (pc : Int) + off = (tgt : Int)) (hx : x < 2147483648) (hy : y < 2147483648) (e2 : pc + 3 = p1) (k1 : y < x → WM r Q tgt ls st σ) (k2 : ¬ y < x → WM r Q p1 ls st σ) : WM r Q pc ls (ai (nI y) :: ai (nI x) :: st) σ := g_icmp_gt h1 h2 e2 (fun q => k1 ((nI_lt_iff hy hx).mp q)) (fun q => k2 (fun z => q ((nI_lt_iff hy hx).mpr z)))
theorem g_ifN_gt {r : MR} {Q : SP} {σ : Sg} {pc : Nat} {ls : List (Option AV)} {st : List AV} {x : Nat} {off : Int} {tgt p1 : Nat} (h1 : decode (rc r) pc = .ok (.ifCond .gt off, 3)) (h2 : (pc : Int) + off = (tgt : Int)) (hx : x < 2147483648) (e2 : pc + 3 = p1) (k1 : 0 < x → WM r Q tgt ls st σ) (k2 : ¬ 0 < x → WM r Q p1 ls st σ) : WM r Q pc ls (ai (nI x) :: st) σ := g_if_gt h1 h2 e2 (fun q => k1 ((nI_lt_iff (by decide) hx).mp q)) (fun q => k2 (fun z => q ((nI_lt_iff (by decide) hx).mpr z)))
theorem g_icmpN_le {r : MR} {Q : SP} {σ : Sg} {pc : Nat} {ls : List (Option AV)} {st : List AV} {x y : Nat} {off : Int} {tgt p1 : Nat} (h1 : decode (rc r) pc = .ok (.if_icmp .le off, 3)) (h2 : (pc : Int) + off = (tgt : Int)) (hx : x < 2147483648) (hy : y < 2147483648) (e2 : pc + 3 = p1) (k1 : x ≤ y → WM r Q tgt ls st σ) (k2 : ¬ x ≤ y → WM r Q p1 ls st σ) : WM r Q pc ls (ai (nI y) :: ai (nI x) :: st) σ := g_icmp_le h1 h2 e2 (fun q => k1 ((nI_le_iff hx hy).mp q)) (fun q => k2 (fun z => q ((nI_le_iff hx hy).mpr z)))
theorem g_ifN_le {r : MR} {Q : SP} {σ : Sg} {pc : Nat} {ls : List (Option AV)} {st : List AV} {x : Nat} {off : Int} {tgt p1 : Nat} (h1 : decode (rc r) pc = .ok (.ifCond .le off, 3)) (h2 : (pc : Int) + off = (tgt : Int)) (hx : x < 2147483648) (e2 : pc + 3 = p1) (k1 : x ≤ 0 → WM r Q tgt ls st σ) (k2 : ¬ x ≤ 0 → WM r Q p1 ls st σ) : WM r Q pc ls (ai (nI x) :: st) σ := g_if_le h1 h2 e2 (fun q => k1 ((nI_le_iff hx (by decide)).mp q)) (fun q => k2 (fun z => q ((nI_le_iff hx (by decide)).mpr z)))
theorem g_getI {r : MR} {Q : SP} {σ : Sg} {pc : Nat} {ls : List (Option AV)} {st : List AV} {i ci k o p0 : Nat} {fl : List (Option Nat)} {v : Int32} (h1 : decode (rc r) pc = .ok (.getfield i, 3)) (h2 : FL (ro r) i ci k) (hs : SHl[o]? = some (.inl (ci, fl))) (hk : fl[k]? = some none) (hv : σ o k = v) (e1 : pc + 3 = p0) (k1 : WM r Q p0 ls (ai v :: st) σ) : WM r Q pc ls (ar o :: st) σ := by
  subst e1; subst hv; exact i_getf h1 h2 (mem_get hs) (fOf_int hk) k1
theorem g_getR {r : MR} {Q : SP} {σ : Sg} {pc : Nat} {ls : List (Option AV)} {st : List AV} {i ci k o q p0 : Nat} {fl : List (Option Nat)} (h1 : decode (rc r) pc = .ok (.getfield i, 3)) (h2 : FL (ro r) i ci k) (hs : SHl[o]? = some (.inl (ci, fl))) (hk : fl[k]? = some (some q)) (e1 : pc + 3 = p0) (k1 : WM r Q p0 ls (ar q :: st) σ) : WM r Q pc ls (ar o :: st) σ := by
  subst e1; exact i_getf h1 h2 (mem_get hs) (fOf_ref hk) k1
theorem g_put {r : MR} {Q : SP} {σ : Sg} {pc : Nat} {ls : List (Option AV)} {st : List AV} {i ci k o p0 : Nat} {fl : List (Option Nat)} {x : Int32} (h1 : decode (rc r) pc = .ok (.putfield i, 3)) (h2 : FL (ro r) i ci k) (hs : SHl[o]? = some (.inl (ci, fl))) (hk : fl[k]? = some none) (hn : FN ci k) (hp : FP ci k (ai x)) (e1 : pc + 3 = p0) (k1 : WM r Q p0 ls st (up σ o k x)) : WM r Q pc ls (ai x :: ar o :: st) σ := by
  subst e1
  refine i_putf h1 h2 (Or.inl hn) hp (mem_get hs) (List.getElem?_eq_some_iff.mp (fOf_int hk)).1 ?_
  rw [mem_setI hs hk]
  exact k1
theorem g_ald {r : MR} {Q : SP} {σ : Sg} {pc : Nat} {ls : List (Option AV)} {st : List AV} {o n p0 : Nat} {i v : Int32} (h1 : decode (rc r) pc = .ok (.iaload, 1)) (hs : SHl[o]? = some (.inr (.inl n))) (hi : vp_in i n) (hv : σ o i.toNatClampNeg = v) (e1 : pc + 1 = p0) (k1 : WM r Q p0 ls (ai v :: st) σ) : WM r Q pc ls (ai i :: ar o :: st) σ := by
  subst e1; subst hv; exact i_iald h1 (mem_get hs) hi k1
theorem g_aldN {r : MR} {Q : SP} {σ : Sg} {pc : Nat} {ls : List (Option AV)} {st : List AV} {o n j p0 : Nat} {v : Int32} (h1 : decode (rc r) pc = .ok (.iaload, 1)) (hs : SHl[o]? = some (.inr (.inl n))) (hn : n ≤ 1000) (hj : j < n) (hv : σ o j = v) (e1 : pc + 1 = p0) (k1 : WM r Q p0 ls (ai v :: st) σ) : WM r Q pc ls (ai (nI j) :: ar o :: st) σ := by
  have hl : j < 2 ^ 31 := by omega
  exact g_ald h1 hs (vp_in_nI hj (by omega)) (by rw [nI_clamp hl]; exact hv) e1 k1
theorem g_ast {r : MR} {Q : SP} {σ : Sg} {pc : Nat} {ls : List (Option AV)} {st : List AV} {o n p0 : Nat} {i x : Int32} (h1 : decode (rc r) pc = .ok (.iastore, 1)) (hs : SHl[o]? = some (.inr (.inl n))) (hi : vp_in i n) (e1 : pc + 1 = p0) (k1 : WM r Q p0 ls st (up σ o i.toNatClampNeg x)) : WM r Q pc ls (ai x :: ai i :: ar o :: st) σ := by
  subst e1
  refine i_iast h1 (mem_get hs) hi ?_
  rw [mem_setA hs]
  exact k1
theorem g_astN {r : MR} {Q : SP} {σ : Sg} {pc : Nat} {ls : List (Option AV)} {st : List AV} {o n j p0 : Nat} {x : Int32} (h1 : decode (rc r) pc = .ok (.iastore, 1)) (hs : SHl[o]? = some (.inr (.inl n))) (hn : n ≤ 1000) (hj : j < n) (e1 : pc + 1 = p0) (k1 : WM r Q p0 ls st (up σ o j x)) : WM r Q pc ls (ai x :: ai (nI j) :: ar o :: st) σ := by
  have hl : j < 2 ^ 31 := by omega
  refine g_ast h1 hs (vp_in_nI hj (by omega)) e1 ?_
  rw [nI_clamp hl]
  exact k1
theorem g_alen {r : MR} {Q : SP} {σ : Sg} {pc : Nat} {ls : List (Option AV)} {st : List AV} {o n p0 : Nat} (h1 : decode (rc r) pc = .ok (.arraylength, 1)) (hs : SHl[o]? = some (.inr (.inl n))) (e1 : pc + 1 = p0) (k1 : WM r Q p0 ls (ai (nI n) :: st) σ) : WM r Q pc ls (ar o :: st) σ := by
  subst e1; exact i_alen h1 (mem_get hs) k1
theorem g_alenq {r : MR} {Q : SP} {σ : Sg} {pc : Nat} {ls : List (Option AV)} {st : List AV} {o p0 : Nat} {l : List Nat} (h1 : decode (rc r) pc = .ok (.arraylength, 1)) (hs : SHl[o]? = some (.inr (.inr l))) (e1 : pc + 1 = p0) (k1 : WM r Q p0 ls (ai (nI l.length) :: st) σ) : WM r Q pc ls (ar o :: st) σ := by
  subst e1; exact i_alenq h1 (mem_get hs) k1
theorem g_aald {r : MR} {Q : SP} {σ : Sg} {pc : Nat} {ls : List (Option AV)} {st : List AV} {o j q p0 : Nat} {l : List Nat} (h1 : decode (rc r) pc = .ok (.aaload, 1)) (hs : SHl[o]? = some (.inr (.inr l))) (hn : l.length ≤ 1000) (hq : l[j]? = some q) (e1 : pc + 1 = p0) (k1 : WM r Q p0 ls (ar q :: st) σ) : WM r Q pc ls (ai (nI j) :: ar o :: st) σ := by
  subst e1
  have hj := (List.getElem?_eq_some_iff.mp hq).1
  have hl : j < 2 ^ 31 := by omega
  refine i_aald h1 (mem_get hs) (vp_in_nI hj (by omega)) ?_
  rw [nI_clamp hl, hq]
  exact k1
theorem g_ireturn {r : MR} {Q : SP} {σ : Sg} {pc : Nat} {ls : List (Option AV)} {x : Int32} {ty : FieldType} (h1 : decode (rc r) pc = .ok (.ireturn, 1)) (h2 : rt r = some ty) (h3 : narrow ty (.int x) = .int x) (k : Q (some (ai x)) σ) : WM r Q pc ls [ai x] σ := i_ireturn h1 h2 h3 ⟨_, rfl, k⟩
theorem g_areturn {r : MR} {Q : SP} {σ : Sg} {pc : Nat} {ls : List (Option AV)} {x : Nat} {C : String} (h1 : decode (rc r) pc = .ok (.areturn, 1)) (h2 : rt r = some (.object C)) (k : Q (some (ar x)) σ) : WM r Q pc ls [ar x] σ := i_areturn h1 h2 ⟨_, rfl, k⟩
theorem g_return {r : MR} {Q : SP} {σ : Sg} {pc : Nat} {ls : List (Option AV)} (h1 : decode (rc r) pc = .ok (.return_, 1)) (h2 : rt r = none) (k : Q none σ) : WM r Q pc ls [] σ := i_return h1 h2 ⟨_, rfl, k⟩
theorem bool_narrow {x : Int32} (h : x = 0 ∨ x = 1) : narrow .boolean (.int x) = .int x := by rcases h with rfl | rfl <;> rfl
theorem g_cV0R {r : MR} {Q : SP} {σ : Sg} {pc : Nat} {ls : List (Option AV)} {st : List AV} {i o ci p0 : Nat} {fl : List (Option Nat)} {r1 : MR} {v : Int32} {σ1 : Sg} (h1 : decode (rc r) pc = .ok (.invokevirtual i, 3)) (h2 : Cond.methodLink (ro r) i (ry r1) ∈ Wl) (h3 : MV r1 0) (hs : SHl[o]? = some (.inl (ci, fl))) (hk : KC ci (ro r1)) (hf : FIT r1 r) (hl : st.length ≤ 8) (hc : CM r1 (ar o :: []) σ (Ret v σ1)) (e1 : pc + 3 = p0) (k1 : WM r Q p0 ls (ai v :: st) σ1) : WM r Q pc ls (ar o :: st) σ := by
  subst e1
  refine i_callV (a := 0) (b := 0) (a1 := 0) (b1 := 0) (As := []) h1 h2 h3 (mem_get hs) hk hf hl ?_
  refine C.mono hc ?_
  rintro w h ⟨σ2, rfl, rfl, rfl⟩
  exact k1
theorem g_cS0R {r : MR} {Q : SP} {σ : Sg} {pc : Nat} {ls : List (Option AV)} {st : List AV} {i p0 : Nat} {r1 : MR} {v : Int32} {σ1 : Sg} (h1 : decode (rc r) pc = .ok (.invokestatic i, 3)) (h2 : Cond.methodLink (ro r) i (ry r1) ∈ Wl ∨ (ro r, i, ry r1) ∈ nestL) (h3 : MS r1 0) (hf : FIT r1 r) (hl : st.length ≤ 8) (hc : CM r1 ([]) σ (Ret v σ1)) (e1 : pc + 3 = p0) (k1 : WM r Q p0 ls (ai v :: st) σ1) : WM r Q pc ls (st) σ := by
  subst e1
  refine i_callS (a := 0) (b := 0) (a1 := 0) (b1 := 0) (As := []) h1 h2 h3 hf hl ?_
  refine C.mono hc ?_
  rintro w h ⟨σ2, rfl, rfl, rfl⟩
  exact k1
theorem g_cV0V {r : MR} {Q : SP} {σ : Sg} {pc : Nat} {ls : List (Option AV)} {st : List AV} {i o ci p0 : Nat} {fl : List (Option Nat)} {r1 : MR} {σ1 : Sg} (h1 : decode (rc r) pc = .ok (.invokevirtual i, 3)) (h2 : Cond.methodLink (ro r) i (ry r1) ∈ Wl) (h3 : MV r1 0) (hs : SHl[o]? = some (.inl (ci, fl))) (hk : KC ci (ro r1)) (hf : FIT r1 r) (hl : st.length ≤ 8) (hc : CM r1 (ar o :: []) σ (RetV σ1)) (e1 : pc + 3 = p0) (k1 : WM r Q p0 ls st σ1) : WM r Q pc ls (ar o :: st) σ := by
  subst e1
  refine i_callV (a := 0) (b := 0) (a1 := 0) (b1 := 0) (As := []) h1 h2 h3 (mem_get hs) hk hf hl ?_
  refine C.mono hc ?_
  rintro w h ⟨σ2, rfl, rfl, rfl⟩
  exact k1
theorem g_cS0V {r : MR} {Q : SP} {σ : Sg} {pc : Nat} {ls : List (Option AV)} {st : List AV} {i p0 : Nat} {r1 : MR} {σ1 : Sg} (h1 : decode (rc r) pc = .ok (.invokestatic i, 3)) (h2 : Cond.methodLink (ro r) i (ry r1) ∈ Wl ∨ (ro r, i, ry r1) ∈ nestL) (h3 : MS r1 0) (hf : FIT r1 r) (hl : st.length ≤ 8) (hc : CM r1 ([]) σ (RetV σ1)) (e1 : pc + 3 = p0) (k1 : WM r Q p0 ls st σ1) : WM r Q pc ls (st) σ := by
  subst e1
  refine i_callS (a := 0) (b := 0) (a1 := 0) (b1 := 0) (As := []) h1 h2 h3 hf hl ?_
  refine C.mono hc ?_
  rintro w h ⟨σ2, rfl, rfl, rfl⟩
  exact k1
theorem g_cV0G {r : MR} {Q : SP} {σ : Sg} {pc : Nat} {ls : List (Option AV)} {st : List AV} {i o ci p0 : Nat} {fl : List (Option Nat)} {r1 : MR} {Q1 : SP} (h1 : decode (rc r) pc = .ok (.invokevirtual i, 3)) (h2 : Cond.methodLink (ro r) i (ry r1) ∈ Wl) (h3 : MV r1 0) (hs : SHl[o]? = some (.inl (ci, fl))) (hk : KC ci (ro r1)) (hf : FIT r1 r) (hl : st.length ≤ 8) (hc : CM r1 (ar o :: []) σ Q1) (e1 : pc + 3 = p0) (k1 : ∀ w σ1, Q1 w σ1 → WM r Q p0 ls (w.toList ++ st) σ1) : WM r Q pc ls (ar o :: st) σ := by
  subst e1
  refine i_callV (a := 0) (b := 0) (a1 := 0) (b1 := 0) (As := []) h1 h2 h3 (mem_get hs) hk hf hl ?_
  refine C.mono hc ?_
  rintro w h ⟨σ2, rfl, q⟩
  exact k1 w σ2 q
theorem g_cS0G {r : MR} {Q : SP} {σ : Sg} {pc : Nat} {ls : List (Option AV)} {st : List AV} {i p0 : Nat} {r1 : MR} {Q1 : SP} (h1 : decode (rc r) pc = .ok (.invokestatic i, 3)) (h2 : Cond.methodLink (ro r) i (ry r1) ∈ Wl ∨ (ro r, i, ry r1) ∈ nestL) (h3 : MS r1 0) (hf : FIT r1 r) (hl : st.length ≤ 8) (hc : CM r1 ([]) σ Q1) (e1 : pc + 3 = p0) (k1 : ∀ w σ1, Q1 w σ1 → WM r Q p0 ls (w.toList ++ st) σ1) : WM r Q pc ls (st) σ := by
  subst e1
  refine i_callS (a := 0) (b := 0) (a1 := 0) (b1 := 0) (As := []) h1 h2 h3 hf hl ?_
  refine C.mono hc ?_
  rintro w h ⟨σ2, rfl, q⟩
  exact k1 w σ2 q
theorem g_cV1R {r : MR} {Q : SP} {σ : Sg} {pc : Nat} {ls : List (Option AV)} {st : List AV} {i o ci p0 : Nat} {fl : List (Option Nat)} {r1 : MR} {a1 : AV} {v : Int32} {σ1 : Sg} (h1 : decode (rc r) pc = .ok (.invokevirtual i, 3)) (h2 : Cond.methodLink (ro r) i (ry r1) ∈ Wl) (h3 : MV r1 1) (hs : SHl[o]? = some (.inl (ci, fl))) (hk : KC ci (ro r1)) (hf : FIT r1 r) (hl : st.length ≤ 8) (hc : CM r1 (ar o :: [a1]) σ (Ret v σ1)) (e1 : pc + 3 = p0) (k1 : WM r Q p0 ls (ai v :: st) σ1) : WM r Q pc ls (a1 :: ar o :: st) σ := by
  subst e1
  refine i_callV (a := 0) (b := 0) (a1 := 0) (b1 := 0) (As := [a1]) h1 h2 h3 (mem_get hs) hk hf hl ?_
  refine C.mono hc ?_
  rintro w h ⟨σ2, rfl, rfl, rfl⟩
  exact k1
theorem g_cS1R {r : MR} {Q : SP} {σ : Sg} {pc : Nat} {ls : List (Option AV)} {st : List AV} {i p0 : Nat} {r1 : MR} {a1 : AV} {v : Int32} {σ1 : Sg} (h1 : decode (rc r) pc = .ok (.invokestatic i, 3)) (h2 : Cond.methodLink (ro r) i (ry r1) ∈ Wl ∨ (ro r, i, ry r1) ∈ nestL) (h3 : MS r1 1) (hf : FIT r1 r) (hl : st.length ≤ 8) (hc : CM r1 ([a1]) σ (Ret v σ1)) (e1 : pc + 3 = p0) (k1 : WM r Q p0 ls (ai v :: st) σ1) : WM r Q pc ls (a1 :: st) σ := by
  subst e1
  refine i_callS (a := 0) (b := 0) (a1 := 0) (b1 := 0) (As := [a1]) h1 h2 h3 hf hl ?_
  refine C.mono hc ?_
  rintro w h ⟨σ2, rfl, rfl, rfl⟩
  exact k1
theorem g_cV1V {r : MR} {Q : SP} {σ : Sg} {pc : Nat} {ls : List (Option AV)} {st : List AV} {i o ci p0 : Nat} {fl : List (Option Nat)} {r1 : MR} {a1 : AV} {σ1 : Sg} (h1 : decode (rc r) pc = .ok (.invokevirtual i, 3)) (h2 : Cond.methodLink (ro r) i (ry r1) ∈ Wl) (h3 : MV r1 1) (hs : SHl[o]? = some (.inl (ci, fl))) (hk : KC ci (ro r1)) (hf : FIT r1 r) (hl : st.length ≤ 8) (hc : CM r1 (ar o :: [a1]) σ (RetV σ1)) (e1 : pc + 3 = p0) (k1 : WM r Q p0 ls st σ1) : WM r Q pc ls (a1 :: ar o :: st) σ := by
  subst e1
  refine i_callV (a := 0) (b := 0) (a1 := 0) (b1 := 0) (As := [a1]) h1 h2 h3 (mem_get hs) hk hf hl ?_
  refine C.mono hc ?_
  rintro w h ⟨σ2, rfl, rfl, rfl⟩
  exact k1
theorem g_cS1V {r : MR} {Q : SP} {σ : Sg} {pc : Nat} {ls : List (Option AV)} {st : List AV} {i p0 : Nat} {r1 : MR} {a1 : AV} {σ1 : Sg} (h1 : decode (rc r) pc = .ok (.invokestatic i, 3)) (h2 : Cond.methodLink (ro r) i (ry r1) ∈ Wl ∨ (ro r, i, ry r1) ∈ nestL) (h3 : MS r1 1) (hf : FIT r1 r) (hl : st.length ≤ 8) (hc : CM r1 ([a1]) σ (RetV σ1)) (e1 : pc + 3 = p0) (k1 : WM r Q p0 ls st σ1) : WM r Q pc ls (a1 :: st) σ := by
  subst e1
  refine i_callS (a := 0) (b := 0) (a1 := 0) (b1 := 0) (As := [a1]) h1 h2 h3 hf hl ?_
  refine C.mono hc ?_
  rintro w h ⟨σ2, rfl, rfl, rfl⟩
  exact k1
theorem g_cV1G {r : MR} {Q : SP} {σ : Sg} {pc : Nat} {ls : List (Option AV)} {st : List AV} {i o ci p0 : Nat} {fl : List (Option Nat)} {r1 : MR} {a1 : AV} {Q1 : SP} (h1 : decode (rc r) pc = .ok (.invokevirtual i, 3)) (h2 : Cond.methodLink (ro r) i (ry r1) ∈ Wl) (h3 : MV r1 1) (hs : SHl[o]? = some (.inl (ci, fl))) (hk : KC ci (ro r1)) (hf : FIT r1 r) (hl : st.length ≤ 8) (hc : CM r1 (ar o :: [a1]) σ Q1) (e1 : pc + 3 = p0) (k1 : ∀ w σ1, Q1 w σ1 → WM r Q p0 ls (w.toList ++ st) σ1) : WM r Q pc ls (a1 :: ar o :: st) σ := by
  subst e1
  refine i_callV (a := 0) (b := 0) (a1 := 0) (b1 := 0) (As := [a1]) h1 h2 h3 (mem_get hs) hk hf hl ?_
  refine C.mono hc ?_
  rintro w h ⟨σ2, rfl, q⟩
  exact k1 w σ2 q
theorem g_cS1G {r : MR} {Q : SP} {σ : Sg} {pc : Nat} {ls : List (Option AV)} {st : List AV} {i p0 : Nat} {r1 : MR} {a1 : AV} {Q1 : SP} (h1 : decode (rc r) pc = .ok (.invokestatic i, 3)) (h2 : Cond.methodLink (ro r) i (ry r1) ∈ Wl ∨ (ro r, i, ry r1) ∈ nestL) (h3 : MS r1 1) (hf : FIT r1 r) (hl : st.length ≤ 8) (hc : CM r1 ([a1]) σ Q1) (e1 : pc + 3 = p0) (k1 : ∀ w σ1, Q1 w σ1 → WM r Q p0 ls (w.toList ++ st) σ1) : WM r Q pc ls (a1 :: st) σ := by
  subst e1
  refine i_callS (a := 0) (b := 0) (a1 := 0) (b1 := 0) (As := [a1]) h1 h2 h3 hf hl ?_
  refine C.mono hc ?_
  rintro w h ⟨σ2, rfl, q⟩
  exact k1 w σ2 q
theorem g_cV2R {r : MR} {Q : SP} {σ : Sg} {pc : Nat} {ls : List (Option AV)} {st : List AV} {i o ci p0 : Nat} {fl : List (Option Nat)} {r1 : MR} {a1 a2 : AV} {v : Int32} {σ1 : Sg} (h1 : decode (rc r) pc = .ok (.invokevirtual i, 3)) (h2 : Cond.methodLink (ro r) i (ry r1) ∈ Wl) (h3 : MV r1 2) (hs : SHl[o]? = some (.inl (ci, fl))) (hk : KC ci (ro r1)) (hf : FIT r1 r) (hl : st.length ≤ 8) (hc : CM r1 (ar o :: [a1, a2]) σ (Ret v σ1)) (e1 : pc + 3 = p0) (k1 : WM r Q p0 ls (ai v :: st) σ1) : WM r Q pc ls (a2 :: a1 :: ar o :: st) σ := by
  subst e1
  refine i_callV (a := 0) (b := 0) (a1 := 0) (b1 := 0) (As := [a1, a2]) h1 h2 h3 (mem_get hs) hk hf hl ?_
  refine C.mono hc ?_
  rintro w h ⟨σ2, rfl, rfl, rfl⟩
  exact k1
theorem g_cS2R {r : MR} {Q : SP} {σ : Sg} {pc : Nat} {ls : List (Option AV)} {st : List AV} {i p0 : Nat} {r1 : MR} {a1 a2 : AV} {v : Int32} {σ1 : Sg} (h1 : decode (rc r) pc = .ok (.invokestatic i, 3)) (h2 : Cond.methodLink (ro r) i (ry r1) ∈ Wl ∨ (ro r, i, ry r1) ∈ nestL) (h3 : MS r1 2) (hf : FIT r1 r) (hl : st.length ≤ 8) (hc : CM r1 ([a1, a2]) σ (Ret v σ1)) (e1 : pc + 3 = p0) (k1 : WM r Q p0 ls (ai v :: st) σ1) : WM r Q pc ls (a2 :: a1 :: st) σ := by
  subst e1
  refine i_callS (a := 0) (b := 0) (a1 := 0) (b1 := 0) (As := [a1, a2]) h1 h2 h3 hf hl ?_
  refine C.mono hc ?_
  rintro w h ⟨σ2, rfl, rfl, rfl⟩
  exact k1
theorem g_cV2V {r : MR} {Q : SP} {σ : Sg} {pc : Nat} {ls : List (Option AV)} {st : List AV} {i o ci p0 : Nat} {fl : List (Option Nat)} {r1 : MR} {a1 a2 : AV} {σ1 : Sg} (h1 : decode (rc r) pc = .ok (.invokevirtual i, 3)) (h2 : Cond.methodLink (ro r) i (ry r1) ∈ Wl) (h3 : MV r1 2) (hs : SHl[o]? = some (.inl (ci, fl))) (hk : KC ci (ro r1)) (hf : FIT r1 r) (hl : st.length ≤ 8) (hc : CM r1 (ar o :: [a1, a2]) σ (RetV σ1)) (e1 : pc + 3 = p0) (k1 : WM r Q p0 ls st σ1) : WM r Q pc ls (a2 :: a1 :: ar o :: st) σ := by
  subst e1
  refine i_callV (a := 0) (b := 0) (a1 := 0) (b1 := 0) (As := [a1, a2]) h1 h2 h3 (mem_get hs) hk hf hl ?_
  refine C.mono hc ?_
  rintro w h ⟨σ2, rfl, rfl, rfl⟩
  exact k1
theorem g_cS2V {r : MR} {Q : SP} {σ : Sg} {pc : Nat} {ls : List (Option AV)} {st : List AV} {i p0 : Nat} {r1 : MR} {a1 a2 : AV} {σ1 : Sg} (h1 : decode (rc r) pc = .ok (.invokestatic i, 3)) (h2 : Cond.methodLink (ro r) i (ry r1) ∈ Wl ∨ (ro r, i, ry r1) ∈ nestL) (h3 : MS r1 2) (hf : FIT r1 r) (hl : st.length ≤ 8) (hc : CM r1 ([a1, a2]) σ (RetV σ1)) (e1 : pc + 3 = p0) (k1 : WM r Q p0 ls st σ1) : WM r Q pc ls (a2 :: a1 :: st) σ := by
  subst e1
  refine i_callS (a := 0) (b := 0) (a1 := 0) (b1 := 0) (As := [a1, a2]) h1 h2 h3 hf hl ?_
  refine C.mono hc ?_
  rintro w h ⟨σ2, rfl, rfl, rfl⟩
  exact k1
theorem g_cV2G {r : MR} {Q : SP} {σ : Sg} {pc : Nat} {ls : List (Option AV)} {st : List AV} {i o ci p0 : Nat} {fl : List (Option Nat)} {r1 : MR} {a1 a2 : AV} {Q1 : SP} (h1 : decode (rc r) pc = .ok (.invokevirtual i, 3)) (h2 : Cond.methodLink (ro r) i (ry r1) ∈ Wl) (h3 : MV r1 2) (hs : SHl[o]? = some (.inl (ci, fl))) (hk : KC ci (ro r1)) (hf : FIT r1 r) (hl : st.length ≤ 8) (hc : CM r1 (ar o :: [a1, a2]) σ Q1) (e1 : pc + 3 = p0) (k1 : ∀ w σ1, Q1 w σ1 → WM r Q p0 ls (w.toList ++ st) σ1) : WM r Q pc ls (a2 :: a1 :: ar o :: st) σ := by
  subst e1
  refine i_callV (a := 0) (b := 0) (a1 := 0) (b1 := 0) (As := [a1, a2]) h1 h2 h3 (mem_get hs) hk hf hl ?_
  refine C.mono hc ?_
  rintro w h ⟨σ2, rfl, q⟩
  exact k1 w σ2 q
theorem g_cS2G {r : MR} {Q : SP} {σ : Sg} {pc : Nat} {ls : List (Option AV)} {st : List AV} {i p0 : Nat} {r1 : MR} {a1 a2 : AV} {Q1 : SP} (h1 : decode (rc r) pc = .ok (.invokestatic i, 3)) (h2 : Cond.methodLink (ro r) i (ry r1) ∈ Wl ∨ (ro r, i, ry r1) ∈ nestL) (h3 : MS r1 2) (hf : FIT r1 r) (hl : st.length ≤ 8) (hc : CM r1 ([a1, a2]) σ Q1) (e1 : pc + 3 = p0) (k1 : ∀ w σ1, Q1 w σ1 → WM r Q p0 ls (w.toList ++ st) σ1) : WM r Q pc ls (a2 :: a1 :: st) σ := by
  subst e1
  refine i_callS (a := 0) (b := 0) (a1 := 0) (b1 := 0) (As := [a1, a2]) h1 h2 h3 hf hl ?_
  refine C.mono hc ?_
  rintro w h ⟨σ2, rfl, q⟩
  exact k1 w σ2 q
theorem g_cV3R {r : MR} {Q : SP} {σ : Sg} {pc : Nat} {ls : List (Option AV)} {st : List AV} {i o ci p0 : Nat} {fl : List (Option Nat)} {r1 : MR} {a1 a2 a3 : AV} {v : Int32} {σ1 : Sg} (h1 : decode (rc r) pc = .ok (.invokevirtual i, 3)) (h2 : Cond.methodLink (ro r) i (ry r1) ∈ Wl) (h3 : MV r1 3) (hs : SHl[o]? = some (.inl (ci, fl))) (hk : KC ci (ro r1)) (hf : FIT r1 r) (hl : st.length ≤ 8) (hc : CM r1 (ar o :: [a1, a2, a3]) σ (Ret v σ1)) (e1 : pc + 3 = p0) (k1 : WM r Q p0 ls (ai v :: st) σ1) : WM r Q pc ls (a3 :: a2 :: a1 :: ar o :: st) σ := by
  subst e1
  refine i_callV (a := 0) (b := 0) (a1 := 0) (b1 := 0) (As := [a1, a2, a3]) h1 h2 h3 (mem_get hs) hk hf hl ?_
  refine C.mono hc ?_
  rintro w h ⟨σ2, rfl, rfl, rfl⟩
  exact k1
theorem g_cS3R {r : MR} {Q : SP} {σ : Sg} {pc : Nat} {ls : List (Option AV)} {st : List AV} {i p0 : Nat} {r1 : MR} {a1 a2 a3 : AV} {v : Int32} {σ1 : Sg} (h1 : decode (rc r) pc = .ok (.invokestatic i, 3)) (h2 : Cond.methodLink (ro r) i (ry r1) ∈ Wl ∨ (ro r, i, ry r1) ∈ nestL) (h3 : MS r1 3) (hf : FIT r1 r) (hl : st.length ≤ 8) (hc : CM r1 ([a1, a2, a3]) σ (Ret v σ1)) (e1 : pc + 3 = p0) (k1 : WM r Q p0 ls (ai v :: st) σ1) : WM r Q pc ls (a3 :: a2 :: a1 :: st) σ := by
  subst e1
  refine i_callS (a := 0) (b := 0) (a1 := 0) (b1 := 0) (As := [a1, a2, a3]) h1 h2 h3 hf hl ?_
  refine C.mono hc ?_
  rintro w h ⟨σ2, rfl, rfl, rfl⟩
  exact k1
theorem g_cV3V {r : MR} {Q : SP} {σ : Sg} {pc : Nat} {ls : List (Option AV)} {st : List AV} {i o ci p0 : Nat} {fl : List (Option Nat)} {r1 : MR} {a1 a2 a3 : AV} {σ1 : Sg} (h1 : decode (rc r) pc = .ok (.invokevirtual i, 3)) (h2 : Cond.methodLink (ro r) i (ry r1) ∈ Wl) (h3 : MV r1 3) (hs : SHl[o]? = some (.inl (ci, fl))) (hk : KC ci (ro r1)) (hf : FIT r1 r) (hl : st.length ≤ 8) (hc : CM r1 (ar o :: [a1, a2, a3]) σ (RetV σ1)) (e1 : pc + 3 = p0) (k1 : WM r Q p0 ls st σ1) : WM r Q pc ls (a3 :: a2 :: a1 :: ar o :: st) σ := by
  subst e1
  refine i_callV (a := 0) (b := 0) (a1 := 0) (b1 := 0) (As := [a1, a2, a3]) h1 h2 h3 (mem_get hs) hk hf hl ?_
  refine C.mono hc ?_
  rintro w h ⟨σ2, rfl, rfl, rfl⟩
  exact k1
theorem g_cS3V {r : MR} {Q : SP} {σ : Sg} {pc : Nat} {ls : List (Option AV)} {st : List AV} {i p0 : Nat} {r1 : MR} {a1 a2 a3 : AV} {σ1 : Sg} (h1 : decode (rc r) pc = .ok (.invokestatic i, 3)) (h2 : Cond.methodLink (ro r) i (ry r1) ∈ Wl ∨ (ro r, i, ry r1) ∈ nestL) (h3 : MS r1 3) (hf : FIT r1 r) (hl : st.length ≤ 8) (hc : CM r1 ([a1, a2, a3]) σ (RetV σ1)) (e1 : pc + 3 = p0) (k1 : WM r Q p0 ls st σ1) : WM r Q pc ls (a3 :: a2 :: a1 :: st) σ := by
  subst e1
  refine i_callS (a := 0) (b := 0) (a1 := 0) (b1 := 0) (As := [a1, a2, a3]) h1 h2 h3 hf hl ?_
  refine C.mono hc ?_
  rintro w h ⟨σ2, rfl, rfl, rfl⟩
  exact k1
theorem g_cV3G {r : MR} {Q : SP} {σ : Sg} {pc : Nat} {ls : List (Option AV)} {st : List AV} {i o ci p0 : Nat} {fl : List (Option Nat)} {r1 : MR} {a1 a2 a3 : AV} {Q1 : SP} (h1 : decode (rc r) pc = .ok (.invokevirtual i, 3)) (h2 : Cond.methodLink (ro r) i (ry r1) ∈ Wl) (h3 : MV r1 3) (hs : SHl[o]? = some (.inl (ci, fl))) (hk : KC ci (ro r1)) (hf : FIT r1 r) (hl : st.length ≤ 8) (hc : CM r1 (ar o :: [a1, a2, a3]) σ Q1) (e1 : pc + 3 = p0) (k1 : ∀ w σ1, Q1 w σ1 → WM r Q p0 ls (w.toList ++ st) σ1) : WM r Q pc ls (a3 :: a2 :: a1 :: ar o :: st) σ := by
  subst e1
  refine i_callV (a := 0) (b := 0) (a1 := 0) (b1 := 0) (As := [a1, a2, a3]) h1 h2 h3 (mem_get hs) hk hf hl ?_
  refine C.mono hc ?_
  rintro w h ⟨σ2, rfl, q⟩
  exact k1 w σ2 q
theorem g_cS3G {r : MR} {Q : SP} {σ : Sg} {pc : Nat} {ls : List (Option AV)} {st : List AV} {i p0 : Nat} {r1 : MR} {a1 a2 a3 : AV} {Q1 : SP} (h1 : decode (rc r) pc = .ok (.invokestatic i, 3)) (h2 : Cond.methodLink (ro r) i (ry r1) ∈ Wl ∨ (ro r, i, ry r1) ∈ nestL) (h3 : MS r1 3) (hf : FIT r1 r) (hl : st.length ≤ 8) (hc : CM r1 ([a1, a2, a3]) σ Q1) (e1 : pc + 3 = p0) (k1 : ∀ w σ1, Q1 w σ1 → WM r Q p0 ls (w.toList ++ st) σ1) : WM r Q pc ls (a3 :: a2 :: a1 :: st) σ := by
  subst e1
  refine i_callS (a := 0) (b := 0) (a1 := 0) (b1 := 0) (As := [a1, a2, a3]) h1 h2 h3 hf hl ?_
  refine C.mono hc ?_
  rintro w h ⟨σ2, rfl, q⟩
  exact k1 w σ2 q
theorem g_cV4R {r : MR} {Q : SP} {σ : Sg} {pc : Nat} {ls : List (Option AV)} {st : List AV} {i o ci p0 : Nat} {fl : List (Option Nat)} {r1 : MR} {a1 a2 a3 a4 : AV} {v : Int32} {σ1 : Sg} (h1 : decode (rc r) pc = .ok (.invokevirtual i, 3)) (h2 : Cond.methodLink (ro r) i (ry r1) ∈ Wl) (h3 : MV r1 4) (hs : SHl[o]? = some (.inl (ci, fl))) (hk : KC ci (ro r1)) (hf : FIT r1 r) (hl : st.length ≤ 8) (hc : CM r1 (ar o :: [a1, a2, a3, a4]) σ (Ret v σ1)) (e1 : pc + 3 = p0) (k1 : WM r Q p0 ls (ai v :: st) σ1) : WM r Q pc ls (a4 :: a3 :: a2 :: a1 :: ar o :: st) σ := by
  subst e1
  refine i_callV (a := 0) (b := 0) (a1 := 0) (b1 := 0) (As := [a1, a2, a3, a4]) h1 h2 h3 (mem_get hs) hk hf hl ?_
  refine C.mono hc ?_
  rintro w h ⟨σ2, rfl, rfl, rfl⟩
  exact k1
theorem g_cS4R {r : MR} {Q : SP} {σ : Sg} {pc : Nat} {ls : List (Option AV)} {st : List AV} {i p0 : Nat} {r1 : MR} {a1 a2 a3 a4 : AV} {v : Int32} {σ1 : Sg} (h1 : decode (rc r) pc = .ok (.invokestatic i, 3)) (h2 : Cond.methodLink (ro r) i (ry r1) ∈ Wl ∨ (ro r, i, ry r1) ∈ nestL) (h3 : MS r1 4) (hf : FIT r1 r) (hl : st.length ≤ 8) (hc : CM r1 ([a1, a2, a3, a4]) σ (Ret v σ1)) (e1 : pc + 3 = p0) (k1 : WM r Q p0 ls (ai v :: st) σ1) : WM r Q pc ls (a4 :: a3 :: a2 :: a1 :: st) σ := by
  subst e1
  refine i_callS (a := 0) (b := 0) (a1 := 0) (b1 := 0) (As := [a1, a2, a3, a4]) h1 h2 h3 hf hl ?_
  refine C.mono hc ?_
  rintro w h ⟨σ2, rfl, rfl, rfl⟩
  exact k1
theorem g_cV4V {r : MR} {Q : SP} {σ : Sg} {pc : Nat} {ls : List (Option AV)} {st : List AV} {i o ci p0 : Nat} {fl : List (Option Nat)} {r1 : MR} {a1 a2 a3 a4 : AV} {σ1 : Sg} (h1 : decode (rc r) pc = .ok (.invokevirtual i, 3)) (h2 : Cond.methodLink (ro r) i (ry r1) ∈ Wl) (h3 : MV r1 4) (hs : SHl[o]? = some (.inl (ci, fl))) (hk : KC ci (ro r1)) (hf : FIT r1 r) (hl : st.length ≤ 8) (hc : CM r1 (ar o :: [a1, a2, a3, a4]) σ (RetV σ1)) (e1 : pc + 3 = p0) (k1 : WM r Q p0 ls st σ1) : WM r Q pc ls (a4 :: a3 :: a2 :: a1 :: ar o :: st) σ := by
  subst e1
  refine i_callV (a := 0) (b := 0) (a1 := 0) (b1 := 0) (As := [a1, a2, a3, a4]) h1 h2 h3 (mem_get hs) hk hf hl ?_
  refine C.mono hc ?_
  rintro w h ⟨σ2, rfl, rfl, rfl⟩
  exact k1
theorem g_cS4V {r : MR} {Q : SP} {σ : Sg} {pc : Nat} {ls : List (Option AV)} {st : List AV} {i p0 : Nat} {r1 : MR} {a1 a2 a3 a4 : AV} {σ1 : Sg} (h1 : decode (rc r) pc = .ok (.invokestatic i, 3)) (h2 : Cond.methodLink (ro r) i (ry r1) ∈ Wl ∨ (ro r, i, ry r1) ∈ nestL) (h3 : MS r1 4) (hf : FIT r1 r) (hl : st.length ≤ 8) (hc : CM r1 ([a1, a2, a3, a4]) σ (RetV σ1)) (e1 : pc + 3 = p0) (k1 : WM r Q p0 ls st σ1) : WM r Q pc ls (a4 :: a3 :: a2 :: a1 :: st) σ := by
  subst e1
  refine i_callS (a := 0) (b := 0) (a1 := 0) (b1 := 0) (As := [a1, a2, a3, a4]) h1 h2 h3 hf hl ?_
  refine C.mono hc ?_
  rintro w h ⟨σ2, rfl, rfl, rfl⟩
  exact k1
theorem g_cV4G {r : MR} {Q : SP} {σ : Sg} {pc : Nat} {ls : List (Option AV)} {st : List AV} {i o ci p0 : Nat} {fl : List (Option Nat)} {r1 : MR} {a1 a2 a3 a4 : AV} {Q1 : SP} (h1 : decode (rc r) pc = .ok (.invokevirtual i, 3)) (h2 : Cond.methodLink (ro r) i (ry r1) ∈ Wl) (h3 : MV r1 4) (hs : SHl[o]? = some (.inl (ci, fl))) (hk : KC ci (ro r1)) (hf : FIT r1 r) (hl : st.length ≤ 8) (hc : CM r1 (ar o :: [a1, a2, a3, a4]) σ Q1) (e1 : pc + 3 = p0) (k1 : ∀ w σ1, Q1 w σ1 → WM r Q p0 ls (w.toList ++ st) σ1) : WM r Q pc ls (a4 :: a3 :: a2 :: a1 :: ar o :: st) σ := by
  subst e1
  refine i_callV (a := 0) (b := 0) (a1 := 0) (b1 := 0) (As := [a1, a2, a3, a4]) h1 h2 h3 (mem_get hs) hk hf hl ?_
  refine C.mono hc ?_
  rintro w h ⟨σ2, rfl, q⟩
  exact k1 w σ2 q
theorem g_cS4G {r : MR} {Q : SP} {σ : Sg} {pc : Nat} {ls : List (Option AV)} {st : List AV} {i p0 : Nat} {r1 : MR} {a1 a2 a3 a4 : AV} {Q1 : SP} (h1 : decode (rc r) pc = .ok (.invokestatic i, 3)) (h2 : Cond.methodLink (ro r) i (ry r1) ∈ Wl ∨ (ro r, i, ry r1) ∈ nestL) (h3 : MS r1 4) (hf : FIT r1 r) (hl : st.length ≤ 8) (hc : CM r1 ([a1, a2, a3, a4]) σ Q1) (e1 : pc + 3 = p0) (k1 : ∀ w σ1, Q1 w σ1 → WM r Q p0 ls (w.toList ++ st) σ1) : WM r Q pc ls (a4 :: a3 :: a2 :: a1 :: st) σ := by
  subst e1
  refine i_callS (a := 0) (b := 0) (a1 := 0) (b1 := 0) (As := [a1, a2, a3, a4]) h1 h2 h3 hf hl ?_
  refine C.mono hc ?_
  rintro w h ⟨σ2, rfl, q⟩
  exact k1 w σ2 q
theorem g_cV5R {r : MR} {Q : SP} {σ : Sg} {pc : Nat} {ls : List (Option AV)} {st : List AV} {i o ci p0 : Nat} {fl : List (Option Nat)} {r1 : MR} {a1 a2 a3 a4 a5 : AV} {v : Int32} {σ1 : Sg} (h1 : decode (rc r) pc = .ok (.invokevirtual i, 3)) (h2 : Cond.methodLink (ro r) i (ry r1) ∈ Wl) (h3 : MV r1 5) (hs : SHl[o]? = some (.inl (ci, fl))) (hk : KC ci (ro r1)) (hf : FIT r1 r) (hl : st.length ≤ 8) (hc : CM r1 (ar o :: [a1, a2, a3, a4, a5]) σ (Ret v σ1)) (e1 : pc + 3 = p0) (k1 : WM r Q p0 ls (ai v :: st) σ1) : WM r Q pc ls (a5 :: a4 :: a3 :: a2 :: a1 :: ar o :: st) σ := by
  subst e1
  refine i_callV (a := 0) (b := 0) (a1 := 0) (b1 := 0) (As := [a1, a2, a3, a4, a5]) h1 h2 h3 (mem_get hs) hk hf hl ?_
  refine C.mono hc ?_
  rintro w h ⟨σ2, rfl, rfl, rfl⟩
  exact k1
theorem g_cV5V {r : MR} {Q : SP} {σ : Sg} {pc : Nat} {ls : List (Option AV)} {st : List AV} {i o ci p0 : Nat} {fl : List (Option Nat)} {r1 : MR} {a1 a2 a3 a4 a5 : AV} {σ1 : Sg} (h1 : decode (rc r) pc = .ok (.invokevirtual i, 3)) (h2 : Cond.methodLink (ro r) i (ry r1) ∈ Wl) (h3 : MV r1 5) (hs : SHl[o]? = some (.inl (ci, fl))) (hk : KC ci (ro r1)) (hf : FIT r1 r) (hl : st.length ≤ 8) (hc : CM r1 (ar o :: [a1, a2, a3, a4, a5]) σ (RetV σ1)) (e1 : pc + 3 = p0) (k1 : WM r Q p0 ls st σ1) : WM r Q pc ls (a5 :: a4 :: a3 :: a2 :: a1 :: ar o :: st) σ := by
  subst e1
  refine i_callV (a := 0) (b := 0) (a1 := 0) (b1 := 0) (As := [a1, a2, a3, a4, a5]) h1 h2 h3 (mem_get hs) hk hf hl ?_
  refine C.mono hc ?_
  rintro w h ⟨σ2, rfl, rfl, rfl⟩
  exact k1
theorem g_cV5G {r : MR} {Q : SP} {σ : Sg} {pc : Nat} {ls : List (Option AV)} {st : List AV} {i o ci p0 : Nat} {fl : List (Option Nat)} {r1 : MR} {a1 a2 a3 a4 a5 : AV} {Q1 : SP} (h1 : decode (rc r) pc = .ok (.invokevirtual i, 3)) (h2 : Cond.methodLink (ro r) i (ry r1) ∈ Wl) (h3 : MV r1 5) (hs : SHl[o]? = some (.inl (ci, fl))) (hk : KC ci (ro r1)) (hf : FIT r1 r) (hl : st.length ≤ 8) (hc : CM r1 (ar o :: [a1, a2, a3, a4, a5]) σ Q1) (e1 : pc + 3 = p0) (k1 : ∀ w σ1, Q1 w σ1 → WM r Q p0 ls (w.toList ++ st) σ1) : WM r Q pc ls (a5 :: a4 :: a3 :: a2 :: a1 :: ar o :: st) σ := by
  subst e1
  refine i_callV (a := 0) (b := 0) (a1 := 0) (b1 := 0) (As := [a1, a2, a3, a4, a5]) h1 h2 h3 (mem_get hs) hk hf hl ?_
  refine C.mono hc ?_
  rintro w h ⟨σ2, rfl, q⟩
  exact k1 w σ2 q
theorem g_cV6R {r : MR} {Q : SP} {σ : Sg} {pc : Nat} {ls : List (Option AV)} {st : List AV} {i o ci p0 : Nat} {fl : List (Option Nat)} {r1 : MR} {a1 a2 a3 a4 a5 a6 : AV} {v : Int32} {σ1 : Sg} (h1 : decode (rc r) pc = .ok (.invokevirtual i, 3)) (h2 : Cond.methodLink (ro r) i (ry r1) ∈ Wl) (h3 : MV r1 6) (hs : SHl[o]? = some (.inl (ci, fl))) (hk : KC ci (ro r1)) (hf : FIT r1 r) (hl : st.length ≤ 8) (hc : CM r1 (ar o :: [a1, a2, a3, a4, a5, a6]) σ (Ret v σ1)) (e1 : pc + 3 = p0) (k1 : WM r Q p0 ls (ai v :: st) σ1) : WM r Q pc ls (a6 :: a5 :: a4 :: a3 :: a2 :: a1 :: ar o :: st) σ := by
  subst e1
  refine i_callV (a := 0) (b := 0) (a1 := 0) (b1 := 0) (As := [a1, a2, a3, a4, a5, a6]) h1 h2 h3 (mem_get hs) hk hf hl ?_
  refine C.mono hc ?_
  rintro w h ⟨σ2, rfl, rfl, rfl⟩
  exact k1
theorem g_cV6V {r : MR} {Q : SP} {σ : Sg} {pc : Nat} {ls : List (Option AV)} {st : List AV} {i o ci p0 : Nat} {fl : List (Option Nat)} {r1 : MR} {a1 a2 a3 a4 a5 a6 : AV} {σ1 : Sg} (h1 : decode (rc r) pc = .ok (.invokevirtual i, 3)) (h2 : Cond.methodLink (ro r) i (ry r1) ∈ Wl) (h3 : MV r1 6) (hs : SHl[o]? = some (.inl (ci, fl))) (hk : KC ci (ro r1)) (hf : FIT r1 r) (hl : st.length ≤ 8) (hc : CM r1 (ar o :: [a1, a2, a3, a4, a5, a6]) σ (RetV σ1)) (e1 : pc + 3 = p0) (k1 : WM r Q p0 ls st σ1) : WM r Q pc ls (a6 :: a5 :: a4 :: a3 :: a2 :: a1 :: ar o :: st) σ := by
  subst e1
  refine i_callV (a := 0) (b := 0) (a1 := 0) (b1 := 0) (As := [a1, a2, a3, a4, a5, a6]) h1 h2 h3 (mem_get hs) hk hf hl ?_
  refine C.mono hc ?_
  rintro w h ⟨σ2, rfl, rfl, rfl⟩
  exact k1
theorem g_cV6G {r : MR} {Q : SP} {σ : Sg} {pc : Nat} {ls : List (Option AV)} {st : List AV} {i o ci p0 : Nat} {fl : List (Option Nat)} {r1 : MR} {a1 a2 a3 a4 a5 a6 : AV} {Q1 : SP} (h1 : decode (rc r) pc = .ok (.invokevirtual i, 3)) (h2 : Cond.methodLink (ro r) i (ry r1) ∈ Wl) (h3 : MV r1 6) (hs : SHl[o]? = some (.inl (ci, fl))) (hk : KC ci (ro r1)) (hf : FIT r1 r) (hl : st.length ≤ 8) (hc : CM r1 (ar o :: [a1, a2, a3, a4, a5, a6]) σ Q1) (e1 : pc + 3 = p0) (k1 : ∀ w σ1, Q1 w σ1 → WM r Q p0 ls (w.toList ++ st) σ1) : WM r Q pc ls (a6 :: a5 :: a4 :: a3 :: a2 :: a1 :: ar o :: st) σ := by
  subst e1
  refine i_callV (a := 0) (b := 0) (a1 := 0) (b1 := 0) (As := [a1, a2, a3, a4, a5, a6]) h1 h2 h3 (mem_get hs) hk hf hl ?_
  refine C.mono hc ?_
  rintro w h ⟨σ2, rfl, q⟩
  exact k1 w σ2 q
