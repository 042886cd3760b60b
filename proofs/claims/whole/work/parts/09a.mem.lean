/-! MEMORY BEHIND THE CONSTRUCTORS: a fixed shape, and one function of ints -/
abbrev Sg : Type := Nat → Nat → Int32
abbrev Sh : Type := (Nat × List (Option Nat)) ⊕ (Nat ⊕ List Nat)
def SHl : List Sh := [.inl (9, [some 1, some 6, some 11, some 33, some 72, some 73, some 76]),
  .inl (8, [some 2, some 4, none, none, none, none]),
  .inl (7, [some 3]),
  .inr (.inl 160),
  .inl (7, [some 5]),
  .inr (.inl 25),
  .inl (8, [some 7, some 9, none, none, none, none]),
  .inl (7, [some 8]),
  .inr (.inl 160),
  .inl (7, [some 10]),
  .inr (.inl 25),
  .inl (2, [some 12, none, none]),
  .inr (.inr [13, 18, 23, 28]),
  .inl (8, [some 14, some 16, none, none, none, none]),
  .inl (7, [some 15]),
  .inr (.inl 160),
  .inl (7, [some 17]),
  .inr (.inl 25),
  .inl (8, [some 19, some 21, none, none, none, none]),
  .inl (7, [some 20]),
  .inr (.inl 160),
  .inl (7, [some 22]),
  .inr (.inl 25),
  .inl (8, [some 24, some 26, none, none, none, none]),
  .inl (7, [some 25]),
  .inr (.inl 160),
  .inl (7, [some 27]),
  .inr (.inl 25),
  .inl (8, [some 29, some 31, none, none, none, none]),
  .inl (7, [some 30]),
  .inr (.inl 160),
  .inl (7, [some 32]),
  .inr (.inl 25),
  .inl (6, [some 34, some 45, some 60, some 62, some 64, some 66, some 68, some 70, none]),
  .inl (3, [some 35, some 37, some 39, some 41, some 43, none]),
  .inl (7, [some 36]),
  .inr (.inl 160),
  .inl (7, [some 38]),
  .inr (.inl 160),
  .inl (7, [some 40]),
  .inr (.inl 160),
  .inl (7, [some 42]),
  .inr (.inl 160),
  .inl (7, [some 44]),
  .inr (.inl 25),
  .inl (4, [some 46, some 48, some 50, some 52, some 54, some 56, some 58, none]),
  .inl (7, [some 47]),
  .inr (.inl 160),
  .inl (7, [some 49]),
  .inr (.inl 160),
  .inl (7, [some 51]),
  .inr (.inl 160),
  .inl (7, [some 53]),
  .inr (.inl 160),
  .inl (7, [some 55]),
  .inr (.inl 160),
  .inl (7, [some 57]),
  .inr (.inl 160),
  .inl (7, [some 59]),
  .inr (.inl 160),
  .inl (7, [some 61]),
  .inr (.inl 160),
  .inl (7, [some 63]),
  .inr (.inl 160),
  .inl (7, [some 65]),
  .inr (.inl 160),
  .inl (7, [some 67]),
  .inr (.inl 160),
  .inl (7, [some 69]),
  .inr (.inl 160),
  .inl (7, [some 71]),
  .inr (.inl 160),
  .inl (1, [none, none, none, none, none]),
  .inl (0, [some 74, none, none, none]),
  .inl (7, [some 75]),
  .inr (.inl 25),
  .inl (5, [some 77, none, none, none]),
  .inl (7, [some 78]),
  .inr (.inl 60),
  .inl (10, [some 80, some 81, some 82, none, some 83, none, some 84, some 85, some 86, some 87, some 88, none, none, some 89, some 90, some 91, some 92, some 93, some 94, some 95, some 96, none, none, none, none]),
  .inr (.inl 189),
  .inr (.inl 756),
  .inr (.inl 189),
  .inr (.inl 60),
  .inr (.inl 160),
  .inr (.inl 160),
  .inr (.inl 160),
  .inr (.inl 160),
  .inr (.inl 160),
  .inr (.inl 160),
  .inr (.inl 160),
  .inr (.inl 160),
  .inr (.inl 161),
  .inr (.inl 160),
  .inr (.inl 160),
  .inr (.inl 160),
  .inr (.inl 4)]
def fOf (σ : Sg) (c : Nat) (fl : List (Option Nat)) : List AV := fl.mapIdx (fun k o => match o with | none => ai (σ c k) | some q => ar q)
def cOf (σ : Sg) (c : Nat) : Sh → AC
  | .inl (ci, fl) => .inl (ci, fOf σ c fl)
  | .inr (.inl n) => .inr (.inl (n, σ c))
  | .inr (.inr l) => .inr (.inr (l.length, fun j => l[j]?))
def mem (σ : Sg) : AH := SHl.mapIdx (fun c s => cOf σ c s)
def up (σ : Sg) (c k : Nat) (x : Int32) : Sg := fun c' => if c' = c then upd (σ c) k x else σ c'
theorem up_ne {σ : Sg} {c k c' : Nat} {x : Int32} (h : c' ≠ c) : up σ c k x c' = σ c' := by simp [up, h]
theorem up_self {σ : Sg} {c k : Nat} {x : Int32} : up σ c k x c = upd (σ c) k x := by simp [up]
theorem up_hit {σ : Sg} {c k : Nat} {x : Int32} : up σ c k x c k = x := by simp [up, upd]
theorem up_miss {σ : Sg} {c k k' : Nat} {x : Int32} (h : k' ≠ k) : up σ c k x c k' = σ c k' := by simp [up, upd, h]
theorem up_eq {σ : Sg} {c k c' k' : Nat} {x : Int32} : up σ c k x c' k' = if c' = c ∧ k' = k then x else σ c' k' := by
  by_cases h : c' = c
  · subst h
    simp [up, upd]
  · simp [up, h]
theorem mem_get {σ : Sg} {c : Nat} {s : Sh} (h : SHl[c]? = some s) : (mem σ)[c]? = some (cOf σ c s) := by simp [mem, List.getElem?_mapIdx, h]
theorem fOf_int {σ : Sg} {c k : Nat} {fl : List (Option Nat)} (h : fl[k]? = some none) : (fOf σ c fl)[k]? = some (ai (σ c k)) := by simp [fOf, List.getElem?_mapIdx, h]
theorem fOf_ref {σ : Sg} {c k q : Nat} {fl : List (Option Nat)} (h : fl[k]? = some (some q)) : (fOf σ c fl)[k]? = some (ar q) := by simp [fOf, List.getElem?_mapIdx, h]
theorem fOf_set {σ : Sg} {c k : Nat} {x : Int32} {fl : List (Option Nat)} (h : fl[k]? = some none) : (fOf σ c fl).set k (ai x) = fOf (up σ c k x) c fl := by
  apply List.ext_getElem?
  intro i
  simp only [fOf, List.getElem?_set, List.getElem?_mapIdx, List.length_mapIdx]
  by_cases hi : k = i
  · subst hi
    obtain ⟨hl, hk⟩ := List.getElem?_eq_some_iff.mp h
    simp [hl, hk, up_hit]
  · rw [if_neg hi]
    congr 1
    funext o
    rw [up_miss (fun e => hi e.symm)]
theorem mem_setI {σ : Sg} {c ci k : Nat} {x : Int32} {fl : List (Option Nat)} (hs : SHl[c]? = some (.inl (ci, fl))) (h : fl[k]? = some none) : (mem σ).set c (.inl (ci, (fOf σ c fl).set k (ai x))) = mem (up σ c k x) := by
  apply List.ext_getElem?
  intro i
  simp only [mem, List.getElem?_set, List.getElem?_mapIdx, List.length_mapIdx]
  by_cases hi : c = i
  · subst hi
    have hl := (List.getElem?_eq_some_iff.mp hs).1
    simp only [if_true, hl, hs, Option.map_some, cOf]
    rw [fOf_set h]
  · rw [if_neg hi]
    congr 1
    funext s
    rcases s with ⟨a, b⟩ | n | l
    · show _ = Sum.inl _
      simp only [cOf, fOf]
      rw [up_ne (fun e => hi e.symm)]
    · simp only [cOf]
      rw [up_ne (fun e => hi e.symm)]
    · rfl
theorem mem_setA {σ : Sg} {c k n : Nat} {x : Int32} (hs : SHl[c]? = some (.inr (.inl n))) : (mem σ).set c (.inr (.inl (n, upd (σ c) k x))) = mem (up σ c k x) := by
  apply List.ext_getElem?
  intro i
  simp only [mem, List.getElem?_set, List.getElem?_mapIdx, List.length_mapIdx]
  by_cases hi : c = i
  · subst hi
    have hl := (List.getElem?_eq_some_iff.mp hs).1
    simp only [if_true, hl, hs, Option.map_some, cOf]
    rw [up_self]
  · rw [if_neg hi]
    congr 1
    funext s
    rcases s with ⟨a, b⟩ | n | l
    · simp only [cOf, fOf]
      rw [up_ne (fun e => hi e.symm)]
    · simp only [cOf]
      rw [up_ne (fun e => hi e.symm)]
    · rfl
abbrev SP : Type := Option AV → Sg → Prop
def lift (Q : SP) : AP := fun w h => ∃ σ', h = mem σ' ∧ Q w σ'
def WM (r : MR) (Q : SP) (pc : Nat) (ls : List (Option AV)) (st : List AV) (σ : Sg) : Prop := WPr r (lift Q) pc ls st (mem σ) 0 0
def CM (r : MR) (as : List AV) (σ : Sg) (Q : SP) : Prop := C r as (mem σ) 0 0 (lift Q)
theorem CM_in {r : MR} {as : List AV} {σ : Sg} {Q : SP} {ls : List (Option AV)} (hl : lsOf r as = ls) (k : WM r Q 0 ls [] σ) : CM r as σ Q := by
  subst hl
  exact C_in k
theorem CM.mono {r : MR} {as : List AV} {σ : Sg} {Q1 Q2 : SP} (k : CM r as σ Q1) (h : ∀ w σ', Q1 w σ' → Q2 w σ') : CM r as σ Q2 := C.mono k (fun _ _ ⟨σ', e, q⟩ => ⟨σ', e, h _ _ q⟩)
def Ret (v : Int32) (σ1 : Sg) : SP := fun w σ' => w = some (ai v) ∧ σ' = σ1
def RetV (σ1 : Sg) : SP := fun w σ' => w = none ∧ σ' = σ1
theorem Ret.i {v v' : Int32} {σ σ' : Sg} (h : v = v') (hs : σ = σ') : Ret v' σ' (some (ai v)) σ := ⟨by rw [h], hs⟩
theorem FITi {r' r : MR} (h1 : Nat.ble (rf r' + 1) (rf r) = true) (h2 : Nat.ble (8 + (rL r' + 11) + rl r') (rl r) = true) : FIT r' r := ⟨Nat.le_of_ble_eq_true h1, Nat.le_of_ble_eq_true h2⟩
