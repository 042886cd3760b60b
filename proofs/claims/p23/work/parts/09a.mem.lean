/-! MEMORY BEHIND THE CONSTRUCTORS: a fixed shape, and one function of ints -/
abbrev Sg : Type := Nat → Nat → Int32
abbrev Sh : Type := (Nat × List (Option Nat)) ⊕ (Nat ⊕ List Nat)
def SHl : List Sh := [.inl (9, [some 1, some 6, some 11, some 33, some 72, some 73, some 76]),
  .inl (8, [some 2, some 4, none, none, none, none]),
  .inl (7, [some 3]),
  .inr (.inl 160),
  .inl (7, [some 5]),
  .inr (.inl 25),
  .inl (8, [some 7, some 9, none, none, none, none]),
  .inl (7, [some 8]),
  .inr (.inl 160),
  .inl (7, [some 10]),
  .inr (.inl 25),
  .inl (2, [some 12, none, none]),
  .inr (.inr [13, 18, 23, 28]),
  .inl (8, [some 14, some 16, none, none, none, none]),
  .inl (7, [some 15]),
  .inr (.inl 160),
  .inl (7, [some 17]),
  .inr (.inl 25),
  .inl (8, [some 19, some 21, none, none, none, none]),
  .inl (7, [some 20]),
  .inr (.inl 160),
  .inl (7, [some 22]),
  .inr (.inl 25),
  .inl (8, [some 24, some 26, none, none, none, none]),
  .inl (7, [some 25]),
  .inr (.inl 160),
  .inl (7, [some 27]),
  .inr (.inl 25),
  .inl (8, [some 29, some 31, none, none, none, none]),
  .inl (7, [some 30]),
  .inr (.inl 160),
  .inl (7, [some 32]),
  .inr (.inl 25),
  .inl (6, [some 34, some 45, some 60, some 62, some 64, some 66, some 68, some 70, none]),
  .inl (3, [some 35, some 37, some 39, some 41, some 43, none]),
  .inl (7, [some 36]),
  .inr (.inl 160),
  .inl (7, [some 38]),
  .inr (.inl 160),
  .inl (7, [some 40]),
  .inr (.inl 160),
  .inl (7, [some 42]),
  .inr (.inl 160),
  .inl (7, [some 44]),
  .inr (.inl 25),
  .inl (4, [some 46, some 48, some 50, some 52, some 54, some 56, some 58, none]),
  .inl (7, [some 47]),
  .inr (.inl 160),
  .inl (7, [some 49]),
  .inr (.inl 160),
  .inl (7, [some 51]),
  .inr (.inl 160),
  .inl (7, [some 53]),
  .inr (.inl 160),
  .inl (7, [some 55]),
  .inr (.inl 160),
  .inl (7, [some 57]),
  .inr (.inl 160),
  .inl (7, [some 59]),
  .inr (.inl 160),
  .inl (7, [some 61]),
  .inr (.inl 160),
  .inl (7, [some 63]),
  .inr (.inl 160),
  .inl (7, [some 65]),
  .inr (.inl 160),
  .inl (7, [some 67]),
  .inr (.inl 160),
  .inl (7, [some 69]),
  .inr (.inl 160),
  .inl (7, [some 71]),
  .inr (.inl 160),
  .inl (1, [none, none, none, none, none]),
  .inl (0, [some 74, none, none, none]),
  .inl (7, [some 75]),
  .inr (.inl 25),
  .inl (5, [some 77, none, none, none]),
  .inl (7, [some 78]),
  .inr (.inl 60),
  .inr (.inl 4),
  .inr (.inl 64),
  .inr (.inl 25)]
def fOf (σ : Sg) (c : Nat) (fl : List (Option Nat)) : List AV := fl.mapIdx (fun k o => match o with | none => ai (σ c k) | some q => ar q)
def cOf (σ : Sg) (c : Nat) : Sh → AC
  | .inl (ci, fl) => .inl (ci, fOf σ c fl)
  | .inr (.inl n) => .inr (.inl (n, σ c))
  | .inr (.inr l) => .inr (.inr (l.length, fun j => l[j]?))
/-- how many arrays of 64 ints lie behind the fixed cells: a cell that no heap holds says it -/
def gN (σ : Sg) : Nat := (σ 99999 0).toNatClampNeg
def SHX (n : Nat) : List Sh := SHl ++ List.replicate n (.inr (.inl 64))
def mem (σ : Sg) : AH := (SHX (gN σ)).mapIdx (fun c s => cOf σ c s)
theorem SHl_lt {c : Nat} {s : Sh} (h : SHl[c]? = some s) : c < 82 := (List.getElem?_eq_some_iff.mp h).1
theorem SHX_l {c n : Nat} {s : Sh} (h : SHl[c]? = some s) : (SHX n)[c]? = some s := by
  rw [SHX, List.getElem?_append_left (SHl_lt h)]
  exact h
theorem SHX_r {c n : Nat} (h1 : 82 ≤ c) (h2 : c < 82 + n) : (SHX n)[c]? = some (.inr (.inl 64)) := by
  rw [SHX, List.getElem?_append_right (show SHl.length ≤ c from h1), List.getElem?_replicate, if_pos (show c - SHl.length < n by show c - 82 < n; omega)]
def up (σ : Sg) (c k : Nat) (x : Int32) : Sg := fun c' => if c' = c then upd (σ c) k x else σ c'
theorem up_ne {σ : Sg} {c k c' : Nat} {x : Int32} (h : c' ≠ c) : up σ c k x c' = σ c' := by simp [up, h]
theorem up_self {σ : Sg} {c k : Nat} {x : Int32} : up σ c k x c = upd (σ c) k x := by simp [up]
theorem up_hit {σ : Sg} {c k : Nat} {x : Int32} : up σ c k x c k = x := by simp [up, upd]
theorem up_miss {σ : Sg} {c k k' : Nat} {x : Int32} (h : k' ≠ k) : up σ c k x c k' = σ c k' := by simp [up, upd, h]
theorem up_eq {σ : Sg} {c k c' k' : Nat} {x : Int32} : up σ c k x c' k' = if c' = c ∧ k' = k then x else σ c' k' := by
  by_cases h : c' = c
  · subst h
    simp [up, upd]
  · simp [up, h]
theorem mem_getX {σ : Sg} {c : Nat} {s : Sh} (h : (SHX (gN σ))[c]? = some s) : (mem σ)[c]? = some (cOf σ c s) := by simp [mem, List.getElem?_mapIdx, h]
theorem mem_get {σ : Sg} {c : Nat} {s : Sh} (h : SHl[c]? = some s) : (mem σ)[c]? = some (cOf σ c s) := mem_getX (SHX_l h)
theorem gN_of {σ σ' : Sg} (h : σ' 99999 = σ 99999) : gN σ' = gN σ := by rw [gN, gN, h]
theorem gN_up {σ : Sg} {c k : Nat} {x : Int32} (h : c ≠ 99999) : gN (up σ c k x) = gN σ := gN_of (up_ne (fun e => h e.symm))
theorem fOf_int {σ : Sg} {c k : Nat} {fl : List (Option Nat)} (h : fl[k]? = some none) : (fOf σ c fl)[k]? = some (ai (σ c k)) := by simp [fOf, List.getElem?_mapIdx, h]
theorem fOf_ref {σ : Sg} {c k q : Nat} {fl : List (Option Nat)} (h : fl[k]? = some (some q)) : (fOf σ c fl)[k]? = some (ar q) := by simp [fOf, List.getElem?_mapIdx, h]
theorem fOf_set {σ : Sg} {c k : Nat} {x : Int32} {fl : List (Option Nat)} (h : fl[k]? = some none) : (fOf σ c fl).set k (ai x) = fOf (up σ c k x) c fl := by
  apply List.ext_getElem?
  intro i
  simp only [fOf, List.getElem?_set, List.getElem?_mapIdx, List.length_mapIdx]
  by_cases hi : k = i
  · subst hi
    obtain ⟨hl, hk⟩ := List.getElem?_eq_some_iff.mp h
    simp [hl, hk, up_hit]
  · rw [if_neg hi]
    congr 1
    funext o
    rw [up_miss (fun e => hi e.symm)]
theorem mem_setI {σ : Sg} {c ci k : Nat} {x : Int32} {fl : List (Option Nat)} (hs0 : SHl[c]? = some (.inl (ci, fl))) (h : fl[k]? = some none) : (mem σ).set c (.inl (ci, (fOf σ c fl).set k (ai x))) = mem (up σ c k x) := by
  have hs : (SHX (gN σ))[c]? = some (.inl (ci, fl)) := SHX_l hs0
  have hc : c ≠ 99999 := by have := SHl_lt hs0; omega
  apply List.ext_getElem?
  intro i
  simp only [mem, gN_up hc, List.getElem?_set, List.getElem?_mapIdx, List.length_mapIdx]
  by_cases hi : c = i
  · subst hi
    have hl := (List.getElem?_eq_some_iff.mp hs).1
    simp only [if_true, hl, hs, Option.map_some, cOf]
    rw [fOf_set h]
  · rw [if_neg hi]
    congr 1
    funext s
    rcases s with ⟨a, b⟩ | n | l
    · show _ = Sum.inl _
      simp only [cOf, fOf]
      rw [up_ne (fun e => hi e.symm)]
    · simp only [cOf]
      rw [up_ne (fun e => hi e.symm)]
    · rfl
theorem mem_setX {σ : Sg} {c k n : Nat} {x : Int32} (hs : (SHX (gN σ))[c]? = some (.inr (.inl n))) (hc : c ≠ 99999) : (mem σ).set c (.inr (.inl (n, upd (σ c) k x))) = mem (up σ c k x) := by
  apply List.ext_getElem?
  intro i
  simp only [mem, gN_up hc, List.getElem?_set, List.getElem?_mapIdx, List.length_mapIdx]
  by_cases hi : c = i
  · subst hi
    have hl := (List.getElem?_eq_some_iff.mp hs).1
    simp only [if_true, hl, hs, Option.map_some, cOf]
    rw [up_self]
  · rw [if_neg hi]
    congr 1
    funext s
    rcases s with ⟨a, b⟩ | n | l
    · simp only [cOf, fOf]
      rw [up_ne (fun e => hi e.symm)]
    · simp only [cOf]
      rw [up_ne (fun e => hi e.symm)]
    · rfl
theorem mem_setA {σ : Sg} {c k n : Nat} {x : Int32} (hs : SHl[c]? = some (.inr (.inl n))) : (mem σ).set c (.inr (.inl (n, upd (σ c) k x))) = mem (up σ c k x) := mem_setX (SHX_l hs) (by have := SHl_lt hs; omega)
/-- one array more -/
def grow (σ : Sg) : Sg := fun c => if c = 82 + gN σ then fun _ => 0 else if c = 99999 then fun _ => nI (gN σ + 1) else σ c
theorem gN_grow {σ : Sg} (h : gN σ < 10000) : gN (grow σ) = gN σ + 1 := by
  show (grow σ 99999 0).toNatClampNeg = _
  rw [grow, if_neg (by omega), if_pos rfl, nI_clamp (by omega)]
theorem grow_ne {σ : Sg} {c : Nat} (h : c < 82 + gN σ) (h2 : c ≠ 99999) : grow σ c = σ c := by
  rw [grow, if_neg (by omega), if_neg h2]
theorem mem_grow {σ : Sg} (h : gN σ < 10000) : mem σ ++ [.inr (.inl (64, fun _ => 0))] = mem (grow σ) := by
  have hlen : (mem σ).length = 82 + gN σ := by
    rw [mem, List.length_mapIdx, SHX, List.length_append, List.length_replicate]; rfl
  have hsame : ∀ (c : Nat) (s : Sh), c < 82 + gN σ → cOf σ c s = cOf (grow σ) c s := by
    intro c s hc
    have e := grow_ne (σ := σ) hc (by omega)
    rcases s with ⟨a, b⟩ | n | l
    · simp only [cOf, fOf, e]
    · simp only [cOf, e]
    · rfl
  apply List.ext_getElem?
  intro i
  by_cases hi : i < 82 + gN σ
  · rw [List.getElem?_append_left (by rw [hlen]; exact hi)]
    simp only [mem, List.getElem?_mapIdx, gN_grow h]
    have e : (SHX (gN σ + 1))[i]? = (SHX (gN σ))[i]? := by
      by_cases h82 : i < 82
      · rw [SHX, SHX, List.getElem?_append_left (show i < SHl.length from h82), List.getElem?_append_left (show i < SHl.length from h82)]
      · rw [SHX_r (by omega) (by omega), SHX_r (by omega) (by omega)]
    rw [e]
    cases hs : (SHX (gN σ))[i]? with
    | none => rfl
    | some s => simp only [Option.map_some]; rw [hsame i s hi]
  · by_cases hi2 : i = 82 + gN σ
    · subst hi2
      rw [List.getElem?_append_right (by rw [hlen]; exact Nat.le_refl _), hlen, Nat.sub_self, mem_getX (σ := grow σ) (s := .inr (.inl 64)) (SHX_r (by omega) (by rw [gN_grow h]; omega))]
      show some (Sum.inr (Sum.inl (64, fun _ => 0))) = some (Sum.inr (Sum.inl (64, grow σ (82 + gN σ))))
      rw [grow, if_pos rfl]
    · rw [List.getElem?_eq_none (by rw [List.length_append, hlen]; show 82 + gN σ + 1 ≤ i; omega), List.getElem?_eq_none (by rw [mem, List.length_mapIdx, SHX, List.length_append, List.length_replicate, gN_grow h]; show 82 + (gN σ + 1) ≤ i; omega)]
/-- seven arrays from e on -/
def XB (σ : Sg) (e : Nat) : Prop := 82 ≤ e ∧ e + 7 ≤ 82 + gN σ ∧ gN σ < 10000
theorem XB.up {σ : Sg} {e c k : Nat} {x : Int32} (h : c ≠ 99999) (hB : XB σ e) : XB (up σ c k x) e := by
  unfold XB
  rw [gN_up h]
  exact hB
theorem XB.of {σ σ' : Sg} {e : Nat} (hB : XB σ e) (h : σ' 99999 = σ 99999) : XB σ' e := by
  unfold XB
  rw [gN_of h]
  exact hB
theorem XB.s {σ : Sg} {e j o : Nat} (hB : XB σ e) (ho : o = e + j ∧ j < 7) : (SHX (gN σ))[o]? = some (.inr (.inl 64)) := by
  obtain ⟨h1, h2, h3⟩ := hB
  exact SHX_r (by omega) (by omega)
theorem XB.n {σ : Sg} {e j o : Nat} (hB : XB σ e) (ho : o = e + j ∧ j < 7) : o ≠ 99999 := by
  obtain ⟨h1, h2, h3⟩ := hB
  omega
abbrev SP : Type := Option AV → Sg → Prop
def lift (Q : SP) : AP := fun w h => ∃ σ', h = mem σ' ∧ Q w σ'
def WM (r : MR) (Q : SP) (pc : Nat) (ls : List (Option AV)) (st : List AV) (σ : Sg) : Prop := WPr r (lift Q) pc ls st (mem σ) 0 0
def CM (r : MR) (as : List AV) (σ : Sg) (Q : SP) : Prop := C r as (mem σ) 0 0 (lift Q)
theorem CM_in {r : MR} {as : List AV} {σ : Sg} {Q : SP} {ls : List (Option AV)} (hl : lsOf r as = ls) (k : WM r Q 0 ls [] σ) : CM r as σ Q := by
  subst hl
  exact C_in k
theorem CM.mono {r : MR} {as : List AV} {σ : Sg} {Q1 Q2 : SP} (k : CM r as σ Q1) (h : ∀ w σ', Q1 w σ' → Q2 w σ') : CM r as σ Q2 := C.mono k (fun _ _ ⟨σ', e, q⟩ => ⟨σ', e, h _ _ q⟩)
def Ret (v : Int32) (σ1 : Sg) : SP := fun w σ' => w = some (ai v) ∧ σ' = σ1
def RetV (σ1 : Sg) : SP := fun w σ' => w = none ∧ σ' = σ1
theorem Ret.i {v v' : Int32} {σ σ' : Sg} (h : v = v') (hs : σ = σ') : Ret v' σ' (some (ai v)) σ := ⟨by rw [h], hs⟩
theorem FITi {r' r : MR} (h1 : Nat.ble (rf r' + 1) (rf r) = true) (h2 : Nat.ble (8 + (rL r' + 11) + rl r') (rl r) = true) : FIT r' r := ⟨Nat.le_of_ble_eq_true h1, Nat.le_of_ble_eq_true h2⟩
