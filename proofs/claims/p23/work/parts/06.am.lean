/-! THE ABSTRACT MACHINE: values, cells and heaps by numbers; a method's runs as a least set closed under rules; every rule is one row of the kit -/
abbrev AV : Type := Int32 ⊕ Option Nat
abbrev AC : Type := (Nat × List AV) ⊕ ((Nat × (Nat → Int32)) ⊕ (Nat × (Nat → Option Nat)))
abbrev AH : Type := List AC
abbrev AP : Type := Option AV → AH → Prop
abbrev AX : Type := Nat → List (Option AV) → List AV → AH → Nat → Nat → Prop
/-- a method: its name, its bytes, its locals, what it returns, the frames and the locals' words that it needs -/
abbrev MR : Type := MethodName × ByteArray × Nat × Option FieldType × Nat × Nat
abbrev AO : Type := MR → List AV → AH → Nat → Nat → AP → Prop
abbrev ry (r : MR) : MethodName := r.1
abbrev rc (r : MR) : ByteArray := r.2.1
abbrev rL (r : MR) : Nat := r.2.2.1
abbrev rt (r : MR) : Option FieldType := r.2.2.2.1
abbrev rf (r : MR) : Nat := r.2.2.2.2.1
abbrev rl (r : MR) : Nat := r.2.2.2.2.2
abbrev ro (r : MR) : String := r.1.cls
abbrev ai (x : Int32) : AV := .inl x
abbrev ar (k : Nat) : AV := .inr (some k)
abbrev an : AV := .inr none
def cv (b : Nat) : AV → Value
  | .inl x => .int x
  | .inr none => .null
  | .inr (some k) => .ref (b + k)
theorem cv_cat (b : Nat) (v : AV) : (cv b v).category = 1 := by
  rcases v with x | (_ | k) <;> rfl
/-- the words that every method has: those of the tables that stay -/
def Wl : List Cond := lw_tbl.filter goodWord
theorem Wl_good : ∀ w ∈ Wl, goodWord w = true := fun w h => (List.mem_filter.mp h).2
theorem Wl_tbl : ∀ w ∈ Wl, w ∈ lw_tbl := fun w h => (List.mem_filter.mp h).1
theorem Wl_in {w : Cond} (h : w ∈ lw_tbl) (hg : goodWord w = true) : w ∈ Wl := List.mem_filter.mpr ⟨h, hg⟩
def FL (own : String) (idx ci k : Nat) : Prop := ∃ C T N, vwCl[ci]? = some (C, T, N) ∧ k < N ∧ Cond.fieldLink own idx (T k).1 (T k).2.1 (T k).2.2.1 ∈ Wl
def FN (ci k : Nat) : Prop := ∃ C T N, vwCl[ci]? = some (C, T, N) ∧ (T k).2.2.2 = false
def FP (ci k : Nat) (v : AV) : Prop := ∀ b : Nat, ∃ C T N ty, vwCl[ci]? = some (C, T, N) ∧ parseFieldDescriptor (T k).2.2.1 = some ty ∧ narrow ty (cv b v) = cv b v ∧ fits ty (cv b v) = true
def FF (own : String) (ci k : Nat) : Prop := ∃ C T N, vwCl[ci]? = some (C, T, N) ∧ (T k).2.2.2 = true ∧ (T k).1 = own
def MB (r : MR) (n : Nat) : Prop := Cond.initialized (ro r) ∈ Wl ∧ Cond.code (ry r) (rc r) (rL r) (rt r) ∈ Wl ∧ plainFor (ry r) = true ∧ n ≤ rL r ∧ (ro r ≠ "java/lang/invoke/MethodHandle" ∧ ro r ≠ "java/lang/invoke/VarHandle" ∧ (parseMethodDescriptor (ry r).desc).map (fun d => d.parameters.length) = some n)
def MV (r : MR) (n : Nat) : Prop := MB r n ∧ n + 1 ≤ rL r ∧ Cond.instanceMethod (ry r) ∈ Wl ∧ Cond.selects (ro r) (ry r) (ry r) ∈ Wl
def MS (r : MR) (n : Nat) : Prop := MB r n ∧ Cond.static (ry r) ∈ Wl
def MI (r : MR) (n : Nat) : Prop := MB r n ∧ n + 1 ≤ rL r ∧ Cond.instanceMethod (ry r) ∈ Wl ∧ (ry r).name = "<init>" ∧ rt r = none
def FIT (r' r : MR) : Prop := rf r' + 1 ≤ rf r ∧ 8 + (rL r' + 11) + rl r' ≤ rl r
/-- the class of a receiver -/
def KC (ci : Nat) (C : String) : Prop := ∃ T N, vwCl[ci]? = some (C, T, N)
def nestL : List (String × Nat × MethodName) := [(RX9, 28, yX6_init), (RX6, 11, yX3_init), (RX6, 20, yX4_init), (RX9, 35, yX1_init), (RX9, 42, yX0_init), (RX9, 49, yX5_init)]
abbrev nestW (q : String × Nat × MethodName) : Cond := .methodLinkNest q.1 q.2.1 q.2.2 RX9

section AMR
variable (r : MR) (OO : AO) (Q : AP) (X : AX)
def R_iconst : Prop := ∀ (pc : Nat) (ls : List (Option AV)) (st : List AV) (h : AH) (a b : Nat) (n : Int) (v : Int32), (decode (rc r) pc = .ok (.iconst n, 1)) → (Int32.ofInt n = v) → X (pc + 1) (ls) (ai v :: st) (h) (a) (b) → X (pc) (ls) (st) (h) (a) (b)
def R_bipush : Prop := ∀ (pc : Nat) (ls : List (Option AV)) (st : List AV) (h : AH) (a b : Nat) (n : Int) (v : Int32), (decode (rc r) pc = .ok (.bipush n, 2)) → ((Int8.ofInt n).toInt32 = v) → X (pc + 2) (ls) (ai v :: st) (h) (a) (b) → X (pc) (ls) (st) (h) (a) (b)
def R_sipush : Prop := ∀ (pc : Nat) (ls : List (Option AV)) (st : List AV) (h : AH) (a b : Nat) (n : Int) (v : Int32), (decode (rc r) pc = .ok (.sipush n, 3)) → ((Int16.ofInt n).toInt32 = v) → X (pc + 3) (ls) (ai v :: st) (h) (a) (b) → X (pc) (ls) (st) (h) (a) (b)
def R_ldc : Prop := ∀ (pc : Nat) (ls : List (Option AV)) (st : List AV) (h : AH) (a b : Nat) (i : Nat) (v : Int32), (decode (rc r) pc = .ok (.ldc i, 2)) → (Cond.constant (ro r) i v ∈ Wl) → X (pc + 2) (ls) (ai v :: st) (h) (a) (b) → X (pc) (ls) (st) (h) (a) (b)
def R_null : Prop := ∀ (pc : Nat) (ls : List (Option AV)) (st : List AV) (h : AH) (a b : Nat) , (decode (rc r) pc = .ok (.aconst_null, 1)) → X (pc + 1) (ls) (an :: st) (h) (a) (b) → X (pc) (ls) (st) (h) (a) (b)
def R_iload_n : Prop := ∀ (pc : Nat) (ls : List (Option AV)) (st : List AV) (h : AH) (a b : Nat) (k : Fin 4) (i : Nat) (x : Int32), (decode (rc r) pc = .ok (.iload_n k, 1)) → ((k : Nat) = i) → (ls[i]? = some (some (ai x))) → X (pc + 1) (ls) (ai x :: st) (h) (a) (b) → X (pc) (ls) (st) (h) (a) (b)
def R_iload : Prop := ∀ (pc : Nat) (ls : List (Option AV)) (st : List AV) (h : AH) (a b : Nat) (i : Nat) (x : Int32), (decode (rc r) pc = .ok (.iload i, 2)) → (ls[i]? = some (some (ai x))) → X (pc + 2) (ls) (ai x :: st) (h) (a) (b) → X (pc) (ls) (st) (h) (a) (b)
def R_aload_n : Prop := ∀ (pc : Nat) (ls : List (Option AV)) (st : List AV) (h : AH) (a b : Nat) (k : Fin 4) (i : Nat) (x : Nat), (decode (rc r) pc = .ok (.aload_n k, 1)) → ((k : Nat) = i) → (ls[i]? = some (some (ar x))) → X (pc + 1) (ls) (ar x :: st) (h) (a) (b) → X (pc) (ls) (st) (h) (a) (b)
def R_aload : Prop := ∀ (pc : Nat) (ls : List (Option AV)) (st : List AV) (h : AH) (a b : Nat) (i : Nat) (x : Nat), (decode (rc r) pc = .ok (.aload i, 2)) → (ls[i]? = some (some (ar x))) → X (pc + 2) (ls) (ar x :: st) (h) (a) (b) → X (pc) (ls) (st) (h) (a) (b)
def R_istore_n : Prop := ∀ (pc : Nat) (ls : List (Option AV)) (st : List AV) (h : AH) (a b : Nat) (k : Fin 4) (i : Nat) (x : Int32), (decode (rc r) pc = .ok (.istore_n k, 1)) → ((k : Nat) = i) → (i < ls.length) → X (pc + 1) (ls.set i (some (ai x))) (st) (h) (a) (b) → X (pc) (ls) (ai x :: st) (h) (a) (b)
def R_istore : Prop := ∀ (pc : Nat) (ls : List (Option AV)) (st : List AV) (h : AH) (a b : Nat) (i : Nat) (x : Int32), (decode (rc r) pc = .ok (.istore i, 2)) → (i < ls.length) → X (pc + 2) (ls.set i (some (ai x))) (st) (h) (a) (b) → X (pc) (ls) (ai x :: st) (h) (a) (b)
def R_astore_n : Prop := ∀ (pc : Nat) (ls : List (Option AV)) (st : List AV) (h : AH) (a b : Nat) (k : Fin 4) (i : Nat) (x : Nat), (decode (rc r) pc = .ok (.astore_n k, 1)) → ((k : Nat) = i) → (i < ls.length) → X (pc + 1) (ls.set i (some (ar x))) (st) (h) (a) (b) → X (pc) (ls) (ar x :: st) (h) (a) (b)
def R_astore : Prop := ∀ (pc : Nat) (ls : List (Option AV)) (st : List AV) (h : AH) (a b : Nat) (i : Nat) (x : Nat), (decode (rc r) pc = .ok (.astore i, 2)) → (i < ls.length) → X (pc + 2) (ls.set i (some (ar x))) (st) (h) (a) (b) → X (pc) (ls) (ar x :: st) (h) (a) (b)
def R_iinc : Prop := ∀ (pc : Nat) (ls : List (Option AV)) (st : List AV) (h : AH) (a b : Nat) (i : Nat) (n : Int) (x : Int32), (decode (rc r) pc = .ok (.iinc i n, 3)) → (ls[i]? = some (some (ai x))) → X (pc + 3) (ls.set i (some (ai (x + Int32.ofInt n)))) (st) (h) (a) (b) → X (pc) (ls) (st) (h) (a) (b)
def R_iadd : Prop := ∀ (pc : Nat) (ls : List (Option AV)) (st : List AV) (h : AH) (a b : Nat) (x y : Int32), (decode (rc r) pc = .ok (.iadd, 1)) → X (pc + 1) (ls) (ai (x + y) :: st) (h) (a) (b) → X (pc) (ls) (ai y :: ai x :: st) (h) (a) (b)
def R_isub : Prop := ∀ (pc : Nat) (ls : List (Option AV)) (st : List AV) (h : AH) (a b : Nat) (x y : Int32), (decode (rc r) pc = .ok (.isub, 1)) → X (pc + 1) (ls) (ai (x - y) :: st) (h) (a) (b) → X (pc) (ls) (ai y :: ai x :: st) (h) (a) (b)
def R_imul : Prop := ∀ (pc : Nat) (ls : List (Option AV)) (st : List AV) (h : AH) (a b : Nat) (x y : Int32), (decode (rc r) pc = .ok (.imul, 1)) → X (pc + 1) (ls) (ai (x * y) :: st) (h) (a) (b) → X (pc) (ls) (ai y :: ai x :: st) (h) (a) (b)
def R_ior : Prop := ∀ (pc : Nat) (ls : List (Option AV)) (st : List AV) (h : AH) (a b : Nat) (x y : Int32), (decode (rc r) pc = .ok (.ior, 1)) → X (pc + 1) (ls) (ai (x ||| y) :: st) (h) (a) (b) → X (pc) (ls) (ai y :: ai x :: st) (h) (a) (b)
def R_iand : Prop := ∀ (pc : Nat) (ls : List (Option AV)) (st : List AV) (h : AH) (a b : Nat) (x y : Int32), (decode (rc r) pc = .ok (.iand, 1)) → X (pc + 1) (ls) (ai (x &&& y) :: st) (h) (a) (b) → X (pc) (ls) (ai y :: ai x :: st) (h) (a) (b)
def R_ixor : Prop := ∀ (pc : Nat) (ls : List (Option AV)) (st : List AV) (h : AH) (a b : Nat) (x y : Int32), (decode (rc r) pc = .ok (.ixor, 1)) → X (pc + 1) (ls) (ai (x ^^^ y) :: st) (h) (a) (b) → X (pc) (ls) (ai y :: ai x :: st) (h) (a) (b)
def R_ishl : Prop := ∀ (pc : Nat) (ls : List (Option AV)) (st : List AV) (h : AH) (a b : Nat) (x y : Int32), (decode (rc r) pc = .ok (.ishl, 1)) → X (pc + 1) (ls) (ai (x <<< (y &&& 31)) :: st) (h) (a) (b) → X (pc) (ls) (ai y :: ai x :: st) (h) (a) (b)
def R_ishr : Prop := ∀ (pc : Nat) (ls : List (Option AV)) (st : List AV) (h : AH) (a b : Nat) (x y : Int32), (decode (rc r) pc = .ok (.ishr, 1)) → X (pc + 1) (ls) (ai (x >>> (y &&& 31)) :: st) (h) (a) (b) → X (pc) (ls) (ai y :: ai x :: st) (h) (a) (b)
def R_idiv : Prop := ∀ (pc : Nat) (ls : List (Option AV)) (st : List AV) (h : AH) (a b : Nat) (x y : Int32), (decode (rc r) pc = .ok (.idiv, 1)) → (¬ y = 0) → X (pc + 1) (ls) (ai (x / y) :: st) (h) (a) (b) → X (pc) (ls) (ai y :: ai x :: st) (h) (a) (b)
def R_irem : Prop := ∀ (pc : Nat) (ls : List (Option AV)) (st : List AV) (h : AH) (a b : Nat) (x y : Int32), (decode (rc r) pc = .ok (.irem, 1)) → (¬ y = 0) → X (pc + 1) (ls) (ai (x - x / y * y) :: st) (h) (a) (b) → X (pc) (ls) (ai y :: ai x :: st) (h) (a) (b)
def R_dup : Prop := ∀ (pc : Nat) (ls : List (Option AV)) (st : List AV) (h : AH) (a b : Nat) (v : AV), (decode (rc r) pc = .ok (.dup, 1)) → X (pc + 1) (ls) (v :: v :: st) (h) (a) (b) → X (pc) (ls) (v :: st) (h) (a) (b)
def R_dup2 : Prop := ∀ (pc : Nat) (ls : List (Option AV)) (st : List AV) (h : AH) (a b : Nat) (v u : AV), (decode (rc r) pc = .ok (.dup2, 1)) → X (pc + 1) (ls) (v :: u :: v :: u :: st) (h) (a) (b) → X (pc) (ls) (v :: u :: st) (h) (a) (b)
def R_pop : Prop := ∀ (pc : Nat) (ls : List (Option AV)) (st : List AV) (h : AH) (a b : Nat) (v : AV), (decode (rc r) pc = .ok (.pop, 1)) → X (pc + 1) (ls) (st) (h) (a) (b) → X (pc) (ls) (v :: st) (h) (a) (b)
def R_goto : Prop := ∀ (pc : Nat) (ls : List (Option AV)) (st : List AV) (h : AH) (a b : Nat) (off : Int) (tgt : Nat), (decode (rc r) pc = .ok (.goto off, 3)) → ((pc : Int) + off = (tgt : Int)) → X (tgt) (ls) (st) (h) (a) (b) → X (pc) (ls) (st) (h) (a) (b)
def R_icmp_eq : Prop := ∀ (pc : Nat) (ls : List (Option AV)) (st : List AV) (h : AH) (a b : Nat) (x y : Int32) (off : Int) (tgt : Nat), (decode (rc r) pc = .ok (.if_icmp .eq off, 3)) → ((pc : Int) + off = (tgt : Int)) → (x = y → X (tgt) (ls) (st) (h) (a) (b)) → (¬ x = y → X (pc + 3) (ls) (st) (h) (a) (b)) → X (pc) (ls) (ai y :: ai x :: st) (h) (a) (b)
def R_if_eq : Prop := ∀ (pc : Nat) (ls : List (Option AV)) (st : List AV) (h : AH) (a b : Nat) (x : Int32) (off : Int) (tgt : Nat), (decode (rc r) pc = .ok (.ifCond .eq off, 3)) → ((pc : Int) + off = (tgt : Int)) → (x = 0 → X (tgt) (ls) (st) (h) (a) (b)) → (¬ x = 0 → X (pc + 3) (ls) (st) (h) (a) (b)) → X (pc) (ls) (ai x :: st) (h) (a) (b)
def R_icmp_ne : Prop := ∀ (pc : Nat) (ls : List (Option AV)) (st : List AV) (h : AH) (a b : Nat) (x y : Int32) (off : Int) (tgt : Nat), (decode (rc r) pc = .ok (.if_icmp .ne off, 3)) → ((pc : Int) + off = (tgt : Int)) → (¬ x = y → X (tgt) (ls) (st) (h) (a) (b)) → (x = y → X (pc + 3) (ls) (st) (h) (a) (b)) → X (pc) (ls) (ai y :: ai x :: st) (h) (a) (b)
def R_if_ne : Prop := ∀ (pc : Nat) (ls : List (Option AV)) (st : List AV) (h : AH) (a b : Nat) (x : Int32) (off : Int) (tgt : Nat), (decode (rc r) pc = .ok (.ifCond .ne off, 3)) → ((pc : Int) + off = (tgt : Int)) → (¬ x = 0 → X (tgt) (ls) (st) (h) (a) (b)) → (x = 0 → X (pc + 3) (ls) (st) (h) (a) (b)) → X (pc) (ls) (ai x :: st) (h) (a) (b)
def R_icmp_lt : Prop := ∀ (pc : Nat) (ls : List (Option AV)) (st : List AV) (h : AH) (a b : Nat) (x y : Int32) (off : Int) (tgt : Nat), (decode (rc r) pc = .ok (.if_icmp .lt off, 3)) → ((pc : Int) + off = (tgt : Int)) → (x < y → X (tgt) (ls) (st) (h) (a) (b)) → (¬ x < y → X (pc + 3) (ls) (st) (h) (a) (b)) → X (pc) (ls) (ai y :: ai x :: st) (h) (a) (b)
def R_if_lt : Prop := ∀ (pc : Nat) (ls : List (Option AV)) (st : List AV) (h : AH) (a b : Nat) (x : Int32) (off : Int) (tgt : Nat), (decode (rc r) pc = .ok (.ifCond .lt off, 3)) → ((pc : Int) + off = (tgt : Int)) → (x < 0 → X (tgt) (ls) (st) (h) (a) (b)) → (¬ x < 0 → X (pc + 3) (ls) (st) (h) (a) (b)) → X (pc) (ls) (ai x :: st) (h) (a) (b)
def R_icmp_ge : Prop := ∀ (pc : Nat) (ls : List (Option AV)) (st : List AV) (h : AH) (a b : Nat) (x y : Int32) (off : Int) (tgt : Nat), (decode (rc r) pc = .ok (.if_icmp .ge off, 3)) → ((pc : Int) + off = (tgt : Int)) → (y ≤ x → X (tgt) (ls) (st) (h) (a) (b)) → (¬ y ≤ x → X (pc + 3) (ls) (st) (h) (a) (b)) → X (pc) (ls) (ai y :: ai x :: st) (h) (a) (b)
def R_if_ge : Prop := ∀ (pc : Nat) (ls : List (Option AV)) (st : List AV) (h : AH) (a b : Nat) (x : Int32) (off : Int) (tgt : Nat), (decode (rc r) pc = .ok (.ifCond .ge off, 3)) → ((pc : Int) + off = (tgt : Int)) → (0 ≤ x → X (tgt) (ls) (st) (h) (a) (b)) → (¬ 0 ≤ x → X (pc + 3) (ls) (st) (h) (a) (b)) → X (pc) (ls) (ai x :: st) (h) (a) (b)
def R_icmp_gt : Prop := ∀ (pc : Nat) (ls : List (Option AV)) (st : List AV) (h : AH) (a b : Nat) (x y : Int32) (off : Int) (tgt : Nat), (decode (rc r) pc = .ok (.if_icmp .gt off, 3)) → ((pc : Int) + off = (tgt : Int)) → (y < x → X (tgt) (ls) (st) (h) (a) (b)) → (¬ y < x → X (pc + 3) (ls) (st) (h) (a) (b)) → X (pc) (ls) (ai y :: ai x :: st) (h) (a) (b)
def R_if_gt : Prop := ∀ (pc : Nat) (ls : List (Option AV)) (st : List AV) (h : AH) (a b : Nat) (x : Int32) (off : Int) (tgt : Nat), (decode (rc r) pc = .ok (.ifCond .gt off, 3)) → ((pc : Int) + off = (tgt : Int)) → (0 < x → X (tgt) (ls) (st) (h) (a) (b)) → (¬ 0 < x → X (pc + 3) (ls) (st) (h) (a) (b)) → X (pc) (ls) (ai x :: st) (h) (a) (b)
def R_icmp_le : Prop := ∀ (pc : Nat) (ls : List (Option AV)) (st : List AV) (h : AH) (a b : Nat) (x y : Int32) (off : Int) (tgt : Nat), (decode (rc r) pc = .ok (.if_icmp .le off, 3)) → ((pc : Int) + off = (tgt : Int)) → (x ≤ y → X (tgt) (ls) (st) (h) (a) (b)) → (¬ x ≤ y → X (pc + 3) (ls) (st) (h) (a) (b)) → X (pc) (ls) (ai y :: ai x :: st) (h) (a) (b)
def R_if_le : Prop := ∀ (pc : Nat) (ls : List (Option AV)) (st : List AV) (h : AH) (a b : Nat) (x : Int32) (off : Int) (tgt : Nat), (decode (rc r) pc = .ok (.ifCond .le off, 3)) → ((pc : Int) + off = (tgt : Int)) → (x ≤ 0 → X (tgt) (ls) (st) (h) (a) (b)) → (¬ x ≤ 0 → X (pc + 3) (ls) (st) (h) (a) (b)) → X (pc) (ls) (ai x :: st) (h) (a) (b)
def R_ifnull : Prop := ∀ (pc : Nat) (ls : List (Option AV)) (st : List AV) (h : AH) (a b : Nat) (x : Nat) (off : Int), (decode (rc r) pc = .ok (.ifnull off, 3)) → X (pc + 3) (ls) (st) (h) (a) (b) → X (pc) (ls) (ar x :: st) (h) (a) (b)
def R_tabIn : Prop := ∀ (pc : Nat) (ls : List (Option AV)) (st : List AV) (h : AH) (a b : Nat) (dflt lo hi : Int) (offs : Array Int) (len : Nat) (x : Int32) (off : Int) (tgt : Nat), (decode (rc r) pc = .ok (.tableswitch dflt lo hi offs, len)) → (¬ x.toInt < lo) → (¬ hi < x.toInt) → (offs[(x.toInt - lo).toNat]? = some off) → ((pc : Int) + off = (tgt : Int)) → X (tgt) (ls) (st) (h) (a) (b) → X (pc) (ls) (ai x :: st) (h) (a) (b)
def R_tabOut : Prop := ∀ (pc : Nat) (ls : List (Option AV)) (st : List AV) (h : AH) (a b : Nat) (dflt lo hi : Int) (offs : Array Int) (len : Nat) (x : Int32) (tgt : Nat), (decode (rc r) pc = .ok (.tableswitch dflt lo hi offs, len)) → (x.toInt < lo ∨ hi < x.toInt) → ((pc : Int) + dflt = (tgt : Int)) → X (tgt) (ls) (st) (h) (a) (b) → X (pc) (ls) (ai x :: st) (h) (a) (b)
def R_look : Prop := ∀ (pc : Nat) (ls : List (Option AV)) (st : List AV) (h : AH) (a b : Nat) (dflt : Int) (ps : Array (Int × Int)) (len : Nat) (x : Int32) (off : Int) (tgt : Nat), (decode (rc r) pc = .ok (.lookupswitch dflt ps, len)) → ((ps.toList.zip (ps.toList.drop 1)).all (fun (a, next) => a.1 < next.1) = true) → (Op.lookupswitch.offset ps.toList dflt x.toInt = off) → ((pc : Int) + off = (tgt : Int)) → X (tgt) (ls) (st) (h) (a) (b) → X (pc) (ls) (ai x :: st) (h) (a) (b)
def R_getf : Prop := ∀ (pc : Nat) (ls : List (Option AV)) (st : List AV) (h : AH) (a b : Nat) (i ci k o : Nat) (fs : List AV) (v : AV), (decode (rc r) pc = .ok (.getfield i, 3)) → (FL (ro r) i ci k) → (h[o]? = some (.inl (ci, fs))) → (fs[k]? = some v) → X (pc + 3) (ls) (v :: st) (h) (a) (b) → X (pc) (ls) (ar o :: st) (h) (a) (b)
def R_putf : Prop := ∀ (pc : Nat) (ls : List (Option AV)) (st : List AV) (h : AH) (a b : Nat) (i ci k o : Nat) (fs : List AV) (v : AV), (decode (rc r) pc = .ok (.putfield i, 3)) → (FL (ro r) i ci k) → (FN ci k ∨ ((ry r).name = "<init>" ∧ FF (ro r) ci k)) → (FP ci k v) → (h[o]? = some (.inl (ci, fs))) → (k < fs.length) → X (pc + 3) (ls) (st) (h.set o (.inl (ci, fs.set k v))) (a) (b) → X (pc) (ls) (v :: ar o :: st) (h) (a) (b)
def R_iald : Prop := ∀ (pc : Nat) (ls : List (Option AV)) (st : List AV) (h : AH) (a b : Nat) (o n : Nat) (f : Nat → Int32) (i : Int32), (decode (rc r) pc = .ok (.iaload, 1)) → (h[o]? = some (.inr (.inl (n, f)))) → (vp_in i n) → X (pc + 1) (ls) (ai (f i.toNatClampNeg) :: st) (h) (a) (b) → X (pc) (ls) (ai i :: ar o :: st) (h) (a) (b)
def R_iast : Prop := ∀ (pc : Nat) (ls : List (Option AV)) (st : List AV) (h : AH) (a b : Nat) (o n : Nat) (f : Nat → Int32) (i x : Int32), (decode (rc r) pc = .ok (.iastore, 1)) → (h[o]? = some (.inr (.inl (n, f)))) → (vp_in i n) → X (pc + 1) (ls) (st) (h.set o (.inr (.inl (n, upd f i.toNatClampNeg x)))) (a) (b) → X (pc) (ls) (ai x :: ai i :: ar o :: st) (h) (a) (b)
def R_alen : Prop := ∀ (pc : Nat) (ls : List (Option AV)) (st : List AV) (h : AH) (a b : Nat) (o n : Nat) (f : Nat → Int32), (decode (rc r) pc = .ok (.arraylength, 1)) → (h[o]? = some (.inr (.inl (n, f)))) → X (pc + 1) (ls) (ai (Int32.ofNat n) :: st) (h) (a) (b) → X (pc) (ls) (ar o :: st) (h) (a) (b)
def R_alenq : Prop := ∀ (pc : Nat) (ls : List (Option AV)) (st : List AV) (h : AH) (a b : Nat) (o n : Nat) (f : Nat → Option Nat), (decode (rc r) pc = .ok (.arraylength, 1)) → (h[o]? = some (.inr (.inr (n, f)))) → X (pc + 1) (ls) (ai (Int32.ofNat n) :: st) (h) (a) (b) → X (pc) (ls) (ar o :: st) (h) (a) (b)
def R_aald : Prop := ∀ (pc : Nat) (ls : List (Option AV)) (st : List AV) (h : AH) (a b : Nat) (o n : Nat) (f : Nat → Option Nat) (i : Int32), (decode (rc r) pc = .ok (.aaload, 1)) → (h[o]? = some (.inr (.inr (n, f)))) → (vp_in i n) → X (pc + 1) (ls) (.inr (f i.toNatClampNeg) :: st) (h) (a) (b) → X (pc) (ls) (ai i :: ar o :: st) (h) (a) (b)
def R_aast : Prop := ∀ (pc : Nat) (ls : List (Option AV)) (st : List AV) (h : AH) (a b : Nat) (o n v : Nat) (fs : List AV) (f : Nat → Option Nat) (i : Int32), (decode (rc r) pc = .ok (.aastore, 1)) → (h[o]? = some (.inr (.inr (n, f)))) → (h[v]? = some (.inl (8, fs))) → (vp_in i n) → X (pc + 1) (ls) (st) (h.set o (.inr (.inr (n, va_up f i.toNatClampNeg (some v))))) (a) (b) → X (pc) (ls) (ar v :: ai i :: ar o :: st) (h) (a) (b)
def R_new : Prop := ∀ (pc : Nat) (ls : List (Option AV)) (st : List AV) (h : AH) (a b : Nat) (i ci N : Nat) (C : String) (T : u_T) (fs : List AV), (decode (rc r) pc = .ok (.new i, 3)) → (vwCl[ci]? = some (C, T, N)) → (Cond.classLink (ro r) i C ∈ Wl) → (Cond.instantiable C N ∈ Wl) → (Cond.initialized C ∈ Wl) → (fs.length = N) → (∀ j, j < N → (parseFieldDescriptor (T j).2.2.1).map defaultValue = some (cv 0 (fs.getD j an)) ∧ (∀ q, fs[j]? ≠ some (ar q))) → X (pc + 3) (ls) (ar h.length :: st) (h ++ [.inl (ci, fs)]) (a) (b) → X (pc) (ls) (st) (h) (a + 1) (b + N)
def R_newi : Prop := ∀ (pc : Nat) (ls : List (Option AV)) (st : List AV) (h : AH) (a b : Nat) (n : Int32) (N : Nat), (decode (rc r) pc = .ok (.newarray .int, 2)) → (¬ n < 0) → (n.toNatClampNeg = N) → (N ≤ 1000) → X (pc + 2) (ls) (ar h.length :: st) (h ++ [.inr (.inl (N, fun _ => 0))]) (a) (b) → X (pc) (ls) (ai n :: st) (h) (a + 1) (b + N)
def R_newq : Prop := ∀ (pc : Nat) (ls : List (Option AV)) (st : List AV) (h : AH) (a b : Nat) (i : Nat) (n : Int32) (N : Nat), (decode (rc r) pc = .ok (.anewarray i, 3)) → (Cond.classLink (ro r) i RX8 ∈ Wl) → (¬ n < 0) → (n.toNatClampNeg = N) → (N ≤ 1000) → X (pc + 3) (ls) (ar h.length :: st) (h ++ [.inr (.inr (N, fun _ => none))]) (a) (b) → X (pc) (ls) (ai n :: st) (h) (a + 1) (b + N)
def R_obj : Prop := ∀ (pc : Nat) (ls : List (Option AV)) (st : List AV) (h : AH) (a b : Nat) (i o : Nat), (decode (rc r) pc = .ok (.invokespecial i, 3)) → (Cond.methodLink (ro r) i objectInit ∈ Wl) → (st.length ≤ 8) → (1 ≤ rf r) → (20 ≤ rl r) → X (pc + 3) (ls) (st) (h) (a) (b) → X (pc) (ls) (ar o :: st) (h) (a) (b)
def R_ireturn : Prop := ∀ (pc : Nat) (ls : List (Option AV)) (h : AH) (a b : Nat) (x : Int32) (ty : FieldType), (decode (rc r) pc = .ok (.ireturn, 1)) → (rt r = some ty) → (narrow ty (.int x) = .int x) → (Q (some (ai x)) h) → X (pc) (ls) ([ai x]) (h) (a) (b)
def R_areturn : Prop := ∀ (pc : Nat) (ls : List (Option AV)) (h : AH) (a b : Nat) (x : Option Nat) (C : String), (decode (rc r) pc = .ok (.areturn, 1)) → (rt r = some (.object C)) → (Q (some (.inr x)) h) → X (pc) (ls) ([.inr x]) (h) (a) (b)
def R_return : Prop := ∀ (pc : Nat) (ls : List (Option AV)) (h : AH) (a b : Nat), (decode (rc r) pc = .ok (.return_, 1)) → (rt r = none) → (Q none h) → X (pc) (ls) ([]) (h) (a) (b)
def R_callV : Prop := ∀ (pc : Nat) (ls : List (Option AV)) (st : List AV) (h : AH) (a b a1 b1 : Nat) (i : Nat) (r1 : MR) (As : List AV) (Q1 : AP) (ci o : Nat) (fs : List AV), (decode (rc r) pc = .ok (.invokevirtual i, 3)) → (Cond.methodLink (ro r) i (ry r1) ∈ Wl) → (MV r1 As.length) → (h[o]? = some (.inl (ci, fs))) → (KC ci (ro r1)) → (FIT r1 r) → (st.length ≤ 8) → (OO r1 (ar o :: As) h a1 b1 Q1) → (∀ w h1, Q1 w h1 → X (pc + 3) ls (w.toList ++ st) h1 a b) → X (pc) (ls) (As.reverse ++ ar o :: st) (h) (a1 + a) (b1 + b)
def R_callS : Prop := ∀ (pc : Nat) (ls : List (Option AV)) (st : List AV) (h : AH) (a b a1 b1 : Nat) (i : Nat) (r1 : MR) (As : List AV) (Q1 : AP) , (decode (rc r) pc = .ok (.invokestatic i, 3)) → ((Cond.methodLink (ro r) i (ry r1) ∈ Wl ∨ (ro r, i, ry r1) ∈ nestL)) → (MS r1 As.length) → (FIT r1 r) → (st.length ≤ 8) → (OO r1 (As) h a1 b1 Q1) → (∀ w h1, Q1 w h1 → X (pc + 3) ls (w.toList ++ st) h1 a b) → X (pc) (ls) (As.reverse ++ st) (h) (a1 + a) (b1 + b)
def R_callI : Prop := ∀ (pc : Nat) (ls : List (Option AV)) (st : List AV) (h : AH) (a b a1 b1 : Nat) (i : Nat) (r1 : MR) (As : List AV) (Q1 : AP) (o : Nat), (decode (rc r) pc = .ok (.invokespecial i, 3)) → ((Cond.methodLink (ro r) i (ry r1) ∈ Wl ∨ (ro r, i, ry r1) ∈ nestL)) → (MI r1 As.length) → (FIT r1 r) → (st.length ≤ 8) → (OO r1 (ar o :: As) h a1 b1 Q1) → (∀ w h1, Q1 w h1 → X (pc + 3) ls (w.toList ++ st) h1 a b) → X (pc) (ls) (As.reverse ++ ar o :: st) (h) (a1 + a) (b1 + b)
end AMR
def Rules (r : MR) (OO : AO) (Q : AP) (X : AX) : Prop := R_iconst r X ∧ R_bipush r X ∧ R_sipush r X ∧ R_ldc r X ∧ R_null r X ∧ R_iload_n r X ∧ R_iload r X ∧ R_aload_n r X ∧ R_aload r X ∧ R_istore_n r X ∧ R_istore r X ∧ R_astore_n r X ∧ R_astore r X ∧ R_iinc r X ∧ R_iadd r X ∧ R_isub r X ∧ R_imul r X ∧ R_ior r X ∧ R_iand r X ∧ R_ixor r X ∧ R_ishl r X ∧ R_ishr r X ∧ R_idiv r X ∧ R_irem r X ∧ R_dup r X ∧ R_dup2 r X ∧ R_pop r X ∧ R_goto r X ∧ R_icmp_eq r X ∧ R_if_eq r X ∧ R_icmp_ne r X ∧ R_if_ne r X ∧ R_icmp_lt r X ∧ R_if_lt r X ∧ R_icmp_ge r X ∧ R_if_ge r X ∧ R_icmp_gt r X ∧ R_if_gt r X ∧ R_icmp_le r X ∧ R_if_le r X ∧ R_ifnull r X ∧ R_tabIn r X ∧ R_tabOut r X ∧ R_look r X ∧ R_getf r X ∧ R_putf r X ∧ R_iald r X ∧ R_iast r X ∧ R_alen r X ∧ R_alenq r X ∧ R_aald r X ∧ R_aast r X ∧ R_new r X ∧ R_newi r X ∧ R_newq r X ∧ R_obj r X ∧ R_ireturn r Q X ∧ R_areturn r Q X ∧ R_return r Q X ∧ R_callV r OO X ∧ R_callS r OO X ∧ R_callI r OO X
theorem u_iconst {r : MR} {OO : AO} {Q : AP} {X : AX} (h : Rules r OO Q X) : R_iconst r X := h.1
theorem u_bipush {r : MR} {OO : AO} {Q : AP} {X : AX} (h : Rules r OO Q X) : R_bipush r X := h.2.1
theorem u_sipush {r : MR} {OO : AO} {Q : AP} {X : AX} (h : Rules r OO Q X) : R_sipush r X := h.2.2.1
theorem u_ldc {r : MR} {OO : AO} {Q : AP} {X : AX} (h : Rules r OO Q X) : R_ldc r X := h.2.2.2.1
theorem u_null {r : MR} {OO : AO} {Q : AP} {X : AX} (h : Rules r OO Q X) : R_null r X := h.2.2.2.2.1
theorem u_iload_n {r : MR} {OO : AO} {Q : AP} {X : AX} (h : Rules r OO Q X) : R_iload_n r X := h.2.2.2.2.2.1
theorem u_iload {r : MR} {OO : AO} {Q : AP} {X : AX} (h : Rules r OO Q X) : R_iload r X := h.2.2.2.2.2.2.1
theorem u_aload_n {r : MR} {OO : AO} {Q : AP} {X : AX} (h : Rules r OO Q X) : R_aload_n r X := h.2.2.2.2.2.2.2.1
theorem u_aload {r : MR} {OO : AO} {Q : AP} {X : AX} (h : Rules r OO Q X) : R_aload r X := h.2.2.2.2.2.2.2.2.1
theorem u_istore_n {r : MR} {OO : AO} {Q : AP} {X : AX} (h : Rules r OO Q X) : R_istore_n r X := h.2.2.2.2.2.2.2.2.2.1
theorem u_istore {r : MR} {OO : AO} {Q : AP} {X : AX} (h : Rules r OO Q X) : R_istore r X := h.2.2.2.2.2.2.2.2.2.2.1
theorem u_astore_n {r : MR} {OO : AO} {Q : AP} {X : AX} (h : Rules r OO Q X) : R_astore_n r X := h.2.2.2.2.2.2.2.2.2.2.2.1
theorem u_astore {r : MR} {OO : AO} {Q : AP} {X : AX} (h : Rules r OO Q X) : R_astore r X := h.2.2.2.2.2.2.2.2.2.2.2.2.1
theorem u_iinc {r : MR} {OO : AO} {Q : AP} {X : AX} (h : Rules r OO Q X) : R_iinc r X := h.2.2.2.2.2.2.2.2.2.2.2.2.2.1
theorem u_iadd {r : MR} {OO : AO} {Q : AP} {X : AX} (h : Rules r OO Q X) : R_iadd r X := h.2.2.2.2.2.2.2.2.2.2.2.2.2.2.1
theorem u_isub {r : MR} {OO : AO} {Q : AP} {X : AX} (h : Rules r OO Q X) : R_isub r X := h.2.2.2.2.2.2.2.2.2.2.2.2.2.2.2.1
theorem u_imul {r : MR} {OO : AO} {Q : AP} {X : AX} (h : Rules r OO Q X) : R_imul r X := h.2.2.2.2.2.2.2.2.2.2.2.2.2.2.2.2.1
theorem u_ior {r : MR} {OO : AO} {Q : AP} {X : AX} (h : Rules r OO Q X) : R_ior r X := h.2.2.2.2.2.2.2.2.2.2.2.2.2.2.2.2.2.1
theorem u_iand {r : MR} {OO : AO} {Q : AP} {X : AX} (h : Rules r OO Q X) : R_iand r X := h.2.2.2.2.2.2.2.2.2.2.2.2.2.2.2.2.2.2.1
theorem u_ixor {r : MR} {OO : AO} {Q : AP} {X : AX} (h : Rules r OO Q X) : R_ixor r X := h.2.2.2.2.2.2.2.2.2.2.2.2.2.2.2.2.2.2.2.1
theorem u_ishl {r : MR} {OO : AO} {Q : AP} {X : AX} (h : Rules r OO Q X) : R_ishl r X := h.2.2.2.2.2.2.2.2.2.2.2.2.2.2.2.2.2.2.2.2.1
theorem u_ishr {r : MR} {OO : AO} {Q : AP} {X : AX} (h : Rules r OO Q X) : R_ishr r X := h.2.2.2.2.2.2.2.2.2.2.2.2.2.2.2.2.2.2.2.2.2.1
theorem u_idiv {r : MR} {OO : AO} {Q : AP} {X : AX} (h : Rules r OO Q X) : R_idiv r X := h.2.2.2.2.2.2.2.2.2.2.2.2.2.2.2.2.2.2.2.2.2.2.1
theorem u_irem {r : MR} {OO : AO} {Q : AP} {X : AX} (h : Rules r OO Q X) : R_irem r X := h.2.2.2.2.2.2.2.2.2.2.2.2.2.2.2.2.2.2.2.2.2.2.2.1
theorem u_dup {r : MR} {OO : AO} {Q : AP} {X : AX} (h : Rules r OO Q X) : R_dup r X := h.2.2.2.2.2.2.2.2.2.2.2.2.2.2.2.2.2.2.2.2.2.2.2.2.1
theorem u_dup2 {r : MR} {OO : AO} {Q : AP} {X : AX} (h : Rules r OO Q X) : R_dup2 r X := h.2.2.2.2.2.2.2.2.2.2.2.2.2.2.2.2.2.2.2.2.2.2.2.2.2.1
theorem u_pop {r : MR} {OO : AO} {Q : AP} {X : AX} (h : Rules r OO Q X) : R_pop r X := h.2.2.2.2.2.2.2.2.2.2.2.2.2.2.2.2.2.2.2.2.2.2.2.2.2.2.1
theorem u_goto {r : MR} {OO : AO} {Q : AP} {X : AX} (h : Rules r OO Q X) : R_goto r X := h.2.2.2.2.2.2.2.2.2.2.2.2.2.2.2.2.2.2.2.2.2.2.2.2.2.2.2.1
theorem u_icmp_eq {r : MR} {OO : AO} {Q : AP} {X : AX} (h : Rules r OO Q X) : R_icmp_eq r X := h.2.2.2.2.2.2.2.2.2.2.2.2.2.2.2.2.2.2.2.2.2.2.2.2.2.2.2.2.1
theorem u_if_eq {r : MR} {OO : AO} {Q : AP} {X : AX} (h : Rules r OO Q X) : R_if_eq r X := h.2.2.2.2.2.2.2.2.2.2.2.2.2.2.2.2.2.2.2.2.2.2.2.2.2.2.2.2.2.1
theorem u_icmp_ne {r : MR} {OO : AO} {Q : AP} {X : AX} (h : Rules r OO Q X) : R_icmp_ne r X := h.2.2.2.2.2.2.2.2.2.2.2.2.2.2.2.2.2.2.2.2.2.2.2.2.2.2.2.2.2.2.1
theorem u_if_ne {r : MR} {OO : AO} {Q : AP} {X : AX} (h : Rules r OO Q X) : R_if_ne r X := h.2.2.2.2.2.2.2.2.2.2.2.2.2.2.2.2.2.2.2.2.2.2.2.2.2.2.2.2.2.2.2.1
theorem u_icmp_lt {r : MR} {OO : AO} {Q : AP} {X : AX} (h : Rules r OO Q X) : R_icmp_lt r X := h.2.2.2.2.2.2.2.2.2.2.2.2.2.2.2.2.2.2.2.2.2.2.2.2.2.2.2.2.2.2.2.2.1
theorem u_if_lt {r : MR} {OO : AO} {Q : AP} {X : AX} (h : Rules r OO Q X) : R_if_lt r X := h.2.2.2.2.2.2.2.2.2.2.2.2.2.2.2.2.2.2.2.2.2.2.2.2.2.2.2.2.2.2.2.2.2.1
theorem u_icmp_ge {r : MR} {OO : AO} {Q : AP} {X : AX} (h : Rules r OO Q X) : R_icmp_ge r X := h.2.2.2.2.2.2.2.2.2.2.2.2.2.2.2.2.2.2.2.2.2.2.2.2.2.2.2.2.2.2.2.2.2.2.1
theorem u_if_ge {r : MR} {OO : AO} {Q : AP} {X : AX} (h : Rules r OO Q X) : R_if_ge r X := h.2.2.2.2.2.2.2.2.2.2.2.2.2.2.2.2.2.2.2.2.2.2.2.2.2.2.2.2.2.2.2.2.2.2.2.1
theorem u_icmp_gt {r : MR} {OO : AO} {Q : AP} {X : AX} (h : Rules r OO Q X) : R_icmp_gt r X := h.2.2.2.2.2.2.2.2.2.2.2.2.2.2.2.2.2.2.2.2.2.2.2.2.2.2.2.2.2.2.2.2.2.2.2.2.1
theorem u_if_gt {r : MR} {OO : AO} {Q : AP} {X : AX} (h : Rules r OO Q X) : R_if_gt r X := h.2.2.2.2.2.2.2.2.2.2.2.2.2.2.2.2.2.2.2.2.2.2.2.2.2.2.2.2.2.2.2.2.2.2.2.2.2.1
theorem u_icmp_le {r : MR} {OO : AO} {Q : AP} {X : AX} (h : Rules r OO Q X) : R_icmp_le r X := h.2.2.2.2.2.2.2.2.2.2.2.2.2.2.2.2.2.2.2.2.2.2.2.2.2.2.2.2.2.2.2.2.2.2.2.2.2.2.1
theorem u_if_le {r : MR} {OO : AO} {Q : AP} {X : AX} (h : Rules r OO Q X) : R_if_le r X := h.2.2.2.2.2.2.2.2.2.2.2.2.2.2.2.2.2.2.2.2.2.2.2.2.2.2.2.2.2.2.2.2.2.2.2.2.2.2.2.1
theorem u_ifnull {r : MR} {OO : AO} {Q : AP} {X : AX} (h : Rules r OO Q X) : R_ifnull r X := h.2.2.2.2.2.2.2.2.2.2.2.2.2.2.2.2.2.2.2.2.2.2.2.2.2.2.2.2.2.2.2.2.2.2.2.2.2.2.2.2.1
theorem u_tabIn {r : MR} {OO : AO} {Q : AP} {X : AX} (h : Rules r OO Q X) : R_tabIn r X := h.2.2.2.2.2.2.2.2.2.2.2.2.2.2.2.2.2.2.2.2.2.2.2.2.2.2.2.2.2.2.2.2.2.2.2.2.2.2.2.2.2.1
theorem u_tabOut {r : MR} {OO : AO} {Q : AP} {X : AX} (h : Rules r OO Q X) : R_tabOut r X := h.2.2.2.2.2.2.2.2.2.2.2.2.2.2.2.2.2.2.2.2.2.2.2.2.2.2.2.2.2.2.2.2.2.2.2.2.2.2.2.2.2.2.1
theorem u_look {r : MR} {OO : AO} {Q : AP} {X : AX} (h : Rules r OO Q X) : R_look r X := h.2.2.2.2.2.2.2.2.2.2.2.2.2.2.2.2.2.2.2.2.2.2.2.2.2.2.2.2.2.2.2.2.2.2.2.2.2.2.2.2.2.2.2.1
theorem u_getf {r : MR} {OO : AO} {Q : AP} {X : AX} (h : Rules r OO Q X) : R_getf r X := h.2.2.2.2.2.2.2.2.2.2.2.2.2.2.2.2.2.2.2.2.2.2.2.2.2.2.2.2.2.2.2.2.2.2.2.2.2.2.2.2.2.2.2.2.1
theorem u_putf {r : MR} {OO : AO} {Q : AP} {X : AX} (h : Rules r OO Q X) : R_putf r X := h.2.2.2.2.2.2.2.2.2.2.2.2.2.2.2.2.2.2.2.2.2.2.2.2.2.2.2.2.2.2.2.2.2.2.2.2.2.2.2.2.2.2.2.2.2.1
theorem u_iald {r : MR} {OO : AO} {Q : AP} {X : AX} (h : Rules r OO Q X) : R_iald r X := h.2.2.2.2.2.2.2.2.2.2.2.2.2.2.2.2.2.2.2.2.2.2.2.2.2.2.2.2.2.2.2.2.2.2.2.2.2.2.2.2.2.2.2.2.2.2.1
theorem u_iast {r : MR} {OO : AO} {Q : AP} {X : AX} (h : Rules r OO Q X) : R_iast r X := h.2.2.2.2.2.2.2.2.2.2.2.2.2.2.2.2.2.2.2.2.2.2.2.2.2.2.2.2.2.2.2.2.2.2.2.2.2.2.2.2.2.2.2.2.2.2.2.1
theorem u_alen {r : MR} {OO : AO} {Q : AP} {X : AX} (h : Rules r OO Q X) : R_alen r X := h.2.2.2.2.2.2.2.2.2.2.2.2.2.2.2.2.2.2.2.2.2.2.2.2.2.2.2.2.2.2.2.2.2.2.2.2.2.2.2.2.2.2.2.2.2.2.2.2.1
theorem u_alenq {r : MR} {OO : AO} {Q : AP} {X : AX} (h : Rules r OO Q X) : R_alenq r X := h.2.2.2.2.2.2.2.2.2.2.2.2.2.2.2.2.2.2.2.2.2.2.2.2.2.2.2.2.2.2.2.2.2.2.2.2.2.2.2.2.2.2.2.2.2.2.2.2.2.1
theorem u_aald {r : MR} {OO : AO} {Q : AP} {X : AX} (h : Rules r OO Q X) : R_aald r X := h.2.2.2.2.2.2.2.2.2.2.2.2.2.2.2.2.2.2.2.2.2.2.2.2.2.2.2.2.2.2.2.2.2.2.2.2.2.2.2.2.2.2.2.2.2.2.2.2.2.2.1
theorem u_aast {r : MR} {OO : AO} {Q : AP} {X : AX} (h : Rules r OO Q X) : R_aast r X := h.2.2.2.2.2.2.2.2.2.2.2.2.2.2.2.2.2.2.2.2.2.2.2.2.2.2.2.2.2.2.2.2.2.2.2.2.2.2.2.2.2.2.2.2.2.2.2.2.2.2.2.1
theorem u_new {r : MR} {OO : AO} {Q : AP} {X : AX} (h : Rules r OO Q X) : R_new r X := h.2.2.2.2.2.2.2.2.2.2.2.2.2.2.2.2.2.2.2.2.2.2.2.2.2.2.2.2.2.2.2.2.2.2.2.2.2.2.2.2.2.2.2.2.2.2.2.2.2.2.2.2.1
theorem u_newi {r : MR} {OO : AO} {Q : AP} {X : AX} (h : Rules r OO Q X) : R_newi r X := h.2.2.2.2.2.2.2.2.2.2.2.2.2.2.2.2.2.2.2.2.2.2.2.2.2.2.2.2.2.2.2.2.2.2.2.2.2.2.2.2.2.2.2.2.2.2.2.2.2.2.2.2.2.1
theorem u_newq {r : MR} {OO : AO} {Q : AP} {X : AX} (h : Rules r OO Q X) : R_newq r X := h.2.2.2.2.2.2.2.2.2.2.2.2.2.2.2.2.2.2.2.2.2.2.2.2.2.2.2.2.2.2.2.2.2.2.2.2.2.2.2.2.2.2.2.2.2.2.2.2.2.2.2.2.2.2.1
theorem u_obj {r : MR} {OO : AO} {Q : AP} {X : AX} (h : Rules r OO Q X) : R_obj r X := h.2.2.2.2.2.2.2.2.2.2.2.2.2.2.2.2.2.2.2.2.2.2.2.2.2.2.2.2.2.2.2.2.2.2.2.2.2.2.2.2.2.2.2.2.2.2.2.2.2.2.2.2.2.2.2.1
theorem u_ireturn {r : MR} {OO : AO} {Q : AP} {X : AX} (h : Rules r OO Q X) : R_ireturn r Q X := h.2.2.2.2.2.2.2.2.2.2.2.2.2.2.2.2.2.2.2.2.2.2.2.2.2.2.2.2.2.2.2.2.2.2.2.2.2.2.2.2.2.2.2.2.2.2.2.2.2.2.2.2.2.2.2.2.1
theorem u_areturn {r : MR} {OO : AO} {Q : AP} {X : AX} (h : Rules r OO Q X) : R_areturn r Q X := h.2.2.2.2.2.2.2.2.2.2.2.2.2.2.2.2.2.2.2.2.2.2.2.2.2.2.2.2.2.2.2.2.2.2.2.2.2.2.2.2.2.2.2.2.2.2.2.2.2.2.2.2.2.2.2.2.2.1
theorem u_return {r : MR} {OO : AO} {Q : AP} {X : AX} (h : Rules r OO Q X) : R_return r Q X := h.2.2.2.2.2.2.2.2.2.2.2.2.2.2.2.2.2.2.2.2.2.2.2.2.2.2.2.2.2.2.2.2.2.2.2.2.2.2.2.2.2.2.2.2.2.2.2.2.2.2.2.2.2.2.2.2.2.2.1
theorem u_callV {r : MR} {OO : AO} {Q : AP} {X : AX} (h : Rules r OO Q X) : R_callV r OO X := h.2.2.2.2.2.2.2.2.2.2.2.2.2.2.2.2.2.2.2.2.2.2.2.2.2.2.2.2.2.2.2.2.2.2.2.2.2.2.2.2.2.2.2.2.2.2.2.2.2.2.2.2.2.2.2.2.2.2.2.1
theorem u_callS {r : MR} {OO : AO} {Q : AP} {X : AX} (h : Rules r OO Q X) : R_callS r OO X := h.2.2.2.2.2.2.2.2.2.2.2.2.2.2.2.2.2.2.2.2.2.2.2.2.2.2.2.2.2.2.2.2.2.2.2.2.2.2.2.2.2.2.2.2.2.2.2.2.2.2.2.2.2.2.2.2.2.2.2.2.1
theorem u_callI {r : MR} {OO : AO} {Q : AP} {X : AX} (h : Rules r OO Q X) : R_callI r OO X := h.2.2.2.2.2.2.2.2.2.2.2.2.2.2.2.2.2.2.2.2.2.2.2.2.2.2.2.2.2.2.2.2.2.2.2.2.2.2.2.2.2.2.2.2.2.2.2.2.2.2.2.2.2.2.2.2.2.2.2.2.2
def WP (r : MR) (OO : AO) (Q : AP) : AX := fun pc ls st h a b => ∀ X : AX, Rules r OO Q X → X pc ls st h a b
/-- a method's locals at its start -/
def lsOf (r : MR) (as : List AV) : List (Option AV) := as.map some ++ List.replicate (rL r - as.length) none
def Cd : Nat → AO
  | 0 => fun _ _ _ _ _ _ => False
  | d + 1 => fun r as h a b Q => WP r (Cd d) Q 0 (lsOf r as) [] h a b
def C (r : MR) (as : List AV) (h : AH) (a b : Nat) (Q : AP) : Prop := Cd (rf r + 1) r as h a b Q
abbrev WPr (r : MR) (Q : AP) : AX := WP r (Cd (rf r)) Q
theorem C_in {r : MR} {as : List AV} {h : AH} {a b : Nat} {Q : AP} (k : WPr r Q 0 (lsOf r as) [] h a b) : C r as h a b Q := k
theorem i_iconst {r : MR} {OO : AO} {Q : AP} {pc : Nat} {ls : List (Option AV)} {st : List AV} {h : AH} {a b : Nat} {n : Int} {v : Int32} (h1 : decode (rc r) pc = .ok (.iconst n, 1)) (h2 : Int32.ofInt n = v) (k1 : WP r OO Q (pc + 1) (ls) (ai v :: st) (h) (a) (b)) : WP r OO Q (pc) (ls) (st) (h) (a) (b) := by
  intro X hX
  exact u_iconst hX _ _ _ _ _ _ _ _ h1 h2 (k1 X hX)
theorem i_bipush {r : MR} {OO : AO} {Q : AP} {pc : Nat} {ls : List (Option AV)} {st : List AV} {h : AH} {a b : Nat} {n : Int} {v : Int32} (h1 : decode (rc r) pc = .ok (.bipush n, 2)) (h2 : (Int8.ofInt n).toInt32 = v) (k1 : WP r OO Q (pc + 2) (ls) (ai v :: st) (h) (a) (b)) : WP r OO Q (pc) (ls) (st) (h) (a) (b) := by
  intro X hX
  exact u_bipush hX _ _ _ _ _ _ _ _ h1 h2 (k1 X hX)
theorem i_sipush {r : MR} {OO : AO} {Q : AP} {pc : Nat} {ls : List (Option AV)} {st : List AV} {h : AH} {a b : Nat} {n : Int} {v : Int32} (h1 : decode (rc r) pc = .ok (.sipush n, 3)) (h2 : (Int16.ofInt n).toInt32 = v) (k1 : WP r OO Q (pc + 3) (ls) (ai v :: st) (h) (a) (b)) : WP r OO Q (pc) (ls) (st) (h) (a) (b) := by
  intro X hX
  exact u_sipush hX _ _ _ _ _ _ _ _ h1 h2 (k1 X hX)
theorem i_ldc {r : MR} {OO : AO} {Q : AP} {pc : Nat} {ls : List (Option AV)} {st : List AV} {h : AH} {a b : Nat} {i : Nat} {v : Int32} (h1 : decode (rc r) pc = .ok (.ldc i, 2)) (h2 : Cond.constant (ro r) i v ∈ Wl) (k1 : WP r OO Q (pc + 2) (ls) (ai v :: st) (h) (a) (b)) : WP r OO Q (pc) (ls) (st) (h) (a) (b) := by
  intro X hX
  exact u_ldc hX _ _ _ _ _ _ _ _ h1 h2 (k1 X hX)
theorem i_null {r : MR} {OO : AO} {Q : AP} {pc : Nat} {ls : List (Option AV)} {st : List AV} {h : AH} {a b : Nat}  (h1 : decode (rc r) pc = .ok (.aconst_null, 1)) (k1 : WP r OO Q (pc + 1) (ls) (an :: st) (h) (a) (b)) : WP r OO Q (pc) (ls) (st) (h) (a) (b) := by
  intro X hX
  exact u_null hX _ _ _ _ _ _ h1 (k1 X hX)
theorem i_iload_n {r : MR} {OO : AO} {Q : AP} {pc : Nat} {ls : List (Option AV)} {st : List AV} {h : AH} {a b : Nat} {k : Fin 4} {i : Nat} {x : Int32} (h1 : decode (rc r) pc = .ok (.iload_n k, 1)) (h2 : (k : Nat) = i) (h3 : ls[i]? = some (some (ai x))) (k1 : WP r OO Q (pc + 1) (ls) (ai x :: st) (h) (a) (b)) : WP r OO Q (pc) (ls) (st) (h) (a) (b) := by
  intro X hX
  exact u_iload_n hX _ _ _ _ _ _ _ _ _ h1 h2 h3 (k1 X hX)
theorem i_iload {r : MR} {OO : AO} {Q : AP} {pc : Nat} {ls : List (Option AV)} {st : List AV} {h : AH} {a b : Nat} {i : Nat} {x : Int32} (h1 : decode (rc r) pc = .ok (.iload i, 2)) (h2 : ls[i]? = some (some (ai x))) (k1 : WP r OO Q (pc + 2) (ls) (ai x :: st) (h) (a) (b)) : WP r OO Q (pc) (ls) (st) (h) (a) (b) := by
  intro X hX
  exact u_iload hX _ _ _ _ _ _ _ _ h1 h2 (k1 X hX)
theorem i_aload_n {r : MR} {OO : AO} {Q : AP} {pc : Nat} {ls : List (Option AV)} {st : List AV} {h : AH} {a b : Nat} {k : Fin 4} {i : Nat} {x : Nat} (h1 : decode (rc r) pc = .ok (.aload_n k, 1)) (h2 : (k : Nat) = i) (h3 : ls[i]? = some (some (ar x))) (k1 : WP r OO Q (pc + 1) (ls) (ar x :: st) (h) (a) (b)) : WP r OO Q (pc) (ls) (st) (h) (a) (b) := by
  intro X hX
  exact u_aload_n hX _ _ _ _ _ _ _ _ _ h1 h2 h3 (k1 X hX)
theorem i_aload {r : MR} {OO : AO} {Q : AP} {pc : Nat} {ls : List (Option AV)} {st : List AV} {h : AH} {a b : Nat} {i : Nat} {x : Nat} (h1 : decode (rc r) pc = .ok (.aload i, 2)) (h2 : ls[i]? = some (some (ar x))) (k1 : WP r OO Q (pc + 2) (ls) (ar x :: st) (h) (a) (b)) : WP r OO Q (pc) (ls) (st) (h) (a) (b) := by
  intro X hX
  exact u_aload hX _ _ _ _ _ _ _ _ h1 h2 (k1 X hX)
theorem i_istore_n {r : MR} {OO : AO} {Q : AP} {pc : Nat} {ls : List (Option AV)} {st : List AV} {h : AH} {a b : Nat} {k : Fin 4} {i : Nat} {x : Int32} (h1 : decode (rc r) pc = .ok (.istore_n k, 1)) (h2 : (k : Nat) = i) (h3 : i < ls.length) (k1 : WP r OO Q (pc + 1) (ls.set i (some (ai x))) (st) (h) (a) (b)) : WP r OO Q (pc) (ls) (ai x :: st) (h) (a) (b) := by
  intro X hX
  exact u_istore_n hX _ _ _ _ _ _ _ _ _ h1 h2 h3 (k1 X hX)
theorem i_istore {r : MR} {OO : AO} {Q : AP} {pc : Nat} {ls : List (Option AV)} {st : List AV} {h : AH} {a b : Nat} {i : Nat} {x : Int32} (h1 : decode (rc r) pc = .ok (.istore i, 2)) (h2 : i < ls.length) (k1 : WP r OO Q (pc + 2) (ls.set i (some (ai x))) (st) (h) (a) (b)) : WP r OO Q (pc) (ls) (ai x :: st) (h) (a) (b) := by
  intro X hX
  exact u_istore hX _ _ _ _ _ _ _ _ h1 h2 (k1 X hX)
theorem i_astore_n {r : MR} {OO : AO} {Q : AP} {pc : Nat} {ls : List (Option AV)} {st : List AV} {h : AH} {a b : Nat} {k : Fin 4} {i : Nat} {x : Nat} (h1 : decode (rc r) pc = .ok (.astore_n k, 1)) (h2 : (k : Nat) = i) (h3 : i < ls.length) (k1 : WP r OO Q (pc + 1) (ls.set i (some (ar x))) (st) (h) (a) (b)) : WP r OO Q (pc) (ls) (ar x :: st) (h) (a) (b) := by
  intro X hX
  exact u_astore_n hX _ _ _ _ _ _ _ _ _ h1 h2 h3 (k1 X hX)
theorem i_astore {r : MR} {OO : AO} {Q : AP} {pc : Nat} {ls : List (Option AV)} {st : List AV} {h : AH} {a b : Nat} {i : Nat} {x : Nat} (h1 : decode (rc r) pc = .ok (.astore i, 2)) (h2 : i < ls.length) (k1 : WP r OO Q (pc + 2) (ls.set i (some (ar x))) (st) (h) (a) (b)) : WP r OO Q (pc) (ls) (ar x :: st) (h) (a) (b) := by
  intro X hX
  exact u_astore hX _ _ _ _ _ _ _ _ h1 h2 (k1 X hX)
theorem i_iinc {r : MR} {OO : AO} {Q : AP} {pc : Nat} {ls : List (Option AV)} {st : List AV} {h : AH} {a b : Nat} {i : Nat} {n : Int} {x : Int32} (h1 : decode (rc r) pc = .ok (.iinc i n, 3)) (h2 : ls[i]? = some (some (ai x))) (k1 : WP r OO Q (pc + 3) (ls.set i (some (ai (x + Int32.ofInt n)))) (st) (h) (a) (b)) : WP r OO Q (pc) (ls) (st) (h) (a) (b) := by
  intro X hX
  exact u_iinc hX _ _ _ _ _ _ _ _ _ h1 h2 (k1 X hX)
theorem i_iadd {r : MR} {OO : AO} {Q : AP} {pc : Nat} {ls : List (Option AV)} {st : List AV} {h : AH} {a b : Nat} {x y : Int32} (h1 : decode (rc r) pc = .ok (.iadd, 1)) (k1 : WP r OO Q (pc + 1) (ls) (ai (x + y) :: st) (h) (a) (b)) : WP r OO Q (pc) (ls) (ai y :: ai x :: st) (h) (a) (b) := by
  intro X hX
  exact u_iadd hX _ _ _ _ _ _ _ _ h1 (k1 X hX)
theorem i_isub {r : MR} {OO : AO} {Q : AP} {pc : Nat} {ls : List (Option AV)} {st : List AV} {h : AH} {a b : Nat} {x y : Int32} (h1 : decode (rc r) pc = .ok (.isub, 1)) (k1 : WP r OO Q (pc + 1) (ls) (ai (x - y) :: st) (h) (a) (b)) : WP r OO Q (pc) (ls) (ai y :: ai x :: st) (h) (a) (b) := by
  intro X hX
  exact u_isub hX _ _ _ _ _ _ _ _ h1 (k1 X hX)
theorem i_imul {r : MR} {OO : AO} {Q : AP} {pc : Nat} {ls : List (Option AV)} {st : List AV} {h : AH} {a b : Nat} {x y : Int32} (h1 : decode (rc r) pc = .ok (.imul, 1)) (k1 : WP r OO Q (pc + 1) (ls) (ai (x * y) :: st) (h) (a) (b)) : WP r OO Q (pc) (ls) (ai y :: ai x :: st) (h) (a) (b) := by
  intro X hX
  exact u_imul hX _ _ _ _ _ _ _ _ h1 (k1 X hX)
theorem i_ior {r : MR} {OO : AO} {Q : AP} {pc : Nat} {ls : List (Option AV)} {st : List AV} {h : AH} {a b : Nat} {x y : Int32} (h1 : decode (rc r) pc = .ok (.ior, 1)) (k1 : WP r OO Q (pc + 1) (ls) (ai (x ||| y) :: st) (h) (a) (b)) : WP r OO Q (pc) (ls) (ai y :: ai x :: st) (h) (a) (b) := by
  intro X hX
  exact u_ior hX _ _ _ _ _ _ _ _ h1 (k1 X hX)
theorem i_iand {r : MR} {OO : AO} {Q : AP} {pc : Nat} {ls : List (Option AV)} {st : List AV} {h : AH} {a b : Nat} {x y : Int32} (h1 : decode (rc r) pc = .ok (.iand, 1)) (k1 : WP r OO Q (pc + 1) (ls) (ai (x &&& y) :: st) (h) (a) (b)) : WP r OO Q (pc) (ls) (ai y :: ai x :: st) (h) (a) (b) := by
  intro X hX
  exact u_iand hX _ _ _ _ _ _ _ _ h1 (k1 X hX)
theorem i_ixor {r : MR} {OO : AO} {Q : AP} {pc : Nat} {ls : List (Option AV)} {st : List AV} {h : AH} {a b : Nat} {x y : Int32} (h1 : decode (rc r) pc = .ok (.ixor, 1)) (k1 : WP r OO Q (pc + 1) (ls) (ai (x ^^^ y) :: st) (h) (a) (b)) : WP r OO Q (pc) (ls) (ai y :: ai x :: st) (h) (a) (b) := by
  intro X hX
  exact u_ixor hX _ _ _ _ _ _ _ _ h1 (k1 X hX)
theorem i_ishl {r : MR} {OO : AO} {Q : AP} {pc : Nat} {ls : List (Option AV)} {st : List AV} {h : AH} {a b : Nat} {x y : Int32} (h1 : decode (rc r) pc = .ok (.ishl, 1)) (k1 : WP r OO Q (pc + 1) (ls) (ai (x <<< (y &&& 31)) :: st) (h) (a) (b)) : WP r OO Q (pc) (ls) (ai y :: ai x :: st) (h) (a) (b) := by
  intro X hX
  exact u_ishl hX _ _ _ _ _ _ _ _ h1 (k1 X hX)
theorem i_ishr {r : MR} {OO : AO} {Q : AP} {pc : Nat} {ls : List (Option AV)} {st : List AV} {h : AH} {a b : Nat} {x y : Int32} (h1 : decode (rc r) pc = .ok (.ishr, 1)) (k1 : WP r OO Q (pc + 1) (ls) (ai (x >>> (y &&& 31)) :: st) (h) (a) (b)) : WP r OO Q (pc) (ls) (ai y :: ai x :: st) (h) (a) (b) := by
  intro X hX
  exact u_ishr hX _ _ _ _ _ _ _ _ h1 (k1 X hX)
theorem i_idiv {r : MR} {OO : AO} {Q : AP} {pc : Nat} {ls : List (Option AV)} {st : List AV} {h : AH} {a b : Nat} {x y : Int32} (h1 : decode (rc r) pc = .ok (.idiv, 1)) (h2 : ¬ y = 0) (k1 : WP r OO Q (pc + 1) (ls) (ai (x / y) :: st) (h) (a) (b)) : WP r OO Q (pc) (ls) (ai y :: ai x :: st) (h) (a) (b) := by
  intro X hX
  exact u_idiv hX _ _ _ _ _ _ _ _ h1 h2 (k1 X hX)
theorem i_irem {r : MR} {OO : AO} {Q : AP} {pc : Nat} {ls : List (Option AV)} {st : List AV} {h : AH} {a b : Nat} {x y : Int32} (h1 : decode (rc r) pc = .ok (.irem, 1)) (h2 : ¬ y = 0) (k1 : WP r OO Q (pc + 1) (ls) (ai (x - x / y * y) :: st) (h) (a) (b)) : WP r OO Q (pc) (ls) (ai y :: ai x :: st) (h) (a) (b) := by
  intro X hX
  exact u_irem hX _ _ _ _ _ _ _ _ h1 h2 (k1 X hX)
theorem i_dup {r : MR} {OO : AO} {Q : AP} {pc : Nat} {ls : List (Option AV)} {st : List AV} {h : AH} {a b : Nat} {v : AV} (h1 : decode (rc r) pc = .ok (.dup, 1)) (k1 : WP r OO Q (pc + 1) (ls) (v :: v :: st) (h) (a) (b)) : WP r OO Q (pc) (ls) (v :: st) (h) (a) (b) := by
  intro X hX
  exact u_dup hX _ _ _ _ _ _ _ h1 (k1 X hX)
theorem i_dup2 {r : MR} {OO : AO} {Q : AP} {pc : Nat} {ls : List (Option AV)} {st : List AV} {h : AH} {a b : Nat} {v u : AV} (h1 : decode (rc r) pc = .ok (.dup2, 1)) (k1 : WP r OO Q (pc + 1) (ls) (v :: u :: v :: u :: st) (h) (a) (b)) : WP r OO Q (pc) (ls) (v :: u :: st) (h) (a) (b) := by
  intro X hX
  exact u_dup2 hX _ _ _ _ _ _ _ _ h1 (k1 X hX)
theorem i_pop {r : MR} {OO : AO} {Q : AP} {pc : Nat} {ls : List (Option AV)} {st : List AV} {h : AH} {a b : Nat} {v : AV} (h1 : decode (rc r) pc = .ok (.pop, 1)) (k1 : WP r OO Q (pc + 1) (ls) (st) (h) (a) (b)) : WP r OO Q (pc) (ls) (v :: st) (h) (a) (b) := by
  intro X hX
  exact u_pop hX _ _ _ _ _ _ _ h1 (k1 X hX)
theorem i_goto {r : MR} {OO : AO} {Q : AP} {pc : Nat} {ls : List (Option AV)} {st : List AV} {h : AH} {a b : Nat} {off : Int} {tgt : Nat} (h1 : decode (rc r) pc = .ok (.goto off, 3)) (h2 : (pc : Int) + off = (tgt : Int)) (k1 : WP r OO Q (tgt) (ls) (st) (h) (a) (b)) : WP r OO Q (pc) (ls) (st) (h) (a) (b) := by
  intro X hX
  exact u_goto hX _ _ _ _ _ _ _ _ h1 h2 (k1 X hX)
theorem i_icmp_eq {r : MR} {OO : AO} {Q : AP} {pc : Nat} {ls : List (Option AV)} {st : List AV} {h : AH} {a b : Nat} {x y : Int32} {off : Int} {tgt : Nat} (h1 : decode (rc r) pc = .ok (.if_icmp .eq off, 3)) (h2 : (pc : Int) + off = (tgt : Int)) (k1 : x = y → WP r OO Q (tgt) (ls) (st) (h) (a) (b)) (k2 : ¬ x = y → WP r OO Q (pc + 3) (ls) (st) (h) (a) (b)) : WP r OO Q (pc) (ls) (ai y :: ai x :: st) (h) (a) (b) := by
  intro X hX
  exact u_icmp_eq hX _ _ _ _ _ _ _ _ _ _ h1 h2 (fun c => k1 c X hX) (fun c => k2 c X hX)
theorem i_if_eq {r : MR} {OO : AO} {Q : AP} {pc : Nat} {ls : List (Option AV)} {st : List AV} {h : AH} {a b : Nat} {x : Int32} {off : Int} {tgt : Nat} (h1 : decode (rc r) pc = .ok (.ifCond .eq off, 3)) (h2 : (pc : Int) + off = (tgt : Int)) (k1 : x = 0 → WP r OO Q (tgt) (ls) (st) (h) (a) (b)) (k2 : ¬ x = 0 → WP r OO Q (pc + 3) (ls) (st) (h) (a) (b)) : WP r OO Q (pc) (ls) (ai x :: st) (h) (a) (b) := by
  intro X hX
  exact u_if_eq hX _ _ _ _ _ _ _ _ _ h1 h2 (fun c => k1 c X hX) (fun c => k2 c X hX)
theorem i_icmp_ne {r : MR} {OO : AO} {Q : AP} {pc : Nat} {ls : List (Option AV)} {st : List AV} {h : AH} {a b : Nat} {x y : Int32} {off : Int} {tgt : Nat} (h1 : decode (rc r) pc = .ok (.if_icmp .ne off, 3)) (h2 : (pc : Int) + off = (tgt : Int)) (k1 : ¬ x = y → WP r OO Q (tgt) (ls) (st) (h) (a) (b)) (k2 : x = y → WP r OO Q (pc + 3) (ls) (st) (h) (a) (b)) : WP r OO Q (pc) (ls) (ai y :: ai x :: st) (h) (a) (b) := by
  intro X hX
  exact u_icmp_ne hX _ _ _ _ _ _ _ _ _ _ h1 h2 (fun c => k1 c X hX) (fun c => k2 c X hX)
theorem i_if_ne {r : MR} {OO : AO} {Q : AP} {pc : Nat} {ls : List (Option AV)} {st : List AV} {h : AH} {a b : Nat} {x : Int32} {off : Int} {tgt : Nat} (h1 : decode (rc r) pc = .ok (.ifCond .ne off, 3)) (h2 : (pc : Int) + off = (tgt : Int)) (k1 : ¬ x = 0 → WP r OO Q (tgt) (ls) (st) (h) (a) (b)) (k2 : x = 0 → WP r OO Q (pc + 3) (ls) (st) (h) (a) (b)) : WP r OO Q (pc) (ls) (ai x :: st) (h) (a) (b) := by
  intro X hX
  exact u_if_ne hX _ _ _ _ _ _ _ _ _ h1 h2 (fun c => k1 c X hX) (fun c => k2 c X hX)
theorem i_icmp_lt {r : MR} {OO : AO} {Q : AP} {pc : Nat} {ls : List (Option AV)} {st : List AV} {h : AH} {a b : Nat} {x y : Int32} {off : Int} {tgt : Nat} (h1 : decode (rc r) pc = .ok (.if_icmp .lt off, 3)) (h2 : (pc : Int) + off = (tgt : Int)) (k1 : x < y → WP r OO Q (tgt) (ls) (st) (h) (a) (b)) (k2 : ¬ x < y → WP r OO Q (pc + 3) (ls) (st) (h) (a) (b)) : WP r OO Q (pc) (ls) (ai y :: ai x :: st) (h) (a) (b) := by
  intro X hX
  exact u_icmp_lt hX _ _ _ _ _ _ _ _ _ _ h1 h2 (fun c => k1 c X hX) (fun c => k2 c X hX)
theorem i_if_lt {r : MR} {OO : AO} {Q : AP} {pc : Nat} {ls : List (Option AV)} {st : List AV} {h : AH} {a b : Nat} {x : Int32} {off : Int} {tgt : Nat} (h1 : decode (rc r) pc = .ok (.ifCond .lt off, 3)) (h2 : (pc : Int) + off = (tgt : Int)) (k1 : x < 0 → WP r OO Q (tgt) (ls) (st) (h) (a) (b)) (k2 : ¬ x < 0 → WP r OO Q (pc + 3) (ls) (st) (h) (a) (b)) : WP r OO Q (pc) (ls) (ai x :: st) (h) (a) (b) := by
  intro X hX
  exact u_if_lt hX _ _ _ _ _ _ _ _ _ h1 h2 (fun c => k1 c X hX) (fun c => k2 c X hX)
theorem i_icmp_ge {r : MR} {OO : AO} {Q : AP} {pc : Nat} {ls : List (Option AV)} {st : List AV} {h : AH} {a b : Nat} {x y : Int32} {off : Int} {tgt : Nat} (h1 : decode (rc r) pc = .ok (.if_icmp .ge off, 3)) (h2 : (pc : Int) + off = (tgt : Int)) (k1 : y ≤ x → WP r OO Q (tgt) (ls) (st) (h) (a) (b)) (k2 : ¬ y ≤ x → WP r OO Q (pc + 3) (ls) (st) (h) (a) (b)) : WP r OO Q (pc) (ls) (ai y :: ai x :: st) (h) (a) (b) := by
  intro X hX
  exact u_icmp_ge hX _ _ _ _ _ _ _ _ _ _ h1 h2 (fun c => k1 c X hX) (fun c => k2 c X hX)
theorem i_if_ge {r : MR} {OO : AO} {Q : AP} {pc : Nat} {ls : List (Option AV)} {st : List AV} {h : AH} {a b : Nat} {x : Int32} {off : Int} {tgt : Nat} (h1 : decode (rc r) pc = .ok (.ifCond .ge off, 3)) (h2 : (pc : Int) + off = (tgt : Int)) (k1 : 0 ≤ x → WP r OO Q (tgt) (ls) (st) (h) (a) (b)) (k2 : ¬ 0 ≤ x → WP r OO Q (pc + 3) (ls) (st) (h) (a) (b)) : WP r OO Q (pc) (ls) (ai x :: st) (h) (a) (b) := by
  intro X hX
  exact u_if_ge hX _ _ _ _ _ _ _ _ _ h1 h2 (fun c => k1 c X hX) (fun c => k2 c X hX)
theorem i_icmp_gt {r : MR} {OO : AO} {Q : AP} {pc : Nat} {ls : List (Option AV)} {st : List AV} {h : AH} {a b : Nat} {x y : Int32} {off : Int} {tgt : Nat} (h1 : decode (rc r) pc = .ok (.if_icmp .gt off, 3)) (h2 : (pc : Int) + off = (tgt : Int)) (k1 : y < x → WP r OO Q (tgt) (ls) (st) (h) (a) (b)) (k2 : ¬ y < x → WP r OO Q (pc + 3) (ls) (st) (h) (a) (b)) : WP r OO Q (pc) (ls) (ai y :: ai x :: st) (h) (a) (b) := by
  intro X hX
  exact u_icmp_gt hX _ _ _ _ _ _ _ _ _ _ h1 h2 (fun c => k1 c X hX) (fun c => k2 c X hX)
theorem i_if_gt {r : MR} {OO : AO} {Q : AP} {pc : Nat} {ls : List (Option AV)} {st : List AV} {h : AH} {a b : Nat} {x : Int32} {off : Int} {tgt : Nat} (h1 : decode (rc r) pc = .ok (.ifCond .gt off, 3)) (h2 : (pc : Int) + off = (tgt : Int)) (k1 : 0 < x → WP r OO Q (tgt) (ls) (st) (h) (a) (b)) (k2 : ¬ 0 < x → WP r OO Q (pc + 3) (ls) (st) (h) (a) (b)) : WP r OO Q (pc) (ls) (ai x :: st) (h) (a) (b) := by
  intro X hX
  exact u_if_gt hX _ _ _ _ _ _ _ _ _ h1 h2 (fun c => k1 c X hX) (fun c => k2 c X hX)
theorem i_icmp_le {r : MR} {OO : AO} {Q : AP} {pc : Nat} {ls : List (Option AV)} {st : List AV} {h : AH} {a b : Nat} {x y : Int32} {off : Int} {tgt : Nat} (h1 : decode (rc r) pc = .ok (.if_icmp .le off, 3)) (h2 : (pc : Int) + off = (tgt : Int)) (k1 : x ≤ y → WP r OO Q (tgt) (ls) (st) (h) (a) (b)) (k2 : ¬ x ≤ y → WP r OO Q (pc + 3) (ls) (st) (h) (a) (b)) : WP r OO Q (pc) (ls) (ai y :: ai x :: st) (h) (a) (b) := by
  intro X hX
  exact u_icmp_le hX _ _ _ _ _ _ _ _ _ _ h1 h2 (fun c => k1 c X hX) (fun c => k2 c X hX)
theorem i_if_le {r : MR} {OO : AO} {Q : AP} {pc : Nat} {ls : List (Option AV)} {st : List AV} {h : AH} {a b : Nat} {x : Int32} {off : Int} {tgt : Nat} (h1 : decode (rc r) pc = .ok (.ifCond .le off, 3)) (h2 : (pc : Int) + off = (tgt : Int)) (k1 : x ≤ 0 → WP r OO Q (tgt) (ls) (st) (h) (a) (b)) (k2 : ¬ x ≤ 0 → WP r OO Q (pc + 3) (ls) (st) (h) (a) (b)) : WP r OO Q (pc) (ls) (ai x :: st) (h) (a) (b) := by
  intro X hX
  exact u_if_le hX _ _ _ _ _ _ _ _ _ h1 h2 (fun c => k1 c X hX) (fun c => k2 c X hX)
theorem i_ifnull {r : MR} {OO : AO} {Q : AP} {pc : Nat} {ls : List (Option AV)} {st : List AV} {h : AH} {a b : Nat} {x : Nat} {off : Int} (h1 : decode (rc r) pc = .ok (.ifnull off, 3)) (k1 : WP r OO Q (pc + 3) (ls) (st) (h) (a) (b)) : WP r OO Q (pc) (ls) (ar x :: st) (h) (a) (b) := by
  intro X hX
  exact u_ifnull hX _ _ _ _ _ _ _ _ h1 (k1 X hX)
theorem i_tabIn {r : MR} {OO : AO} {Q : AP} {pc : Nat} {ls : List (Option AV)} {st : List AV} {h : AH} {a b : Nat} {dflt lo hi : Int} {offs : Array Int} {len : Nat} {x : Int32} {off : Int} {tgt : Nat} (h1 : decode (rc r) pc = .ok (.tableswitch dflt lo hi offs, len)) (h2 : ¬ x.toInt < lo) (h3 : ¬ hi < x.toInt) (h4 : offs[(x.toInt - lo).toNat]? = some off) (h5 : (pc : Int) + off = (tgt : Int)) (k1 : WP r OO Q (tgt) (ls) (st) (h) (a) (b)) : WP r OO Q (pc) (ls) (ai x :: st) (h) (a) (b) := by
  intro X hX
  exact u_tabIn hX _ _ _ _ _ _ _ _ _ _ _ _ _ _ h1 h2 h3 h4 h5 (k1 X hX)
theorem i_tabOut {r : MR} {OO : AO} {Q : AP} {pc : Nat} {ls : List (Option AV)} {st : List AV} {h : AH} {a b : Nat} {dflt lo hi : Int} {offs : Array Int} {len : Nat} {x : Int32} {tgt : Nat} (h1 : decode (rc r) pc = .ok (.tableswitch dflt lo hi offs, len)) (h2 : x.toInt < lo ∨ hi < x.toInt) (h3 : (pc : Int) + dflt = (tgt : Int)) (k1 : WP r OO Q (tgt) (ls) (st) (h) (a) (b)) : WP r OO Q (pc) (ls) (ai x :: st) (h) (a) (b) := by
  intro X hX
  exact u_tabOut hX _ _ _ _ _ _ _ _ _ _ _ _ _ h1 h2 h3 (k1 X hX)
theorem i_look {r : MR} {OO : AO} {Q : AP} {pc : Nat} {ls : List (Option AV)} {st : List AV} {h : AH} {a b : Nat} {dflt : Int} {ps : Array (Int × Int)} {len : Nat} {x : Int32} {off : Int} {tgt : Nat} (h1 : decode (rc r) pc = .ok (.lookupswitch dflt ps, len)) (h2 : (ps.toList.zip (ps.toList.drop 1)).all (fun (a, next) => a.1 < next.1) = true) (h3 : Op.lookupswitch.offset ps.toList dflt x.toInt = off) (h4 : (pc : Int) + off = (tgt : Int)) (k1 : WP r OO Q (tgt) (ls) (st) (h) (a) (b)) : WP r OO Q (pc) (ls) (ai x :: st) (h) (a) (b) := by
  intro X hX
  exact u_look hX _ _ _ _ _ _ _ _ _ _ _ _ h1 h2 h3 h4 (k1 X hX)
theorem i_getf {r : MR} {OO : AO} {Q : AP} {pc : Nat} {ls : List (Option AV)} {st : List AV} {h : AH} {a b : Nat} {i ci k o : Nat} {fs : List AV} {v : AV} (h1 : decode (rc r) pc = .ok (.getfield i, 3)) (h2 : FL (ro r) i ci k) (h3 : h[o]? = some (.inl (ci, fs))) (h4 : fs[k]? = some v) (k1 : WP r OO Q (pc + 3) (ls) (v :: st) (h) (a) (b)) : WP r OO Q (pc) (ls) (ar o :: st) (h) (a) (b) := by
  intro X hX
  exact u_getf hX _ _ _ _ _ _ _ _ _ _ _ _ h1 h2 h3 h4 (k1 X hX)
theorem i_putf {r : MR} {OO : AO} {Q : AP} {pc : Nat} {ls : List (Option AV)} {st : List AV} {h : AH} {a b : Nat} {i ci k o : Nat} {fs : List AV} {v : AV} (h1 : decode (rc r) pc = .ok (.putfield i, 3)) (h2 : FL (ro r) i ci k) (h3 : FN ci k ∨ ((ry r).name = "<init>" ∧ FF (ro r) ci k)) (h4 : FP ci k v) (h5 : h[o]? = some (.inl (ci, fs))) (h6 : k < fs.length) (k1 : WP r OO Q (pc + 3) (ls) (st) (h.set o (.inl (ci, fs.set k v))) (a) (b)) : WP r OO Q (pc) (ls) (v :: ar o :: st) (h) (a) (b) := by
  intro X hX
  exact u_putf hX _ _ _ _ _ _ _ _ _ _ _ _ h1 h2 h3 h4 h5 h6 (k1 X hX)
theorem i_iald {r : MR} {OO : AO} {Q : AP} {pc : Nat} {ls : List (Option AV)} {st : List AV} {h : AH} {a b : Nat} {o n : Nat} {f : Nat → Int32} {i : Int32} (h1 : decode (rc r) pc = .ok (.iaload, 1)) (h2 : h[o]? = some (.inr (.inl (n, f)))) (h3 : vp_in i n) (k1 : WP r OO Q (pc + 1) (ls) (ai (f i.toNatClampNeg) :: st) (h) (a) (b)) : WP r OO Q (pc) (ls) (ai i :: ar o :: st) (h) (a) (b) := by
  intro X hX
  exact u_iald hX _ _ _ _ _ _ _ _ _ _ h1 h2 h3 (k1 X hX)
theorem i_iast {r : MR} {OO : AO} {Q : AP} {pc : Nat} {ls : List (Option AV)} {st : List AV} {h : AH} {a b : Nat} {o n : Nat} {f : Nat → Int32} {i x : Int32} (h1 : decode (rc r) pc = .ok (.iastore, 1)) (h2 : h[o]? = some (.inr (.inl (n, f)))) (h3 : vp_in i n) (k1 : WP r OO Q (pc + 1) (ls) (st) (h.set o (.inr (.inl (n, upd f i.toNatClampNeg x)))) (a) (b)) : WP r OO Q (pc) (ls) (ai x :: ai i :: ar o :: st) (h) (a) (b) := by
  intro X hX
  exact u_iast hX _ _ _ _ _ _ _ _ _ _ _ h1 h2 h3 (k1 X hX)
theorem i_alen {r : MR} {OO : AO} {Q : AP} {pc : Nat} {ls : List (Option AV)} {st : List AV} {h : AH} {a b : Nat} {o n : Nat} {f : Nat → Int32} (h1 : decode (rc r) pc = .ok (.arraylength, 1)) (h2 : h[o]? = some (.inr (.inl (n, f)))) (k1 : WP r OO Q (pc + 1) (ls) (ai (Int32.ofNat n) :: st) (h) (a) (b)) : WP r OO Q (pc) (ls) (ar o :: st) (h) (a) (b) := by
  intro X hX
  exact u_alen hX _ _ _ _ _ _ _ _ _ h1 h2 (k1 X hX)
theorem i_alenq {r : MR} {OO : AO} {Q : AP} {pc : Nat} {ls : List (Option AV)} {st : List AV} {h : AH} {a b : Nat} {o n : Nat} {f : Nat → Option Nat} (h1 : decode (rc r) pc = .ok (.arraylength, 1)) (h2 : h[o]? = some (.inr (.inr (n, f)))) (k1 : WP r OO Q (pc + 1) (ls) (ai (Int32.ofNat n) :: st) (h) (a) (b)) : WP r OO Q (pc) (ls) (ar o :: st) (h) (a) (b) := by
  intro X hX
  exact u_alenq hX _ _ _ _ _ _ _ _ _ h1 h2 (k1 X hX)
theorem i_aald {r : MR} {OO : AO} {Q : AP} {pc : Nat} {ls : List (Option AV)} {st : List AV} {h : AH} {a b : Nat} {o n : Nat} {f : Nat → Option Nat} {i : Int32} (h1 : decode (rc r) pc = .ok (.aaload, 1)) (h2 : h[o]? = some (.inr (.inr (n, f)))) (h3 : vp_in i n) (k1 : WP r OO Q (pc + 1) (ls) (.inr (f i.toNatClampNeg) :: st) (h) (a) (b)) : WP r OO Q (pc) (ls) (ai i :: ar o :: st) (h) (a) (b) := by
  intro X hX
  exact u_aald hX _ _ _ _ _ _ _ _ _ _ h1 h2 h3 (k1 X hX)
theorem i_aast {r : MR} {OO : AO} {Q : AP} {pc : Nat} {ls : List (Option AV)} {st : List AV} {h : AH} {a b : Nat} {o n v : Nat} {fs : List AV} {f : Nat → Option Nat} {i : Int32} (h1 : decode (rc r) pc = .ok (.aastore, 1)) (h2 : h[o]? = some (.inr (.inr (n, f)))) (h3 : h[v]? = some (.inl (8, fs))) (h4 : vp_in i n) (k1 : WP r OO Q (pc + 1) (ls) (st) (h.set o (.inr (.inr (n, va_up f i.toNatClampNeg (some v))))) (a) (b)) : WP r OO Q (pc) (ls) (ar v :: ai i :: ar o :: st) (h) (a) (b) := by
  intro X hX
  exact u_aast hX _ _ _ _ _ _ _ _ _ _ _ _ h1 h2 h3 h4 (k1 X hX)
theorem i_new {r : MR} {OO : AO} {Q : AP} {pc : Nat} {ls : List (Option AV)} {st : List AV} {h : AH} {a b : Nat} {i ci N : Nat} {C : String} {T : u_T} {fs : List AV} (h1 : decode (rc r) pc = .ok (.new i, 3)) (h2 : vwCl[ci]? = some (C, T, N)) (h3 : Cond.classLink (ro r) i C ∈ Wl) (h4 : Cond.instantiable C N ∈ Wl) (h5 : Cond.initialized C ∈ Wl) (h6 : fs.length = N) (h7 : ∀ j, j < N → (parseFieldDescriptor (T j).2.2.1).map defaultValue = some (cv 0 (fs.getD j an)) ∧ (∀ q, fs[j]? ≠ some (ar q))) (k1 : WP r OO Q (pc + 3) (ls) (ar h.length :: st) (h ++ [.inl (ci, fs)]) (a) (b)) : WP r OO Q (pc) (ls) (st) (h) (a + 1) (b + N) := by
  intro X hX
  exact u_new hX _ _ _ _ _ _ _ _ _ _ _ _ h1 h2 h3 h4 h5 h6 h7 (k1 X hX)
theorem i_newi {r : MR} {OO : AO} {Q : AP} {pc : Nat} {ls : List (Option AV)} {st : List AV} {h : AH} {a b : Nat} {n : Int32} {N : Nat} (h1 : decode (rc r) pc = .ok (.newarray .int, 2)) (h2 : ¬ n < 0) (h3 : n.toNatClampNeg = N) (h4 : N ≤ 1000) (k1 : WP r OO Q (pc + 2) (ls) (ar h.length :: st) (h ++ [.inr (.inl (N, fun _ => 0))]) (a) (b)) : WP r OO Q (pc) (ls) (ai n :: st) (h) (a + 1) (b + N) := by
  intro X hX
  exact u_newi hX _ _ _ _ _ _ _ _ h1 h2 h3 h4 (k1 X hX)
theorem i_newq {r : MR} {OO : AO} {Q : AP} {pc : Nat} {ls : List (Option AV)} {st : List AV} {h : AH} {a b : Nat} {i : Nat} {n : Int32} {N : Nat} (h1 : decode (rc r) pc = .ok (.anewarray i, 3)) (h2 : Cond.classLink (ro r) i RX8 ∈ Wl) (h3 : ¬ n < 0) (h4 : n.toNatClampNeg = N) (h5 : N ≤ 1000) (k1 : WP r OO Q (pc + 3) (ls) (ar h.length :: st) (h ++ [.inr (.inr (N, fun _ => none))]) (a) (b)) : WP r OO Q (pc) (ls) (ai n :: st) (h) (a + 1) (b + N) := by
  intro X hX
  exact u_newq hX _ _ _ _ _ _ _ _ _ h1 h2 h3 h4 h5 (k1 X hX)
theorem i_obj {r : MR} {OO : AO} {Q : AP} {pc : Nat} {ls : List (Option AV)} {st : List AV} {h : AH} {a b : Nat} {i o : Nat} (h1 : decode (rc r) pc = .ok (.invokespecial i, 3)) (h2 : Cond.methodLink (ro r) i objectInit ∈ Wl) (h3 : st.length ≤ 8) (h4 : 1 ≤ rf r) (h5 : 20 ≤ rl r) (k1 : WP r OO Q (pc + 3) (ls) (st) (h) (a) (b)) : WP r OO Q (pc) (ls) (ar o :: st) (h) (a) (b) := by
  intro X hX
  exact u_obj hX _ _ _ _ _ _ _ _ h1 h2 h3 h4 h5 (k1 X hX)
theorem i_ireturn {r : MR} {OO : AO} {Q : AP} {pc : Nat} {ls : List (Option AV)} {h : AH} {a b : Nat} {x : Int32} {ty : FieldType} (h1 : decode (rc r) pc = .ok (.ireturn, 1)) (h2 : rt r = some ty) (h3 : narrow ty (.int x) = .int x) (h4 : Q (some (ai x)) h) : WP r OO Q (pc) (ls) ([ai x]) (h) (a) (b) := by
  intro X hX
  exact u_ireturn hX _ _ _ _ _ _ _ h1 h2 h3 h4
theorem i_areturn {r : MR} {OO : AO} {Q : AP} {pc : Nat} {ls : List (Option AV)} {h : AH} {a b : Nat} {x : Option Nat} {C : String} (h1 : decode (rc r) pc = .ok (.areturn, 1)) (h2 : rt r = some (.object C)) (h3 : Q (some (.inr x)) h) : WP r OO Q (pc) (ls) ([.inr x]) (h) (a) (b) := by
  intro X hX
  exact u_areturn hX _ _ _ _ _ _ _ h1 h2 h3
theorem i_return {r : MR} {OO : AO} {Q : AP} {pc : Nat} {ls : List (Option AV)} {h : AH} {a b : Nat} (h1 : decode (rc r) pc = .ok (.return_, 1)) (h2 : rt r = none) (h3 : Q none h) : WP r OO Q (pc) (ls) ([]) (h) (a) (b) := by
  intro X hX
  exact u_return hX _ _ _ _ _ h1 h2 h3
theorem xi_iconst {r : MR} {OO : AO} {Q : AP} {X : AX} (hX : Rules r OO Q X) {pc : Nat} {ls : List (Option AV)} {st : List AV} {h : AH} {a b : Nat} {n : Int} {v : Int32} (h1 : decode (rc r) pc = .ok (.iconst n, 1)) (h2 : Int32.ofInt n = v) (k1 : X (pc + 1) (ls) (ai v :: st) (h) (a) (b)) : X (pc) (ls) (st) (h) (a) (b) := u_iconst hX _ _ _ _ _ _ _ _ h1 h2 k1
theorem xi_bipush {r : MR} {OO : AO} {Q : AP} {X : AX} (hX : Rules r OO Q X) {pc : Nat} {ls : List (Option AV)} {st : List AV} {h : AH} {a b : Nat} {n : Int} {v : Int32} (h1 : decode (rc r) pc = .ok (.bipush n, 2)) (h2 : (Int8.ofInt n).toInt32 = v) (k1 : X (pc + 2) (ls) (ai v :: st) (h) (a) (b)) : X (pc) (ls) (st) (h) (a) (b) := u_bipush hX _ _ _ _ _ _ _ _ h1 h2 k1
theorem xi_sipush {r : MR} {OO : AO} {Q : AP} {X : AX} (hX : Rules r OO Q X) {pc : Nat} {ls : List (Option AV)} {st : List AV} {h : AH} {a b : Nat} {n : Int} {v : Int32} (h1 : decode (rc r) pc = .ok (.sipush n, 3)) (h2 : (Int16.ofInt n).toInt32 = v) (k1 : X (pc + 3) (ls) (ai v :: st) (h) (a) (b)) : X (pc) (ls) (st) (h) (a) (b) := u_sipush hX _ _ _ _ _ _ _ _ h1 h2 k1
theorem xi_ldc {r : MR} {OO : AO} {Q : AP} {X : AX} (hX : Rules r OO Q X) {pc : Nat} {ls : List (Option AV)} {st : List AV} {h : AH} {a b : Nat} {i : Nat} {v : Int32} (h1 : decode (rc r) pc = .ok (.ldc i, 2)) (h2 : Cond.constant (ro r) i v ∈ Wl) (k1 : X (pc + 2) (ls) (ai v :: st) (h) (a) (b)) : X (pc) (ls) (st) (h) (a) (b) := u_ldc hX _ _ _ _ _ _ _ _ h1 h2 k1
theorem xi_null {r : MR} {OO : AO} {Q : AP} {X : AX} (hX : Rules r OO Q X) {pc : Nat} {ls : List (Option AV)} {st : List AV} {h : AH} {a b : Nat}  (h1 : decode (rc r) pc = .ok (.aconst_null, 1)) (k1 : X (pc + 1) (ls) (an :: st) (h) (a) (b)) : X (pc) (ls) (st) (h) (a) (b) := u_null hX _ _ _ _ _ _ h1 k1
theorem xi_iload_n {r : MR} {OO : AO} {Q : AP} {X : AX} (hX : Rules r OO Q X) {pc : Nat} {ls : List (Option AV)} {st : List AV} {h : AH} {a b : Nat} {k : Fin 4} {i : Nat} {x : Int32} (h1 : decode (rc r) pc = .ok (.iload_n k, 1)) (h2 : (k : Nat) = i) (h3 : ls[i]? = some (some (ai x))) (k1 : X (pc + 1) (ls) (ai x :: st) (h) (a) (b)) : X (pc) (ls) (st) (h) (a) (b) := u_iload_n hX _ _ _ _ _ _ _ _ _ h1 h2 h3 k1
theorem xi_iload {r : MR} {OO : AO} {Q : AP} {X : AX} (hX : Rules r OO Q X) {pc : Nat} {ls : List (Option AV)} {st : List AV} {h : AH} {a b : Nat} {i : Nat} {x : Int32} (h1 : decode (rc r) pc = .ok (.iload i, 2)) (h2 : ls[i]? = some (some (ai x))) (k1 : X (pc + 2) (ls) (ai x :: st) (h) (a) (b)) : X (pc) (ls) (st) (h) (a) (b) := u_iload hX _ _ _ _ _ _ _ _ h1 h2 k1
theorem xi_aload_n {r : MR} {OO : AO} {Q : AP} {X : AX} (hX : Rules r OO Q X) {pc : Nat} {ls : List (Option AV)} {st : List AV} {h : AH} {a b : Nat} {k : Fin 4} {i : Nat} {x : Nat} (h1 : decode (rc r) pc = .ok (.aload_n k, 1)) (h2 : (k : Nat) = i) (h3 : ls[i]? = some (some (ar x))) (k1 : X (pc + 1) (ls) (ar x :: st) (h) (a) (b)) : X (pc) (ls) (st) (h) (a) (b) := u_aload_n hX _ _ _ _ _ _ _ _ _ h1 h2 h3 k1
theorem xi_aload {r : MR} {OO : AO} {Q : AP} {X : AX} (hX : Rules r OO Q X) {pc : Nat} {ls : List (Option AV)} {st : List AV} {h : AH} {a b : Nat} {i : Nat} {x : Nat} (h1 : decode (rc r) pc = .ok (.aload i, 2)) (h2 : ls[i]? = some (some (ar x))) (k1 : X (pc + 2) (ls) (ar x :: st) (h) (a) (b)) : X (pc) (ls) (st) (h) (a) (b) := u_aload hX _ _ _ _ _ _ _ _ h1 h2 k1
theorem xi_istore_n {r : MR} {OO : AO} {Q : AP} {X : AX} (hX : Rules r OO Q X) {pc : Nat} {ls : List (Option AV)} {st : List AV} {h : AH} {a b : Nat} {k : Fin 4} {i : Nat} {x : Int32} (h1 : decode (rc r) pc = .ok (.istore_n k, 1)) (h2 : (k : Nat) = i) (h3 : i < ls.length) (k1 : X (pc + 1) (ls.set i (some (ai x))) (st) (h) (a) (b)) : X (pc) (ls) (ai x :: st) (h) (a) (b) := u_istore_n hX _ _ _ _ _ _ _ _ _ h1 h2 h3 k1
theorem xi_istore {r : MR} {OO : AO} {Q : AP} {X : AX} (hX : Rules r OO Q X) {pc : Nat} {ls : List (Option AV)} {st : List AV} {h : AH} {a b : Nat} {i : Nat} {x : Int32} (h1 : decode (rc r) pc = .ok (.istore i, 2)) (h2 : i < ls.length) (k1 : X (pc + 2) (ls.set i (some (ai x))) (st) (h) (a) (b)) : X (pc) (ls) (ai x :: st) (h) (a) (b) := u_istore hX _ _ _ _ _ _ _ _ h1 h2 k1
theorem xi_astore_n {r : MR} {OO : AO} {Q : AP} {X : AX} (hX : Rules r OO Q X) {pc : Nat} {ls : List (Option AV)} {st : List AV} {h : AH} {a b : Nat} {k : Fin 4} {i : Nat} {x : Nat} (h1 : decode (rc r) pc = .ok (.astore_n k, 1)) (h2 : (k : Nat) = i) (h3 : i < ls.length) (k1 : X (pc + 1) (ls.set i (some (ar x))) (st) (h) (a) (b)) : X (pc) (ls) (ar x :: st) (h) (a) (b) := u_astore_n hX _ _ _ _ _ _ _ _ _ h1 h2 h3 k1
theorem xi_astore {r : MR} {OO : AO} {Q : AP} {X : AX} (hX : Rules r OO Q X) {pc : Nat} {ls : List (Option AV)} {st : List AV} {h : AH} {a b : Nat} {i : Nat} {x : Nat} (h1 : decode (rc r) pc = .ok (.astore i, 2)) (h2 : i < ls.length) (k1 : X (pc + 2) (ls.set i (some (ar x))) (st) (h) (a) (b)) : X (pc) (ls) (ar x :: st) (h) (a) (b) := u_astore hX _ _ _ _ _ _ _ _ h1 h2 k1
theorem xi_iinc {r : MR} {OO : AO} {Q : AP} {X : AX} (hX : Rules r OO Q X) {pc : Nat} {ls : List (Option AV)} {st : List AV} {h : AH} {a b : Nat} {i : Nat} {n : Int} {x : Int32} (h1 : decode (rc r) pc = .ok (.iinc i n, 3)) (h2 : ls[i]? = some (some (ai x))) (k1 : X (pc + 3) (ls.set i (some (ai (x + Int32.ofInt n)))) (st) (h) (a) (b)) : X (pc) (ls) (st) (h) (a) (b) := u_iinc hX _ _ _ _ _ _ _ _ _ h1 h2 k1
theorem xi_iadd {r : MR} {OO : AO} {Q : AP} {X : AX} (hX : Rules r OO Q X) {pc : Nat} {ls : List (Option AV)} {st : List AV} {h : AH} {a b : Nat} {x y : Int32} (h1 : decode (rc r) pc = .ok (.iadd, 1)) (k1 : X (pc + 1) (ls) (ai (x + y) :: st) (h) (a) (b)) : X (pc) (ls) (ai y :: ai x :: st) (h) (a) (b) := u_iadd hX _ _ _ _ _ _ _ _ h1 k1
theorem xi_isub {r : MR} {OO : AO} {Q : AP} {X : AX} (hX : Rules r OO Q X) {pc : Nat} {ls : List (Option AV)} {st : List AV} {h : AH} {a b : Nat} {x y : Int32} (h1 : decode (rc r) pc = .ok (.isub, 1)) (k1 : X (pc + 1) (ls) (ai (x - y) :: st) (h) (a) (b)) : X (pc) (ls) (ai y :: ai x :: st) (h) (a) (b) := u_isub hX _ _ _ _ _ _ _ _ h1 k1
theorem xi_imul {r : MR} {OO : AO} {Q : AP} {X : AX} (hX : Rules r OO Q X) {pc : Nat} {ls : List (Option AV)} {st : List AV} {h : AH} {a b : Nat} {x y : Int32} (h1 : decode (rc r) pc = .ok (.imul, 1)) (k1 : X (pc + 1) (ls) (ai (x * y) :: st) (h) (a) (b)) : X (pc) (ls) (ai y :: ai x :: st) (h) (a) (b) := u_imul hX _ _ _ _ _ _ _ _ h1 k1
theorem xi_ior {r : MR} {OO : AO} {Q : AP} {X : AX} (hX : Rules r OO Q X) {pc : Nat} {ls : List (Option AV)} {st : List AV} {h : AH} {a b : Nat} {x y : Int32} (h1 : decode (rc r) pc = .ok (.ior, 1)) (k1 : X (pc + 1) (ls) (ai (x ||| y) :: st) (h) (a) (b)) : X (pc) (ls) (ai y :: ai x :: st) (h) (a) (b) := u_ior hX _ _ _ _ _ _ _ _ h1 k1
theorem xi_iand {r : MR} {OO : AO} {Q : AP} {X : AX} (hX : Rules r OO Q X) {pc : Nat} {ls : List (Option AV)} {st : List AV} {h : AH} {a b : Nat} {x y : Int32} (h1 : decode (rc r) pc = .ok (.iand, 1)) (k1 : X (pc + 1) (ls) (ai (x &&& y) :: st) (h) (a) (b)) : X (pc) (ls) (ai y :: ai x :: st) (h) (a) (b) := u_iand hX _ _ _ _ _ _ _ _ h1 k1
theorem xi_ixor {r : MR} {OO : AO} {Q : AP} {X : AX} (hX : Rules r OO Q X) {pc : Nat} {ls : List (Option AV)} {st : List AV} {h : AH} {a b : Nat} {x y : Int32} (h1 : decode (rc r) pc = .ok (.ixor, 1)) (k1 : X (pc + 1) (ls) (ai (x ^^^ y) :: st) (h) (a) (b)) : X (pc) (ls) (ai y :: ai x :: st) (h) (a) (b) := u_ixor hX _ _ _ _ _ _ _ _ h1 k1
theorem xi_ishl {r : MR} {OO : AO} {Q : AP} {X : AX} (hX : Rules r OO Q X) {pc : Nat} {ls : List (Option AV)} {st : List AV} {h : AH} {a b : Nat} {x y : Int32} (h1 : decode (rc r) pc = .ok (.ishl, 1)) (k1 : X (pc + 1) (ls) (ai (x <<< (y &&& 31)) :: st) (h) (a) (b)) : X (pc) (ls) (ai y :: ai x :: st) (h) (a) (b) := u_ishl hX _ _ _ _ _ _ _ _ h1 k1
theorem xi_ishr {r : MR} {OO : AO} {Q : AP} {X : AX} (hX : Rules r OO Q X) {pc : Nat} {ls : List (Option AV)} {st : List AV} {h : AH} {a b : Nat} {x y : Int32} (h1 : decode (rc r) pc = .ok (.ishr, 1)) (k1 : X (pc + 1) (ls) (ai (x >>> (y &&& 31)) :: st) (h) (a) (b)) : X (pc) (ls) (ai y :: ai x :: st) (h) (a) (b) := u_ishr hX _ _ _ _ _ _ _ _ h1 k1
theorem xi_idiv {r : MR} {OO : AO} {Q : AP} {X : AX} (hX : Rules r OO Q X) {pc : Nat} {ls : List (Option AV)} {st : List AV} {h : AH} {a b : Nat} {x y : Int32} (h1 : decode (rc r) pc = .ok (.idiv, 1)) (h2 : ¬ y = 0) (k1 : X (pc + 1) (ls) (ai (x / y) :: st) (h) (a) (b)) : X (pc) (ls) (ai y :: ai x :: st) (h) (a) (b) := u_idiv hX _ _ _ _ _ _ _ _ h1 h2 k1
theorem xi_irem {r : MR} {OO : AO} {Q : AP} {X : AX} (hX : Rules r OO Q X) {pc : Nat} {ls : List (Option AV)} {st : List AV} {h : AH} {a b : Nat} {x y : Int32} (h1 : decode (rc r) pc = .ok (.irem, 1)) (h2 : ¬ y = 0) (k1 : X (pc + 1) (ls) (ai (x - x / y * y) :: st) (h) (a) (b)) : X (pc) (ls) (ai y :: ai x :: st) (h) (a) (b) := u_irem hX _ _ _ _ _ _ _ _ h1 h2 k1
theorem xi_dup {r : MR} {OO : AO} {Q : AP} {X : AX} (hX : Rules r OO Q X) {pc : Nat} {ls : List (Option AV)} {st : List AV} {h : AH} {a b : Nat} {v : AV} (h1 : decode (rc r) pc = .ok (.dup, 1)) (k1 : X (pc + 1) (ls) (v :: v :: st) (h) (a) (b)) : X (pc) (ls) (v :: st) (h) (a) (b) := u_dup hX _ _ _ _ _ _ _ h1 k1
theorem xi_dup2 {r : MR} {OO : AO} {Q : AP} {X : AX} (hX : Rules r OO Q X) {pc : Nat} {ls : List (Option AV)} {st : List AV} {h : AH} {a b : Nat} {v u : AV} (h1 : decode (rc r) pc = .ok (.dup2, 1)) (k1 : X (pc + 1) (ls) (v :: u :: v :: u :: st) (h) (a) (b)) : X (pc) (ls) (v :: u :: st) (h) (a) (b) := u_dup2 hX _ _ _ _ _ _ _ _ h1 k1
theorem xi_pop {r : MR} {OO : AO} {Q : AP} {X : AX} (hX : Rules r OO Q X) {pc : Nat} {ls : List (Option AV)} {st : List AV} {h : AH} {a b : Nat} {v : AV} (h1 : decode (rc r) pc = .ok (.pop, 1)) (k1 : X (pc + 1) (ls) (st) (h) (a) (b)) : X (pc) (ls) (v :: st) (h) (a) (b) := u_pop hX _ _ _ _ _ _ _ h1 k1
theorem xi_goto {r : MR} {OO : AO} {Q : AP} {X : AX} (hX : Rules r OO Q X) {pc : Nat} {ls : List (Option AV)} {st : List AV} {h : AH} {a b : Nat} {off : Int} {tgt : Nat} (h1 : decode (rc r) pc = .ok (.goto off, 3)) (h2 : (pc : Int) + off = (tgt : Int)) (k1 : X (tgt) (ls) (st) (h) (a) (b)) : X (pc) (ls) (st) (h) (a) (b) := u_goto hX _ _ _ _ _ _ _ _ h1 h2 k1
theorem xi_icmp_eq {r : MR} {OO : AO} {Q : AP} {X : AX} (hX : Rules r OO Q X) {pc : Nat} {ls : List (Option AV)} {st : List AV} {h : AH} {a b : Nat} {x y : Int32} {off : Int} {tgt : Nat} (h1 : decode (rc r) pc = .ok (.if_icmp .eq off, 3)) (h2 : (pc : Int) + off = (tgt : Int)) (k1 : x = y → X (tgt) (ls) (st) (h) (a) (b)) (k2 : ¬ x = y → X (pc + 3) (ls) (st) (h) (a) (b)) : X (pc) (ls) (ai y :: ai x :: st) (h) (a) (b) := u_icmp_eq hX _ _ _ _ _ _ _ _ _ _ h1 h2 k1 k2
theorem xi_if_eq {r : MR} {OO : AO} {Q : AP} {X : AX} (hX : Rules r OO Q X) {pc : Nat} {ls : List (Option AV)} {st : List AV} {h : AH} {a b : Nat} {x : Int32} {off : Int} {tgt : Nat} (h1 : decode (rc r) pc = .ok (.ifCond .eq off, 3)) (h2 : (pc : Int) + off = (tgt : Int)) (k1 : x = 0 → X (tgt) (ls) (st) (h) (a) (b)) (k2 : ¬ x = 0 → X (pc + 3) (ls) (st) (h) (a) (b)) : X (pc) (ls) (ai x :: st) (h) (a) (b) := u_if_eq hX _ _ _ _ _ _ _ _ _ h1 h2 k1 k2
theorem xi_icmp_ne {r : MR} {OO : AO} {Q : AP} {X : AX} (hX : Rules r OO Q X) {pc : Nat} {ls : List (Option AV)} {st : List AV} {h : AH} {a b : Nat} {x y : Int32} {off : Int} {tgt : Nat} (h1 : decode (rc r) pc = .ok (.if_icmp .ne off, 3)) (h2 : (pc : Int) + off = (tgt : Int)) (k1 : ¬ x = y → X (tgt) (ls) (st) (h) (a) (b)) (k2 : x = y → X (pc + 3) (ls) (st) (h) (a) (b)) : X (pc) (ls) (ai y :: ai x :: st) (h) (a) (b) := u_icmp_ne hX _ _ _ _ _ _ _ _ _ _ h1 h2 k1 k2
theorem xi_if_ne {r : MR} {OO : AO} {Q : AP} {X : AX} (hX : Rules r OO Q X) {pc : Nat} {ls : List (Option AV)} {st : List AV} {h : AH} {a b : Nat} {x : Int32} {off : Int} {tgt : Nat} (h1 : decode (rc r) pc = .ok (.ifCond .ne off, 3)) (h2 : (pc : Int) + off = (tgt : Int)) (k1 : ¬ x = 0 → X (tgt) (ls) (st) (h) (a) (b)) (k2 : x = 0 → X (pc + 3) (ls) (st) (h) (a) (b)) : X (pc) (ls) (ai x :: st) (h) (a) (b) := u_if_ne hX _ _ _ _ _ _ _ _ _ h1 h2 k1 k2
theorem xi_icmp_lt {r : MR} {OO : AO} {Q : AP} {X : AX} (hX : Rules r OO Q X) {pc : Nat} {ls : List (Option AV)} {st : List AV} {h : AH} {a b : Nat} {x y : Int32} {off : Int} {tgt : Nat} (h1 : decode (rc r) pc = .ok (.if_icmp .lt off, 3)) (h2 : (pc : Int) + off = (tgt : Int)) (k1 : x < y → X (tgt) (ls) (st) (h) (a) (b)) (k2 : ¬ x < y → X (pc + 3) (ls) (st) (h) (a) (b)) : X (pc) (ls) (ai y :: ai x :: st) (h) (a) (b) := u_icmp_lt hX _ _ _ _ _ _ _ _ _ _ h1 h2 k1 k2
theorem xi_if_lt {r : MR} {OO : AO} {Q : AP} {X : AX} (hX : Rules r OO Q X) {pc : Nat} {ls : List (Option AV)} {st : List AV} {h : AH} {a b : Nat} {x : Int32} {off : Int} {tgt : Nat} (h1 : decode (rc r) pc = .ok (.ifCond .lt off, 3)) (h2 : (pc : Int) + off = (tgt : Int)) (k1 : x < 0 → X (tgt) (ls) (st) (h) (a) (b)) (k2 : ¬ x < 0 → X (pc + 3) (ls) (st) (h) (a) (b)) : X (pc) (ls) (ai x :: st) (h) (a) (b) := u_if_lt hX _ _ _ _ _ _ _ _ _ h1 h2 k1 k2
theorem xi_icmp_ge {r : MR} {OO : AO} {Q : AP} {X : AX} (hX : Rules r OO Q X) {pc : Nat} {ls : List (Option AV)} {st : List AV} {h : AH} {a b : Nat} {x y : Int32} {off : Int} {tgt : Nat} (h1 : decode (rc r) pc = .ok (.if_icmp .ge off, 3)) (h2 : (pc : Int) + off = (tgt : Int)) (k1 : y ≤ x → X (tgt) (ls) (st) (h) (a) (b)) (k2 : ¬ y ≤ x → X (pc + 3) (ls) (st) (h) (a) (b)) : X (pc) (ls) (ai y :: ai x :: st) (h) (a) (b) := u_icmp_ge hX _ _ _ _ _ _ _ _ _ _ h1 h2 k1 k2
theorem xi_if_ge {r : MR} {OO : AO} {Q : AP} {X : AX} (hX : Rules r OO Q X) {pc : Nat} {ls : List (Option AV)} {st : List AV} {h : AH} {a b : Nat} {x : Int32} {off : Int} {tgt : Nat} (h1 : decode (rc r) pc = .ok (.ifCond .ge off, 3)) (h2 : (pc : Int) + off = (tgt : Int)) (k1 : 0 ≤ x → X (tgt) (ls) (st) (h) (a) (b)) (k2 : ¬ 0 ≤ x → X (pc + 3) (ls) (st) (h) (a) (b)) : X (pc) (ls) (ai x :: st) (h) (a) (b) := u_if_ge hX _ _ _ _ _ _ _ _ _ h1 h2 k1 k2
theorem xi_icmp_gt {r : MR} {OO : AO} {Q : AP} {X : AX} (hX : Rules r OO Q X) {pc : Nat} {ls : List (Option AV)} {st : List AV} {h : AH} {a b : Nat} {x y : Int32} {off : Int} {tgt : Nat} (h1 : decode (rc r) pc = .ok (.if_icmp .gt off, 3)) (h2 : (pc : Int) + off = (tgt : Int)) (k1 : y < x → X (tgt) (ls) (st) (h) (a) (b)) (k2 : ¬ y < x → X (pc + 3) (ls) (st) (h) (a) (b)) : X (pc) (ls) (ai y :: ai x :: st) (h) (a) (b) := u_icmp_gt hX _ _ _ _ _ _ _ _ _ _ h1 h2 k1 k2
theorem xi_if_gt {r : MR} {OO : AO} {Q : AP} {X : AX} (hX : Rules r OO Q X) {pc : Nat} {ls : List (Option AV)} {st : List AV} {h : AH} {a b : Nat} {x : Int32} {off : Int} {tgt : Nat} (h1 : decode (rc r) pc = .ok (.ifCond .gt off, 3)) (h2 : (pc : Int) + off = (tgt : Int)) (k1 : 0 < x → X (tgt) (ls) (st) (h) (a) (b)) (k2 : ¬ 0 < x → X (pc + 3) (ls) (st) (h) (a) (b)) : X (pc) (ls) (ai x :: st) (h) (a) (b) := u_if_gt hX _ _ _ _ _ _ _ _ _ h1 h2 k1 k2
theorem xi_icmp_le {r : MR} {OO : AO} {Q : AP} {X : AX} (hX : Rules r OO Q X) {pc : Nat} {ls : List (Option AV)} {st : List AV} {h : AH} {a b : Nat} {x y : Int32} {off : Int} {tgt : Nat} (h1 : decode (rc r) pc = .ok (.if_icmp .le off, 3)) (h2 : (pc : Int) + off = (tgt : Int)) (k1 : x ≤ y → X (tgt) (ls) (st) (h) (a) (b)) (k2 : ¬ x ≤ y → X (pc + 3) (ls) (st) (h) (a) (b)) : X (pc) (ls) (ai y :: ai x :: st) (h) (a) (b) := u_icmp_le hX _ _ _ _ _ _ _ _ _ _ h1 h2 k1 k2
theorem xi_if_le {r : MR} {OO : AO} {Q : AP} {X : AX} (hX : Rules r OO Q X) {pc : Nat} {ls : List (Option AV)} {st : List AV} {h : AH} {a b : Nat} {x : Int32} {off : Int} {tgt : Nat} (h1 : decode (rc r) pc = .ok (.ifCond .le off, 3)) (h2 : (pc : Int) + off = (tgt : Int)) (k1 : x ≤ 0 → X (tgt) (ls) (st) (h) (a) (b)) (k2 : ¬ x ≤ 0 → X (pc + 3) (ls) (st) (h) (a) (b)) : X (pc) (ls) (ai x :: st) (h) (a) (b) := u_if_le hX _ _ _ _ _ _ _ _ _ h1 h2 k1 k2
theorem xi_ifnull {r : MR} {OO : AO} {Q : AP} {X : AX} (hX : Rules r OO Q X) {pc : Nat} {ls : List (Option AV)} {st : List AV} {h : AH} {a b : Nat} {x : Nat} {off : Int} (h1 : decode (rc r) pc = .ok (.ifnull off, 3)) (k1 : X (pc + 3) (ls) (st) (h) (a) (b)) : X (pc) (ls) (ar x :: st) (h) (a) (b) := u_ifnull hX _ _ _ _ _ _ _ _ h1 k1
theorem xi_tabIn {r : MR} {OO : AO} {Q : AP} {X : AX} (hX : Rules r OO Q X) {pc : Nat} {ls : List (Option AV)} {st : List AV} {h : AH} {a b : Nat} {dflt lo hi : Int} {offs : Array Int} {len : Nat} {x : Int32} {off : Int} {tgt : Nat} (h1 : decode (rc r) pc = .ok (.tableswitch dflt lo hi offs, len)) (h2 : ¬ x.toInt < lo) (h3 : ¬ hi < x.toInt) (h4 : offs[(x.toInt - lo).toNat]? = some off) (h5 : (pc : Int) + off = (tgt : Int)) (k1 : X (tgt) (ls) (st) (h) (a) (b)) : X (pc) (ls) (ai x :: st) (h) (a) (b) := u_tabIn hX _ _ _ _ _ _ _ _ _ _ _ _ _ _ h1 h2 h3 h4 h5 k1
theorem xi_tabOut {r : MR} {OO : AO} {Q : AP} {X : AX} (hX : Rules r OO Q X) {pc : Nat} {ls : List (Option AV)} {st : List AV} {h : AH} {a b : Nat} {dflt lo hi : Int} {offs : Array Int} {len : Nat} {x : Int32} {tgt : Nat} (h1 : decode (rc r) pc = .ok (.tableswitch dflt lo hi offs, len)) (h2 : x.toInt < lo ∨ hi < x.toInt) (h3 : (pc : Int) + dflt = (tgt : Int)) (k1 : X (tgt) (ls) (st) (h) (a) (b)) : X (pc) (ls) (ai x :: st) (h) (a) (b) := u_tabOut hX _ _ _ _ _ _ _ _ _ _ _ _ _ h1 h2 h3 k1
theorem xi_look {r : MR} {OO : AO} {Q : AP} {X : AX} (hX : Rules r OO Q X) {pc : Nat} {ls : List (Option AV)} {st : List AV} {h : AH} {a b : Nat} {dflt : Int} {ps : Array (Int × Int)} {len : Nat} {x : Int32} {off : Int} {tgt : Nat} (h1 : decode (rc r) pc = .ok (.lookupswitch dflt ps, len)) (h2 : (ps.toList.zip (ps.toList.drop 1)).all (fun (a, next) => a.1 < next.1) = true) (h3 : Op.lookupswitch.offset ps.toList dflt x.toInt = off) (h4 : (pc : Int) + off = (tgt : Int)) (k1 : X (tgt) (ls) (st) (h) (a) (b)) : X (pc) (ls) (ai x :: st) (h) (a) (b) := u_look hX _ _ _ _ _ _ _ _ _ _ _ _ h1 h2 h3 h4 k1
theorem xi_getf {r : MR} {OO : AO} {Q : AP} {X : AX} (hX : Rules r OO Q X) {pc : Nat} {ls : List (Option AV)} {st : List AV} {h : AH} {a b : Nat} {i ci k o : Nat} {fs : List AV} {v : AV} (h1 : decode (rc r) pc = .ok (.getfield i, 3)) (h2 : FL (ro r) i ci k) (h3 : h[o]? = some (.inl (ci, fs))) (h4 : fs[k]? = some v) (k1 : X (pc + 3) (ls) (v :: st) (h) (a) (b)) : X (pc) (ls) (ar o :: st) (h) (a) (b) := u_getf hX _ _ _ _ _ _ _ _ _ _ _ _ h1 h2 h3 h4 k1
theorem xi_putf {r : MR} {OO : AO} {Q : AP} {X : AX} (hX : Rules r OO Q X) {pc : Nat} {ls : List (Option AV)} {st : List AV} {h : AH} {a b : Nat} {i ci k o : Nat} {fs : List AV} {v : AV} (h1 : decode (rc r) pc = .ok (.putfield i, 3)) (h2 : FL (ro r) i ci k) (h3 : FN ci k ∨ ((ry r).name = "<init>" ∧ FF (ro r) ci k)) (h4 : FP ci k v) (h5 : h[o]? = some (.inl (ci, fs))) (h6 : k < fs.length) (k1 : X (pc + 3) (ls) (st) (h.set o (.inl (ci, fs.set k v))) (a) (b)) : X (pc) (ls) (v :: ar o :: st) (h) (a) (b) := u_putf hX _ _ _ _ _ _ _ _ _ _ _ _ h1 h2 h3 h4 h5 h6 k1
theorem xi_iald {r : MR} {OO : AO} {Q : AP} {X : AX} (hX : Rules r OO Q X) {pc : Nat} {ls : List (Option AV)} {st : List AV} {h : AH} {a b : Nat} {o n : Nat} {f : Nat → Int32} {i : Int32} (h1 : decode (rc r) pc = .ok (.iaload, 1)) (h2 : h[o]? = some (.inr (.inl (n, f)))) (h3 : vp_in i n) (k1 : X (pc + 1) (ls) (ai (f i.toNatClampNeg) :: st) (h) (a) (b)) : X (pc) (ls) (ai i :: ar o :: st) (h) (a) (b) := u_iald hX _ _ _ _ _ _ _ _ _ _ h1 h2 h3 k1
theorem xi_iast {r : MR} {OO : AO} {Q : AP} {X : AX} (hX : Rules r OO Q X) {pc : Nat} {ls : List (Option AV)} {st : List AV} {h : AH} {a b : Nat} {o n : Nat} {f : Nat → Int32} {i x : Int32} (h1 : decode (rc r) pc = .ok (.iastore, 1)) (h2 : h[o]? = some (.inr (.inl (n, f)))) (h3 : vp_in i n) (k1 : X (pc + 1) (ls) (st) (h.set o (.inr (.inl (n, upd f i.toNatClampNeg x)))) (a) (b)) : X (pc) (ls) (ai x :: ai i :: ar o :: st) (h) (a) (b) := u_iast hX _ _ _ _ _ _ _ _ _ _ _ h1 h2 h3 k1
theorem xi_alen {r : MR} {OO : AO} {Q : AP} {X : AX} (hX : Rules r OO Q X) {pc : Nat} {ls : List (Option AV)} {st : List AV} {h : AH} {a b : Nat} {o n : Nat} {f : Nat → Int32} (h1 : decode (rc r) pc = .ok (.arraylength, 1)) (h2 : h[o]? = some (.inr (.inl (n, f)))) (k1 : X (pc + 1) (ls) (ai (Int32.ofNat n) :: st) (h) (a) (b)) : X (pc) (ls) (ar o :: st) (h) (a) (b) := u_alen hX _ _ _ _ _ _ _ _ _ h1 h2 k1
theorem xi_alenq {r : MR} {OO : AO} {Q : AP} {X : AX} (hX : Rules r OO Q X) {pc : Nat} {ls : List (Option AV)} {st : List AV} {h : AH} {a b : Nat} {o n : Nat} {f : Nat → Option Nat} (h1 : decode (rc r) pc = .ok (.arraylength, 1)) (h2 : h[o]? = some (.inr (.inr (n, f)))) (k1 : X (pc + 1) (ls) (ai (Int32.ofNat n) :: st) (h) (a) (b)) : X (pc) (ls) (ar o :: st) (h) (a) (b) := u_alenq hX _ _ _ _ _ _ _ _ _ h1 h2 k1
theorem xi_aald {r : MR} {OO : AO} {Q : AP} {X : AX} (hX : Rules r OO Q X) {pc : Nat} {ls : List (Option AV)} {st : List AV} {h : AH} {a b : Nat} {o n : Nat} {f : Nat → Option Nat} {i : Int32} (h1 : decode (rc r) pc = .ok (.aaload, 1)) (h2 : h[o]? = some (.inr (.inr (n, f)))) (h3 : vp_in i n) (k1 : X (pc + 1) (ls) (.inr (f i.toNatClampNeg) :: st) (h) (a) (b)) : X (pc) (ls) (ai i :: ar o :: st) (h) (a) (b) := u_aald hX _ _ _ _ _ _ _ _ _ _ h1 h2 h3 k1
theorem xi_aast {r : MR} {OO : AO} {Q : AP} {X : AX} (hX : Rules r OO Q X) {pc : Nat} {ls : List (Option AV)} {st : List AV} {h : AH} {a b : Nat} {o n v : Nat} {fs : List AV} {f : Nat → Option Nat} {i : Int32} (h1 : decode (rc r) pc = .ok (.aastore, 1)) (h2 : h[o]? = some (.inr (.inr (n, f)))) (h3 : h[v]? = some (.inl (8, fs))) (h4 : vp_in i n) (k1 : X (pc + 1) (ls) (st) (h.set o (.inr (.inr (n, va_up f i.toNatClampNeg (some v))))) (a) (b)) : X (pc) (ls) (ar v :: ai i :: ar o :: st) (h) (a) (b) := u_aast hX _ _ _ _ _ _ _ _ _ _ _ _ h1 h2 h3 h4 k1
theorem xi_new {r : MR} {OO : AO} {Q : AP} {X : AX} (hX : Rules r OO Q X) {pc : Nat} {ls : List (Option AV)} {st : List AV} {h : AH} {a b : Nat} {i ci N : Nat} {C : String} {T : u_T} {fs : List AV} (h1 : decode (rc r) pc = .ok (.new i, 3)) (h2 : vwCl[ci]? = some (C, T, N)) (h3 : Cond.classLink (ro r) i C ∈ Wl) (h4 : Cond.instantiable C N ∈ Wl) (h5 : Cond.initialized C ∈ Wl) (h6 : fs.length = N) (h7 : ∀ j, j < N → (parseFieldDescriptor (T j).2.2.1).map defaultValue = some (cv 0 (fs.getD j an)) ∧ (∀ q, fs[j]? ≠ some (ar q))) (k1 : X (pc + 3) (ls) (ar h.length :: st) (h ++ [.inl (ci, fs)]) (a) (b)) : X (pc) (ls) (st) (h) (a + 1) (b + N) := u_new hX _ _ _ _ _ _ _ _ _ _ _ _ h1 h2 h3 h4 h5 h6 h7 k1
theorem xi_newi {r : MR} {OO : AO} {Q : AP} {X : AX} (hX : Rules r OO Q X) {pc : Nat} {ls : List (Option AV)} {st : List AV} {h : AH} {a b : Nat} {n : Int32} {N : Nat} (h1 : decode (rc r) pc = .ok (.newarray .int, 2)) (h2 : ¬ n < 0) (h3 : n.toNatClampNeg = N) (h4 : N ≤ 1000) (k1 : X (pc + 2) (ls) (ar h.length :: st) (h ++ [.inr (.inl (N, fun _ => 0))]) (a) (b)) : X (pc) (ls) (ai n :: st) (h) (a + 1) (b + N) := u_newi hX _ _ _ _ _ _ _ _ h1 h2 h3 h4 k1
theorem xi_newq {r : MR} {OO : AO} {Q : AP} {X : AX} (hX : Rules r OO Q X) {pc : Nat} {ls : List (Option AV)} {st : List AV} {h : AH} {a b : Nat} {i : Nat} {n : Int32} {N : Nat} (h1 : decode (rc r) pc = .ok (.anewarray i, 3)) (h2 : Cond.classLink (ro r) i RX8 ∈ Wl) (h3 : ¬ n < 0) (h4 : n.toNatClampNeg = N) (h5 : N ≤ 1000) (k1 : X (pc + 3) (ls) (ar h.length :: st) (h ++ [.inr (.inr (N, fun _ => none))]) (a) (b)) : X (pc) (ls) (ai n :: st) (h) (a + 1) (b + N) := u_newq hX _ _ _ _ _ _ _ _ _ h1 h2 h3 h4 h5 k1
theorem xi_obj {r : MR} {OO : AO} {Q : AP} {X : AX} (hX : Rules r OO Q X) {pc : Nat} {ls : List (Option AV)} {st : List AV} {h : AH} {a b : Nat} {i o : Nat} (h1 : decode (rc r) pc = .ok (.invokespecial i, 3)) (h2 : Cond.methodLink (ro r) i objectInit ∈ Wl) (h3 : st.length ≤ 8) (h4 : 1 ≤ rf r) (h5 : 20 ≤ rl r) (k1 : X (pc + 3) (ls) (st) (h) (a) (b)) : X (pc) (ls) (ar o :: st) (h) (a) (b) := u_obj hX _ _ _ _ _ _ _ _ h1 h2 h3 h4 h5 k1
theorem xi_ireturn {r : MR} {OO : AO} {Q : AP} {X : AX} (hX : Rules r OO Q X) {pc : Nat} {ls : List (Option AV)} {h : AH} {a b : Nat} {x : Int32} {ty : FieldType} (h1 : decode (rc r) pc = .ok (.ireturn, 1)) (h2 : rt r = some ty) (h3 : narrow ty (.int x) = .int x) (h4 : Q (some (ai x)) h) : X (pc) (ls) ([ai x]) (h) (a) (b) := u_ireturn hX _ _ _ _ _ _ _ h1 h2 h3 h4
theorem xi_areturn {r : MR} {OO : AO} {Q : AP} {X : AX} (hX : Rules r OO Q X) {pc : Nat} {ls : List (Option AV)} {h : AH} {a b : Nat} {x : Option Nat} {C : String} (h1 : decode (rc r) pc = .ok (.areturn, 1)) (h2 : rt r = some (.object C)) (h3 : Q (some (.inr x)) h) : X (pc) (ls) ([.inr x]) (h) (a) (b) := u_areturn hX _ _ _ _ _ _ _ h1 h2 h3
theorem xi_return {r : MR} {OO : AO} {Q : AP} {X : AX} (hX : Rules r OO Q X) {pc : Nat} {ls : List (Option AV)} {h : AH} {a b : Nat} (h1 : decode (rc r) pc = .ok (.return_, 1)) (h2 : rt r = none) (h3 : Q none h) : X (pc) (ls) ([]) (h) (a) (b) := u_return hX _ _ _ _ _ h1 h2 h3
theorem Rules_mono {r : MR} {O1 O2 : AO} {Q1 Q2 : AP} (hO : ∀ r as h a b Q, O1 r as h a b Q → O2 r as h a b Q) (hQ : ∀ w h, Q1 w h → Q2 w h) : Rules r O1 Q1 (WP r O2 Q2) := by
  refine ⟨?_, ?_, ?_, ?_, ?_, ?_, ?_, ?_, ?_, ?_, ?_, ?_, ?_, ?_, ?_, ?_, ?_, ?_, ?_, ?_, ?_, ?_, ?_, ?_, ?_, ?_, ?_, ?_, ?_, ?_, ?_, ?_, ?_, ?_, ?_, ?_, ?_, ?_, ?_, ?_, ?_, ?_, ?_, ?_, ?_, ?_, ?_, ?_, ?_, ?_, ?_, ?_, ?_, ?_, ?_, ?_, ?_, ?_, ?_, ?_, ?_, ?_⟩
  · intro _ _ _ _ _ _ _ _ h1 h2 k1
    exact i_iconst h1 h2 k1
  · intro _ _ _ _ _ _ _ _ h1 h2 k1
    exact i_bipush h1 h2 k1
  · intro _ _ _ _ _ _ _ _ h1 h2 k1
    exact i_sipush h1 h2 k1
  · intro _ _ _ _ _ _ _ _ h1 h2 k1
    exact i_ldc h1 h2 k1
  · intro _ _ _ _ _ _ h1 k1
    exact i_null h1 k1
  · intro _ _ _ _ _ _ _ _ _ h1 h2 h3 k1
    exact i_iload_n h1 h2 h3 k1
  · intro _ _ _ _ _ _ _ _ h1 h2 k1
    exact i_iload h1 h2 k1
  · intro _ _ _ _ _ _ _ _ _ h1 h2 h3 k1
    exact i_aload_n h1 h2 h3 k1
  · intro _ _ _ _ _ _ _ _ h1 h2 k1
    exact i_aload h1 h2 k1
  · intro _ _ _ _ _ _ _ _ _ h1 h2 h3 k1
    exact i_istore_n h1 h2 h3 k1
  · intro _ _ _ _ _ _ _ _ h1 h2 k1
    exact i_istore h1 h2 k1
  · intro _ _ _ _ _ _ _ _ _ h1 h2 h3 k1
    exact i_astore_n h1 h2 h3 k1
  · intro _ _ _ _ _ _ _ _ h1 h2 k1
    exact i_astore h1 h2 k1
  · intro _ _ _ _ _ _ _ _ _ h1 h2 k1
    exact i_iinc h1 h2 k1
  · intro _ _ _ _ _ _ _ _ h1 k1
    exact i_iadd h1 k1
  · intro _ _ _ _ _ _ _ _ h1 k1
    exact i_isub h1 k1
  · intro _ _ _ _ _ _ _ _ h1 k1
    exact i_imul h1 k1
  · intro _ _ _ _ _ _ _ _ h1 k1
    exact i_ior h1 k1
  · intro _ _ _ _ _ _ _ _ h1 k1
    exact i_iand h1 k1
  · intro _ _ _ _ _ _ _ _ h1 k1
    exact i_ixor h1 k1
  · intro _ _ _ _ _ _ _ _ h1 k1
    exact i_ishl h1 k1
  · intro _ _ _ _ _ _ _ _ h1 k1
    exact i_ishr h1 k1
  · intro _ _ _ _ _ _ _ _ h1 h2 k1
    exact i_idiv h1 h2 k1
  · intro _ _ _ _ _ _ _ _ h1 h2 k1
    exact i_irem h1 h2 k1
  · intro _ _ _ _ _ _ _ h1 k1
    exact i_dup h1 k1
  · intro _ _ _ _ _ _ _ _ h1 k1
    exact i_dup2 h1 k1
  · intro _ _ _ _ _ _ _ h1 k1
    exact i_pop h1 k1
  · intro _ _ _ _ _ _ _ _ h1 h2 k1
    exact i_goto h1 h2 k1
  · intro _ _ _ _ _ _ _ _ _ _ h1 h2 k1 k2
    exact i_icmp_eq h1 h2 k1 k2
  · intro _ _ _ _ _ _ _ _ _ h1 h2 k1 k2
    exact i_if_eq h1 h2 k1 k2
  · intro _ _ _ _ _ _ _ _ _ _ h1 h2 k1 k2
    exact i_icmp_ne h1 h2 k1 k2
  · intro _ _ _ _ _ _ _ _ _ h1 h2 k1 k2
    exact i_if_ne h1 h2 k1 k2
  · intro _ _ _ _ _ _ _ _ _ _ h1 h2 k1 k2
    exact i_icmp_lt h1 h2 k1 k2
  · intro _ _ _ _ _ _ _ _ _ h1 h2 k1 k2
    exact i_if_lt h1 h2 k1 k2
  · intro _ _ _ _ _ _ _ _ _ _ h1 h2 k1 k2
    exact i_icmp_ge h1 h2 k1 k2
  · intro _ _ _ _ _ _ _ _ _ h1 h2 k1 k2
    exact i_if_ge h1 h2 k1 k2
  · intro _ _ _ _ _ _ _ _ _ _ h1 h2 k1 k2
    exact i_icmp_gt h1 h2 k1 k2
  · intro _ _ _ _ _ _ _ _ _ h1 h2 k1 k2
    exact i_if_gt h1 h2 k1 k2
  · intro _ _ _ _ _ _ _ _ _ _ h1 h2 k1 k2
    exact i_icmp_le h1 h2 k1 k2
  · intro _ _ _ _ _ _ _ _ _ h1 h2 k1 k2
    exact i_if_le h1 h2 k1 k2
  · intro _ _ _ _ _ _ _ _ h1 k1
    exact i_ifnull h1 k1
  · intro _ _ _ _ _ _ _ _ _ _ _ _ _ _ h1 h2 h3 h4 h5 k1
    exact i_tabIn h1 h2 h3 h4 h5 k1
  · intro _ _ _ _ _ _ _ _ _ _ _ _ _ h1 h2 h3 k1
    exact i_tabOut h1 h2 h3 k1
  · intro _ _ _ _ _ _ _ _ _ _ _ _ h1 h2 h3 h4 k1
    exact i_look h1 h2 h3 h4 k1
  · intro _ _ _ _ _ _ _ _ _ _ _ _ h1 h2 h3 h4 k1
    exact i_getf h1 h2 h3 h4 k1
  · intro _ _ _ _ _ _ _ _ _ _ _ _ h1 h2 h3 h4 h5 h6 k1
    exact i_putf h1 h2 h3 h4 h5 h6 k1
  · intro _ _ _ _ _ _ _ _ _ _ h1 h2 h3 k1
    exact i_iald h1 h2 h3 k1
  · intro _ _ _ _ _ _ _ _ _ _ _ h1 h2 h3 k1
    exact i_iast h1 h2 h3 k1
  · intro _ _ _ _ _ _ _ _ _ h1 h2 k1
    exact i_alen h1 h2 k1
  · intro _ _ _ _ _ _ _ _ _ h1 h2 k1
    exact i_alenq h1 h2 k1
  · intro _ _ _ _ _ _ _ _ _ _ h1 h2 h3 k1
    exact i_aald h1 h2 h3 k1
  · intro _ _ _ _ _ _ _ _ _ _ _ _ h1 h2 h3 h4 k1
    exact i_aast h1 h2 h3 h4 k1
  · intro _ _ _ _ _ _ _ _ _ _ _ _ h1 h2 h3 h4 h5 h6 h7 k1
    exact i_new h1 h2 h3 h4 h5 h6 h7 k1
  · intro _ _ _ _ _ _ _ _ h1 h2 h3 h4 k1
    exact i_newi h1 h2 h3 h4 k1
  · intro _ _ _ _ _ _ _ _ _ h1 h2 h3 h4 h5 k1
    exact i_newq h1 h2 h3 h4 h5 k1
  · intro _ _ _ _ _ _ _ _ h1 h2 h3 h4 h5 k1
    exact i_obj h1 h2 h3 h4 h5 k1
  · intro _ _ _ _ _ _ _ h1 h2 h3 h4
    exact i_ireturn h1 h2 h3 (hQ _ _ h4)
  · intro _ _ _ _ _ _ _ h1 h2 h3
    exact i_areturn h1 h2 (hQ _ _ h3)
  · intro _ _ _ _ _ h1 h2 h3
    exact i_return h1 h2 (hQ _ _ h3)
  · intro _ _ _ _ _ _ _ _ _ _ _ _ _ _ _ h1 h2 h3 h4 h5 h6 h7 h8 h9 X hX
    exact u_callV hX _ _ _ _ _ _ _ _ _ _ _ _ _ _ _ h1 h2 h3 h4 h5 h6 h7 (hO _ _ _ _ _ _ h8) (fun w g q => h9 w g q X hX)
  · intro _ _ _ _ _ _ _ _ _ _ _ _ h1 h2 h3 h4 h5 h6 h7 X hX
    exact u_callS hX _ _ _ _ _ _ _ _ _ _ _ _ h1 h2 h3 h4 h5 (hO _ _ _ _ _ _ h6) (fun w g q => h7 w g q X hX)
  · intro _ _ _ _ _ _ _ _ _ _ _ _ _ h1 h2 h3 h4 h5 h6 h7 X hX
    exact u_callI hX _ _ _ _ _ _ _ _ _ _ _ _ _ h1 h2 h3 h4 h5 (hO _ _ _ _ _ _ h6) (fun w g q => h7 w g q X hX)
theorem WP.mono {r : MR} {O1 O2 : AO} {Q1 Q2 : AP} (hO : ∀ r as h a b Q, O1 r as h a b Q → O2 r as h a b Q) (hQ : ∀ w h, Q1 w h → Q2 w h) {pc : Nat} {ls : List (Option AV)} {st : List AV} {h : AH} {a b : Nat} (k : WP r O1 Q1 pc ls st h a b) : WP r O2 Q2 pc ls st h a b := k _ (Rules_mono hO hQ)
theorem Cd_succ : ∀ (d : Nat) (r : MR) (as : List AV) (h : AH) (a b : Nat) (Q : AP), Cd d r as h a b Q → Cd (d + 1) r as h a b Q
  | 0, _, _, _, _, _, _, k => k.elim
  | d + 1, _, _, _, _, _, _, k => WP.mono (Cd_succ d) (fun _ _ q => q) k
theorem Cd_le {d e : Nat} (hde : d ≤ e) : ∀ (r : MR) (as : List AV) (h : AH) (a b : Nat) (Q : AP), Cd d r as h a b Q → Cd e r as h a b Q := by
  induction hde with
  | refl => exact fun _ _ _ _ _ _ k => k
  | step _ ih => exact fun r as h a b Q k => Cd_succ _ r as h a b Q (ih r as h a b Q k)
theorem C.mono {r : MR} {as : List AV} {h : AH} {a b : Nat} {Q1 Q2 : AP} (k : C r as h a b Q1) (hQ : ∀ w h, Q1 w h → Q2 w h) : C r as h a b Q2 := WP.mono (fun _ _ _ _ _ _ q => q) hQ k
theorem i_callV {r : MR} {Q : AP} {pc : Nat} {ls : List (Option AV)} {st : List AV} {h : AH} {a b a1 b1 : Nat} {i : Nat} {r1 : MR} {As : List AV} {ci o : Nat} {fs : List AV} (h1 : decode (rc r) pc = .ok (.invokevirtual i, 3)) (h2 : Cond.methodLink (ro r) i (ry r1) ∈ Wl) (h3 : MV r1 As.length) (h4 : h[o]? = some (.inl (ci, fs))) (h5 : KC ci (ro r1)) (h6 : FIT r1 r) (h7 : st.length ≤ 8) (k : C r1 (ar o :: As) h a1 b1 (fun w h1 => WPr r Q (pc + 3) ls (w.toList ++ st) h1 a b)) : WPr r Q (pc) (ls) (As.reverse ++ ar o :: st) (h) (a1 + a) (b1 + b) := by
  intro X hX
  exact u_callV hX _ _ _ _ _ _ _ _ _ _ _ _ _ _ _ h1 h2 h3 h4 h5 h6 h7 (Cd_le (h6).1 _ _ _ _ _ _ k) (fun w h1 q => q X hX)
theorem i_callS {r : MR} {Q : AP} {pc : Nat} {ls : List (Option AV)} {st : List AV} {h : AH} {a b a1 b1 : Nat} {i : Nat} {r1 : MR} {As : List AV}  (h1 : decode (rc r) pc = .ok (.invokestatic i, 3)) (h2 : (Cond.methodLink (ro r) i (ry r1) ∈ Wl ∨ (ro r, i, ry r1) ∈ nestL)) (h3 : MS r1 As.length) (h4 : FIT r1 r) (h5 : st.length ≤ 8) (k : C r1 (As) h a1 b1 (fun w h1 => WPr r Q (pc + 3) ls (w.toList ++ st) h1 a b)) : WPr r Q (pc) (ls) (As.reverse ++ st) (h) (a1 + a) (b1 + b) := by
  intro X hX
  exact u_callS hX _ _ _ _ _ _ _ _ _ _ _ _ h1 h2 h3 h4 h5 (Cd_le (h4).1 _ _ _ _ _ _ k) (fun w h1 q => q X hX)
theorem i_callI {r : MR} {Q : AP} {pc : Nat} {ls : List (Option AV)} {st : List AV} {h : AH} {a b a1 b1 : Nat} {i : Nat} {r1 : MR} {As : List AV} {o : Nat} (h1 : decode (rc r) pc = .ok (.invokespecial i, 3)) (h2 : (Cond.methodLink (ro r) i (ry r1) ∈ Wl ∨ (ro r, i, ry r1) ∈ nestL)) (h3 : MI r1 As.length) (h4 : FIT r1 r) (h5 : st.length ≤ 8) (k : C r1 (ar o :: As) h a1 b1 (fun w h1 => WPr r Q (pc + 3) ls (w.toList ++ st) h1 a b)) : WPr r Q (pc) (ls) (As.reverse ++ ar o :: st) (h) (a1 + a) (b1 + b) := by
  intro X hX
  exact u_callI hX _ _ _ _ _ _ _ _ _ _ _ _ _ h1 h2 h3 h4 h5 (Cd_le (h4).1 _ _ _ _ _ _ k) (fun w h1 q => q X hX)
theorem xi_callV {r : MR} {Q : AP} {X : AX} (hX : Rules r (Cd (rf r)) Q X) {pc : Nat} {ls : List (Option AV)} {st : List AV} {h : AH} {a b a1 b1 : Nat} {i : Nat} {r1 : MR} {As : List AV} {ci o : Nat} {fs : List AV} (h1 : decode (rc r) pc = .ok (.invokevirtual i, 3)) (h2 : Cond.methodLink (ro r) i (ry r1) ∈ Wl) (h3 : MV r1 As.length) (h4 : h[o]? = some (.inl (ci, fs))) (h5 : KC ci (ro r1)) (h6 : FIT r1 r) (h7 : st.length ≤ 8) (k : C r1 (ar o :: As) h a1 b1 (fun w h1 => X (pc + 3) ls (w.toList ++ st) h1 a b)) : X (pc) (ls) (As.reverse ++ ar o :: st) (h) (a1 + a) (b1 + b) := u_callV hX _ _ _ _ _ _ _ _ _ _ _ _ _ _ _ h1 h2 h3 h4 h5 h6 h7 (Cd_le (h6).1 _ _ _ _ _ _ k) (fun w h1 q => q)
theorem xi_callS {r : MR} {Q : AP} {X : AX} (hX : Rules r (Cd (rf r)) Q X) {pc : Nat} {ls : List (Option AV)} {st : List AV} {h : AH} {a b a1 b1 : Nat} {i : Nat} {r1 : MR} {As : List AV}  (h1 : decode (rc r) pc = .ok (.invokestatic i, 3)) (h2 : (Cond.methodLink (ro r) i (ry r1) ∈ Wl ∨ (ro r, i, ry r1) ∈ nestL)) (h3 : MS r1 As.length) (h4 : FIT r1 r) (h5 : st.length ≤ 8) (k : C r1 (As) h a1 b1 (fun w h1 => X (pc + 3) ls (w.toList ++ st) h1 a b)) : X (pc) (ls) (As.reverse ++ st) (h) (a1 + a) (b1 + b) := u_callS hX _ _ _ _ _ _ _ _ _ _ _ _ h1 h2 h3 h4 h5 (Cd_le (h4).1 _ _ _ _ _ _ k) (fun w h1 q => q)
theorem xi_callI {r : MR} {Q : AP} {X : AX} (hX : Rules r (Cd (rf r)) Q X) {pc : Nat} {ls : List (Option AV)} {st : List AV} {h : AH} {a b a1 b1 : Nat} {i : Nat} {r1 : MR} {As : List AV} {o : Nat} (h1 : decode (rc r) pc = .ok (.invokespecial i, 3)) (h2 : (Cond.methodLink (ro r) i (ry r1) ∈ Wl ∨ (ro r, i, ry r1) ∈ nestL)) (h3 : MI r1 As.length) (h4 : FIT r1 r) (h5 : st.length ≤ 8) (k : C r1 (ar o :: As) h a1 b1 (fun w h1 => X (pc + 3) ls (w.toList ++ st) h1 a b)) : X (pc) (ls) (As.reverse ++ ar o :: st) (h) (a1 + a) (b1 + b) := u_callI hX _ _ _ _ _ _ _ _ _ _ _ _ _ h1 h2 h3 h4 h5 (Cd_le (h4).1 _ _ _ _ _ _ k) (fun w h1 q => q)
