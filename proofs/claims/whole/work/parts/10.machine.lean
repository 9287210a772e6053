/-! THE PLAIN MACHINE. Its heap is a fixed set of cells (shps), numbered; only numbers change in them. -/
abbrev PS : Type := (Nat → Nat → Int32) × (Nat → Nat → Int64)
abbrev PM : Type := MethodName × ByteArray × Nat × Option FieldType × Nat
abbrev PSc : Type := Nat × (Nat → Int32)
abbrev PQ : Type := Option Value → PS → Prop
abbrev PP : Type := PM → Nat → List Value → List Value → PS → PQ → Prop
abbrev Shp : Type := (Nat × List (Option Nat)) ⊕ ((Nat × Nat) ⊕ (Nat ⊕ (Nat × List Nat)))
abbrev pmY (M : PM) : MethodName := M.1
abbrev pmB (M : PM) : ByteArray := M.2.1
abbrev pmL (M : PM) : Nat := M.2.2.1
abbrev pmR (M : PM) : Option FieldType := M.2.2.2.1
abbrev pmV (M : PM) : Nat := M.2.2.2.2
def up2 {α : Type} (f : Nat → Nat → α) (i k : Nat) (v : α) : Nat → Nat → α := fun a b => if a = i ∧ b = k then v else f a b
/-- a row of four int arrays -/
abbrev sh_row (i : Nat) : List Shp := [.inl (0, [none, none, none, some (i + 1), some (i + 2), some (i + 3), some (i + 4)]), .inr (.inl (0, 5)), .inr (.inl (0, 5)), .inr (.inl (0, 5)), .inr (.inl (0, 5))]
abbrev sh_sheet (i : Nat) : List Shp := [.inl (2, [none, none, none, some (i + 1)]), .inr (.inl (0, 40))]
def shps : List Shp := [.inl (5, [some 1, some 6, some 21, some 22, some 25, some 23, some 26, some 29, none, some 38, some 39, some 40])]
  ++ sh_row 1 ++ sh_row 6 ++ sh_row 11 ++ sh_row 16
  ++ [.inr (.inr (.inr (4, [11, 16]))), .inr (.inl (2, 2)),
      .inl (3, [some 24, none]), .inr (.inl (1, 160)),
      .inl (4, [some 23, none, none, none, none, none, none, none, none]),
      .inl (1, [none, some 27, some 28]), .inr (.inl (0, 6)), .inr (.inl (0, 6)),
      .inr (.inr (.inr (5, [30, 32, 34, 36])))]
  ++ sh_sheet 30 ++ sh_sheet 32 ++ sh_sheet 34 ++ sh_sheet 36
  ++ [.inr (.inr (.inl 9)), .inr (.inl (0, 13)), .inr (.inr (.inr (6, [41, 42, 43, 44, 45, 46, 47, 48, 49, 50, 51, 52, 53])))]
  ++ List.replicate 13 (.inr (.inl (0, 201)))
  ++ [.inl (6, [some 55, some 56, none, some 57, none, none, none, none, none, none, none, none, some 58, some 59, none, none, none, some 60, none, some 61, some 62, some 63, some 64, some 65, none]),
      .inr (.inl (0, 132)), .inr (.inl (0, 22)), .inr (.inl (0, 160)), .inr (.inl (0, 6)), .inr (.inl (0, 23)), .inr (.inl (0, 12)), .inr (.inl (0, 2613)), .inr (.inl (2, 2)), .inr (.inl (0, 4)), .inr (.inl (0, 4)), .inr (.inl (0, 160))]
def tyT : List FieldType := [.int, .byte, .boolean, .long, .object RX0, .object RX2, .array .int]
/-- the texts -/
def sOwn : List (String × Nat × String) := [(RX4, 58, "count"), (RX4, 107, "plain"), (RX4, 109, "hasty"), (RX4, 111, "back"), (RX4, 113, "late")]
def sLen : List Nat := [5, 5, 5, 4, 4]
def sByt : List (List Int32) := [[99, 111, 117, 110, 116], [112, 108, 97, 105, 110], [104, 97, 115, 116, 121], [98, 97, 99, 107], [108, 97, 116, 101]]
def lw_good : List Cond := lw_tbl.filter goodWord
def isNest : Cond → Bool
  | .fieldLinkNest .. => true
  | .methodLinkNest .. => true
  | _ => false
def lw_nest : List Cond := lw_tbl.filter isNest
theorem mg {w : Cond} (i : Nat) (h : lw_tbl[i]? = some w) (hg : goodWord w = true) : w ∈ lw_good := List.mem_filter.mpr ⟨List.mem_of_getElem? h, hg⟩
theorem mn {w : Cond} (i : Nat) (h : lw_tbl[i]? = some w) (hg : isNest w = true) : w ∈ lw_nest := List.mem_filter.mpr ⟨List.mem_of_getElem? h, hg⟩
def pre2 (lo : List Value) : Nat → Bool
  | 0 => true
  | k + 1 => match lo[k]? with
    | some (.long _) => false
    | some (.double _) => false
    | _ => true
def pEl : List Value → List Value
  | [] => []
  | .long x :: r => .long x :: .null :: pEl r
  | .double x :: r => .double x :: .null :: pEl r
  | v :: r => v :: pEl r
def pL0 (M : PM) (As : List Value) : List Value := pEl As ++ List.replicate (pmL M - (pEl As).length) .null
def kOk (M : PM) (x : Nat) (v : Int32) : Prop := Cond.constant (pmY M).cls x v ∈ lw_good
def kkOk (M : PM) (x : Nat) (v : Int64) : Prop := Cond.constantLong (pmY M).cls x v ∈ lw_good
def strOk (M : PM) (x k : Nat) : Prop := k < 5 ∧ ∃ t, sOwn[k]? = some ((pmY M).cls, x, t)
def fOk (M : PM) (x ci k : Nat) : Prop := ∃ (C : String) (T : u_T) (N : Nat), vwCl[ci]? = some (C, T, N) ∧ k < N ∧ (T k).1 = C ∧ (∀ w ∈ u_ws C T N, w ∈ lw_good) ∧ (Cond.fieldLink (pmY M).cls x C (T k).2.1 (T k).2.2.1 ∈ lw_good ∨ ∃ host, Cond.fieldLinkNest (pmY M).cls x C (T k).2.1 (T k).2.2.1 host ∈ lw_nest)
def pOk (M : PM) (x ci k : Nat) (z : Bool) : Prop := ∃ (C : String) (T : u_T) (N : Nat) (ty0 : Nat → FieldType), vwCl[ci]? = some (C, T, N) ∧ k < N ∧ (T k).1 = C ∧ (∀ w ∈ u_ws C T N, w ∈ lw_good) ∧ (Cond.fieldLink (pmY M).cls x C (T k).2.1 (T k).2.2.1 ∈ lw_good ∨ ∃ host, Cond.fieldLinkNest (pmY M).cls x C (T k).2.1 (T k).2.2.1 host ∈ lw_nest) ∧ (∀ k, k < N → parseFieldDescriptor (T k).2.2.1 = some (ty0 k)) ∧ (∀ a, a < N → ∀ b, b < N → a ≠ b → (T a).2.1 ≠ (T b).2.1) ∧ (T k).2.2.2 = false ∧ ty0 k = (if z then .boolean else .int)
def sfOk (M : PM) (x : Nat) (n d : String) : Prop := Cond.fieldLink (pmY M).cls x "java/lang/String" n d ∈ lw_good
def gsOk (M : PM) (x : Nat) (C n d : String) : Prop := Cond.fieldLink (pmY M).cls x C n d ∈ lw_good
def mxOk (M : PM) (x : Nat) : Prop := Cond.methodLink (pmY M).cls x Lib.Math.max.name ∈ lw_good ∧ Cond.static Lib.Math.max.name ∈ lw_good ∧ Cond.initialized "java/lang/Math" ∈ lw_good ∧ Cond.code Lib.Math.max.name Lib.Math.max.code 2 (some .int) ∈ lw_good
def maOk (M : PM) (x : Nat) : Prop := Cond.methodLink (pmY M).cls x Lib.Math.abs.name ∈ lw_good ∧ Cond.static Lib.Math.abs.name ∈ lw_good ∧ Cond.initialized "java/lang/Math" ∈ lw_good ∧ Cond.code Lib.Math.abs.name Lib.Math.abs.code 1 (some .int) ∈ lw_good
def nOk (M : PM) (n : Nat) : Prop := plainName (pmY M).cls = true ∧ Cond.code (pmY M) (pmB M) (pmL M) (pmR M) ∈ lw_good ∧ Cond.initialized (pmY M).cls ∈ lw_good ∧ ((pmY M).cls ≠ "java/lang/invoke/MethodHandle" ∧ (pmY M).cls ≠ "java/lang/invoke/VarHandle" ∧ (parseMethodDescriptor (pmY M).desc).map (fun d => d.parameters.length) = some n) ∧ pmL M ≤ 17
def iOk (M : PM) (n : Nat) : Prop := nOk M n ∧ Cond.instanceMethod (pmY M) ∈ lw_good ∧ Cond.selects (pmY M).cls (pmY M) (pmY M) ∈ lw_good
def jOk (M : PM) (n : Nat) : Prop := nOk M n ∧ Cond.static (pmY M) ∈ lw_good
def lOk (own : String) (x : Nat) (y : MethodName) : Prop := Cond.methodLink own x y ∈ lw_good ∨ ∃ host, Cond.methodLinkNest own x y host ∈ lw_nest
def rOk (i : Nat) (C : String) : Prop := (∃ (ci : Nat) (fs : List (Option Nat)) (q : vw_C), shps[i]? = some (.inl (ci, fs)) ∧ vwCl[ci]? = some q ∧ q.1 = C) ∨ ∃ k, k < 5 ∧ i = 100 + k ∧ C = "java/lang/String"

def C_iconst (sc : PSc) (P : PP) : Prop := ∀ (M : PM) (pc : Nat) (lo st : List Value) (S : PS) (Q : PQ) (n : Int), decode (pmB M) pc = .ok (.iconst n, 1) → (P M (pc + 1) lo (.int (Int32.ofInt n) :: st) S Q) → P M pc lo st S Q
def C_bipush (sc : PSc) (P : PP) : Prop := ∀ (M : PM) (pc : Nat) (lo st : List Value) (S : PS) (Q : PQ) (n : Int), decode (pmB M) pc = .ok (.bipush n, 2) → (P M (pc + 2) lo (.int (Int8.ofInt n).toInt32 :: st) S Q) → P M pc lo st S Q
def C_sipush (sc : PSc) (P : PP) : Prop := ∀ (M : PM) (pc : Nat) (lo st : List Value) (S : PS) (Q : PQ) (n : Int), decode (pmB M) pc = .ok (.sipush n, 3) → (P M (pc + 3) lo (.int (Int16.ofInt n).toInt32 :: st) S Q) → P M pc lo st S Q
def C_lconst (sc : PSc) (P : PP) : Prop := ∀ (M : PM) (pc : Nat) (lo st : List Value) (S : PS) (Q : PQ) (n : Fin 2), decode (pmB M) pc = .ok (.lconst n, 1) → (P M (pc + 1) lo (.long (Int64.ofNat (n : Nat)) :: st) S Q) → P M pc lo st S Q
def C_ldc (sc : PSc) (P : PP) : Prop := ∀ (M : PM) (pc : Nat) (lo st : List Value) (S : PS) (Q : PQ) (x : Nat) (v : Int32), decode (pmB M) pc = .ok (.ldc x, 2) → kOk M x v → (P M (pc + 2) lo (.int v :: st) S Q) → P M pc lo st S Q
def C_ldcw (sc : PSc) (P : PP) : Prop := ∀ (M : PM) (pc : Nat) (lo st : List Value) (S : PS) (Q : PQ) (x : Nat) (v : Int32), decode (pmB M) pc = .ok (.ldc_w x, 3) → kOk M x v → (P M (pc + 3) lo (.int v :: st) S Q) → P M pc lo st S Q
def C_ldc2 (sc : PSc) (P : PP) : Prop := ∀ (M : PM) (pc : Nat) (lo st : List Value) (S : PS) (Q : PQ) (x : Nat) (v : Int64), decode (pmB M) pc = .ok (.ldc2_w x, 3) → kkOk M x v → (P M (pc + 3) lo (.long v :: st) S Q) → P M pc lo st S Q
def C_ldcS (sc : PSc) (P : PP) : Prop := ∀ (M : PM) (pc : Nat) (lo st : List Value) (S : PS) (Q : PQ) (x k : Nat), decode (pmB M) pc = .ok (.ldc x, 2) → strOk M x k → (P M (pc + 2) lo (.ref (100 + k) :: st) S Q) → P M pc lo st S Q
def C_iload_n (sc : PSc) (P : PP) : Prop := ∀ (M : PM) (pc : Nat) (lo st : List Value) (S : PS) (Q : PQ) (n : Fin 4) (i : Nat) (x : Int32), decode (pmB M) pc = .ok (.iload_n n, 1) → (n : Nat) = i → lo[i]? = some (.int x) → (P M (pc + 1) lo (.int x :: st) S Q) → P M pc lo st S Q
def C_iload (sc : PSc) (P : PP) : Prop := ∀ (M : PM) (pc : Nat) (lo st : List Value) (S : PS) (Q : PQ) (i : Nat) (x : Int32), decode (pmB M) pc = .ok (.iload i, 2) → lo[i]? = some (.int x) → (P M (pc + 2) lo (.int x :: st) S Q) → P M pc lo st S Q
def C_lload_n (sc : PSc) (P : PP) : Prop := ∀ (M : PM) (pc : Nat) (lo st : List Value) (S : PS) (Q : PQ) (n : Fin 4) (i : Nat) (x : Int64), decode (pmB M) pc = .ok (.lload_n n, 1) → (n : Nat) = i → lo[i]? = some (.long x) → (P M (pc + 1) lo (.long x :: st) S Q) → P M pc lo st S Q
def C_lload (sc : PSc) (P : PP) : Prop := ∀ (M : PM) (pc : Nat) (lo st : List Value) (S : PS) (Q : PQ) (i : Nat) (x : Int64), decode (pmB M) pc = .ok (.lload i, 2) → lo[i]? = some (.long x) → (P M (pc + 2) lo (.long x :: st) S Q) → P M pc lo st S Q
def C_aload_n (sc : PSc) (P : PP) : Prop := ∀ (M : PM) (pc : Nat) (lo st : List Value) (S : PS) (Q : PQ) (n : Fin 4) (i : Nat) (x : Nat), decode (pmB M) pc = .ok (.aload_n n, 1) → (n : Nat) = i → lo[i]? = some (.ref x) → (P M (pc + 1) lo (.ref x :: st) S Q) → P M pc lo st S Q
def C_aload (sc : PSc) (P : PP) : Prop := ∀ (M : PM) (pc : Nat) (lo st : List Value) (S : PS) (Q : PQ) (i : Nat) (x : Nat), decode (pmB M) pc = .ok (.aload i, 2) → lo[i]? = some (.ref x) → (P M (pc + 2) lo (.ref x :: st) S Q) → P M pc lo st S Q
def C_istore_n (sc : PSc) (P : PP) : Prop := ∀ (M : PM) (pc : Nat) (lo st : List Value) (S : PS) (Q : PQ) (n : Fin 4) (i : Nat) (x : Int32), decode (pmB M) pc = .ok (.istore_n n, 1) → (n : Nat) = i → i < pmL M → pre2 lo i = true → (P M (pc + 1) (lo.set i (.int x)) st S Q) → P M pc lo (.int x :: st) S Q
def C_istore (sc : PSc) (P : PP) : Prop := ∀ (M : PM) (pc : Nat) (lo st : List Value) (S : PS) (Q : PQ) (i : Nat) (x : Int32), decode (pmB M) pc = .ok (.istore i, 2) → i < pmL M → pre2 lo i = true → (P M (pc + 2) (lo.set i (.int x)) st S Q) → P M pc lo (.int x :: st) S Q
def C_astore_n (sc : PSc) (P : PP) : Prop := ∀ (M : PM) (pc : Nat) (lo st : List Value) (S : PS) (Q : PQ) (n : Fin 4) (i : Nat) (x : Nat), decode (pmB M) pc = .ok (.astore_n n, 1) → (n : Nat) = i → i < pmL M → pre2 lo i = true → (P M (pc + 1) (lo.set i (.ref x)) st S Q) → P M pc lo (.ref x :: st) S Q
def C_astore (sc : PSc) (P : PP) : Prop := ∀ (M : PM) (pc : Nat) (lo st : List Value) (S : PS) (Q : PQ) (i : Nat) (x : Nat), decode (pmB M) pc = .ok (.astore i, 2) → i < pmL M → pre2 lo i = true → (P M (pc + 2) (lo.set i (.ref x)) st S Q) → P M pc lo (.ref x :: st) S Q
def C_lstore_n (sc : PSc) (P : PP) : Prop := ∀ (M : PM) (pc : Nat) (lo st : List Value) (S : PS) (Q : PQ) (n : Fin 4) (i : Nat) (x : Int64), decode (pmB M) pc = .ok (.lstore_n n, 1) → (n : Nat) = i → i + 1 < pmL M → pre2 lo i = true → (P M (pc + 1) ((lo.set i (.long x)).set (i + 1) .null) st S Q) → P M pc lo (.long x :: st) S Q
def C_lstore (sc : PSc) (P : PP) : Prop := ∀ (M : PM) (pc : Nat) (lo st : List Value) (S : PS) (Q : PQ) (i : Nat) (x : Int64), decode (pmB M) pc = .ok (.lstore i, 2) → i + 1 < pmL M → pre2 lo i = true → (P M (pc + 2) ((lo.set i (.long x)).set (i + 1) .null) st S Q) → P M pc lo (.long x :: st) S Q
def C_iinc (sc : PSc) (P : PP) : Prop := ∀ (M : PM) (pc : Nat) (lo st : List Value) (S : PS) (Q : PQ) (i : Nat) (n : Int) (x : Int32), decode (pmB M) pc = .ok (.iinc i n, 3) → lo[i]? = some (.int x) → i < pmL M → pre2 lo i = true → (P M (pc + 3) (lo.set i (.int (x + Int32.ofInt n))) st S Q) → P M pc lo st S Q
def C_iadd (sc : PSc) (P : PP) : Prop := ∀ (M : PM) (pc : Nat) (lo st : List Value) (S : PS) (Q : PQ) (x y : Int32), decode (pmB M) pc = .ok (.iadd, 1) → (P M (pc + 1) lo (.int (x + y) :: st) S Q) → P M pc lo (.int y :: .int x :: st) S Q
def C_isub (sc : PSc) (P : PP) : Prop := ∀ (M : PM) (pc : Nat) (lo st : List Value) (S : PS) (Q : PQ) (x y : Int32), decode (pmB M) pc = .ok (.isub, 1) → (P M (pc + 1) lo (.int (x - y) :: st) S Q) → P M pc lo (.int y :: .int x :: st) S Q
def C_imul (sc : PSc) (P : PP) : Prop := ∀ (M : PM) (pc : Nat) (lo st : List Value) (S : PS) (Q : PQ) (x y : Int32), decode (pmB M) pc = .ok (.imul, 1) → (P M (pc + 1) lo (.int (x * y) :: st) S Q) → P M pc lo (.int y :: .int x :: st) S Q
def C_iand (sc : PSc) (P : PP) : Prop := ∀ (M : PM) (pc : Nat) (lo st : List Value) (S : PS) (Q : PQ) (x y : Int32), decode (pmB M) pc = .ok (.iand, 1) → (P M (pc + 1) lo (.int (x &&& y) :: st) S Q) → P M pc lo (.int y :: .int x :: st) S Q
def C_ior (sc : PSc) (P : PP) : Prop := ∀ (M : PM) (pc : Nat) (lo st : List Value) (S : PS) (Q : PQ) (x y : Int32), decode (pmB M) pc = .ok (.ior, 1) → (P M (pc + 1) lo (.int (x ||| y) :: st) S Q) → P M pc lo (.int y :: .int x :: st) S Q
def C_ishl (sc : PSc) (P : PP) : Prop := ∀ (M : PM) (pc : Nat) (lo st : List Value) (S : PS) (Q : PQ) (x y : Int32), decode (pmB M) pc = .ok (.ishl, 1) → (P M (pc + 1) lo (.int (x <<< (y &&& 31)) :: st) S Q) → P M pc lo (.int y :: .int x :: st) S Q
def C_ishr (sc : PSc) (P : PP) : Prop := ∀ (M : PM) (pc : Nat) (lo st : List Value) (S : PS) (Q : PQ) (x y : Int32), decode (pmB M) pc = .ok (.ishr, 1) → (P M (pc + 1) lo (.int (x >>> (y &&& 31)) :: st) S Q) → P M pc lo (.int y :: .int x :: st) S Q
def C_iushr (sc : PSc) (P : PP) : Prop := ∀ (M : PM) (pc : Nat) (lo st : List Value) (S : PS) (Q : PQ) (x y : Int32), decode (pmB M) pc = .ok (.iushr, 1) → (P M (pc + 1) lo (.int ((x.toUInt32 >>> (y.toUInt32 &&& Int32.toUInt32 31)).toInt32) :: st) S Q) → P M pc lo (.int y :: .int x :: st) S Q
def C_irem (sc : PSc) (P : PP) : Prop := ∀ (M : PM) (pc : Nat) (lo st : List Value) (S : PS) (Q : PQ) (x y : Int32), decode (pmB M) pc = .ok (.irem, 1) → ¬ y = 0 → (P M (pc + 1) lo (.int (x - x / y * y) :: st) S Q) → P M pc lo (.int y :: .int x :: st) S Q
def C_ladd (sc : PSc) (P : PP) : Prop := ∀ (M : PM) (pc : Nat) (lo st : List Value) (S : PS) (Q : PQ) (x y : Int64), decode (pmB M) pc = .ok (.ladd, 1) → (P M (pc + 1) lo (.long (x + y) :: st) S Q) → P M pc lo (.long y :: .long x :: st) S Q
def C_lmul (sc : PSc) (P : PP) : Prop := ∀ (M : PM) (pc : Nat) (lo st : List Value) (S : PS) (Q : PQ) (x y : Int64), decode (pmB M) pc = .ok (.lmul, 1) → (P M (pc + 1) lo (.long (x * y) :: st) S Q) → P M pc lo (.long y :: .long x :: st) S Q
def C_ldiv (sc : PSc) (P : PP) : Prop := ∀ (M : PM) (pc : Nat) (lo st : List Value) (S : PS) (Q : PQ) (x y : Int64), decode (pmB M) pc = .ok (.ldiv, 1) → ¬ y = 0 → (P M (pc + 1) lo (.long (x / y) :: st) S Q) → P M pc lo (.long y :: .long x :: st) S Q
def C_lrem (sc : PSc) (P : PP) : Prop := ∀ (M : PM) (pc : Nat) (lo st : List Value) (S : PS) (Q : PQ) (x y : Int64), decode (pmB M) pc = .ok (.lrem, 1) → ¬ y = 0 → (P M (pc + 1) lo (.long (x - x / y * y) :: st) S Q) → P M pc lo (.long y :: .long x :: st) S Q
def C_lcmp (sc : PSc) (P : PP) : Prop := ∀ (M : PM) (pc : Nat) (lo st : List Value) (S : PS) (Q : PQ) (x y : Int64), decode (pmB M) pc = .ok (.lcmp, 1) → (P M (pc + 1) lo (.int (lg_cmp x y) :: st) S Q) → P M pc lo (.long y :: .long x :: st) S Q
def C_ineg (sc : PSc) (P : PP) : Prop := ∀ (M : PM) (pc : Nat) (lo st : List Value) (S : PS) (Q : PQ) (x : Int32), decode (pmB M) pc = .ok (.ineg, 1) → (P M (pc + 1) lo (.int (-x) :: st) S Q) → P M pc lo (.int x :: st) S Q
def C_i2l (sc : PSc) (P : PP) : Prop := ∀ (M : PM) (pc : Nat) (lo st : List Value) (S : PS) (Q : PQ) (x : Int32), decode (pmB M) pc = .ok (.i2l, 1) → (P M (pc + 1) lo (.long x.toInt64 :: st) S Q) → P M pc lo (.int x :: st) S Q
def C_i2b (sc : PSc) (P : PP) : Prop := ∀ (M : PM) (pc : Nat) (lo st : List Value) (S : PS) (Q : PQ) (x : Int32), decode (pmB M) pc = .ok (.i2b, 1) → (P M (pc + 1) lo (.int x.toInt8.toInt32 :: st) S Q) → P M pc lo (.int x :: st) S Q
def C_i2s (sc : PSc) (P : PP) : Prop := ∀ (M : PM) (pc : Nat) (lo st : List Value) (S : PS) (Q : PQ) (x : Int32), decode (pmB M) pc = .ok (.i2s, 1) → (P M (pc + 1) lo (.int x.toInt16.toInt32 :: st) S Q) → P M pc lo (.int x :: st) S Q
def C_i2c (sc : PSc) (P : PP) : Prop := ∀ (M : PM) (pc : Nat) (lo st : List Value) (S : PS) (Q : PQ) (x : Int32), decode (pmB M) pc = .ok (.i2c, 1) → (P M (pc + 1) lo (.int (x.toUInt32 % 65536).toInt32 :: st) S Q) → P M pc lo (.int x :: st) S Q
def C_dup (sc : PSc) (P : PP) : Prop := ∀ (M : PM) (pc : Nat) (lo st : List Value) (S : PS) (Q : PQ) (v : Value), decode (pmB M) pc = .ok (.dup, 1) → v.category = 1 → (P M (pc + 1) lo (v :: v :: st) S Q) → P M pc lo (v :: st) S Q
def C_pop (sc : PSc) (P : PP) : Prop := ∀ (M : PM) (pc : Nat) (lo st : List Value) (S : PS) (Q : PQ) (v : Value), decode (pmB M) pc = .ok (.pop, 1) → v.category = 1 → (P M (pc + 1) lo st S Q) → P M pc lo (v :: st) S Q
def C_dup2 (sc : PSc) (P : PP) : Prop := ∀ (M : PM) (pc : Nat) (lo st : List Value) (S : PS) (Q : PQ) (v w : Value), decode (pmB M) pc = .ok (.dup2, 1) → v.category = 1 → w.category = 1 → (P M (pc + 1) lo (v :: w :: v :: w :: st) S Q) → P M pc lo (v :: w :: st) S Q
def C_getI (sc : PSc) (P : PP) : Prop := ∀ (M : PM) (pc : Nat) (lo st : List Value) (S : PS) (Q : PQ) (x ci k i : Nat) (fs : List (Option Nat)), decode (pmB M) pc = .ok (.getfield x, 3) → fOk M x ci k → shps[i]? = some (.inl (ci, fs)) → fs[k]? = some none → (P M (pc + 3) lo (.int (S.1 i k) :: st) S Q) → P M pc lo (.ref i :: st) S Q
def C_getR (sc : PSc) (P : PP) : Prop := ∀ (M : PM) (pc : Nat) (lo st : List Value) (S : PS) (Q : PQ) (x ci k i j : Nat) (fs : List (Option Nat)), decode (pmB M) pc = .ok (.getfield x, 3) → fOk M x ci k → shps[i]? = some (.inl (ci, fs)) → fs[k]? = some (some j) → (P M (pc + 3) lo (.ref j :: st) S Q) → P M pc lo (.ref i :: st) S Q
def C_putI (sc : PSc) (P : PP) : Prop := ∀ (M : PM) (pc : Nat) (lo st : List Value) (S : PS) (Q : PQ) (x ci k i : Nat) (fs : List (Option Nat)) (z : Bool) (v : Int32), decode (pmB M) pc = .ok (.putfield x, 3) → pOk M x ci k z → shps[i]? = some (.inl (ci, fs)) → fs[k]? = some none → (z = true → v = 0 ∨ v = 1) → (P M (pc + 3) lo st (up2 S.1 i k v, S.2) Q) → P M pc lo (.int v :: .ref i :: st) S Q
def C_iald (sc : PSc) (P : PP) : Prop := ∀ (M : PM) (pc : Nat) (lo st : List Value) (S : PS) (Q : PQ) (i n : Nat) (j : Int32), decode (pmB M) pc = .ok (.iaload, 1) → shps[i]? = some (.inr (.inl (0, n))) → vp_in j n → (P M (pc + 1) lo (.int (S.1 i j.toNatClampNeg) :: st) S Q) → P M pc lo (.int j :: .ref i :: st) S Q
def C_iast (sc : PSc) (P : PP) : Prop := ∀ (M : PM) (pc : Nat) (lo st : List Value) (S : PS) (Q : PQ) (i n : Nat) (j v : Int32), decode (pmB M) pc = .ok (.iastore, 1) → shps[i]? = some (.inr (.inl (0, n))) → vp_in j n → (P M (pc + 1) lo st (up2 S.1 i j.toNatClampNeg v, S.2) Q) → P M pc lo (.int v :: .int j :: .ref i :: st) S Q
def C_bald (sc : PSc) (P : PP) : Prop := ∀ (M : PM) (pc : Nat) (lo st : List Value) (S : PS) (Q : PQ) (i n : Nat) (j : Int32), decode (pmB M) pc = .ok (.baload, 1) → shps[i]? = some (.inr (.inl (1, n))) → vp_in j n → (P M (pc + 1) lo (.int (S.1 i j.toNatClampNeg) :: st) S Q) → P M pc lo (.int j :: .ref i :: st) S Q
def C_bast (sc : PSc) (P : PP) : Prop := ∀ (M : PM) (pc : Nat) (lo st : List Value) (S : PS) (Q : PQ) (i n : Nat) (j v : Int32), decode (pmB M) pc = .ok (.bastore, 1) → shps[i]? = some (.inr (.inl (1, n))) → vp_in j n → (P M (pc + 1) lo st (up2 S.1 i j.toNatClampNeg (vp_nar .byte v), S.2) Q) → P M pc lo (.int v :: .int j :: .ref i :: st) S Q
def C_zald (sc : PSc) (P : PP) : Prop := ∀ (M : PM) (pc : Nat) (lo st : List Value) (S : PS) (Q : PQ) (i n : Nat) (j : Int32), decode (pmB M) pc = .ok (.baload, 1) → shps[i]? = some (.inr (.inl (2, n))) → vp_in j n → (P M (pc + 1) lo (.int (S.1 i j.toNatClampNeg) :: st) S Q) → P M pc lo (.int j :: .ref i :: st) S Q
def C_zast (sc : PSc) (P : PP) : Prop := ∀ (M : PM) (pc : Nat) (lo st : List Value) (S : PS) (Q : PQ) (i n : Nat) (j v : Int32), decode (pmB M) pc = .ok (.bastore, 1) → shps[i]? = some (.inr (.inl (2, n))) → vp_in j n → (P M (pc + 1) lo st (up2 S.1 i j.toNatClampNeg (vp_nar .boolean v), S.2) Q) → P M pc lo (.int v :: .int j :: .ref i :: st) S Q
def C_lald (sc : PSc) (P : PP) : Prop := ∀ (M : PM) (pc : Nat) (lo st : List Value) (S : PS) (Q : PQ) (i n : Nat) (j : Int32), decode (pmB M) pc = .ok (.laload, 1) → shps[i]? = some (.inr (.inr (.inl n))) → vp_in j n → (P M (pc + 1) lo (.long (S.2 i j.toNatClampNeg) :: st) S Q) → P M pc lo (.int j :: .ref i :: st) S Q
def C_last (sc : PSc) (P : PP) : Prop := ∀ (M : PM) (pc : Nat) (lo st : List Value) (S : PS) (Q : PQ) (i n : Nat) (j : Int32) (v : Int64), decode (pmB M) pc = .ok (.lastore, 1) → shps[i]? = some (.inr (.inr (.inl n))) → vp_in j n → (P M (pc + 1) lo st (S.1, up2 S.2 i j.toNatClampNeg v) Q) → P M pc lo (.long v :: .int j :: .ref i :: st) S Q
def C_aald (sc : PSc) (P : PP) : Prop := ∀ (M : PM) (pc : Nat) (lo st : List Value) (S : PS) (Q : PQ) (i t r : Nat) (js : List Nat) (j : Int32), decode (pmB M) pc = .ok (.aaload, 1) → shps[i]? = some (.inr (.inr (.inr (t, js)))) → vp_in j js.length → js[j.toNatClampNeg]? = some r → (P M (pc + 1) lo (.ref r :: st) S Q) → P M pc lo (.int j :: .ref i :: st) S Q
def C_sld (sc : PSc) (P : PP) : Prop := ∀ (M : PM) (pc : Nat) (lo st : List Value) (S : PS) (Q : PQ) (j : Int32), decode (pmB M) pc = .ok (.iaload, 1) → vp_in j sc.1 → (P M (pc + 1) lo (.int (sc.2 j.toNatClampNeg) :: st) S Q) → P M pc lo (.int j :: .ref 99 :: st) S Q
def C_slen (sc : PSc) (P : PP) : Prop := ∀ (M : PM) (pc : Nat) (lo st : List Value) (S : PS) (Q : PQ) , decode (pmB M) pc = .ok (.arraylength, 1) → (P M (pc + 1) lo (.int (Int32.ofNat sc.1) :: st) S Q) → P M pc lo (.ref 99 :: st) S Q
def C_getSV (sc : PSc) (P : PP) : Prop := ∀ (M : PM) (pc : Nat) (lo st : List Value) (S : PS) (Q : PQ) (x k : Nat), decode (pmB M) pc = .ok (.getfield x, 3) → k < 5 → sfOk M x "value" "[B" → (P M (pc + 3) lo (.ref (200 + k) :: st) S Q) → P M pc lo (.ref (100 + k) :: st) S Q
def C_getSC (sc : PSc) (P : PP) : Prop := ∀ (M : PM) (pc : Nat) (lo st : List Value) (S : PS) (Q : PQ) (x k : Nat), decode (pmB M) pc = .ok (.getfield x, 3) → k < 5 → sfOk M x "coder" "B" → (P M (pc + 3) lo (.int 0 :: st) S Q) → P M pc lo (.ref (100 + k) :: st) S Q
def C_alenS (sc : PSc) (P : PP) : Prop := ∀ (M : PM) (pc : Nat) (lo st : List Value) (S : PS) (Q : PQ) (k : Nat), decode (pmB M) pc = .ok (.arraylength, 1) → k < 5 → (P M (pc + 1) lo (.int (Int32.ofNat (sLen.getD k 0)) :: st) S Q) → P M pc lo (.ref (200 + k) :: st) S Q
def C_baldS (sc : PSc) (P : PP) : Prop := ∀ (M : PM) (pc : Nat) (lo st : List Value) (S : PS) (Q : PQ) (k : Nat) (j : Int32), decode (pmB M) pc = .ok (.baload, 1) → k < 5 → vp_in j (sLen.getD k 0) → (P M (pc + 1) lo (.int ((sByt.getD k []).getD j.toNatClampNeg 0) :: st) S Q) → P M pc lo (.int j :: .ref (200 + k) :: st) S Q
def C_getsC (sc : PSc) (P : PP) : Prop := ∀ (M : PM) (pc : Nat) (lo st : List Value) (S : PS) (Q : PQ) (x : Nat), decode (pmB M) pc = .ok (.getstatic x, 3) → gsOk M x "java/lang/String" "COMPACT_STRINGS" "Z" → (P M (pc + 3) lo (.int 1 :: st) S Q) → P M pc lo st S Q
def C_getsR (sc : PSc) (P : PP) : Prop := ∀ (M : PM) (pc : Nat) (lo st : List Value) (S : PS) (Q : PQ) (x : Nat), decode (pmB M) pc = .ok (.getstatic x, 3) → gsOk M x "jdk/internal/util/Preconditions" "SIOOBE_FORMATTER" "Ljava/util/function/BiFunction;" → (∀ v : Value, v = .null ∨ v = .ref 98 → P M (pc + 3) lo (v :: st) S Q) → P M pc lo st S Q
def C_mmax (sc : PSc) (P : PP) : Prop := ∀ (M : PM) (pc : Nat) (lo st : List Value) (S : PS) (Q : PQ) (x : Nat) (a b : Int32), decode (pmB M) pc = .ok (.invokestatic x, 3) → mxOk M x → 1 ≤ pmV M → (st.map fun v => v.category).sum ≤ 8 → (P M (pc + 3) lo (.int (if a < b then b else a) :: st) S Q) → P M pc lo (.int b :: .int a :: st) S Q
def C_mabs (sc : PSc) (P : PP) : Prop := ∀ (M : PM) (pc : Nat) (lo st : List Value) (S : PS) (Q : PQ) (x : Nat) (a : Int32), decode (pmB M) pc = .ok (.invokestatic x, 3) → maOk M x → 1 ≤ pmV M → (st.map fun v => v.category).sum ≤ 8 → (P M (pc + 3) lo (.int (if 0 ≤ a then a else 0 - a) :: st) S Q) → P M pc lo (.int a :: st) S Q
def C_if_eq (sc : PSc) (P : PP) : Prop := ∀ (M : PM) (pc : Nat) (lo st : List Value) (S : PS) (Q : PQ) (x : Int32) (off : Int) (tgt : Nat), decode (pmB M) pc = .ok (.ifCond .eq off, 3) → (pc : Int) + off = (tgt : Int) → ((x = 0) → P M tgt lo st S Q) → (¬ (x = 0) → P M (pc + 3) lo st S Q) → P M pc lo (.int x :: st) S Q
def C_if_ne (sc : PSc) (P : PP) : Prop := ∀ (M : PM) (pc : Nat) (lo st : List Value) (S : PS) (Q : PQ) (x : Int32) (off : Int) (tgt : Nat), decode (pmB M) pc = .ok (.ifCond .ne off, 3) → (pc : Int) + off = (tgt : Int) → ((¬ x = 0) → P M tgt lo st S Q) → ((x = 0) → P M (pc + 3) lo st S Q) → P M pc lo (.int x :: st) S Q
def C_if_lt (sc : PSc) (P : PP) : Prop := ∀ (M : PM) (pc : Nat) (lo st : List Value) (S : PS) (Q : PQ) (x : Int32) (off : Int) (tgt : Nat), decode (pmB M) pc = .ok (.ifCond .lt off, 3) → (pc : Int) + off = (tgt : Int) → ((x < 0) → P M tgt lo st S Q) → (¬ (x < 0) → P M (pc + 3) lo st S Q) → P M pc lo (.int x :: st) S Q
def C_if_ge (sc : PSc) (P : PP) : Prop := ∀ (M : PM) (pc : Nat) (lo st : List Value) (S : PS) (Q : PQ) (x : Int32) (off : Int) (tgt : Nat), decode (pmB M) pc = .ok (.ifCond .ge off, 3) → (pc : Int) + off = (tgt : Int) → ((0 ≤ x) → P M tgt lo st S Q) → (¬ (0 ≤ x) → P M (pc + 3) lo st S Q) → P M pc lo (.int x :: st) S Q
def C_if_gt (sc : PSc) (P : PP) : Prop := ∀ (M : PM) (pc : Nat) (lo st : List Value) (S : PS) (Q : PQ) (x : Int32) (off : Int) (tgt : Nat), decode (pmB M) pc = .ok (.ifCond .gt off, 3) → (pc : Int) + off = (tgt : Int) → ((0 < x) → P M tgt lo st S Q) → (¬ (0 < x) → P M (pc + 3) lo st S Q) → P M pc lo (.int x :: st) S Q
def C_if_le (sc : PSc) (P : PP) : Prop := ∀ (M : PM) (pc : Nat) (lo st : List Value) (S : PS) (Q : PQ) (x : Int32) (off : Int) (tgt : Nat), decode (pmB M) pc = .ok (.ifCond .le off, 3) → (pc : Int) + off = (tgt : Int) → ((x ≤ 0) → P M tgt lo st S Q) → (¬ (x ≤ 0) → P M (pc + 3) lo st S Q) → P M pc lo (.int x :: st) S Q
def C_icmp_eq (sc : PSc) (P : PP) : Prop := ∀ (M : PM) (pc : Nat) (lo st : List Value) (S : PS) (Q : PQ) (x y : Int32) (off : Int) (tgt : Nat), decode (pmB M) pc = .ok (.if_icmp .eq off, 3) → (pc : Int) + off = (tgt : Int) → ((x = y) → P M tgt lo st S Q) → (¬ (x = y) → P M (pc + 3) lo st S Q) → P M pc lo (.int y :: .int x :: st) S Q
def C_icmp_ne (sc : PSc) (P : PP) : Prop := ∀ (M : PM) (pc : Nat) (lo st : List Value) (S : PS) (Q : PQ) (x y : Int32) (off : Int) (tgt : Nat), decode (pmB M) pc = .ok (.if_icmp .ne off, 3) → (pc : Int) + off = (tgt : Int) → ((¬ x = y) → P M tgt lo st S Q) → ((x = y) → P M (pc + 3) lo st S Q) → P M pc lo (.int y :: .int x :: st) S Q
def C_icmp_lt (sc : PSc) (P : PP) : Prop := ∀ (M : PM) (pc : Nat) (lo st : List Value) (S : PS) (Q : PQ) (x y : Int32) (off : Int) (tgt : Nat), decode (pmB M) pc = .ok (.if_icmp .lt off, 3) → (pc : Int) + off = (tgt : Int) → ((x < y) → P M tgt lo st S Q) → (¬ (x < y) → P M (pc + 3) lo st S Q) → P M pc lo (.int y :: .int x :: st) S Q
def C_icmp_ge (sc : PSc) (P : PP) : Prop := ∀ (M : PM) (pc : Nat) (lo st : List Value) (S : PS) (Q : PQ) (x y : Int32) (off : Int) (tgt : Nat), decode (pmB M) pc = .ok (.if_icmp .ge off, 3) → (pc : Int) + off = (tgt : Int) → ((y ≤ x) → P M tgt lo st S Q) → (¬ (y ≤ x) → P M (pc + 3) lo st S Q) → P M pc lo (.int y :: .int x :: st) S Q
def C_icmp_gt (sc : PSc) (P : PP) : Prop := ∀ (M : PM) (pc : Nat) (lo st : List Value) (S : PS) (Q : PQ) (x y : Int32) (off : Int) (tgt : Nat), decode (pmB M) pc = .ok (.if_icmp .gt off, 3) → (pc : Int) + off = (tgt : Int) → ((y < x) → P M tgt lo st S Q) → (¬ (y < x) → P M (pc + 3) lo st S Q) → P M pc lo (.int y :: .int x :: st) S Q
def C_icmp_le (sc : PSc) (P : PP) : Prop := ∀ (M : PM) (pc : Nat) (lo st : List Value) (S : PS) (Q : PQ) (x y : Int32) (off : Int) (tgt : Nat), decode (pmB M) pc = .ok (.if_icmp .le off, 3) → (pc : Int) + off = (tgt : Int) → ((x ≤ y) → P M tgt lo st S Q) → (¬ (x ≤ y) → P M (pc + 3) lo st S Q) → P M pc lo (.int y :: .int x :: st) S Q
def C_goto (sc : PSc) (P : PP) : Prop := ∀ (M : PM) (pc : Nat) (lo st : List Value) (S : PS) (Q : PQ) (off : Int) (tgt : Nat), decode (pmB M) pc = .ok (.goto off, 3) → (pc : Int) + off = (tgt : Int) → (P M tgt lo st S Q) → P M pc lo st S Q
def C_table (sc : PSc) (P : PP) : Prop := ∀ (M : PM) (pc : Nat) (lo st : List Value) (S : PS) (Q : PQ) (x : Int32) (dflt lw hi : Int) (offs : Array Int) (len : Nat), decode (pmB M) pc = .ok (.tableswitch dflt lw hi offs, len) → (∃ tgt : Nat, (((x.toInt < lw ∨ hi < x.toInt) ∧ (pc : Int) + dflt = (tgt : Int)) ∨ (¬ x.toInt < lw ∧ ¬ hi < x.toInt ∧ ∃ off, offs[(x.toInt - lw).toNat]? = some off ∧ (pc : Int) + off = (tgt : Int))) ∧ P M tgt lo st S Q) → P M pc lo (.int x :: st) S Q
def C_lookup (sc : PSc) (P : PP) : Prop := ∀ (M : PM) (pc : Nat) (lo st : List Value) (S : PS) (Q : PQ) (x : Int32) (dflt : Int) (ps : Array (Int × Int)) (len : Nat) (tgt : Nat), decode (pmB M) pc = .ok (.lookupswitch dflt ps, len) → (ps.toList.zip (ps.toList.drop 1)).all (fun (a, next) => a.1 < next.1) = true → (pc : Int) + Op.lookupswitch.offset ps.toList dflt x.toInt = (tgt : Int) → (P M tgt lo st S Q) → P M pc lo (.int x :: st) S Q
def C_iret (sc : PSc) (P : PP) : Prop := ∀ (M : PM) (pc : Nat) (lo st : List Value) (S : PS) (Q : PQ) (x : Int32) (ty : FieldType), decode (pmB M) pc = .ok (.ireturn, 1) → pmR M = some ty → narrow ty (.int x) = .int x → (Q (some (.int x)) S) → P M pc lo [.int x] S Q
def C_lret (sc : PSc) (P : PP) : Prop := ∀ (M : PM) (pc : Nat) (lo st : List Value) (S : PS) (Q : PQ) (x : Int64), decode (pmB M) pc = .ok (.lreturn, 1) → pmR M = some .long → (Q (some (.long x)) S) → P M pc lo [.long x] S Q
def C_vret (sc : PSc) (P : PP) : Prop := ∀ (M : PM) (pc : Nat) (lo st : List Value) (S : PS) (Q : PQ) , decode (pmB M) pc = .ok (.return_, 1) → pmR M = none → (Q none S) → P M pc lo [] S Q
def C_callV (sc : PSc) (P : PP) : Prop := ∀ (M : PM) (pc : Nat) (lo st : List Value) (S : PS) (Q : PQ) (M' : PM) (x i n : Nat) (As st0 : List Value) (Qm : PQ), decode (pmB M) pc = .ok (.invokevirtual x, 3) → iOk M' n → lOk (pmY M).cls x (pmY M') → pmV M' < pmV M → rOk i (pmY M').cls → As.length = n → st0 = As.reverse ++ .ref i :: st → (st.map fun v => v.category).sum ≤ 8 → (pEl (.ref i :: As)).length ≤ pmL M' → (P M' 0 (pL0 M' (.ref i :: As)) [] S Qm) → (∀ (r : Option Value) (S' : PS), Qm r S' → P M (pc + 3) lo (r.toList ++ st) S' Q) → P M pc lo st0 S Q
def C_callS (sc : PSc) (P : PP) : Prop := ∀ (M : PM) (pc : Nat) (lo st : List Value) (S : PS) (Q : PQ) (M' : PM) (x n : Nat) (As st0 : List Value) (Qm : PQ), decode (pmB M) pc = .ok (.invokestatic x, 3) → jOk M' n → lOk (pmY M).cls x (pmY M') → pmV M' < pmV M → As.length = n → st0 = As.reverse ++ st → (st.map fun v => v.category).sum ≤ 8 → (pEl As).length ≤ pmL M' → (P M' 0 (pL0 M' As) [] S Qm) → (∀ (r : Option Value) (S' : PS), Qm r S' → P M (pc + 3) lo (r.toList ++ st) S' Q) → P M pc lo st0 S Q
def CG0 (sc : PSc) (P : PP) : Prop := C_iconst sc P ∧ C_bipush sc P ∧ C_sipush sc P ∧ C_lconst sc P ∧ C_ldc sc P ∧ C_ldcw sc P ∧ C_ldc2 sc P ∧ C_ldcS sc P
def CG1 (sc : PSc) (P : PP) : Prop := C_iload_n sc P ∧ C_iload sc P ∧ C_lload_n sc P ∧ C_lload sc P ∧ C_aload_n sc P ∧ C_aload sc P ∧ C_istore_n sc P ∧ C_istore sc P
def CG2 (sc : PSc) (P : PP) : Prop := C_astore_n sc P ∧ C_astore sc P ∧ C_lstore_n sc P ∧ C_lstore sc P ∧ C_iinc sc P ∧ C_iadd sc P ∧ C_isub sc P ∧ C_imul sc P
def CG3 (sc : PSc) (P : PP) : Prop := C_iand sc P ∧ C_ior sc P ∧ C_ishl sc P ∧ C_ishr sc P ∧ C_iushr sc P ∧ C_irem sc P ∧ C_ladd sc P ∧ C_lmul sc P
def CG4 (sc : PSc) (P : PP) : Prop := C_ldiv sc P ∧ C_lrem sc P ∧ C_lcmp sc P ∧ C_ineg sc P ∧ C_i2l sc P ∧ C_i2b sc P ∧ C_i2s sc P ∧ C_i2c sc P
def CG5 (sc : PSc) (P : PP) : Prop := C_dup sc P ∧ C_pop sc P ∧ C_dup2 sc P ∧ C_getI sc P ∧ C_getR sc P ∧ C_putI sc P ∧ C_iald sc P ∧ C_iast sc P
def CG6 (sc : PSc) (P : PP) : Prop := C_bald sc P ∧ C_bast sc P ∧ C_zald sc P ∧ C_zast sc P ∧ C_lald sc P ∧ C_last sc P ∧ C_aald sc P ∧ C_sld sc P
def CG7 (sc : PSc) (P : PP) : Prop := C_slen sc P ∧ C_getSV sc P ∧ C_getSC sc P ∧ C_alenS sc P ∧ C_baldS sc P ∧ C_getsC sc P ∧ C_getsR sc P ∧ C_mmax sc P
def CG8 (sc : PSc) (P : PP) : Prop := C_mabs sc P ∧ C_if_eq sc P ∧ C_if_ne sc P ∧ C_if_lt sc P ∧ C_if_ge sc P ∧ C_if_gt sc P ∧ C_if_le sc P ∧ C_icmp_eq sc P
def CG9 (sc : PSc) (P : PP) : Prop := C_icmp_ne sc P ∧ C_icmp_lt sc P ∧ C_icmp_ge sc P ∧ C_icmp_gt sc P ∧ C_icmp_le sc P ∧ C_goto sc P ∧ C_table sc P ∧ C_lookup sc P
def CG10 (sc : PSc) (P : PP) : Prop := C_iret sc P ∧ C_lret sc P ∧ C_vret sc P ∧ C_callV sc P ∧ C_callS sc P
def Cl (sc : PSc) (P : PP) : Prop := CG0 sc P ∧ CG1 sc P ∧ CG2 sc P ∧ CG3 sc P ∧ CG4 sc P ∧ CG5 sc P ∧ CG6 sc P ∧ CG7 sc P ∧ CG8 sc P ∧ CG9 sc P ∧ CG10 sc P
/-- the plain machine: least of all that keep the rules -/
def E (sc : PSc) (M : PM) (pc : Nat) (lo st : List Value) (S : PS) (Q : PQ) : Prop := ∀ P : PP, Cl sc P → P M pc lo st S Q
