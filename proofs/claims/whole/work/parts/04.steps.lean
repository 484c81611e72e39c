/-! ===== the abstract machine: steps ===== -/
/-- what a class's constant pool says: fields (class, place), ints, longs -/
abbrev aK : Type := List (Nat × Nat × Nat) × List (Nat × Int) × List (Nat × Int)
def aLk {α : Type} : List (Nat × α) → Nat → Option α
  | [], _ => none
  | q :: t, i => if q.1 = i then some q.2 else aLk t i
def aLn (ins : Instr) : Nat := match ins with
  | .bipush _ => 2 | .sipush _ => 3 | .ldc _ => 2 | .ldc_w _ => 3 | .ldc2_w _ => 3
  | .iload _ => 2 | .lload _ => 2 | .aload _ => 2 | .istore _ => 2 | .lstore _ => 2 | .astore _ => 2
  | .iinc _ _ => 3 | .getfield _ => 3 | .putfield _ => 3 | .goto _ => 3 | .ifCond _ _ => 3 | .if_icmp _ _ => 3
  | .invokevirtual _ => 3 | .invokestatic _ => 3 | _ => 1
abbrev aO : Type := Option (List Prop × Nat × aLs × List aV × aS)
def aLdI (L : aLs) (i pc : Nat) (st : List aV) (σ : aS) : aO := match L[i]? with
  | some (some (.inl x)) => some ([], pc, L, aI x :: st, σ)
  | _ => none
def aLdL (L : aLs) (i pc : Nat) (st : List aV) (σ : aS) : aO := match L[i]? with
  | some (some (.inr (.inl x))) => some ([], pc, L, aL x :: st, σ)
  | _ => none
def aLdR (L : aLs) (i pc : Nat) (st : List aV) (σ : aS) : aO := match L[i]? with
  | some (some (.inr (.inr q))) => some ([], pc, L, aR q.1 q.2 :: st, σ)
  | _ => none
def aStI (L : aLs) (i pc : Nat) (st : List aV) (σ : aS) : aO := match st with
  | .inl x :: r => if i < L.length then some ([], pc, aPut L i (aI x), r, σ) else none
  | _ => none
def aStL (L : aLs) (i pc : Nat) (st : List aV) (σ : aS) : aO := match st with
  | .inr (.inl x) :: r => if i + 1 < L.length then some ([], pc, aPut2 L i (aL x), r, σ) else none
  | _ => none
def aBin (P : Int → Int → List Prop) (f : Int → Int → Int) (L : aLs) (pc : Nat) (st : List aV) (σ : aS) : aO := match st with
  | .inl y :: .inl x :: r => some (P x y, pc, L, aI (f x y) :: r, σ)
  | _ => none
def aUn (f : Int → Int) (L : aLs) (pc : Nat) (st : List aV) (σ : aS) : aO := match st with
  | .inl x :: r => some ([], pc, L, aI (f x) :: r, σ)
  | _ => none
def aBinL (P : Int → Int → List Prop) (f : Int → Int → Int) (L : aLs) (pc : Nat) (st : List aV) (σ : aS) : aO := match st with
  | .inr (.inl y) :: .inr (.inl x) :: r => some (P x y, pc, L, aL (f x y) :: r, σ)
  | _ => none
def aGet (K : aK) (idx : Nat) (L : aLs) (pc : Nat) (st : List aV) (σ : aS) : aO := match st with
  | .inr (.inr q) :: r => match aLk K.1 idx with
    | some (ci, k) => if aCls q.1 = some ci ∧ q.1 < 32 then match (aFld q.1)[k]? with
        | some none => some ([q.2 < aCnt q.1], pc, L, aI (σ q.1 q.2 k) :: r, σ)
        | some (some f) => some ([q.2 < aCnt q.1], pc, L, aR f.1 (f.2.getD q.2) :: r, σ)
        | none => none
      else none
    | none => none
  | _ => none
def aSet (K : aK) (idx : Nat) (L : aLs) (pc : Nat) (st : List aV) (σ : aS) : aO := match st with
  | .inl x :: .inr (.inr q) :: r => match aLk K.1 idx with
    | some (ci, k) => if aCls q.1 = some ci ∧ q.1 < 32 then match (aFld q.1)[k]? with
        | some none => if aBoo q.1 k then some ([q.2 < aCnt q.1, x = 0 ∨ x = 1], pc, L, r, aUp σ q.1 q.2 k x) else some ([q.2 < aCnt q.1], pc, L, r, aUp σ q.1 q.2 k x)
        | _ => none
      else none
    | none => none
  | _ => none
def aAld (L : aLs) (pc : Nat) (st : List aV) (σ : aS) : aO := match st with
  | .inl i :: .inr (.inr q) :: r => if aCls q.1 = none ∧ q.1 < 32 then some ([q.2 < aCnt q.1, 0 ≤ i ∧ i < (aLen q.1 : Int)], pc, L, aI (σ q.1 q.2 i) :: r, σ) else none
  | _ => none
def aAst (L : aLs) (pc : Nat) (st : List aV) (σ : aS) : aO := match st with
  | .inl x :: .inl i :: .inr (.inr q) :: r => if aCls q.1 = none ∧ q.1 < 32 then some ([q.2 < aCnt q.1, 0 ≤ i ∧ i < (aLen q.1 : Int)], pc, L, r, aUp σ q.1 q.2 i x) else none
  | _ => none
def aDup (L : aLs) (pc : Nat) (st : List aV) (σ : aS) : aO := match st with
  | v :: r => if aLg (some v) then none else some ([], pc, L, v :: v :: r, σ)
  | _ => none
def aDup2 (L : aLs) (pc : Nat) (st : List aV) (σ : aS) : aO := match st with
  | v :: w :: r => if aLg (some v) || aLg (some w) then none else some ([], pc, L, v :: w :: v :: w :: r, σ)
  | _ => none
def aInc (i : Nat) (n : Int) (L : aLs) (pc : Nat) (st : List aV) (σ : aS) : aO := match L[i]? with
  | some (some (.inl x)) => some ([], pc, aPut L i (aI (x + n)), st, σ)
  | _ => none
abbrev aIr (x : Int) : Prop := -2147483648 ≤ x ∧ x < 2147483648
abbrev aLr (x : Int) : Prop := -9223372036854775808 ≤ x ∧ x < 9223372036854775808
def aStep (K : aK) (ins : Instr) (pc : Nat) (L : aLs) (st : List aV) (σ : aS) : aO := match ins with
  | .iconst n => some ([], pc + 1, L, aI n :: st, σ)
  | .bipush n => if -128 ≤ n ∧ n ≤ 127 then some ([], pc + 2, L, aI n :: st, σ) else none
  | .sipush n => if -32768 ≤ n ∧ n ≤ 32767 then some ([], pc + 3, L, aI n :: st, σ) else none
  | .lconst n => some ([], pc + 1, L, aL ((n : Nat) : Int) :: st, σ)
  | .ldc i => match aLk K.2.1 i with
    | some v => some ([], pc + 2, L, aI v :: st, σ)
    | none => none
  | .ldc_w i => match aLk K.2.1 i with
    | some v => some ([], pc + 3, L, aI v :: st, σ)
    | none => none
  | .ldc2_w i => match aLk K.2.2 i with
    | some v => some ([], pc + 3, L, aL v :: st, σ)
    | none => none
  | .iload_n k => aLdI L k (pc + 1) st σ
  | .iload i => aLdI L i (pc + 2) st σ
  | .lload_n k => aLdL L k (pc + 1) st σ
  | .lload i => aLdL L i (pc + 2) st σ
  | .aload_n k => aLdR L k (pc + 1) st σ
  | .aload i => aLdR L i (pc + 2) st σ
  | .istore_n k => aStI L k (pc + 1) st σ
  | .istore i => aStI L i (pc + 2) st σ
  | .lstore_n k => aStL L k (pc + 1) st σ
  | .lstore i => aStL L i (pc + 2) st σ
  | .iinc i n => aInc i n L (pc + 3) st σ
  | .iadd => aBin (fun _ _ => []) (fun x y => x + y) L (pc + 1) st σ
  | .isub => aBin (fun _ _ => []) (fun x y => x - y) L (pc + 1) st σ
  | .imul => aBin (fun _ _ => []) (fun x y => x * y) L (pc + 1) st σ
  | .idiv => aBin (fun x y => [aIr x, 0 < y ∧ y < 2147483648]) (fun x y => x.tdiv y) L (pc + 1) st σ
  | .irem => aBin (fun x y => [aIr x, 0 < y ∧ y < 2147483648]) (fun x y => x.tmod y) L (pc + 1) st σ
  | .iand => aBin (fun _ _ => []) aAnd L (pc + 1) st σ
  | .ior => aBin (fun _ _ => []) aOr L (pc + 1) st σ
  | .ixor => aBin (fun _ _ => []) aXor L (pc + 1) st σ
  | .ishl => aBin (fun _ y => [0 ≤ y ∧ y < 32]) (fun x y => x * 2 ^ y.toNat) L (pc + 1) st σ
  | .ishr => aBin (fun x y => [0 ≤ y ∧ y < 32, aIr x]) (fun x y => x / 2 ^ y.toNat) L (pc + 1) st σ
  | .iushr => aBin (fun x y => [0 ≤ y ∧ y < 32, 0 ≤ x ∧ x < 2147483648]) (fun x y => x / 2 ^ y.toNat) L (pc + 1) st σ
  | .ineg => aUn (fun x => -x) L (pc + 1) st σ
  | .i2b => aUn (fun x => x.bmod 256) L (pc + 1) st σ
  | .i2s => aUn (fun x => x.bmod 65536) L (pc + 1) st σ
  | .i2l => match st with
    | .inl x :: r => some ([aIr x], pc + 1, L, aL x :: r, σ)
    | _ => none
  | .ladd => aBinL (fun _ _ => []) (fun x y => x + y) L (pc + 1) st σ
  | .lmul => aBinL (fun _ _ => []) (fun x y => x * y) L (pc + 1) st σ
  | .ldiv => aBinL (fun x y => [aLr x, 0 < y ∧ y < 9223372036854775808]) (fun x y => x.tdiv y) L (pc + 1) st σ
  | .lrem => aBinL (fun x y => [aLr x, 0 < y ∧ y < 9223372036854775808]) (fun x y => x.tmod y) L (pc + 1) st σ
  | .lcmp => match st with
    | .inr (.inl y) :: .inr (.inl x) :: r => some ([aLr x, aLr y], pc + 1, L, aI (if y < x then 1 else if x = y then 0 else -1) :: r, σ)
    | _ => none
  | .dup => aDup L (pc + 1) st σ
  | .dup2 => aDup2 L (pc + 1) st σ
  | .getfield i => aGet K i L (pc + 3) st σ
  | .putfield i => aSet K i L (pc + 3) st σ
  | .iaload => aAld L (pc + 1) st σ
  | .iastore => aAst L (pc + 1) st σ
  | .goto o => if 0 ≤ (pc : Int) + o then some ([], ((pc : Int) + o).toNat, L, st, σ) else none
  | _ => none
/-- a stretch of code without branches -/
def aRun (K : aK) : List (Nat × Instr) → Nat → aLs → List aV → aS → aO
  | [], pc, L, st, σ => some ([], pc, L, st, σ)
  | q :: qs, pc, L, st, σ => if q.1 = pc then match aStep K q.2 pc L st σ with
      | some (cs, pc', L', st', σ') => match aRun K qs pc' L' st' σ' with
        | some (cs', r) => some (cs ++ cs', r)
        | none => none
      | none => none
    else none
def aAll : List Prop → Prop
  | [] => True
  | [p] => p
  | p :: q :: r => p ∧ aAll (q :: r)
theorem aAll_mem : ∀ {l : List Prop}, aAll l → ∀ p ∈ l, p := by
  intro l
  induction l with
  | nil => intro _ p hp; cases hp
  | cons a t ih =>
    intro h p hp
    cases t with
    | nil =>
      rcases List.mem_cons.mp hp with rfl | hp
      · exact h
      · cases hp
    | cons b t =>
      rcases List.mem_cons.mp hp with rfl | hp
      · exact h.1
      · exact ih h.2 p hp
