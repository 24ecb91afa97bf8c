/-! THE LEAN MACHINE: a pure machine over the same bytecode. Its heap: ints, references, longs by cell and place; of each cell its kind and its length; how many cells there are, how many slots they have. Cells from am_BG on lie outside (constants, the script): they are only read. -/
abbrev am_I : Type := Nat → Nat → Int32
abbrev am_R : Type := Nat → Nat → Option Nat
abbrev am_J : Type := Nat → Nat → Int64
abbrev am_T : Type := (Nat → Nat) × (Nat → Nat) × Nat × Nat
def am_BG : Nat := 1000000
def am_u {α : Type} (f : Nat → Nat → α) (a k : Nat) (v : α) : Nat → Nat → α := fun b j => if b = a then (if j = k then v else f b j) else f b j
def am_ur {α : Type} (f : Nat → Nat → α) (a : Nat) (r : Nat → α) : Nat → Nat → α := fun b => if b = a then r else f b
def am_u1 (f : Nat → Nat) (a v : Nat) : Nat → Nat := fun b => if b = a then v else f b
/-- a value of one slot -/
def am_c1 : Value → Bool
  | .int _ => true
  | .ref _ => true
  | .null => true
  | _ => false
def am_c8 (r : List Value) : Bool := decide (r.length ≤ 8) && r.all am_c1
def am_real : Value → Bool
  | .int _ => true
  | .long _ => true
  | .ref _ => true
  | .null => true
  | .float b => decide (b = 1)
  | _ => false
/-- a place of the locals that holds nothing that may be read -/
def am_jk : Value := .float 0
def am_isRf : FieldType → Bool
  | .object _ => true
  | .array _ => true
  | _ => false
def am_iR (ci k : Nat) : Bool := am_isRf (am_tyF ci k)
def am_fin (ci k : Nat) : Bool := match vwCl[ci]? with | some r => (r.2.1 k).2.2.2 | none => true
def am_nol (ls : List Value) (i : Nat) : Bool := match i with
  | 0 => true
  | j + 1 => match ls[j]? with
    | some (.long _) => false
    | _ => true
def am_s1 (ls : List Value) (i : Nat) (v : Value) : Option (List Value) := if i < ls.length ∧ am_nol ls i = true then some (ls.set i v) else none
def am_s2 (ls : List Value) (i : Nat) (v : Value) : Option (List Value) := if i + 1 < ls.length ∧ am_nol ls i = true then some ((ls.set i v).set (i + 1) am_jk) else none
def am_cmp : ClassFile.Cond → Int32 → Int32 → Bool
  | .eq, x, y => decide (x = y)
  | .ne, x, y => decide (¬ x = y)
  | .lt, x, y => decide (x < y)
  | .ge, x, y => decide (y ≤ x)
  | .gt, x, y => decide (y < x)
  | .le, x, y => decide (x ≤ y)
def am_jp (pc : Nat) (off : Int) : Option Nat := if 0 ≤ (pc : Int) + off then some ((pc : Int) + off).toNat else none
abbrev am_L3 : Type := Nat × List Value × List Value
def am_ld (ls : List Value) (x : Nat) (t : Nat) : Option Value := match t, ls[x]? with
  | 0, some (.int v) => some (.int v)
  | 1, some (.long v) => some (.long v)
  | 2, some (.ref a) => some (.ref a)
  | 2, some .null => some .null
  | _, _ => none
/-- the instructions that touch stack and locals alone -/
def am_lc (i : Instr) (pc : Nat) (ls st : List Value) : Option am_L3 := match i with
  | .iconst n => some (pc + 1, ls, .int (Int32.ofInt n) :: st)
  | .bipush n => some (pc + 2, ls, .int (Int8.ofInt n).toInt32 :: st)
  | .sipush n => some (pc + 3, ls, .int (Int16.ofInt n).toInt32 :: st)
  | .lconst n => some (pc + 1, ls, .long (Int64.ofNat n) :: st)
  | .aconst_null => some (pc + 1, ls, .null :: st)
  | .iload x => (am_ld ls x 0).map fun v => (pc + 2, ls, v :: st)
  | .iload_n x => (am_ld ls x 0).map fun v => (pc + 1, ls, v :: st)
  | .lload x => (am_ld ls x 1).map fun v => (pc + 2, ls, v :: st)
  | .lload_n x => (am_ld ls x 1).map fun v => (pc + 1, ls, v :: st)
  | .aload x => (am_ld ls x 2).map fun v => (pc + 2, ls, v :: st)
  | .aload_n x => (am_ld ls x 2).map fun v => (pc + 1, ls, v :: st)
  | .istore x => match st with
    | .int v :: r => (am_s1 ls x (.int v)).map fun l => (pc + 2, l, r)
    | _ => none
  | .istore_n x => match st with
    | .int v :: r => (am_s1 ls x (.int v)).map fun l => (pc + 1, l, r)
    | _ => none
  | .lstore x => match st with
    | .long v :: r => (am_s2 ls x (.long v)).map fun l => (pc + 2, l, r)
    | _ => none
  | .lstore_n x => match st with
    | .long v :: r => (am_s2 ls x (.long v)).map fun l => (pc + 1, l, r)
    | _ => none
  | .astore x => match st with
    | .ref v :: r => (am_s1 ls x (.ref v)).map fun l => (pc + 2, l, r)
    | .null :: r => (am_s1 ls x .null).map fun l => (pc + 2, l, r)
    | _ => none
  | .astore_n x => match st with
    | .ref v :: r => (am_s1 ls x (.ref v)).map fun l => (pc + 1, l, r)
    | .null :: r => (am_s1 ls x .null).map fun l => (pc + 1, l, r)
    | _ => none
  | .iinc x c => match ls[x]? with
    | some (.int v) => (am_s1 ls x (.int (v + Int32.ofInt c))).map fun l => (pc + 3, l, st)
    | _ => none
  | .idiv => match st with
    | .int y :: .int x :: r => if y = 0 then none else some (pc + 1, ls, .int (x / y) :: r)
    | _ => none
  | .irem => match st with
    | .int y :: .int x :: r => if y = 0 then none else some (pc + 1, ls, .int (x - x / y * y) :: r)
    | _ => none
  | .ldiv => match st with
    | .long y :: .long x :: r => if y = 0 then none else some (pc + 1, ls, .long (x / y) :: r)
    | _ => none
  | .lshl => match st with
    | .int y :: .long x :: r => some (pc + 1, ls, .long (x <<< (y.toInt64 &&& 63)) :: r)
    | _ => none
  | .lshr => match st with
    | .int y :: .long x :: r => some (pc + 1, ls, .long (x >>> (y.toInt64 &&& 63)) :: r)
    | _ => none
  | .i2l => match st with
    | .int x :: r => some (pc + 1, ls, .long x.toInt64 :: r)
    | _ => none
  | .l2i => match st with
    | .long x :: r => some (pc + 1, ls, .int x.toInt32 :: r)
    | _ => none
  | .i2b => match st with
    | .int x :: r => some (pc + 1, ls, .int x.toInt8.toInt32 :: r)
    | _ => none
  | .i2s => match st with
    | .int x :: r => some (pc + 1, ls, .int x.toInt16.toInt32 :: r)
    | _ => none
  | .i2c => match st with
    | .int x :: r => some (pc + 1, ls, .int (x.toUInt32 % 65536).toInt32 :: r)
    | _ => none
  | .lcmp => match st with
    | .long y :: .long x :: r => some (pc + 1, ls, .int (lg_cmp x y) :: r)
    | _ => none
  | .ifCond c off => match st with
    | .int x :: r => (am_jp pc off).map fun t => ((if am_cmp c x 0 = true then t else pc + 3), ls, r)
    | _ => none
  | .if_icmp c off => match st with
    | .int y :: .int x :: r => (am_jp pc off).map fun t => ((if am_cmp c x y = true then t else pc + 3), ls, r)
    | _ => none
  | .goto off => (am_jp pc off).map fun t => (t, ls, st)
  | .ifnull off => match st with
    | .ref _ :: r => some (pc + 3, ls, r)
    | .null :: r => (am_jp pc off).map fun t => (t, ls, r)
    | _ => none
  | .ifnonnull off => match st with
    | .ref _ :: r => (am_jp pc off).map fun t => (t, ls, r)
    | .null :: r => some (pc + 3, ls, r)
    | _ => none
  | .tableswitch dflt lo hi offs => match st with
    | .int x :: r => if x.toInt < lo ∨ hi < x.toInt then (am_jp pc dflt).map fun t => (t, ls, r) else
      (offs[(x.toInt - lo).toNat]?).bind fun off => (am_jp pc off).map fun t => (t, ls, r)
    | _ => none
  | .lookupswitch dflt ps => match st with
    | .int x :: r => if (ps.toList.zip (ps.toList.drop 1)).all (fun (a, next) => a.1 < next.1) = true then
        (am_jp pc (Op.lookupswitch.offset ps.toList dflt x.toInt)).map fun t => (t, ls, r) else none
    | _ => none
  | .dup => match st with
    | v :: r => if v.category = 1 then some (pc + 1, ls, v :: v :: r) else none
    | _ => none
  | .dup2 => match st with
    | v :: w :: r => if v.category = 1 ∧ w.category = 1 then some (pc + 1, ls, v :: w :: v :: w :: r) else none
    | _ => none
  | .pop => match st with
    | v :: r => if v.category = 1 then some (pc + 1, ls, r) else none
    | _ => none
  | .iadd => match st with
    | .int y :: .int x :: r => some (pc + 1, ls, .int (x + y) :: r)
    | _ => none
  | .isub => match st with
    | .int y :: .int x :: r => some (pc + 1, ls, .int (x - y) :: r)
    | _ => none
  | .imul => match st with
    | .int y :: .int x :: r => some (pc + 1, ls, .int (x * y) :: r)
    | _ => none
  | .iand => match st with
    | .int y :: .int x :: r => some (pc + 1, ls, .int (x &&& y) :: r)
    | _ => none
  | .ior => match st with
    | .int y :: .int x :: r => some (pc + 1, ls, .int (x ||| y) :: r)
    | _ => none
  | .ixor => match st with
    | .int y :: .int x :: r => some (pc + 1, ls, .int (x ^^^ y) :: r)
    | _ => none
  | .ishl => match st with
    | .int y :: .int x :: r => some (pc + 1, ls, .int (x <<< (y &&& 31)) :: r)
    | _ => none
  | .ishr => match st with
    | .int y :: .int x :: r => some (pc + 1, ls, .int (x >>> (y &&& 31)) :: r)
    | _ => none
  | .land => match st with
    | .long y :: .long x :: r => some (pc + 1, ls, .long (x &&& y) :: r)
    | _ => none
  | .lor => match st with
    | .long y :: .long x :: r => some (pc + 1, ls, .long (x ||| y) :: r)
    | _ => none
  | .lxor => match st with
    | .long y :: .long x :: r => some (pc + 1, ls, .long (x ^^^ y) :: r)
    | _ => none
  | .lmul => match st with
    | .long y :: .long x :: r => some (pc + 1, ls, .long (x * y) :: r)
    | _ => none
  | _ => none
abbrev am_H5 : Type := List Value × am_I × am_R × am_J × am_T
def am_elK : Nat → Nat
  | 18 => 1
  | 19 => 5
  | 20 => 7
  | 21 => 9
  | 22 => 15
  | _ => 99
def am_arK : Nat → Nat
  | 1 => 18
  | 5 => 19
  | 7 => 20
  | 9 => 21
  | _ => 99
def am_atK : ArrayType → Nat
  | .byte => 14
  | .int => 15
  | .long => 16
  | .boolean => 17
  | _ => 99
/-- a new cell of a kind, with so many places -/
def am_new (kd N : Nat) (σ : am_I) (ρ : am_R) (g : am_J) (τ : am_T) : am_I × am_R × am_J × am_T :=
  (am_ur σ τ.2.2.1 (fun _ => 0), am_ur ρ τ.2.2.1 (fun _ => none), am_ur g τ.2.2.1 (fun _ => 0), (am_u1 τ.1 τ.2.2.1 kd, am_u1 τ.2.1 τ.2.2.1 N, τ.2.2.1 + 1, τ.2.2.2 + N))
/-- new int[N][K] -/
def am_mna (N K : Nat) (σ : am_I) (ρ : am_R) (g : am_J) (τ : am_T) : am_I × am_R × am_J × am_T :=
  ((fun b => if τ.2.2.1 ≤ b ∧ b ≤ τ.2.2.1 + N then (fun _ => 0) else σ b),
   (fun b => if b = τ.2.2.1 then (fun i => if i < N then some (τ.2.2.1 + 1 + i) else none) else if τ.2.2.1 ≤ b ∧ b ≤ τ.2.2.1 + N then (fun _ => none) else ρ b),
   (fun b => if τ.2.2.1 ≤ b ∧ b ≤ τ.2.2.1 + N then (fun _ => 0) else g b),
   ((fun b => if b = τ.2.2.1 then 22 else if τ.2.2.1 ≤ b ∧ b ≤ τ.2.2.1 + N then 15 else τ.1 b), (fun b => if b = τ.2.2.1 then N else if τ.2.2.1 ≤ b ∧ b ≤ τ.2.2.1 + N then K else τ.2.1 b), τ.2.2.1 + 1 + N, τ.2.2.2 + N + N * K))
def am_inb (i : Int32) (n : Nat) : Bool := decide (¬ (i < 0 ∨ n ≤ i.toNatClampNeg))
def am_b01 (x : Int32) : Bool := decide (x = 0) || decide (x = 1)
/-- the instructions that touch the heap, the constants and the library's own natives -/
def am_hp (M : am_ME) (i : Instr) (st : List Value) (σ : am_I) (ρ : am_R) (g : am_J) (τ : am_T) : Option am_H5 := match i with
  | .ldc x => match am_K M.2.2.2.2 x with
    | (10, v, _) => some (.int (Int32.ofNat v) :: st, σ, ρ, g, τ)
    | (12, j, _) => some (.ref (am_BG + j) :: st, σ, ρ, g, τ)
    | _ => none
  | .ldc_w x => match am_K M.2.2.2.2 x with
    | (10, v, _) => some (.int (Int32.ofNat v) :: st, σ, ρ, g, τ)
    | (12, j, _) => some (.ref (am_BG + j) :: st, σ, ρ, g, τ)
    | _ => none
  | .ldc2_w x => match am_K M.2.2.2.2 x with
    | (11, v, _) => some (.long (Int64.ofNat v) :: st, σ, ρ, g, τ)
    | _ => none
  | .getstatic x => match am_K M.2.2.2.2 x with
    | (13, 0, _) => some (.int 1 :: st, σ, ρ, g, τ)
    | (13, 1, _) => some (.float 1 :: st, σ, ρ, g, τ)
    | (14, 0, _) => some (.ref am_BG :: st, σ, ρ, g, τ)
    | (14, 1, _) => some (.ref (am_BG + 1) :: st, σ, ρ, g, τ)
    | _ => none
  | .getfield x => match st with
    | .ref a :: r => match am_K M.2.2.2.2 x with
      | (1, ci, k) => if τ.1 a = ci then (if am_iR ci k = true then some (va_rf (ρ a k) :: r, σ, ρ, g, τ) else some (.int (σ a k) :: r, σ, ρ, g, τ)) else none
      | (16, 0, _) => if τ.1 a = 13 then some (.ref (a + 38) :: r, σ, ρ, g, τ) else none
      | (16, 1, _) => if τ.1 a = 13 then some (.int 0 :: r, σ, ρ, g, τ) else none
      | _ => none
    | _ => none
  | .putfield x => match st with
    | .int v :: .ref a :: r => match am_K M.2.2.2.2 x with
      | (1, ci, k) => if τ.1 a = ci ∧ am_iR ci k = false ∧ (am_tyF ci k = .int ∨ (am_tyF ci k = .boolean ∧ am_b01 v = true)) ∧ (am_fin ci k = false ∨ (M.1.name = "<init>" ∧ M.2.2.2.2 = ci)) then some (r, am_u σ a k v, ρ, g, τ) else none
      | _ => none
    | .ref b :: .ref a :: r => match am_K M.2.2.2.2 x with
      | (1, ci, k) => if τ.1 a = ci ∧ am_iR ci k = true ∧ (am_fin ci k = false ∨ (M.1.name = "<init>" ∧ M.2.2.2.2 = ci)) then some (r, σ, am_u ρ a k (some b), g, τ) else none
      | _ => none
    | .null :: .ref a :: r => match am_K M.2.2.2.2 x with
      | (1, ci, k) => if τ.1 a = ci ∧ am_iR ci k = true ∧ (am_fin ci k = false ∨ (M.1.name = "<init>" ∧ M.2.2.2.2 = ci)) then some (r, σ, am_u ρ a k none, g, τ) else none
      | _ => none
    | _ => none
  | .iaload => match st with
    | .int j :: .ref a :: r => if τ.1 a = 15 ∧ am_inb j (τ.2.1 a) = true then some (.int (σ a j.toNatClampNeg) :: r, σ, ρ, g, τ) else none
    | _ => none
  | .baload => match st with
    | .int j :: .ref a :: r => if (τ.1 a = 14 ∨ τ.1 a = 17) ∧ am_inb j (τ.2.1 a) = true then some (.int (σ a j.toNatClampNeg) :: r, σ, ρ, g, τ) else none
    | _ => none
  | .laload => match st with
    | .int j :: .ref a :: r => if τ.1 a = 16 ∧ am_inb j (τ.2.1 a) = true then some (.long (g a j.toNatClampNeg) :: r, σ, ρ, g, τ) else none
    | _ => none
  | .aaload => match st with
    | .int j :: .ref a :: r => if 18 ≤ τ.1 a ∧ τ.1 a ≤ 22 ∧ am_inb j (τ.2.1 a) = true then some (va_rf (ρ a j.toNatClampNeg) :: r, σ, ρ, g, τ) else none
    | _ => none
  | .iastore => match st with
    | .int x :: .int j :: .ref a :: r => if τ.1 a = 15 ∧ a < am_BG ∧ am_inb j (τ.2.1 a) = true then some (r, am_u σ a j.toNatClampNeg x, ρ, g, τ) else none
    | _ => none
  | .bastore => match st with
    | .int x :: .int j :: .ref a :: r => if am_inb j (τ.2.1 a) = true ∧ a < am_BG then
        (if τ.1 a = 14 then some (r, am_u σ a j.toNatClampNeg x.toInt8.toInt32, ρ, g, τ) else if τ.1 a = 17 ∧ am_b01 x = true then some (r, am_u σ a j.toNatClampNeg x, ρ, g, τ) else none) else none
    | _ => none
  | .lastore => match st with
    | .long x :: .int j :: .ref a :: r => if τ.1 a = 16 ∧ am_inb j (τ.2.1 a) = true then some (r, σ, ρ, am_u g a j.toNatClampNeg x, τ) else none
    | _ => none
  | .aastore => match st with
    | .ref b :: .int j :: .ref a :: r => if 18 ≤ τ.1 a ∧ τ.1 a ≤ 22 ∧ am_inb j (τ.2.1 a) = true ∧ τ.1 b = am_elK (τ.1 a) ∧ b < am_BG then some (r, σ, am_u ρ a j.toNatClampNeg (some b), g, τ) else none
    | _ => none
  | .arraylength => match st with
    | .ref a :: r => if 14 ≤ τ.1 a ∧ τ.1 a ≤ 22 then some (.int (Int32.ofNat (τ.2.1 a)) :: r, σ, ρ, g, τ) else none
    | _ => none
  | .newarray ty => match st with
    | .int n :: r => if ¬ n < 0 ∧ n.toNatClampNeg ≤ 10000 ∧ am_atK ty ≠ 99 then some (.ref τ.2.2.1 :: r, am_new (am_atK ty) n.toNatClampNeg σ ρ g τ) else none
    | _ => none
  | .anewarray x => match st with
    | .int n :: r => match am_K M.2.2.2.2 x with
      | (7, ci, _) => if ¬ n < 0 ∧ n.toNatClampNeg ≤ 10000 ∧ am_arK ci ≠ 99 then some (.ref τ.2.2.1 :: r, am_new (am_arK ci) n.toNatClampNeg σ ρ g τ) else none
      | (8, _, _) => if ¬ n < 0 ∧ n.toNatClampNeg ≤ 10000 then some (.ref τ.2.2.1 :: r, am_new 22 n.toNatClampNeg σ ρ g τ) else none
      | _ => none
    | _ => none
  | .multianewarray x 2 => match st with
    | .int k :: .int n :: r => match am_K M.2.2.2.2 x with
      | (9, _, _) => if ¬ n < 0 ∧ ¬ k < 0 ∧ n.toNatClampNeg ≤ 1000 ∧ k.toNatClampNeg ≤ 1000 then some (.ref τ.2.2.1 :: r, am_mna n.toNatClampNeg k.toNatClampNeg σ ρ g τ) else none
      | _ => none
    | _ => none
  | .new x => match am_K M.2.2.2.2 x with
    | (7, ci, N) => if ci < 13 then some (.ref τ.2.2.1 :: st, am_new ci N σ ρ g τ) else none
    | _ => none
  | .invokespecial x => match st with
    | .ref _ :: r => match am_K M.2.2.2.2 x with
      | (6, _, _) => if r.length ≤ 4 then some (r, σ, ρ, g, τ) else none
      | _ => none
    | _ => none
  | .invokestatic x => match am_K M.2.2.2.2 x, st with
    | (17, 0, _), .int v :: .int u :: r => if r.length ≤ 4 then some (.int (if v < u then v else u) :: r, σ, ρ, g, τ) else none
    | (17, 1, _), .int v :: .int u :: r => if r.length ≤ 4 then some (.int (if u < v then v else u) :: r, σ, ρ, g, τ) else none
    | (17, 2, _), .int u :: r => if r.length ≤ 4 then some (.int (if 0 ≤ u then u else 0 - u) :: r, σ, ρ, g, τ) else none
    | (15, _, _), .int n :: .int dp :: .ref b :: .int sp :: .ref a :: r =>
      if r.length ≤ 4 ∧ τ.1 a = 15 ∧ τ.1 b = 15 ∧ a < am_BG ∧ b < am_BG ∧ a ≠ b ∧ ¬ n < 0 ∧ ¬ sp < 0 ∧ ¬ dp < 0 ∧ sp.toNatClampNeg + n.toNatClampNeg ≤ τ.2.1 a ∧ dp.toNatClampNeg + n.toNatClampNeg ≤ τ.2.1 b then
        some (r, am_ur σ b (va_cpy (σ a) (σ b) sp.toNatClampNeg dp.toNatClampNeg n.toNatClampNeg), ρ, g, τ) else none
    | _, _ => none
  | _ => none
/-- the locals at a method's entry -/
def am_ar : List Value → List Value
  | [] => []
  | .long v :: r => .long v :: am_jk :: am_ar r
  | v :: r => v :: am_ar r
def am_en (j : Nat) (args : List Value) : List Value := match am_M[j]? with
  | some e => am_ar args ++ List.replicate (e.2.2.1 - (am_ar args).length) am_jk
  | none => []
def am_tv (n : Nat) (st : List Value) : Option (Nat × List Value × List Value) := match st.drop n with
  | .ref b :: r => some (b, (st.take n).reverse, r)
  | _ => none
abbrev am_RC : Type := Option Value ⊕ (Nat × List Value × List Value)
def am_rtz (rt : Option FieldType) (v : Int32) : Bool := match rt with
  | some .int => true
  | some .boolean => am_b01 v
  | some .byte => decide (v = 0)
  | some .char => decide (narrow .char (.int v) = .int v)
  | _ => false
def am_rtr : Option FieldType → Bool
  | some t => am_isRf t
  | none => false
/-- the answers, and the calls: which method, its arguments, what stays on the stack -/
def am_rc (M : am_ME) (i : Instr) (st : List Value) (τ : am_T) : Option am_RC := match i with
  | .ireturn => match st with
    | [.int v] => if am_rtz M.2.2.2.1 v = true then some (.inl (some (.int v))) else none
    | _ => none
  | .lreturn => match st with
    | [.long v] => if M.2.2.2.1 = some .long then some (.inl (some (.long v))) else none
    | _ => none
  | .areturn => match st with
    | [.ref a] => if am_rtr M.2.2.2.1 = true then some (.inl (some (.ref a))) else none
    | _ => none
  | .return_ => match st with
    | [] => if M.2.2.2.1 = none then some (.inl none) else none
    | _ => none
  | .invokevirtual x => match am_K M.2.2.2.2 x with
    | (2, j, n) => match am_tv n st, am_M[j]? with
      | some (b, as, r), some e => if τ.1 b = e.2.2.2.2 ∧ e.2.2.2.2 ≤ 13 ∧ (r.length ≤ 4 ∨ am_c8 r = true) then some (.inr (j, .ref b :: as, r)) else none
      | _, _ => none
    | _ => none
  | .invokestatic x => match am_K M.2.2.2.2 x with
    | (3, j, n) => if n ≤ st.length ∧ (st.drop n).length ≤ 4 then some (.inr (j, (st.take n).reverse, st.drop n)) else none
    | (4, j, n) => if n ≤ st.length ∧ (st.drop n).length ≤ 4 then some (.inr (j, (st.take n).reverse, st.drop n)) else none
    | _ => none
  | .invokespecial x => match am_K M.2.2.2.2 x with
    | (5, j, n) => match am_tv n st with
      | some (b, as, r) => if r.length ≤ 4 then some (.inr (j, .ref b :: as, r)) else none
      | none => none
    | _ => none
  | _ => none
def am_nx (M : am_ME) (i : Instr) (pc len : Nat) (ls st : List Value) (σ : am_I) (ρ : am_R) (g : am_J) (τ : am_T) : Option (Nat × List Value × am_H5) := match am_lc i pc ls st with
  | some x => some (x.1, x.2.1, x.2.2, σ, ρ, g, τ)
  | none => match am_hp M i st σ ρ g τ with
    | some y => some (pc + len, ls, y)
    | none => none
/-- an instruction's length -/
def am_ln (i : Instr) (len : Nat) : Bool := match i with
  | .bipush _ => len == 2
  | .iload _ => len == 2
  | .lload _ => len == 2
  | .aload _ => len == 2
  | .istore _ => len == 2
  | .lstore _ => len == 2
  | .astore _ => len == 2
  | .ldc _ => len == 2
  | .newarray _ => len == 2
  | .sipush _ => len == 3
  | .iinc _ _ => len == 3
  | .ifCond _ _ => len == 3
  | .if_icmp _ _ => len == 3
  | .goto _ => len == 3
  | .ifnull _ => len == 3
  | .ifnonnull _ => len == 3
  | .ldc_w _ => len == 3
  | .ldc2_w _ => len == 3
  | .getstatic _ => len == 3
  | .getfield _ => len == 3
  | .putfield _ => len == 3
  | .anewarray _ => len == 3
  | .new _ => len == 3
  | .invokevirtual _ => len == 3
  | .invokestatic _ => len == 3
  | .invokespecial _ => len == 3
  | .multianewarray _ _ => len == 4
  | .tableswitch _ _ _ _ => true
  | .lookupswitch _ _ => true
  | _ => len == 1
def am_okc (j : Nat) (args : List Value) : Bool := match am_M[j]? with
  | some e => decide ((am_ar args).length ≤ e.2.2.1) && decide (j < 279) && args.all am_real
  | none => false
abbrev am_O : Type := Option Value × am_I × am_R × am_J × am_T
def am_run : Nat → Nat → Nat → Nat → List Value → List Value → am_I → am_R → am_J → am_T → Option am_O
  | 0, _, _, _, _, _, _, _, _, _ => none
  | n + 1, d, k, pc, ls, st, σ, ρ, g, τ => match am_M[k]? with
    | none => none
    | some M => match decode M.2.1 pc with
      | .error _ => none
      | .ok il => if am_ln il.1 il.2 = true then match am_rc M il.1 st τ with
        | some (.inl r) => some (r, σ, ρ, g, τ)
        | some (.inr c) => if am_okc c.1 c.2.1 = true then match d with
          | 0 => none
          | d' + 1 => match am_run n d' c.1 0 (am_en c.1 c.2.1) [] σ ρ g τ with
            | none => none
            | some x => am_run n (d' + 1) k (pc + 3) ls (x.1.toList ++ c.2.2) x.2.1 x.2.2.1 x.2.2.2.1 x.2.2.2.2
          else none
        | none => match am_nx M il.1 pc il.2 ls st σ ρ g τ with
          | none => none
          | some x => am_run n d k x.1 x.2.1 x.2.2.1 x.2.2.2.1 x.2.2.2.2.1 x.2.2.2.2.2.1 x.2.2.2.2.2.2
        else none
