/-! THE SMALL MACHINE: a pure one, with cells by numbers from 0 on; a cell has a kind (the class's number, or 100 and on for a row), a length, and its ints, longs, references -/
abbrev mm_C : Type := (Nat → Nat → Int32) × (Nat → Nat → Int64) × (Nat → Nat → Option Nat)
/-- how many cells, their kinds, their lengths; then cells and slots made so far, and 1 once others may lie behind them -/
abbrev mm_H : Type := (Nat × (Nat → Nat) × (Nat → Nat)) × (Nat × Nat × Nat)
abbrev mm_M : Type := mm_H × mm_C
/-- rows from outside, only read: length and ints -/
abbrev mm_X : Type := Nat → Nat × (Nat → Int32)
/-- a row of code: instruction, length, two numbers, places -/
abbrev mm_R : Type := Instr × Nat × Nat × Nat × List Nat
/-- what a step does: it goes on; it calls (callee, arguments, the stack's rest); it returns -/
abbrev mm_O : Type := (Nat × List Value × List Value × mm_M) ⊕ (Nat × List Value × List Value) ⊕ (Option Value)
noncomputable def mm_u {α : Type} (f : Nat → Nat → α) (a i : Nat) (x : α) : Nat → Nat → α := fun b j => if b = a ∧ j = i then x else f b j
noncomputable def mm_u1 (f : Nat → Nat) (a x : Nat) : Nat → Nat := fun b => if b = a then x else f b
noncomputable def mm_at : List Value → Nat → Value
  | [], _ => .null
  | v :: _, 0 => v
  | _ :: t, k + 1 => mm_at t k
noncomputable def mm_set : List Value → Nat → Value → List Value
  | [], _, _ => []
  | _ :: t, 0, v => v :: t
  | w :: t, k + 1, v => w :: mm_set t k v
noncomputable def mm_ext : Nat := 1000000
/-- a number told by its size and its sign -/
noncomputable def mm_i (a b : Nat) : Int32 := match b with
  | 0 => Int32.ofNat a
  | _ => -(Int32.ofNat a)
noncomputable def mm_l (a b : Nat) : Int64 := match b with
  | 0 => Int64.ofNat a
  | _ => -(Int64.ofNat a)
/-- the kinds of the fields of a class: 0 int, 1 boolean, 2 long, 3 a reference -/
noncomputable def mm_isObj (M : mm_M) (a c : Nat) : Bool := Nat.blt a M.1.1.1 && Nat.beq (M.1.1.2.1 a) c
noncomputable def mm_new (M : mm_M) (c n k : Nat) : mm_M := (((M.1.1.1 + 1, mm_u1 M.1.1.2.1 M.1.1.1 c, mm_u1 M.1.1.2.2 M.1.1.1 n), (M.1.2.1 + 1, M.1.2.2.1 + k, M.1.2.2.2)), M.2)
/-- new int[n][k]: the outer row, then n inner ones -/
noncomputable def mm_rows : Nat → Nat → mm_M → mm_M
  | 0, _, M => M
  | n + 1, k, M => mm_rows n k (mm_new M 100 k k)
noncomputable def mm_refs : Nat → Nat → Nat → Nat → (Nat → Nat → Option Nat) → (Nat → Nat → Option Nat)
  | 0, _, _, _, f => f
  | n + 1, a, i, q, f => mm_refs n a (i + 1) (q + 1) (mm_u f a i (some q))
noncomputable def mm_multi (M : mm_M) (n k : Nat) : mm_M :=
  let M1 := mm_rows n k (mm_new M 104 n n)
  (M1.1, (M.2.1, M.2.2.1, mm_refs n M.1.1.1 0 (M.1.1.1 + 1) M.2.2.2))
noncomputable def mm_setI (M : mm_M) (a i : Nat) (x : Int32) : mm_M := (M.1, (mm_u M.2.1 a i x, M.2.2.1, M.2.2.2))
noncomputable def mm_setL (M : mm_M) (a i : Nat) (x : Int64) : mm_M := (M.1, (M.2.1, mm_u M.2.2.1 a i x, M.2.2.2))
noncomputable def mm_setR (M : mm_M) (a i : Nat) (x : Option Nat) : mm_M := (M.1, (M.2.1, M.2.2.1, mm_u M.2.2.2 a i x))
section MMStep
variable {α : Type}
noncomputable def mm_pI (st : List Value) (K : Int32 → List Value → α) (bad : α) : α := match st with
  | .int x :: r => K x r
  | _ => bad
noncomputable def mm_pL (st : List Value) (K : Int64 → List Value → α) (bad : α) : α := match st with
  | .long x :: r => K x r
  | _ => bad
noncomputable def mm_pR (st : List Value) (K : Nat → List Value → α) (bad : α) : α := match st with
  | .ref x :: r => K x r
  | _ => bad
/-- a value of one slot: an int or a reference -/
noncomputable def mm_p1 (st : List Value) (K : Value → List Value → α) (bad : α) : α := match st with
  | .int x :: r => K (.int x) r
  | .ref x :: r => K (.ref x) r
  | _ => bad
noncomputable def mm_gI (v : Value) (K : Int32 → α) (bad : α) : α := match v with
  | .int x => K x
  | _ => bad
noncomputable def mm_gL (v w : Value) (K : Int64 → α) (bad : α) : α := match v, w with
  | .long x, .null => K x
  | _, _ => bad
noncomputable def mm_gR (v : Value) (K : Nat → α) (bad : α) : α := match v with
  | .ref x => K x
  | _ => bad
noncomputable def mm_gO (v : Option Nat) (K : Nat → α) (bad : α) : α := match v with
  | some x => K x
  | none => bad
noncomputable def mm_b (b : Bool) (k bad : α) : α := match b with
  | true => k
  | false => bad
noncomputable def mm_e (st : List Value) (k bad : α) : α := match st with
  | [] => k
  | _ => bad
noncomputable def mm_cnd (c : ClassFile.Cond) (x y : Int32) (t e : α) : α := match c with
  | .eq => if x = y then t else e
  | .ne => if x = y then e else t
  | .lt => if x < y then t else e
  | .ge => if y ≤ x then t else e
  | .gt => if y < x then t else e
  | .le => if x ≤ y then t else e
/-- the arguments of a call, the last one on top: how many, what is left -/
noncomputable def mm_pop : Nat → List Value → List Value → (List Value → List Value → α) → α → α
  | 0, as, st, K, _ => K as st
  | n + 1, as, st, K, bad => match st with
    | [] => bad
    | v :: r => mm_pop n (v :: as) r K bad
end MMStep
section MMNat
variable {α β : Type} (φ : α → β)
theorem mm_pI_n (st : List Value) (K : Int32 → List Value → α) (bad : α) : φ (mm_pI st K bad) = mm_pI st (fun x r => φ (K x r)) (φ bad) := by
  unfold mm_pI; split <;> rfl
theorem mm_pL_n (st : List Value) (K : Int64 → List Value → α) (bad : α) : φ (mm_pL st K bad) = mm_pL st (fun x r => φ (K x r)) (φ bad) := by
  unfold mm_pL; split <;> rfl
theorem mm_pR_n (st : List Value) (K : Nat → List Value → α) (bad : α) : φ (mm_pR st K bad) = mm_pR st (fun x r => φ (K x r)) (φ bad) := by
  unfold mm_pR; split <;> rfl
theorem mm_p1_n (st : List Value) (K : Value → List Value → α) (bad : α) : φ (mm_p1 st K bad) = mm_p1 st (fun x r => φ (K x r)) (φ bad) := by
  unfold mm_p1; split <;> rfl
theorem mm_gI_n (v : Value) (K : Int32 → α) (bad : α) : φ (mm_gI v K bad) = mm_gI v (fun x => φ (K x)) (φ bad) := by
  unfold mm_gI; split <;> rfl
theorem mm_gL_n (v w : Value) (K : Int64 → α) (bad : α) : φ (mm_gL v w K bad) = mm_gL v w (fun x => φ (K x)) (φ bad) := by
  unfold mm_gL; split <;> rfl
theorem mm_gR_n (v : Value) (K : Nat → α) (bad : α) : φ (mm_gR v K bad) = mm_gR v (fun x => φ (K x)) (φ bad) := by
  unfold mm_gR; split <;> rfl
theorem mm_gO_n (v : Option Nat) (K : Nat → α) (bad : α) : φ (mm_gO v K bad) = mm_gO v (fun x => φ (K x)) (φ bad) := by
  unfold mm_gO; split <;> rfl
theorem mm_b_n (b : Bool) (k bad : α) : φ (mm_b b k bad) = mm_b b (φ k) (φ bad) := by
  unfold mm_b; split <;> rfl
theorem mm_e_n (st : List Value) (k bad : α) : φ (mm_e st k bad) = mm_e st (φ k) (φ bad) := by
  unfold mm_e; split <;> rfl
theorem mm_cnd_n (c : ClassFile.Cond) (x y : Int32) (t e : α) : φ (mm_cnd c x y t e) = mm_cnd c x y (φ t) (φ e) := by
  cases c <;> simp only [mm_cnd] <;> split <;> rfl
theorem mm_pop_n : ∀ (n : Nat) (as st : List Value) (K : List Value → List Value → α) (bad : α), φ (mm_pop n as st K bad) = mm_pop n as st (fun x r => φ (K x r)) (φ bad)
  | 0, _, _, _, _ => rfl
  | _ + 1, _, [], _, _ => rfl
  | n + 1, as, v :: r, K, bad => mm_pop_n n (v :: as) r K bad
theorem mm_ite_n (c : Prop) [Decidable c] (a b : α) : φ (if c then a else b) = if c then φ a else φ b := by split <;> rfl
end MMNat
/-- ONE STEP of a method at pc, its code's row q -/
noncomputable def mm_stepK (X : mm_X) (q : mm_R) (pc : Nat) (ls st : List Value) (M : mm_M) {α : Type} (K : mm_O → α) (bad : α) : α :=
  let go (st : List Value) : α := K (.inl (pc + q.2.1, ls, st, M))
  let jmp (t : Nat) (st : List Value) : α := K (.inl (t, ls, st, M))
  let ii (f : Int32 → Int32 → Int32) : α := mm_pI st (fun y st => mm_pI st (fun x st => go (.int (f x y) :: st)) bad) bad
  let jj (f : Int64 → Int64 → Int64) : α := mm_pL st (fun y st => mm_pL st (fun x st => go (.long (f x y) :: st)) bad) bad
  let ji (f : Int64 → Int32 → Int64) : α := mm_pI st (fun y st => mm_pL st (fun x st => go (.long (f x y) :: st)) bad) bad
  let call (n : Nat) : α := mm_pop n [] st (fun as st => K (.inr (.inl (q.2.2.1, as, st)))) bad
  match q.1 with
  | .aload k => mm_gR (mm_at ls k) (fun x => go (.ref x :: st)) bad
  | .aload_n k => mm_gR (mm_at ls k) (fun x => go (.ref x :: st)) bad
  | .iload k => mm_gI (mm_at ls k) (fun x => go (.int x :: st)) bad
  | .iload_n k => mm_gI (mm_at ls k) (fun x => go (.int x :: st)) bad
  | .lload k => mm_gL (mm_at ls k) (mm_at ls (k + 1)) (fun x => mm_b (Nat.blt (k + 1) ls.length) (go (.long x :: st)) bad) bad
  | .lload_n k => mm_gL (mm_at ls k) (mm_at ls (k + 1)) (fun x => mm_b (Nat.blt (k + 1) ls.length) (go (.long x :: st)) bad) bad
  | .istore k => mm_pI st (fun x st => mm_b (Nat.blt k ls.length) (K (.inl (pc + q.2.1, mm_set ls k (.int x), st, M))) bad) bad
  | .istore_n k => mm_pI st (fun x st => mm_b (Nat.blt k ls.length) (K (.inl (pc + q.2.1, mm_set ls k (.int x), st, M))) bad) bad
  | .astore k => mm_pR st (fun x st => mm_b (Nat.blt k ls.length) (K (.inl (pc + q.2.1, mm_set ls k (.ref x), st, M))) bad) bad
  | .astore_n k => mm_pR st (fun x st => mm_b (Nat.blt k ls.length) (K (.inl (pc + q.2.1, mm_set ls k (.ref x), st, M))) bad) bad
  | .lstore k => mm_pL st (fun x st => mm_b (Nat.blt (k + 1) ls.length) (K (.inl (pc + q.2.1, mm_set (mm_set ls k (.long x)) (k + 1) .null, st, M))) bad) bad
  | .lstore_n k => mm_pL st (fun x st => mm_b (Nat.blt (k + 1) ls.length) (K (.inl (pc + q.2.1, mm_set (mm_set ls k (.long x)) (k + 1) .null, st, M))) bad) bad
  | .iinc k _ => mm_gI (mm_at ls k) (fun x => mm_b (Nat.blt k ls.length) (K (.inl (pc + q.2.1, mm_set ls k (.int (x + mm_i q.2.2.1 q.2.2.2.1)), st, M))) bad) bad
  | .iconst _ => go (.int (mm_i q.2.2.1 q.2.2.2.1) :: st)
  | .bipush _ => go (.int (mm_i q.2.2.1 q.2.2.2.1) :: st)
  | .sipush _ => go (.int (mm_i q.2.2.1 q.2.2.2.1) :: st)
  | .ldc _ => go (.int (mm_i q.2.2.1 q.2.2.2.1) :: st)
  | .ldc_w _ => go (.int (mm_i q.2.2.1 q.2.2.2.1) :: st)
  | .lconst _ => go (.long (mm_l q.2.2.1 q.2.2.2.1) :: st)
  | .ldc2_w _ => go (.long (mm_l q.2.2.1 q.2.2.2.1) :: st)
  | .iadd => ii (· + ·)
  | .isub => ii (· - ·)
  | .imul => ii (· * ·)
  | .iand => ii (· &&& ·)
  | .ior => ii (· ||| ·)
  | .ixor => ii (· ^^^ ·)
  | .ishl => ii (· <<< ·)
  | .ishr => ii (· >>> ·)
  | .iushr => ii (fun x y => (x.toUInt32 >>> (y.toUInt32 &&& Int32.toUInt32 31)).toInt32)
  | .idiv => mm_pI st (fun y st => mm_pI st (fun x st => if y = 0 then bad else go (.int (x / y) :: st)) bad) bad
  | .irem => mm_pI st (fun y st => mm_pI st (fun x st => if y = 0 then bad else go (.int (x - x / y * y) :: st)) bad) bad
  | .ladd => jj (· + ·)
  | .lsub => jj (· - ·)
  | .lmul => jj (· * ·)
  | .land => jj (· &&& ·)
  | .lor => jj (· ||| ·)
  | .lxor => jj (· ^^^ ·)
  | .ldiv => mm_pL st (fun y st => mm_pL st (fun x st => if y = 0 then bad else go (.long (x / y) :: st)) bad) bad
  | .lshl => ji (fun x y => x <<< (y.toInt64 &&& 63))
  | .lshr => ji (fun x y => x >>> (y.toInt64 &&& 63))
  | .lushr => ji (fun x y => (x.toUInt64 >>> (y.toInt64.toUInt64 &&& Int64.toUInt64 63)).toInt64)
  | .lcmp => mm_pL st (fun y st => mm_pL st (fun x st => go (.int (lg_cmp x y) :: st)) bad) bad
  | .i2l => mm_pI st (fun x st => go (.long x.toInt64 :: st)) bad
  | .l2i => mm_pL st (fun x st => go (.int x.toInt32 :: st)) bad
  | .i2b => mm_pI st (fun x st => go (.int x.toInt8.toInt32 :: st)) bad
  | .dup => mm_p1 st (fun v st => go (v :: v :: st)) bad
  | .pop => mm_p1 st (fun _ st => go st) bad
  | .dup2 => mm_p1 st (fun v st => mm_p1 st (fun w st => go (v :: w :: v :: w :: st)) bad) bad
  | .pop2 => mm_pL st (fun _ st => go st) bad
  | .goto _ => jmp q.2.2.1 st
  | .ifCond c _ => mm_pI st (fun x st => mm_cnd c x 0 (jmp q.2.2.1 st) (go st)) bad
  | .if_icmp c _ => mm_pI st (fun y st => mm_pI st (fun x st => mm_cnd c x y (jmp q.2.2.1 st) (go st)) bad) bad
  | .tableswitch _ lo hi _ => mm_pI st (fun x st => if x.toInt < lo ∨ hi < x.toInt then jmp q.2.2.1 st else mm_gO (q.2.2.2.2[(x.toInt - lo).toNat]?) (fun t => jmp t st) bad) bad
  | .iaload => mm_pI st (fun i st => mm_pR st (fun a st => mm_b (Nat.ble mm_ext a)
      (if i < 0 ∨ (X (a - mm_ext)).1 ≤ i.toNatClampNeg then bad else go (.int ((X (a - mm_ext)).2 i.toNatClampNeg) :: st))
      (mm_b (mm_isObj M a 100) (if i < 0 ∨ M.1.1.2.2 a ≤ i.toNatClampNeg then bad else go (.int (M.2.1 a i.toNatClampNeg) :: st)) bad)) bad) bad
  | .laload => mm_pI st (fun i st => mm_pR st (fun a st => mm_b (mm_isObj M a 101) (if i < 0 ∨ M.1.1.2.2 a ≤ i.toNatClampNeg then bad else go (.long (M.2.2.1 a i.toNatClampNeg) :: st)) bad) bad) bad
  | .baload => mm_pI st (fun i st => mm_pR st (fun a st => mm_b (mm_isObj M a 102 || mm_isObj M a 103) (if i < 0 ∨ M.1.1.2.2 a ≤ i.toNatClampNeg then bad else go (.int (M.2.1 a i.toNatClampNeg) :: st)) bad) bad) bad
  | .aaload => mm_pI st (fun i st => mm_pR st (fun a st => mm_b (mm_isObj M a 104) (if i < 0 ∨ M.1.1.2.2 a ≤ i.toNatClampNeg then bad else mm_gO (M.2.2.2 a i.toNatClampNeg) (fun x => go (.ref x :: st)) bad) bad) bad) bad
  | .iastore => mm_pI st (fun x st => mm_pI st (fun i st => mm_pR st (fun a st => mm_b (mm_isObj M a 100) (if i < 0 ∨ M.1.1.2.2 a ≤ i.toNatClampNeg then bad else K (.inl (pc + q.2.1, ls, st, mm_setI M a i.toNatClampNeg x))) bad) bad) bad) bad
  | .lastore => mm_pL st (fun x st => mm_pI st (fun i st => mm_pR st (fun a st => mm_b (mm_isObj M a 101) (if i < 0 ∨ M.1.1.2.2 a ≤ i.toNatClampNeg then bad else K (.inl (pc + q.2.1, ls, st, mm_setL M a i.toNatClampNeg x))) bad) bad) bad) bad
  | .bastore => mm_pI st (fun x st => mm_pI st (fun i st => mm_pR st (fun a st => mm_b (mm_isObj M a 102) (if i < 0 ∨ M.1.1.2.2 a ≤ i.toNatClampNeg then bad else K (.inl (pc + q.2.1, ls, st, mm_setI M a i.toNatClampNeg (x &&& 1))))
      (mm_b (mm_isObj M a 103) (if i < 0 ∨ M.1.1.2.2 a ≤ i.toNatClampNeg then bad else K (.inl (pc + q.2.1, ls, st, mm_setI M a i.toNatClampNeg x.toInt8.toInt32))) bad)) bad) bad) bad
  | .arraylength => mm_pR st (fun a st => mm_b (Nat.ble mm_ext a) (go (.int (Int32.ofNat (X (a - mm_ext)).1) :: st)) (mm_b (Nat.blt a M.1.1.1 && Nat.ble 100 (M.1.1.2.1 a) && Nat.ble (M.1.1.2.1 a) 104) (go (.int (Int32.ofNat (M.1.1.2.2 a)) :: st)) bad)) bad
  -- a field: a the class, b the field's number, the place 0 its kind
  | .getfield _ => mm_pR st (fun a st => mm_b (mm_isObj M a q.2.2.1) (match q.2.2.2.2 with
      | 0 :: _ => go (.int (M.2.1 a q.2.2.2.1) :: st)
      | 1 :: _ => go (.int (M.2.1 a q.2.2.2.1) :: st)
      | 2 :: _ => go (.long (M.2.2.1 a q.2.2.2.1) :: st)
      | 3 :: _ => mm_gO (M.2.2.2 a q.2.2.2.1) (fun x => go (.ref x :: st)) bad
      | _ => bad) bad) bad
  | .putfield _ => (match q.2.2.2.2 with
      | 0 :: _ => mm_pI st (fun x st => mm_pR st (fun a st => mm_b (mm_isObj M a q.2.2.1) (K (.inl (pc + q.2.1, ls, st, mm_setI M a q.2.2.2.1 x))) bad) bad) bad
      | 1 :: _ => mm_pI st (fun x st => mm_pR st (fun a st => mm_b (mm_isObj M a q.2.2.1) (if x = 0 ∨ x = 1 then K (.inl (pc + q.2.1, ls, st, mm_setI M a q.2.2.2.1 x)) else bad) bad) bad) bad
      | 2 :: _ => mm_pL st (fun x st => mm_pR st (fun a st => mm_b (mm_isObj M a q.2.2.1) (K (.inl (pc + q.2.1, ls, st, mm_setL M a q.2.2.2.1 x))) bad) bad) bad
      | 3 :: _ => mm_pR st (fun x st => mm_pR st (fun a st => mm_b (mm_isObj M a q.2.2.1) (mm_b (Nat.blt x M.1.1.1) (K (.inl (pc + q.2.1, ls, st, mm_setR M a q.2.2.2.1 (some x)))) bad) bad) bad) bad
      | _ => bad)
  | .getstatic _ => go (.ref (mm_ext + q.2.2.1) :: st)
  -- a the class, b how many fields
  | .new _ => mm_b (Nat.beq M.1.2.2.2 0 && Nat.blt M.1.1.1 900000) (K (.inl (pc + q.2.1, ls, .ref M.1.1.1 :: st, mm_new M q.2.2.1 0 q.2.2.2.1))) bad
  | .newarray _ => mm_pI st (fun n st => if n < 0 ∨ 1000 < n.toNatClampNeg then bad else mm_b (Nat.beq M.1.2.2.2 0 && Nat.blt M.1.1.1 900000) (K (.inl (pc + q.2.1, ls, .ref M.1.1.1 :: st, mm_new M q.2.2.1 n.toNatClampNeg n.toNatClampNeg))) bad) bad
  | .multianewarray _ _ => mm_pI st (fun k st => mm_pI st (fun n st => if n < 0 ∨ 1000 < n.toNatClampNeg ∨ k < 0 ∨ 1000 < k.toNatClampNeg then bad else mm_b (Nat.beq M.1.2.2.2 0 && Nat.blt M.1.1.1 900000) (K (.inl (pc + q.2.1, ls, .ref M.1.1.1 :: st, mm_multi M n.toNatClampNeg k.toNatClampNeg))) bad) bad) bad
  -- a the callee, b how many values are taken off the stack
  | .invokevirtual _ => call q.2.2.2.1
  | .invokespecial _ => mm_b (Nat.beq q.2.2.1 999) (mm_pR st (fun _ st => mm_e st (go st) bad) bad) (call q.2.2.2.1)
  | .invokestatic _ => mm_b (Nat.beq q.2.2.1 996) (mm_pI st (fun y st => mm_pI st (fun x st => mm_b (Nat.ble (st.map fun v => v.category).sum 100) (go (.int (if y < x then y else x) :: st)) bad) bad) bad)
      (mm_b (Nat.beq q.2.2.1 997) (mm_pI st (fun y st => mm_pI st (fun x st => mm_b (Nat.ble (st.map fun v => v.category).sum 100) (go (.int (if x < y then y else x) :: st)) bad) bad) bad) (call q.2.2.2.1))
  -- a: 1 if a boolean is returned
  | .ireturn => mm_pI st (fun x st => mm_e st (match q.2.2.1 with
      | 0 => K (.inr (.inr (some (.int x))))
      | _ => if x = 0 ∨ x = 1 then K (.inr (.inr (some (.int x)))) else bad) bad) bad
  | .lreturn => mm_pL st (fun x st => mm_e st (K (.inr (.inr (some (.long x))))) bad) bad
  | .return_ => mm_e st (K (.inr (.inr none))) bad
  | _ => bad
noncomputable def mm_step (X : mm_X) (q : mm_R) (pc : Nat) (ls st : List Value) (M : mm_M) : Option mm_O := mm_stepK X q pc ls st M some none
set_option maxHeartbeats 4000000 in
theorem mm_stepK_n (X : mm_X) (q : mm_R) (pc : Nat) (ls st : List Value) (M : mm_M) {α β : Type} (φ : α → β) (K : mm_O → α) (bad : α) : φ (mm_stepK X q pc ls st M K bad) = mm_stepK X q pc ls st M (fun o => φ (K o)) (φ bad) := by
  obtain ⟨i, len, a, b, ps⟩ := q
  cases i <;> first
    | rfl
    | (simp only [mm_stepK, mm_pI_n φ, mm_pL_n φ, mm_pR_n φ, mm_p1_n φ, mm_gI_n φ, mm_gL_n φ, mm_gR_n φ, mm_gO_n φ, mm_b_n φ, mm_e_n φ, mm_cnd_n φ, mm_pop_n φ, mm_ite_n φ]; done)
    | (simp only [mm_stepK]; split <;> simp only [mm_pI_n φ, mm_pL_n φ, mm_pR_n φ, mm_p1_n φ, mm_gI_n φ, mm_gL_n φ, mm_gR_n φ, mm_gO_n φ, mm_b_n φ, mm_e_n φ, mm_cnd_n φ, mm_pop_n φ, mm_ite_n φ]; done)
    | (simp only [mm_stepK, mm_pI_n φ, mm_pL_n φ, mm_pR_n φ, mm_p1_n φ, mm_gI_n φ, mm_gL_n φ, mm_gR_n φ, mm_gO_n φ, mm_b_n φ, mm_e_n φ, mm_cnd_n φ, mm_pop_n φ, mm_ite_n φ]; split <;> simp only [mm_pI_n φ, mm_pL_n φ, mm_pR_n φ, mm_p1_n φ, mm_gI_n φ, mm_gL_n φ, mm_gR_n φ, mm_gO_n φ, mm_b_n φ, mm_e_n φ, mm_cnd_n φ, mm_pop_n φ, mm_ite_n φ])
