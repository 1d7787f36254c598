/-! A STEP OF EACH KIND, told by its answer -/
section TO
variable {X : mm_X} {d mi pc : Nat} {ls st : List Value} {M : mm_M} {Q : Option Value → mm_M → Prop} {len a b : Nat} {ps : List Nat}
theorem to_a {k x : Nat} (hc : mm_code mi pc = some (.aload k, len, a, b, ps)) (hv : mm_at ls k = .ref x) (h : mm_T X d mi (pc + len) ls (.ref x :: st) M Q) : mm_T X d mi pc ls st M Q := tt_1 hc (by
  show mm_gR (mm_at ls k) (fun x => mm_T X d mi (pc + len) ls (.ref x :: st) M Q) False
  rw [hv]; exact h)
theorem to_an {k : Fin 4} {x : Nat} (hc : mm_code mi pc = some (.aload_n k, len, a, b, ps)) (hv : mm_at ls k = .ref x) (h : mm_T X d mi (pc + len) ls (.ref x :: st) M Q) : mm_T X d mi pc ls st M Q := tt_1 hc (by
  show mm_gR (mm_at ls k) (fun x => mm_T X d mi (pc + len) ls (.ref x :: st) M Q) False
  rw [hv]; exact h)
theorem to_i {k : Nat} {x : Int32} (hc : mm_code mi pc = some (.iload k, len, a, b, ps)) (hv : mm_at ls k = .int x) (h : mm_T X d mi (pc + len) ls (.int x :: st) M Q) : mm_T X d mi pc ls st M Q := tt_1 hc (by
  show mm_gI (mm_at ls k) (fun x => mm_T X d mi (pc + len) ls (.int x :: st) M Q) False
  rw [hv]; exact h)
theorem to_in {k : Fin 4} {x : Int32} (hc : mm_code mi pc = some (.iload_n k, len, a, b, ps)) (hv : mm_at ls k = .int x) (h : mm_T X d mi (pc + len) ls (.int x :: st) M Q) : mm_T X d mi pc ls st M Q := tt_1 hc (by
  show mm_gI (mm_at ls k) (fun x => mm_T X d mi (pc + len) ls (.int x :: st) M Q) False
  rw [hv]; exact h)
theorem to_l {k : Nat} {x : Int64} (hc : mm_code mi pc = some (.lload k, len, a, b, ps)) (hv : mm_at ls k = .long x) (hw : mm_at ls (k + 1) = .null) (hn : Nat.blt (k + 1) ls.length = true) (h : mm_T X d mi (pc + len) ls (.long x :: st) M Q) : mm_T X d mi pc ls st M Q := tt_1 hc (by
  show mm_gL (mm_at ls k) (mm_at ls (k + 1)) (fun x => mm_b (Nat.blt (k + 1) ls.length) (mm_T X d mi (pc + len) ls (.long x :: st) M Q) False) False
  rw [hv, hw, hn]; exact h)
theorem to_ln {k : Fin 4} {x : Int64} (hc : mm_code mi pc = some (.lload_n k, len, a, b, ps)) (hv : mm_at ls k = .long x) (hw : mm_at ls (k + 1) = .null) (hn : Nat.blt (k + 1) ls.length = true) (h : mm_T X d mi (pc + len) ls (.long x :: st) M Q) : mm_T X d mi pc ls st M Q := tt_1 hc (by
  show mm_gL (mm_at ls k) (mm_at ls (k + 1)) (fun x => mm_b (Nat.blt (k + 1) ls.length) (mm_T X d mi (pc + len) ls (.long x :: st) M Q) False) False
  rw [hv, hw, hn]; exact h)
theorem to_is {k : Nat} {x : Int32} {ls2 : List Value} (hc : mm_code mi pc = some (.istore k, len, a, b, ps)) (hn : Nat.blt k ls.length = true) (hs : mm_set ls k (.int x) = ls2) (h : mm_T X d mi (pc + len) ls2 st M Q) : mm_T X d mi pc ls (.int x :: st) M Q := tt_1 hc (by
  show mm_b (Nat.blt k ls.length) (mm_T X d mi (pc + len) (mm_set ls k (.int x)) st M Q) False
  rw [hn, hs]; exact h)
theorem to_isn {k : Fin 4} {x : Int32} {ls2 : List Value} (hc : mm_code mi pc = some (.istore_n k, len, a, b, ps)) (hn : Nat.blt k ls.length = true) (hs : mm_set ls k (.int x) = ls2) (h : mm_T X d mi (pc + len) ls2 st M Q) : mm_T X d mi pc ls (.int x :: st) M Q := tt_1 hc (by
  show mm_b (Nat.blt k ls.length) (mm_T X d mi (pc + len) (mm_set ls k (.int x)) st M Q) False
  rw [hn, hs]; exact h)
theorem to_as {k x : Nat} {ls2 : List Value} (hc : mm_code mi pc = some (.astore k, len, a, b, ps)) (hn : Nat.blt k ls.length = true) (hs : mm_set ls k (.ref x) = ls2) (h : mm_T X d mi (pc + len) ls2 st M Q) : mm_T X d mi pc ls (.ref x :: st) M Q := tt_1 hc (by
  show mm_b (Nat.blt k ls.length) (mm_T X d mi (pc + len) (mm_set ls k (.ref x)) st M Q) False
  rw [hn, hs]; exact h)
theorem to_asn {k : Fin 4} {x : Nat} {ls2 : List Value} (hc : mm_code mi pc = some (.astore_n k, len, a, b, ps)) (hn : Nat.blt k ls.length = true) (hs : mm_set ls k (.ref x) = ls2) (h : mm_T X d mi (pc + len) ls2 st M Q) : mm_T X d mi pc ls (.ref x :: st) M Q := tt_1 hc (by
  show mm_b (Nat.blt k ls.length) (mm_T X d mi (pc + len) (mm_set ls k (.ref x)) st M Q) False
  rw [hn, hs]; exact h)
theorem to_ls {k : Nat} {x : Int64} {ls2 : List Value} (hc : mm_code mi pc = some (.lstore k, len, a, b, ps)) (hn : Nat.blt (k + 1) ls.length = true) (hs : mm_set (mm_set ls k (.long x)) (k + 1) .null = ls2) (h : mm_T X d mi (pc + len) ls2 st M Q) : mm_T X d mi pc ls (.long x :: st) M Q := tt_1 hc (by
  show mm_b (Nat.blt (k + 1) ls.length) (mm_T X d mi (pc + len) (mm_set (mm_set ls k (.long x)) (k + 1) .null) st M Q) False
  rw [hn, hs]; exact h)
theorem to_lsn {k : Fin 4} {x : Int64} {ls2 : List Value} (hc : mm_code mi pc = some (.lstore_n k, len, a, b, ps)) (hn : Nat.blt (k + 1) ls.length = true) (hs : mm_set (mm_set ls k (.long x)) (k + 1) .null = ls2) (h : mm_T X d mi (pc + len) ls2 st M Q) : mm_T X d mi pc ls (.long x :: st) M Q := tt_1 hc (by
  show mm_b (Nat.blt (k + 1) ls.length) (mm_T X d mi (pc + len) (mm_set (mm_set ls k (.long x)) (k + 1) .null) st M Q) False
  rw [hn, hs]; exact h)
theorem to_inc {k : Nat} {n : Int} {x : Int32} {ls2 : List Value} (hc : mm_code mi pc = some (.iinc k n, len, a, b, ps)) (hv : mm_at ls k = .int x) (hn : Nat.blt k ls.length = true) (hs : mm_set ls k (.int (x + mm_i a b)) = ls2) (h : mm_T X d mi (pc + len) ls2 st M Q) : mm_T X d mi pc ls st M Q := tt_1 hc (by
  show mm_gI (mm_at ls k) (fun x => mm_b (Nat.blt k ls.length) (mm_T X d mi (pc + len) (mm_set ls k (.int (x + mm_i a b))) st M Q) False) False
  rw [hv]
  show mm_b (Nat.blt k ls.length) (mm_T X d mi (pc + len) (mm_set ls k (.int (x + mm_i a b))) st M Q) False
  rw [hn, hs]; exact h)
/-- a constant -/
noncomputable def mm_isC : Instr → Bool
  | .iconst _ => true
  | .bipush _ => true
  | .sipush _ => true
  | .ldc _ => true
  | .ldc_w _ => true
  | _ => false
theorem to_c {i : Instr} {x : Int32} (hc : mm_code mi pc = some (i, len, a, b, ps)) (hi : mm_isC i = true) (hv : mm_i a b = x) (h : mm_T X d mi (pc + len) ls (.int x :: st) M Q) : mm_T X d mi pc ls st M Q := tt_1 hc (by
  have h2 : mm_T X d mi (pc + len) ls (.int (mm_i a b) :: st) M Q := by rw [hv]; exact h
  cases i <;> first | exact h2 | cases hi)
noncomputable def mm_isCl : Instr → Bool
  | .lconst _ => true
  | .ldc2_w _ => true
  | _ => false
theorem to_cl {i : Instr} {x : Int64} (hc : mm_code mi pc = some (i, len, a, b, ps)) (hi : mm_isCl i = true) (hv : mm_l a b = x) (h : mm_T X d mi (pc + len) ls (.long x :: st) M Q) : mm_T X d mi pc ls st M Q := tt_1 hc (by
  have h2 : mm_T X d mi (pc + len) ls (.long (mm_l a b) :: st) M Q := by rw [hv]; exact h
  cases i <;> first | exact h2 | cases hi)
/-- two ints -/
noncomputable def mm_op2 : Instr → Int32 → Int32 → Option Int32
  | .iadd, x, y => some (x + y)
  | .isub, x, y => some (x - y)
  | .imul, x, y => some (x * y)
  | .iand, x, y => some (x &&& y)
  | .ior, x, y => some (x ||| y)
  | .ixor, x, y => some (x ^^^ y)
  | .ishl, x, y => some (x <<< y)
  | .ishr, x, y => some (x >>> y)
  | .iushr, x, y => some (x.toUInt32 >>> (y.toUInt32 &&& Int32.toUInt32 31)).toInt32
  | .idiv, x, y => if y = 0 then none else some (x / y)
  | .irem, x, y => if y = 0 then none else some (x - x / y * y)
  | _, _, _ => none
theorem to_2 {i : Instr} {x y v : Int32} (hc : mm_code mi pc = some (i, len, a, b, ps)) (hv : mm_op2 i x y = some v) (h : mm_T X d mi (pc + len) ls (.int v :: st) M Q) : mm_T X d mi pc ls (.int y :: .int x :: st) M Q := tt_1 hc (by
  cases i with
  | iadd => cases hv; exact h
  | isub => cases hv; exact h
  | imul => cases hv; exact h
  | iand => cases hv; exact h
  | ior => cases hv; exact h
  | ixor => cases hv; exact h
  | ishl => cases hv; exact h
  | ishr => cases hv; exact h
  | iushr => cases hv; exact h
  | idiv =>
    show (if y = 0 then False else mm_T X d mi (pc + len) ls (.int (x / y) :: st) M Q)
    have hv : (if y = 0 then none else some (x / y)) = some v := hv
    by_cases hy : y = 0
    · rw [if_pos hy] at hv; cases hv
    · rw [if_neg hy] at hv ⊢; cases hv; exact h
  | irem =>
    show (if y = 0 then False else mm_T X d mi (pc + len) ls (.int (x - x / y * y) :: st) M Q)
    have hv : (if y = 0 then none else some (x - x / y * y)) = some v := hv
    by_cases hy : y = 0
    · rw [if_pos hy] at hv; cases hv
    · rw [if_neg hy] at hv ⊢; cases hv; exact h
  | _ => cases hv)
noncomputable def mm_opL : Instr → Int64 → Int64 → Option Int64
  | .ladd, x, y => some (x + y)
  | .lsub, x, y => some (x - y)
  | .lmul, x, y => some (x * y)
  | .land, x, y => some (x &&& y)
  | .lor, x, y => some (x ||| y)
  | .lxor, x, y => some (x ^^^ y)
  | _, _, _ => none
theorem to_2l {i : Instr} {x y v : Int64} (hc : mm_code mi pc = some (i, len, a, b, ps)) (hv : mm_opL i x y = some v) (h : mm_T X d mi (pc + len) ls (.long v :: st) M Q) : mm_T X d mi pc ls (.long y :: .long x :: st) M Q := tt_1 hc (by
  cases i with
  | ladd => cases hv; exact h
  | lsub => cases hv; exact h
  | lmul => cases hv; exact h
  | land => cases hv; exact h
  | lor => cases hv; exact h
  | lxor => cases hv; exact h
  | _ => cases hv)
noncomputable def mm_opS : Instr → Int64 → Int32 → Option Int64
  | .lshl, x, y => some (x <<< (y.toInt64 &&& 63))
  | .lshr, x, y => some (x >>> (y.toInt64 &&& 63))
  | .lushr, x, y => some (x.toUInt64 >>> (y.toInt64.toUInt64 &&& Int64.toUInt64 63)).toInt64
  | _, _, _ => none
theorem to_2s {i : Instr} {x v : Int64} {y : Int32} (hc : mm_code mi pc = some (i, len, a, b, ps)) (hv : mm_opS i x y = some v) (h : mm_T X d mi (pc + len) ls (.long v :: st) M Q) : mm_T X d mi pc ls (.int y :: .long x :: st) M Q := tt_1 hc (by
  cases i with
  | lshl => cases hv; exact h
  | lshr => cases hv; exact h
  | lushr => cases hv; exact h
  | _ => cases hv)
theorem to_lc {x y : Int64} {v : Int32} (hc : mm_code mi pc = some (.lcmp, len, a, b, ps)) (hv : lg_cmp x y = v) (h : mm_T X d mi (pc + len) ls (.int v :: st) M Q) : mm_T X d mi pc ls (.long y :: .long x :: st) M Q := tt_1 hc (by
  show mm_T X d mi (pc + len) ls (.int (lg_cmp x y) :: st) M Q
  rw [hv]; exact h)
theorem to_i2l {x : Int32} {v : Int64} (hc : mm_code mi pc = some (.i2l, len, a, b, ps)) (hv : x.toInt64 = v) (h : mm_T X d mi (pc + len) ls (.long v :: st) M Q) : mm_T X d mi pc ls (.int x :: st) M Q := tt_1 hc (by
  show mm_T X d mi (pc + len) ls (.long x.toInt64 :: st) M Q
  rw [hv]; exact h)
theorem to_l2i {x : Int64} {v : Int32} (hc : mm_code mi pc = some (.l2i, len, a, b, ps)) (hv : x.toInt32 = v) (h : mm_T X d mi (pc + len) ls (.int v :: st) M Q) : mm_T X d mi pc ls (.long x :: st) M Q := tt_1 hc (by
  show mm_T X d mi (pc + len) ls (.int x.toInt32 :: st) M Q
  rw [hv]; exact h)
theorem to_i2b {x v : Int32} (hc : mm_code mi pc = some (.i2b, len, a, b, ps)) (hv : x.toInt8.toInt32 = v) (h : mm_T X d mi (pc + len) ls (.int v :: st) M Q) : mm_T X d mi pc ls (.int x :: st) M Q := tt_1 hc (by
  show mm_T X d mi (pc + len) ls (.int x.toInt8.toInt32 :: st) M Q
  rw [hv]; exact h)
theorem to_dupi {x : Int32} (hc : mm_code mi pc = some (.dup, len, a, b, ps)) (h : mm_T X d mi (pc + len) ls (.int x :: .int x :: st) M Q) : mm_T X d mi pc ls (.int x :: st) M Q := tt_1 hc h
theorem to_dupr {x : Nat} (hc : mm_code mi pc = some (.dup, len, a, b, ps)) (h : mm_T X d mi (pc + len) ls (.ref x :: .ref x :: st) M Q) : mm_T X d mi pc ls (.ref x :: st) M Q := tt_1 hc h
theorem to_dup2 {x : Int32} {y : Nat} (hc : mm_code mi pc = some (.dup2, len, a, b, ps)) (h : mm_T X d mi (pc + len) ls (.int x :: .ref y :: .int x :: .ref y :: st) M Q) : mm_T X d mi pc ls (.int x :: .ref y :: st) M Q := tt_1 hc h
theorem to_popi {x : Int32} (hc : mm_code mi pc = some (.pop, len, a, b, ps)) (h : mm_T X d mi (pc + len) ls st M Q) : mm_T X d mi pc ls (.int x :: st) M Q := tt_1 hc h
theorem to_popr {x : Nat} (hc : mm_code mi pc = some (.pop, len, a, b, ps)) (h : mm_T X d mi (pc + len) ls st M Q) : mm_T X d mi pc ls (.ref x :: st) M Q := tt_1 hc h
theorem to_go {o : Int} (hc : mm_code mi pc = some (.goto o, len, a, b, ps)) (h : mm_T X d mi a ls st M Q) : mm_T X d mi pc ls st M Q := tt_1 hc h
/-- a branch -/
noncomputable def mm_cd (c : ClassFile.Cond) (x y : Int32) : Bool := match c with
  | .eq => decide (x = y)
  | .ne => !decide (x = y)
  | .lt => decide (x < y)
  | .ge => decide (y ≤ x)
  | .gt => decide (y < x)
  | .le => decide (x ≤ y)
theorem mm_cd_t {c : ClassFile.Cond} {x y : Int32} {t e : Prop} (h : mm_cd c x y = true) (k : t) : mm_cnd c x y t e := by
  cases c <;> simp only [mm_cd, decide_eq_true_eq, Bool.not_eq_true', decide_eq_false_iff_not] at h <;> simp only [mm_cnd] <;> first | rw [if_pos h]; exact k | rw [if_neg h]; exact k
theorem mm_cd_f {c : ClassFile.Cond} {x y : Int32} {t e : Prop} (h : mm_cd c x y = false) (k : e) : mm_cnd c x y t e := by
  cases c <;> simp only [mm_cd, decide_eq_false_iff_not, Bool.not_eq_false', decide_eq_true_eq] at h <;> simp only [mm_cnd] <;> first | rw [if_neg h]; exact k | rw [if_pos h]; exact k
theorem to_ift {c : ClassFile.Cond} {o : Int} {x : Int32} (hc : mm_code mi pc = some (.ifCond c o, len, a, b, ps)) (hv : mm_cd c x 0 = true) (h : mm_T X d mi a ls st M Q) : mm_T X d mi pc ls (.int x :: st) M Q := tt_if hc (mm_cd_t hv h)
theorem to_iff {c : ClassFile.Cond} {o : Int} {x : Int32} (hc : mm_code mi pc = some (.ifCond c o, len, a, b, ps)) (hv : mm_cd c x 0 = false) (h : mm_T X d mi (pc + len) ls st M Q) : mm_T X d mi pc ls (.int x :: st) M Q := tt_if hc (mm_cd_f hv h)
theorem to_ict {c : ClassFile.Cond} {o : Int} {x y : Int32} (hc : mm_code mi pc = some (.if_icmp c o, len, a, b, ps)) (hv : mm_cd c x y = true) (h : mm_T X d mi a ls st M Q) : mm_T X d mi pc ls (.int y :: .int x :: st) M Q := tt_ic hc (mm_cd_t hv h)
theorem to_icf {c : ClassFile.Cond} {o : Int} {x y : Int32} (hc : mm_code mi pc = some (.if_icmp c o, len, a, b, ps)) (hv : mm_cd c x y = false) (h : mm_T X d mi (pc + len) ls st M Q) : mm_T X d mi pc ls (.int y :: .int x :: st) M Q := tt_ic hc (mm_cd_f hv h)
theorem to_swd {o lo hi : Int} {os : Array Int} {x : Int32} (hc : mm_code mi pc = some (.tableswitch o lo hi os, len, a, b, ps)) (hv : x.toInt < lo ∨ hi < x.toInt) (h : mm_T X d mi a ls st M Q) : mm_T X d mi pc ls (.int x :: st) M Q := tt_1 hc (by
  show (if x.toInt < lo ∨ hi < x.toInt then mm_T X d mi a ls st M Q else _)
  rw [if_pos hv]; exact h)
theorem to_sw {o lo hi : Int} {os : Array Int} {x : Int32} {t : Nat} (hc : mm_code mi pc = some (.tableswitch o lo hi os, len, a, b, ps)) (hv : ¬ (x.toInt < lo ∨ hi < x.toInt)) (ht : ps[(x.toInt - lo).toNat]? = some t) (h : mm_T X d mi t ls st M Q) : mm_T X d mi pc ls (.int x :: st) M Q := tt_1 hc (by
  show (if x.toInt < lo ∨ hi < x.toInt then mm_T X d mi a ls st M Q else mm_gO (ps[(x.toInt - lo).toNat]?) (fun t => mm_T X d mi t ls st M Q) False)
  rw [if_neg hv, ht]; exact h)
/-- rows -/
theorem to_lal {x : Nat} {i : Int32} {v : Int64} (hc : mm_code mi pc = some (.laload, len, a, b, ps)) (ho : mm_isObj M x 101 = true) (hi : ¬ (i < 0 ∨ M.1.1.2.2 x ≤ i.toNatClampNeg)) (hv : M.2.2.1 x i.toNatClampNeg = v) (h : mm_T X d mi (pc + len) ls (.long v :: st) M Q) : mm_T X d mi pc ls (.int i :: .ref x :: st) M Q := tt_1 hc (by
  show mm_b (mm_isObj M x 101) (if i < 0 ∨ M.1.1.2.2 x ≤ i.toNatClampNeg then False else (mm_T X d mi (pc + len) ls (.long (M.2.2.1 x i.toNatClampNeg) :: st) M Q)) False
  rw [ho]
  show (if i < 0 ∨ M.1.1.2.2 x ≤ i.toNatClampNeg then False else (mm_T X d mi (pc + len) ls (.long (M.2.2.1 x i.toNatClampNeg) :: st) M Q))
  rw [if_neg hi, hv]; exact h)
theorem to_bal {x : Nat} {i v : Int32} (hc : mm_code mi pc = some (.baload, len, a, b, ps)) (ho : (mm_isObj M x 102 || mm_isObj M x 103) = true) (hi : ¬ (i < 0 ∨ M.1.1.2.2 x ≤ i.toNatClampNeg)) (hv : M.2.1 x i.toNatClampNeg = v) (h : mm_T X d mi (pc + len) ls (.int v :: st) M Q) : mm_T X d mi pc ls (.int i :: .ref x :: st) M Q := tt_1 hc (by
  show mm_b (mm_isObj M x 102 || mm_isObj M x 103) (if i < 0 ∨ M.1.1.2.2 x ≤ i.toNatClampNeg then False else (mm_T X d mi (pc + len) ls (.int (M.2.1 x i.toNatClampNeg) :: st) M Q)) False
  rw [ho]
  show (if i < 0 ∨ M.1.1.2.2 x ≤ i.toNatClampNeg then False else (mm_T X d mi (pc + len) ls (.int (M.2.1 x i.toNatClampNeg) :: st) M Q))
  rw [if_neg hi, hv]; exact h)
theorem to_ias {x : Nat} {i v : Int32} {k : Nat} (hc : mm_code mi pc = some (.iastore, len, a, b, ps)) (ho : mm_isObj M x 100 = true) (hi : ¬ (i < 0 ∨ M.1.1.2.2 x ≤ i.toNatClampNeg)) (hk : i.toNatClampNeg = k) (h : mm_T X d mi (pc + len) ls st (mm_setI M x k v) Q) : mm_T X d mi pc ls (.int v :: .int i :: .ref x :: st) M Q := tt_1 hc (by
  show mm_b (mm_isObj M x 100) (if i < 0 ∨ M.1.1.2.2 x ≤ i.toNatClampNeg then False else (mm_T X d mi (pc + len) ls st (mm_setI M x i.toNatClampNeg v) Q)) False
  rw [ho]
  show (if i < 0 ∨ M.1.1.2.2 x ≤ i.toNatClampNeg then False else (mm_T X d mi (pc + len) ls st (mm_setI M x i.toNatClampNeg v) Q))
  rw [if_neg hi, hk]; exact h)
theorem to_bas {x : Nat} {i v w : Int32} {k : Nat} (hc : mm_code mi pc = some (.bastore, len, a, b, ps)) (h2 : mm_isObj M x 102 = false) (ho : mm_isObj M x 103 = true) (hi : ¬ (i < 0 ∨ M.1.1.2.2 x ≤ i.toNatClampNeg)) (hk : i.toNatClampNeg = k) (hw : v.toInt8.toInt32 = w) (h : mm_T X d mi (pc + len) ls st (mm_setI M x k w) Q) : mm_T X d mi pc ls (.int v :: .int i :: .ref x :: st) M Q := tt_1 hc (by
  show mm_b (mm_isObj M x 102) _ (mm_b (mm_isObj M x 103) (if i < 0 ∨ M.1.1.2.2 x ≤ i.toNatClampNeg then False else (mm_T X d mi (pc + len) ls st (mm_setI M x i.toNatClampNeg v.toInt8.toInt32) Q)) False)
  rw [h2, ho]
  show (if i < 0 ∨ M.1.1.2.2 x ≤ i.toNatClampNeg then False else (mm_T X d mi (pc + len) ls st (mm_setI M x i.toNatClampNeg v.toInt8.toInt32) Q))
  rw [if_neg hi, hk, hw]; exact h)
/-- returns -/
theorem to_r0 {v : Int32} (hc : mm_code mi pc = some (.ireturn, len, 0, b, ps)) (h : Q (some (.int v)) M) : mm_T X d mi pc ls [.int v] M Q := tt_1 hc h
theorem to_r1 {v : Int32} (hc : mm_code mi pc = some (.ireturn, len, 1, b, ps)) (hv : v = 0 ∨ v = 1) (h : Q (some (.int v)) M) : mm_T X d mi pc ls [.int v] M Q := tt_1 hc (by
  show (if v = 0 ∨ v = 1 then Q (some (.int v)) M else False)
  rw [if_pos hv]; exact h)
theorem to_rl {v : Int64} (hc : mm_code mi pc = some (.lreturn, len, a, b, ps)) (h : Q (some (.long v)) M) : mm_T X d mi pc ls [.long v] M Q := tt_1 hc h
theorem to_rv (hc : mm_code mi pc = some (.return_, len, a, b, ps)) (h : Q none M) : mm_T X d mi pc ls [] M Q := tt_1 hc h
/-- calls -/
theorem to_rc {y o : Nat} {t : List Value} (h1 : (mm_okv t && Nat.ble (mm_sl t).length (mm_mx y - 1)) = true) (h0 : Nat.ble 1 (mm_mx y) = true) (h2 : Nat.beq (mm_kc y) 99 = false) (h3 : mm_isObj M o (mm_kc y) = true) : mm_rc M y (.ref o :: t) = true := by
  rw [Bool.and_eq_true] at h1
  have e1 := Nat.le_of_ble_eq_true h1.2
  have e2 := Nat.le_of_ble_eq_true h0
  have e3 : Nat.ble (mm_sl (.ref o :: t)).length (mm_mx y) = true := Nat.ble_eq_true_of_le (show (mm_sl t).length + 1 ≤ mm_mx y by omega)
  unfold mm_rc
  rw [h2, cond_false, e3]
  show (mm_okv t && true && mm_isObj M o (mm_kc y)) = true
  rw [h1.1, h3]; rfl
theorem to_rcs {y : Nat} {t : List Value} (h1 : (mm_okv t && Nat.ble (mm_sl t).length (mm_mx y)) = true) (h2 : Nat.beq (mm_kc y) 99 = true) : mm_rc M y t = true := by
  unfold mm_rc
  rw [h1, h2]; rfl
/-- a method that is called, by its instruction -/
noncomputable def mm_isV : Instr → Bool
  | .invokevirtual _ => true
  | _ => false
theorem to_v {i : Instr} {y n : Nat} {as st0 rest ls0 : List Value} (hc : mm_code mi pc = some (i, len, y, n, ps)) (hi : mm_isV i = true) (hp : mm_pop n [] st0 (fun x r => (x, r)) ([], []) = (as, rest)) (hn : n ≤ st0.length) (h8 : mm_w8 rest ≤ 8) (hy : Nat.beq y 998 = false) (hrc : mm_rc M y as = true) (he : mm_entry y as = ls0) (h : mm_T X d y 0 ls0 [] M (fun r1 M1 => mm_T X (d + 1) mi (pc + 3) ls (r1.toList ++ rest) M1 Q)) : mm_T X (d + 1) mi pc ls st0 M Q := tt_1 hc (by
  have key : ∀ (n : Nat) (as0 st : List Value) (K : List Value → List Value → Prop), n ≤ st.length → K (mm_pop n as0 st (fun x r => (x, r)) ([], [])).1 (mm_pop n as0 st (fun x r => (x, r)) ([], [])).2 → mm_pop n as0 st K False := by
    intro n
    induction n with
    | zero => intro as0 st K _ hk; exact hk
    | succ n ih =>
      intro as0 st K hl hk
      match st, hl, hk with
      | v :: r, hl, hk => exact ih (v :: as0) r K (by simpa using hl) hk
  have h9 := tt_call (X := X) (d := d) (mi := mi) (pc := pc) (ls := ls) (Q := Q) h8 hy hrc he h
  cases i with
  | invokevirtual k => exact key n [] st0 (fun as st => tt_C X (d + 1) mi pc ls M Q y as st) hn (by rw [hp]; exact h9)
  | _ => cases hi)
end TO
section RD
variable {M : mm_M} {a i b j : Nat}
theorem rI_e {x : Int32} : (mm_setI M a i x).2.1 a i = x := by show (if a = a ∧ i = i then x else _) = x; rw [if_pos ⟨rfl, rfl⟩]
theorem rI_n {x v : Int32} (h : (Nat.beq b a && Nat.beq j i) = false) (hv : M.2.1 b j = v) : (mm_setI M a i x).2.1 b j = v := by
  show (if b = a ∧ j = i then x else M.2.1 b j) = v
  rw [if_neg (fun z => by rw [z.1, z.2] at h; simp at h)]; exact hv
end RD
