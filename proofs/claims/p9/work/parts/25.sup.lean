section
/-! STEPS, with numbers told by what they are as integers; every memory is a variable -/
theorem i_of {x : Int32} : -2147483648 ≤ x.toInt ∧ x.toInt ≤ 2147483647 := ⟨Int32.le_toInt x, by have := Int32.toInt_lt x; omega⟩
theorem i_bm {z : Int} (h : -2147483648 ≤ z ∧ z ≤ 2147483647) : z.bmod (2 ^ 32) = z := by
  rw [Int.bmod_eq_of_le] <;> omega
theorem i_add {x y : Int32} {A B : Int} (ex : x.toInt = A) (ey : y.toInt = B) (h : -2147483648 ≤ A + B ∧ A + B ≤ 2147483647) : (x + y).toInt = A + B := by
  rw [Int32.toInt_add, ex, ey, i_bm h]
theorem i_sub {x y : Int32} {A B : Int} (ex : x.toInt = A) (ey : y.toInt = B) (h : -2147483648 ≤ A - B ∧ A - B ≤ 2147483647) : (x - y).toInt = A - B := by
  rw [Int32.toInt_sub, ex, ey, i_bm h]
theorem i_mul {x y : Int32} {A B : Int} (ex : x.toInt = A) (ey : y.toInt = B) (h : -2147483648 ≤ A * B ∧ A * B ≤ 2147483647) : (x * y).toInt = A * B := by
  rw [Int32.toInt_mul, ex, ey, i_bm h]
theorem i_lt {x y : Int32} {A B : Int} (ex : x.toInt = A) (ey : y.toInt = B) : x < y ↔ A < B := by rw [Int32.lt_iff_toInt_lt, ex, ey]
theorem i_le {x y : Int32} {A B : Int} (ex : x.toInt = A) (ey : y.toInt = B) : x ≤ y ↔ A ≤ B := by rw [Int32.le_iff_toInt_le, ex, ey]
theorem i_eq {x y : Int32} {A B : Int} (ex : x.toInt = A) (ey : y.toInt = B) : x = y ↔ A = B := by rw [← Int32.toInt_inj, ex, ey]
theorem i_and {x y : Int32} {B : Int} (ey : y.toInt = B) (h : 0 ≤ B) : 0 ≤ (x &&& y).toInt ∧ (x &&& y).toInt ≤ B := by
  have hy : y.toBitVec.msb = false := by
    rw [BitVec.msb_eq_toInt]
    have : y.toBitVec.toInt = B := ey
    simp only [this, decide_eq_false_iff_not]; omega
  have e : (x &&& y).toInt = ((x.toBitVec &&& y.toBitVec).toNat : Int) := by
    show (x &&& y).toBitVec.toInt = _
    rw [Int32.toBitVec_and, BitVec.toInt_eq_toNat_of_msb (by rw [BitVec.msb_and, hy, Bool.and_false])]
  have e2 : B = (y.toBitVec.toNat : Int) := by
    rw [← ey]
    show y.toBitVec.toInt = _
    rw [BitVec.toInt_eq_toNat_of_msb hy]
  have h3 : (x.toBitVec &&& y.toBitVec).toNat ≤ y.toBitVec.toNat := by
    rw [BitVec.toNat_and]
    exact Nat.and_le_right
  rw [e, e2]
  omega
theorem i_and' {x y : Int32} {B : Int} (ex : x.toInt = B) (h : 0 ≤ B) : 0 ≤ (x &&& y).toInt ∧ (x &&& y).toInt ≤ B := by
  have e : x &&& y = y &&& x := by
    apply Int32.toBitVec_inj.mp
    rw [Int32.toBitVec_and, Int32.toBitVec_and, BitVec.and_comm]
  rw [e]
  exact i_and ex h
section SS
variable {X : mm_X} {d mi pc : Nat} {ls st : List Value} {M : mm_M} {Q : Option Value → mm_M → Prop} {len a b : Nat} {ps : List Nat} {x y : Int32} {A B : Int}
theorem s_add (hc : mm_code mi pc = some (.iadd, len, a, b, ps)) (ex : x.toInt = A) (ey : y.toInt = B) (hr : -2147483648 ≤ A + B ∧ A + B ≤ 2147483647) (h : ∀ v : Int32, v.toInt = A + B → mm_T X d mi (pc + len) ls (.int v :: st) M Q) : mm_T X d mi pc ls (.int y :: .int x :: st) M Q := tt_1 hc (h (x + y) (i_add ex ey hr))
theorem s_sub (hc : mm_code mi pc = some (.isub, len, a, b, ps)) (ex : x.toInt = A) (ey : y.toInt = B) (hr : -2147483648 ≤ A - B ∧ A - B ≤ 2147483647) (h : ∀ v : Int32, v.toInt = A - B → mm_T X d mi (pc + len) ls (.int v :: st) M Q) : mm_T X d mi pc ls (.int y :: .int x :: st) M Q := tt_1 hc (h (x - y) (i_sub ex ey hr))
theorem s_mul (hc : mm_code mi pc = some (.imul, len, a, b, ps)) (ex : x.toInt = A) (ey : y.toInt = B) (hr : -2147483648 ≤ A * B ∧ A * B ≤ 2147483647) (h : ∀ v : Int32, v.toInt = A * B → mm_T X d mi (pc + len) ls (.int v :: st) M Q) : mm_T X d mi pc ls (.int y :: .int x :: st) M Q := tt_1 hc (h (x * y) (i_mul ex ey hr))
theorem s_and (hc : mm_code mi pc = some (.iand, len, a, b, ps)) (ey : y.toInt = B) (hr : 0 ≤ B) (h : ∀ v : Int32, x &&& y = v → 0 ≤ v.toInt → v.toInt ≤ B → mm_T X d mi (pc + len) ls (.int v :: st) M Q) : mm_T X d mi pc ls (.int y :: .int x :: st) M Q := tt_1 hc (h (x &&& y) rfl (i_and ey hr).1 (i_and ey hr).2)
theorem s_and' (hc : mm_code mi pc = some (.iand, len, a, b, ps)) (ex : x.toInt = A) (hr : 0 ≤ A) (h : ∀ v : Int32, x &&& y = v → 0 ≤ v.toInt → v.toInt ≤ A → mm_T X d mi (pc + len) ls (.int v :: st) M Q) : mm_T X d mi pc ls (.int y :: .int x :: st) M Q := tt_1 hc (h (x &&& y) rfl (i_and' ex hr).1 (i_and' ex hr).2)
theorem s_any {i : Instr} (hc : mm_code mi pc = some (i, len, a, b, ps)) (hi : ∀ x y, (mm_op2 i x y).isSome = true) (h : ∀ v : Int32, mm_T X d mi (pc + len) ls (.int v :: st) M Q) : mm_T X d mi pc ls (.int y :: .int x :: st) M Q := by
  obtain ⟨v, hv⟩ := Option.isSome_iff_exists.mp (hi x y)
  exact to_2 hc hv (h v)
theorem s_anyL {i : Instr} {x y : Int64} (hc : mm_code mi pc = some (i, len, a, b, ps)) (hi : ∀ x y, (mm_opL i x y).isSome = true) (h : ∀ v : Int64, mm_T X d mi (pc + len) ls (.long v :: st) M Q) : mm_T X d mi pc ls (.long y :: .long x :: st) M Q := by
  obtain ⟨v, hv⟩ := Option.isSome_iff_exists.mp (hi x y)
  exact to_2l hc hv (h v)
theorem s_anyS {i : Instr} {x : Int64} (hc : mm_code mi pc = some (i, len, a, b, ps)) (hi : ∀ x y, (mm_opS i x y).isSome = true) (h : ∀ v : Int64, mm_T X d mi (pc + len) ls (.long v :: st) M Q) : mm_T X d mi pc ls (.int y :: .long x :: st) M Q := by
  obtain ⟨v, hv⟩ := Option.isSome_iff_exists.mp (hi x y)
  exact to_2s hc hv (h v)
theorem s_lcmp {x y : Int64} (hc : mm_code mi pc = some (.lcmp, len, a, b, ps)) (h : ∀ v : Int32, mm_T X d mi (pc + len) ls (.int v :: st) M Q) : mm_T X d mi pc ls (.long y :: .long x :: st) M Q := to_lc hc rfl (h _)
theorem s_i2l (hc : mm_code mi pc = some (.i2l, len, a, b, ps)) (h : ∀ v : Int64, v = x.toInt64 → mm_T X d mi (pc + len) ls (.long v :: st) M Q) : mm_T X d mi pc ls (.int x :: st) M Q := to_i2l hc rfl (h _ rfl)
theorem s_l2i {x : Int64} (hc : mm_code mi pc = some (.l2i, len, a, b, ps)) (h : ∀ v : Int32, mm_T X d mi (pc + len) ls (.int v :: st) M Q) : mm_T X d mi pc ls (.long x :: st) M Q := to_l2i hc rfl (h _)
theorem s_i2b (hc : mm_code mi pc = some (.i2b, len, a, b, ps)) (h : ∀ v : Int32, mm_T X d mi (pc + len) ls (.int v :: st) M Q) : mm_T X d mi pc ls (.int x :: st) M Q := to_i2b hc rfl (h _)
theorem s_cl {i : Instr} (hc : mm_code mi pc = some (i, len, a, b, ps)) (hi : mm_isCl i = true) (h : ∀ v : Int64, mm_T X d mi (pc + len) ls (.long v :: st) M Q) : mm_T X d mi pc ls st M Q := to_cl hc hi rfl (h _)
theorem s_inc {k : Nat} {n : Int} {ls2 : Int32 → List Value} (hc : mm_code mi pc = some (.iinc k n, len, a, b, ps)) (hv : mm_at ls k = .int x) (hn : Nat.blt k ls.length = true) (hs : ∀ v, mm_set ls k (.int v) = ls2 v) (ex : x.toInt = A) (ek : (mm_i a b).toInt = B) (hr : -2147483648 ≤ A + B ∧ A + B ≤ 2147483647) (h : ∀ v : Int32, v.toInt = A + B → mm_T X d mi (pc + len) (ls2 v) st M Q) : mm_T X d mi pc ls st M Q := to_inc hc hv hn (hs _) (h _ (i_add ex ek hr))
theorem s_min {k : Nat} (hc : mm_code mi pc = some (.invokestatic k, len, 996, b, ps)) (h8 : Nat.ble (st.map fun v => v.category).sum 100 = true) (ex : x.toInt = A) (ey : y.toInt = B) (h : ∀ v : Int32, v.toInt ≤ A → v.toInt ≤ B → (v.toInt = A ∨ v.toInt = B) → mm_T X d mi (pc + len) ls (.int v :: st) M Q) : mm_T X d mi pc ls (.int y :: .int x :: st) M Q := by
  refine to_min hc h8 rfl ?_
  by_cases g : y < x
  · rw [if_pos g]
    have := (i_lt ey ex).mp g
    exact h y (by omega) (by omega) (by omega)
  · rw [if_neg g]
    have : ¬ (B < A) := fun z => g ((i_lt ey ex).mpr z)
    exact h x (by omega) (by omega) (by omega)
set_option maxRecDepth 20000 in
theorem s_max {k : Nat} (hc : mm_code mi pc = some (.invokestatic k, len, 997, b, ps)) (h8 : Nat.ble (st.map fun v => v.category).sum 100 = true) (ex : x.toInt = A) (ey : y.toInt = B) (h : ∀ v : Int32, A ≤ v.toInt → B ≤ v.toInt → (v.toInt = A ∨ v.toInt = B) → mm_T X d mi (pc + len) ls (.int v :: st) M Q) : mm_T X d mi pc ls (.int y :: .int x :: st) M Q := tt_1 hc (by
  show mm_b (Nat.ble (st.map fun v => v.category).sum 100) (mm_T X d mi (pc + len) ls (.int (if x < y then y else x) :: st) M Q) False
  rw [h8]
  show mm_T X d mi (pc + len) ls (.int (if x < y then y else x) :: st) M Q
  by_cases g : x < y
  · rw [if_pos g]
    have := (i_lt ex ey).mp g
    exact h y (by omega) (by omega) (by omega)
  · rw [if_neg g]
    have : ¬ (A < B) := fun z => g ((i_lt ex ey).mpr z)
    exact h x (by omega) (by omega) (by omega))
theorem s_r1 (hc : mm_code mi pc = some (.ireturn, len, 1, b, ps)) (ex : x.toInt = A) (h0 : 0 ≤ A ∧ A ≤ 1) (h : Q (some (.int x)) M) : mm_T X d mi pc ls [.int x] M Q := to_r1 hc (by
  rcases (show A = 0 ∨ A = 1 by omega) with z | z
  · exact Or.inl ((i_eq ex (rfl : (0 : Int32).toInt = 0)).mpr z)
  · exact Or.inr ((i_eq ex (rfl : (1 : Int32).toInt = 1)).mpr z)) h
theorem b_ceq {o : Int} (hc : mm_code mi pc = some (.if_icmp .eq o, len, a, b, ps)) (ex : x.toInt = A) (ey : y.toInt = B) (h1 : A = B → mm_T X d mi a ls st M Q) (h2 : A ≠ B → mm_T X d mi (pc + len) ls st M Q) : mm_T X d mi pc ls (.int y :: .int x :: st) M Q := by
  rcases (show A = B ∨ A ≠ B by omega) with z | z
  · exact to_ict hc (cd_of (by rw [ex, ey]; exact z)) (h1 z)
  · exact to_icf hc (cd_no (by rw [ex, ey]; intro z2; have z3 : A = B := z2; omega)) (h2 z)
theorem b_ceq_t {o : Int} (hc : mm_code mi pc = some (.if_icmp .eq o, len, a, b, ps)) (ex : x.toInt = A) (ey : y.toInt = B) (z : A = B) (h1 : mm_T X d mi a ls st M Q) : mm_T X d mi pc ls (.int y :: .int x :: st) M Q := to_ict hc (cd_of (by rw [ex, ey]; exact z)) h1
theorem b_ceq_f {o : Int} (hc : mm_code mi pc = some (.if_icmp .eq o, len, a, b, ps)) (ex : x.toInt = A) (ey : y.toInt = B) (z : A ≠ B) (h1 : mm_T X d mi (pc + len) ls st M Q) : mm_T X d mi pc ls (.int y :: .int x :: st) M Q := to_icf hc (cd_no (by rw [ex, ey]; intro z2; have z3 : A = B := z2; omega)) h1
theorem b_ieq {o : Int} (hc : mm_code mi pc = some (.ifCond .eq o, len, a, b, ps)) (ex : x.toInt = A) (h1 : A = 0 → mm_T X d mi a ls st M Q) (h2 : A ≠ 0 → mm_T X d mi (pc + len) ls st M Q) : mm_T X d mi pc ls (.int x :: st) M Q := by
  rcases (show A = 0 ∨ A ≠ 0 by omega) with z | z
  · exact to_ift hc (cd_of (by rw [ex, (rfl : (0 : Int32).toInt = 0)]; exact z)) (h1 z)
  · exact to_iff hc (cd_no (by rw [ex, (rfl : (0 : Int32).toInt = 0)]; intro z2; have z3 : A = 0 := z2; omega)) (h2 z)
theorem b_ieq_t {o : Int} (hc : mm_code mi pc = some (.ifCond .eq o, len, a, b, ps)) (ex : x.toInt = A) (z : A = 0) (h1 : mm_T X d mi a ls st M Q) : mm_T X d mi pc ls (.int x :: st) M Q := to_ift hc (cd_of (by rw [ex, (rfl : (0 : Int32).toInt = 0)]; exact z)) h1
theorem b_ieq_f {o : Int} (hc : mm_code mi pc = some (.ifCond .eq o, len, a, b, ps)) (ex : x.toInt = A) (z : A ≠ 0) (h1 : mm_T X d mi (pc + len) ls st M Q) : mm_T X d mi pc ls (.int x :: st) M Q := to_iff hc (cd_no (by rw [ex, (rfl : (0 : Int32).toInt = 0)]; intro z2; have z3 : A = 0 := z2; omega)) h1
theorem b_cne {o : Int} (hc : mm_code mi pc = some (.if_icmp .ne o, len, a, b, ps)) (ex : x.toInt = A) (ey : y.toInt = B) (h1 : A ≠ B → mm_T X d mi a ls st M Q) (h2 : A = B → mm_T X d mi (pc + len) ls st M Q) : mm_T X d mi pc ls (.int y :: .int x :: st) M Q := by
  rcases (show A ≠ B ∨ A = B by omega) with z | z
  · exact to_ict hc (cd_of (by rw [ex, ey]; exact z)) (h1 z)
  · exact to_icf hc (cd_no (by rw [ex, ey]; intro z2; have z3 : A ≠ B := z2; omega)) (h2 z)
theorem b_cne_t {o : Int} (hc : mm_code mi pc = some (.if_icmp .ne o, len, a, b, ps)) (ex : x.toInt = A) (ey : y.toInt = B) (z : A ≠ B) (h1 : mm_T X d mi a ls st M Q) : mm_T X d mi pc ls (.int y :: .int x :: st) M Q := to_ict hc (cd_of (by rw [ex, ey]; exact z)) h1
theorem b_cne_f {o : Int} (hc : mm_code mi pc = some (.if_icmp .ne o, len, a, b, ps)) (ex : x.toInt = A) (ey : y.toInt = B) (z : A = B) (h1 : mm_T X d mi (pc + len) ls st M Q) : mm_T X d mi pc ls (.int y :: .int x :: st) M Q := to_icf hc (cd_no (by rw [ex, ey]; intro z2; have z3 : A ≠ B := z2; omega)) h1
theorem b_ine {o : Int} (hc : mm_code mi pc = some (.ifCond .ne o, len, a, b, ps)) (ex : x.toInt = A) (h1 : A ≠ 0 → mm_T X d mi a ls st M Q) (h2 : A = 0 → mm_T X d mi (pc + len) ls st M Q) : mm_T X d mi pc ls (.int x :: st) M Q := by
  rcases (show A ≠ 0 ∨ A = 0 by omega) with z | z
  · exact to_ift hc (cd_of (by rw [ex, (rfl : (0 : Int32).toInt = 0)]; exact z)) (h1 z)
  · exact to_iff hc (cd_no (by rw [ex, (rfl : (0 : Int32).toInt = 0)]; intro z2; have z3 : A ≠ 0 := z2; omega)) (h2 z)
theorem b_ine_t {o : Int} (hc : mm_code mi pc = some (.ifCond .ne o, len, a, b, ps)) (ex : x.toInt = A) (z : A ≠ 0) (h1 : mm_T X d mi a ls st M Q) : mm_T X d mi pc ls (.int x :: st) M Q := to_ift hc (cd_of (by rw [ex, (rfl : (0 : Int32).toInt = 0)]; exact z)) h1
theorem b_ine_f {o : Int} (hc : mm_code mi pc = some (.ifCond .ne o, len, a, b, ps)) (ex : x.toInt = A) (z : A = 0) (h1 : mm_T X d mi (pc + len) ls st M Q) : mm_T X d mi pc ls (.int x :: st) M Q := to_iff hc (cd_no (by rw [ex, (rfl : (0 : Int32).toInt = 0)]; intro z2; have z3 : A ≠ 0 := z2; omega)) h1
theorem b_clt {o : Int} (hc : mm_code mi pc = some (.if_icmp .lt o, len, a, b, ps)) (ex : x.toInt = A) (ey : y.toInt = B) (h1 : A < B → mm_T X d mi a ls st M Q) (h2 : B ≤ A → mm_T X d mi (pc + len) ls st M Q) : mm_T X d mi pc ls (.int y :: .int x :: st) M Q := by
  rcases (show A < B ∨ B ≤ A by omega) with z | z
  · exact to_ict hc (cd_of (by rw [ex, ey]; exact z)) (h1 z)
  · exact to_icf hc (cd_no (by rw [ex, ey]; intro z2; have z3 : A < B := z2; omega)) (h2 z)
theorem b_clt_t {o : Int} (hc : mm_code mi pc = some (.if_icmp .lt o, len, a, b, ps)) (ex : x.toInt = A) (ey : y.toInt = B) (z : A < B) (h1 : mm_T X d mi a ls st M Q) : mm_T X d mi pc ls (.int y :: .int x :: st) M Q := to_ict hc (cd_of (by rw [ex, ey]; exact z)) h1
theorem b_clt_f {o : Int} (hc : mm_code mi pc = some (.if_icmp .lt o, len, a, b, ps)) (ex : x.toInt = A) (ey : y.toInt = B) (z : B ≤ A) (h1 : mm_T X d mi (pc + len) ls st M Q) : mm_T X d mi pc ls (.int y :: .int x :: st) M Q := to_icf hc (cd_no (by rw [ex, ey]; intro z2; have z3 : A < B := z2; omega)) h1
theorem b_ilt {o : Int} (hc : mm_code mi pc = some (.ifCond .lt o, len, a, b, ps)) (ex : x.toInt = A) (h1 : A < 0 → mm_T X d mi a ls st M Q) (h2 : 0 ≤ A → mm_T X d mi (pc + len) ls st M Q) : mm_T X d mi pc ls (.int x :: st) M Q := by
  rcases (show A < 0 ∨ 0 ≤ A by omega) with z | z
  · exact to_ift hc (cd_of (by rw [ex, (rfl : (0 : Int32).toInt = 0)]; exact z)) (h1 z)
  · exact to_iff hc (cd_no (by rw [ex, (rfl : (0 : Int32).toInt = 0)]; intro z2; have z3 : A < 0 := z2; omega)) (h2 z)
theorem b_ilt_t {o : Int} (hc : mm_code mi pc = some (.ifCond .lt o, len, a, b, ps)) (ex : x.toInt = A) (z : A < 0) (h1 : mm_T X d mi a ls st M Q) : mm_T X d mi pc ls (.int x :: st) M Q := to_ift hc (cd_of (by rw [ex, (rfl : (0 : Int32).toInt = 0)]; exact z)) h1
theorem b_ilt_f {o : Int} (hc : mm_code mi pc = some (.ifCond .lt o, len, a, b, ps)) (ex : x.toInt = A) (z : 0 ≤ A) (h1 : mm_T X d mi (pc + len) ls st M Q) : mm_T X d mi pc ls (.int x :: st) M Q := to_iff hc (cd_no (by rw [ex, (rfl : (0 : Int32).toInt = 0)]; intro z2; have z3 : A < 0 := z2; omega)) h1
theorem b_cge {o : Int} (hc : mm_code mi pc = some (.if_icmp .ge o, len, a, b, ps)) (ex : x.toInt = A) (ey : y.toInt = B) (h1 : B ≤ A → mm_T X d mi a ls st M Q) (h2 : A < B → mm_T X d mi (pc + len) ls st M Q) : mm_T X d mi pc ls (.int y :: .int x :: st) M Q := by
  rcases (show B ≤ A ∨ A < B by omega) with z | z
  · exact to_ict hc (cd_of (by rw [ex, ey]; exact z)) (h1 z)
  · exact to_icf hc (cd_no (by rw [ex, ey]; intro z2; have z3 : B ≤ A := z2; omega)) (h2 z)
theorem b_cge_t {o : Int} (hc : mm_code mi pc = some (.if_icmp .ge o, len, a, b, ps)) (ex : x.toInt = A) (ey : y.toInt = B) (z : B ≤ A) (h1 : mm_T X d mi a ls st M Q) : mm_T X d mi pc ls (.int y :: .int x :: st) M Q := to_ict hc (cd_of (by rw [ex, ey]; exact z)) h1
theorem b_cge_f {o : Int} (hc : mm_code mi pc = some (.if_icmp .ge o, len, a, b, ps)) (ex : x.toInt = A) (ey : y.toInt = B) (z : A < B) (h1 : mm_T X d mi (pc + len) ls st M Q) : mm_T X d mi pc ls (.int y :: .int x :: st) M Q := to_icf hc (cd_no (by rw [ex, ey]; intro z2; have z3 : B ≤ A := z2; omega)) h1
theorem b_ige {o : Int} (hc : mm_code mi pc = some (.ifCond .ge o, len, a, b, ps)) (ex : x.toInt = A) (h1 : 0 ≤ A → mm_T X d mi a ls st M Q) (h2 : A < 0 → mm_T X d mi (pc + len) ls st M Q) : mm_T X d mi pc ls (.int x :: st) M Q := by
  rcases (show 0 ≤ A ∨ A < 0 by omega) with z | z
  · exact to_ift hc (cd_of (by rw [ex, (rfl : (0 : Int32).toInt = 0)]; exact z)) (h1 z)
  · exact to_iff hc (cd_no (by rw [ex, (rfl : (0 : Int32).toInt = 0)]; intro z2; have z3 : 0 ≤ A := z2; omega)) (h2 z)
theorem b_ige_t {o : Int} (hc : mm_code mi pc = some (.ifCond .ge o, len, a, b, ps)) (ex : x.toInt = A) (z : 0 ≤ A) (h1 : mm_T X d mi a ls st M Q) : mm_T X d mi pc ls (.int x :: st) M Q := to_ift hc (cd_of (by rw [ex, (rfl : (0 : Int32).toInt = 0)]; exact z)) h1
theorem b_ige_f {o : Int} (hc : mm_code mi pc = some (.ifCond .ge o, len, a, b, ps)) (ex : x.toInt = A) (z : A < 0) (h1 : mm_T X d mi (pc + len) ls st M Q) : mm_T X d mi pc ls (.int x :: st) M Q := to_iff hc (cd_no (by rw [ex, (rfl : (0 : Int32).toInt = 0)]; intro z2; have z3 : 0 ≤ A := z2; omega)) h1
theorem b_cgt {o : Int} (hc : mm_code mi pc = some (.if_icmp .gt o, len, a, b, ps)) (ex : x.toInt = A) (ey : y.toInt = B) (h1 : B < A → mm_T X d mi a ls st M Q) (h2 : A ≤ B → mm_T X d mi (pc + len) ls st M Q) : mm_T X d mi pc ls (.int y :: .int x :: st) M Q := by
  rcases (show B < A ∨ A ≤ B by omega) with z | z
  · exact to_ict hc (cd_of (by rw [ex, ey]; exact z)) (h1 z)
  · exact to_icf hc (cd_no (by rw [ex, ey]; intro z2; have z3 : B < A := z2; omega)) (h2 z)
theorem b_cgt_t {o : Int} (hc : mm_code mi pc = some (.if_icmp .gt o, len, a, b, ps)) (ex : x.toInt = A) (ey : y.toInt = B) (z : B < A) (h1 : mm_T X d mi a ls st M Q) : mm_T X d mi pc ls (.int y :: .int x :: st) M Q := to_ict hc (cd_of (by rw [ex, ey]; exact z)) h1
theorem b_cgt_f {o : Int} (hc : mm_code mi pc = some (.if_icmp .gt o, len, a, b, ps)) (ex : x.toInt = A) (ey : y.toInt = B) (z : A ≤ B) (h1 : mm_T X d mi (pc + len) ls st M Q) : mm_T X d mi pc ls (.int y :: .int x :: st) M Q := to_icf hc (cd_no (by rw [ex, ey]; intro z2; have z3 : B < A := z2; omega)) h1
theorem b_igt {o : Int} (hc : mm_code mi pc = some (.ifCond .gt o, len, a, b, ps)) (ex : x.toInt = A) (h1 : 0 < A → mm_T X d mi a ls st M Q) (h2 : A ≤ 0 → mm_T X d mi (pc + len) ls st M Q) : mm_T X d mi pc ls (.int x :: st) M Q := by
  rcases (show 0 < A ∨ A ≤ 0 by omega) with z | z
  · exact to_ift hc (cd_of (by rw [ex, (rfl : (0 : Int32).toInt = 0)]; exact z)) (h1 z)
  · exact to_iff hc (cd_no (by rw [ex, (rfl : (0 : Int32).toInt = 0)]; intro z2; have z3 : 0 < A := z2; omega)) (h2 z)
theorem b_igt_t {o : Int} (hc : mm_code mi pc = some (.ifCond .gt o, len, a, b, ps)) (ex : x.toInt = A) (z : 0 < A) (h1 : mm_T X d mi a ls st M Q) : mm_T X d mi pc ls (.int x :: st) M Q := to_ift hc (cd_of (by rw [ex, (rfl : (0 : Int32).toInt = 0)]; exact z)) h1
theorem b_igt_f {o : Int} (hc : mm_code mi pc = some (.ifCond .gt o, len, a, b, ps)) (ex : x.toInt = A) (z : A ≤ 0) (h1 : mm_T X d mi (pc + len) ls st M Q) : mm_T X d mi pc ls (.int x :: st) M Q := to_iff hc (cd_no (by rw [ex, (rfl : (0 : Int32).toInt = 0)]; intro z2; have z3 : 0 < A := z2; omega)) h1
theorem b_cle {o : Int} (hc : mm_code mi pc = some (.if_icmp .le o, len, a, b, ps)) (ex : x.toInt = A) (ey : y.toInt = B) (h1 : A ≤ B → mm_T X d mi a ls st M Q) (h2 : B < A → mm_T X d mi (pc + len) ls st M Q) : mm_T X d mi pc ls (.int y :: .int x :: st) M Q := by
  rcases (show A ≤ B ∨ B < A by omega) with z | z
  · exact to_ict hc (cd_of (by rw [ex, ey]; exact z)) (h1 z)
  · exact to_icf hc (cd_no (by rw [ex, ey]; intro z2; have z3 : A ≤ B := z2; omega)) (h2 z)
theorem b_cle_t {o : Int} (hc : mm_code mi pc = some (.if_icmp .le o, len, a, b, ps)) (ex : x.toInt = A) (ey : y.toInt = B) (z : A ≤ B) (h1 : mm_T X d mi a ls st M Q) : mm_T X d mi pc ls (.int y :: .int x :: st) M Q := to_ict hc (cd_of (by rw [ex, ey]; exact z)) h1
theorem b_cle_f {o : Int} (hc : mm_code mi pc = some (.if_icmp .le o, len, a, b, ps)) (ex : x.toInt = A) (ey : y.toInt = B) (z : B < A) (h1 : mm_T X d mi (pc + len) ls st M Q) : mm_T X d mi pc ls (.int y :: .int x :: st) M Q := to_icf hc (cd_no (by rw [ex, ey]; intro z2; have z3 : A ≤ B := z2; omega)) h1
theorem b_ile {o : Int} (hc : mm_code mi pc = some (.ifCond .le o, len, a, b, ps)) (ex : x.toInt = A) (h1 : A ≤ 0 → mm_T X d mi a ls st M Q) (h2 : 0 < A → mm_T X d mi (pc + len) ls st M Q) : mm_T X d mi pc ls (.int x :: st) M Q := by
  rcases (show A ≤ 0 ∨ 0 < A by omega) with z | z
  · exact to_ift hc (cd_of (by rw [ex, (rfl : (0 : Int32).toInt = 0)]; exact z)) (h1 z)
  · exact to_iff hc (cd_no (by rw [ex, (rfl : (0 : Int32).toInt = 0)]; intro z2; have z3 : A ≤ 0 := z2; omega)) (h2 z)
theorem b_ile_t {o : Int} (hc : mm_code mi pc = some (.ifCond .le o, len, a, b, ps)) (ex : x.toInt = A) (z : A ≤ 0) (h1 : mm_T X d mi a ls st M Q) : mm_T X d mi pc ls (.int x :: st) M Q := to_ift hc (cd_of (by rw [ex, (rfl : (0 : Int32).toInt = 0)]; exact z)) h1
theorem b_ile_f {o : Int} (hc : mm_code mi pc = some (.ifCond .le o, len, a, b, ps)) (ex : x.toInt = A) (z : 0 < A) (h1 : mm_T X d mi (pc + len) ls st M Q) : mm_T X d mi pc ls (.int x :: st) M Q := to_iff hc (cd_no (by rw [ex, (rfl : (0 : Int32).toInt = 0)]; intro z2; have z3 : A ≤ 0 := z2; omega)) h1
end SS
/-! THE MEMORY BETWEEN CALLS: kinds, lengths and references stay, the ints lie within their bounds -/
noncomputable def g_ty (a : Nat) : Nat := (bif Nat.blt a 43 then (bif Nat.blt a 18 then (bif Nat.blt a 11 then (bif Nat.blt a 3 then (bif Nat.blt a 1 then 10 else (bif Nat.blt a 2 then 8 else 103)) else (bif Nat.blt a 6 then 100 else (bif Nat.blt a 7 then 3 else 100))) else (bif Nat.blt a 15 then (bif Nat.blt a 12 then 1 else (bif Nat.blt a 13 then 101 else 100)) else (bif Nat.blt a 16 then 101 else (bif Nat.blt a 17 then 102 else 4)))) else (bif Nat.blt a 34 then (bif Nat.blt a 28 then (bif Nat.blt a 19 then 104 else (bif Nat.blt a 27 then 100 else 101)) else (bif Nat.blt a 29 then 9 else (bif Nat.blt a 33 then 100 else 101))) else (bif Nat.blt a 39 then (bif Nat.blt a 36 then 100 else (bif Nat.blt a 37 then 0 else 100)) else (bif Nat.blt a 41 then (bif Nat.blt a 40 then 2 else 100) else (bif Nat.blt a 42 then 101 else 7))))) else (bif Nat.blt a 78 then (bif Nat.blt a 66 then (bif Nat.blt a 57 then (bif Nat.blt a 49 then 100 else (bif Nat.blt a 50 then 5 else 100)) else (bif Nat.blt a 58 then 101 else (bif Nat.blt a 59 then 5 else 100))) else (bif Nat.blt a 72 then (bif Nat.blt a 67 then 101 else (bif Nat.blt a 68 then 6 else 100)) else (bif Nat.blt a 73 then 6 else (bif Nat.blt a 77 then 100 else 11)))) else (bif Nat.blt a 106 then (bif Nat.blt a 94 then (bif Nat.blt a 87 then 100 else (bif Nat.blt a 88 then 101 else 100)) else (bif Nat.blt a 95 then 102 else (bif Nat.blt a 97 then 101 else 100))) else (bif Nat.blt a 118 then (bif Nat.blt a 107 then 101 else (bif Nat.blt a 117 then 100 else 102)) else (bif Nat.blt a 125 then (bif Nat.blt a 124 then 100 else 102) else (bif Nat.blt a 126 then 101 else 999))))))
noncomputable def g_ln (a : Nat) : Nat := (bif Nat.blt a 67 then (bif Nat.blt a 28 then (bif Nat.blt a 14 then (bif Nat.blt a 6 then (bif Nat.blt a 2 then 0 else (bif Nat.blt a 3 then 500 else 501)) else (bif Nat.blt a 11 then (bif Nat.blt a 7 then 0 else 150) else (bif Nat.blt a 12 then 0 else 30))) else (bif Nat.blt a 18 then (bif Nat.blt a 16 then (bif Nat.blt a 15 then 240 else 12) else (bif Nat.blt a 17 then 150 else 0)) else (bif Nat.blt a 25 then (bif Nat.blt a 19 then 6 else 30) else (bif Nat.blt a 26 then 6 else 30)))) else (bif Nat.blt a 43 then (bif Nat.blt a 37 then (bif Nat.blt a 29 then 0 else (bif Nat.blt a 36 then 40 else 0)) else (bif Nat.blt a 40 then (bif Nat.blt a 39 then 24 else 0) else (bif Nat.blt a 42 then 12 else 0))) else (bif Nat.blt a 55 then (bif Nat.blt a 49 then (bif Nat.blt a 46 then 30 else 64) else (bif Nat.blt a 50 then 0 else 8)) else (bif Nat.blt a 59 then (bif Nat.blt a 58 then 12 else 0) else (bif Nat.blt a 64 then 8 else 12))))) else (bif Nat.blt a 99 then (bif Nat.blt a 80 then (bif Nat.blt a 73 then (bif Nat.blt a 68 then 0 else (bif Nat.blt a 72 then 40 else 0)) else (bif Nat.blt a 78 then (bif Nat.blt a 77 then 40 else 0) else (bif Nat.blt a 79 then 500 else 70))) else (bif Nat.blt a 95 then (bif Nat.blt a 88 then (bif Nat.blt a 85 then 16 else 24) else (bif Nat.blt a 90 then 10 else 150)) else (bif Nat.blt a 97 then (bif Nat.blt a 96 then 12 else 30) else (bif Nat.blt a 98 then 240 else 30)))) else (bif Nat.blt a 117 then (bif Nat.blt a 109 then (bif Nat.blt a 101 then (bif Nat.blt a 100 then 180 else 6) else (bif Nat.blt a 108 then 40 else 5)) else (bif Nat.blt a 112 then (bif Nat.blt a 110 then 30 else 5) else (bif Nat.blt a 115 then 80 else 64))) else (bif Nat.blt a 123 then (bif Nat.blt a 119 then (bif Nat.blt a 118 then 40 else 4) else (bif Nat.blt a 120 then 12 else 30)) else (bif Nat.blt a 125 then (bif Nat.blt a 124 then 6 else 180) else (bif Nat.blt a 126 then 1 else 0))))))
noncomputable def g_rf (a i : Nat) : Option Nat := (bif Nat.blt a 39 then (bif Nat.blt a 17 then (bif Nat.blt a 6 then (bif Nat.blt a 1 then (bif Nat.blt i 4 then (bif Nat.blt i 2 then (bif Nat.blt i 1 then (some 1) else (some 6)) else (bif Nat.blt i 3 then (some 11) else (some 17))) else (bif Nat.blt i 6 then (bif Nat.blt i 5 then (some 28) else (some 36)) else (bif Nat.blt i 7 then (some 39) else (bif Nat.blt i 8 then (some 42) else (none))))) else (bif Nat.blt a 2 then (bif Nat.blt i 3 then (bif Nat.blt i 1 then (some 2) else (bif Nat.blt i 2 then (none) else (some 3))) else (bif Nat.blt i 4 then (some 4) else (bif Nat.blt i 5 then (some 5) else (none)))) else (none))) else (bif Nat.blt a 11 then (bif Nat.blt a 7 then (bif Nat.blt i 3 then (bif Nat.blt i 1 then (none) else (bif Nat.blt i 2 then (some 7) else (some 8))) else (bif Nat.blt i 4 then (some 9) else (bif Nat.blt i 5 then (some 10) else (none)))) else (none)) else (bif Nat.blt a 12 then (bif Nat.blt i 3 then (bif Nat.blt i 1 then (some 12) else (bif Nat.blt i 2 then (some 13) else (some 14))) else (bif Nat.blt i 4 then (some 15) else (bif Nat.blt i 5 then (some 16) else (none)))) else (none)))) else (bif Nat.blt a 28 then (bif Nat.blt a 18 then (bif Nat.blt i 2 then (bif Nat.blt i 1 then (some 18) else (some 25)) else (bif Nat.blt i 3 then (some 26) else (bif Nat.blt i 4 then (some 27) else (none)))) else (bif Nat.blt a 19 then (bif Nat.blt i 3 then (bif Nat.blt i 1 then (some 19) else (bif Nat.blt i 2 then (some 20) else (some 21))) else (bif Nat.blt i 5 then (bif Nat.blt i 4 then (some 22) else (some 23)) else (bif Nat.blt i 6 then (some 24) else (none)))) else (none))) else (bif Nat.blt a 36 then (bif Nat.blt a 29 then (bif Nat.blt i 4 then (bif Nat.blt i 2 then (bif Nat.blt i 1 then (some 29) else (some 30)) else (bif Nat.blt i 3 then (some 31) else (some 32))) else (bif Nat.blt i 6 then (bif Nat.blt i 5 then (some 33) else (some 34)) else (bif Nat.blt i 7 then (some 35) else (none)))) else (none)) else (bif Nat.blt a 37 then (bif Nat.blt i 1 then (some 37) else (bif Nat.blt i 2 then (some 38) else (none))) else (none))))) else (bif Nat.blt a 59 then (bif Nat.blt a 43 then (bif Nat.blt a 40 then (bif Nat.blt i 1 then (some 40) else (bif Nat.blt i 2 then (some 41) else (none))) else (bif Nat.blt a 42 then (none) else (bif Nat.blt i 5 then (bif Nat.blt i 3 then (bif Nat.blt i 2 then (none) else (some 43)) else (bif Nat.blt i 4 then (some 44) else (some 45))) else (bif Nat.blt i 7 then (bif Nat.blt i 6 then (some 46) else (some 47)) else (bif Nat.blt i 8 then (some 48) else (none)))))) else (bif Nat.blt a 50 then (bif Nat.blt a 49 then (none) else (bif Nat.blt i 9 then (bif Nat.blt i 6 then (bif Nat.blt i 5 then (none) else (some 50)) else (bif Nat.blt i 7 then (some 51) else (bif Nat.blt i 8 then (some 52) else (some 53)))) else (bif Nat.blt i 11 then (bif Nat.blt i 10 then (some 54) else (some 55)) else (bif Nat.blt i 12 then (some 56) else (bif Nat.blt i 13 then (some 57) else (none)))))) else (bif Nat.blt a 58 then (none) else (bif Nat.blt i 9 then (bif Nat.blt i 6 then (bif Nat.blt i 5 then (none) else (some 59)) else (bif Nat.blt i 7 then (some 60) else (bif Nat.blt i 8 then (some 61) else (some 62)))) else (bif Nat.blt i 11 then (bif Nat.blt i 10 then (some 63) else (some 64)) else (bif Nat.blt i 12 then (some 65) else (bif Nat.blt i 13 then (some 66) else (none)))))))) else (bif Nat.blt a 73 then (bif Nat.blt a 68 then (bif Nat.blt a 67 then (none) else (bif Nat.blt i 2 then (bif Nat.blt i 1 then (some 68) else (some 69)) else (bif Nat.blt i 3 then (some 70) else (bif Nat.blt i 4 then (some 71) else (none))))) else (bif Nat.blt a 72 then (none) else (bif Nat.blt i 2 then (bif Nat.blt i 1 then (some 73) else (some 74)) else (bif Nat.blt i 3 then (some 75) else (bif Nat.blt i 4 then (some 76) else (none)))))) else (bif Nat.blt a 78 then (bif Nat.blt a 77 then (none) else (bif Nat.blt i 45 then (bif Nat.blt i 27 then (bif Nat.blt i 20 then (bif Nat.blt i 4 then (bif Nat.blt i 1 then (some 78) else (bif Nat.blt i 3 then (none) else (some 79))) else (bif Nat.blt i 18 then (bif Nat.blt i 17 then (none) else (some 80)) else (bif Nat.blt i 19 then (some 81) else (some 82)))) else (bif Nat.blt i 23 then (bif Nat.blt i 21 then (some 83) else (bif Nat.blt i 22 then (some 84) else (some 85))) else (bif Nat.blt i 25 then (bif Nat.blt i 24 then (some 86) else (some 87)) else (bif Nat.blt i 26 then (none) else (some 88))))) else (bif Nat.blt i 35 then (bif Nat.blt i 31 then (bif Nat.blt i 28 then (some 89) else (bif Nat.blt i 30 then (none) else (some 90))) else (bif Nat.blt i 33 then (bif Nat.blt i 32 then (some 91) else (some 92)) else (bif Nat.blt i 34 then (some 93) else (some 94)))) else (bif Nat.blt i 38 then (bif Nat.blt i 36 then (some 95) else (bif Nat.blt i 37 then (some 96) else (some 97))) else (bif Nat.blt i 40 then (bif Nat.blt i 39 then (some 98) else (some 99)) else (bif Nat.blt i 41 then (some 100) else (none)))))) else (bif Nat.blt i 61 then (bif Nat.blt i 52 then (bif Nat.blt i 48 then (bif Nat.blt i 46 then (some 101) else (bif Nat.blt i 47 then (some 102) else (some 103))) else (bif Nat.blt i 50 then (bif Nat.blt i 49 then (some 104) else (some 105)) else (bif Nat.blt i 51 then (some 106) else (some 107)))) else (bif Nat.blt i 55 then (bif Nat.blt i 53 then (none) else (bif Nat.blt i 54 then (some 108) else (some 109))) else (bif Nat.blt i 57 then (bif Nat.blt i 56 then (some 110) else (some 111)) else (bif Nat.blt i 60 then (none) else (some 112))))) else (bif Nat.blt i 72 then (bif Nat.blt i 64 then (bif Nat.blt i 62 then (some 113) else (bif Nat.blt i 63 then (some 114) else (some 115))) else (bif Nat.blt i 70 then (bif Nat.blt i 65 then (some 116) else (none)) else (bif Nat.blt i 71 then (some 117) else (some 118)))) else (bif Nat.blt i 75 then (bif Nat.blt i 73 then (some 119) else (bif Nat.blt i 74 then (some 120) else (some 121))) else (bif Nat.blt i 77 then (bif Nat.blt i 76 then (some 122) else (some 123)) else (bif Nat.blt i 78 then (some 124) else (none)))))))) else (bif Nat.blt a 126 then (none) else none)))))
noncomputable def g_lo (a i : Nat) : Int := (bif Nat.blt a 60 then (bif Nat.blt a 36 then (bif Nat.blt a 17 then (bif Nat.blt a 6 then (bif Nat.blt a 1 then (bif Nat.blt i 12 then (-2147483648) else (bif Nat.blt i 13 then (0) else (-2147483648))) else (bif Nat.blt a 2 then (bif Nat.blt i 2 then (bif Nat.blt i 1 then (-2147483648) else (0)) else (bif Nat.blt i 5 then (-2147483648) else (bif Nat.blt i 7 then (0) else (-2147483648)))) else (-2147483648))) else (bif Nat.blt a 9 then (bif Nat.blt a 7 then (bif Nat.blt i 1 then (0) else (-2147483648)) else (0)) else (bif Nat.blt a 16 then (-2147483648) else (0)))) else (bif Nat.blt a 29 then (bif Nat.blt a 27 then (bif Nat.blt a 19 then (-2147483648) else (0)) else (bif Nat.blt a 28 then (-2147483648) else (bif Nat.blt i 9 then (bif Nat.blt i 7 then (-2147483648) else (0)) else (bif Nat.blt i 10 then (-2147483648) else (bif Nat.blt i 11 then (0) else (-2147483648)))))) else (bif Nat.blt a 33 then (bif Nat.blt a 30 then (-2147483648) else (0)) else (bif Nat.blt a 34 then (-2147483648) else (0))))) else (bif Nat.blt a 49 then (bif Nat.blt a 42 then (bif Nat.blt a 39 then (-2147483648) else (bif Nat.blt a 40 then (bif Nat.blt i 2 then (-2147483648) else (bif Nat.blt i 3 then (0) else (-2147483648))) else (-2147483648))) else (bif Nat.blt a 44 then (bif Nat.blt a 43 then (bif Nat.blt i 2 then (0) else (-2147483648)) else (-2147483648)) else (bif Nat.blt a 45 then (0) else (-2147483648)))) else (bif Nat.blt a 56 then (bif Nat.blt a 51 then (bif Nat.blt a 50 then (bif Nat.blt i 2 then (bif Nat.blt i 1 then (10) else (-2147483648)) else (bif Nat.blt i 4 then (0) else (-2147483648))) else (-2147483648)) else (bif Nat.blt a 55 then (0) else (-2147483648))) else (bif Nat.blt a 58 then (bif Nat.blt a 57 then (0) else (-2147483648)) else (bif Nat.blt a 59 then (bif Nat.blt i 2 then (bif Nat.blt i 1 then (10) else (-2147483648)) else (bif Nat.blt i 4 then (0) else (-2147483648))) else (-2147483648)))))) else (bif Nat.blt a 86 then (bif Nat.blt a 72 then (bif Nat.blt a 66 then (bif Nat.blt a 64 then (0) else (bif Nat.blt a 65 then (-2147483648) else (0))) else (bif Nat.blt a 68 then (bif Nat.blt a 67 then (-2147483648) else (bif Nat.blt i 4 then (-2147483648) else (bif Nat.blt i 6 then (0) else (-2147483648)))) else (bif Nat.blt a 70 then (0) else (-2147483648)))) else (bif Nat.blt a 78 then (bif Nat.blt a 75 then (bif Nat.blt a 73 then (bif Nat.blt i 4 then (-2147483648) else (bif Nat.blt i 6 then (0) else (-2147483648))) else (0)) else (bif Nat.blt a 77 then (-2147483648) else (bif Nat.blt i 17 then (bif Nat.blt i 10 then (bif Nat.blt i 2 then (bif Nat.blt i 1 then (-2147483648) else (0)) else (bif Nat.blt i 6 then (-2147483648) else (bif Nat.blt i 9 then (0) else (-2147483648)))) else (bif Nat.blt i 12 then (bif Nat.blt i 11 then (0) else (10)) else (bif Nat.blt i 14 then (0) else (bif Nat.blt i 15 then (10) else (0))))) else (bif Nat.blt i 52 then (bif Nat.blt i 30 then (bif Nat.blt i 28 then (-2147483648) else (0)) else (bif Nat.blt i 43 then (-2147483648) else (bif Nat.blt i 45 then (0) else (-2147483648)))) else (bif Nat.blt i 60 then (bif Nat.blt i 53 then (0) else (bif Nat.blt i 57 then (-2147483648) else (0))) else (bif Nat.blt i 65 then (-2147483648) else (bif Nat.blt i 70 then (0) else (-2147483648)))))))) else (bif Nat.blt a 81 then (bif Nat.blt a 79 then (0) else (-2147483648)) else (bif Nat.blt a 85 then (0) else (-2147483648))))) else (bif Nat.blt a 105 then (bif Nat.blt a 94 then (bif Nat.blt a 90 then (bif Nat.blt a 87 then (0) else (-2147483648)) else (bif Nat.blt a 92 then (0) else (-2147483648))) else (bif Nat.blt a 99 then (bif Nat.blt a 95 then (0) else (-2147483648)) else (bif Nat.blt a 102 then (0) else (-1)))) else (bif Nat.blt a 115 then (bif Nat.blt a 108 then (bif Nat.blt a 106 then (0) else (-2147483648)) else (bif Nat.blt a 114 then (0) else (-2147483648))) else (bif Nat.blt a 121 then (bif Nat.blt a 120 then (0) else (-2147483648)) else (bif Nat.blt a 125 then (0) else (-2147483648)))))))
noncomputable def g_hi (a i : Nat) : Int := (bif Nat.blt a 68 then (bif Nat.blt a 42 then (bif Nat.blt a 26 then (bif Nat.blt a 8 then (bif Nat.blt a 2 then (bif Nat.blt a 1 then (bif Nat.blt i 12 then (2147483647) else (bif Nat.blt i 13 then (30) else (2147483647))) else (bif Nat.blt i 5 then (bif Nat.blt i 1 then (2147483647) else (bif Nat.blt i 2 then (500) else (2147483647))) else (bif Nat.blt i 6 then (501) else (bif Nat.blt i 7 then (500) else (2147483647))))) else (bif Nat.blt a 6 then (2147483647) else (bif Nat.blt a 7 then (bif Nat.blt i 1 then (150) else (2147483647)) else (5)))) else (bif Nat.blt a 17 then (bif Nat.blt a 9 then (149) else (bif Nat.blt a 16 then (2147483647) else (1))) else (bif Nat.blt a 19 then (2147483647) else (bif Nat.blt a 25 then (29) else (30))))) else (bif Nat.blt a 33 then (bif Nat.blt a 28 then (bif Nat.blt a 27 then (29) else (2147483647)) else (bif Nat.blt a 29 then (bif Nat.blt i 9 then (bif Nat.blt i 7 then (2147483647) else (bif Nat.blt i 8 then (40) else (3000))) else (bif Nat.blt i 10 then (2147483647) else (bif Nat.blt i 11 then (1) else (2147483647)))) else (bif Nat.blt a 30 then (2147483647) else (5)))) else (bif Nat.blt a 36 then (bif Nat.blt a 34 then (2147483647) else (bif Nat.blt a 35 then (99) else (40))) else (bif Nat.blt a 39 then (2147483647) else (bif Nat.blt a 40 then (bif Nat.blt i 2 then (2147483647) else (bif Nat.blt i 3 then (12) else (2147483647))) else (2147483647)))))) else (bif Nat.blt a 56 then (bif Nat.blt a 50 then (bif Nat.blt a 44 then (bif Nat.blt a 43 then (bif Nat.blt i 1 then (30) else (bif Nat.blt i 2 then (6) else (2147483647))) else (2147483647)) else (bif Nat.blt a 45 then (63) else (bif Nat.blt a 49 then (2147483647) else (bif Nat.blt i 2 then (bif Nat.blt i 1 then (60) else (2147483647)) else (bif Nat.blt i 3 then (8) else (bif Nat.blt i 4 then (12) else (2147483647))))))) else (bif Nat.blt a 53 then (bif Nat.blt a 51 then (2147483647) else (bif Nat.blt a 52 then (3) else (59))) else (bif Nat.blt a 54 then (63) else (bif Nat.blt a 55 then (24) else (2147483647))))) else (bif Nat.blt a 62 then (bif Nat.blt a 59 then (bif Nat.blt a 57 then (7) else (bif Nat.blt a 58 then (2147483647) else (bif Nat.blt i 2 then (bif Nat.blt i 1 then (60) else (2147483647)) else (bif Nat.blt i 3 then (8) else (bif Nat.blt i 4 then (12) else (2147483647)))))) else (bif Nat.blt a 60 then (2147483647) else (bif Nat.blt a 61 then (3) else (59)))) else (bif Nat.blt a 65 then (bif Nat.blt a 63 then (63) else (bif Nat.blt a 64 then (24) else (2147483647))) else (bif Nat.blt a 66 then (7) else (bif Nat.blt a 67 then (2147483647) else (bif Nat.blt i 4 then (2147483647) else (bif Nat.blt i 6 then (40) else (2147483647))))))))) else (bif Nat.blt a 100 then (bif Nat.blt a 82 then (bif Nat.blt a 74 then (bif Nat.blt a 70 then (bif Nat.blt a 69 then (4) else (11)) else (bif Nat.blt a 72 then (2147483647) else (bif Nat.blt a 73 then (bif Nat.blt i 4 then (2147483647) else (bif Nat.blt i 6 then (40) else (2147483647))) else (4)))) else (bif Nat.blt a 78 then (bif Nat.blt a 75 then (11) else (bif Nat.blt a 77 then (2147483647) else (bif Nat.blt i 29 then (bif Nat.blt i 11 then (bif Nat.blt i 6 then (bif Nat.blt i 1 then (2147483647) else (bif Nat.blt i 2 then (500) else (2147483647))) else (bif Nat.blt i 9 then (bif Nat.blt i 8 then (500) else (5)) else (bif Nat.blt i 10 then (2147483647) else (500)))) else (bif Nat.blt i 15 then (bif Nat.blt i 13 then (bif Nat.blt i 12 then (60) else (8)) else (bif Nat.blt i 14 then (12) else (60))) else (bif Nat.blt i 17 then (bif Nat.blt i 16 then (8) else (12)) else (bif Nat.blt i 28 then (2147483647) else (30))))) else (bif Nat.blt i 58 then (bif Nat.blt i 45 then (bif Nat.blt i 43 then (bif Nat.blt i 30 then (150) else (2147483647)) else (bif Nat.blt i 44 then (3000) else (40))) else (bif Nat.blt i 53 then (bif Nat.blt i 52 then (2147483647) else (5)) else (bif Nat.blt i 57 then (2147483647) else (1)))) else (bif Nat.blt i 67 then (bif Nat.blt i 65 then (bif Nat.blt i 60 then (40) else (2147483647)) else (bif Nat.blt i 66 then (48) else (40))) else (bif Nat.blt i 69 then (bif Nat.blt i 68 then (8) else (1)) else (bif Nat.blt i 70 then (40) else (2147483647)))))))) else (bif Nat.blt a 79 then (255) else (bif Nat.blt a 81 then (2147483647) else (3))))) else (bif Nat.blt a 90 then (bif Nat.blt a 85 then (bif Nat.blt a 83 then (59) else (bif Nat.blt a 84 then (63) else (24))) else (bif Nat.blt a 86 then (2147483647) else (bif Nat.blt a 87 then (7) else (2147483647)))) else (bif Nat.blt a 94 then (bif Nat.blt a 91 then (5) else (bif Nat.blt a 92 then (149) else (2147483647))) else (bif Nat.blt a 95 then (1) else (bif Nat.blt a 99 then (2147483647) else (29)))))) else (bif Nat.blt a 113 then (bif Nat.blt a 106 then (bif Nat.blt a 102 then (bif Nat.blt a 101 then (30) else (2)) else (bif Nat.blt a 103 then (99) else (bif Nat.blt a 105 then (5) else (40)))) else (bif Nat.blt a 110 then (bif Nat.blt a 108 then (2147483647) else (bif Nat.blt a 109 then (39) else (29))) else (bif Nat.blt a 111 then (39) else (bif Nat.blt a 112 then (99) else (4))))) else (bif Nat.blt a 119 then (bif Nat.blt a 116 then (bif Nat.blt a 114 then (39) else (bif Nat.blt a 115 then (2147483647) else (4))) else (bif Nat.blt a 117 then (39) else (bif Nat.blt a 118 then (1) else (63)))) else (bif Nat.blt a 123 then (bif Nat.blt a 120 then (11) else (bif Nat.blt a 121 then (2147483647) else (29))) else (bif Nat.blt a 124 then (5) else (bif Nat.blt a 125 then (1) else (2147483647))))))))
noncomputable def g_S (M : mm_M) : Prop := M.1.1.1 = 126 ∧ (∀ a, a < 126 → M.1.1.2.1 a = g_ty a ∧ M.1.1.2.2 a = g_ln a) ∧ (∀ a i v, g_rf a i = some v → M.2.2.2 a i = some v)
noncomputable def g_R (M : mm_M) : Prop := ∀ a i, g_lo a i ≤ (M.2.1 a i).toInt ∧ (M.2.1 a i).toInt ≤ g_hi a i
noncomputable def g_G (M : mm_M) : Prop := g_S M ∧ g_R M ∧ M.2.1 79 69 = 32
/-- what may have changed -/
noncomputable def FR (P : Nat → Nat → Prop) (M M1 : mm_M) : Prop := M1.1 = M.1 ∧ M1.2.2.2 = M.2.2.2 ∧ ∀ a i, ¬ P a i → M1.2.1 a i = M.2.1 a i ∧ M1.2.2.1 a i = M.2.2.1 a i
noncomputable def g_PQ (M : mm_M) (p p2 q q2 : Nat) : Prop := M.2.2.2 0 8 = some p ∧ M.2.2.2 0 9 = some p2 ∧ M.2.2.2 0 10 = some q ∧ M.2.2.2 0 11 = some q2
section GG
variable {M M0 M1 : mm_M} {P P2 : Nat → Nat → Prop}
theorem FR.rf : FR P M M := ⟨rfl, rfl, fun _ _ _ => ⟨rfl, rfl⟩⟩
theorem FR.w {a i : Nat} {v : Int32} (h : FR P M0 M) (W : M1 = mm_setI M a i v) (hp : P a i) : FR P M0 M1 := by
  subst W
  refine ⟨h.1, h.2.1, fun b j hn => ⟨?_, (h.2.2 b j hn).2⟩⟩
  show (if b = a ∧ j = i then v else M.2.1 b j) = _
  rw [if_neg (fun z => hn (by rw [z.1, z.2]; exact hp))]
  exact (h.2.2 b j hn).1
theorem FR.wl {a i : Nat} {v : Int64} (h : FR P M0 M) (W : M1 = mm_setL M a i v) (hp : P a i) : FR P M0 M1 := by
  subst W
  refine ⟨h.1, h.2.1, fun b j hn => ⟨(h.2.2 b j hn).1, ?_⟩⟩
  show (if b = a ∧ j = i then v else M.2.2.1 b j) = _
  rw [if_neg (fun z => hn (by rw [z.1, z.2]; exact hp))]
  exact (h.2.2 b j hn).2
theorem FR.c (h : FR P M0 M) (h2 : FR P2 M M1) (hs : ∀ a i, P2 a i → P a i) : FR P M0 M1 := ⟨h2.1.trans h.1, h2.2.1.trans h.2.1, fun a i hn => ⟨((h2.2.2 a i (fun z => hn (hs a i z))).1).trans (h.2.2 a i hn).1, ((h2.2.2 a i (fun z => hn (hs a i z))).2).trans (h.2.2 a i hn).2⟩⟩
theorem g_o {a c : Nat} (hG : g_G M) (h : (Nat.blt a 126 && Nat.beq (g_ty a) c) = true) : mm_isObj M a c = true := by
  obtain ⟨⟨h1, h2, -⟩, -⟩ := hG
  rw [Bool.and_eq_true] at h
  have ha : a < 126 := Nat.le_of_ble_eq_true h.1
  unfold mm_isObj
  rw [h1, (h2 a ha).1, h.1, h.2]; rfl
theorem g_no {a c : Nat} (hG : g_G M) (h : (Nat.blt a 126 && !Nat.beq (g_ty a) c) = true) : mm_isObj M a c = false := by
  obtain ⟨⟨h1, h2, -⟩, -⟩ := hG
  rw [Bool.and_eq_true] at h
  have ha : a < 126 := Nat.le_of_ble_eq_true h.1
  unfold mm_isObj
  rw [(h2 a ha).1]
  have := h.2
  rw [Bool.not_eq_true'] at this
  rw [this, Bool.and_false]
theorem g_l {a n : Nat} (hG : g_G M) (ha : Nat.blt a 126 = true) (h : g_ln a = n) : M.1.1.2.2 a = n := by
  obtain ⟨⟨h1, h2, -⟩, -⟩ := hG
  rw [(h2 a (Nat.le_of_ble_eq_true ha)).2, h]
theorem g_r {a i v : Nat} (hG : g_G M) (h : g_rf a i = some v) : M.2.2.2 a i = some v := hG.1.2.2 a i v h
theorem g_b {a i : Nat} {lo hi : Int} (hG : g_G M) (h1 : g_lo a i = lo) (h2 : g_hi a i = hi) : lo ≤ (M.2.1 a i).toInt ∧ (M.2.1 a i).toInt ≤ hi := by
  have := hG.2.1 a i
  rw [h1, h2] at this
  exact this
theorem g_w {a i : Nat} {v : Int32} {A : Int} {lo hi : Int} (hG : g_G M) (W : M1 = mm_setI M a i v) (ev : v.toInt = A) (h1 : g_lo a i = lo) (h2 : g_hi a i = hi) (h3 : lo ≤ A ∧ A ≤ hi) (h79 : ¬ a = 79) : g_G M1 := by
  subst W
  refine ⟨hG.1, fun b j => ?_, ?_⟩
  · show g_lo b j ≤ (if b = a ∧ j = i then v else M.2.1 b j).toInt ∧ (if b = a ∧ j = i then v else M.2.1 b j).toInt ≤ g_hi b j
    by_cases z : b = a ∧ j = i
    · rw [if_pos z, z.1, z.2, h1, h2, ev]
      exact h3
    · rw [if_neg z]
      exact hG.2.1 b j
  · show (if 79 = a ∧ 69 = i then v else M.2.1 79 69) = 32
    rw [if_neg (fun z => h79 z.1.symm)]
    exact hG.2.2
theorem g_wf {a i : Nat} {v : Int32} (hG : g_G M) (W : M1 = mm_setI M a i v) (h1 : g_lo a i = -2147483648) (h2 : g_hi a i = 2147483647) (h79 : ¬ a = 79) : g_G M1 := g_w hG W rfl h1 h2 i_of h79
theorem g_wl {a i : Nat} {v : Int64} (hG : g_G M) (W : M1 = mm_setL M a i v) : g_G M1 := by
  subst W
  exact hG
theorem W_e {a i : Nat} {v : Int32} (W : M1 = mm_setI M a i v) : M1.2.1 a i = v := by
  subst W
  show (if a = a ∧ i = i then v else _) = v
  rw [if_pos ⟨rfl, rfl⟩]
theorem W_n {a i b j : Nat} {v w : Int32} (W : M1 = mm_setI M a i v) (hn : ¬ (b = a ∧ j = i)) (h : M.2.1 b j = w) : M1.2.1 b j = w := by
  subst W
  show (if b = a ∧ j = i then v else M.2.1 b j) = w
  rw [if_neg hn]; exact h
theorem W_l {a i b j : Nat} {v : Int64} {w : Int32} (W : M1 = mm_setL M a i v) (h : M.2.1 b j = w) : M1.2.1 b j = w := by
  subst W
  exact h
theorem F_n {a i : Nat} {w : Int32} (F : FR P M M1) (hn : ¬ P a i) (h : M.2.1 a i = w) : M1.2.1 a i = w := (F.2.2 a i hn).1.trans h
theorem F_nl {a i : Nat} {w : Int64} (F : FR P M M1) (hn : ¬ P a i) (h : M.2.2.1 a i = w) : M1.2.2.1 a i = w := (F.2.2 a i hn).2.trans h
theorem L_e {a i : Nat} {v : Int64} (W : M1 = mm_setL M a i v) : M1.2.2.1 a i = v := by
  subst W
  show (if a = a ∧ i = i then v else _) = v
  rw [if_pos ⟨rfl, rfl⟩]
theorem L_n {a i b j : Nat} {v w : Int64} (W : M1 = mm_setL M a i v) (hn : ¬ (b = a ∧ j = i)) (h : M.2.2.1 b j = w) : M1.2.2.1 b j = w := by
  subst W
  show (if b = a ∧ j = i then v else M.2.2.1 b j) = w
  rw [if_neg hn]; exact h
theorem W_j {a i b j : Nat} {v : Int32} {w : Int64} (W : M1 = mm_setI M a i v) (h : M.2.2.1 b j = w) : M1.2.2.1 b j = w := by
  subst W
  exact h
theorem PQ_w {a i p p2 q q2 : Nat} {v : Int32} (W : M1 = mm_setI M a i v) (h : g_PQ M p p2 q q2) : g_PQ M1 p p2 q q2 := by
  subst W
  exact h
theorem PQ_l {a i p p2 q q2 : Nat} {v : Int64} (W : M1 = mm_setL M a i v) (h : g_PQ M p p2 q q2) : g_PQ M1 p p2 q q2 := by
  subst W
  exact h
theorem PQ_f {p p2 q q2 : Nat} (F : FR P M M1) (h : g_PQ M p p2 q q2) : g_PQ M1 p p2 q q2 := by
  unfold g_PQ at h ⊢
  rw [F.2.1]
  exact h
end GG
section SM
variable {X : mm_X} {d mi pc : Nat} {ls st : List Value} {M : mm_M} {Q : Option Value → mm_M → Prop} {len a b : Nat} {ps : List Nat} {x y : Int32} {A B : Int}
/-- fields -/
theorem s_gI {i o : Nat} {lo hi : Int} (hc : mm_code mi pc = some (.getfield i, len, a, b, 0 :: ps)) (hG : g_G M) (ho : (Nat.blt o 126 && Nat.beq (g_ty o) a) = true) (h1 : g_lo o b = lo) (h2 : g_hi o b = hi) (h : ∀ v : Int32, M.2.1 o b = v → lo ≤ v.toInt → v.toInt ≤ hi → mm_T X d mi (pc + len) ls (.int v :: st) M Q) : mm_T X d mi pc ls (.ref o :: st) M Q := tt_gI hc (g_o hG ho) rfl (h _ rfl (g_b hG h1 h2).1 (g_b hG h1 h2).2)
theorem s_gZ {i o : Nat} {lo hi : Int} (hc : mm_code mi pc = some (.getfield i, len, a, b, 1 :: ps)) (hG : g_G M) (ho : (Nat.blt o 126 && Nat.beq (g_ty o) a) = true) (h1 : g_lo o b = lo) (h2 : g_hi o b = hi) (h : ∀ v : Int32, M.2.1 o b = v → lo ≤ v.toInt → v.toInt ≤ hi → mm_T X d mi (pc + len) ls (.int v :: st) M Q) : mm_T X d mi pc ls (.ref o :: st) M Q := tt_gZ hc (g_o hG ho) rfl (h _ rfl (g_b hG h1 h2).1 (g_b hG h1 h2).2)
theorem s_gF {i o : Nat} (hc : mm_code mi pc = some (.getfield i, len, a, b, 0 :: ps)) (hG : g_G M) (ho : (Nat.blt o 126 && Nat.beq (g_ty o) a) = true) (h : ∀ v : Int32, M.2.1 o b = v → mm_T X d mi (pc + len) ls (.int v :: st) M Q) : mm_T X d mi pc ls (.ref o :: st) M Q := tt_gI hc (g_o hG ho) rfl (h _ rfl)
theorem s_gJ {i o : Nat} (hc : mm_code mi pc = some (.getfield i, len, a, b, 2 :: ps)) (hG : g_G M) (ho : (Nat.blt o 126 && Nat.beq (g_ty o) a) = true) (h : ∀ v : Int64, mm_T X d mi (pc + len) ls (.long v :: st) M Q) : mm_T X d mi pc ls (.ref o :: st) M Q := tt_gJ hc (g_o hG ho) rfl (h _)
theorem s_gR {i o v : Nat} (hc : mm_code mi pc = some (.getfield i, len, a, b, 3 :: ps)) (hG : g_G M) (ho : (Nat.blt o 126 && Nat.beq (g_ty o) a) = true) (hv : g_rf o b = some v) (h : mm_T X d mi (pc + len) ls (.ref v :: st) M Q) : mm_T X d mi pc ls (.ref o :: st) M Q := tt_gR hc (g_o hG ho) (g_r hG hv) h
theorem s_pI {i o : Nat} (hc : mm_code mi pc = some (.putfield i, len, a, b, 0 :: ps)) (hG : g_G M) (ho : (Nat.blt o 126 && Nat.beq (g_ty o) a) = true) (h : ∀ M1, M1 = mm_setI M o b x → mm_T X d mi (pc + len) ls st M1 Q) : mm_T X d mi pc ls (.int x :: .ref o :: st) M Q := tt_pI hc (g_o hG ho) (h _ rfl)
theorem s_pZ {i o : Nat} (hc : mm_code mi pc = some (.putfield i, len, a, b, 1 :: ps)) (hG : g_G M) (ho : (Nat.blt o 126 && Nat.beq (g_ty o) a) = true) (ex : x.toInt = A) (h0 : 0 ≤ A ∧ A ≤ 1) (h : ∀ M1, M1 = mm_setI M o b x → mm_T X d mi (pc + len) ls st M1 Q) : mm_T X d mi pc ls (.int x :: .ref o :: st) M Q := tt_pZ hc (g_o hG ho) (by
  rcases (show A = 0 ∨ A = 1 by omega) with z | z
  · exact Or.inl ((i_eq ex (rfl : (0 : Int32).toInt = 0)).mpr z)
  · exact Or.inr ((i_eq ex (rfl : (1 : Int32).toInt = 1)).mpr z)) (h _ rfl)
theorem s_pJ {i o : Nat} {v : Int64} (hc : mm_code mi pc = some (.putfield i, len, a, b, 2 :: ps)) (hG : g_G M) (ho : (Nat.blt o 126 && Nat.beq (g_ty o) a) = true) (h : ∀ M1, M1 = mm_setL M o b v → mm_T X d mi (pc + len) ls st M1 Q) : mm_T X d mi pc ls (.long v :: .ref o :: st) M Q := tt_pJ hc (g_o hG ho) (h _ rfl)
/-- rows -/
theorem i_ix {n : Nat} (ex : x.toInt = A) (h0 : 0 ≤ A) (h1 : A < (n : Int)) : ¬ (x < 0 ∨ n ≤ x.toNatClampNeg) := by
  have e : x.toNatClampNeg = A.toNat := by rw [← ex]; rfl
  rw [e, i_lt (B := 0) ex (rfl : (0 : Int32).toInt = 0)]
  omega
theorem s_ial {o n : Nat} {lo hi : Int} (hc : mm_code mi pc = some (.iaload, len, a, b, ps)) (hG : g_G M) (ho : (Nat.blt o 126 && Nat.beq (g_ty o) 100) = true) (hn : g_ln o = n) (hx : Nat.ble mm_ext o = false) (ex : x.toInt = A) (h0 : 0 ≤ A) (h1 : A < (n : Int)) (hl : g_lo o A.toNat = lo) (hh : g_hi o A.toNat = hi) (h : ∀ v : Int32, M.2.1 o A.toNat = v → lo ≤ v.toInt → v.toInt ≤ hi → mm_T X d mi (pc + len) ls (.int v :: st) M Q) : mm_T X d mi pc ls (.int x :: .ref o :: st) M Q := by
  rw [Bool.and_eq_true] at ho
  refine tt_ial hc hx (g_o hG (by rw [Bool.and_eq_true]; exact ho)) (by rw [g_l hG ho.1 hn]; exact i_ix ex h0 h1) rfl ?_
  have e : x.toNatClampNeg = A.toNat := by rw [← ex]; rfl
  rw [e]
  exact h _ rfl (g_b hG hl hh).1 (g_b hG hl hh).2
theorem s_lal {o n : Nat} (hc : mm_code mi pc = some (.laload, len, a, b, ps)) (hG : g_G M) (ho : (Nat.blt o 126 && Nat.beq (g_ty o) 101) = true) (hn : g_ln o = n) (ex : x.toInt = A) (h0 : 0 ≤ A) (h1 : A < (n : Int)) (h : ∀ v : Int64, mm_T X d mi (pc + len) ls (.long v :: st) M Q) : mm_T X d mi pc ls (.int x :: .ref o :: st) M Q := by
  rw [Bool.and_eq_true] at ho
  exact to_lal hc (g_o hG (by rw [Bool.and_eq_true]; exact ho)) (by rw [g_l hG ho.1 hn]; exact i_ix ex h0 h1) rfl (h _)
theorem s_bal {o n : Nat} {lo hi : Int} (hc : mm_code mi pc = some (.baload, len, a, b, ps)) (hG : g_G M) (ho : (Nat.blt o 126 && (Nat.beq (g_ty o) 102 || Nat.beq (g_ty o) 103)) = true) (hn : g_ln o = n) (ex : x.toInt = A) (h0 : 0 ≤ A) (h1 : A < (n : Int)) (hl : g_lo o A.toNat = lo) (hh : g_hi o A.toNat = hi) (h : ∀ v : Int32, M.2.1 o A.toNat = v → lo ≤ v.toInt → v.toInt ≤ hi → mm_T X d mi (pc + len) ls (.int v :: st) M Q) : mm_T X d mi pc ls (.int x :: .ref o :: st) M Q := by
  rw [Bool.and_eq_true, Bool.or_eq_true] at ho
  refine to_bal hc ?_ (by rw [g_l hG ho.1 hn]; exact i_ix ex h0 h1) rfl ?_
  · rcases ho.2 with z | z
    · rw [g_o hG (by rw [Bool.and_eq_true]; exact ⟨ho.1, z⟩)]; rfl
    · rw [g_o (c := 103) hG (by rw [Bool.and_eq_true]; exact ⟨ho.1, z⟩), Bool.or_true]
  · have e : x.toNatClampNeg = A.toNat := by rw [← ex]; rfl
    rw [e]
    exact h _ rfl (g_b hG hl hh).1 (g_b hG hl hh).2
theorem s_ias {o n : Nat} (hc : mm_code mi pc = some (.iastore, len, a, b, ps)) (hG : g_G M) (ho : (Nat.blt o 126 && Nat.beq (g_ty o) 100) = true) (hn : g_ln o = n) (ex : x.toInt = A) (h0 : 0 ≤ A) (h1 : A < (n : Int)) (h : ∀ M1, M1 = mm_setI M o A.toNat y → mm_T X d mi (pc + len) ls st M1 Q) : mm_T X d mi pc ls (.int y :: .int x :: .ref o :: st) M Q := by
  rw [Bool.and_eq_true] at ho
  exact to_ias hc (g_o hG (by rw [Bool.and_eq_true]; exact ho)) (by rw [g_l hG ho.1 hn]; exact i_ix ex h0 h1) (show x.toNatClampNeg = A.toNat by rw [← ex]; rfl) (h _ rfl)
theorem s_bas {o n : Nat} (hc : mm_code mi pc = some (.bastore, len, a, b, ps)) (hG : g_G M) (ho : (Nat.blt o 126 && Nat.beq (g_ty o) 103) = true) (hn : g_ln o = n) (ex : x.toInt = A) (h0 : 0 ≤ A) (h1 : A < (n : Int)) (h : ∀ M1 v, M1 = mm_setI M o A.toNat v → mm_T X d mi (pc + len) ls st M1 Q) : mm_T X d mi pc ls (.int y :: .int x :: .ref o :: st) M Q := by
  rw [Bool.and_eq_true] at ho
  have e103 := Nat.eq_of_beq_eq_true ho.2
  exact to_bas hc (g_no hG (by rw [ho.1, e103]; rfl)) (g_o hG (by rw [Bool.and_eq_true]; exact ho)) (by rw [g_l hG ho.1 hn]; exact i_ix ex h0 h1) (show x.toNatClampNeg = A.toNat by rw [← ex]; rfl) rfl (h _ _ rfl)
theorem s_zas {o n : Nat} (hc : mm_code mi pc = some (.bastore, len, a, b, ps)) (hG : g_G M) (ho : (Nat.blt o 126 && Nat.beq (g_ty o) 102) = true) (hn : g_ln o = n) (ex : x.toInt = A) (h0 : 0 ≤ A) (h1 : A < (n : Int)) (ey : y.toInt = B) (hb : 0 ≤ B ∧ B ≤ 1) (h : ∀ M1, M1 = mm_setI M o A.toNat y → mm_T X d mi (pc + len) ls st M1 Q) : mm_T X d mi pc ls (.int y :: .int x :: .ref o :: st) M Q := tt_1 hc (by
  rw [Bool.and_eq_true] at ho
  show mm_b (mm_isObj M o 102) (if x < 0 ∨ M.1.1.2.2 o ≤ x.toNatClampNeg then False else (mm_T X d mi (pc + len) ls st (mm_setI M o x.toNatClampNeg (y &&& 1)) Q)) _
  rw [g_o hG (by rw [Bool.and_eq_true]; exact ho)]
  show (if x < 0 ∨ M.1.1.2.2 o ≤ x.toNatClampNeg then False else (mm_T X d mi (pc + len) ls st (mm_setI M o x.toNatClampNeg (y &&& 1)) Q))
  rw [if_neg (by rw [g_l hG ho.1 hn]; exact i_ix ex h0 h1), show x.toNatClampNeg = A.toNat by rw [← ex]; rfl]
  have e : y &&& 1 = y := by
    rcases (show B = 0 ∨ B = 1 by omega) with z | z
    · rw [(i_eq ey (rfl : (0 : Int32).toInt = 0)).mpr z]; rfl
    · rw [(i_eq ey (rfl : (1 : Int32).toInt = 1)).mpr z]; rfl
  rw [e]
  exact h _ rfl)
theorem s_las {o n : Nat} {v : Int64} (hc : mm_code mi pc = some (.lastore, len, a, b, ps)) (hG : g_G M) (ho : (Nat.blt o 126 && Nat.beq (g_ty o) 101) = true) (hn : g_ln o = n) (ex : x.toInt = A) (h0 : 0 ≤ A) (h1 : A < (n : Int)) (h : ∀ M1, M1 = mm_setL M o A.toNat v → mm_T X d mi (pc + len) ls st M1 Q) : mm_T X d mi pc ls (.long v :: .int x :: .ref o :: st) M Q := tt_1 hc (by
  rw [Bool.and_eq_true] at ho
  show mm_b (mm_isObj M o 101) (if x < 0 ∨ M.1.1.2.2 o ≤ x.toNatClampNeg then False else (mm_T X d mi (pc + len) ls st (mm_setL M o x.toNatClampNeg v) Q)) False
  rw [g_o hG (by rw [Bool.and_eq_true]; exact ho)]
  show (if x < 0 ∨ M.1.1.2.2 o ≤ x.toNatClampNeg then False else (mm_T X d mi (pc + len) ls st (mm_setL M o x.toNatClampNeg v) Q))
  rw [if_neg (by rw [g_l hG ho.1 hn]; exact i_ix ex h0 h1), show x.toNatClampNeg = A.toNat by rw [← ex]; rfl]
  exact h _ rfl)
theorem s_len {o n : Nat} {v : Int32} (hc : mm_code mi pc = some (.arraylength, len, a, b, ps)) (hG : g_G M) (hx : Nat.ble mm_ext o = false) (ho : (Nat.blt o 126 && Nat.ble 100 (g_ty o) && Nat.ble (g_ty o) 104) = true) (hn : g_ln o = n) (hv : Int32.ofNat n = v) (h : mm_T X d mi (pc + len) ls (.int v :: st) M Q) : mm_T X d mi pc ls (.ref o :: st) M Q := by
  rw [Bool.and_eq_true, Bool.and_eq_true] at ho
  refine tt_len hc hx ?_ (g_l hG ho.1.1 hn) (by rw [hv]; exact h)
  have ha : o < 126 := Nat.le_of_ble_eq_true ho.1.1
  rw [(hG.1.2.1 o ha).1, hG.1.1, ho.1.1, ho.1.2, ho.2]; rfl
/-- calls -/
theorem s_v {k y n : Nat} {as st0 rest ls0 : List Value} (hc : mm_code mi pc = some (.invokevirtual k, len, y, n, ps)) (hd : 1 ≤ d) (hp : mm_pop n [] st0 (fun x r => (x, r)) ([], []) = (as, rest)) (hn : n ≤ st0.length) (h8 : mm_w8 rest ≤ 8) (hy : Nat.beq y 998 = false) (hrc : mm_rc M y as = true) (he : mm_entry y as = ls0) (h : mm_T X (d - 1) y 0 ls0 [] M (fun r1 M1 => mm_T X d mi (pc + 3) ls (r1.toList ++ rest) M1 Q)) : mm_T X d mi pc ls st0 M Q := by
  obtain ⟨e, rfl⟩ : ∃ e, d = e + 1 := ⟨d - 1, by omega⟩
  exact to_v hc rfl hp hn h8 hy hrc he h
theorem s_s {k y n : Nat} {as st0 rest ls0 : List Value} (hc : mm_code mi pc = some (.invokestatic k, len, y, n, ps)) (hd : 1 ≤ d) (hp : mm_pop n [] st0 (fun x r => (x, r)) ([], []) = (as, rest)) (hn : n ≤ st0.length) (h8 : mm_w8 rest ≤ 8) (hy : (Nat.beq y 998 || Nat.beq y 997 || Nat.beq y 996) = false) (hrc : mm_rc M y as = true) (he : mm_entry y as = ls0) (h : mm_T X (d - 1) y 0 ls0 [] M (fun r1 M1 => mm_T X d mi (pc + 3) ls (r1.toList ++ rest) M1 Q)) : mm_T X d mi pc ls st0 M Q := by
  obtain ⟨e, rfl⟩ : ∃ e, d = e + 1 := ⟨d - 1, by omega⟩
  exact to_s hc hp hn h8 hy hrc he h
end SM
noncomputable def g_xn (e : Nat) : Nat := bif Nat.beq e 1 then 15 else 10
noncomputable def g_X (X : mm_X) : Prop := ∀ e : Nat, 1 ≤ e → e ≤ 3 → (X e).1 = g_xn e
theorem i_shr {x y : Int32} {A : Int} (ex : x.toInt = A) (h : 0 ≤ A) : 0 ≤ (x >>> y).toInt ∧ (x >>> y).toInt ≤ A := by
  have hx : x.toBitVec.msb = false := by
    rw [BitVec.msb_eq_toInt]
    have : x.toBitVec.toInt = A := ex
    simp only [this, decide_eq_false_iff_not]; omega
  obtain ⟨k, hk⟩ : ∃ k : Nat, (x >>> y).toBitVec = x.toBitVec.sshiftRight k := ⟨_, rfl⟩
  have e : (x >>> y).toInt = x.toBitVec.toInt >>> k := by
    show (x >>> y).toBitVec.toInt = _
    rw [hk, BitVec.toInt_sshiftRight]
  have e2 : x.toBitVec.toInt = A := ex
  rw [e, e2, Int.shiftRight_eq_div_pow]
  refine ⟨Int.ediv_nonneg h (by have : (0 : Int) ≤ ((2 ^ k : Nat) : Int) := Int.natCast_nonneg _; exact this), ?_⟩
  exact Int.ediv_le_self _ h
theorem i_shl1 {y : Int32} {B : Int} (ey : y.toInt = B) (h : 0 ≤ B ∧ B ≤ 6) : 1 ≤ ((1 : Int32) <<< y).toInt ∧ ((1 : Int32) <<< y).toInt ≤ 64 := by
  rcases (show B = 0 ∨ B = 1 ∨ B = 2 ∨ B = 3 ∨ B = 4 ∨ B = 5 ∨ B = 6 by omega) with z | z | z | z | z | z | z <;> subst z
  · rw [(i_eq ey (rfl : (0 : Int32).toInt = 0)).mpr rfl]; decide
  · rw [(i_eq ey (rfl : (1 : Int32).toInt = 1)).mpr rfl]; decide
  · rw [(i_eq ey (rfl : (2 : Int32).toInt = 2)).mpr rfl]; decide
  · rw [(i_eq ey (rfl : (3 : Int32).toInt = 3)).mpr rfl]; decide
  · rw [(i_eq ey (rfl : (4 : Int32).toInt = 4)).mpr rfl]; decide
  · rw [(i_eq ey (rfl : (5 : Int32).toInt = 5)).mpr rfl]; decide
  · rw [(i_eq ey (rfl : (6 : Int32).toInt = 6)).mpr rfl]; decide
theorem i_div {x y : Int32} {A B : Int} (ex : x.toInt = A) (ey : y.toInt = B) (h0 : 0 ≤ A) (h1 : 1 ≤ B) : (x / y).toInt = A / B ∧ 0 ≤ A / B ∧ A / B ≤ A := by
  have hA := (i_of (x := x))
  have g1 : 0 ≤ A / B := Int.ediv_nonneg h0 (by omega)
  have g2 : A / B ≤ A := Int.ediv_le_self _ h0
  rw [ex] at hA
  refine ⟨?_, g1, g2⟩
  rw [Int32.toInt_div, ex, ey, Int.tdiv_eq_ediv_of_nonneg h0, i_bm (by omega)]
theorem i_rem {x y : Int32} {A B : Int} (ex : x.toInt = A) (ey : y.toInt = B) (h0 : 0 ≤ A) (h1 : 1 ≤ B) : (x - x / y * y).toInt = A % B ∧ 0 ≤ A % B ∧ A % B < B := by
  have hA := (i_of (x := x))
  rw [ex] at hA
  obtain ⟨e1, e2, e3⟩ := i_div ex ey h0 h1
  have g0 : 0 ≤ A % B := Int.emod_nonneg A (by omega)
  have g1 : A % B < B := Int.emod_lt_of_pos A (by omega)
  have g2 : A / B * B = A - A % B := by
    have := Int.mul_ediv_add_emod A B
    rw [Int.mul_comm] at this
    omega
  have g4 : 0 ≤ A / B * B := Int.mul_nonneg e2 (by omega)
  have g3 : A % B ≤ A := by omega
  have e4 : (x / y * y).toInt = A / B * B := i_mul e1 ey (by rw [g2]; omega)
  refine ⟨?_, g0, g1⟩
  rw [i_sub ex e4 (by rw [g2]; omega), g2]
  omega
theorem W_r {M M1 : mm_M} {a i b j : Nat} {v w : Int32} (W : M1 = mm_setI M a i v) (hn : ¬ (b = a ∧ j = i)) (h : M.2.1 b j = w) : M1.2.1 b j = w := W_n W hn h
section S3
variable {X : mm_X} {d mi pc : Nat} {ls st : List Value} {M M0 M1 : mm_M} {Q : Option Value → mm_M → Prop} {len a b : Nat} {ps : List Nat} {x y : Int32} {A B : Int}
theorem s_shr (hc : mm_code mi pc = some (.ishr, len, a, b, ps)) (ex : x.toInt = A) (hr : 0 ≤ A) (h : ∀ v : Int32, 0 ≤ v.toInt → v.toInt ≤ A → mm_T X d mi (pc + len) ls (.int v :: st) M Q) : mm_T X d mi pc ls (.int y :: .int x :: st) M Q := tt_1 hc (h (x >>> y) (i_shr ex hr).1 (i_shr ex hr).2)
theorem s_shl1 (hc : mm_code mi pc = some (.ishl, len, a, b, ps)) (ey : y.toInt = B) (hr : 0 ≤ B ∧ B ≤ 6) (h : ∀ v : Int32, 1 ≤ v.toInt → v.toInt ≤ 64 → mm_T X d mi (pc + len) ls (.int v :: st) M Q) : mm_T X d mi pc ls (.int y :: .int (1 : Int32) :: st) M Q := tt_1 hc (h ((1 : Int32) <<< y) (i_shl1 ey hr).1 (i_shl1 ey hr).2)
theorem i_n0 (ey : y.toInt = B) (h1 : 1 ≤ B) : ¬ y = 0 := fun z => by
  have := (i_eq (B := 0) ey (rfl : (0 : Int32).toInt = 0)).mp z
  omega
theorem s_idiv (hc : mm_code mi pc = some (.idiv, len, a, b, ps)) (ex : x.toInt = A) (ey : y.toInt = B) (h0 : 0 ≤ A) (h1 : 1 ≤ B) (h : ∀ v : Int32, v.toInt = A / B → (0 ≤ v.toInt ∧ v.toInt ≤ A) → mm_T X d mi (pc + len) ls (.int v :: st) M Q) : mm_T X d mi pc ls (.int y :: .int x :: st) M Q := to_2 (v := x / y) hc (by
  show (if y = 0 then none else some (x / y)) = some (x / y)
  rw [if_neg (i_n0 ey h1)]) (h _ (i_div ex ey h0 h1).1 (by rw [(i_div ex ey h0 h1).1]; exact (i_div ex ey h0 h1).2))
theorem s_irem (hc : mm_code mi pc = some (.irem, len, a, b, ps)) (ex : x.toInt = A) (ey : y.toInt = B) (h0 : 0 ≤ A) (h1 : 1 ≤ B) (h : ∀ v : Int32, v.toInt = A % B → (0 ≤ v.toInt ∧ v.toInt < B) → mm_T X d mi (pc + len) ls (.int v :: st) M Q) : mm_T X d mi pc ls (.int y :: .int x :: st) M Q := to_2 (v := x - x / y * y) hc (by
  show (if y = 0 then none else some (x - x / y * y)) = some (x - x / y * y)
  rw [if_neg (i_n0 ey h1)]) (h _ (i_rem ex ey h0 h1).1 (by rw [(i_rem ex ey h0 h1).1]; exact (i_rem ex ey h0 h1).2))
theorem s_ldiv {u v : Int64} (hc : mm_code mi pc = some (.ldiv, len, a, b, ps)) (e : v = y.toInt64) (ey : y.toInt = A) (h1 : 1 ≤ A) (h : ∀ w : Int64, mm_T X d mi (pc + len) ls (.long w :: st) M Q) : mm_T X d mi pc ls (.long v :: .long u :: st) M Q := tt_1 hc (by
  show (if v = 0 then False else mm_T X d mi (pc + len) ls (.long (u / v) :: st) M Q)
  rw [if_neg (fun z => ?_)]
  · exact h _
  · have h2 : v.toInt = 0 := by rw [z]; rfl
    rw [e, Int32.toInt_toInt64] at h2
    omega)
theorem s_incx {k : Nat} {n : Int} {ls2 : Int32 → List Value} (hc : mm_code mi pc = some (.iinc k n, len, a, b, ps)) (hv : mm_at ls k = .int x) (hn : Nat.blt k ls.length = true) (hs : ∀ v, mm_set ls k (.int v) = ls2 v) (h : ∀ v : Int32, mm_T X d mi (pc + len) (ls2 v) st M Q) : mm_T X d mi pc ls st M Q := to_inc hc hv hn (hs _) (h _)
theorem s_pop2 {v : Int64} (hc : mm_code mi pc = some (.pop2, len, a, b, ps)) (h : mm_T X d mi (pc + len) ls st M Q) : mm_T X d mi pc ls (.long v :: st) M Q := tt_1 hc h
theorem s_swd {o lo hi : Int} {os : Array Int} (hc : mm_code mi pc = some (.tableswitch o lo hi os, len, a, b, ps)) (ex : x.toInt = A) (hv : A < lo ∨ hi < A) (h : mm_T X d mi a ls st M Q) : mm_T X d mi pc ls (.int x :: st) M Q := to_swd hc (by rw [ex]; exact hv) h
theorem s_sw {o lo hi k : Int} {os : Array Int} {t : Nat} (hc : mm_code mi pc = some (.tableswitch o lo hi os, len, a, b, ps)) (ex : x.toInt = A) (hv : A = k) (hb : ¬ (k < lo ∨ hi < k)) (ht : ps[(k - lo).toNat]? = some t) (h : mm_T X d mi t ls st M Q) : mm_T X d mi pc ls (.int x :: st) M Q := to_sw hc (by rw [ex, hv]; exact hb) (by rw [ex, hv]; exact ht) h
theorem s_xal {e n : Nat} (hc : mm_code mi pc = some (.iaload, len, a, b, ps)) (hX : g_X X) (he : (Nat.ble 1 e && Nat.ble e 3 && Nat.beq (g_xn e) n) = true) (ex : x.toInt = A) (h0 : 0 ≤ A) (h1 : A < (n : Int)) (h : ∀ v : Int32, mm_T X d mi (pc + len) ls (.int v :: st) M Q) : mm_T X d mi pc ls (.int x :: .ref (mm_ext + e) :: st) M Q := by
  rw [Bool.and_eq_true, Bool.and_eq_true] at he
  have hn := hX e (Nat.le_of_ble_eq_true he.1.1) (Nat.le_of_ble_eq_true he.1.2)
  rw [Nat.eq_of_beq_eq_true he.2] at hn
  exact tt_xal hc (by rw [hn]; exact i_ix ex h0 h1) rfl (h _)
theorem s_xlen {e n : Nat} {v : Int32} (hc : mm_code mi pc = some (.arraylength, len, a, b, ps)) (hX : g_X X) (he : (Nat.ble 1 e && Nat.ble e 3 && Nat.beq (g_xn e) n) = true) (hv : Int32.ofNat n = v) (h : mm_T X d mi (pc + len) ls (.int v :: st) M Q) : mm_T X d mi pc ls (.ref (mm_ext + e) :: st) M Q := by
  rw [Bool.and_eq_true, Bool.and_eq_true] at he
  have hn := hX e (Nat.le_of_ble_eq_true he.1.1) (Nat.le_of_ble_eq_true he.1.2)
  rw [Nat.eq_of_beq_eq_true he.2] at hn
  exact to_xlen hc (by rw [hn]; exact hv) h
theorem s_ialk {o n : Nat} {v : Int32} (hc : mm_code mi pc = some (.iaload, len, a, b, ps)) (hG : g_G M) (ho : (Nat.blt o 126 && Nat.beq (g_ty o) 100) = true) (hn : g_ln o = n) (hx : Nat.ble mm_ext o = false) (ex : x.toInt = A) (h0 : 0 ≤ A) (h1 : A < (n : Int)) (hv : M.2.1 o A.toNat = v) (h : mm_T X d mi (pc + len) ls (.int v :: st) M Q) : mm_T X d mi pc ls (.int x :: .ref o :: st) M Q := by
  rw [Bool.and_eq_true] at ho
  exact tt_ial hc hx (g_o hG (by rw [Bool.and_eq_true]; exact ho)) (by rw [g_l hG ho.1 hn]; exact i_ix ex h0 h1) (by rw [show x.toNatClampNeg = A.toNat by rw [← ex]; rfl]; exact hv) h
theorem s_balk {o n : Nat} {v : Int32} (hc : mm_code mi pc = some (.baload, len, a, b, ps)) (hG : g_G M) (ho : (Nat.blt o 126 && (Nat.beq (g_ty o) 102 || Nat.beq (g_ty o) 103)) = true) (hn : g_ln o = n) (ex : x.toInt = A) (h0 : 0 ≤ A) (h1 : A < (n : Int)) (hv : M.2.1 o A.toNat = v) (h : mm_T X d mi (pc + len) ls (.int v :: st) M Q) : mm_T X d mi pc ls (.int x :: .ref o :: st) M Q := by
  rw [Bool.and_eq_true, Bool.or_eq_true] at ho
  refine to_bal hc ?_ (by rw [g_l hG ho.1 hn]; exact i_ix ex h0 h1) (by rw [show x.toNatClampNeg = A.toNat by rw [← ex]; rfl]; exact hv) h
  rcases ho.2 with z | z
  · rw [g_o hG (by rw [Bool.and_eq_true]; exact ⟨ho.1, z⟩)]; rfl
  · rw [g_o (c := 103) hG (by rw [Bool.and_eq_true]; exact ⟨ho.1, z⟩), Bool.or_true]
theorem s_gs {k : Nat} (hc : mm_code mi pc = some (.getstatic k, len, a, b, ps)) (h : mm_T X d mi (pc + len) ls (.ref (mm_ext + a) :: st) M Q) : mm_T X d mi pc ls st M Q := tt_1 hc h
theorem s_aal (hc : mm_code mi pc = some (.aaload, len, a, b, ps)) (hG : g_G M) (ex : x.toInt = A) (h0 : 0 ≤ A) (h1 : A < 6) (h : ∀ r : Nat, (19 ≤ r ∧ r ≤ 24) → mm_T X d mi (pc + len) ls (.ref r :: st) M Q) : mm_T X d mi pc ls (.int x :: .ref 18 :: st) M Q := tt_1 hc (by
  show mm_b (mm_isObj M 18 104) (if x < 0 ∨ M.1.1.2.2 18 ≤ x.toNatClampNeg then False else mm_gO (M.2.2.2 18 x.toNatClampNeg) (fun v => mm_T X d mi (pc + len) ls (.ref v :: st) M Q) False) False
  rw [g_o hG rfl]
  show (if x < 0 ∨ M.1.1.2.2 18 ≤ x.toNatClampNeg then False else mm_gO (M.2.2.2 18 x.toNatClampNeg) (fun v => mm_T X d mi (pc + len) ls (.ref v :: st) M Q) False)
  rw [if_neg (by rw [g_l (n := 6) hG rfl rfl]; exact i_ix ex h0 h1), show x.toNatClampNeg = A.toNat by rw [← ex]; rfl]
  obtain ⟨k, hk, h6⟩ : ∃ k : Nat, A.toNat = k ∧ k < 6 := ⟨_, rfl, by omega⟩
  rw [hk]
  rcases (show k = 0 ∨ k = 1 ∨ k = 2 ∨ k = 3 ∨ k = 4 ∨ k = 5 by omega) with z | z | z | z | z | z <;> subst z
  · rw [g_r (v := 19) hG rfl]; exact h 19 (by decide)
  · rw [g_r (v := 20) hG rfl]; exact h 20 (by decide)
  · rw [g_r (v := 21) hG rfl]; exact h 21 (by decide)
  · rw [g_r (v := 22) hG rfl]; exact h 22 (by decide)
  · rw [g_r (v := 23) hG rfl]; exact h 23 (by decide)
  · rw [g_r (v := 24) hG rfl]; exact h 24 (by decide))
theorem rr_o {r : Nat} {p : Nat → Prop} (h1 : 19 ≤ r) (h2 : r ≤ 24) (h : p 19 ∧ p 20 ∧ p 21 ∧ p 22 ∧ p 23 ∧ p 24) : p r := by
  rcases (show r = 19 ∨ r = 20 ∨ r = 21 ∨ r = 22 ∨ r = 23 ∨ r = 24 by omega) with z | z | z | z | z | z <;> subst z
  · exact h.1
  · exact h.2.1
  · exact h.2.2.1
  · exact h.2.2.2.1
  · exact h.2.2.2.2.1
  · exact h.2.2.2.2.2
theorem rr_6 {r : Nat} (h : 19 ≤ r ∧ r ≤ 24) : r = 19 ∨ r = 20 ∨ r = 21 ∨ r = 22 ∨ r = 23 ∨ r = 24 := by omega
theorem g_oW {o c i j : Nat} {v : Int32} (hG : g_G M) (W : M1 = mm_setI M i j v) (h : (Nat.blt o 126 && Nat.beq (g_ty o) c) = true) : mm_isObj M1 o c = true := by
  subst W
  exact g_o (M := M) hG h
theorem W_ww {i j : Nat} {v w : Int32} (W : M1 = mm_setI M i j v) (W0 : M = mm_setI M0 i j w) : M1 = mm_setI M0 i j v := by
  subst W0
  rw [W]
  unfold mm_setI
  refine congrArg (fun f => (M0.1, f, M0.2.2.1, M0.2.2.2)) ?_
  funext b k
  show (if b = i ∧ k = j then v else if b = i ∧ k = j then w else M0.2.1 b k) = (if b = i ∧ k = j then v else M0.2.1 b k)
  by_cases z : b = i ∧ k = j
  · rw [if_pos z, if_pos z]
  · rw [if_neg z, if_neg z, if_neg z]
theorem s_pI0 {i o : Nat} (hc : mm_code mi pc = some (.putfield i, len, a, b, 0 :: ps)) (ho : mm_isObj M o a = true) (h : ∀ M1, M1 = mm_setI M o b x → mm_T X d mi (pc + len) ls st M1 Q) : mm_T X d mi pc ls (.int x :: .ref o :: st) M Q := tt_pI hc ho (h _ rfl)
theorem s_addo (hc : mm_code mi pc = some (.iadd, len, a, b, ps)) (ex : x.toInt = A) (ey : y.toInt = B) (h : ∀ v : Int32, (v.toInt = A + B ∨ A + B < -2147483648 ∨ 2147483647 < A + B) → mm_T X d mi (pc + len) ls (.int v :: st) M Q) : mm_T X d mi pc ls (.int y :: .int x :: st) M Q := tt_1 hc (h (x + y) (by
  by_cases z : -2147483648 ≤ A + B ∧ A + B ≤ 2147483647
  · exact Or.inl (i_add ex ey z)
  · omega))
theorem s_subo (hc : mm_code mi pc = some (.isub, len, a, b, ps)) (ex : x.toInt = A) (ey : y.toInt = B) (h : ∀ v : Int32, (v.toInt = A - B ∨ A - B < -2147483648 ∨ 2147483647 < A - B) → mm_T X d mi (pc + len) ls (.int v :: st) M Q) : mm_T X d mi pc ls (.int y :: .int x :: st) M Q := tt_1 hc (h (x - y) (by
  by_cases z : -2147483648 ≤ A - B ∧ A - B ≤ 2147483647
  · exact Or.inl (i_sub ex ey z)
  · omega))
end S3
/-! what holds between rows: of PLANS, that no FIELD ends ahead of its first HOLE; of NOTES, what their numbers are by kind; of QUESTIONS, that a VALUE's FIELD is one -/
noncomputable def PI (M : mm_M) : Prop := ∀ i : Nat, (M.2.1 52 i).toInt ≤ (M.2.1 53 i).toInt ∧ (M.2.1 61 i).toInt ≤ (M.2.1 62 i).toInt
abbrev PI_r (a : Nat) : Prop := a = 52 ∨ a = 53 ∨ a = 61 ∨ a = 62
theorem PI_f {M M1 : mm_M} (h : ∀ a i, PI_r a → M1.2.1 a i = M.2.1 a i) (H : PI M) : PI M1 := fun i => by
  rw [h 52 i (by omega), h 53 i (by omega), h 61 i (by omega), h 62 i (by omega)]
  exact H i
theorem PI_p {M : mm_M} {p : Nat} (H : PI M) (hp : p = 49 ∨ p = 58) (i : Nat) : (M.2.1 (p + 3) i).toInt ≤ (M.2.1 (p + 4) i).toInt := by
  rcases hp with rfl | rfl
  · exact (H i).1
  · exact (H i).2
theorem PI_k {M M1 M2 : mm_M} {p k : Nat} {f l : Int32} (H : PI M) (hp : p = 49 ∨ p = 58) (W1 : M1 = mm_setI M (p + 3) k f) (W2 : M2 = mm_setI M1 (p + 4) k l) (hf : f.toInt ≤ l.toInt) : PI M2 := by
  intro i
  have key : ∀ q, q = 49 ∨ q = 58 → (M2.2.1 (q + 3) i).toInt ≤ (M2.2.1 (q + 4) i).toInt := by
    intro q hq
    by_cases z : q = p ∧ i = k
    · obtain ⟨rfl, rfl⟩ := z
      rw [W_e W2, W_n W2 (by omega) (W_e W1)]
      exact hf
    · rw [W_n W2 (by omega) (W_n W1 (by omega) rfl), W_n W2 (by omega) (W_n W1 (by omega) rfl)]
      exact PI_p H hq i
  exact ⟨key 49 (Or.inl rfl), key 58 (Or.inr rfl)⟩
abbrev NI_c (k f s : Int) : Prop := (k = 0 → f ≤ 29 ∧ 0 ≤ s ∧ s ≤ 7) ∧ (k = 1 → f ≤ 29 ∧ 0 ≤ s ∧ s ≤ 11) ∧ (k = 2 → f ≤ 29) ∧ (k = 3 → f ≤ 29) ∧ (k = 4 → f ≤ 11)
noncomputable def NI (M : mm_M) : Prop := ∀ i : Nat, NI_c (M.2.1 7 i).toInt (M.2.1 8 i).toInt (M.2.1 9 i).toInt
theorem NI_f {M M1 : mm_M} (h : ∀ a i, (7 ≤ a ∧ a ≤ 9) → M1.2.1 a i = M.2.1 a i) (H : NI M) : NI M1 := fun i => by
  rw [h 7 i (by omega), h 8 i (by omega), h 9 i (by omega)]
  exact H i
theorem NI_u {M : mm_M} (H : NI M) (i : Nat) : NI_c (M.2.1 7 i).toInt (M.2.1 8 i).toInt (M.2.1 9 i).toInt := H i
theorem NI_k {M M1 M2 M3 : mm_M} {n : Nat} {k f s : Int32} (H : NI M) (W1 : M1 = mm_setI M 7 n k) (W2 : M2 = mm_setI M1 8 n f) (W3 : M3 = mm_setI M2 9 n s) (hc : NI_c k.toInt f.toInt s.toInt) : NI M3 := by
  intro i
  by_cases z : i = n
  · subst z
    rw [W_n W3 (by omega) (W_n W2 (by omega) (W_e W1)), W_n W3 (by omega) (W_e W2), W_e W3]
    exact hc
  · rw [W_n W3 (by omega) (W_n W2 (by omega) (W_n W1 (by omega) rfl)), W_n W3 (by omega) (W_n W2 (by omega) (W_n W1 (by omega) rfl)), W_n W3 (by omega) (W_n W2 (by omega) (W_n W1 (by omega) rfl))]
    exact H i
noncomputable def QI (M : mm_M) : Prop := ∀ i : Nat, ((M.2.1 68 i).toInt = 0 → (M.2.1 69 i).toInt ≤ 7) ∧ ((M.2.1 73 i).toInt = 0 → (M.2.1 74 i).toInt ≤ 7)
theorem QI_f {M M1 : mm_M} (h : ∀ a i, (a = 68 ∨ a = 69 ∨ a = 73 ∨ a = 74) → M1.2.1 a i = M.2.1 a i) (H : QI M) : QI M1 := fun i => by
  rw [h 68 i (by omega), h 69 i (by omega), h 73 i (by omega), h 74 i (by omega)]
  exact H i
theorem QI_u {M : mm_M} {q : Nat} (H : QI M) (hq : q = 67 ∨ q = 72) (i : Nat) : (M.2.1 (q + 1) i).toInt = 0 → (M.2.1 (q + 2) i).toInt ≤ 7 := by
  rcases hq with rfl | rfl
  · exact (H i).1
  · exact (H i).2
theorem QI_k {M M1 M2 : mm_M} {q n : Nat} {k f : Int32} (H : QI M) (hq : q = 67 ∨ q = 72) (W1 : M1 = mm_setI M (q + 1) n k) (W2 : M2 = mm_setI M1 (q + 2) n f) (hc : k.toInt = 0 → f.toInt ≤ 7) : QI M2 := by
  intro i
  have key : ∀ q2, q2 = 67 ∨ q2 = 72 → ((M2.2.1 (q2 + 1) i).toInt = 0 → (M2.2.1 (q2 + 2) i).toInt ≤ 7) := by
    intro q2 hq2
    by_cases z : q2 = q ∧ i = n
    · obtain ⟨rfl, rfl⟩ := z
      rw [W_e W2, W_n W2 (by omega) (W_e W1)]
      exact hc
    · rw [W_n W2 (by omega) (W_n W1 (by omega) rfl), W_n W2 (by omega) (W_n W1 (by omega) rfl)]
      exact QI_u H hq2 i
  exact ⟨key 67 (Or.inl rfl), key 72 (Or.inr rfl)⟩
end
section
theorem rw_2_0 : mm_code 2 0 = some (.aload_n 1, 1, 0, 0, []) := rfl
theorem rw_2_1 : mm_code 2 1 = some (.getfield 18, 3, 5, 11, [3, 3]) := rfl
theorem rw_2_4 : mm_code 2 4 = some (.iload 4, 2, 0, 0, []) := rfl
theorem rw_2_6 : mm_code 2 6 = some (.iaload, 1, 0, 0, []) := rfl
theorem rw_2_7 : mm_code 2 7 = some (.istore 5, 2, 0, 0, []) := rfl
theorem rw_2_9 : mm_code 2 9 = some (.iconst 0, 1, 0, 0, []) := rfl
theorem rw_2_10 : mm_code 2 10 = some (.istore 6, 2, 0, 0, []) := rfl
theorem rw_2_12 : mm_code 2 12 = some (.iconst 0, 1, 0, 0, []) := rfl
theorem rw_2_13 : mm_code 2 13 = some (.istore 7, 2, 0, 0, []) := rfl
theorem rw_2_15 : mm_code 2 15 = some (.iload 7, 2, 0, 0, []) := rfl
theorem rw_2_17 : mm_code 2 17 = some (.iload_n 3, 1, 0, 0, []) := rfl
theorem rw_2_18 : mm_code 2 18 = some (.if_icmp .ge 29, 3, 47, 0, []) := rfl
theorem rw_2_21 : mm_code 2 21 = some (.aload_n 2, 1, 0, 0, []) := rfl
theorem rw_2_22 : mm_code 2 22 = some (.iload 7, 2, 0, 0, []) := rfl
theorem rw_2_24 : mm_code 2 24 = some (.iload 4, 2, 0, 0, []) := rfl
theorem rw_2_26 : mm_code 2 26 = some (.invokevirtual 23, 3, 13, 3, [4, 0]) := rfl
theorem rw_2_29 : mm_code 2 29 = some (.ifCond .ne 12, 3, 41, 0, []) := rfl
theorem rw_2_32 : mm_code 2 32 = some (.iload 6, 2, 0, 0, []) := rfl
theorem rw_2_34 : mm_code 2 34 = some (.iconst 1, 1, 1, 0, []) := rfl
theorem rw_2_35 : mm_code 2 35 = some (.iload 7, 2, 0, 0, []) := rfl
theorem rw_2_37 : mm_code 2 37 = some (.ishl, 1, 0, 0, []) := rfl
theorem rw_2_38 : mm_code 2 38 = some (.ior, 1, 0, 0, []) := rfl
theorem rw_2_39 : mm_code 2 39 = some (.istore 6, 2, 0, 0, []) := rfl
theorem rw_2_41 : mm_code 2 41 = some (.iinc 7 1, 3, 1, 0, []) := rfl
theorem rw_2_44 : mm_code 2 44 = some (.goto (-29), 3, 15, 0, []) := rfl
theorem rw_2_47 : mm_code 2 47 = some (.aload_n 1, 1, 0, 0, []) := rfl
theorem rw_2_48 : mm_code 2 48 = some (.iload 5, 2, 0, 0, []) := rfl
theorem rw_2_50 : mm_code 2 50 = some (.invokevirtual 29, 3, 47, 2, [5, 0]) := rfl
theorem rw_2_53 : mm_code 2 53 = some (.bipush 24, 2, 24, 0, []) := rfl
theorem rw_2_55 : mm_code 2 55 = some (.invokestatic 33, 3, 996, 2, [6, 0]) := rfl
theorem rw_2_58 : mm_code 2 58 = some (.istore 7, 2, 0, 0, []) := rfl
theorem rw_2_60 : mm_code 2 60 = some (.iconst 0, 1, 0, 0, []) := rfl
theorem rw_2_61 : mm_code 2 61 = some (.istore 8, 2, 0, 0, []) := rfl
theorem rw_2_63 : mm_code 2 63 = some (.iload 8, 2, 0, 0, []) := rfl
theorem rw_2_65 : mm_code 2 65 = some (.iload 7, 2, 0, 0, []) := rfl
theorem rw_2_67 : mm_code 2 67 = some (.if_icmp .ge 54, 3, 121, 0, []) := rfl
theorem rw_2_70 : mm_code 2 70 = some (.aload_n 1, 1, 0, 0, []) := rfl
theorem rw_2_71 : mm_code 2 71 = some (.getfield 39, 3, 5, 7, [3, 7]) := rfl
theorem rw_2_74 : mm_code 2 74 = some (.iload 5, 2, 0, 0, []) := rfl
theorem rw_2_76 : mm_code 2 76 = some (.iaload, 1, 0, 0, []) := rfl
theorem rw_2_77 : mm_code 2 77 = some (.iload 8, 2, 0, 0, []) := rfl
theorem rw_2_79 : mm_code 2 79 = some (.iadd, 1, 0, 0, []) := rfl
theorem rw_2_80 : mm_code 2 80 = some (.istore 9, 2, 0, 0, []) := rfl
theorem rw_2_82 : mm_code 2 82 = some (.aload_n 0, 1, 0, 0, []) := rfl
theorem rw_2_83 : mm_code 2 83 = some (.getfield 9, 3, 0, 0, [3, 1]) := rfl
theorem rw_2_86 : mm_code 2 86 = some (.iload 8, 2, 0, 0, []) := rfl
theorem rw_2_88 : mm_code 2 88 = some (.iload 6, 2, 0, 0, []) := rfl
theorem rw_2_90 : mm_code 2 90 = some (.aload_n 2, 1, 0, 0, []) := rfl
theorem rw_2_91 : mm_code 2 91 = some (.iload_n 3, 1, 0, 0, []) := rfl
theorem rw_2_92 : mm_code 2 92 = some (.iload 9, 2, 0, 0, []) := rfl
theorem rw_2_94 : mm_code 2 94 = some (.invokestatic 42, 3, 3, 3, [8, 0]) := rfl
theorem rw_2_97 : mm_code 2 97 = some (.iand, 1, 0, 0, []) := rfl
theorem rw_2_98 : mm_code 2 98 = some (.iastore, 1, 0, 0, []) := rfl
theorem rw_2_99 : mm_code 2 99 = some (.aload_n 0, 1, 0, 0, []) := rfl
theorem rw_2_100 : mm_code 2 100 = some (.getfield 15, 3, 0, 1, [3, 2]) := rfl
theorem rw_2_103 : mm_code 2 103 = some (.iload 8, 2, 0, 0, []) := rfl
theorem rw_2_105 : mm_code 2 105 = some (.aload_n 1, 1, 0, 0, []) := rfl
theorem rw_2_106 : mm_code 2 106 = some (.aload_n 2, 1, 0, 0, []) := rfl
theorem rw_2_107 : mm_code 2 107 = some (.iload 4, 2, 0, 0, []) := rfl
theorem rw_2_109 : mm_code 2 109 = some (.iload 9, 2, 0, 0, []) := rfl
theorem rw_2_111 : mm_code 2 111 = some (.invokestatic 46, 3, 4, 4, [9, 0]) := rfl
theorem rw_2_114 : mm_code 2 114 = some (.iastore, 1, 0, 0, []) := rfl
theorem rw_2_115 : mm_code 2 115 = some (.iinc 8 1, 3, 1, 0, []) := rfl
theorem rw_2_118 : mm_code 2 118 = some (.goto (-55), 3, 63, 0, []) := rfl
theorem rw_2_121 : mm_code 2 121 = some (.aload_n 0, 1, 0, 0, []) := rfl
theorem rw_2_122 : mm_code 2 122 = some (.iconst (-1), 1, 1, 1, []) := rfl
theorem rw_2_123 : mm_code 2 123 = some (.putfield 50, 3, 0, 2, [0, 10]) := rfl
theorem rw_2_126 : mm_code 2 126 = some (.aload_n 0, 1, 0, 0, []) := rfl
theorem rw_2_127 : mm_code 2 127 = some (.aload_n 1, 1, 0, 0, []) := rfl
theorem rw_2_128 : mm_code 2 128 = some (.getfield 54, 3, 5, 9, [3, 11]) := rfl
theorem rw_2_131 : mm_code 2 131 = some (.iload 5, 2, 0, 0, []) := rfl
theorem rw_2_133 : mm_code 2 133 = some (.iaload, 1, 0, 0, []) := rfl
theorem rw_2_134 : mm_code 2 134 = some (.iload 7, 2, 0, 0, []) := rfl
theorem rw_2_136 : mm_code 2 136 = some (.iconst 0, 1, 0, 0, []) := rfl
theorem rw_2_137 : mm_code 2 137 = some (.iload 6, 2, 0, 0, []) := rfl
theorem rw_2_139 : mm_code 2 139 = some (.iconst 0, 1, 0, 0, []) := rfl
theorem rw_2_140 : mm_code 2 140 = some (.invokevirtual 57, 3, 5, 6, [12, 0]) := rfl
theorem rw_2_143 : mm_code 2 143 = some (.aload_n 0, 1, 0, 0, []) := rfl
theorem rw_2_144 : mm_code 2 144 = some (.getfield 50, 3, 0, 2, [0, 10]) := rfl
theorem rw_2_147 : mm_code 2 147 = some (.ireturn, 1, 0, 0, []) := rfl
theorem rw_3_0 : mm_code 3 0 = some (.iconst 0, 1, 0, 0, []) := rfl
theorem rw_3_1 : mm_code 3 1 = some (.istore_n 3, 1, 0, 0, []) := rfl
theorem rw_3_2 : mm_code 3 2 = some (.iconst 0, 1, 0, 0, []) := rfl
theorem rw_3_3 : mm_code 3 3 = some (.istore 4, 2, 0, 0, []) := rfl
theorem rw_3_5 : mm_code 3 5 = some (.iload 4, 2, 0, 0, []) := rfl
theorem rw_3_7 : mm_code 3 7 = some (.iload_n 1, 1, 0, 0, []) := rfl
theorem rw_3_8 : mm_code 3 8 = some (.if_icmp .ge 27, 3, 35, 0, []) := rfl
theorem rw_3_11 : mm_code 3 11 = some (.iload_n 3, 1, 0, 0, []) := rfl
theorem rw_3_12 : mm_code 3 12 = some (.aload_n 0, 1, 0, 0, []) := rfl
theorem rw_3_13 : mm_code 3 13 = some (.getfield 61, 3, 1, 0, [3, 13]) := rfl
theorem rw_3_16 : mm_code 3 16 = some (.iload 4, 2, 0, 0, []) := rfl
theorem rw_3_18 : mm_code 3 18 = some (.laload, 1, 0, 0, []) := rfl
theorem rw_3_19 : mm_code 3 19 = some (.iload_n 2, 1, 0, 0, []) := rfl
theorem rw_3_20 : mm_code 3 20 = some (.lshr, 1, 0, 0, []) := rfl
theorem rw_3_21 : mm_code 3 21 = some (.lconst 1, 1, 1, 0, []) := rfl
theorem rw_3_22 : mm_code 3 22 = some (.land, 1, 0, 0, []) := rfl
theorem rw_3_23 : mm_code 3 23 = some (.l2i, 1, 0, 0, []) := rfl
theorem rw_3_24 : mm_code 3 24 = some (.iload 4, 2, 0, 0, []) := rfl
theorem rw_3_26 : mm_code 3 26 = some (.ishl, 1, 0, 0, []) := rfl
theorem rw_3_27 : mm_code 3 27 = some (.ior, 1, 0, 0, []) := rfl
theorem rw_3_28 : mm_code 3 28 = some (.istore_n 3, 1, 0, 0, []) := rfl
theorem rw_3_29 : mm_code 3 29 = some (.iinc 4 1, 3, 1, 0, []) := rfl
theorem rw_3_32 : mm_code 3 32 = some (.goto (-27), 3, 5, 0, []) := rfl
theorem rw_3_35 : mm_code 3 35 = some (.iload_n 3, 1, 0, 0, []) := rfl
theorem rw_3_36 : mm_code 3 36 = some (.ireturn, 1, 0, 0, []) := rfl
theorem rw_4_0 : mm_code 4 0 = some (.iconst 0, 1, 0, 0, []) := rfl
theorem rw_4_1 : mm_code 4 1 = some (.istore 4, 2, 0, 0, []) := rfl
theorem rw_4_3 : mm_code 4 3 = some (.iconst 0, 1, 0, 0, []) := rfl
theorem rw_4_4 : mm_code 4 4 = some (.istore 5, 2, 0, 0, []) := rfl
theorem rw_4_6 : mm_code 4 6 = some (.iload 5, 2, 0, 0, []) := rfl
theorem rw_4_8 : mm_code 4 8 = some (.aload_n 0, 1, 0, 0, []) := rfl
theorem rw_4_9 : mm_code 4 9 = some (.getfield 65, 3, 5, 3, [0, 14]) := rfl
theorem rw_4_12 : mm_code 4 12 = some (.if_icmp .ge 34, 3, 46, 0, []) := rfl
theorem rw_4_15 : mm_code 4 15 = some (.iload 5, 2, 0, 0, []) := rfl
theorem rw_4_17 : mm_code 4 17 = some (.iload_n 2, 1, 0, 0, []) := rfl
theorem rw_4_18 : mm_code 4 18 = some (.if_icmp .eq 22, 3, 40, 0, []) := rfl
theorem rw_4_21 : mm_code 4 21 = some (.aload_n 1, 1, 0, 0, []) := rfl
theorem rw_4_22 : mm_code 4 22 = some (.getfield 68, 3, 1, 3, [3, 15]) := rfl
theorem rw_4_25 : mm_code 4 25 = some (.iload 5, 2, 0, 0, []) := rfl
theorem rw_4_27 : mm_code 4 27 = some (.laload, 1, 0, 0, []) := rfl
theorem rw_4_28 : mm_code 4 28 = some (.iload_n 3, 1, 0, 0, []) := rfl
theorem rw_4_29 : mm_code 4 29 = some (.lshr, 1, 0, 0, []) := rfl
theorem rw_4_30 : mm_code 4 30 = some (.lconst 1, 1, 1, 0, []) := rfl
theorem rw_4_31 : mm_code 4 31 = some (.land, 1, 0, 0, []) := rfl
theorem rw_4_32 : mm_code 4 32 = some (.lconst 0, 1, 0, 0, []) := rfl
theorem rw_4_33 : mm_code 4 33 = some (.lcmp, 1, 0, 0, []) := rfl
theorem rw_4_34 : mm_code 4 34 = some (.ifCond .eq 6, 3, 40, 0, []) := rfl
theorem rw_4_37 : mm_code 4 37 = some (.iinc 4 1, 3, 1, 0, []) := rfl
theorem rw_4_40 : mm_code 4 40 = some (.iinc 5 1, 3, 1, 0, []) := rfl
theorem rw_4_43 : mm_code 4 43 = some (.goto (-37), 3, 6, 0, []) := rfl
theorem rw_4_46 : mm_code 4 46 = some (.iload 4, 2, 0, 0, []) := rfl
theorem rw_4_48 : mm_code 4 48 = some (.ireturn, 1, 0, 0, []) := rfl
theorem rw_5_0 : mm_code 5 0 = some (.iload_n 1, 1, 0, 0, []) := rfl
theorem rw_5_1 : mm_code 5 1 = some (.ifCond .gt 16, 3, 17, 0, []) := rfl
theorem rw_5_4 : mm_code 5 4 = some (.aload_n 0, 1, 0, 0, []) := rfl
theorem rw_5_5 : mm_code 5 5 = some (.iload_n 3, 1, 0, 0, []) := rfl
theorem rw_5_6 : mm_code 5 6 = some (.iload 4, 2, 0, 0, []) := rfl
theorem rw_5_8 : mm_code 5 8 = some (.invokestatic 71, 3, 246, 1, [16, 0]) := rfl
theorem rw_5_11 : mm_code 5 11 = some (.iload 5, 2, 0, 0, []) := rfl
theorem rw_5_13 : mm_code 5 13 = some (.invokevirtual 76, 3, 6, 4, [17, 0]) := rfl
theorem rw_5_16 : mm_code 5 16 = some (.return_, 1, 0, 0, []) := rfl
theorem rw_5_17 : mm_code 5 17 = some (.iload_n 1, 1, 0, 0, []) := rfl
theorem rw_5_18 : mm_code 5 18 = some (.iconst 1, 1, 1, 0, []) := rfl
theorem rw_5_19 : mm_code 5 19 = some (.isub, 1, 0, 0, []) := rfl
theorem rw_5_20 : mm_code 5 20 = some (.istore 6, 2, 0, 0, []) := rfl
theorem rw_5_22 : mm_code 5 22 = some (.iload 6, 2, 0, 0, []) := rfl
theorem rw_5_24 : mm_code 5 24 = some (.iload_n 2, 1, 0, 0, []) := rfl
theorem rw_5_25 : mm_code 5 25 = some (.if_icmp .ge 44, 3, 69, 0, []) := rfl
theorem rw_5_28 : mm_code 5 28 = some (.aload_n 0, 1, 0, 0, []) := rfl
theorem rw_5_29 : mm_code 5 29 = some (.iload_n 1, 1, 0, 0, []) := rfl
theorem rw_5_30 : mm_code 5 30 = some (.iconst 1, 1, 1, 0, []) := rfl
theorem rw_5_31 : mm_code 5 31 = some (.isub, 1, 0, 0, []) := rfl
theorem rw_5_32 : mm_code 5 32 = some (.iload 6, 2, 0, 0, []) := rfl
theorem rw_5_34 : mm_code 5 34 = some (.iload_n 3, 1, 0, 0, []) := rfl
theorem rw_5_35 : mm_code 5 35 = some (.iconst 1, 1, 1, 0, []) := rfl
theorem rw_5_36 : mm_code 5 36 = some (.iload 6, 2, 0, 0, []) := rfl
theorem rw_5_38 : mm_code 5 38 = some (.ishl, 1, 0, 0, []) := rfl
theorem rw_5_39 : mm_code 5 39 = some (.ior, 1, 0, 0, []) := rfl
theorem rw_5_40 : mm_code 5 40 = some (.iload 4, 2, 0, 0, []) := rfl
theorem rw_5_42 : mm_code 5 42 = some (.aload_n 0, 1, 0, 0, []) := rfl
theorem rw_5_43 : mm_code 5 43 = some (.getfield 9, 3, 0, 0, [3, 1]) := rfl
theorem rw_5_46 : mm_code 5 46 = some (.iload 6, 2, 0, 0, []) := rfl
theorem rw_5_48 : mm_code 5 48 = some (.iaload, 1, 0, 0, []) := rfl
theorem rw_5_49 : mm_code 5 49 = some (.iand, 1, 0, 0, []) := rfl
theorem rw_5_50 : mm_code 5 50 = some (.iload 5, 2, 0, 0, []) := rfl
theorem rw_5_52 : mm_code 5 52 = some (.aload_n 0, 1, 0, 0, []) := rfl
theorem rw_5_53 : mm_code 5 53 = some (.getfield 15, 3, 0, 1, [3, 2]) := rfl
theorem rw_5_56 : mm_code 5 56 = some (.iload 6, 2, 0, 0, []) := rfl
theorem rw_5_58 : mm_code 5 58 = some (.iaload, 1, 0, 0, []) := rfl
theorem rw_5_59 : mm_code 5 59 = some (.iadd, 1, 0, 0, []) := rfl
theorem rw_5_60 : mm_code 5 60 = some (.invokevirtual 57, 3, 5, 6, [12, 0]) := rfl
theorem rw_5_63 : mm_code 5 63 = some (.iinc 6 1, 3, 1, 0, []) := rfl
theorem rw_5_66 : mm_code 5 66 = some (.goto (-44), 3, 22, 0, []) := rfl
theorem rw_5_69 : mm_code 5 69 = some (.return_, 1, 0, 0, []) := rfl
theorem rw_6_0 : mm_code 6 0 = some (.iload_n 2, 1, 0, 0, []) := rfl
theorem rw_6_1 : mm_code 6 1 = some (.aload_n 0, 1, 0, 0, []) := rfl
theorem rw_6_2 : mm_code 6 2 = some (.getfield 80, 3, 0, 3, [0, 18]) := rfl
theorem rw_6_5 : mm_code 6 5 = some (.if_icmp .lt 19, 3, 24, 0, []) := rfl
theorem rw_6_8 : mm_code 6 8 = some (.iload_n 2, 1, 0, 0, []) := rfl
theorem rw_6_9 : mm_code 6 9 = some (.aload_n 0, 1, 0, 0, []) := rfl
theorem rw_6_10 : mm_code 6 10 = some (.getfield 80, 3, 0, 3, [0, 18]) := rfl
theorem rw_6_13 : mm_code 6 13 = some (.if_icmp .ne 15, 3, 28, 0, []) := rfl
theorem rw_6_16 : mm_code 6 16 = some (.iload_n 3, 1, 0, 0, []) := rfl
theorem rw_6_17 : mm_code 6 17 = some (.aload_n 0, 1, 0, 0, []) := rfl
theorem rw_6_18 : mm_code 6 18 = some (.getfield 83, 3, 0, 4, [0, 19]) := rfl
theorem rw_6_21 : mm_code 6 21 = some (.if_icmp .ge 7, 3, 28, 0, []) := rfl
theorem rw_6_24 : mm_code 6 24 = some (.iconst 1, 1, 1, 0, []) := rfl
theorem rw_6_25 : mm_code 6 25 = some (.goto 4, 3, 29, 0, []) := rfl
theorem rw_6_28 : mm_code 6 28 = some (.iconst 0, 1, 0, 0, []) := rfl
theorem rw_6_29 : mm_code 6 29 = some (.istore 4, 2, 0, 0, []) := rfl
theorem rw_6_31 : mm_code 6 31 = some (.aload_n 0, 1, 0, 0, []) := rfl
theorem rw_6_32 : mm_code 6 32 = some (.getfield 50, 3, 0, 2, [0, 10]) := rfl
theorem rw_6_35 : mm_code 6 35 = some (.iconst (-1), 1, 1, 1, []) := rfl
theorem rw_6_36 : mm_code 6 36 = some (.if_icmp .eq 8, 3, 44, 0, []) := rfl
theorem rw_6_39 : mm_code 6 39 = some (.iload 4, 2, 0, 0, []) := rfl
theorem rw_6_41 : mm_code 6 41 = some (.ifCond .eq 18, 3, 59, 0, []) := rfl
theorem rw_6_44 : mm_code 6 44 = some (.aload_n 0, 1, 0, 0, []) := rfl
theorem rw_6_45 : mm_code 6 45 = some (.iload_n 1, 1, 0, 0, []) := rfl
theorem rw_6_46 : mm_code 6 46 = some (.putfield 50, 3, 0, 2, [0, 10]) := rfl
theorem rw_6_49 : mm_code 6 49 = some (.aload_n 0, 1, 0, 0, []) := rfl
theorem rw_6_50 : mm_code 6 50 = some (.iload_n 2, 1, 0, 0, []) := rfl
theorem rw_6_51 : mm_code 6 51 = some (.putfield 80, 3, 0, 3, [0, 18]) := rfl
theorem rw_6_54 : mm_code 6 54 = some (.aload_n 0, 1, 0, 0, []) := rfl
theorem rw_6_55 : mm_code 6 55 = some (.iload_n 3, 1, 0, 0, []) := rfl
theorem rw_6_56 : mm_code 6 56 = some (.putfield 83, 3, 0, 4, [0, 19]) := rfl
theorem rw_6_59 : mm_code 6 59 = some (.return_, 1, 0, 0, []) := rfl
theorem rw_8_0 : mm_code 8 0 = some (.aload_n 0, 1, 0, 0, []) := rfl
theorem rw_8_1 : mm_code 8 1 = some (.aload_n 1, 1, 0, 0, []) := rfl
theorem rw_8_2 : mm_code 8 2 = some (.invokevirtual 29, 3, 9, 2, [6, 0]) := rfl
theorem rw_8_5 : mm_code 8 5 = some (.aload_n 0, 1, 0, 0, []) := rfl
theorem rw_8_6 : mm_code 8 6 = some (.aload_n 2, 1, 0, 0, []) := rfl
theorem rw_8_7 : mm_code 8 7 = some (.iload_n 3, 1, 0, 0, []) := rfl
theorem rw_8_8 : mm_code 8 8 = some (.invokevirtual 33, 3, 10, 3, [7, 0]) := rfl
theorem rw_8_11 : mm_code 8 11 = some (.iconst 0, 1, 0, 0, []) := rfl
theorem rw_8_12 : mm_code 8 12 = some (.istore 4, 2, 0, 0, []) := rfl
theorem rw_8_14 : mm_code 8 14 = some (.iload 4, 2, 0, 0, []) := rfl
theorem rw_8_16 : mm_code 8 16 = some (.iload_n 3, 1, 0, 0, []) := rfl
theorem rw_8_17 : mm_code 8 17 = some (.if_icmp .ge 35, 3, 52, 0, []) := rfl
theorem rw_8_20 : mm_code 8 20 = some (.iload 4, 2, 0, 0, []) := rfl
theorem rw_8_22 : mm_code 8 22 = some (.sipush 150, 3, 150, 0, []) := rfl
theorem rw_8_25 : mm_code 8 25 = some (.if_icmp .ge 27, 3, 52, 0, []) := rfl
theorem rw_8_28 : mm_code 8 28 = some (.aload_n 0, 1, 0, 0, []) := rfl
theorem rw_8_29 : mm_code 8 29 = some (.getfield 25, 3, 1, 4, [3, 5]) := rfl
theorem rw_8_32 : mm_code 8 32 = some (.iload 4, 2, 0, 0, []) := rfl
theorem rw_8_34 : mm_code 8 34 = some (.baload, 1, 0, 0, []) := rfl
theorem rw_8_35 : mm_code 8 35 = some (.ifCond .ne 11, 3, 46, 0, []) := rfl
theorem rw_8_38 : mm_code 8 38 = some (.aload_n 0, 1, 0, 0, []) := rfl
theorem rw_8_39 : mm_code 8 39 = some (.aload_n 1, 1, 0, 0, []) := rfl
theorem rw_8_40 : mm_code 8 40 = some (.aload_n 2, 1, 0, 0, []) := rfl
theorem rw_8_41 : mm_code 8 41 = some (.iload 4, 2, 0, 0, []) := rfl
theorem rw_8_43 : mm_code 8 43 = some (.invokevirtual 37, 3, 11, 4, [8, 0]) := rfl
theorem rw_8_46 : mm_code 8 46 = some (.iinc 4 1, 3, 1, 0, []) := rfl
theorem rw_8_49 : mm_code 8 49 = some (.goto (-35), 3, 14, 0, []) := rfl
theorem rw_8_52 : mm_code 8 52 = some (.return_, 1, 0, 0, []) := rfl
theorem rw_9_0 : mm_code 9 0 = some (.iconst 0, 1, 0, 0, []) := rfl
theorem rw_9_1 : mm_code 9 1 = some (.istore_n 2, 1, 0, 0, []) := rfl
theorem rw_9_2 : mm_code 9 2 = some (.iload_n 2, 1, 0, 0, []) := rfl
theorem rw_9_3 : mm_code 9 3 = some (.bipush 30, 2, 30, 0, []) := rfl
theorem rw_9_5 : mm_code 9 5 = some (.if_icmp .ge 23, 3, 28, 0, []) := rfl
theorem rw_9_8 : mm_code 9 8 = some (.aload_n 0, 1, 0, 0, []) := rfl
theorem rw_9_9 : mm_code 9 9 = some (.getfield 9, 3, 1, 0, [3, 1]) := rfl
theorem rw_9_12 : mm_code 9 12 = some (.iload_n 2, 1, 0, 0, []) := rfl
theorem rw_9_13 : mm_code 9 13 = some (.lconst 0, 1, 0, 0, []) := rfl
theorem rw_9_14 : mm_code 9 14 = some (.lastore, 1, 0, 0, []) := rfl
theorem rw_9_15 : mm_code 9 15 = some (.aload_n 0, 1, 0, 0, []) := rfl
theorem rw_9_16 : mm_code 9 16 = some (.getfield 15, 3, 1, 1, [3, 2]) := rfl
theorem rw_9_19 : mm_code 9 19 = some (.iload_n 2, 1, 0, 0, []) := rfl
theorem rw_9_20 : mm_code 9 20 = some (.iconst 0, 1, 0, 0, []) := rfl
theorem rw_9_21 : mm_code 9 21 = some (.iastore, 1, 0, 0, []) := rfl
theorem rw_9_22 : mm_code 9 22 = some (.iinc 2 1, 3, 1, 0, []) := rfl
theorem rw_9_25 : mm_code 9 25 = some (.goto (-23), 3, 2, 0, []) := rfl
theorem rw_9_28 : mm_code 9 28 = some (.iconst 0, 1, 0, 0, []) := rfl
theorem rw_9_29 : mm_code 9 29 = some (.istore_n 2, 1, 0, 0, []) := rfl
theorem rw_9_30 : mm_code 9 30 = some (.iload_n 2, 1, 0, 0, []) := rfl
theorem rw_9_31 : mm_code 9 31 = some (.aload_n 0, 1, 0, 0, []) := rfl
theorem rw_9_32 : mm_code 9 32 = some (.getfield 19, 3, 1, 2, [3, 3]) := rfl
theorem rw_9_35 : mm_code 9 35 = some (.arraylength, 1, 0, 0, []) := rfl
theorem rw_9_36 : mm_code 9 36 = some (.if_icmp .ge 16, 3, 52, 0, []) := rfl
theorem rw_9_39 : mm_code 9 39 = some (.aload_n 0, 1, 0, 0, []) := rfl
theorem rw_9_40 : mm_code 9 40 = some (.getfield 19, 3, 1, 2, [3, 3]) := rfl
theorem rw_9_43 : mm_code 9 43 = some (.iload_n 2, 1, 0, 0, []) := rfl
theorem rw_9_44 : mm_code 9 44 = some (.iconst (-1), 1, 1, 1, []) := rfl
theorem rw_9_45 : mm_code 9 45 = some (.iastore, 1, 0, 0, []) := rfl
theorem rw_9_46 : mm_code 9 46 = some (.iinc 2 1, 3, 1, 0, []) := rfl
theorem rw_9_49 : mm_code 9 49 = some (.goto (-19), 3, 30, 0, []) := rfl
theorem rw_9_52 : mm_code 9 52 = some (.iconst 0, 1, 0, 0, []) := rfl
theorem rw_9_53 : mm_code 9 53 = some (.istore_n 2, 1, 0, 0, []) := rfl
theorem rw_9_54 : mm_code 9 54 = some (.iload_n 2, 1, 0, 0, []) := rfl
theorem rw_9_55 : mm_code 9 55 = some (.bipush 12, 2, 12, 0, []) := rfl
theorem rw_9_57 : mm_code 9 57 = some (.if_icmp .ge 21, 3, 78, 0, []) := rfl
theorem rw_9_60 : mm_code 9 60 = some (.aload_n 0, 1, 0, 0, []) := rfl
theorem rw_9_61 : mm_code 9 61 = some (.getfield 22, 3, 1, 3, [3, 4]) := rfl
theorem rw_9_64 : mm_code 9 64 = some (.iload_n 2, 1, 0, 0, []) := rfl
theorem rw_9_65 : mm_code 9 65 = some (.aload_n 1, 1, 0, 0, []) := rfl
theorem rw_9_66 : mm_code 9 66 = some (.getfield 41, 3, 5, 12, [3, 9]) := rfl
theorem rw_9_69 : mm_code 9 69 = some (.iload_n 2, 1, 0, 0, []) := rfl
theorem rw_9_70 : mm_code 9 70 = some (.laload, 1, 0, 0, []) := rfl
theorem rw_9_71 : mm_code 9 71 = some (.lastore, 1, 0, 0, []) := rfl
theorem rw_9_72 : mm_code 9 72 = some (.iinc 2 1, 3, 1, 0, []) := rfl
theorem rw_9_75 : mm_code 9 75 = some (.goto (-21), 3, 54, 0, []) := rfl
theorem rw_9_78 : mm_code 9 78 = some (.return_, 1, 0, 0, []) := rfl
theorem rw_10_0 : mm_code 10 0 = some (.iload_n 2, 1, 0, 0, []) := rfl
theorem rw_10_1 : mm_code 10 1 = some (.sipush 150, 3, 150, 0, []) := rfl
theorem rw_10_4 : mm_code 10 4 = some (.invokestatic 46, 3, 996, 2, [10, 0]) := rfl
theorem rw_10_7 : mm_code 10 7 = some (.istore_n 3, 1, 0, 0, []) := rfl
theorem rw_10_8 : mm_code 10 8 = some (.iconst 0, 1, 0, 0, []) := rfl
theorem rw_10_9 : mm_code 10 9 = some (.istore 4, 2, 0, 0, []) := rfl
theorem rw_10_11 : mm_code 10 11 = some (.iload 4, 2, 0, 0, []) := rfl
theorem rw_10_13 : mm_code 10 13 = some (.iload_n 3, 1, 0, 0, []) := rfl
theorem rw_10_14 : mm_code 10 14 = some (.if_icmp .ge 17, 3, 31, 0, []) := rfl
theorem rw_10_17 : mm_code 10 17 = some (.aload_n 0, 1, 0, 0, []) := rfl
theorem rw_10_18 : mm_code 10 18 = some (.getfield 25, 3, 1, 4, [3, 5]) := rfl
theorem rw_10_21 : mm_code 10 21 = some (.iload 4, 2, 0, 0, []) := rfl
theorem rw_10_23 : mm_code 10 23 = some (.iconst 0, 1, 0, 0, []) := rfl
theorem rw_10_24 : mm_code 10 24 = some (.bastore, 1, 0, 0, []) := rfl
theorem rw_10_25 : mm_code 10 25 = some (.iinc 4 1, 3, 1, 0, []) := rfl
theorem rw_10_28 : mm_code 10 28 = some (.goto (-17), 3, 11, 0, []) := rfl
theorem rw_10_31 : mm_code 10 31 = some (.iload_n 3, 1, 0, 0, []) := rfl
theorem rw_10_32 : mm_code 10 32 = some (.iconst 1, 1, 1, 0, []) := rfl
theorem rw_10_33 : mm_code 10 33 = some (.isub, 1, 0, 0, []) := rfl
theorem rw_10_34 : mm_code 10 34 = some (.istore 4, 2, 0, 0, []) := rfl
theorem rw_10_36 : mm_code 10 36 = some (.iload 4, 2, 0, 0, []) := rfl
theorem rw_10_38 : mm_code 10 38 = some (.ifCond .lt 43, 3, 81, 0, []) := rfl
theorem rw_10_41 : mm_code 10 41 = some (.aload_n 1, 1, 0, 0, []) := rfl
theorem rw_10_42 : mm_code 10 42 = some (.getfield 52, 3, 3, 1, [3, 11]) := rfl
theorem rw_10_45 : mm_code 10 45 = some (.iload 4, 2, 0, 0, []) := rfl
theorem rw_10_47 : mm_code 10 47 = some (.iaload, 1, 0, 0, []) := rfl
theorem rw_10_48 : mm_code 10 48 = some (.iconst 5, 1, 5, 0, []) := rfl
theorem rw_10_49 : mm_code 10 49 = some (.if_icmp .ne 26, 3, 75, 0, []) := rfl
theorem rw_10_52 : mm_code 10 52 = some (.aload_n 0, 1, 0, 0, []) := rfl
theorem rw_10_53 : mm_code 10 53 = some (.getfield 25, 3, 1, 4, [3, 5]) := rfl
theorem rw_10_56 : mm_code 10 56 = some (.iload 4, 2, 0, 0, []) := rfl
theorem rw_10_58 : mm_code 10 58 = some (.baload, 1, 0, 0, []) := rfl
theorem rw_10_59 : mm_code 10 59 = some (.ifCond .ne 16, 3, 75, 0, []) := rfl
theorem rw_10_62 : mm_code 10 62 = some (.aload_n 0, 1, 0, 0, []) := rfl
theorem rw_10_63 : mm_code 10 63 = some (.getfield 25, 3, 1, 4, [3, 5]) := rfl
theorem rw_10_66 : mm_code 10 66 = some (.aload_n 1, 1, 0, 0, []) := rfl
theorem rw_10_67 : mm_code 10 67 = some (.getfield 57, 3, 3, 2, [3, 12]) := rfl
theorem rw_10_70 : mm_code 10 70 = some (.iload 4, 2, 0, 0, []) := rfl
theorem rw_10_72 : mm_code 10 72 = some (.iaload, 1, 0, 0, []) := rfl
theorem rw_10_73 : mm_code 10 73 = some (.iconst 1, 1, 1, 0, []) := rfl
theorem rw_10_74 : mm_code 10 74 = some (.bastore, 1, 0, 0, []) := rfl
theorem rw_10_75 : mm_code 10 75 = some (.iinc 4 (-1), 3, 1, 1, []) := rfl
theorem rw_10_78 : mm_code 10 78 = some (.goto (-42), 3, 36, 0, []) := rfl
theorem rw_10_81 : mm_code 10 81 = some (.return_, 1, 0, 0, []) := rfl
theorem rw_11_0 : mm_code 11 0 = some (.aload_n 2, 1, 0, 0, []) := rfl
theorem rw_11_1 : mm_code 11 1 = some (.getfield 57, 3, 3, 2, [3, 12]) := rfl
theorem rw_11_4 : mm_code 11 4 = some (.iload_n 3, 1, 0, 0, []) := rfl
theorem rw_11_5 : mm_code 11 5 = some (.iaload, 1, 0, 0, []) := rfl
theorem rw_11_6 : mm_code 11 6 = some (.istore 4, 2, 0, 0, []) := rfl
theorem rw_11_8 : mm_code 11 8 = some (.aload_n 2, 1, 0, 0, []) := rfl
theorem rw_11_9 : mm_code 11 9 = some (.getfield 60, 3, 3, 3, [3, 13]) := rfl
theorem rw_11_12 : mm_code 11 12 = some (.iload_n 3, 1, 0, 0, []) := rfl
theorem rw_11_13 : mm_code 11 13 = some (.iaload, 1, 0, 0, []) := rfl
theorem rw_11_14 : mm_code 11 14 = some (.istore 5, 2, 0, 0, []) := rfl
theorem rw_11_16 : mm_code 11 16 = some (.aload_n 2, 1, 0, 0, []) := rfl
theorem rw_11_17 : mm_code 11 17 = some (.getfield 52, 3, 3, 1, [3, 11]) := rfl
theorem rw_11_20 : mm_code 11 20 = some (.iload_n 3, 1, 0, 0, []) := rfl
theorem rw_11_21 : mm_code 11 21 = some (.iaload, 1, 0, 0, []) := rfl
theorem rw_11_22 : mm_code 11 22 = some (.tableswitch 176 0 4 #[34, 78, 112, 129, 150], 34, 198, 0, [56, 100, 134, 151, 172]) := rfl
theorem rw_11_56 : mm_code 11 56 = some (.aload_n 0, 1, 0, 0, []) := rfl
theorem rw_11_57 : mm_code 11 57 = some (.getfield 19, 3, 1, 2, [3, 3]) := rfl
theorem rw_11_60 : mm_code 11 60 = some (.iload 4, 2, 0, 0, []) := rfl
theorem rw_11_62 : mm_code 11 62 = some (.bipush 8, 2, 8, 0, []) := rfl
theorem rw_11_64 : mm_code 11 64 = some (.imul, 1, 0, 0, []) := rfl
theorem rw_11_65 : mm_code 11 65 = some (.iload 5, 2, 0, 0, []) := rfl
theorem rw_11_67 : mm_code 11 67 = some (.iadd, 1, 0, 0, []) := rfl
theorem rw_11_68 : mm_code 11 68 = some (.aload_n 2, 1, 0, 0, []) := rfl
theorem rw_11_69 : mm_code 11 69 = some (.getfield 63, 3, 3, 4, [3, 14]) := rfl
theorem rw_11_72 : mm_code 11 72 = some (.iload_n 3, 1, 0, 0, []) := rfl
theorem rw_11_73 : mm_code 11 73 = some (.iaload, 1, 0, 0, []) := rfl
theorem rw_11_74 : mm_code 11 74 = some (.iastore, 1, 0, 0, []) := rfl
theorem rw_11_75 : mm_code 11 75 = some (.aload_n 0, 1, 0, 0, []) := rfl
theorem rw_11_76 : mm_code 11 76 = some (.getfield 9, 3, 1, 0, [3, 1]) := rfl
theorem rw_11_79 : mm_code 11 79 = some (.iload 4, 2, 0, 0, []) := rfl
theorem rw_11_81 : mm_code 11 81 = some (.dup2, 1, 0, 0, []) := rfl
theorem rw_11_82 : mm_code 11 82 = some (.laload, 1, 0, 0, []) := rfl
theorem rw_11_83 : mm_code 11 83 = some (.aload_n 1, 1, 0, 0, []) := rfl
theorem rw_11_84 : mm_code 11 84 = some (.iload 5, 2, 0, 0, []) := rfl
theorem rw_11_86 : mm_code 11 86 = some (.aload_n 2, 1, 0, 0, []) := rfl
theorem rw_11_87 : mm_code 11 87 = some (.getfield 63, 3, 3, 4, [3, 14]) := rfl
theorem rw_11_90 : mm_code 11 90 = some (.iload_n 3, 1, 0, 0, []) := rfl
theorem rw_11_91 : mm_code 11 91 = some (.iaload, 1, 0, 0, []) := rfl
theorem rw_11_92 : mm_code 11 92 = some (.invokevirtual 66, 3, 49, 3, [15, 0]) := rfl
theorem rw_11_95 : mm_code 11 95 = some (.lor, 1, 0, 0, []) := rfl
theorem rw_11_96 : mm_code 11 96 = some (.lastore, 1, 0, 0, []) := rfl
theorem rw_11_97 : mm_code 11 97 = some (.goto 101, 3, 198, 0, []) := rfl
theorem rw_11_100 : mm_code 11 100 = some (.aload_n 0, 1, 0, 0, []) := rfl
theorem rw_11_101 : mm_code 11 101 = some (.getfield 15, 3, 1, 1, [3, 2]) := rfl
theorem rw_11_104 : mm_code 11 104 = some (.iload 4, 2, 0, 0, []) := rfl
theorem rw_11_106 : mm_code 11 106 = some (.dup2, 1, 0, 0, []) := rfl
theorem rw_11_107 : mm_code 11 107 = some (.iaload, 1, 0, 0, []) := rfl
theorem rw_11_108 : mm_code 11 108 = some (.iconst 1, 1, 1, 0, []) := rfl
theorem rw_11_109 : mm_code 11 109 = some (.iload 5, 2, 0, 0, []) := rfl
theorem rw_11_111 : mm_code 11 111 = some (.ishl, 1, 0, 0, []) := rfl
theorem rw_11_112 : mm_code 11 112 = some (.ior, 1, 0, 0, []) := rfl
theorem rw_11_113 : mm_code 11 113 = some (.iastore, 1, 0, 0, []) := rfl
theorem rw_11_114 : mm_code 11 114 = some (.aload_n 0, 1, 0, 0, []) := rfl
theorem rw_11_115 : mm_code 11 115 = some (.getfield 9, 3, 1, 0, [3, 1]) := rfl
theorem rw_11_118 : mm_code 11 118 = some (.iload 4, 2, 0, 0, []) := rfl
theorem rw_11_120 : mm_code 11 120 = some (.dup2, 1, 0, 0, []) := rfl
theorem rw_11_121 : mm_code 11 121 = some (.laload, 1, 0, 0, []) := rfl
theorem rw_11_122 : mm_code 11 122 = some (.aload_n 0, 1, 0, 0, []) := rfl
theorem rw_11_123 : mm_code 11 123 = some (.getfield 22, 3, 1, 3, [3, 4]) := rfl
theorem rw_11_126 : mm_code 11 126 = some (.iload 5, 2, 0, 0, []) := rfl
theorem rw_11_128 : mm_code 11 128 = some (.laload, 1, 0, 0, []) := rfl
theorem rw_11_129 : mm_code 11 129 = some (.lor, 1, 0, 0, []) := rfl
theorem rw_11_130 : mm_code 11 130 = some (.lastore, 1, 0, 0, []) := rfl
theorem rw_11_131 : mm_code 11 131 = some (.goto 67, 3, 198, 0, []) := rfl
theorem rw_11_134 : mm_code 11 134 = some (.aload_n 0, 1, 0, 0, []) := rfl
theorem rw_11_135 : mm_code 11 135 = some (.getfield 9, 3, 1, 0, [3, 1]) := rfl
theorem rw_11_138 : mm_code 11 138 = some (.iload 4, 2, 0, 0, []) := rfl
theorem rw_11_140 : mm_code 11 140 = some (.dup2, 1, 0, 0, []) := rfl
theorem rw_11_141 : mm_code 11 141 = some (.laload, 1, 0, 0, []) := rfl
theorem rw_11_142 : mm_code 11 142 = some (.lconst 1, 1, 1, 0, []) := rfl
theorem rw_11_143 : mm_code 11 143 = some (.iload 5, 2, 0, 0, []) := rfl
theorem rw_11_145 : mm_code 11 145 = some (.lshl, 1, 0, 0, []) := rfl
theorem rw_11_146 : mm_code 11 146 = some (.lor, 1, 0, 0, []) := rfl
theorem rw_11_147 : mm_code 11 147 = some (.lastore, 1, 0, 0, []) := rfl
theorem rw_11_148 : mm_code 11 148 = some (.goto 50, 3, 198, 0, []) := rfl
theorem rw_11_151 : mm_code 11 151 = some (.aload_n 0, 1, 0, 0, []) := rfl
theorem rw_11_152 : mm_code 11 152 = some (.getfield 9, 3, 1, 0, [3, 1]) := rfl
theorem rw_11_155 : mm_code 11 155 = some (.iload 4, 2, 0, 0, []) := rfl
theorem rw_11_157 : mm_code 11 157 = some (.dup2, 1, 0, 0, []) := rfl
theorem rw_11_158 : mm_code 11 158 = some (.laload, 1, 0, 0, []) := rfl
theorem rw_11_159 : mm_code 11 159 = some (.lconst 1, 1, 1, 0, []) := rfl
theorem rw_11_160 : mm_code 11 160 = some (.iload 5, 2, 0, 0, []) := rfl
theorem rw_11_162 : mm_code 11 162 = some (.lshl, 1, 0, 0, []) := rfl
theorem rw_11_163 : mm_code 11 163 = some (.ldc2_w 70, 3, 1, 1, [16]) := rfl
theorem rw_11_166 : mm_code 11 166 = some (.lxor, 1, 0, 0, []) := rfl
theorem rw_11_167 : mm_code 11 167 = some (.land, 1, 0, 0, []) := rfl
theorem rw_11_168 : mm_code 11 168 = some (.lastore, 1, 0, 0, []) := rfl
theorem rw_11_169 : mm_code 11 169 = some (.goto 29, 3, 198, 0, []) := rfl
theorem rw_11_172 : mm_code 11 172 = some (.aload_n 0, 1, 0, 0, []) := rfl
theorem rw_11_173 : mm_code 11 173 = some (.getfield 22, 3, 1, 3, [3, 4]) := rfl
theorem rw_11_176 : mm_code 11 176 = some (.iload 4, 2, 0, 0, []) := rfl
theorem rw_11_178 : mm_code 11 178 = some (.iload 5, 2, 0, 0, []) := rfl
theorem rw_11_180 : mm_code 11 180 = some (.i2l, 1, 0, 0, []) := rfl
theorem rw_11_181 : mm_code 11 181 = some (.aload_n 1, 1, 0, 0, []) := rfl
theorem rw_11_182 : mm_code 11 182 = some (.getfield 72, 3, 5, 7, [3, 17]) := rfl
theorem rw_11_185 : mm_code 11 185 = some (.aload_n 1, 1, 0, 0, []) := rfl
theorem rw_11_186 : mm_code 11 186 = some (.getfield 73, 3, 5, 11, [3, 18]) := rfl
theorem rw_11_189 : mm_code 11 189 = some (.iload 4, 2, 0, 0, []) := rfl
theorem rw_11_191 : mm_code 11 191 = some (.iaload, 1, 0, 0, []) := rfl
theorem rw_11_192 : mm_code 11 192 = some (.iaload, 1, 0, 0, []) := rfl
theorem rw_11_193 : mm_code 11 193 = some (.lshl, 1, 0, 0, []) := rfl
theorem rw_11_194 : mm_code 11 194 = some (.lastore, 1, 0, 0, []) := rfl
theorem rw_11_195 : mm_code 11 195 = some (.goto 3, 3, 198, 0, []) := rfl
theorem rw_11_198 : mm_code 11 198 = some (.return_, 1, 0, 0, []) := rfl
theorem rw_12_0 : mm_code 12 0 = some (.aload_n 0, 1, 0, 0, []) := rfl
theorem rw_12_1 : mm_code 12 1 = some (.getfield 19, 3, 1, 2, [3, 3]) := rfl
theorem rw_12_4 : mm_code 12 4 = some (.iload_n 1, 1, 0, 0, []) := rfl
theorem rw_12_5 : mm_code 12 5 = some (.bipush 8, 2, 8, 0, []) := rfl
theorem rw_12_7 : mm_code 12 7 = some (.imul, 1, 0, 0, []) := rfl
theorem rw_12_8 : mm_code 12 8 = some (.iload_n 2, 1, 0, 0, []) := rfl
theorem rw_12_9 : mm_code 12 9 = some (.iadd, 1, 0, 0, []) := rfl
theorem rw_12_10 : mm_code 12 10 = some (.iaload, 1, 0, 0, []) := rfl
theorem rw_12_11 : mm_code 12 11 = some (.ireturn, 1, 0, 0, []) := rfl
theorem rw_13_0 : mm_code 13 0 = some (.aload_n 0, 1, 0, 0, []) := rfl
theorem rw_13_1 : mm_code 13 1 = some (.getfield 15, 3, 1, 1, [3, 2]) := rfl
theorem rw_13_4 : mm_code 13 4 = some (.iload_n 1, 1, 0, 0, []) := rfl
theorem rw_13_5 : mm_code 13 5 = some (.iaload, 1, 0, 0, []) := rfl
theorem rw_13_6 : mm_code 13 6 = some (.iload_n 2, 1, 0, 0, []) := rfl
theorem rw_13_7 : mm_code 13 7 = some (.ishr, 1, 0, 0, []) := rfl
theorem rw_13_8 : mm_code 13 8 = some (.iconst 1, 1, 1, 0, []) := rfl
theorem rw_13_9 : mm_code 13 9 = some (.iand, 1, 0, 0, []) := rfl
theorem rw_13_10 : mm_code 13 10 = some (.ifCond .eq 7, 3, 17, 0, []) := rfl
theorem rw_13_13 : mm_code 13 13 = some (.iconst 1, 1, 1, 0, []) := rfl
theorem rw_13_14 : mm_code 13 14 = some (.goto 4, 3, 18, 0, []) := rfl
theorem rw_13_17 : mm_code 13 17 = some (.iconst 0, 1, 0, 0, []) := rfl
theorem rw_13_18 : mm_code 13 18 = some (.ireturn, 1, 1, 0, []) := rfl
theorem rw_14_0 : mm_code 14 0 = some (.aload_n 0, 1, 0, 0, []) := rfl
theorem rw_14_1 : mm_code 14 1 = some (.getfield 9, 3, 1, 0, [3, 1]) := rfl
theorem rw_14_4 : mm_code 14 4 = some (.iload_n 1, 1, 0, 0, []) := rfl
theorem rw_14_5 : mm_code 14 5 = some (.laload, 1, 0, 0, []) := rfl
theorem rw_14_6 : mm_code 14 6 = some (.lload_n 2, 1, 0, 0, []) := rfl
theorem rw_14_7 : mm_code 14 7 = some (.land, 1, 0, 0, []) := rfl
theorem rw_14_8 : mm_code 14 8 = some (.lload_n 2, 1, 0, 0, []) := rfl
theorem rw_14_9 : mm_code 14 9 = some (.lcmp, 1, 0, 0, []) := rfl
theorem rw_14_10 : mm_code 14 10 = some (.ifCond .ne 7, 3, 17, 0, []) := rfl
theorem rw_14_13 : mm_code 14 13 = some (.iconst 1, 1, 1, 0, []) := rfl
theorem rw_14_14 : mm_code 14 14 = some (.goto 4, 3, 18, 0, []) := rfl
theorem rw_14_17 : mm_code 14 17 = some (.iconst 0, 1, 0, 0, []) := rfl
theorem rw_14_18 : mm_code 14 18 = some (.ireturn, 1, 1, 0, []) := rfl
theorem rw_16_0 : mm_code 16 0 = some (.aload_n 2, 1, 0, 0, []) := rfl
theorem rw_16_1 : mm_code 16 1 = some (.getfield 19, 3, 1, 0, [3, 3]) := rfl
theorem rw_16_4 : mm_code 16 4 = some (.iload_n 3, 1, 0, 0, []) := rfl
theorem rw_16_5 : mm_code 16 5 = some (.laload, 1, 0, 0, []) := rfl
theorem rw_16_6 : mm_code 16 6 = some (.aload_n 1, 1, 0, 0, []) := rfl
theorem rw_16_7 : mm_code 16 7 = some (.iload 4, 2, 0, 0, []) := rfl
theorem rw_16_9 : mm_code 16 9 = some (.invokevirtual 24, 3, 48, 2, [4, 0]) := rfl
theorem rw_16_12 : mm_code 16 12 = some (.land, 1, 0, 0, []) := rfl
theorem rw_16_13 : mm_code 16 13 = some (.lstore 6, 2, 0, 0, []) := rfl
theorem rw_16_15 : mm_code 16 15 = some (.aload_n 0, 1, 0, 0, []) := rfl
theorem rw_16_16 : mm_code 16 16 = some (.iconst 0, 1, 0, 0, []) := rfl
theorem rw_16_17 : mm_code 16 17 = some (.putfield 30, 3, 2, 2, [0, 5]) := rfl
theorem rw_16_20 : mm_code 16 20 = some (.iconst 0, 1, 0, 0, []) := rfl
theorem rw_16_21 : mm_code 16 21 = some (.istore 8, 2, 0, 0, []) := rfl
theorem rw_16_23 : mm_code 16 23 = some (.iload 8, 2, 0, 0, []) := rfl
theorem rw_16_25 : mm_code 16 25 = some (.aload_n 1, 1, 0, 0, []) := rfl
theorem rw_16_26 : mm_code 16 26 = some (.getfield 34, 3, 5, 3, [0, 6]) := rfl
theorem rw_16_29 : mm_code 16 29 = some (.if_icmp .ge 80, 3, 109, 0, []) := rfl
theorem rw_16_32 : mm_code 16 32 = some (.iload 8, 2, 0, 0, []) := rfl
theorem rw_16_34 : mm_code 16 34 = some (.bipush 12, 2, 12, 0, []) := rfl
theorem rw_16_36 : mm_code 16 36 = some (.if_icmp .ge 73, 3, 109, 0, []) := rfl
theorem rw_16_39 : mm_code 16 39 = some (.aload_n 1, 1, 0, 0, []) := rfl
theorem rw_16_40 : mm_code 16 40 = some (.getfield 36, 3, 5, 11, [3, 7]) := rfl
theorem rw_16_43 : mm_code 16 43 = some (.iload 8, 2, 0, 0, []) := rfl
theorem rw_16_45 : mm_code 16 45 = some (.iaload, 1, 0, 0, []) := rfl
theorem rw_16_46 : mm_code 16 46 = some (.iload 4, 2, 0, 0, []) := rfl
theorem rw_16_48 : mm_code 16 48 = some (.if_icmp .ne 55, 3, 103, 0, []) := rfl
theorem rw_16_51 : mm_code 16 51 = some (.aload_n 2, 1, 0, 0, []) := rfl
theorem rw_16_52 : mm_code 16 52 = some (.iload_n 3, 1, 0, 0, []) := rfl
theorem rw_16_53 : mm_code 16 53 = some (.aload_n 2, 1, 0, 0, []) := rfl
theorem rw_16_54 : mm_code 16 54 = some (.getfield 39, 3, 1, 3, [3, 8]) := rfl
theorem rw_16_57 : mm_code 16 57 = some (.iload 8, 2, 0, 0, []) := rfl
theorem rw_16_59 : mm_code 16 59 = some (.laload, 1, 0, 0, []) := rfl
theorem rw_16_60 : mm_code 16 60 = some (.invokevirtual 40, 3, 14, 3, [9, 0]) := rfl
theorem rw_16_63 : mm_code 16 63 = some (.ifCond .eq 40, 3, 103, 0, []) := rfl
theorem rw_16_66 : mm_code 16 66 = some (.aload_n 0, 1, 0, 0, []) := rfl
theorem rw_16_67 : mm_code 16 67 = some (.getfield 9, 3, 2, 0, [3, 1]) := rfl
theorem rw_16_70 : mm_code 16 70 = some (.aload_n 0, 1, 0, 0, []) := rfl
theorem rw_16_71 : mm_code 16 71 = some (.getfield 30, 3, 2, 2, [0, 5]) := rfl
theorem rw_16_74 : mm_code 16 74 = some (.iload 8, 2, 0, 0, []) := rfl
theorem rw_16_76 : mm_code 16 76 = some (.iastore, 1, 0, 0, []) := rfl
theorem rw_16_77 : mm_code 16 77 = some (.aload_n 0, 1, 0, 0, []) := rfl
theorem rw_16_78 : mm_code 16 78 = some (.getfield 15, 3, 2, 1, [3, 2]) := rfl
theorem rw_16_81 : mm_code 16 81 = some (.aload_n 0, 1, 0, 0, []) := rfl
theorem rw_16_82 : mm_code 16 82 = some (.getfield 30, 3, 2, 2, [0, 5]) := rfl
theorem rw_16_85 : mm_code 16 85 = some (.aload_n 2, 1, 0, 0, []) := rfl
theorem rw_16_86 : mm_code 16 86 = some (.getfield 39, 3, 1, 3, [3, 8]) := rfl
theorem rw_16_89 : mm_code 16 89 = some (.iload 8, 2, 0, 0, []) := rfl
theorem rw_16_91 : mm_code 16 91 = some (.laload, 1, 0, 0, []) := rfl
theorem rw_16_92 : mm_code 16 92 = some (.lastore, 1, 0, 0, []) := rfl
theorem rw_16_93 : mm_code 16 93 = some (.aload_n 0, 1, 0, 0, []) := rfl
theorem rw_16_94 : mm_code 16 94 = some (.dup, 1, 0, 0, []) := rfl
theorem rw_16_95 : mm_code 16 95 = some (.getfield 30, 3, 2, 2, [0, 5]) := rfl
theorem rw_16_98 : mm_code 16 98 = some (.iconst 1, 1, 1, 0, []) := rfl
theorem rw_16_99 : mm_code 16 99 = some (.iadd, 1, 0, 0, []) := rfl
theorem rw_16_100 : mm_code 16 100 = some (.putfield 30, 3, 2, 2, [0, 5]) := rfl
theorem rw_16_103 : mm_code 16 103 = some (.iinc 8 1, 3, 1, 0, []) := rfl
theorem rw_16_106 : mm_code 16 106 = some (.goto (-83), 3, 23, 0, []) := rfl
theorem rw_16_109 : mm_code 16 109 = some (.aload_n 0, 1, 0, 0, []) := rfl
theorem rw_16_110 : mm_code 16 110 = some (.iload 5, 2, 0, 0, []) := rfl
theorem rw_16_112 : mm_code 16 112 = some (.putfield 44, 3, 2, 3, [0, 10]) := rfl
theorem rw_16_115 : mm_code 16 115 = some (.aload_n 0, 1, 0, 0, []) := rfl
theorem rw_16_116 : mm_code 16 116 = some (.aload_n 1, 1, 0, 0, []) := rfl
theorem rw_16_117 : mm_code 16 117 = some (.iload 4, 2, 0, 0, []) := rfl
theorem rw_16_119 : mm_code 16 119 = some (.invokevirtual 47, 3, 51, 2, [11, 0]) := rfl
theorem rw_16_122 : mm_code 16 122 = some (.putfield 51, 3, 2, 4, [0, 12]) := rfl
theorem rw_16_125 : mm_code 16 125 = some (.aload_n 0, 1, 0, 0, []) := rfl
theorem rw_16_126 : mm_code 16 126 = some (.iconst 0, 1, 0, 0, []) := rfl
theorem rw_16_127 : mm_code 16 127 = some (.putfield 54, 3, 2, 5, [0, 13]) := rfl
theorem rw_16_130 : mm_code 16 130 = some (.aload_n 0, 1, 0, 0, []) := rfl
theorem rw_16_131 : mm_code 16 131 = some (.iconst 0, 1, 0, 0, []) := rfl
theorem rw_16_132 : mm_code 16 132 = some (.putfield 57, 3, 2, 6, [0, 14]) := rfl
theorem rw_16_135 : mm_code 16 135 = some (.aload_n 0, 1, 0, 0, []) := rfl
theorem rw_16_136 : mm_code 16 136 = some (.iconst 0, 1, 0, 0, []) := rfl
theorem rw_16_137 : mm_code 16 137 = some (.iconst 0, 1, 0, 0, []) := rfl
theorem rw_16_138 : mm_code 16 138 = some (.lload 6, 2, 0, 0, []) := rfl
theorem rw_16_140 : mm_code 16 140 = some (.invokevirtual 60, 3, 17, 4, [15, 0]) := rfl
theorem rw_16_143 : mm_code 16 143 = some (.aload_n 0, 1, 0, 0, []) := rfl
theorem rw_16_144 : mm_code 16 144 = some (.getfield 57, 3, 2, 6, [0, 14]) := rfl
theorem rw_16_147 : mm_code 16 147 = some (.ifCond .ne 8, 3, 155, 0, []) := rfl
theorem rw_16_150 : mm_code 16 150 = some (.aload_n 0, 1, 0, 0, []) := rfl
theorem rw_16_151 : mm_code 16 151 = some (.iconst 0, 1, 0, 0, []) := rfl
theorem rw_16_152 : mm_code 16 152 = some (.putfield 51, 3, 2, 4, [0, 12]) := rfl
theorem rw_16_155 : mm_code 16 155 = some (.return_, 1, 0, 0, []) := rfl
theorem rw_17_0 : mm_code 17 0 = some (.iload_n 1, 1, 0, 0, []) := rfl
theorem rw_17_1 : mm_code 17 1 = some (.aload_n 0, 1, 0, 0, []) := rfl
theorem rw_17_2 : mm_code 17 2 = some (.getfield 30, 3, 2, 2, [0, 5]) := rfl
theorem rw_17_5 : mm_code 17 5 = some (.if_icmp .ge 44, 3, 49, 0, []) := rfl
theorem rw_17_8 : mm_code 17 8 = some (.aload_n 0, 1, 0, 0, []) := rfl
theorem rw_17_9 : mm_code 17 9 = some (.iload_n 1, 1, 0, 0, []) := rfl
theorem rw_17_10 : mm_code 17 10 = some (.iconst 1, 1, 1, 0, []) := rfl
theorem rw_17_11 : mm_code 17 11 = some (.iadd, 1, 0, 0, []) := rfl
theorem rw_17_12 : mm_code 17 12 = some (.iload_n 2, 1, 0, 0, []) := rfl
theorem rw_17_13 : mm_code 17 13 = some (.lload_n 3, 1, 0, 0, []) := rfl
theorem rw_17_14 : mm_code 17 14 = some (.invokevirtual 60, 3, 17, 4, [15, 0]) := rfl
theorem rw_17_17 : mm_code 17 17 = some (.aload_n 0, 1, 0, 0, []) := rfl
theorem rw_17_18 : mm_code 17 18 = some (.iload_n 1, 1, 0, 0, []) := rfl
theorem rw_17_19 : mm_code 17 19 = some (.iconst 1, 1, 1, 0, []) := rfl
theorem rw_17_20 : mm_code 17 20 = some (.iadd, 1, 0, 0, []) := rfl
theorem rw_17_21 : mm_code 17 21 = some (.iload_n 2, 1, 0, 0, []) := rfl
theorem rw_17_22 : mm_code 17 22 = some (.iconst 1, 1, 1, 0, []) := rfl
theorem rw_17_23 : mm_code 17 23 = some (.aload_n 0, 1, 0, 0, []) := rfl
theorem rw_17_24 : mm_code 17 24 = some (.getfield 9, 3, 2, 0, [3, 1]) := rfl
theorem rw_17_27 : mm_code 17 27 = some (.iload_n 1, 1, 0, 0, []) := rfl
theorem rw_17_28 : mm_code 17 28 = some (.iaload, 1, 0, 0, []) := rfl
theorem rw_17_29 : mm_code 17 29 = some (.ishl, 1, 0, 0, []) := rfl
theorem rw_17_30 : mm_code 17 30 = some (.ior, 1, 0, 0, []) := rfl
theorem rw_17_31 : mm_code 17 31 = some (.lload_n 3, 1, 0, 0, []) := rfl
theorem rw_17_32 : mm_code 17 32 = some (.aload_n 0, 1, 0, 0, []) := rfl
theorem rw_17_33 : mm_code 17 33 = some (.getfield 15, 3, 2, 1, [3, 2]) := rfl
theorem rw_17_36 : mm_code 17 36 = some (.iload_n 1, 1, 0, 0, []) := rfl
theorem rw_17_37 : mm_code 17 37 = some (.laload, 1, 0, 0, []) := rfl
theorem rw_17_38 : mm_code 17 38 = some (.ldc2_w 64, 3, 1, 1, [16]) := rfl
theorem rw_17_41 : mm_code 17 41 = some (.lxor, 1, 0, 0, []) := rfl
theorem rw_17_42 : mm_code 17 42 = some (.land, 1, 0, 0, []) := rfl
theorem rw_17_43 : mm_code 17 43 = some (.invokevirtual 60, 3, 17, 4, [15, 0]) := rfl
theorem rw_17_46 : mm_code 17 46 = some (.goto 44, 3, 90, 0, []) := rfl
theorem rw_17_49 : mm_code 17 49 = some (.lload_n 3, 1, 0, 0, []) := rfl
theorem rw_17_50 : mm_code 17 50 = some (.invokestatic 66, 3, 247, 1, [17, 0]) := rfl
theorem rw_17_53 : mm_code 17 53 = some (.aload_n 0, 1, 0, 0, []) := rfl
theorem rw_17_54 : mm_code 17 54 = some (.getfield 44, 3, 2, 3, [0, 10]) := rfl
theorem rw_17_57 : mm_code 17 57 = some (.if_icmp .gt 33, 3, 90, 0, []) := rfl
theorem rw_17_60 : mm_code 17 60 = some (.aload_n 0, 1, 0, 0, []) := rfl
theorem rw_17_61 : mm_code 17 61 = some (.dup, 1, 0, 0, []) := rfl
theorem rw_17_62 : mm_code 17 62 = some (.getfield 57, 3, 2, 6, [0, 14]) := rfl
theorem rw_17_65 : mm_code 17 65 = some (.iconst 1, 1, 1, 0, []) := rfl
theorem rw_17_66 : mm_code 17 66 = some (.iadd, 1, 0, 0, []) := rfl
theorem rw_17_67 : mm_code 17 67 = some (.putfield 57, 3, 2, 6, [0, 14]) := rfl
theorem rw_17_70 : mm_code 17 70 = some (.aload_n 0, 1, 0, 0, []) := rfl
theorem rw_17_71 : mm_code 17 71 = some (.dup, 1, 0, 0, []) := rfl
theorem rw_17_72 : mm_code 17 72 = some (.getfield 51, 3, 2, 4, [0, 12]) := rfl
theorem rw_17_75 : mm_code 17 75 = some (.iload_n 2, 1, 0, 0, []) := rfl
theorem rw_17_76 : mm_code 17 76 = some (.iand, 1, 0, 0, []) := rfl
theorem rw_17_77 : mm_code 17 77 = some (.putfield 51, 3, 2, 4, [0, 12]) := rfl
theorem rw_17_80 : mm_code 17 80 = some (.aload_n 0, 1, 0, 0, []) := rfl
theorem rw_17_81 : mm_code 17 81 = some (.dup, 1, 0, 0, []) := rfl
theorem rw_17_82 : mm_code 17 82 = some (.getfield 54, 3, 2, 5, [0, 13]) := rfl
theorem rw_17_85 : mm_code 17 85 = some (.iload_n 2, 1, 0, 0, []) := rfl
theorem rw_17_86 : mm_code 17 86 = some (.ior, 1, 0, 0, []) := rfl
theorem rw_17_87 : mm_code 17 87 = some (.putfield 54, 3, 2, 5, [0, 13]) := rfl
theorem rw_17_90 : mm_code 17 90 = some (.return_, 1, 0, 0, []) := rfl
theorem rw_18_0 : mm_code 18 0 = some (.aload_n 2, 1, 0, 0, []) := rfl
theorem rw_18_1 : mm_code 18 1 = some (.getfield 19, 3, 1, 0, [3, 3]) := rfl
theorem rw_18_4 : mm_code 18 4 = some (.iload_n 3, 1, 0, 0, []) := rfl
theorem rw_18_5 : mm_code 18 5 = some (.laload, 1, 0, 0, []) := rfl
theorem rw_18_6 : mm_code 18 6 = some (.aload_n 1, 1, 0, 0, []) := rfl
theorem rw_18_7 : mm_code 18 7 = some (.iload 4, 2, 0, 0, []) := rfl
theorem rw_18_9 : mm_code 18 9 = some (.invokevirtual 24, 3, 48, 2, [4, 0]) := rfl
theorem rw_18_12 : mm_code 18 12 = some (.land, 1, 0, 0, []) := rfl
theorem rw_18_13 : mm_code 18 13 = some (.lstore 6, 2, 0, 0, []) := rfl
theorem rw_18_15 : mm_code 18 15 = some (.aload_n 0, 1, 0, 0, []) := rfl
theorem rw_18_16 : mm_code 18 16 = some (.iconst (-1), 1, 1, 1, []) := rfl
theorem rw_18_17 : mm_code 18 17 = some (.putfield 51, 3, 2, 4, [0, 12]) := rfl
theorem rw_18_20 : mm_code 18 20 = some (.aload_n 0, 1, 0, 0, []) := rfl
theorem rw_18_21 : mm_code 18 21 = some (.iconst 0, 1, 0, 0, []) := rfl
theorem rw_18_22 : mm_code 18 22 = some (.putfield 54, 3, 2, 5, [0, 13]) := rfl
theorem rw_18_25 : mm_code 18 25 = some (.aload_n 0, 1, 0, 0, []) := rfl
theorem rw_18_26 : mm_code 18 26 = some (.iconst 0, 1, 0, 0, []) := rfl
theorem rw_18_27 : mm_code 18 27 = some (.putfield 57, 3, 2, 6, [0, 14]) := rfl
theorem rw_18_30 : mm_code 18 30 = some (.iconst 0, 1, 0, 0, []) := rfl
theorem rw_18_31 : mm_code 18 31 = some (.istore 8, 2, 0, 0, []) := rfl
theorem rw_18_33 : mm_code 18 33 = some (.iload 8, 2, 0, 0, []) := rfl
theorem rw_18_35 : mm_code 18 35 = some (.aload_n 1, 1, 0, 0, []) := rfl
theorem rw_18_36 : mm_code 18 36 = some (.getfield 72, 3, 5, 9, [3, 18]) := rfl
theorem rw_18_39 : mm_code 18 39 = some (.iload 4, 2, 0, 0, []) := rfl
theorem rw_18_41 : mm_code 18 41 = some (.iaload, 1, 0, 0, []) := rfl
theorem rw_18_42 : mm_code 18 42 = some (.if_icmp .ge 88, 3, 130, 0, []) := rfl
theorem rw_18_45 : mm_code 18 45 = some (.aload_n 1, 1, 0, 0, []) := rfl
theorem rw_18_46 : mm_code 18 46 = some (.iload 4, 2, 0, 0, []) := rfl
theorem rw_18_48 : mm_code 18 48 = some (.iload 8, 2, 0, 0, []) := rfl
theorem rw_18_50 : mm_code 18 50 = some (.invokevirtual 75, 3, 49, 3, [19, 0]) := rfl
theorem rw_18_53 : mm_code 18 53 = some (.lstore 9, 2, 0, 0, []) := rfl
theorem rw_18_55 : mm_code 18 55 = some (.lload 6, 2, 0, 0, []) := rfl
theorem rw_18_57 : mm_code 18 57 = some (.lload 9, 2, 0, 0, []) := rfl
theorem rw_18_59 : mm_code 18 59 = some (.land, 1, 0, 0, []) := rfl
theorem rw_18_60 : mm_code 18 60 = some (.lload 9, 2, 0, 0, []) := rfl
theorem rw_18_62 : mm_code 18 62 = some (.lcmp, 1, 0, 0, []) := rfl
theorem rw_18_63 : mm_code 18 63 = some (.ifCond .ne 61, 3, 124, 0, []) := rfl
theorem rw_18_66 : mm_code 18 66 = some (.lload 6, 2, 0, 0, []) := rfl
theorem rw_18_68 : mm_code 18 68 = some (.lload 9, 2, 0, 0, []) := rfl
theorem rw_18_70 : mm_code 18 70 = some (.ldc2_w 64, 3, 1, 1, [16]) := rfl
theorem rw_18_73 : mm_code 18 73 = some (.lxor, 1, 0, 0, []) := rfl
theorem rw_18_74 : mm_code 18 74 = some (.land, 1, 0, 0, []) := rfl
theorem rw_18_75 : mm_code 18 75 = some (.invokestatic 66, 3, 247, 1, [17, 0]) := rfl
theorem rw_18_78 : mm_code 18 78 = some (.iload 5, 2, 0, 0, []) := rfl
theorem rw_18_80 : mm_code 18 80 = some (.if_icmp .gt 44, 3, 124, 0, []) := rfl
theorem rw_18_83 : mm_code 18 83 = some (.aload_n 0, 1, 0, 0, []) := rfl
theorem rw_18_84 : mm_code 18 84 = some (.dup, 1, 0, 0, []) := rfl
theorem rw_18_85 : mm_code 18 85 = some (.getfield 57, 3, 2, 6, [0, 14]) := rfl
theorem rw_18_88 : mm_code 18 88 = some (.iconst 1, 1, 1, 0, []) := rfl
theorem rw_18_89 : mm_code 18 89 = some (.iadd, 1, 0, 0, []) := rfl
theorem rw_18_90 : mm_code 18 90 = some (.putfield 57, 3, 2, 6, [0, 14]) := rfl
theorem rw_18_93 : mm_code 18 93 = some (.aload_n 0, 1, 0, 0, []) := rfl
theorem rw_18_94 : mm_code 18 94 = some (.aload_n 0, 1, 0, 0, []) := rfl
theorem rw_18_95 : mm_code 18 95 = some (.getfield 57, 3, 2, 6, [0, 14]) := rfl
theorem rw_18_98 : mm_code 18 98 = some (.iconst 1, 1, 1, 0, []) := rfl
theorem rw_18_99 : mm_code 18 99 = some (.if_icmp .ne 8, 3, 107, 0, []) := rfl
theorem rw_18_102 : mm_code 18 102 = some (.iload 8, 2, 0, 0, []) := rfl
theorem rw_18_104 : mm_code 18 104 = some (.goto 4, 3, 108, 0, []) := rfl
theorem rw_18_107 : mm_code 18 107 = some (.iconst (-1), 1, 1, 1, []) := rfl
theorem rw_18_108 : mm_code 18 108 = some (.putfield 51, 3, 2, 4, [0, 12]) := rfl
theorem rw_18_111 : mm_code 18 111 = some (.aload_n 0, 1, 0, 0, []) := rfl
theorem rw_18_112 : mm_code 18 112 = some (.dup, 1, 0, 0, []) := rfl
theorem rw_18_113 : mm_code 18 113 = some (.getfield 54, 3, 2, 5, [0, 13]) := rfl
theorem rw_18_116 : mm_code 18 116 = some (.iconst 1, 1, 1, 0, []) := rfl
theorem rw_18_117 : mm_code 18 117 = some (.iload 8, 2, 0, 0, []) := rfl
theorem rw_18_119 : mm_code 18 119 = some (.ishl, 1, 0, 0, []) := rfl
theorem rw_18_120 : mm_code 18 120 = some (.ior, 1, 0, 0, []) := rfl
theorem rw_18_121 : mm_code 18 121 = some (.putfield 54, 3, 2, 5, [0, 13]) := rfl
theorem rw_18_124 : mm_code 18 124 = some (.iinc 8 1, 3, 1, 0, []) := rfl
theorem rw_18_127 : mm_code 18 127 = some (.goto (-94), 3, 33, 0, []) := rfl
theorem rw_18_130 : mm_code 18 130 = some (.return_, 1, 0, 0, []) := rfl
theorem rw_20_0 : mm_code 20 0 = some (.aload_n 0, 1, 0, 0, []) := rfl
theorem rw_20_1 : mm_code 20 1 = some (.getfield 24, 3, 3, 0, [0, 5]) := rfl
theorem rw_20_4 : mm_code 20 4 = some (.sipush 150, 3, 150, 0, []) := rfl
theorem rw_20_7 : mm_code 20 7 = some (.if_icmp .lt 5, 3, 12, 0, []) := rfl
theorem rw_20_10 : mm_code 20 10 = some (.iconst (-1), 1, 1, 1, []) := rfl
theorem rw_20_11 : mm_code 20 11 = some (.ireturn, 1, 0, 0, []) := rfl
theorem rw_20_12 : mm_code 20 12 = some (.aload_n 0, 1, 0, 0, []) := rfl
theorem rw_20_13 : mm_code 20 13 = some (.getfield 9, 3, 3, 1, [3, 1]) := rfl
theorem rw_20_16 : mm_code 20 16 = some (.aload_n 0, 1, 0, 0, []) := rfl
theorem rw_20_17 : mm_code 20 17 = some (.getfield 24, 3, 3, 0, [0, 5]) := rfl
theorem rw_20_20 : mm_code 20 20 = some (.iload_n 1, 1, 0, 0, []) := rfl
theorem rw_20_21 : mm_code 20 21 = some (.iastore, 1, 0, 0, []) := rfl
theorem rw_20_22 : mm_code 20 22 = some (.aload_n 0, 1, 0, 0, []) := rfl
theorem rw_20_23 : mm_code 20 23 = some (.getfield 15, 3, 3, 2, [3, 2]) := rfl
theorem rw_20_26 : mm_code 20 26 = some (.aload_n 0, 1, 0, 0, []) := rfl
theorem rw_20_27 : mm_code 20 27 = some (.getfield 24, 3, 3, 0, [0, 5]) := rfl
theorem rw_20_30 : mm_code 20 30 = some (.iload_n 2, 1, 0, 0, []) := rfl
theorem rw_20_31 : mm_code 20 31 = some (.iastore, 1, 0, 0, []) := rfl
theorem rw_20_32 : mm_code 20 32 = some (.aload_n 0, 1, 0, 0, []) := rfl
theorem rw_20_33 : mm_code 20 33 = some (.getfield 18, 3, 3, 3, [3, 3]) := rfl
theorem rw_20_36 : mm_code 20 36 = some (.aload_n 0, 1, 0, 0, []) := rfl
theorem rw_20_37 : mm_code 20 37 = some (.getfield 24, 3, 3, 0, [0, 5]) := rfl
theorem rw_20_40 : mm_code 20 40 = some (.iload_n 3, 1, 0, 0, []) := rfl
theorem rw_20_41 : mm_code 20 41 = some (.iastore, 1, 0, 0, []) := rfl
theorem rw_20_42 : mm_code 20 42 = some (.aload_n 0, 1, 0, 0, []) := rfl
theorem rw_20_43 : mm_code 20 43 = some (.getfield 21, 3, 3, 4, [3, 4]) := rfl
theorem rw_20_46 : mm_code 20 46 = some (.aload_n 0, 1, 0, 0, []) := rfl
theorem rw_20_47 : mm_code 20 47 = some (.getfield 24, 3, 3, 0, [0, 5]) := rfl
theorem rw_20_50 : mm_code 20 50 = some (.iload 4, 2, 0, 0, []) := rfl
theorem rw_20_52 : mm_code 20 52 = some (.iastore, 1, 0, 0, []) := rfl
theorem rw_20_53 : mm_code 20 53 = some (.aload_n 0, 1, 0, 0, []) := rfl
theorem rw_20_54 : mm_code 20 54 = some (.dup, 1, 0, 0, []) := rfl
theorem rw_20_55 : mm_code 20 55 = some (.getfield 24, 3, 3, 0, [0, 5]) := rfl
theorem rw_20_58 : mm_code 20 58 = some (.iconst 1, 1, 1, 0, []) := rfl
theorem rw_20_59 : mm_code 20 59 = some (.iadd, 1, 0, 0, []) := rfl
theorem rw_20_60 : mm_code 20 60 = some (.putfield 24, 3, 3, 0, [0, 5]) := rfl
theorem rw_20_63 : mm_code 20 63 = some (.aload_n 0, 1, 0, 0, []) := rfl
theorem rw_20_64 : mm_code 20 64 = some (.getfield 24, 3, 3, 0, [0, 5]) := rfl
theorem rw_20_67 : mm_code 20 67 = some (.iconst 1, 1, 1, 0, []) := rfl
theorem rw_20_68 : mm_code 20 68 = some (.isub, 1, 0, 0, []) := rfl
theorem rw_20_69 : mm_code 20 69 = some (.ireturn, 1, 0, 0, []) := rfl
theorem rw_22_0 : mm_code 22 0 = some (.aload_n 0, 1, 0, 0, []) := rfl
theorem rw_22_1 : mm_code 22 1 = some (.iconst 0, 1, 0, 0, []) := rfl
theorem rw_22_2 : mm_code 22 2 = some (.putfield 27, 3, 4, 4, [0, 6]) := rfl
theorem rw_22_5 : mm_code 22 5 = some (.iconst 0, 1, 0, 0, []) := rfl
theorem rw_22_6 : mm_code 22 6 = some (.istore_n 1, 1, 0, 0, []) := rfl
theorem rw_22_7 : mm_code 22 7 = some (.iload_n 1, 1, 0, 0, []) := rfl
theorem rw_22_8 : mm_code 22 8 = some (.bipush 6, 2, 6, 0, []) := rfl
theorem rw_22_10 : mm_code 22 10 = some (.if_icmp .ge 16, 3, 26, 0, []) := rfl
theorem rw_22_13 : mm_code 22 13 = some (.aload_n 0, 1, 0, 0, []) := rfl
theorem rw_22_14 : mm_code 22 14 = some (.getfield 16, 3, 4, 1, [3, 3]) := rfl
theorem rw_22_17 : mm_code 22 17 = some (.iload_n 1, 1, 0, 0, []) := rfl
theorem rw_22_18 : mm_code 22 18 = some (.iconst 0, 1, 0, 0, []) := rfl
theorem rw_22_19 : mm_code 22 19 = some (.iastore, 1, 0, 0, []) := rfl
theorem rw_22_20 : mm_code 22 20 = some (.iinc 1 1, 3, 1, 0, []) := rfl
theorem rw_22_23 : mm_code 22 23 = some (.goto (-16), 3, 7, 0, []) := rfl
theorem rw_22_26 : mm_code 22 26 = some (.return_, 1, 0, 0, []) := rfl
theorem rw_23_0 : mm_code 23 0 = some (.aload_n 0, 1, 0, 0, []) := rfl
theorem rw_23_1 : mm_code 23 1 = some (.getfield 16, 3, 4, 1, [3, 3]) := rfl
theorem rw_23_4 : mm_code 23 4 = some (.iload_n 1, 1, 0, 0, []) := rfl
theorem rw_23_5 : mm_code 23 5 = some (.iaload, 1, 0, 0, []) := rfl
theorem rw_23_6 : mm_code 23 6 = some (.bipush 30, 2, 30, 0, []) := rfl
theorem rw_23_8 : mm_code 23 8 = some (.if_icmp .ge 27, 3, 35, 0, []) := rfl
theorem rw_23_11 : mm_code 23 11 = some (.aload_n 0, 1, 0, 0, []) := rfl
theorem rw_23_12 : mm_code 23 12 = some (.getfield 11, 3, 4, 0, [3, 2]) := rfl
theorem rw_23_15 : mm_code 23 15 = some (.iload_n 1, 1, 0, 0, []) := rfl
theorem rw_23_16 : mm_code 23 16 = some (.aaload, 1, 0, 0, []) := rfl
theorem rw_23_17 : mm_code 23 17 = some (.aload_n 0, 1, 0, 0, []) := rfl
theorem rw_23_18 : mm_code 23 18 = some (.getfield 16, 3, 4, 1, [3, 3]) := rfl
theorem rw_23_21 : mm_code 23 21 = some (.iload_n 1, 1, 0, 0, []) := rfl
theorem rw_23_22 : mm_code 23 22 = some (.iaload, 1, 0, 0, []) := rfl
theorem rw_23_23 : mm_code 23 23 = some (.iload_n 2, 1, 0, 0, []) := rfl
theorem rw_23_24 : mm_code 23 24 = some (.iastore, 1, 0, 0, []) := rfl
theorem rw_23_25 : mm_code 23 25 = some (.aload_n 0, 1, 0, 0, []) := rfl
theorem rw_23_26 : mm_code 23 26 = some (.getfield 16, 3, 4, 1, [3, 3]) := rfl
theorem rw_23_29 : mm_code 23 29 = some (.iload_n 1, 1, 0, 0, []) := rfl
theorem rw_23_30 : mm_code 23 30 = some (.dup2, 1, 0, 0, []) := rfl
theorem rw_23_31 : mm_code 23 31 = some (.iaload, 1, 0, 0, []) := rfl
theorem rw_23_32 : mm_code 23 32 = some (.iconst 1, 1, 1, 0, []) := rfl
theorem rw_23_33 : mm_code 23 33 = some (.iadd, 1, 0, 0, []) := rfl
theorem rw_23_34 : mm_code 23 34 = some (.iastore, 1, 0, 0, []) := rfl
theorem rw_23_35 : mm_code 23 35 = some (.return_, 1, 0, 0, []) := rfl
theorem rw_24_0 : mm_code 24 0 = some (.iconst 0, 1, 0, 0, []) := rfl
theorem rw_24_1 : mm_code 24 1 = some (.istore_n 3, 1, 0, 0, []) := rfl
theorem rw_24_2 : mm_code 24 2 = some (.iload_n 3, 1, 0, 0, []) := rfl
theorem rw_24_3 : mm_code 24 3 = some (.bipush 30, 2, 30, 0, []) := rfl
theorem rw_24_5 : mm_code 24 5 = some (.if_icmp .ge 57, 3, 62, 0, []) := rfl
theorem rw_24_8 : mm_code 24 8 = some (.aload_n 0, 1, 0, 0, []) := rfl
theorem rw_24_9 : mm_code 24 9 = some (.getfield 27, 3, 4, 4, [0, 6]) := rfl
theorem rw_24_12 : mm_code 24 12 = some (.iload_n 3, 1, 0, 0, []) := rfl
theorem rw_24_13 : mm_code 24 13 = some (.ishr, 1, 0, 0, []) := rfl
theorem rw_24_14 : mm_code 24 14 = some (.iconst 1, 1, 1, 0, []) := rfl
theorem rw_24_15 : mm_code 24 15 = some (.iand, 1, 0, 0, []) := rfl
theorem rw_24_16 : mm_code 24 16 = some (.ifCond .eq 7, 3, 23, 0, []) := rfl
theorem rw_24_19 : mm_code 24 19 = some (.iconst 1, 1, 1, 0, []) := rfl
theorem rw_24_20 : mm_code 24 20 = some (.goto 4, 3, 24, 0, []) := rfl
theorem rw_24_23 : mm_code 24 23 = some (.iconst 0, 1, 0, 0, []) := rfl
theorem rw_24_24 : mm_code 24 24 = some (.istore 4, 2, 0, 0, []) := rfl
theorem rw_24_26 : mm_code 24 26 = some (.aload_n 0, 1, 0, 0, []) := rfl
theorem rw_24_27 : mm_code 24 27 = some (.getfield 23, 3, 4, 3, [3, 5]) := rfl
theorem rw_24_30 : mm_code 24 30 = some (.iload_n 3, 1, 0, 0, []) := rfl
theorem rw_24_31 : mm_code 24 31 = some (.iload 4, 2, 0, 0, []) := rfl
theorem rw_24_33 : mm_code 24 33 = some (.ifCond .eq 16, 3, 49, 0, []) := rfl
theorem rw_24_36 : mm_code 24 36 = some (.aload_n 1, 1, 0, 0, []) := rfl
theorem rw_24_37 : mm_code 24 37 = some (.getfield 31, 3, 1, 0, [3, 7]) := rfl
theorem rw_24_40 : mm_code 24 40 = some (.iload_n 3, 1, 0, 0, []) := rfl
theorem rw_24_41 : mm_code 24 41 = some (.laload, 1, 0, 0, []) := rfl
theorem rw_24_42 : mm_code 24 42 = some (.iload_n 2, 1, 0, 0, []) := rfl
theorem rw_24_43 : mm_code 24 43 = some (.invokestatic 36, 3, 25, 2, [8, 0]) := rfl
theorem rw_24_46 : mm_code 24 46 = some (.goto 9, 3, 55, 0, []) := rfl
theorem rw_24_49 : mm_code 24 49 = some (.aload_n 1, 1, 0, 0, []) := rfl
theorem rw_24_50 : mm_code 24 50 = some (.getfield 31, 3, 1, 0, [3, 7]) := rfl
theorem rw_24_53 : mm_code 24 53 = some (.iload_n 3, 1, 0, 0, []) := rfl
theorem rw_24_54 : mm_code 24 54 = some (.laload, 1, 0, 0, []) := rfl
theorem rw_24_55 : mm_code 24 55 = some (.lastore, 1, 0, 0, []) := rfl
theorem rw_24_56 : mm_code 24 56 = some (.iinc 3 1, 3, 1, 0, []) := rfl
theorem rw_24_59 : mm_code 24 59 = some (.goto (-57), 3, 2, 0, []) := rfl
theorem rw_24_62 : mm_code 24 62 = some (.return_, 1, 0, 0, []) := rfl
theorem rw_25_0 : mm_code 25 0 = some (.lconst 0, 1, 0, 0, []) := rfl
theorem rw_25_1 : mm_code 25 1 = some (.lstore_n 3, 1, 0, 0, []) := rfl
theorem rw_25_2 : mm_code 25 2 = some (.iconst 0, 1, 0, 0, []) := rfl
theorem rw_25_3 : mm_code 25 3 = some (.istore 5, 2, 0, 0, []) := rfl
theorem rw_25_5 : mm_code 25 5 = some (.iload 5, 2, 0, 0, []) := rfl
theorem rw_25_7 : mm_code 25 7 = some (.iload_n 2, 1, 0, 0, []) := rfl
theorem rw_25_8 : mm_code 25 8 = some (.if_icmp .ge 20, 3, 28, 0, []) := rfl
theorem rw_25_11 : mm_code 25 11 = some (.lload_n 3, 1, 0, 0, []) := rfl
theorem rw_25_12 : mm_code 25 12 = some (.iconst 1, 1, 1, 0, []) := rfl
theorem rw_25_13 : mm_code 25 13 = some (.lshl, 1, 0, 0, []) := rfl
theorem rw_25_14 : mm_code 25 14 = some (.lload_n 0, 1, 0, 0, []) := rfl
theorem rw_25_15 : mm_code 25 15 = some (.iload 5, 2, 0, 0, []) := rfl
theorem rw_25_17 : mm_code 25 17 = some (.lshr, 1, 0, 0, []) := rfl
theorem rw_25_18 : mm_code 25 18 = some (.lconst 1, 1, 1, 0, []) := rfl
theorem rw_25_19 : mm_code 25 19 = some (.land, 1, 0, 0, []) := rfl
theorem rw_25_20 : mm_code 25 20 = some (.lor, 1, 0, 0, []) := rfl
theorem rw_25_21 : mm_code 25 21 = some (.lstore_n 3, 1, 0, 0, []) := rfl
theorem rw_25_22 : mm_code 25 22 = some (.iinc 5 1, 3, 1, 0, []) := rfl
theorem rw_25_25 : mm_code 25 25 = some (.goto (-20), 3, 5, 0, []) := rfl
theorem rw_25_28 : mm_code 25 28 = some (.lload_n 3, 1, 0, 0, []) := rfl
theorem rw_25_29 : mm_code 25 29 = some (.lreturn, 1, 0, 0, []) := rfl
theorem rw_26_0 : mm_code 26 0 = some (.aload_n 0, 1, 0, 0, []) := rfl
theorem rw_26_1 : mm_code 26 1 = some (.getfield 23, 3, 4, 3, [3, 5]) := rfl
theorem rw_26_4 : mm_code 26 4 = some (.iload_n 1, 1, 0, 0, []) := rfl
theorem rw_26_5 : mm_code 26 5 = some (.laload, 1, 0, 0, []) := rfl
theorem rw_26_6 : mm_code 26 6 = some (.lload_n 2, 1, 0, 0, []) := rfl
theorem rw_26_7 : mm_code 26 7 = some (.land, 1, 0, 0, []) := rfl
theorem rw_26_8 : mm_code 26 8 = some (.lload_n 2, 1, 0, 0, []) := rfl
theorem rw_26_9 : mm_code 26 9 = some (.lcmp, 1, 0, 0, []) := rfl
theorem rw_26_10 : mm_code 26 10 = some (.ifCond .ne 7, 3, 17, 0, []) := rfl
theorem rw_26_13 : mm_code 26 13 = some (.iconst 1, 1, 1, 0, []) := rfl
theorem rw_26_14 : mm_code 26 14 = some (.goto 4, 3, 18, 0, []) := rfl
theorem rw_26_17 : mm_code 26 17 = some (.iconst 0, 1, 0, 0, []) := rfl
theorem rw_26_18 : mm_code 26 18 = some (.ireturn, 1, 1, 0, []) := rfl
theorem rw_27_0 : mm_code 27 0 = some (.iconst 0, 1, 0, 0, []) := rfl
theorem rw_27_1 : mm_code 27 1 = some (.istore 4, 2, 0, 0, []) := rfl
theorem rw_27_3 : mm_code 27 3 = some (.iconst 0, 1, 0, 0, []) := rfl
theorem rw_27_4 : mm_code 27 4 = some (.istore 5, 2, 0, 0, []) := rfl
theorem rw_27_6 : mm_code 27 6 = some (.iload 5, 2, 0, 0, []) := rfl
theorem rw_27_8 : mm_code 27 8 = some (.aload_n 0, 1, 0, 0, []) := rfl
theorem rw_27_9 : mm_code 27 9 = some (.getfield 16, 3, 4, 1, [3, 3]) := rfl
theorem rw_27_12 : mm_code 27 12 = some (.iload_n 1, 1, 0, 0, []) := rfl
theorem rw_27_13 : mm_code 27 13 = some (.iaload, 1, 0, 0, []) := rfl
theorem rw_27_14 : mm_code 27 14 = some (.if_icmp .ge 39, 3, 53, 0, []) := rfl
theorem rw_27_17 : mm_code 27 17 = some (.aload_n 0, 1, 0, 0, []) := rfl
theorem rw_27_18 : mm_code 27 18 = some (.getfield 11, 3, 4, 0, [3, 2]) := rfl
theorem rw_27_21 : mm_code 27 21 = some (.iload_n 1, 1, 0, 0, []) := rfl
theorem rw_27_22 : mm_code 27 22 = some (.aaload, 1, 0, 0, []) := rfl
theorem rw_27_23 : mm_code 27 23 = some (.iload 5, 2, 0, 0, []) := rfl
theorem rw_27_25 : mm_code 27 25 = some (.iaload, 1, 0, 0, []) := rfl
theorem rw_27_26 : mm_code 27 26 = some (.istore 6, 2, 0, 0, []) := rfl
theorem rw_27_28 : mm_code 27 28 = some (.aload_n 0, 1, 0, 0, []) := rfl
theorem rw_27_29 : mm_code 27 29 = some (.iload 6, 2, 0, 0, []) := rfl
theorem rw_27_31 : mm_code 27 31 = some (.lload_n 2, 1, 0, 0, []) := rfl
theorem rw_27_32 : mm_code 27 32 = some (.invokevirtual 40, 3, 26, 3, [9, 0]) := rfl
theorem rw_27_35 : mm_code 27 35 = some (.ifCond .eq 12, 3, 47, 0, []) := rfl
theorem rw_27_38 : mm_code 27 38 = some (.iload 4, 2, 0, 0, []) := rfl
theorem rw_27_40 : mm_code 27 40 = some (.iconst 1, 1, 1, 0, []) := rfl
theorem rw_27_41 : mm_code 27 41 = some (.iload 6, 2, 0, 0, []) := rfl
theorem rw_27_43 : mm_code 27 43 = some (.ishl, 1, 0, 0, []) := rfl
theorem rw_27_44 : mm_code 27 44 = some (.ior, 1, 0, 0, []) := rfl
theorem rw_27_45 : mm_code 27 45 = some (.istore 4, 2, 0, 0, []) := rfl
theorem rw_27_47 : mm_code 27 47 = some (.iinc 5 1, 3, 1, 0, []) := rfl
theorem rw_27_50 : mm_code 27 50 = some (.goto (-44), 3, 6, 0, []) := rfl
theorem rw_27_53 : mm_code 27 53 = some (.iload 4, 2, 0, 0, []) := rfl
theorem rw_27_55 : mm_code 27 55 = some (.ireturn, 1, 0, 0, []) := rfl
theorem rw_28_0 : mm_code 28 0 = some (.aload_n 0, 1, 0, 0, []) := rfl
theorem rw_28_1 : mm_code 28 1 = some (.getfield 16, 3, 4, 1, [3, 3]) := rfl
theorem rw_28_4 : mm_code 28 4 = some (.iload_n 1, 1, 0, 0, []) := rfl
theorem rw_28_5 : mm_code 28 5 = some (.iaload, 1, 0, 0, []) := rfl
theorem rw_28_6 : mm_code 28 6 = some (.istore 6, 2, 0, 0, []) := rfl
theorem rw_28_8 : mm_code 28 8 = some (.iconst 0, 1, 0, 0, []) := rfl
theorem rw_28_9 : mm_code 28 9 = some (.istore 7, 2, 0, 0, []) := rfl
theorem rw_28_11 : mm_code 28 11 = some (.iload 7, 2, 0, 0, []) := rfl
theorem rw_28_13 : mm_code 28 13 = some (.iload 6, 2, 0, 0, []) := rfl
theorem rw_28_15 : mm_code 28 15 = some (.if_icmp .ge 25, 3, 40, 0, []) := rfl
theorem rw_28_18 : mm_code 28 18 = some (.aload_n 0, 1, 0, 0, []) := rfl
theorem rw_28_19 : mm_code 28 19 = some (.getfield 20, 3, 4, 2, [3, 4]) := rfl
theorem rw_28_22 : mm_code 28 22 = some (.iload 7, 2, 0, 0, []) := rfl
theorem rw_28_24 : mm_code 28 24 = some (.aload_n 0, 1, 0, 0, []) := rfl
theorem rw_28_25 : mm_code 28 25 = some (.getfield 11, 3, 4, 0, [3, 2]) := rfl
theorem rw_28_28 : mm_code 28 28 = some (.iload_n 1, 1, 0, 0, []) := rfl
theorem rw_28_29 : mm_code 28 29 = some (.aaload, 1, 0, 0, []) := rfl
theorem rw_28_30 : mm_code 28 30 = some (.iload 7, 2, 0, 0, []) := rfl
theorem rw_28_32 : mm_code 28 32 = some (.iaload, 1, 0, 0, []) := rfl
theorem rw_28_33 : mm_code 28 33 = some (.iastore, 1, 0, 0, []) := rfl
theorem rw_28_34 : mm_code 28 34 = some (.iinc 7 1, 3, 1, 0, []) := rfl
theorem rw_28_37 : mm_code 28 37 = some (.goto (-26), 3, 11, 0, []) := rfl
theorem rw_28_40 : mm_code 28 40 = some (.aload_n 0, 1, 0, 0, []) := rfl
theorem rw_28_41 : mm_code 28 41 = some (.getfield 16, 3, 4, 1, [3, 3]) := rfl
theorem rw_28_44 : mm_code 28 44 = some (.iload_n 1, 1, 0, 0, []) := rfl
theorem rw_28_45 : mm_code 28 45 = some (.iconst 0, 1, 0, 0, []) := rfl
theorem rw_28_46 : mm_code 28 46 = some (.iastore, 1, 0, 0, []) := rfl
theorem rw_28_47 : mm_code 28 47 = some (.iconst 0, 1, 0, 0, []) := rfl
theorem rw_28_48 : mm_code 28 48 = some (.istore 7, 2, 0, 0, []) := rfl
theorem rw_28_50 : mm_code 28 50 = some (.iload 7, 2, 0, 0, []) := rfl
theorem rw_28_52 : mm_code 28 52 = some (.iload 6, 2, 0, 0, []) := rfl
theorem rw_28_54 : mm_code 28 54 = some (.if_icmp .ge 41, 3, 95, 0, []) := rfl
theorem rw_28_57 : mm_code 28 57 = some (.aload_n 0, 1, 0, 0, []) := rfl
theorem rw_28_58 : mm_code 28 58 = some (.aload_n 0, 1, 0, 0, []) := rfl
theorem rw_28_59 : mm_code 28 59 = some (.aload_n 0, 1, 0, 0, []) := rfl
theorem rw_28_60 : mm_code 28 60 = some (.getfield 20, 3, 4, 2, [3, 4]) := rfl
theorem rw_28_63 : mm_code 28 63 = some (.iload 7, 2, 0, 0, []) := rfl
theorem rw_28_65 : mm_code 28 65 = some (.iaload, 1, 0, 0, []) := rfl
theorem rw_28_66 : mm_code 28 66 = some (.lload 4, 2, 0, 0, []) := rfl
theorem rw_28_68 : mm_code 28 68 = some (.invokevirtual 40, 3, 26, 3, [9, 0]) := rfl
theorem rw_28_71 : mm_code 28 71 = some (.ifCond .eq 7, 3, 78, 0, []) := rfl
theorem rw_28_74 : mm_code 28 74 = some (.iload_n 2, 1, 0, 0, []) := rfl
theorem rw_28_75 : mm_code 28 75 = some (.goto 4, 3, 79, 0, []) := rfl
theorem rw_28_78 : mm_code 28 78 = some (.iload_n 3, 1, 0, 0, []) := rfl
theorem rw_28_79 : mm_code 28 79 = some (.aload_n 0, 1, 0, 0, []) := rfl
theorem rw_28_80 : mm_code 28 80 = some (.getfield 20, 3, 4, 2, [3, 4]) := rfl
theorem rw_28_83 : mm_code 28 83 = some (.iload 7, 2, 0, 0, []) := rfl
theorem rw_28_85 : mm_code 28 85 = some (.iaload, 1, 0, 0, []) := rfl
theorem rw_28_86 : mm_code 28 86 = some (.invokevirtual 44, 3, 23, 3, [10, 0]) := rfl
theorem rw_28_89 : mm_code 28 89 = some (.iinc 7 1, 3, 1, 0, []) := rfl
theorem rw_28_92 : mm_code 28 92 = some (.goto (-42), 3, 50, 0, []) := rfl
theorem rw_28_95 : mm_code 28 95 = some (.return_, 1, 0, 0, []) := rfl
theorem rw_30_0 : mm_code 30 0 = some (.aload_n 0, 1, 0, 0, []) := rfl
theorem rw_30_1 : mm_code 30 1 = some (.bipush 10, 2, 10, 0, []) := rfl
theorem rw_30_3 : mm_code 30 3 = some (.putfield 9, 3, 5, 0, [0, 1]) := rfl
theorem rw_30_6 : mm_code 30 6 = some (.aload_n 0, 1, 0, 0, []) := rfl
theorem rw_30_7 : mm_code 30 7 = some (.iconst 0, 1, 0, 0, []) := rfl
theorem rw_30_8 : mm_code 30 8 = some (.putfield 41, 3, 5, 1, [0, 10]) := rfl
theorem rw_30_11 : mm_code 30 11 = some (.aload_n 0, 1, 0, 0, []) := rfl
theorem rw_30_12 : mm_code 30 12 = some (.iconst 0, 1, 0, 0, []) := rfl
theorem rw_30_13 : mm_code 30 13 = some (.putfield 44, 3, 5, 2, [0, 11]) := rfl
theorem rw_30_16 : mm_code 30 16 = some (.aload_n 0, 1, 0, 0, []) := rfl
theorem rw_30_17 : mm_code 30 17 = some (.iconst 0, 1, 0, 0, []) := rfl
theorem rw_30_18 : mm_code 30 18 = some (.putfield 47, 3, 5, 3, [0, 12]) := rfl
theorem rw_30_21 : mm_code 30 21 = some (.aload_n 0, 1, 0, 0, []) := rfl
theorem rw_30_22 : mm_code 30 22 = some (.lconst 0, 1, 0, 0, []) := rfl
theorem rw_30_23 : mm_code 30 23 = some (.putfield 50, 3, 5, 4, [2, 13]) := rfl
theorem rw_30_26 : mm_code 30 26 = some (.iconst 0, 1, 0, 0, []) := rfl
theorem rw_30_27 : mm_code 30 27 = some (.istore_n 2, 1, 0, 0, []) := rfl
theorem rw_30_28 : mm_code 30 28 = some (.iload_n 2, 1, 0, 0, []) := rfl
theorem rw_30_29 : mm_code 30 29 = some (.bipush 21, 2, 21, 0, []) := rfl
theorem rw_30_31 : mm_code 30 31 = some (.if_icmp .gt 45, 3, 76, 0, []) := rfl
theorem rw_30_34 : mm_code 30 34 = some (.aload_n 1, 1, 0, 0, []) := rfl
theorem rw_30_35 : mm_code 30 35 = some (.getfield 54, 3, 8, 7, [0, 14]) := rfl
theorem rw_30_38 : mm_code 30 38 = some (.ifCond .eq 38, 3, 76, 0, []) := rfl
theorem rw_30_41 : mm_code 30 41 = some (.aload_n 0, 1, 0, 0, []) := rfl
theorem rw_30_42 : mm_code 30 42 = some (.aload_n 1, 1, 0, 0, []) := rfl
theorem rw_30_43 : mm_code 30 43 = some (.invokevirtual 59, 3, 31, 2, [15, 0]) := rfl
theorem rw_30_46 : mm_code 30 46 = some (.ifCond .eq 12, 3, 58, 0, []) := rfl
theorem rw_30_49 : mm_code 30 49 = some (.aload_n 1, 1, 0, 0, []) := rfl
theorem rw_30_50 : mm_code 30 50 = some (.bipush 59, 2, 59, 0, []) := rfl
theorem rw_30_52 : mm_code 30 52 = some (.invokevirtual 63, 3, 90, 2, [16, 0]) := rfl
theorem rw_30_55 : mm_code 30 55 = some (.ifCond .ne 5, 3, 60, 0, []) := rfl
theorem rw_30_58 : mm_code 30 58 = some (.iconst 0, 1, 0, 0, []) := rfl
theorem rw_30_59 : mm_code 30 59 = some (.ireturn, 1, 1, 0, []) := rfl
theorem rw_30_60 : mm_code 30 60 = some (.aload_n 0, 1, 0, 0, []) := rfl
theorem rw_30_61 : mm_code 30 61 = some (.dup, 1, 0, 0, []) := rfl
theorem rw_30_62 : mm_code 30 62 = some (.getfield 41, 3, 5, 1, [0, 10]) := rfl
theorem rw_30_65 : mm_code 30 65 = some (.iconst 1, 1, 1, 0, []) := rfl
theorem rw_30_66 : mm_code 30 66 = some (.iadd, 1, 0, 0, []) := rfl
theorem rw_30_67 : mm_code 30 67 = some (.putfield 41, 3, 5, 1, [0, 10]) := rfl
theorem rw_30_70 : mm_code 30 70 = some (.iinc 2 1, 3, 1, 0, []) := rfl
theorem rw_30_73 : mm_code 30 73 = some (.goto (-45), 3, 28, 0, []) := rfl
theorem rw_30_76 : mm_code 30 76 = some (.iconst 1, 1, 1, 0, []) := rfl
theorem rw_30_77 : mm_code 30 77 = some (.ireturn, 1, 1, 0, []) := rfl
theorem rw_31_0 : mm_code 31 0 = some (.aload_n 1, 1, 0, 0, []) := rfl
theorem rw_31_1 : mm_code 31 1 = some (.ldc 67, 2, 284563040, 0, [17]) := rfl
theorem rw_31_3 : mm_code 31 3 = some (.invokevirtual 68, 3, 86, 2, [18, 0]) := rfl
theorem rw_31_6 : mm_code 31 6 = some (.ifCond .eq 9, 3, 15, 0, []) := rfl
theorem rw_31_9 : mm_code 31 9 = some (.aload_n 0, 1, 0, 0, []) := rfl
theorem rw_31_10 : mm_code 31 10 = some (.aload_n 1, 1, 0, 0, []) := rfl
theorem rw_31_11 : mm_code 31 11 = some (.invokevirtual 72, 3, 32, 2, [19, 0]) := rfl
theorem rw_31_14 : mm_code 31 14 = some (.ireturn, 1, 1, 0, []) := rfl
theorem rw_31_15 : mm_code 31 15 = some (.aload_n 0, 1, 0, 0, []) := rfl
theorem rw_31_16 : mm_code 31 16 = some (.getfield 41, 3, 5, 1, [0, 10]) := rfl
theorem rw_31_19 : mm_code 31 19 = some (.ifCond .le 18, 3, 37, 0, []) := rfl
theorem rw_31_22 : mm_code 31 22 = some (.aload_n 1, 1, 0, 0, []) := rfl
theorem rw_31_23 : mm_code 31 23 = some (.ldc 75, 2, 210940032, 0, [20]) := rfl
theorem rw_31_25 : mm_code 31 25 = some (.invokevirtual 68, 3, 86, 2, [18, 0]) := rfl
theorem rw_31_28 : mm_code 31 28 = some (.ifCond .eq 9, 3, 37, 0, []) := rfl
theorem rw_31_31 : mm_code 31 31 = some (.aload_n 0, 1, 0, 0, []) := rfl
theorem rw_31_32 : mm_code 31 32 = some (.aload_n 1, 1, 0, 0, []) := rfl
theorem rw_31_33 : mm_code 31 33 = some (.invokevirtual 76, 3, 33, 2, [21, 0]) := rfl
theorem rw_31_36 : mm_code 31 36 = some (.ireturn, 1, 1, 0, []) := rfl
theorem rw_31_37 : mm_code 31 37 = some (.aload_n 0, 1, 0, 0, []) := rfl
theorem rw_31_38 : mm_code 31 38 = some (.getfield 41, 3, 5, 1, [0, 10]) := rfl
theorem rw_31_41 : mm_code 31 41 = some (.ifCond .le 18, 3, 59, 0, []) := rfl
theorem rw_31_44 : mm_code 31 44 = some (.aload_n 1, 1, 0, 0, []) := rfl
theorem rw_31_45 : mm_code 31 45 = some (.ldc 79, 2, 788074496, 0, [22]) := rfl
theorem rw_31_47 : mm_code 31 47 = some (.invokevirtual 68, 3, 86, 2, [18, 0]) := rfl
theorem rw_31_50 : mm_code 31 50 = some (.ifCond .eq 9, 3, 59, 0, []) := rfl
theorem rw_31_53 : mm_code 31 53 = some (.aload_n 0, 1, 0, 0, []) := rfl
theorem rw_31_54 : mm_code 31 54 = some (.aload_n 1, 1, 0, 0, []) := rfl
theorem rw_31_55 : mm_code 31 55 = some (.invokevirtual 80, 3, 41, 2, [23, 0]) := rfl
theorem rw_31_58 : mm_code 31 58 = some (.ireturn, 1, 1, 0, []) := rfl
theorem rw_31_59 : mm_code 31 59 = some (.aload_n 1, 1, 0, 0, []) := rfl
theorem rw_31_60 : mm_code 31 60 = some (.iconst 1, 1, 1, 0, []) := rfl
theorem rw_31_61 : mm_code 31 61 = some (.invokevirtual 83, 3, 84, 2, [24, 0]) := rfl
theorem rw_31_64 : mm_code 31 64 = some (.ireturn, 1, 1, 0, []) := rfl
theorem rw_32_0 : mm_code 32 0 = some (.aload_n 0, 1, 0, 0, []) := rfl
theorem rw_32_1 : mm_code 32 1 = some (.getfield 41, 3, 5, 1, [0, 10]) := rfl
theorem rw_32_4 : mm_code 32 4 = some (.ifCond .le 9, 3, 13, 0, []) := rfl
theorem rw_32_7 : mm_code 32 7 = some (.aload_n 1, 1, 0, 0, []) := rfl
theorem rw_32_8 : mm_code 32 8 = some (.iconst 3, 1, 3, 0, []) := rfl
theorem rw_32_9 : mm_code 32 9 = some (.invokevirtual 83, 3, 84, 2, [24, 0]) := rfl
theorem rw_32_12 : mm_code 32 12 = some (.ireturn, 1, 1, 0, []) := rfl
theorem rw_32_13 : mm_code 32 13 = some (.aload_n 1, 1, 0, 0, []) := rfl
theorem rw_32_14 : mm_code 32 14 = some (.invokevirtual 86, 3, 83, 1, [25, 0]) := rfl
theorem rw_32_17 : mm_code 32 17 = some (.aload_n 1, 1, 0, 0, []) := rfl
theorem rw_32_18 : mm_code 32 18 = some (.bipush 10, 2, 10, 0, []) := rfl
theorem rw_32_20 : mm_code 32 20 = some (.bipush 60, 2, 60, 0, []) := rfl
theorem rw_32_22 : mm_code 32 22 = some (.invokevirtual 89, 3, 88, 3, [26, 0]) := rfl
theorem rw_32_25 : mm_code 32 25 = some (.ifCond .ne 5, 3, 30, 0, []) := rfl
theorem rw_32_28 : mm_code 32 28 = some (.iconst 0, 1, 0, 0, []) := rfl
theorem rw_32_29 : mm_code 32 29 = some (.ireturn, 1, 1, 0, []) := rfl
theorem rw_32_30 : mm_code 32 30 = some (.aload_n 0, 1, 0, 0, []) := rfl
theorem rw_32_31 : mm_code 32 31 = some (.aload_n 1, 1, 0, 0, []) := rfl
theorem rw_32_32 : mm_code 32 32 = some (.getfield 93, 3, 8, 8, [0, 27]) := rfl
theorem rw_32_35 : mm_code 32 35 = some (.putfield 9, 3, 5, 0, [0, 1]) := rfl
theorem rw_32_38 : mm_code 32 38 = some (.aload_n 1, 1, 0, 0, []) := rfl
theorem rw_32_39 : mm_code 32 39 = some (.invokevirtual 86, 3, 83, 1, [25, 0]) := rfl
theorem rw_32_42 : mm_code 32 42 = some (.iconst 1, 1, 1, 0, []) := rfl
theorem rw_32_43 : mm_code 32 43 = some (.ireturn, 1, 1, 0, []) := rfl
theorem rw_33_0 : mm_code 33 0 = some (.aload_n 0, 1, 0, 0, []) := rfl
theorem rw_33_1 : mm_code 33 1 = some (.getfield 44, 3, 5, 2, [0, 11]) := rfl
theorem rw_33_4 : mm_code 33 4 = some (.bipush 8, 2, 8, 0, []) := rfl
theorem rw_33_6 : mm_code 33 6 = some (.if_icmp .lt 9, 3, 15, 0, []) := rfl
theorem rw_33_9 : mm_code 33 9 = some (.aload_n 1, 1, 0, 0, []) := rfl
theorem rw_33_10 : mm_code 33 10 = some (.iconst 2, 1, 2, 0, []) := rfl
theorem rw_33_11 : mm_code 33 11 = some (.invokevirtual 83, 3, 84, 2, [24, 0]) := rfl
theorem rw_33_14 : mm_code 33 14 = some (.ireturn, 1, 1, 0, []) := rfl
theorem rw_33_15 : mm_code 33 15 = some (.aload_n 1, 1, 0, 0, []) := rfl
theorem rw_33_16 : mm_code 33 16 = some (.invokevirtual 86, 3, 83, 1, [25, 0]) := rfl
theorem rw_33_19 : mm_code 33 19 = some (.aload_n 0, 1, 0, 0, []) := rfl
theorem rw_33_20 : mm_code 33 20 = some (.aload_n 1, 1, 0, 0, []) := rfl
theorem rw_33_21 : mm_code 33 21 = some (.invokevirtual 96, 3, 34, 2, [28, 0]) := rfl
theorem rw_33_24 : mm_code 33 24 = some (.ifCond .ne 5, 3, 29, 0, []) := rfl
theorem rw_33_27 : mm_code 33 27 = some (.iconst 0, 1, 0, 0, []) := rfl
theorem rw_33_28 : mm_code 33 28 = some (.ireturn, 1, 1, 0, []) := rfl
theorem rw_33_29 : mm_code 33 29 = some (.aload_n 0, 1, 0, 0, []) := rfl
theorem rw_33_30 : mm_code 33 30 = some (.getfield 15, 3, 5, 5, [3, 2]) := rfl
theorem rw_33_33 : mm_code 33 33 = some (.aload_n 0, 1, 0, 0, []) := rfl
theorem rw_33_34 : mm_code 33 34 = some (.getfield 44, 3, 5, 2, [0, 11]) := rfl
theorem rw_33_37 : mm_code 33 37 = some (.aload_n 1, 1, 0, 0, []) := rfl
theorem rw_33_38 : mm_code 33 38 = some (.getfield 93, 3, 8, 8, [0, 27]) := rfl
theorem rw_33_41 : mm_code 33 41 = some (.iastore, 1, 0, 0, []) := rfl
theorem rw_33_42 : mm_code 33 42 = some (.aload_n 1, 1, 0, 0, []) := rfl
theorem rw_33_43 : mm_code 33 43 = some (.invokevirtual 86, 3, 83, 1, [25, 0]) := rfl
theorem rw_33_46 : mm_code 33 46 = some (.aload_n 1, 1, 0, 0, []) := rfl
theorem rw_33_47 : mm_code 33 47 = some (.invokestatic 99, 3, 35, 1, [29, 0]) := rfl
theorem rw_33_50 : mm_code 33 50 = some (.istore_n 2, 1, 0, 0, []) := rfl
theorem rw_33_51 : mm_code 33 51 = some (.iload_n 2, 1, 0, 0, []) := rfl
theorem rw_33_52 : mm_code 33 52 = some (.iconst (-1), 1, 1, 1, []) := rfl
theorem rw_33_53 : mm_code 33 53 = some (.if_icmp .ne 9, 3, 62, 0, []) := rfl
theorem rw_33_56 : mm_code 33 56 = some (.aload_n 1, 1, 0, 0, []) := rfl
theorem rw_33_57 : mm_code 33 57 = some (.iconst 1, 1, 1, 0, []) := rfl
theorem rw_33_58 : mm_code 33 58 = some (.invokevirtual 83, 3, 84, 2, [24, 0]) := rfl
theorem rw_33_61 : mm_code 33 61 = some (.ireturn, 1, 1, 0, []) := rfl
theorem rw_33_62 : mm_code 33 62 = some (.aload_n 0, 1, 0, 0, []) := rfl
theorem rw_33_63 : mm_code 33 63 = some (.getfield 19, 3, 5, 6, [3, 3]) := rfl
theorem rw_33_66 : mm_code 33 66 = some (.aload_n 0, 1, 0, 0, []) := rfl
theorem rw_33_67 : mm_code 33 67 = some (.getfield 44, 3, 5, 2, [0, 11]) := rfl
theorem rw_33_70 : mm_code 33 70 = some (.iload_n 2, 1, 0, 0, []) := rfl
theorem rw_33_71 : mm_code 33 71 = some (.iastore, 1, 0, 0, []) := rfl
theorem rw_33_72 : mm_code 33 72 = some (.aload_n 1, 1, 0, 0, []) := rfl
theorem rw_33_73 : mm_code 33 73 = some (.invokevirtual 86, 3, 83, 1, [25, 0]) := rfl
theorem rw_33_76 : mm_code 33 76 = some (.iload_n 2, 1, 0, 0, []) := rfl
theorem rw_33_77 : mm_code 33 77 = some (.iconst 1, 1, 1, 0, []) := rfl
theorem rw_33_78 : mm_code 33 78 = some (.if_icmp .eq 8, 3, 86, 0, []) := rfl
theorem rw_33_81 : mm_code 33 81 = some (.iload_n 2, 1, 0, 0, []) := rfl
theorem rw_33_82 : mm_code 33 82 = some (.iconst 2, 1, 2, 0, []) := rfl
theorem rw_33_83 : mm_code 33 83 = some (.if_icmp .ne 22, 3, 105, 0, []) := rfl
theorem rw_33_86 : mm_code 33 86 = some (.aload_n 0, 1, 0, 0, []) := rfl
theorem rw_33_87 : mm_code 33 87 = some (.aload_n 1, 1, 0, 0, []) := rfl
theorem rw_33_88 : mm_code 33 88 = some (.iload_n 2, 1, 0, 0, []) := rfl
theorem rw_33_89 : mm_code 33 89 = some (.iconst 1, 1, 1, 0, []) := rfl
theorem rw_33_90 : mm_code 33 90 = some (.if_icmp .ne 7, 3, 97, 0, []) := rfl
theorem rw_33_93 : mm_code 33 93 = some (.iconst 4, 1, 4, 0, []) := rfl
theorem rw_33_94 : mm_code 33 94 = some (.goto 4, 3, 98, 0, []) := rfl
theorem rw_33_97 : mm_code 33 97 = some (.iconst 5, 1, 5, 0, []) := rfl
theorem rw_33_98 : mm_code 33 98 = some (.invokevirtual 103, 3, 37, 3, [30, 0]) := rfl
theorem rw_33_101 : mm_code 33 101 = some (.istore_n 3, 1, 0, 0, []) := rfl
theorem rw_33_102 : mm_code 33 102 = some (.goto 38, 3, 140, 0, []) := rfl
theorem rw_33_105 : mm_code 33 105 = some (.aload_n 0, 1, 0, 0, []) := rfl
theorem rw_33_106 : mm_code 33 106 = some (.aload_n 1, 1, 0, 0, []) := rfl
theorem rw_33_107 : mm_code 33 107 = some (.iload_n 2, 1, 0, 0, []) := rfl
theorem rw_33_108 : mm_code 33 108 = some (.ifCond .ne 7, 3, 115, 0, []) := rfl
theorem rw_33_111 : mm_code 33 111 = some (.iconst 2, 1, 2, 0, []) := rfl
theorem rw_33_112 : mm_code 33 112 = some (.goto 4, 3, 116, 0, []) := rfl
theorem rw_33_115 : mm_code 33 115 = some (.iconst 1, 1, 1, 0, []) := rfl
theorem rw_33_116 : mm_code 33 116 = some (.invokevirtual 107, 3, 36, 3, [31, 0]) := rfl
theorem rw_33_119 : mm_code 33 119 = some (.ifCond .eq 19, 3, 138, 0, []) := rfl
theorem rw_33_122 : mm_code 33 122 = some (.iload_n 2, 1, 0, 0, []) := rfl
theorem rw_33_123 : mm_code 33 123 = some (.ifCond .eq 11, 3, 134, 0, []) := rfl
theorem rw_33_126 : mm_code 33 126 = some (.aload_n 0, 1, 0, 0, []) := rfl
theorem rw_33_127 : mm_code 33 127 = some (.aload_n 1, 1, 0, 0, []) := rfl
theorem rw_33_128 : mm_code 33 128 = some (.invokevirtual 110, 3, 38, 2, [32, 0]) := rfl
theorem rw_33_131 : mm_code 33 131 = some (.ifCond .eq 7, 3, 138, 0, []) := rfl
theorem rw_33_134 : mm_code 33 134 = some (.iconst 1, 1, 1, 0, []) := rfl
theorem rw_33_135 : mm_code 33 135 = some (.goto 4, 3, 139, 0, []) := rfl
theorem rw_33_138 : mm_code 33 138 = some (.iconst 0, 1, 0, 0, []) := rfl
theorem rw_33_139 : mm_code 33 139 = some (.istore_n 3, 1, 0, 0, []) := rfl
theorem rw_33_140 : mm_code 33 140 = some (.iload_n 3, 1, 0, 0, []) := rfl
theorem rw_33_141 : mm_code 33 141 = some (.ifCond .ne 5, 3, 146, 0, []) := rfl
theorem rw_33_144 : mm_code 33 144 = some (.iconst 0, 1, 0, 0, []) := rfl
theorem rw_33_145 : mm_code 33 145 = some (.ireturn, 1, 1, 0, []) := rfl
theorem rw_33_146 : mm_code 33 146 = some (.aload_n 0, 1, 0, 0, []) := rfl
theorem rw_33_147 : mm_code 33 147 = some (.dup, 1, 0, 0, []) := rfl
theorem rw_33_148 : mm_code 33 148 = some (.getfield 50, 3, 5, 4, [2, 13]) := rfl
theorem rw_33_151 : mm_code 33 151 = some (.aload_n 0, 1, 0, 0, []) := rfl
theorem rw_33_152 : mm_code 33 152 = some (.getfield 22, 3, 5, 7, [3, 4]) := rfl
theorem rw_33_155 : mm_code 33 155 = some (.aload_n 0, 1, 0, 0, []) := rfl
theorem rw_33_156 : mm_code 33 156 = some (.getfield 44, 3, 5, 2, [0, 11]) := rfl
theorem rw_33_159 : mm_code 33 159 = some (.iaload, 1, 0, 0, []) := rfl
theorem rw_33_160 : mm_code 33 160 = some (.aload_n 0, 1, 0, 0, []) := rfl
theorem rw_33_161 : mm_code 33 161 = some (.getfield 25, 3, 5, 8, [3, 5]) := rfl
theorem rw_33_164 : mm_code 33 164 = some (.aload_n 0, 1, 0, 0, []) := rfl
theorem rw_33_165 : mm_code 33 165 = some (.getfield 44, 3, 5, 2, [0, 11]) := rfl
theorem rw_33_168 : mm_code 33 168 = some (.iaload, 1, 0, 0, []) := rfl
theorem rw_33_169 : mm_code 33 169 = some (.invokestatic 113, 3, 144, 2, [0, 1]) := rfl
theorem rw_33_172 : mm_code 33 172 = some (.lor, 1, 0, 0, []) := rfl
theorem rw_33_173 : mm_code 33 173 = some (.putfield 50, 3, 5, 4, [2, 13]) := rfl
theorem rw_33_176 : mm_code 33 176 = some (.aload_n 0, 1, 0, 0, []) := rfl
theorem rw_33_177 : mm_code 33 177 = some (.dup, 1, 0, 0, []) := rfl
theorem rw_33_178 : mm_code 33 178 = some (.getfield 44, 3, 5, 2, [0, 11]) := rfl
theorem rw_33_181 : mm_code 33 181 = some (.iconst 1, 1, 1, 0, []) := rfl
theorem rw_33_182 : mm_code 33 182 = some (.iadd, 1, 0, 0, []) := rfl
theorem rw_33_183 : mm_code 33 183 = some (.putfield 44, 3, 5, 2, [0, 11]) := rfl
theorem rw_33_186 : mm_code 33 186 = some (.iconst 1, 1, 1, 0, []) := rfl
theorem rw_33_187 : mm_code 33 187 = some (.ireturn, 1, 1, 0, []) := rfl
theorem rw_34_0 : mm_code 34 0 = some (.aload_n 1, 1, 0, 0, []) := rfl
theorem rw_34_1 : mm_code 34 1 = some (.getfield 54, 3, 8, 7, [0, 14]) := rfl
theorem rw_34_4 : mm_code 34 4 = some (.iconst 3, 1, 3, 0, []) := rfl
theorem rw_34_5 : mm_code 34 5 = some (.if_icmp .eq 9, 3, 14, 0, []) := rfl
theorem rw_34_8 : mm_code 34 8 = some (.aload_n 1, 1, 0, 0, []) := rfl
theorem rw_34_9 : mm_code 34 9 = some (.iconst 1, 1, 1, 0, []) := rfl
theorem rw_34_10 : mm_code 34 10 = some (.invokevirtual 83, 3, 84, 2, [24, 0]) := rfl
theorem rw_34_13 : mm_code 34 13 = some (.ireturn, 1, 1, 0, []) := rfl
theorem rw_34_14 : mm_code 34 14 = some (.aload_n 0, 1, 0, 0, []) := rfl
theorem rw_34_15 : mm_code 34 15 = some (.aload_n 1, 1, 0, 0, []) := rfl
theorem rw_34_16 : mm_code 34 16 = some (.getfield 93, 3, 8, 8, [0, 27]) := rfl
theorem rw_34_19 : mm_code 34 19 = some (.invokevirtual 117, 3, 52, 2, [33, 0]) := rfl
theorem rw_34_22 : mm_code 34 22 = some (.iconst (-1), 1, 1, 1, []) := rfl
theorem rw_34_23 : mm_code 34 23 = some (.if_icmp .ne 15, 3, 38, 0, []) := rfl
theorem rw_34_26 : mm_code 34 26 = some (.aload_n 0, 1, 0, 0, []) := rfl
theorem rw_34_27 : mm_code 34 27 = some (.aload_n 1, 1, 0, 0, []) := rfl
theorem rw_34_28 : mm_code 34 28 = some (.getfield 93, 3, 8, 8, [0, 27]) := rfl
theorem rw_34_31 : mm_code 34 31 = some (.invokevirtual 121, 3, 53, 2, [34, 0]) := rfl
theorem rw_34_34 : mm_code 34 34 = some (.iconst (-1), 1, 1, 1, []) := rfl
theorem rw_34_35 : mm_code 34 35 = some (.if_icmp .eq 9, 3, 44, 0, []) := rfl
theorem rw_34_38 : mm_code 34 38 = some (.aload_n 1, 1, 0, 0, []) := rfl
theorem rw_34_39 : mm_code 34 39 = some (.iconst 3, 1, 3, 0, []) := rfl
theorem rw_34_40 : mm_code 34 40 = some (.invokevirtual 83, 3, 84, 2, [24, 0]) := rfl
theorem rw_34_43 : mm_code 34 43 = some (.ireturn, 1, 1, 0, []) := rfl
theorem rw_34_44 : mm_code 34 44 = some (.iconst 1, 1, 1, 0, []) := rfl
theorem rw_34_45 : mm_code 34 45 = some (.ireturn, 1, 1, 0, []) := rfl
theorem rw_35_0 : mm_code 35 0 = some (.aload_n 0, 1, 0, 0, []) := rfl
theorem rw_35_1 : mm_code 35 1 = some (.ldc 124, 2, 518160384, 0, [35]) := rfl
theorem rw_35_3 : mm_code 35 3 = some (.invokevirtual 68, 3, 86, 2, [18, 0]) := rfl
theorem rw_35_6 : mm_code 35 6 = some (.ifCond .eq 5, 3, 11, 0, []) := rfl
theorem rw_35_9 : mm_code 35 9 = some (.iconst 0, 1, 0, 0, []) := rfl
theorem rw_35_10 : mm_code 35 10 = some (.ireturn, 1, 0, 0, []) := rfl
theorem rw_35_11 : mm_code 35 11 = some (.aload_n 0, 1, 0, 0, []) := rfl
theorem rw_35_12 : mm_code 35 12 = some (.ldc 125, 2, 659999744, 0, [36]) := rfl
theorem rw_35_14 : mm_code 35 14 = some (.invokevirtual 68, 3, 86, 2, [18, 0]) := rfl
theorem rw_35_17 : mm_code 35 17 = some (.ifCond .eq 5, 3, 22, 0, []) := rfl
theorem rw_35_20 : mm_code 35 20 = some (.iconst 1, 1, 1, 0, []) := rfl
theorem rw_35_21 : mm_code 35 21 = some (.ireturn, 1, 0, 0, []) := rfl
theorem rw_35_22 : mm_code 35 22 = some (.aload_n 0, 1, 0, 0, []) := rfl
theorem rw_35_23 : mm_code 35 23 = some (.ldc 126, 2, 538233440, 0, [37]) := rfl
theorem rw_35_25 : mm_code 35 25 = some (.invokevirtual 68, 3, 86, 2, [18, 0]) := rfl
theorem rw_35_28 : mm_code 35 28 = some (.ifCond .eq 5, 3, 33, 0, []) := rfl
theorem rw_35_31 : mm_code 35 31 = some (.iconst 2, 1, 2, 0, []) := rfl
theorem rw_35_32 : mm_code 35 32 = some (.ireturn, 1, 0, 0, []) := rfl
theorem rw_35_33 : mm_code 35 33 = some (.aload_n 0, 1, 0, 0, []) := rfl
theorem rw_35_34 : mm_code 35 34 = some (.ldc 127, 2, 404000768, 0, [38]) := rfl
theorem rw_35_36 : mm_code 35 36 = some (.invokevirtual 68, 3, 86, 2, [18, 0]) := rfl
theorem rw_35_39 : mm_code 35 39 = some (.ifCond .eq 7, 3, 46, 0, []) := rfl
theorem rw_35_42 : mm_code 35 42 = some (.iconst 3, 1, 3, 0, []) := rfl
theorem rw_35_43 : mm_code 35 43 = some (.goto 4, 3, 47, 0, []) := rfl
theorem rw_35_46 : mm_code 35 46 = some (.iconst (-1), 1, 1, 1, []) := rfl
theorem rw_35_47 : mm_code 35 47 = some (.ireturn, 1, 0, 0, []) := rfl
theorem rw_36_0 : mm_code 36 0 = some (.aload_n 1, 1, 0, 0, []) := rfl
theorem rw_36_1 : mm_code 36 1 = some (.getfield 93, 3, 8, 8, [0, 27]) := rfl
theorem rw_36_4 : mm_code 36 4 = some (.istore_n 3, 1, 0, 0, []) := rfl
theorem rw_36_5 : mm_code 36 5 = some (.aload_n 1, 1, 0, 0, []) := rfl
theorem rw_36_6 : mm_code 36 6 = some (.iconst 0, 1, 0, 0, []) := rfl
theorem rw_36_7 : mm_code 36 7 = some (.aload_n 0, 1, 0, 0, []) := rfl
theorem rw_36_8 : mm_code 36 8 = some (.getfield 9, 3, 5, 0, [0, 1]) := rfl
theorem rw_36_11 : mm_code 36 11 = some (.iconst 1, 1, 1, 0, []) := rfl
theorem rw_36_12 : mm_code 36 12 = some (.isub, 1, 0, 0, []) := rfl
theorem rw_36_13 : mm_code 36 13 = some (.invokevirtual 89, 3, 88, 3, [26, 0]) := rfl
theorem rw_36_16 : mm_code 36 16 = some (.ifCond .eq 13, 3, 29, 0, []) := rfl
theorem rw_36_19 : mm_code 36 19 = some (.aload_n 0, 1, 0, 0, []) := rfl
theorem rw_36_20 : mm_code 36 20 = some (.aload_n 1, 1, 0, 0, []) := rfl
theorem rw_36_21 : mm_code 36 21 = some (.iload_n 3, 1, 0, 0, []) := rfl
theorem rw_36_22 : mm_code 36 22 = some (.iload_n 3, 1, 0, 0, []) := rfl
theorem rw_36_23 : mm_code 36 23 = some (.invokevirtual 128, 3, 39, 4, [39, 0]) := rfl
theorem rw_36_26 : mm_code 36 26 = some (.ifCond .ne 5, 3, 31, 0, []) := rfl
theorem rw_36_29 : mm_code 36 29 = some (.iconst 0, 1, 0, 0, []) := rfl
theorem rw_36_30 : mm_code 36 30 = some (.ireturn, 1, 1, 0, []) := rfl
theorem rw_36_31 : mm_code 36 31 = some (.aload_n 1, 1, 0, 0, []) := rfl
theorem rw_36_32 : mm_code 36 32 = some (.invokevirtual 86, 3, 83, 1, [25, 0]) := rfl
theorem rw_36_35 : mm_code 36 35 = some (.aload_n 1, 1, 0, 0, []) := rfl
theorem rw_36_36 : mm_code 36 36 = some (.getfield 93, 3, 8, 8, [0, 27]) := rfl
theorem rw_36_39 : mm_code 36 39 = some (.istore 4, 2, 0, 0, []) := rfl
theorem rw_36_41 : mm_code 36 41 = some (.aload_n 0, 1, 0, 0, []) := rfl
theorem rw_36_42 : mm_code 36 42 = some (.getfield 9, 3, 5, 0, [0, 1]) := rfl
theorem rw_36_45 : mm_code 36 45 = some (.iconst 1, 1, 1, 0, []) := rfl
theorem rw_36_46 : mm_code 36 46 = some (.isub, 1, 0, 0, []) := rfl
theorem rw_36_47 : mm_code 36 47 = some (.iload_n 3, 1, 0, 0, []) := rfl
theorem rw_36_48 : mm_code 36 48 = some (.bipush 24, 2, 24, 0, []) := rfl
theorem rw_36_50 : mm_code 36 50 = some (.iadd, 1, 0, 0, []) := rfl
theorem rw_36_51 : mm_code 36 51 = some (.iconst 1, 1, 1, 0, []) := rfl
theorem rw_36_52 : mm_code 36 52 = some (.isub, 1, 0, 0, []) := rfl
theorem rw_36_53 : mm_code 36 53 = some (.invokestatic 132, 3, 996, 2, [40, 0]) := rfl
theorem rw_36_56 : mm_code 36 56 = some (.istore 5, 2, 0, 0, []) := rfl
theorem rw_36_58 : mm_code 36 58 = some (.aload_n 1, 1, 0, 0, []) := rfl
theorem rw_36_59 : mm_code 36 59 = some (.iload_n 3, 1, 0, 0, []) := rfl
theorem rw_36_60 : mm_code 36 60 = some (.iload_n 2, 1, 0, 0, []) := rfl
theorem rw_36_61 : mm_code 36 61 = some (.iadd, 1, 0, 0, []) := rfl
theorem rw_36_62 : mm_code 36 62 = some (.iconst 1, 1, 1, 0, []) := rfl
theorem rw_36_63 : mm_code 36 63 = some (.isub, 1, 0, 0, []) := rfl
theorem rw_36_64 : mm_code 36 64 = some (.iload 5, 2, 0, 0, []) := rfl
theorem rw_36_66 : mm_code 36 66 = some (.invokevirtual 89, 3, 88, 3, [26, 0]) := rfl
theorem rw_36_69 : mm_code 36 69 = some (.ifCond .eq 14, 3, 83, 0, []) := rfl
theorem rw_36_72 : mm_code 36 72 = some (.aload_n 0, 1, 0, 0, []) := rfl
theorem rw_36_73 : mm_code 36 73 = some (.aload_n 1, 1, 0, 0, []) := rfl
theorem rw_36_74 : mm_code 36 74 = some (.iload_n 3, 1, 0, 0, []) := rfl
theorem rw_36_75 : mm_code 36 75 = some (.iload 4, 2, 0, 0, []) := rfl
theorem rw_36_77 : mm_code 36 77 = some (.invokevirtual 128, 3, 39, 4, [39, 0]) := rfl
theorem rw_36_80 : mm_code 36 80 = some (.ifCond .ne 5, 3, 85, 0, []) := rfl
theorem rw_36_83 : mm_code 36 83 = some (.iconst 0, 1, 0, 0, []) := rfl
theorem rw_36_84 : mm_code 36 84 = some (.ireturn, 1, 1, 0, []) := rfl
theorem rw_36_85 : mm_code 36 85 = some (.aload_n 1, 1, 0, 0, []) := rfl
theorem rw_36_86 : mm_code 36 86 = some (.invokevirtual 86, 3, 83, 1, [25, 0]) := rfl
theorem rw_36_89 : mm_code 36 89 = some (.aload_n 0, 1, 0, 0, []) := rfl
theorem rw_36_90 : mm_code 36 90 = some (.iload_n 3, 1, 0, 0, []) := rfl
theorem rw_36_91 : mm_code 36 91 = some (.iload 4, 2, 0, 0, []) := rfl
theorem rw_36_93 : mm_code 36 93 = some (.iload 4, 2, 0, 0, []) := rfl
theorem rw_36_95 : mm_code 36 95 = some (.iload_n 3, 1, 0, 0, []) := rfl
theorem rw_36_96 : mm_code 36 96 = some (.isub, 1, 0, 0, []) := rfl
theorem rw_36_97 : mm_code 36 97 = some (.iconst 1, 1, 1, 0, []) := rfl
theorem rw_36_98 : mm_code 36 98 = some (.iadd, 1, 0, 0, []) := rfl
theorem rw_36_99 : mm_code 36 99 = some (.invokevirtual 138, 3, 40, 4, [41, 0]) := rfl
theorem rw_36_102 : mm_code 36 102 = some (.iconst 1, 1, 1, 0, []) := rfl
theorem rw_36_103 : mm_code 36 103 = some (.ireturn, 1, 1, 0, []) := rfl
theorem rw_37_0 : mm_code 37 0 = some (.aload_n 1, 1, 0, 0, []) := rfl
theorem rw_37_1 : mm_code 37 1 = some (.getfield 93, 3, 8, 8, [0, 27]) := rfl
theorem rw_37_4 : mm_code 37 4 = some (.istore_n 3, 1, 0, 0, []) := rfl
theorem rw_37_5 : mm_code 37 5 = some (.iload_n 3, 1, 0, 0, []) := rfl
theorem rw_37_6 : mm_code 37 6 = some (.iload_n 2, 1, 0, 0, []) := rfl
theorem rw_37_7 : mm_code 37 7 = some (.iadd, 1, 0, 0, []) := rfl
theorem rw_37_8 : mm_code 37 8 = some (.iconst 1, 1, 1, 0, []) := rfl
theorem rw_37_9 : mm_code 37 9 = some (.isub, 1, 0, 0, []) := rfl
theorem rw_37_10 : mm_code 37 10 = some (.istore 4, 2, 0, 0, []) := rfl
theorem rw_37_12 : mm_code 37 12 = some (.aload_n 1, 1, 0, 0, []) := rfl
theorem rw_37_13 : mm_code 37 13 = some (.iconst 0, 1, 0, 0, []) := rfl
theorem rw_37_14 : mm_code 37 14 = some (.aload_n 0, 1, 0, 0, []) := rfl
theorem rw_37_15 : mm_code 37 15 = some (.getfield 9, 3, 5, 0, [0, 1]) := rfl
theorem rw_37_18 : mm_code 37 18 = some (.iload_n 2, 1, 0, 0, []) := rfl
theorem rw_37_19 : mm_code 37 19 = some (.isub, 1, 0, 0, []) := rfl
theorem rw_37_20 : mm_code 37 20 = some (.invokevirtual 89, 3, 88, 3, [26, 0]) := rfl
theorem rw_37_23 : mm_code 37 23 = some (.ifCond .eq 14, 3, 37, 0, []) := rfl
theorem rw_37_26 : mm_code 37 26 = some (.aload_n 0, 1, 0, 0, []) := rfl
theorem rw_37_27 : mm_code 37 27 = some (.aload_n 1, 1, 0, 0, []) := rfl
theorem rw_37_28 : mm_code 37 28 = some (.iload_n 3, 1, 0, 0, []) := rfl
theorem rw_37_29 : mm_code 37 29 = some (.iload 4, 2, 0, 0, []) := rfl
theorem rw_37_31 : mm_code 37 31 = some (.invokevirtual 128, 3, 39, 4, [39, 0]) := rfl
theorem rw_37_34 : mm_code 37 34 = some (.ifCond .ne 5, 3, 39, 0, []) := rfl
theorem rw_37_37 : mm_code 37 37 = some (.iconst 0, 1, 0, 0, []) := rfl
theorem rw_37_38 : mm_code 37 38 = some (.ireturn, 1, 1, 0, []) := rfl
theorem rw_37_39 : mm_code 37 39 = some (.aload_n 1, 1, 0, 0, []) := rfl
theorem rw_37_40 : mm_code 37 40 = some (.invokevirtual 86, 3, 83, 1, [25, 0]) := rfl
theorem rw_37_43 : mm_code 37 43 = some (.aload_n 0, 1, 0, 0, []) := rfl
theorem rw_37_44 : mm_code 37 44 = some (.iload_n 3, 1, 0, 0, []) := rfl
theorem rw_37_45 : mm_code 37 45 = some (.iload 4, 2, 0, 0, []) := rfl
theorem rw_37_47 : mm_code 37 47 = some (.bipush 10, 2, 10, 0, []) := rfl
theorem rw_37_49 : mm_code 37 49 = some (.invokevirtual 138, 3, 40, 4, [41, 0]) := rfl
theorem rw_37_52 : mm_code 37 52 = some (.iconst 1, 1, 1, 0, []) := rfl
theorem rw_37_53 : mm_code 37 53 = some (.ireturn, 1, 1, 0, []) := rfl
theorem rw_38_0 : mm_code 38 0 = some (.aload_n 1, 1, 0, 0, []) := rfl
theorem rw_38_1 : mm_code 38 1 = some (.iconst 1, 1, 1, 0, []) := rfl
theorem rw_38_2 : mm_code 38 2 = some (.iconst 4, 1, 4, 0, []) := rfl
theorem rw_38_3 : mm_code 38 3 = some (.aload_n 0, 1, 0, 0, []) := rfl
theorem rw_38_4 : mm_code 38 4 = some (.aload_n 0, 1, 0, 0, []) := rfl
theorem rw_38_5 : mm_code 38 5 = some (.getfield 44, 3, 5, 2, [0, 11]) := rfl
theorem rw_38_8 : mm_code 38 8 = some (.invokevirtual 142, 3, 47, 2, [42, 0]) := rfl
theorem rw_38_11 : mm_code 38 11 = some (.invokestatic 132, 3, 996, 2, [40, 0]) := rfl
theorem rw_38_14 : mm_code 38 14 = some (.invokevirtual 89, 3, 88, 3, [26, 0]) := rfl
theorem rw_38_17 : mm_code 38 17 = some (.ifCond .ne 5, 3, 22, 0, []) := rfl
theorem rw_38_20 : mm_code 38 20 = some (.iconst 0, 1, 0, 0, []) := rfl
theorem rw_38_21 : mm_code 38 21 = some (.ireturn, 1, 1, 0, []) := rfl
theorem rw_38_22 : mm_code 38 22 = some (.aload_n 0, 1, 0, 0, []) := rfl
theorem rw_38_23 : mm_code 38 23 = some (.getfield 28, 3, 5, 9, [3, 6]) := rfl
theorem rw_38_26 : mm_code 38 26 = some (.aload_n 0, 1, 0, 0, []) := rfl
theorem rw_38_27 : mm_code 38 27 = some (.getfield 44, 3, 5, 2, [0, 11]) := rfl
theorem rw_38_30 : mm_code 38 30 = some (.aload_n 1, 1, 0, 0, []) := rfl
theorem rw_38_31 : mm_code 38 31 = some (.getfield 93, 3, 8, 8, [0, 27]) := rfl
theorem rw_38_34 : mm_code 38 34 = some (.iastore, 1, 0, 0, []) := rfl
theorem rw_38_35 : mm_code 38 35 = some (.aload_n 1, 1, 0, 0, []) := rfl
theorem rw_38_36 : mm_code 38 36 = some (.invokevirtual 86, 3, 83, 1, [25, 0]) := rfl
theorem rw_38_39 : mm_code 38 39 = some (.iconst 1, 1, 1, 0, []) := rfl
theorem rw_38_40 : mm_code 38 40 = some (.ireturn, 1, 1, 0, []) := rfl
theorem rw_39_0 : mm_code 39 0 = some (.aload_n 0, 1, 0, 0, []) := rfl
theorem rw_39_1 : mm_code 39 1 = some (.getfield 50, 3, 5, 4, [2, 13]) := rfl
theorem rw_39_4 : mm_code 39 4 = some (.iload_n 2, 1, 0, 0, []) := rfl
theorem rw_39_5 : mm_code 39 5 = some (.iload_n 3, 1, 0, 0, []) := rfl
theorem rw_39_6 : mm_code 39 6 = some (.invokestatic 113, 3, 144, 2, [0, 1]) := rfl
theorem rw_39_9 : mm_code 39 9 = some (.land, 1, 0, 0, []) := rfl
theorem rw_39_10 : mm_code 39 10 = some (.lconst 0, 1, 0, 0, []) := rfl
theorem rw_39_11 : mm_code 39 11 = some (.lcmp, 1, 0, 0, []) := rfl
theorem rw_39_12 : mm_code 39 12 = some (.ifCond .eq 11, 3, 23, 0, []) := rfl
theorem rw_39_15 : mm_code 39 15 = some (.aload_n 1, 1, 0, 0, []) := rfl
theorem rw_39_16 : mm_code 39 16 = some (.iconst 3, 1, 3, 0, []) := rfl
theorem rw_39_17 : mm_code 39 17 = some (.invokevirtual 83, 3, 84, 2, [24, 0]) := rfl
theorem rw_39_20 : mm_code 39 20 = some (.ifCond .eq 7, 3, 27, 0, []) := rfl
theorem rw_39_23 : mm_code 39 23 = some (.iconst 1, 1, 1, 0, []) := rfl
theorem rw_39_24 : mm_code 39 24 = some (.goto 4, 3, 28, 0, []) := rfl
theorem rw_39_27 : mm_code 39 27 = some (.iconst 0, 1, 0, 0, []) := rfl
theorem rw_39_28 : mm_code 39 28 = some (.ireturn, 1, 1, 0, []) := rfl
theorem rw_40_0 : mm_code 40 0 = some (.aload_n 0, 1, 0, 0, []) := rfl
theorem rw_40_1 : mm_code 40 1 = some (.getfield 22, 3, 5, 7, [3, 4]) := rfl
theorem rw_40_4 : mm_code 40 4 = some (.aload_n 0, 1, 0, 0, []) := rfl
theorem rw_40_5 : mm_code 40 5 = some (.getfield 44, 3, 5, 2, [0, 11]) := rfl
theorem rw_40_8 : mm_code 40 8 = some (.iload_n 1, 1, 0, 0, []) := rfl
theorem rw_40_9 : mm_code 40 9 = some (.iastore, 1, 0, 0, []) := rfl
theorem rw_40_10 : mm_code 40 10 = some (.aload_n 0, 1, 0, 0, []) := rfl
theorem rw_40_11 : mm_code 40 11 = some (.getfield 25, 3, 5, 8, [3, 5]) := rfl
theorem rw_40_14 : mm_code 40 14 = some (.aload_n 0, 1, 0, 0, []) := rfl
theorem rw_40_15 : mm_code 40 15 = some (.getfield 44, 3, 5, 2, [0, 11]) := rfl
theorem rw_40_18 : mm_code 40 18 = some (.iload_n 2, 1, 0, 0, []) := rfl
theorem rw_40_19 : mm_code 40 19 = some (.iastore, 1, 0, 0, []) := rfl
theorem rw_40_20 : mm_code 40 20 = some (.aload_n 0, 1, 0, 0, []) := rfl
theorem rw_40_21 : mm_code 40 21 = some (.getfield 28, 3, 5, 9, [3, 6]) := rfl
theorem rw_40_24 : mm_code 40 24 = some (.aload_n 0, 1, 0, 0, []) := rfl
theorem rw_40_25 : mm_code 40 25 = some (.getfield 44, 3, 5, 2, [0, 11]) := rfl
theorem rw_40_28 : mm_code 40 28 = some (.iload_n 3, 1, 0, 0, []) := rfl
theorem rw_40_29 : mm_code 40 29 = some (.iastore, 1, 0, 0, []) := rfl
theorem rw_40_30 : mm_code 40 30 = some (.return_, 1, 0, 0, []) := rfl
theorem rw_41_0 : mm_code 41 0 = some (.aload_n 0, 1, 0, 0, []) := rfl
theorem rw_41_1 : mm_code 41 1 = some (.getfield 47, 3, 5, 3, [0, 12]) := rfl
theorem rw_41_4 : mm_code 41 4 = some (.bipush 12, 2, 12, 0, []) := rfl
theorem rw_41_6 : mm_code 41 6 = some (.if_icmp .lt 9, 3, 15, 0, []) := rfl
theorem rw_41_9 : mm_code 41 9 = some (.aload_n 1, 1, 0, 0, []) := rfl
theorem rw_41_10 : mm_code 41 10 = some (.iconst 2, 1, 2, 0, []) := rfl
theorem rw_41_11 : mm_code 41 11 = some (.invokevirtual 83, 3, 84, 2, [24, 0]) := rfl
theorem rw_41_14 : mm_code 41 14 = some (.ireturn, 1, 1, 0, []) := rfl
theorem rw_41_15 : mm_code 41 15 = some (.aload_n 1, 1, 0, 0, []) := rfl
theorem rw_41_16 : mm_code 41 16 = some (.invokevirtual 86, 3, 83, 1, [25, 0]) := rfl
theorem rw_41_19 : mm_code 41 19 = some (.aload_n 1, 1, 0, 0, []) := rfl
theorem rw_41_20 : mm_code 41 20 = some (.getfield 54, 3, 8, 7, [0, 14]) := rfl
theorem rw_41_23 : mm_code 41 23 = some (.iconst 3, 1, 3, 0, []) := rfl
theorem rw_41_24 : mm_code 41 24 = some (.if_icmp .eq 9, 3, 33, 0, []) := rfl
theorem rw_41_27 : mm_code 41 27 = some (.aload_n 1, 1, 0, 0, []) := rfl
theorem rw_41_28 : mm_code 41 28 = some (.iconst 1, 1, 1, 0, []) := rfl
theorem rw_41_29 : mm_code 41 29 = some (.invokevirtual 83, 3, 84, 2, [24, 0]) := rfl
theorem rw_41_32 : mm_code 41 32 = some (.ireturn, 1, 1, 0, []) := rfl
theorem rw_41_33 : mm_code 41 33 = some (.aload_n 0, 1, 0, 0, []) := rfl
theorem rw_41_34 : mm_code 41 34 = some (.aload_n 1, 1, 0, 0, []) := rfl
theorem rw_41_35 : mm_code 41 35 = some (.getfield 93, 3, 8, 8, [0, 27]) := rfl
theorem rw_41_38 : mm_code 41 38 = some (.invokevirtual 117, 3, 52, 2, [33, 0]) := rfl
theorem rw_41_41 : mm_code 41 41 = some (.istore_n 2, 1, 0, 0, []) := rfl
theorem rw_41_42 : mm_code 41 42 = some (.aload_n 0, 1, 0, 0, []) := rfl
theorem rw_41_43 : mm_code 41 43 = some (.iload_n 2, 1, 0, 0, []) := rfl
theorem rw_41_44 : mm_code 41 44 = some (.invokevirtual 145, 3, 43, 2, [43, 0]) := rfl
theorem rw_41_47 : mm_code 41 47 = some (.ifCond .eq 11, 3, 58, 0, []) := rfl
theorem rw_41_50 : mm_code 41 50 = some (.aload_n 0, 1, 0, 0, []) := rfl
theorem rw_41_51 : mm_code 41 51 = some (.iload_n 2, 1, 0, 0, []) := rfl
theorem rw_41_52 : mm_code 41 52 = some (.invokevirtual 148, 3, 45, 2, [44, 0]) := rfl
theorem rw_41_55 : mm_code 41 55 = some (.ifCond .ne 9, 3, 64, 0, []) := rfl
theorem rw_41_58 : mm_code 41 58 = some (.aload_n 1, 1, 0, 0, []) := rfl
theorem rw_41_59 : mm_code 41 59 = some (.iconst 4, 1, 4, 0, []) := rfl
theorem rw_41_60 : mm_code 41 60 = some (.invokevirtual 83, 3, 84, 2, [24, 0]) := rfl
theorem rw_41_63 : mm_code 41 63 = some (.ireturn, 1, 1, 0, []) := rfl
theorem rw_41_64 : mm_code 41 64 = some (.aload_n 1, 1, 0, 0, []) := rfl
theorem rw_41_65 : mm_code 41 65 = some (.invokevirtual 86, 3, 83, 1, [25, 0]) := rfl
theorem rw_41_68 : mm_code 41 68 = some (.aload_n 0, 1, 0, 0, []) := rfl
theorem rw_41_69 : mm_code 41 69 = some (.aload_n 1, 1, 0, 0, []) := rfl
theorem rw_41_70 : mm_code 41 70 = some (.invokevirtual 96, 3, 34, 2, [28, 0]) := rfl
theorem rw_41_73 : mm_code 41 73 = some (.ifCond .ne 5, 3, 78, 0, []) := rfl
theorem rw_41_76 : mm_code 41 76 = some (.iconst 0, 1, 0, 0, []) := rfl
theorem rw_41_77 : mm_code 41 77 = some (.ireturn, 1, 1, 0, []) := rfl
theorem rw_41_78 : mm_code 41 78 = some (.aload_n 0, 1, 0, 0, []) := rfl
theorem rw_41_79 : mm_code 41 79 = some (.getfield 31, 3, 5, 10, [3, 7]) := rfl
theorem rw_41_82 : mm_code 41 82 = some (.aload_n 0, 1, 0, 0, []) := rfl
theorem rw_41_83 : mm_code 41 83 = some (.getfield 47, 3, 5, 3, [0, 12]) := rfl
theorem rw_41_86 : mm_code 41 86 = some (.aload_n 1, 1, 0, 0, []) := rfl
theorem rw_41_87 : mm_code 41 87 = some (.getfield 93, 3, 8, 8, [0, 27]) := rfl
theorem rw_41_90 : mm_code 41 90 = some (.iastore, 1, 0, 0, []) := rfl
theorem rw_41_91 : mm_code 41 91 = some (.aload_n 0, 1, 0, 0, []) := rfl
theorem rw_41_92 : mm_code 41 92 = some (.getfield 34, 3, 5, 11, [3, 8]) := rfl
theorem rw_41_95 : mm_code 41 95 = some (.aload_n 0, 1, 0, 0, []) := rfl
theorem rw_41_96 : mm_code 41 96 = some (.getfield 47, 3, 5, 3, [0, 12]) := rfl
theorem rw_41_99 : mm_code 41 99 = some (.iload_n 2, 1, 0, 0, []) := rfl
theorem rw_41_100 : mm_code 41 100 = some (.iastore, 1, 0, 0, []) := rfl
theorem rw_41_101 : mm_code 41 101 = some (.aload_n 1, 1, 0, 0, []) := rfl
theorem rw_41_102 : mm_code 41 102 = some (.invokevirtual 86, 3, 83, 1, [25, 0]) := rfl
theorem rw_41_105 : mm_code 41 105 = some (.aload_n 0, 1, 0, 0, []) := rfl
theorem rw_41_106 : mm_code 41 106 = some (.aload_n 1, 1, 0, 0, []) := rfl
theorem rw_41_107 : mm_code 41 107 = some (.iload_n 2, 1, 0, 0, []) := rfl
theorem rw_41_108 : mm_code 41 108 = some (.invokevirtual 151, 3, 42, 3, [45, 0]) := rfl
theorem rw_41_111 : mm_code 41 111 = some (.ifCond .ne 5, 3, 116, 0, []) := rfl
theorem rw_41_114 : mm_code 41 114 = some (.iconst 0, 1, 0, 0, []) := rfl
theorem rw_41_115 : mm_code 41 115 = some (.ireturn, 1, 1, 0, []) := rfl
theorem rw_41_116 : mm_code 41 116 = some (.aload_n 0, 1, 0, 0, []) := rfl
theorem rw_41_117 : mm_code 41 117 = some (.dup, 1, 0, 0, []) := rfl
theorem rw_41_118 : mm_code 41 118 = some (.getfield 47, 3, 5, 3, [0, 12]) := rfl
theorem rw_41_121 : mm_code 41 121 = some (.iconst 1, 1, 1, 0, []) := rfl
theorem rw_41_122 : mm_code 41 122 = some (.iadd, 1, 0, 0, []) := rfl
theorem rw_41_123 : mm_code 41 123 = some (.putfield 47, 3, 5, 3, [0, 12]) := rfl
theorem rw_41_126 : mm_code 41 126 = some (.iconst 1, 1, 1, 0, []) := rfl
theorem rw_41_127 : mm_code 41 127 = some (.ireturn, 1, 1, 0, []) := rfl
theorem rw_42_0 : mm_code 42 0 = some (.lconst 0, 1, 0, 0, []) := rfl
theorem rw_42_1 : mm_code 42 1 = some (.lstore_n 3, 1, 0, 0, []) := rfl
theorem rw_42_2 : mm_code 42 2 = some (.iconst 0, 1, 0, 0, []) := rfl
theorem rw_42_3 : mm_code 42 3 = some (.istore 5, 2, 0, 0, []) := rfl
theorem rw_42_5 : mm_code 42 5 = some (.iload 5, 2, 0, 0, []) := rfl
theorem rw_42_7 : mm_code 42 7 = some (.ifCond .eq 22, 3, 29, 0, []) := rfl
theorem rw_42_10 : mm_code 42 10 = some (.iload 5, 2, 0, 0, []) := rfl
theorem rw_42_12 : mm_code 42 12 = some (.aload_n 0, 1, 0, 0, []) := rfl
theorem rw_42_13 : mm_code 42 13 = some (.getfield 28, 3, 5, 9, [3, 6]) := rfl
theorem rw_42_16 : mm_code 42 16 = some (.iload_n 2, 1, 0, 0, []) := rfl
theorem rw_42_17 : mm_code 42 17 = some (.iaload, 1, 0, 0, []) := rfl
theorem rw_42_18 : mm_code 42 18 = some (.if_icmp .gt 92, 3, 110, 0, []) := rfl
theorem rw_42_21 : mm_code 42 21 = some (.aload_n 1, 1, 0, 0, []) := rfl
theorem rw_42_22 : mm_code 42 22 = some (.getfield 54, 3, 8, 7, [0, 14]) := rfl
theorem rw_42_25 : mm_code 42 25 = some (.iconst 2, 1, 2, 0, []) := rfl
theorem rw_42_26 : mm_code 42 26 = some (.if_icmp .ne 84, 3, 110, 0, []) := rfl
theorem rw_42_29 : mm_code 42 29 = some (.iload 5, 2, 0, 0, []) := rfl
theorem rw_42_31 : mm_code 42 31 = some (.aload_n 0, 1, 0, 0, []) := rfl
theorem rw_42_32 : mm_code 42 32 = some (.getfield 28, 3, 5, 9, [3, 6]) := rfl
theorem rw_42_35 : mm_code 42 35 = some (.iload_n 2, 1, 0, 0, []) := rfl
theorem rw_42_36 : mm_code 42 36 = some (.iaload, 1, 0, 0, []) := rfl
theorem rw_42_37 : mm_code 42 37 = some (.if_icmp .ge 13, 3, 50, 0, []) := rfl
theorem rw_42_40 : mm_code 42 40 = some (.aload_n 0, 1, 0, 0, []) := rfl
theorem rw_42_41 : mm_code 42 41 = some (.iload_n 2, 1, 0, 0, []) := rfl
theorem rw_42_42 : mm_code 42 42 = some (.invokevirtual 142, 3, 47, 2, [42, 0]) := rfl
theorem rw_42_45 : mm_code 42 45 = some (.iconst 1, 1, 1, 0, []) := rfl
theorem rw_42_46 : mm_code 42 46 = some (.isub, 1, 0, 0, []) := rfl
theorem rw_42_47 : mm_code 42 47 = some (.goto 4, 3, 51, 0, []) := rfl
theorem rw_42_50 : mm_code 42 50 = some (.iconst (-1), 1, 1, 1, []) := rfl
theorem rw_42_51 : mm_code 42 51 = some (.istore 6, 2, 0, 0, []) := rfl
theorem rw_42_53 : mm_code 42 53 = some (.aload_n 1, 1, 0, 0, []) := rfl
theorem rw_42_54 : mm_code 42 54 = some (.iconst 0, 1, 0, 0, []) := rfl
theorem rw_42_55 : mm_code 42 55 = some (.iload 6, 2, 0, 0, []) := rfl
theorem rw_42_57 : mm_code 42 57 = some (.invokevirtual 89, 3, 88, 3, [26, 0]) := rfl
theorem rw_42_60 : mm_code 42 60 = some (.ifCond .ne 5, 3, 65, 0, []) := rfl
theorem rw_42_63 : mm_code 42 63 = some (.iconst 0, 1, 0, 0, []) := rfl
theorem rw_42_64 : mm_code 42 64 = some (.ireturn, 1, 1, 0, []) := rfl
theorem rw_42_65 : mm_code 42 65 = some (.lconst 1, 1, 1, 0, []) := rfl
theorem rw_42_66 : mm_code 42 66 = some (.aload_n 0, 1, 0, 0, []) := rfl
theorem rw_42_67 : mm_code 42 67 = some (.getfield 22, 3, 5, 7, [3, 4]) := rfl
theorem rw_42_70 : mm_code 42 70 = some (.iload_n 2, 1, 0, 0, []) := rfl
theorem rw_42_71 : mm_code 42 71 = some (.iaload, 1, 0, 0, []) := rfl
theorem rw_42_72 : mm_code 42 72 = some (.aload_n 1, 1, 0, 0, []) := rfl
theorem rw_42_73 : mm_code 42 73 = some (.getfield 93, 3, 8, 8, [0, 27]) := rfl
theorem rw_42_76 : mm_code 42 76 = some (.iadd, 1, 0, 0, []) := rfl
theorem rw_42_77 : mm_code 42 77 = some (.lshl, 1, 0, 0, []) := rfl
theorem rw_42_78 : mm_code 42 78 = some (.lstore 7, 2, 0, 0, []) := rfl
theorem rw_42_80 : mm_code 42 80 = some (.lload_n 3, 1, 0, 0, []) := rfl
theorem rw_42_81 : mm_code 42 81 = some (.lload 7, 2, 0, 0, []) := rfl
theorem rw_42_83 : mm_code 42 83 = some (.land, 1, 0, 0, []) := rfl
theorem rw_42_84 : mm_code 42 84 = some (.lconst 0, 1, 0, 0, []) := rfl
theorem rw_42_85 : mm_code 42 85 = some (.lcmp, 1, 0, 0, []) := rfl
theorem rw_42_86 : mm_code 42 86 = some (.ifCond .eq 9, 3, 95, 0, []) := rfl
theorem rw_42_89 : mm_code 42 89 = some (.aload_n 1, 1, 0, 0, []) := rfl
theorem rw_42_90 : mm_code 42 90 = some (.iconst 3, 1, 3, 0, []) := rfl
theorem rw_42_91 : mm_code 42 91 = some (.invokevirtual 83, 3, 84, 2, [24, 0]) := rfl
theorem rw_42_94 : mm_code 42 94 = some (.ireturn, 1, 1, 0, []) := rfl
theorem rw_42_95 : mm_code 42 95 = some (.lload_n 3, 1, 0, 0, []) := rfl
theorem rw_42_96 : mm_code 42 96 = some (.lload 7, 2, 0, 0, []) := rfl
theorem rw_42_98 : mm_code 42 98 = some (.lor, 1, 0, 0, []) := rfl
theorem rw_42_99 : mm_code 42 99 = some (.lstore_n 3, 1, 0, 0, []) := rfl
theorem rw_42_100 : mm_code 42 100 = some (.iinc 5 1, 3, 1, 0, []) := rfl
theorem rw_42_103 : mm_code 42 103 = some (.aload_n 1, 1, 0, 0, []) := rfl
theorem rw_42_104 : mm_code 42 104 = some (.invokevirtual 86, 3, 83, 1, [25, 0]) := rfl
theorem rw_42_107 : mm_code 42 107 = some (.goto (-102), 3, 5, 0, []) := rfl
theorem rw_42_110 : mm_code 42 110 = some (.aload_n 0, 1, 0, 0, []) := rfl
theorem rw_42_111 : mm_code 42 111 = some (.getfield 37, 3, 5, 12, [3, 9]) := rfl
theorem rw_42_114 : mm_code 42 114 = some (.aload_n 0, 1, 0, 0, []) := rfl
theorem rw_42_115 : mm_code 42 115 = some (.getfield 47, 3, 5, 3, [0, 12]) := rfl
theorem rw_42_118 : mm_code 42 118 = some (.lload_n 3, 1, 0, 0, []) := rfl
theorem rw_42_119 : mm_code 42 119 = some (.lastore, 1, 0, 0, []) := rfl
theorem rw_42_120 : mm_code 42 120 = some (.iload 5, 2, 0, 0, []) := rfl
theorem rw_42_122 : mm_code 42 122 = some (.aload_n 0, 1, 0, 0, []) := rfl
theorem rw_42_123 : mm_code 42 123 = some (.getfield 28, 3, 5, 9, [3, 6]) := rfl
theorem rw_42_126 : mm_code 42 126 = some (.iload_n 2, 1, 0, 0, []) := rfl
theorem rw_42_127 : mm_code 42 127 = some (.iaload, 1, 0, 0, []) := rfl
theorem rw_42_128 : mm_code 42 128 = some (.if_icmp .eq 20, 3, 148, 0, []) := rfl
theorem rw_42_131 : mm_code 42 131 = some (.aload_n 1, 1, 0, 0, []) := rfl
theorem rw_42_132 : mm_code 42 132 = some (.getfield 54, 3, 8, 7, [0, 14]) := rfl
theorem rw_42_135 : mm_code 42 135 = some (.bipush 59, 2, 59, 0, []) := rfl
theorem rw_42_137 : mm_code 42 137 = some (.if_icmp .ne 11, 3, 148, 0, []) := rfl
theorem rw_42_140 : mm_code 42 140 = some (.aload_n 1, 1, 0, 0, []) := rfl
theorem rw_42_141 : mm_code 42 141 = some (.iconst 5, 1, 5, 0, []) := rfl
theorem rw_42_142 : mm_code 42 142 = some (.invokevirtual 83, 3, 84, 2, [24, 0]) := rfl
theorem rw_42_145 : mm_code 42 145 = some (.ifCond .eq 7, 3, 152, 0, []) := rfl
theorem rw_42_148 : mm_code 42 148 = some (.iconst 1, 1, 1, 0, []) := rfl
theorem rw_42_149 : mm_code 42 149 = some (.goto 4, 3, 153, 0, []) := rfl
theorem rw_42_152 : mm_code 42 152 = some (.iconst 0, 1, 0, 0, []) := rfl
theorem rw_42_153 : mm_code 42 153 = some (.ireturn, 1, 1, 0, []) := rfl
theorem rw_43_0 : mm_code 43 0 = some (.iload_n 1, 1, 0, 0, []) := rfl
theorem rw_43_1 : mm_code 43 1 = some (.ifCond .lt 15, 3, 16, 0, []) := rfl
theorem rw_43_4 : mm_code 43 4 = some (.iload_n 1, 1, 0, 0, []) := rfl
theorem rw_43_5 : mm_code 43 5 = some (.aload_n 0, 1, 0, 0, []) := rfl
theorem rw_43_6 : mm_code 43 6 = some (.getfield 44, 3, 5, 2, [0, 11]) := rfl
theorem rw_43_9 : mm_code 43 9 = some (.if_icmp .ge 7, 3, 16, 0, []) := rfl
theorem rw_43_12 : mm_code 43 12 = some (.iconst 1, 1, 1, 0, []) := rfl
theorem rw_43_13 : mm_code 43 13 = some (.goto 4, 3, 17, 0, []) := rfl
theorem rw_43_16 : mm_code 43 16 = some (.iconst 0, 1, 0, 0, []) := rfl
theorem rw_43_17 : mm_code 43 17 = some (.ireturn, 1, 1, 0, []) := rfl
theorem rw_44_0 : mm_code 44 0 = some (.iload_n 1, 1, 0, 0, []) := rfl
theorem rw_44_1 : mm_code 44 1 = some (.ifCond .lt 15, 3, 16, 0, []) := rfl
theorem rw_44_4 : mm_code 44 4 = some (.iload_n 1, 1, 0, 0, []) := rfl
theorem rw_44_5 : mm_code 44 5 = some (.aload_n 0, 1, 0, 0, []) := rfl
theorem rw_44_6 : mm_code 44 6 = some (.getfield 47, 3, 5, 3, [0, 12]) := rfl
theorem rw_44_9 : mm_code 44 9 = some (.if_icmp .ge 7, 3, 16, 0, []) := rfl
theorem rw_44_12 : mm_code 44 12 = some (.iconst 1, 1, 1, 0, []) := rfl
theorem rw_44_13 : mm_code 44 13 = some (.goto 4, 3, 17, 0, []) := rfl
theorem rw_44_16 : mm_code 44 16 = some (.iconst 0, 1, 0, 0, []) := rfl
theorem rw_44_17 : mm_code 44 17 = some (.ireturn, 1, 1, 0, []) := rfl
theorem rw_45_0 : mm_code 45 0 = some (.aload_n 0, 1, 0, 0, []) := rfl
theorem rw_45_1 : mm_code 45 1 = some (.getfield 19, 3, 5, 6, [3, 3]) := rfl
theorem rw_45_4 : mm_code 45 4 = some (.iload_n 1, 1, 0, 0, []) := rfl
theorem rw_45_5 : mm_code 45 5 = some (.iaload, 1, 0, 0, []) := rfl
theorem rw_45_6 : mm_code 45 6 = some (.iconst 3, 1, 3, 0, []) := rfl
theorem rw_45_7 : mm_code 45 7 = some (.if_icmp .ne 7, 3, 14, 0, []) := rfl
theorem rw_45_10 : mm_code 45 10 = some (.iconst 1, 1, 1, 0, []) := rfl
theorem rw_45_11 : mm_code 45 11 = some (.goto 4, 3, 15, 0, []) := rfl
theorem rw_45_14 : mm_code 45 14 = some (.iconst 0, 1, 0, 0, []) := rfl
theorem rw_45_15 : mm_code 45 15 = some (.ireturn, 1, 1, 0, []) := rfl
theorem rw_46_0 : mm_code 46 0 = some (.aload_n 0, 1, 0, 0, []) := rfl
theorem rw_46_1 : mm_code 46 1 = some (.iload_n 1, 1, 0, 0, []) := rfl
theorem rw_46_2 : mm_code 46 2 = some (.invokevirtual 145, 3, 43, 2, [43, 0]) := rfl
theorem rw_46_5 : mm_code 46 5 = some (.ifCond .eq 29, 3, 34, 0, []) := rfl
theorem rw_46_8 : mm_code 46 8 = some (.aload_n 0, 1, 0, 0, []) := rfl
theorem rw_46_9 : mm_code 46 9 = some (.iload_n 1, 1, 0, 0, []) := rfl
theorem rw_46_10 : mm_code 46 10 = some (.invokevirtual 148, 3, 45, 2, [44, 0]) := rfl
theorem rw_46_13 : mm_code 46 13 = some (.ifCond .ne 21, 3, 34, 0, []) := rfl
theorem rw_46_16 : mm_code 46 16 = some (.iload_n 2, 1, 0, 0, []) := rfl
theorem rw_46_17 : mm_code 46 17 = some (.ifCond .lt 17, 3, 34, 0, []) := rfl
theorem rw_46_20 : mm_code 46 20 = some (.iload_n 2, 1, 0, 0, []) := rfl
theorem rw_46_21 : mm_code 46 21 = some (.aload_n 0, 1, 0, 0, []) := rfl
theorem rw_46_22 : mm_code 46 22 = some (.getfield 28, 3, 5, 9, [3, 6]) := rfl
theorem rw_46_25 : mm_code 46 25 = some (.iload_n 1, 1, 0, 0, []) := rfl
theorem rw_46_26 : mm_code 46 26 = some (.iaload, 1, 0, 0, []) := rfl
theorem rw_46_27 : mm_code 46 27 = some (.if_icmp .ge 7, 3, 34, 0, []) := rfl
theorem rw_46_30 : mm_code 46 30 = some (.iconst 1, 1, 1, 0, []) := rfl
theorem rw_46_31 : mm_code 46 31 = some (.goto 4, 3, 35, 0, []) := rfl
theorem rw_46_34 : mm_code 46 34 = some (.iconst 0, 1, 0, 0, []) := rfl
theorem rw_46_35 : mm_code 46 35 = some (.ireturn, 1, 1, 0, []) := rfl
theorem rw_47_0 : mm_code 47 0 = some (.aload_n 0, 1, 0, 0, []) := rfl
theorem rw_47_1 : mm_code 47 1 = some (.getfield 25, 3, 5, 8, [3, 5]) := rfl
theorem rw_47_4 : mm_code 47 4 = some (.iload_n 1, 1, 0, 0, []) := rfl
theorem rw_47_5 : mm_code 47 5 = some (.iaload, 1, 0, 0, []) := rfl
theorem rw_47_6 : mm_code 47 6 = some (.aload_n 0, 1, 0, 0, []) := rfl
theorem rw_47_7 : mm_code 47 7 = some (.getfield 22, 3, 5, 7, [3, 4]) := rfl
theorem rw_47_10 : mm_code 47 10 = some (.iload_n 1, 1, 0, 0, []) := rfl
theorem rw_47_11 : mm_code 47 11 = some (.iaload, 1, 0, 0, []) := rfl
theorem rw_47_12 : mm_code 47 12 = some (.isub, 1, 0, 0, []) := rfl
theorem rw_47_13 : mm_code 47 13 = some (.iconst 1, 1, 1, 0, []) := rfl
theorem rw_47_14 : mm_code 47 14 = some (.iadd, 1, 0, 0, []) := rfl
theorem rw_47_15 : mm_code 47 15 = some (.ireturn, 1, 0, 0, []) := rfl
theorem rw_48_0 : mm_code 48 0 = some (.aload_n 0, 1, 0, 0, []) := rfl
theorem rw_48_1 : mm_code 48 1 = some (.getfield 22, 3, 5, 7, [3, 4]) := rfl
theorem rw_48_4 : mm_code 48 4 = some (.iload_n 1, 1, 0, 0, []) := rfl
theorem rw_48_5 : mm_code 48 5 = some (.iaload, 1, 0, 0, []) := rfl
theorem rw_48_6 : mm_code 48 6 = some (.aload_n 0, 1, 0, 0, []) := rfl
theorem rw_48_7 : mm_code 48 7 = some (.getfield 25, 3, 5, 8, [3, 5]) := rfl
theorem rw_48_10 : mm_code 48 10 = some (.iload_n 1, 1, 0, 0, []) := rfl
theorem rw_48_11 : mm_code 48 11 = some (.iaload, 1, 0, 0, []) := rfl
theorem rw_48_12 : mm_code 48 12 = some (.invokestatic 113, 3, 144, 2, [0, 1]) := rfl
theorem rw_48_15 : mm_code 48 15 = some (.lreturn, 1, 0, 0, []) := rfl
theorem rw_49_0 : mm_code 49 0 = some (.aload_n 0, 1, 0, 0, []) := rfl
theorem rw_49_1 : mm_code 49 1 = some (.iload_n 1, 1, 0, 0, []) := rfl
theorem rw_49_2 : mm_code 49 2 = some (.iload_n 2, 1, 0, 0, []) := rfl
theorem rw_49_3 : mm_code 49 3 = some (.invokevirtual 154, 3, 46, 3, [46, 0]) := rfl
theorem rw_49_6 : mm_code 49 6 = some (.ifCond .ne 5, 3, 11, 0, []) := rfl
theorem rw_49_9 : mm_code 49 9 = some (.lconst 0, 1, 0, 0, []) := rfl
theorem rw_49_10 : mm_code 49 10 = some (.lreturn, 1, 0, 0, []) := rfl
theorem rw_49_11 : mm_code 49 11 = some (.lconst 1, 1, 1, 0, []) := rfl
theorem rw_49_12 : mm_code 49 12 = some (.iload_n 2, 1, 0, 0, []) := rfl
theorem rw_49_13 : mm_code 49 13 = some (.lshl, 1, 0, 0, []) := rfl
theorem rw_49_14 : mm_code 49 14 = some (.lstore_n 3, 1, 0, 0, []) := rfl
theorem rw_49_15 : mm_code 49 15 = some (.aload_n 0, 1, 0, 0, []) := rfl
theorem rw_49_16 : mm_code 49 16 = some (.getfield 19, 3, 5, 6, [3, 3]) := rfl
theorem rw_49_19 : mm_code 49 19 = some (.iload_n 1, 1, 0, 0, []) := rfl
theorem rw_49_20 : mm_code 49 20 = some (.iaload, 1, 0, 0, []) := rfl
theorem rw_49_21 : mm_code 49 21 = some (.iconst 1, 1, 1, 0, []) := rfl
theorem rw_49_22 : mm_code 49 22 = some (.if_icmp .ne 21, 3, 43, 0, []) := rfl
theorem rw_49_25 : mm_code 49 25 = some (.iload_n 2, 1, 0, 0, []) := rfl
theorem rw_49_26 : mm_code 49 26 = some (.getstatic 157, 3, 2, 0, [1]) := rfl
theorem rw_49_29 : mm_code 49 29 = some (.arraylength, 1, 0, 0, []) := rfl
theorem rw_49_30 : mm_code 49 30 = some (.if_icmp .ge 13, 3, 43, 0, []) := rfl
theorem rw_49_33 : mm_code 49 33 = some (.getstatic 157, 3, 2, 0, [1]) := rfl
theorem rw_49_36 : mm_code 49 36 = some (.iload_n 2, 1, 0, 0, []) := rfl
theorem rw_49_37 : mm_code 49 37 = some (.iaload, 1, 0, 0, []) := rfl
theorem rw_49_38 : mm_code 49 38 = some (.i2l, 1, 0, 0, []) := rfl
theorem rw_49_39 : mm_code 49 39 = some (.lstore_n 3, 1, 0, 0, []) := rfl
theorem rw_49_40 : mm_code 49 40 = some (.goto 28, 3, 68, 0, []) := rfl
theorem rw_49_43 : mm_code 49 43 = some (.aload_n 0, 1, 0, 0, []) := rfl
theorem rw_49_44 : mm_code 49 44 = some (.getfield 19, 3, 5, 6, [3, 3]) := rfl
theorem rw_49_47 : mm_code 49 47 = some (.iload_n 1, 1, 0, 0, []) := rfl
theorem rw_49_48 : mm_code 49 48 = some (.iaload, 1, 0, 0, []) := rfl
theorem rw_49_49 : mm_code 49 49 = some (.iconst 2, 1, 2, 0, []) := rfl
theorem rw_49_50 : mm_code 49 50 = some (.if_icmp .ne 18, 3, 68, 0, []) := rfl
theorem rw_49_53 : mm_code 49 53 = some (.iload_n 2, 1, 0, 0, []) := rfl
theorem rw_49_54 : mm_code 49 54 = some (.getstatic 160, 3, 3, 0, [2]) := rfl
theorem rw_49_57 : mm_code 49 57 = some (.arraylength, 1, 0, 0, []) := rfl
theorem rw_49_58 : mm_code 49 58 = some (.if_icmp .ge 10, 3, 68, 0, []) := rfl
theorem rw_49_61 : mm_code 49 61 = some (.getstatic 160, 3, 3, 0, [2]) := rfl
theorem rw_49_64 : mm_code 49 64 = some (.iload_n 2, 1, 0, 0, []) := rfl
theorem rw_49_65 : mm_code 49 65 = some (.iaload, 1, 0, 0, []) := rfl
theorem rw_49_66 : mm_code 49 66 = some (.i2l, 1, 0, 0, []) := rfl
theorem rw_49_67 : mm_code 49 67 = some (.lstore_n 3, 1, 0, 0, []) := rfl
theorem rw_49_68 : mm_code 49 68 = some (.lload_n 3, 1, 0, 0, []) := rfl
theorem rw_49_69 : mm_code 49 69 = some (.aload_n 0, 1, 0, 0, []) := rfl
theorem rw_49_70 : mm_code 49 70 = some (.getfield 22, 3, 5, 7, [3, 4]) := rfl
theorem rw_49_73 : mm_code 49 73 = some (.iload_n 1, 1, 0, 0, []) := rfl
theorem rw_49_74 : mm_code 49 74 = some (.iaload, 1, 0, 0, []) := rfl
theorem rw_49_75 : mm_code 49 75 = some (.lshl, 1, 0, 0, []) := rfl
theorem rw_49_76 : mm_code 49 76 = some (.lreturn, 1, 0, 0, []) := rfl
theorem rw_50_0 : mm_code 50 0 = some (.aload_n 0, 1, 0, 0, []) := rfl
theorem rw_50_1 : mm_code 50 1 = some (.getfield 34, 3, 5, 11, [3, 8]) := rfl
theorem rw_50_4 : mm_code 50 4 = some (.iload_n 1, 1, 0, 0, []) := rfl
theorem rw_50_5 : mm_code 50 5 = some (.iaload, 1, 0, 0, []) := rfl
theorem rw_50_6 : mm_code 50 6 = some (.istore_n 3, 1, 0, 0, []) := rfl
theorem rw_50_7 : mm_code 50 7 = some (.iload_n 2, 1, 0, 0, []) := rfl
theorem rw_50_8 : mm_code 50 8 = some (.ifCond .lt 30, 3, 38, 0, []) := rfl
theorem rw_50_11 : mm_code 50 11 = some (.iload_n 2, 1, 0, 0, []) := rfl
theorem rw_50_12 : mm_code 50 12 = some (.aload_n 0, 1, 0, 0, []) := rfl
theorem rw_50_13 : mm_code 50 13 = some (.iload_n 3, 1, 0, 0, []) := rfl
theorem rw_50_14 : mm_code 50 14 = some (.invokevirtual 142, 3, 47, 2, [42, 0]) := rfl
theorem rw_50_17 : mm_code 50 17 = some (.ishr, 1, 0, 0, []) := rfl
theorem rw_50_18 : mm_code 50 18 = some (.ifCond .ne 20, 3, 38, 0, []) := rfl
theorem rw_50_21 : mm_code 50 21 = some (.iload_n 2, 1, 0, 0, []) := rfl
theorem rw_50_22 : mm_code 50 22 = some (.invokestatic 163, 3, 246, 1, [47, 0]) := rfl
theorem rw_50_25 : mm_code 50 25 = some (.aload_n 0, 1, 0, 0, []) := rfl
theorem rw_50_26 : mm_code 50 26 = some (.getfield 28, 3, 5, 9, [3, 6]) := rfl
theorem rw_50_29 : mm_code 50 29 = some (.iload_n 3, 1, 0, 0, []) := rfl
theorem rw_50_30 : mm_code 50 30 = some (.iaload, 1, 0, 0, []) := rfl
theorem rw_50_31 : mm_code 50 31 = some (.if_icmp .ne 7, 3, 38, 0, []) := rfl
theorem rw_50_34 : mm_code 50 34 = some (.iconst 1, 1, 1, 0, []) := rfl
theorem rw_50_35 : mm_code 50 35 = some (.goto 4, 3, 39, 0, []) := rfl
theorem rw_50_38 : mm_code 50 38 = some (.iconst 0, 1, 0, 0, []) := rfl
theorem rw_50_39 : mm_code 50 39 = some (.ireturn, 1, 1, 0, []) := rfl
theorem rw_51_0 : mm_code 51 0 = some (.iconst 0, 1, 0, 0, []) := rfl
theorem rw_51_1 : mm_code 51 1 = some (.istore_n 2, 1, 0, 0, []) := rfl
theorem rw_51_2 : mm_code 51 2 = some (.iconst 0, 1, 0, 0, []) := rfl
theorem rw_51_3 : mm_code 51 3 = some (.istore_n 3, 1, 0, 0, []) := rfl
theorem rw_51_4 : mm_code 51 4 = some (.iload_n 3, 1, 0, 0, []) := rfl
theorem rw_51_5 : mm_code 51 5 = some (.aload_n 0, 1, 0, 0, []) := rfl
theorem rw_51_6 : mm_code 51 6 = some (.getfield 47, 3, 5, 3, [0, 12]) := rfl
theorem rw_51_9 : mm_code 51 9 = some (.if_icmp .ge 25, 3, 34, 0, []) := rfl
theorem rw_51_12 : mm_code 51 12 = some (.aload_n 0, 1, 0, 0, []) := rfl
theorem rw_51_13 : mm_code 51 13 = some (.getfield 34, 3, 5, 11, [3, 8]) := rfl
theorem rw_51_16 : mm_code 51 16 = some (.iload_n 3, 1, 0, 0, []) := rfl
theorem rw_51_17 : mm_code 51 17 = some (.iaload, 1, 0, 0, []) := rfl
theorem rw_51_18 : mm_code 51 18 = some (.iload_n 1, 1, 0, 0, []) := rfl
theorem rw_51_19 : mm_code 51 19 = some (.if_icmp .ne 9, 3, 28, 0, []) := rfl
theorem rw_51_22 : mm_code 51 22 = some (.iload_n 2, 1, 0, 0, []) := rfl
theorem rw_51_23 : mm_code 51 23 = some (.iconst 1, 1, 1, 0, []) := rfl
theorem rw_51_24 : mm_code 51 24 = some (.iload_n 3, 1, 0, 0, []) := rfl
theorem rw_51_25 : mm_code 51 25 = some (.ishl, 1, 0, 0, []) := rfl
theorem rw_51_26 : mm_code 51 26 = some (.ior, 1, 0, 0, []) := rfl
theorem rw_51_27 : mm_code 51 27 = some (.istore_n 2, 1, 0, 0, []) := rfl
theorem rw_51_28 : mm_code 51 28 = some (.iinc 3 1, 3, 1, 0, []) := rfl
theorem rw_51_31 : mm_code 51 31 = some (.goto (-27), 3, 4, 0, []) := rfl
theorem rw_51_34 : mm_code 51 34 = some (.iload_n 2, 1, 0, 0, []) := rfl
theorem rw_51_35 : mm_code 51 35 = some (.ireturn, 1, 0, 0, []) := rfl
theorem rw_52_0 : mm_code 52 0 = some (.aload_n 0, 1, 0, 0, []) := rfl
theorem rw_52_1 : mm_code 52 1 = some (.getfield 15, 3, 5, 5, [3, 2]) := rfl
theorem rw_52_4 : mm_code 52 4 = some (.aload_n 0, 1, 0, 0, []) := rfl
theorem rw_52_5 : mm_code 52 5 = some (.getfield 44, 3, 5, 2, [0, 11]) := rfl
theorem rw_52_8 : mm_code 52 8 = some (.iload_n 1, 1, 0, 0, []) := rfl
theorem rw_52_9 : mm_code 52 9 = some (.invokestatic 168, 3, 54, 3, [48, 0]) := rfl
theorem rw_52_12 : mm_code 52 12 = some (.ireturn, 1, 0, 0, []) := rfl
theorem rw_53_0 : mm_code 53 0 = some (.aload_n 0, 1, 0, 0, []) := rfl
theorem rw_53_1 : mm_code 53 1 = some (.getfield 31, 3, 5, 10, [3, 7]) := rfl
theorem rw_53_4 : mm_code 53 4 = some (.aload_n 0, 1, 0, 0, []) := rfl
theorem rw_53_5 : mm_code 53 5 = some (.getfield 47, 3, 5, 3, [0, 12]) := rfl
theorem rw_53_8 : mm_code 53 8 = some (.iload_n 1, 1, 0, 0, []) := rfl
theorem rw_53_9 : mm_code 53 9 = some (.invokestatic 168, 3, 54, 3, [48, 0]) := rfl
theorem rw_53_12 : mm_code 53 12 = some (.ireturn, 1, 0, 0, []) := rfl
theorem rw_54_0 : mm_code 54 0 = some (.iconst 0, 1, 0, 0, []) := rfl
theorem rw_54_1 : mm_code 54 1 = some (.istore_n 3, 1, 0, 0, []) := rfl
theorem rw_54_2 : mm_code 54 2 = some (.iload_n 3, 1, 0, 0, []) := rfl
theorem rw_54_3 : mm_code 54 3 = some (.iload_n 1, 1, 0, 0, []) := rfl
theorem rw_54_4 : mm_code 54 4 = some (.if_icmp .ge 24, 3, 28, 0, []) := rfl
theorem rw_54_7 : mm_code 54 7 = some (.iload_n 3, 1, 0, 0, []) := rfl
theorem rw_54_8 : mm_code 54 8 = some (.aload_n 0, 1, 0, 0, []) := rfl
theorem rw_54_9 : mm_code 54 9 = some (.arraylength, 1, 0, 0, []) := rfl
theorem rw_54_10 : mm_code 54 10 = some (.if_icmp .ge 18, 3, 28, 0, []) := rfl
theorem rw_54_13 : mm_code 54 13 = some (.aload_n 0, 1, 0, 0, []) := rfl
theorem rw_54_14 : mm_code 54 14 = some (.iload_n 3, 1, 0, 0, []) := rfl
theorem rw_54_15 : mm_code 54 15 = some (.iaload, 1, 0, 0, []) := rfl
theorem rw_54_16 : mm_code 54 16 = some (.iload_n 2, 1, 0, 0, []) := rfl
theorem rw_54_17 : mm_code 54 17 = some (.if_icmp .ne 5, 3, 22, 0, []) := rfl
theorem rw_54_20 : mm_code 54 20 = some (.iload_n 3, 1, 0, 0, []) := rfl
theorem rw_54_21 : mm_code 54 21 = some (.ireturn, 1, 0, 0, []) := rfl
theorem rw_54_22 : mm_code 54 22 = some (.iinc 3 1, 3, 1, 0, []) := rfl
theorem rw_54_25 : mm_code 54 25 = some (.goto (-23), 3, 2, 0, []) := rfl
theorem rw_54_28 : mm_code 54 28 = some (.iconst (-1), 1, 1, 1, []) := rfl
theorem rw_54_29 : mm_code 54 29 = some (.ireturn, 1, 0, 0, []) := rfl
theorem rw_56_0 : mm_code 56 0 = some (.aload_n 0, 1, 0, 0, []) := rfl
theorem rw_56_1 : mm_code 56 1 = some (.iconst 0, 1, 0, 0, []) := rfl
theorem rw_56_2 : mm_code 56 2 = some (.putfield 24, 3, 6, 4, [0, 5]) := rfl
theorem rw_56_5 : mm_code 56 5 = some (.aload_n 0, 1, 0, 0, []) := rfl
theorem rw_56_6 : mm_code 56 6 = some (.iconst 0, 1, 0, 0, []) := rfl
theorem rw_56_7 : mm_code 56 7 = some (.putfield 28, 3, 6, 5, [0, 6]) := rfl
theorem rw_56_10 : mm_code 56 10 = some (.return_, 1, 0, 0, []) := rfl
theorem rw_57_0 : mm_code 57 0 = some (.aload_n 0, 1, 0, 0, []) := rfl
theorem rw_57_1 : mm_code 57 1 = some (.invokevirtual 31, 3, 56, 1, [7, 0]) := rfl
theorem rw_57_4 : mm_code 57 4 = some (.aload_n 0, 1, 0, 0, []) := rfl
theorem rw_57_5 : mm_code 57 5 = some (.aload_n 1, 1, 0, 0, []) := rfl
theorem rw_57_6 : mm_code 57 6 = some (.aload_n 2, 1, 0, 0, []) := rfl
theorem rw_57_7 : mm_code 57 7 = some (.iconst 0, 1, 0, 0, []) := rfl
theorem rw_57_8 : mm_code 57 8 = some (.invokevirtual 34, 3, 58, 4, [8, 0]) := rfl
theorem rw_57_11 : mm_code 57 11 = some (.ifCond .eq 14, 3, 25, 0, []) := rfl
theorem rw_57_14 : mm_code 57 14 = some (.aload_n 1, 1, 0, 0, []) := rfl
theorem rw_57_15 : mm_code 57 15 = some (.invokevirtual 38, 3, 87, 1, [9, 0]) := rfl
theorem rw_57_18 : mm_code 57 18 = some (.ifCond .eq 7, 3, 25, 0, []) := rfl
theorem rw_57_21 : mm_code 57 21 = some (.iconst 1, 1, 1, 0, []) := rfl
theorem rw_57_22 : mm_code 57 22 = some (.goto 4, 3, 26, 0, []) := rfl
theorem rw_57_25 : mm_code 57 25 = some (.iconst 0, 1, 0, 0, []) := rfl
theorem rw_57_26 : mm_code 57 26 = some (.ireturn, 1, 1, 0, []) := rfl
theorem rw_58_0 : mm_code 58 0 = some (.aload_n 0, 1, 0, 0, []) := rfl
theorem rw_58_1 : mm_code 58 1 = some (.aload_n 1, 1, 0, 0, []) := rfl
theorem rw_58_2 : mm_code 58 2 = some (.aload_n 2, 1, 0, 0, []) := rfl
theorem rw_58_3 : mm_code 58 3 = some (.iload_n 3, 1, 0, 0, []) := rfl
theorem rw_58_4 : mm_code 58 4 = some (.invokevirtual 44, 3, 59, 4, [10, 0]) := rfl
theorem rw_58_7 : mm_code 58 7 = some (.ifCond .ne 5, 3, 12, 0, []) := rfl
theorem rw_58_10 : mm_code 58 10 = some (.iconst 0, 1, 0, 0, []) := rfl
theorem rw_58_11 : mm_code 58 11 = some (.ireturn, 1, 1, 0, []) := rfl
theorem rw_58_12 : mm_code 58 12 = some (.iconst 0, 1, 0, 0, []) := rfl
theorem rw_58_13 : mm_code 58 13 = some (.istore 4, 2, 0, 0, []) := rfl
theorem rw_58_15 : mm_code 58 15 = some (.iload 4, 2, 0, 0, []) := rfl
theorem rw_58_17 : mm_code 58 17 = some (.bipush 40, 2, 40, 0, []) := rfl
theorem rw_58_19 : mm_code 58 19 = some (.if_icmp .gt 45, 3, 64, 0, []) := rfl
theorem rw_58_22 : mm_code 58 22 = some (.aload_n 1, 1, 0, 0, []) := rfl
theorem rw_58_23 : mm_code 58 23 = some (.ldc 47, 2, 522190848, 0, [11]) := rfl
theorem rw_58_25 : mm_code 58 25 = some (.invokevirtual 48, 3, 86, 2, [12, 0]) := rfl
theorem rw_58_28 : mm_code 58 28 = some (.ifCond .eq 36, 3, 64, 0, []) := rfl
theorem rw_58_31 : mm_code 58 31 = some (.aload_n 0, 1, 0, 0, []) := rfl
theorem rw_58_32 : mm_code 58 32 = some (.aload_n 1, 1, 0, 0, []) := rfl
theorem rw_58_33 : mm_code 58 33 = some (.invokevirtual 52, 3, 63, 2, [13, 0]) := rfl
theorem rw_58_36 : mm_code 58 36 = some (.ifCond .eq 13, 3, 49, 0, []) := rfl
theorem rw_58_39 : mm_code 58 39 = some (.aload_n 0, 1, 0, 0, []) := rfl
theorem rw_58_40 : mm_code 58 40 = some (.aload_n 1, 1, 0, 0, []) := rfl
theorem rw_58_41 : mm_code 58 41 = some (.aload_n 2, 1, 0, 0, []) := rfl
theorem rw_58_42 : mm_code 58 42 = some (.iload_n 3, 1, 0, 0, []) := rfl
theorem rw_58_43 : mm_code 58 43 = some (.invokevirtual 44, 3, 59, 4, [10, 0]) := rfl
theorem rw_58_46 : mm_code 58 46 = some (.ifCond .ne 5, 3, 51, 0, []) := rfl
theorem rw_58_49 : mm_code 58 49 = some (.iconst 0, 1, 0, 0, []) := rfl
theorem rw_58_50 : mm_code 58 50 = some (.ireturn, 1, 1, 0, []) := rfl
theorem rw_58_51 : mm_code 58 51 = some (.aload_n 0, 1, 0, 0, []) := rfl
theorem rw_58_52 : mm_code 58 52 = some (.iconst 4, 1, 4, 0, []) := rfl
theorem rw_58_53 : mm_code 58 53 = some (.iconst 0, 1, 0, 0, []) := rfl
theorem rw_58_54 : mm_code 58 54 = some (.iconst 0, 1, 0, 0, []) := rfl
theorem rw_58_55 : mm_code 58 55 = some (.invokevirtual 56, 3, 64, 4, [14, 0]) := rfl
theorem rw_58_58 : mm_code 58 58 = some (.iinc 4 1, 3, 1, 0, []) := rfl
theorem rw_58_61 : mm_code 58 61 = some (.goto (-46), 3, 15, 0, []) := rfl
theorem rw_58_64 : mm_code 58 64 = some (.iconst 1, 1, 1, 0, []) := rfl
theorem rw_58_65 : mm_code 58 65 = some (.ireturn, 1, 1, 0, []) := rfl
theorem rw_59_0 : mm_code 59 0 = some (.aload_n 0, 1, 0, 0, []) := rfl
theorem rw_59_1 : mm_code 59 1 = some (.aload_n 1, 1, 0, 0, []) := rfl
theorem rw_59_2 : mm_code 59 2 = some (.aload_n 2, 1, 0, 0, []) := rfl
theorem rw_59_3 : mm_code 59 3 = some (.iload_n 3, 1, 0, 0, []) := rfl
theorem rw_59_4 : mm_code 59 4 = some (.invokevirtual 60, 3, 60, 4, [15, 0]) := rfl
theorem rw_59_7 : mm_code 59 7 = some (.ifCond .ne 5, 3, 12, 0, []) := rfl
theorem rw_59_10 : mm_code 59 10 = some (.iconst 0, 1, 0, 0, []) := rfl
theorem rw_59_11 : mm_code 59 11 = some (.ireturn, 1, 1, 0, []) := rfl
theorem rw_59_12 : mm_code 59 12 = some (.iconst 0, 1, 0, 0, []) := rfl
theorem rw_59_13 : mm_code 59 13 = some (.istore 4, 2, 0, 0, []) := rfl
theorem rw_59_15 : mm_code 59 15 = some (.iload 4, 2, 0, 0, []) := rfl
theorem rw_59_17 : mm_code 59 17 = some (.bipush 40, 2, 40, 0, []) := rfl
theorem rw_59_19 : mm_code 59 19 = some (.if_icmp .gt 45, 3, 64, 0, []) := rfl
theorem rw_59_22 : mm_code 59 22 = some (.aload_n 1, 1, 0, 0, []) := rfl
theorem rw_59_23 : mm_code 59 23 = some (.ldc 63, 2, 48365568, 0, [16]) := rfl
theorem rw_59_25 : mm_code 59 25 = some (.invokevirtual 48, 3, 86, 2, [12, 0]) := rfl
theorem rw_59_28 : mm_code 59 28 = some (.ifCond .eq 36, 3, 64, 0, []) := rfl
theorem rw_59_31 : mm_code 59 31 = some (.aload_n 0, 1, 0, 0, []) := rfl
theorem rw_59_32 : mm_code 59 32 = some (.aload_n 1, 1, 0, 0, []) := rfl
theorem rw_59_33 : mm_code 59 33 = some (.invokevirtual 52, 3, 63, 2, [13, 0]) := rfl
theorem rw_59_36 : mm_code 59 36 = some (.ifCond .eq 13, 3, 49, 0, []) := rfl
theorem rw_59_39 : mm_code 59 39 = some (.aload_n 0, 1, 0, 0, []) := rfl
theorem rw_59_40 : mm_code 59 40 = some (.aload_n 1, 1, 0, 0, []) := rfl
theorem rw_59_41 : mm_code 59 41 = some (.aload_n 2, 1, 0, 0, []) := rfl
theorem rw_59_42 : mm_code 59 42 = some (.iload_n 3, 1, 0, 0, []) := rfl
theorem rw_59_43 : mm_code 59 43 = some (.invokevirtual 60, 3, 60, 4, [15, 0]) := rfl
theorem rw_59_46 : mm_code 59 46 = some (.ifCond .ne 5, 3, 51, 0, []) := rfl
theorem rw_59_49 : mm_code 59 49 = some (.iconst 0, 1, 0, 0, []) := rfl
theorem rw_59_50 : mm_code 59 50 = some (.ireturn, 1, 1, 0, []) := rfl
theorem rw_59_51 : mm_code 59 51 = some (.aload_n 0, 1, 0, 0, []) := rfl
theorem rw_59_52 : mm_code 59 52 = some (.iconst 3, 1, 3, 0, []) := rfl
theorem rw_59_53 : mm_code 59 53 = some (.iconst 0, 1, 0, 0, []) := rfl
theorem rw_59_54 : mm_code 59 54 = some (.iconst 0, 1, 0, 0, []) := rfl
theorem rw_59_55 : mm_code 59 55 = some (.invokevirtual 56, 3, 64, 4, [14, 0]) := rfl
theorem rw_59_58 : mm_code 59 58 = some (.iinc 4 1, 3, 1, 0, []) := rfl
theorem rw_59_61 : mm_code 59 61 = some (.goto (-46), 3, 15, 0, []) := rfl
theorem rw_59_64 : mm_code 59 64 = some (.iconst 1, 1, 1, 0, []) := rfl
theorem rw_59_65 : mm_code 59 65 = some (.ireturn, 1, 1, 0, []) := rfl
theorem rw_60_0 : mm_code 60 0 = some (.iconst 0, 1, 0, 0, []) := rfl
theorem rw_60_1 : mm_code 60 1 = some (.istore 4, 2, 0, 0, []) := rfl
theorem rw_60_3 : mm_code 60 3 = some (.iload 4, 2, 0, 0, []) := rfl
theorem rw_60_5 : mm_code 60 5 = some (.bipush 40, 2, 40, 0, []) := rfl
theorem rw_60_7 : mm_code 60 7 = some (.if_icmp .gt 28, 3, 35, 0, []) := rfl
theorem rw_60_10 : mm_code 60 10 = some (.aload_n 1, 1, 0, 0, []) := rfl
theorem rw_60_11 : mm_code 60 11 = some (.ldc 64, 2, 486146048, 0, [17]) := rfl
theorem rw_60_13 : mm_code 60 13 = some (.invokevirtual 48, 3, 86, 2, [12, 0]) := rfl
theorem rw_60_16 : mm_code 60 16 = some (.ifCond .eq 19, 3, 35, 0, []) := rfl
theorem rw_60_19 : mm_code 60 19 = some (.aload_n 0, 1, 0, 0, []) := rfl
theorem rw_60_20 : mm_code 60 20 = some (.aload_n 1, 1, 0, 0, []) := rfl
theorem rw_60_21 : mm_code 60 21 = some (.invokevirtual 52, 3, 63, 2, [13, 0]) := rfl
theorem rw_60_24 : mm_code 60 24 = some (.ifCond .ne 5, 3, 29, 0, []) := rfl
theorem rw_60_27 : mm_code 60 27 = some (.iconst 0, 1, 0, 0, []) := rfl
theorem rw_60_28 : mm_code 60 28 = some (.ireturn, 1, 1, 0, []) := rfl
theorem rw_60_29 : mm_code 60 29 = some (.iinc 4 1, 3, 1, 0, []) := rfl
theorem rw_60_32 : mm_code 60 32 = some (.goto (-29), 3, 3, 0, []) := rfl
theorem rw_60_35 : mm_code 60 35 = some (.aload_n 1, 1, 0, 0, []) := rfl
theorem rw_60_36 : mm_code 60 36 = some (.getfield 65, 3, 8, 7, [0, 18]) := rfl
theorem rw_60_39 : mm_code 60 39 = some (.bipush 40, 2, 40, 0, []) := rfl
theorem rw_60_41 : mm_code 60 41 = some (.if_icmp .ne 13, 3, 54, 0, []) := rfl
theorem rw_60_44 : mm_code 60 44 = some (.aload_n 0, 1, 0, 0, []) := rfl
theorem rw_60_45 : mm_code 60 45 = some (.aload_n 1, 1, 0, 0, []) := rfl
theorem rw_60_46 : mm_code 60 46 = some (.aload_n 2, 1, 0, 0, []) := rfl
theorem rw_60_47 : mm_code 60 47 = some (.iload_n 3, 1, 0, 0, []) := rfl
theorem rw_60_48 : mm_code 60 48 = some (.invokevirtual 68, 3, 61, 4, [19, 0]) := rfl
theorem rw_60_51 : mm_code 60 51 = some (.goto 9, 3, 60, 0, []) := rfl
theorem rw_60_54 : mm_code 60 54 = some (.aload_n 0, 1, 0, 0, []) := rfl
theorem rw_60_55 : mm_code 60 55 = some (.aload_n 1, 1, 0, 0, []) := rfl
theorem rw_60_56 : mm_code 60 56 = some (.aload_n 2, 1, 0, 0, []) := rfl
theorem rw_60_57 : mm_code 60 57 = some (.invokevirtual 71, 3, 62, 3, [20, 0]) := rfl
theorem rw_60_60 : mm_code 60 60 = some (.istore 5, 2, 0, 0, []) := rfl
theorem rw_60_62 : mm_code 60 62 = some (.iconst 0, 1, 0, 0, []) := rfl
theorem rw_60_63 : mm_code 60 63 = some (.istore 6, 2, 0, 0, []) := rfl
theorem rw_60_65 : mm_code 60 65 = some (.iload 6, 2, 0, 0, []) := rfl
theorem rw_60_67 : mm_code 60 67 = some (.iload 4, 2, 0, 0, []) := rfl
theorem rw_60_69 : mm_code 60 69 = some (.if_icmp .ge 21, 3, 90, 0, []) := rfl
theorem rw_60_72 : mm_code 60 72 = some (.iload 5, 2, 0, 0, []) := rfl
theorem rw_60_74 : mm_code 60 74 = some (.ifCond .eq 16, 3, 90, 0, []) := rfl
theorem rw_60_77 : mm_code 60 77 = some (.aload_n 0, 1, 0, 0, []) := rfl
theorem rw_60_78 : mm_code 60 78 = some (.iconst 2, 1, 2, 0, []) := rfl
theorem rw_60_79 : mm_code 60 79 = some (.iconst 0, 1, 0, 0, []) := rfl
theorem rw_60_80 : mm_code 60 80 = some (.iconst 0, 1, 0, 0, []) := rfl
theorem rw_60_81 : mm_code 60 81 = some (.invokevirtual 56, 3, 64, 4, [14, 0]) := rfl
theorem rw_60_84 : mm_code 60 84 = some (.iinc 6 1, 3, 1, 0, []) := rfl
theorem rw_60_87 : mm_code 60 87 = some (.goto (-22), 3, 65, 0, []) := rfl
theorem rw_60_90 : mm_code 60 90 = some (.iload 5, 2, 0, 0, []) := rfl
theorem rw_60_92 : mm_code 60 92 = some (.ireturn, 1, 1, 0, []) := rfl
theorem rw_61_0 : mm_code 61 0 = some (.iload_n 3, 1, 0, 0, []) := rfl
theorem rw_61_1 : mm_code 61 1 = some (.bipush 8, 2, 8, 0, []) := rfl
theorem rw_61_3 : mm_code 61 3 = some (.if_icmp .lt 9, 3, 12, 0, []) := rfl
theorem rw_61_6 : mm_code 61 6 = some (.aload_n 1, 1, 0, 0, []) := rfl
theorem rw_61_7 : mm_code 61 7 = some (.iconst 2, 1, 2, 0, []) := rfl
theorem rw_61_8 : mm_code 61 8 = some (.invokevirtual 75, 3, 84, 2, [21, 0]) := rfl
theorem rw_61_11 : mm_code 61 11 = some (.ireturn, 1, 1, 0, []) := rfl
theorem rw_61_12 : mm_code 61 12 = some (.aload_n 1, 1, 0, 0, []) := rfl
theorem rw_61_13 : mm_code 61 13 = some (.invokevirtual 78, 3, 83, 1, [22, 0]) := rfl
theorem rw_61_16 : mm_code 61 16 = some (.aload_n 0, 1, 0, 0, []) := rfl
theorem rw_61_17 : mm_code 61 17 = some (.aload_n 1, 1, 0, 0, []) := rfl
theorem rw_61_18 : mm_code 61 18 = some (.aload_n 2, 1, 0, 0, []) := rfl
theorem rw_61_19 : mm_code 61 19 = some (.iload_n 3, 1, 0, 0, []) := rfl
theorem rw_61_20 : mm_code 61 20 = some (.iconst 1, 1, 1, 0, []) := rfl
theorem rw_61_21 : mm_code 61 21 = some (.iadd, 1, 0, 0, []) := rfl
theorem rw_61_22 : mm_code 61 22 = some (.invokevirtual 34, 3, 58, 4, [8, 0]) := rfl
theorem rw_61_25 : mm_code 61 25 = some (.ifCond .eq 16, 3, 41, 0, []) := rfl
theorem rw_61_28 : mm_code 61 28 = some (.aload_n 1, 1, 0, 0, []) := rfl
theorem rw_61_29 : mm_code 61 29 = some (.bipush 41, 2, 41, 0, []) := rfl
theorem rw_61_31 : mm_code 61 31 = some (.invokevirtual 81, 3, 90, 2, [23, 0]) := rfl
theorem rw_61_34 : mm_code 61 34 = some (.ifCond .eq 7, 3, 41, 0, []) := rfl
theorem rw_61_37 : mm_code 61 37 = some (.iconst 1, 1, 1, 0, []) := rfl
theorem rw_61_38 : mm_code 61 38 = some (.goto 4, 3, 42, 0, []) := rfl
theorem rw_61_41 : mm_code 61 41 = some (.iconst 0, 1, 0, 0, []) := rfl
theorem rw_61_42 : mm_code 61 42 = some (.ireturn, 1, 1, 0, []) := rfl
theorem rw_62_0 : mm_code 62 0 = some (.aload_n 1, 1, 0, 0, []) := rfl
theorem rw_62_1 : mm_code 62 1 = some (.getfield 65, 3, 8, 7, [0, 18]) := rfl
theorem rw_62_4 : mm_code 62 4 = some (.iconst 3, 1, 3, 0, []) := rfl
theorem rw_62_5 : mm_code 62 5 = some (.if_icmp .eq 9, 3, 14, 0, []) := rfl
theorem rw_62_8 : mm_code 62 8 = some (.aload_n 1, 1, 0, 0, []) := rfl
theorem rw_62_9 : mm_code 62 9 = some (.iconst 1, 1, 1, 0, []) := rfl
theorem rw_62_10 : mm_code 62 10 = some (.invokevirtual 75, 3, 84, 2, [21, 0]) := rfl
theorem rw_62_13 : mm_code 62 13 = some (.ireturn, 1, 1, 0, []) := rfl
theorem rw_62_14 : mm_code 62 14 = some (.aload_n 1, 1, 0, 0, []) := rfl
theorem rw_62_15 : mm_code 62 15 = some (.getfield 85, 3, 8, 8, [0, 24]) := rfl
theorem rw_62_18 : mm_code 62 18 = some (.istore_n 3, 1, 0, 0, []) := rfl
theorem rw_62_19 : mm_code 62 19 = some (.aload_n 1, 1, 0, 0, []) := rfl
theorem rw_62_20 : mm_code 62 20 = some (.getfield 88, 3, 8, 9, [0, 25]) := rfl
theorem rw_62_23 : mm_code 62 23 = some (.istore 4, 2, 0, 0, []) := rfl
theorem rw_62_25 : mm_code 62 25 = some (.aload_n 0, 1, 0, 0, []) := rfl
theorem rw_62_26 : mm_code 62 26 = some (.aload_n 1, 1, 0, 0, []) := rfl
theorem rw_62_27 : mm_code 62 27 = some (.invokevirtual 52, 3, 63, 2, [13, 0]) := rfl
theorem rw_62_30 : mm_code 62 30 = some (.ifCond .ne 5, 3, 35, 0, []) := rfl
theorem rw_62_33 : mm_code 62 33 = some (.iconst 0, 1, 0, 0, []) := rfl
theorem rw_62_34 : mm_code 62 34 = some (.ireturn, 1, 1, 0, []) := rfl
theorem rw_62_35 : mm_code 62 35 = some (.aload_n 1, 1, 0, 0, []) := rfl
theorem rw_62_36 : mm_code 62 36 = some (.getfield 65, 3, 8, 7, [0, 18]) := rfl
theorem rw_62_39 : mm_code 62 39 = some (.bipush 61, 2, 61, 0, []) := rfl
theorem rw_62_41 : mm_code 62 41 = some (.if_icmp .ne 7, 3, 48, 0, []) := rfl
theorem rw_62_44 : mm_code 62 44 = some (.iconst 1, 1, 1, 0, []) := rfl
theorem rw_62_45 : mm_code 62 45 = some (.goto 4, 3, 49, 0, []) := rfl
theorem rw_62_48 : mm_code 62 48 = some (.iconst 0, 1, 0, 0, []) := rfl
theorem rw_62_49 : mm_code 62 49 = some (.istore 5, 2, 0, 0, []) := rfl
theorem rw_62_51 : mm_code 62 51 = some (.iload 5, 2, 0, 0, []) := rfl
theorem rw_62_53 : mm_code 62 53 = some (.ifCond .eq 11, 3, 64, 0, []) := rfl
theorem rw_62_56 : mm_code 62 56 = some (.aload_n 2, 1, 0, 0, []) := rfl
theorem rw_62_57 : mm_code 62 57 = some (.iload_n 3, 1, 0, 0, []) := rfl
theorem rw_62_58 : mm_code 62 58 = some (.invokevirtual 91, 3, 52, 2, [26, 0]) := rfl
theorem rw_62_61 : mm_code 62 61 = some (.goto 8, 3, 69, 0, []) := rfl
theorem rw_62_64 : mm_code 62 64 = some (.aload_n 2, 1, 0, 0, []) := rfl
theorem rw_62_65 : mm_code 62 65 = some (.iload_n 3, 1, 0, 0, []) := rfl
theorem rw_62_66 : mm_code 62 66 = some (.invokevirtual 97, 3, 53, 2, [27, 0]) := rfl
theorem rw_62_69 : mm_code 62 69 = some (.istore 6, 2, 0, 0, []) := rfl
theorem rw_62_71 : mm_code 62 71 = some (.iload 6, 2, 0, 0, []) := rfl
theorem rw_62_73 : mm_code 62 73 = some (.iconst (-1), 1, 1, 1, []) := rfl
theorem rw_62_74 : mm_code 62 74 = some (.if_icmp .eq 17, 3, 91, 0, []) := rfl
theorem rw_62_77 : mm_code 62 77 = some (.iload 5, 2, 0, 0, []) := rfl
theorem rw_62_79 : mm_code 62 79 = some (.ifCond .eq 20, 3, 99, 0, []) := rfl
theorem rw_62_82 : mm_code 62 82 = some (.aload_n 2, 1, 0, 0, []) := rfl
theorem rw_62_83 : mm_code 62 83 = some (.iload 6, 2, 0, 0, []) := rfl
theorem rw_62_85 : mm_code 62 85 = some (.invokevirtual 100, 3, 45, 2, [28, 0]) := rfl
theorem rw_62_88 : mm_code 62 88 = some (.ifCond .eq 11, 3, 99, 0, []) := rfl
theorem rw_62_91 : mm_code 62 91 = some (.aload_n 1, 1, 0, 0, []) := rfl
theorem rw_62_92 : mm_code 62 92 = some (.iconst 4, 1, 4, 0, []) := rfl
theorem rw_62_93 : mm_code 62 93 = some (.iload 4, 2, 0, 0, []) := rfl
theorem rw_62_95 : mm_code 62 95 = some (.invokevirtual 103, 3, 85, 3, [29, 0]) := rfl
theorem rw_62_98 : mm_code 62 98 = some (.ireturn, 1, 1, 0, []) := rfl
theorem rw_62_99 : mm_code 62 99 = some (.iload 5, 2, 0, 0, []) := rfl
theorem rw_62_101 : mm_code 62 101 = some (.ifCond .ne 13, 3, 114, 0, []) := rfl
theorem rw_62_104 : mm_code 62 104 = some (.aload_n 0, 1, 0, 0, []) := rfl
theorem rw_62_105 : mm_code 62 105 = some (.iconst 1, 1, 1, 0, []) := rfl
theorem rw_62_106 : mm_code 62 106 = some (.iload 6, 2, 0, 0, []) := rfl
theorem rw_62_108 : mm_code 62 108 = some (.iconst 0, 1, 0, 0, []) := rfl
theorem rw_62_109 : mm_code 62 109 = some (.invokevirtual 56, 3, 64, 4, [14, 0]) := rfl
theorem rw_62_112 : mm_code 62 112 = some (.iconst 1, 1, 1, 0, []) := rfl
theorem rw_62_113 : mm_code 62 113 = some (.ireturn, 1, 1, 0, []) := rfl
theorem rw_62_114 : mm_code 62 114 = some (.aload_n 1, 1, 0, 0, []) := rfl
theorem rw_62_115 : mm_code 62 115 = some (.invokevirtual 78, 3, 83, 1, [22, 0]) := rfl
theorem rw_62_118 : mm_code 62 118 = some (.aload_n 1, 1, 0, 0, []) := rfl
theorem rw_62_119 : mm_code 62 119 = some (.iconst 0, 1, 0, 0, []) := rfl
theorem rw_62_120 : mm_code 62 120 = some (.aload_n 2, 1, 0, 0, []) := rfl
theorem rw_62_121 : mm_code 62 121 = some (.getfield 107, 3, 5, 9, [3, 30]) := rfl
theorem rw_62_124 : mm_code 62 124 = some (.iload 6, 2, 0, 0, []) := rfl
theorem rw_62_126 : mm_code 62 126 = some (.iaload, 1, 0, 0, []) := rfl
theorem rw_62_127 : mm_code 62 127 = some (.iconst 1, 1, 1, 0, []) := rfl
theorem rw_62_128 : mm_code 62 128 = some (.isub, 1, 0, 0, []) := rfl
theorem rw_62_129 : mm_code 62 129 = some (.invokevirtual 110, 3, 88, 3, [31, 0]) := rfl
theorem rw_62_132 : mm_code 62 132 = some (.ifCond .ne 5, 3, 137, 0, []) := rfl
theorem rw_62_135 : mm_code 62 135 = some (.iconst 0, 1, 0, 0, []) := rfl
theorem rw_62_136 : mm_code 62 136 = some (.ireturn, 1, 1, 0, []) := rfl
theorem rw_62_137 : mm_code 62 137 = some (.aload_n 0, 1, 0, 0, []) := rfl
theorem rw_62_138 : mm_code 62 138 = some (.iconst 0, 1, 0, 0, []) := rfl
theorem rw_62_139 : mm_code 62 139 = some (.iload 6, 2, 0, 0, []) := rfl
theorem rw_62_141 : mm_code 62 141 = some (.aload_n 1, 1, 0, 0, []) := rfl
theorem rw_62_142 : mm_code 62 142 = some (.getfield 85, 3, 8, 8, [0, 24]) := rfl
theorem rw_62_145 : mm_code 62 145 = some (.invokevirtual 56, 3, 64, 4, [14, 0]) := rfl
theorem rw_62_148 : mm_code 62 148 = some (.aload_n 1, 1, 0, 0, []) := rfl
theorem rw_62_149 : mm_code 62 149 = some (.invokevirtual 78, 3, 83, 1, [22, 0]) := rfl
theorem rw_62_152 : mm_code 62 152 = some (.iconst 1, 1, 1, 0, []) := rfl
theorem rw_62_153 : mm_code 62 153 = some (.ireturn, 1, 1, 0, []) := rfl
theorem rw_63_0 : mm_code 63 0 = some (.aload_n 0, 1, 0, 0, []) := rfl
theorem rw_63_1 : mm_code 63 1 = some (.getfield 24, 3, 6, 4, [0, 5]) := rfl
theorem rw_63_4 : mm_code 63 4 = some (.bipush 40, 2, 40, 0, []) := rfl
theorem rw_63_6 : mm_code 63 6 = some (.if_icmp .lt 9, 3, 15, 0, []) := rfl
theorem rw_63_9 : mm_code 63 9 = some (.aload_n 1, 1, 0, 0, []) := rfl
theorem rw_63_10 : mm_code 63 10 = some (.iconst 2, 1, 2, 0, []) := rfl
theorem rw_63_11 : mm_code 63 11 = some (.invokevirtual 75, 3, 84, 2, [21, 0]) := rfl
theorem rw_63_14 : mm_code 63 14 = some (.ireturn, 1, 1, 0, []) := rfl
theorem rw_63_15 : mm_code 63 15 = some (.aload_n 0, 1, 0, 0, []) := rfl
theorem rw_63_16 : mm_code 63 16 = some (.dup, 1, 0, 0, []) := rfl
theorem rw_63_17 : mm_code 63 17 = some (.getfield 24, 3, 6, 4, [0, 5]) := rfl
theorem rw_63_20 : mm_code 63 20 = some (.iconst 1, 1, 1, 0, []) := rfl
theorem rw_63_21 : mm_code 63 21 = some (.iadd, 1, 0, 0, []) := rfl
theorem rw_63_22 : mm_code 63 22 = some (.putfield 24, 3, 6, 4, [0, 5]) := rfl
theorem rw_63_25 : mm_code 63 25 = some (.aload_n 1, 1, 0, 0, []) := rfl
theorem rw_63_26 : mm_code 63 26 = some (.invokevirtual 78, 3, 83, 1, [22, 0]) := rfl
theorem rw_63_29 : mm_code 63 29 = some (.iconst 1, 1, 1, 0, []) := rfl
theorem rw_63_30 : mm_code 63 30 = some (.ireturn, 1, 1, 0, []) := rfl
theorem rw_64_0 : mm_code 64 0 = some (.aload_n 0, 1, 0, 0, []) := rfl
theorem rw_64_1 : mm_code 64 1 = some (.getfield 28, 3, 6, 5, [0, 6]) := rfl
theorem rw_64_4 : mm_code 64 4 = some (.bipush 40, 2, 40, 0, []) := rfl
theorem rw_64_6 : mm_code 64 6 = some (.if_icmp .ge 43, 3, 49, 0, []) := rfl
theorem rw_64_9 : mm_code 64 9 = some (.aload_n 0, 1, 0, 0, []) := rfl
theorem rw_64_10 : mm_code 64 10 = some (.getfield 9, 3, 6, 0, [3, 1]) := rfl
theorem rw_64_13 : mm_code 64 13 = some (.aload_n 0, 1, 0, 0, []) := rfl
theorem rw_64_14 : mm_code 64 14 = some (.getfield 28, 3, 6, 5, [0, 6]) := rfl
theorem rw_64_17 : mm_code 64 17 = some (.iload_n 1, 1, 0, 0, []) := rfl
theorem rw_64_18 : mm_code 64 18 = some (.iastore, 1, 0, 0, []) := rfl
theorem rw_64_19 : mm_code 64 19 = some (.aload_n 0, 1, 0, 0, []) := rfl
theorem rw_64_20 : mm_code 64 20 = some (.getfield 15, 3, 6, 1, [3, 2]) := rfl
theorem rw_64_23 : mm_code 64 23 = some (.aload_n 0, 1, 0, 0, []) := rfl
theorem rw_64_24 : mm_code 64 24 = some (.getfield 28, 3, 6, 5, [0, 6]) := rfl
theorem rw_64_27 : mm_code 64 27 = some (.iload_n 2, 1, 0, 0, []) := rfl
theorem rw_64_28 : mm_code 64 28 = some (.iastore, 1, 0, 0, []) := rfl
theorem rw_64_29 : mm_code 64 29 = some (.aload_n 0, 1, 0, 0, []) := rfl
theorem rw_64_30 : mm_code 64 30 = some (.getfield 18, 3, 6, 2, [3, 3]) := rfl
theorem rw_64_33 : mm_code 64 33 = some (.aload_n 0, 1, 0, 0, []) := rfl
theorem rw_64_34 : mm_code 64 34 = some (.getfield 28, 3, 6, 5, [0, 6]) := rfl
theorem rw_64_37 : mm_code 64 37 = some (.iload_n 3, 1, 0, 0, []) := rfl
theorem rw_64_38 : mm_code 64 38 = some (.iastore, 1, 0, 0, []) := rfl
theorem rw_64_39 : mm_code 64 39 = some (.aload_n 0, 1, 0, 0, []) := rfl
theorem rw_64_40 : mm_code 64 40 = some (.dup, 1, 0, 0, []) := rfl
theorem rw_64_41 : mm_code 64 41 = some (.getfield 28, 3, 6, 5, [0, 6]) := rfl
theorem rw_64_44 : mm_code 64 44 = some (.iconst 1, 1, 1, 0, []) := rfl
theorem rw_64_45 : mm_code 64 45 = some (.iadd, 1, 0, 0, []) := rfl
theorem rw_64_46 : mm_code 64 46 = some (.putfield 28, 3, 6, 5, [0, 6]) := rfl
theorem rw_64_49 : mm_code 64 49 = some (.return_, 1, 0, 0, []) := rfl
theorem rw_65_0 : mm_code 65 0 = some (.iconst 0, 1, 0, 0, []) := rfl
theorem rw_65_1 : mm_code 65 1 = some (.iload_n 3, 1, 0, 0, []) := rfl
theorem rw_65_2 : mm_code 65 2 = some (.iconst 1, 1, 1, 0, []) := rfl
theorem rw_65_3 : mm_code 65 3 = some (.isub, 1, 0, 0, []) := rfl
theorem rw_65_4 : mm_code 65 4 = some (.invokestatic 113, 3, 144, 2, [3, 1]) := rfl
theorem rw_65_7 : mm_code 65 7 = some (.l2i, 1, 0, 0, []) := rfl
theorem rw_65_8 : mm_code 65 8 = some (.istore 5, 2, 0, 0, []) := rfl
theorem rw_65_10 : mm_code 65 10 = some (.iconst (-1), 1, 1, 1, []) := rfl
theorem rw_65_11 : mm_code 65 11 = some (.istore 6, 2, 0, 0, []) := rfl
theorem rw_65_13 : mm_code 65 13 = some (.iconst 0, 1, 0, 0, []) := rfl
theorem rw_65_14 : mm_code 65 14 = some (.istore 7, 2, 0, 0, []) := rfl
theorem rw_65_16 : mm_code 65 16 = some (.iload 7, 2, 0, 0, []) := rfl
theorem rw_65_18 : mm_code 65 18 = some (.aload_n 0, 1, 0, 0, []) := rfl
theorem rw_65_19 : mm_code 65 19 = some (.getfield 28, 3, 6, 5, [0, 6]) := rfl
theorem rw_65_22 : mm_code 65 22 = some (.if_icmp .ge 174, 3, 196, 0, []) := rfl
theorem rw_65_25 : mm_code 65 25 = some (.aload_n 0, 1, 0, 0, []) := rfl
theorem rw_65_26 : mm_code 65 26 = some (.getfield 9, 3, 6, 0, [3, 1]) := rfl
theorem rw_65_29 : mm_code 65 29 = some (.iload 7, 2, 0, 0, []) := rfl
theorem rw_65_31 : mm_code 65 31 = some (.iaload, 1, 0, 0, []) := rfl
theorem rw_65_32 : mm_code 65 32 = some (.ifCond .eq 14, 3, 46, 0, []) := rfl
theorem rw_65_35 : mm_code 65 35 = some (.aload_n 0, 1, 0, 0, []) := rfl
theorem rw_65_36 : mm_code 65 36 = some (.getfield 9, 3, 6, 0, [3, 1]) := rfl
theorem rw_65_39 : mm_code 65 39 = some (.iload 7, 2, 0, 0, []) := rfl
theorem rw_65_41 : mm_code 65 41 = some (.iaload, 1, 0, 0, []) := rfl
theorem rw_65_42 : mm_code 65 42 = some (.iconst 1, 1, 1, 0, []) := rfl
theorem rw_65_43 : mm_code 65 43 = some (.if_icmp .ne 41, 3, 84, 0, []) := rfl
theorem rw_65_46 : mm_code 65 46 = some (.iinc 6 1, 3, 1, 0, []) := rfl
theorem rw_65_49 : mm_code 65 49 = some (.aload_n 0, 1, 0, 0, []) := rfl
theorem rw_65_50 : mm_code 65 50 = some (.getfield 21, 3, 6, 3, [3, 4]) := rfl
theorem rw_65_53 : mm_code 65 53 = some (.iload 6, 2, 0, 0, []) := rfl
theorem rw_65_55 : mm_code 65 55 = some (.iload 4, 2, 0, 0, []) := rfl
theorem rw_65_57 : mm_code 65 57 = some (.ifCond .eq 14, 3, 71, 0, []) := rfl
theorem rw_65_60 : mm_code 65 60 = some (.aload_n 0, 1, 0, 0, []) := rfl
theorem rw_65_61 : mm_code 65 61 = some (.aload_n 2, 1, 0, 0, []) := rfl
theorem rw_65_62 : mm_code 65 62 = some (.iload_n 3, 1, 0, 0, []) := rfl
theorem rw_65_63 : mm_code 65 63 = some (.iload 7, 2, 0, 0, []) := rfl
theorem rw_65_65 : mm_code 65 65 = some (.invokevirtual 117, 3, 67, 4, [32, 0]) := rfl
theorem rw_65_68 : mm_code 65 68 = some (.goto 12, 3, 80, 0, []) := rfl
theorem rw_65_71 : mm_code 65 71 = some (.aload_n 0, 1, 0, 0, []) := rfl
theorem rw_65_72 : mm_code 65 72 = some (.aload_n 1, 1, 0, 0, []) := rfl
theorem rw_65_73 : mm_code 65 73 = some (.aload_n 2, 1, 0, 0, []) := rfl
theorem rw_65_74 : mm_code 65 74 = some (.iload_n 3, 1, 0, 0, []) := rfl
theorem rw_65_75 : mm_code 65 75 = some (.iload 7, 2, 0, 0, []) := rfl
theorem rw_65_77 : mm_code 65 77 = some (.invokevirtual 121, 3, 66, 5, [33, 0]) := rfl
theorem rw_65_80 : mm_code 65 80 = some (.iastore, 1, 0, 0, []) := rfl
theorem rw_65_81 : mm_code 65 81 = some (.goto 109, 3, 190, 0, []) := rfl
theorem rw_65_84 : mm_code 65 84 = some (.aload_n 0, 1, 0, 0, []) := rfl
theorem rw_65_85 : mm_code 65 85 = some (.getfield 9, 3, 6, 0, [3, 1]) := rfl
theorem rw_65_88 : mm_code 65 88 = some (.iload 7, 2, 0, 0, []) := rfl
theorem rw_65_90 : mm_code 65 90 = some (.iaload, 1, 0, 0, []) := rfl
theorem rw_65_91 : mm_code 65 91 = some (.iconst 2, 1, 2, 0, []) := rfl
theorem rw_65_92 : mm_code 65 92 = some (.if_icmp .ne 30, 3, 122, 0, []) := rfl
theorem rw_65_95 : mm_code 65 95 = some (.iload 6, 2, 0, 0, []) := rfl
theorem rw_65_97 : mm_code 65 97 = some (.ifCond .lt 25, 3, 122, 0, []) := rfl
theorem rw_65_100 : mm_code 65 100 = some (.aload_n 0, 1, 0, 0, []) := rfl
theorem rw_65_101 : mm_code 65 101 = some (.getfield 21, 3, 6, 3, [3, 4]) := rfl
theorem rw_65_104 : mm_code 65 104 = some (.iload 6, 2, 0, 0, []) := rfl
theorem rw_65_106 : mm_code 65 106 = some (.iload 5, 2, 0, 0, []) := rfl
theorem rw_65_108 : mm_code 65 108 = some (.aload_n 0, 1, 0, 0, []) := rfl
theorem rw_65_109 : mm_code 65 109 = some (.getfield 21, 3, 6, 3, [3, 4]) := rfl
theorem rw_65_112 : mm_code 65 112 = some (.iload 6, 2, 0, 0, []) := rfl
theorem rw_65_114 : mm_code 65 114 = some (.iaload, 1, 0, 0, []) := rfl
theorem rw_65_115 : mm_code 65 115 = some (.iconst (-1), 1, 1, 1, []) := rfl
theorem rw_65_116 : mm_code 65 116 = some (.ixor, 1, 0, 0, []) := rfl
theorem rw_65_117 : mm_code 65 117 = some (.iand, 1, 0, 0, []) := rfl
theorem rw_65_118 : mm_code 65 118 = some (.iastore, 1, 0, 0, []) := rfl
theorem rw_65_119 : mm_code 65 119 = some (.goto 71, 3, 190, 0, []) := rfl
theorem rw_65_122 : mm_code 65 122 = some (.iload 6, 2, 0, 0, []) := rfl
theorem rw_65_124 : mm_code 65 124 = some (.iconst 1, 1, 1, 0, []) := rfl
theorem rw_65_125 : mm_code 65 125 = some (.if_icmp .lt 65, 3, 190, 0, []) := rfl
theorem rw_65_128 : mm_code 65 128 = some (.aload_n 0, 1, 0, 0, []) := rfl
theorem rw_65_129 : mm_code 65 129 = some (.getfield 9, 3, 6, 0, [3, 1]) := rfl
theorem rw_65_132 : mm_code 65 132 = some (.iload 7, 2, 0, 0, []) := rfl
theorem rw_65_134 : mm_code 65 134 = some (.iaload, 1, 0, 0, []) := rfl
theorem rw_65_135 : mm_code 65 135 = some (.iconst 3, 1, 3, 0, []) := rfl
theorem rw_65_136 : mm_code 65 136 = some (.if_icmp .ne 23, 3, 159, 0, []) := rfl
theorem rw_65_139 : mm_code 65 139 = some (.aload_n 0, 1, 0, 0, []) := rfl
theorem rw_65_140 : mm_code 65 140 = some (.getfield 21, 3, 6, 3, [3, 4]) := rfl
theorem rw_65_143 : mm_code 65 143 = some (.iload 6, 2, 0, 0, []) := rfl
theorem rw_65_145 : mm_code 65 145 = some (.iconst 1, 1, 1, 0, []) := rfl
theorem rw_65_146 : mm_code 65 146 = some (.isub, 1, 0, 0, []) := rfl
theorem rw_65_147 : mm_code 65 147 = some (.iaload, 1, 0, 0, []) := rfl
theorem rw_65_148 : mm_code 65 148 = some (.aload_n 0, 1, 0, 0, []) := rfl
theorem rw_65_149 : mm_code 65 149 = some (.getfield 21, 3, 6, 3, [3, 4]) := rfl
theorem rw_65_152 : mm_code 65 152 = some (.iload 6, 2, 0, 0, []) := rfl
theorem rw_65_154 : mm_code 65 154 = some (.iaload, 1, 0, 0, []) := rfl
theorem rw_65_155 : mm_code 65 155 = some (.iand, 1, 0, 0, []) := rfl
theorem rw_65_156 : mm_code 65 156 = some (.goto 20, 3, 176, 0, []) := rfl
theorem rw_65_159 : mm_code 65 159 = some (.aload_n 0, 1, 0, 0, []) := rfl
theorem rw_65_160 : mm_code 65 160 = some (.getfield 21, 3, 6, 3, [3, 4]) := rfl
theorem rw_65_163 : mm_code 65 163 = some (.iload 6, 2, 0, 0, []) := rfl
theorem rw_65_165 : mm_code 65 165 = some (.iconst 1, 1, 1, 0, []) := rfl
theorem rw_65_166 : mm_code 65 166 = some (.isub, 1, 0, 0, []) := rfl
theorem rw_65_167 : mm_code 65 167 = some (.iaload, 1, 0, 0, []) := rfl
theorem rw_65_168 : mm_code 65 168 = some (.aload_n 0, 1, 0, 0, []) := rfl
theorem rw_65_169 : mm_code 65 169 = some (.getfield 21, 3, 6, 3, [3, 4]) := rfl
theorem rw_65_172 : mm_code 65 172 = some (.iload 6, 2, 0, 0, []) := rfl
theorem rw_65_174 : mm_code 65 174 = some (.iaload, 1, 0, 0, []) := rfl
theorem rw_65_175 : mm_code 65 175 = some (.ior, 1, 0, 0, []) := rfl
theorem rw_65_176 : mm_code 65 176 = some (.istore 8, 2, 0, 0, []) := rfl
theorem rw_65_178 : mm_code 65 178 = some (.iinc 6 (-1), 3, 1, 1, []) := rfl
theorem rw_65_181 : mm_code 65 181 = some (.aload_n 0, 1, 0, 0, []) := rfl
theorem rw_65_182 : mm_code 65 182 = some (.getfield 21, 3, 6, 3, [3, 4]) := rfl
theorem rw_65_185 : mm_code 65 185 = some (.iload 6, 2, 0, 0, []) := rfl
theorem rw_65_187 : mm_code 65 187 = some (.iload 8, 2, 0, 0, []) := rfl
theorem rw_65_189 : mm_code 65 189 = some (.iastore, 1, 0, 0, []) := rfl
theorem rw_65_190 : mm_code 65 190 = some (.iinc 7 1, 3, 1, 0, []) := rfl
theorem rw_65_193 : mm_code 65 193 = some (.goto (-177), 3, 16, 0, []) := rfl
theorem rw_65_196 : mm_code 65 196 = some (.iload 6, 2, 0, 0, []) := rfl
theorem rw_65_198 : mm_code 65 198 = some (.ifCond .lt 12, 3, 210, 0, []) := rfl
theorem rw_65_201 : mm_code 65 201 = some (.aload_n 0, 1, 0, 0, []) := rfl
theorem rw_65_202 : mm_code 65 202 = some (.getfield 21, 3, 6, 3, [3, 4]) := rfl
theorem rw_65_205 : mm_code 65 205 = some (.iconst 0, 1, 0, 0, []) := rfl
theorem rw_65_206 : mm_code 65 206 = some (.iaload, 1, 0, 0, []) := rfl
theorem rw_65_207 : mm_code 65 207 = some (.goto 4, 3, 211, 0, []) := rfl
theorem rw_65_210 : mm_code 65 210 = some (.iconst 0, 1, 0, 0, []) := rfl
theorem rw_65_211 : mm_code 65 211 = some (.ireturn, 1, 0, 0, []) := rfl
theorem rw_66_0 : mm_code 66 0 = some (.aload_n 0, 1, 0, 0, []) := rfl
theorem rw_66_1 : mm_code 66 1 = some (.getfield 9, 3, 6, 0, [3, 1]) := rfl
theorem rw_66_4 : mm_code 66 4 = some (.iload 4, 2, 0, 0, []) := rfl
theorem rw_66_6 : mm_code 66 6 = some (.iaload, 1, 0, 0, []) := rfl
theorem rw_66_7 : mm_code 66 7 = some (.iconst 1, 1, 1, 0, []) := rfl
theorem rw_66_8 : mm_code 66 8 = some (.if_icmp .ne 7, 3, 15, 0, []) := rfl
theorem rw_66_11 : mm_code 66 11 = some (.iconst 1, 1, 1, 0, []) := rfl
theorem rw_66_12 : mm_code 66 12 = some (.goto 4, 3, 16, 0, []) := rfl
theorem rw_66_15 : mm_code 66 15 = some (.iconst 0, 1, 0, 0, []) := rfl
theorem rw_66_16 : mm_code 66 16 = some (.istore 5, 2, 0, 0, []) := rfl
theorem rw_66_18 : mm_code 66 18 = some (.iload 5, 2, 0, 0, []) := rfl
theorem rw_66_20 : mm_code 66 20 = some (.ifCond .eq 18, 3, 38, 0, []) := rfl
theorem rw_66_23 : mm_code 66 23 = some (.aload_n 2, 1, 0, 0, []) := rfl
theorem rw_66_24 : mm_code 66 24 = some (.getfield 125, 3, 1, 3, [3, 34]) := rfl
theorem rw_66_27 : mm_code 66 27 = some (.aload_n 0, 1, 0, 0, []) := rfl
theorem rw_66_28 : mm_code 66 28 = some (.getfield 15, 3, 6, 1, [3, 2]) := rfl
theorem rw_66_31 : mm_code 66 31 = some (.iload 4, 2, 0, 0, []) := rfl
theorem rw_66_33 : mm_code 66 33 = some (.iaload, 1, 0, 0, []) := rfl
theorem rw_66_34 : mm_code 66 34 = some (.laload, 1, 0, 0, []) := rfl
theorem rw_66_35 : mm_code 66 35 = some (.goto 21, 3, 56, 0, []) := rfl
theorem rw_66_38 : mm_code 66 38 = some (.aload_n 1, 1, 0, 0, []) := rfl
theorem rw_66_39 : mm_code 66 39 = some (.aload_n 0, 1, 0, 0, []) := rfl
theorem rw_66_40 : mm_code 66 40 = some (.getfield 15, 3, 6, 1, [3, 2]) := rfl
theorem rw_66_43 : mm_code 66 43 = some (.iload 4, 2, 0, 0, []) := rfl
theorem rw_66_45 : mm_code 66 45 = some (.iaload, 1, 0, 0, []) := rfl
theorem rw_66_46 : mm_code 66 46 = some (.aload_n 0, 1, 0, 0, []) := rfl
theorem rw_66_47 : mm_code 66 47 = some (.getfield 18, 3, 6, 2, [3, 3]) := rfl
theorem rw_66_50 : mm_code 66 50 = some (.iload 4, 2, 0, 0, []) := rfl
theorem rw_66_52 : mm_code 66 52 = some (.iaload, 1, 0, 0, []) := rfl
theorem rw_66_53 : mm_code 66 53 = some (.invokevirtual 131, 3, 49, 3, [35, 0]) := rfl
theorem rw_66_56 : mm_code 66 56 = some (.lstore 6, 2, 0, 0, []) := rfl
theorem rw_66_58 : mm_code 66 58 = some (.iconst 0, 1, 0, 0, []) := rfl
theorem rw_66_59 : mm_code 66 59 = some (.istore 8, 2, 0, 0, []) := rfl
theorem rw_66_61 : mm_code 66 61 = some (.iconst 0, 1, 0, 0, []) := rfl
theorem rw_66_62 : mm_code 66 62 = some (.istore 9, 2, 0, 0, []) := rfl
theorem rw_66_64 : mm_code 66 64 = some (.iload 9, 2, 0, 0, []) := rfl
theorem rw_66_66 : mm_code 66 66 = some (.iload_n 3, 1, 0, 0, []) := rfl
theorem rw_66_67 : mm_code 66 67 = some (.if_icmp .ge 29, 3, 96, 0, []) := rfl
theorem rw_66_70 : mm_code 66 70 = some (.aload_n 2, 1, 0, 0, []) := rfl
theorem rw_66_71 : mm_code 66 71 = some (.iload 9, 2, 0, 0, []) := rfl
theorem rw_66_73 : mm_code 66 73 = some (.lload 6, 2, 0, 0, []) := rfl
theorem rw_66_75 : mm_code 66 75 = some (.invokevirtual 134, 3, 14, 3, [36, 0]) := rfl
theorem rw_66_78 : mm_code 66 78 = some (.ifCond .eq 12, 3, 90, 0, []) := rfl
theorem rw_66_81 : mm_code 66 81 = some (.iload 8, 2, 0, 0, []) := rfl
theorem rw_66_83 : mm_code 66 83 = some (.iconst 1, 1, 1, 0, []) := rfl
theorem rw_66_84 : mm_code 66 84 = some (.iload 9, 2, 0, 0, []) := rfl
theorem rw_66_86 : mm_code 66 86 = some (.ishl, 1, 0, 0, []) := rfl
theorem rw_66_87 : mm_code 66 87 = some (.ior, 1, 0, 0, []) := rfl
theorem rw_66_88 : mm_code 66 88 = some (.istore 8, 2, 0, 0, []) := rfl
theorem rw_66_90 : mm_code 66 90 = some (.iinc 9 1, 3, 1, 0, []) := rfl
theorem rw_66_93 : mm_code 66 93 = some (.goto (-29), 3, 64, 0, []) := rfl
theorem rw_66_96 : mm_code 66 96 = some (.iload 8, 2, 0, 0, []) := rfl
theorem rw_66_98 : mm_code 66 98 = some (.ireturn, 1, 0, 0, []) := rfl
theorem rw_67_0 : mm_code 67 0 = some (.aload_n 0, 1, 0, 0, []) := rfl
theorem rw_67_1 : mm_code 67 1 = some (.getfield 9, 3, 6, 0, [3, 1]) := rfl
theorem rw_67_4 : mm_code 67 4 = some (.iload_n 3, 1, 0, 0, []) := rfl
theorem rw_67_5 : mm_code 67 5 = some (.iaload, 1, 0, 0, []) := rfl
theorem rw_67_6 : mm_code 67 6 = some (.iconst 1, 1, 1, 0, []) := rfl
theorem rw_67_7 : mm_code 67 7 = some (.if_icmp .ne 7, 3, 14, 0, []) := rfl
theorem rw_67_10 : mm_code 67 10 = some (.iconst 1, 1, 1, 0, []) := rfl
theorem rw_67_11 : mm_code 67 11 = some (.goto 4, 3, 15, 0, []) := rfl
theorem rw_67_14 : mm_code 67 14 = some (.iconst 0, 1, 0, 0, []) := rfl
theorem rw_67_15 : mm_code 67 15 = some (.istore 4, 2, 0, 0, []) := rfl
theorem rw_67_17 : mm_code 67 17 = some (.iconst 0, 1, 0, 0, []) := rfl
theorem rw_67_18 : mm_code 67 18 = some (.istore 5, 2, 0, 0, []) := rfl
theorem rw_67_20 : mm_code 67 20 = some (.iconst 0, 1, 0, 0, []) := rfl
theorem rw_67_21 : mm_code 67 21 = some (.istore 6, 2, 0, 0, []) := rfl
theorem rw_67_23 : mm_code 67 23 = some (.iload 6, 2, 0, 0, []) := rfl
theorem rw_67_25 : mm_code 67 25 = some (.iload_n 2, 1, 0, 0, []) := rfl
theorem rw_67_26 : mm_code 67 26 = some (.if_icmp .ge 71, 3, 97, 0, []) := rfl
theorem rw_67_29 : mm_code 67 29 = some (.iload 4, 2, 0, 0, []) := rfl
theorem rw_67_31 : mm_code 67 31 = some (.ifCond .eq 18, 3, 49, 0, []) := rfl
theorem rw_67_34 : mm_code 67 34 = some (.aload_n 1, 1, 0, 0, []) := rfl
theorem rw_67_35 : mm_code 67 35 = some (.iload 6, 2, 0, 0, []) := rfl
theorem rw_67_37 : mm_code 67 37 = some (.aload_n 0, 1, 0, 0, []) := rfl
theorem rw_67_38 : mm_code 67 38 = some (.getfield 15, 3, 6, 1, [3, 2]) := rfl
theorem rw_67_41 : mm_code 67 41 = some (.iload_n 3, 1, 0, 0, []) := rfl
theorem rw_67_42 : mm_code 67 42 = some (.iaload, 1, 0, 0, []) := rfl
theorem rw_67_43 : mm_code 67 43 = some (.invokevirtual 138, 3, 13, 3, [37, 0]) := rfl
theorem rw_67_46 : mm_code 67 46 = some (.goto 29, 3, 75, 0, []) := rfl
theorem rw_67_49 : mm_code 67 49 = some (.aload_n 1, 1, 0, 0, []) := rfl
theorem rw_67_50 : mm_code 67 50 = some (.iload 6, 2, 0, 0, []) := rfl
theorem rw_67_52 : mm_code 67 52 = some (.aload_n 0, 1, 0, 0, []) := rfl
theorem rw_67_53 : mm_code 67 53 = some (.getfield 15, 3, 6, 1, [3, 2]) := rfl
theorem rw_67_56 : mm_code 67 56 = some (.iload_n 3, 1, 0, 0, []) := rfl
theorem rw_67_57 : mm_code 67 57 = some (.iaload, 1, 0, 0, []) := rfl
theorem rw_67_58 : mm_code 67 58 = some (.invokevirtual 141, 3, 12, 3, [38, 0]) := rfl
theorem rw_67_61 : mm_code 67 61 = some (.aload_n 0, 1, 0, 0, []) := rfl
theorem rw_67_62 : mm_code 67 62 = some (.getfield 18, 3, 6, 2, [3, 3]) := rfl
theorem rw_67_65 : mm_code 67 65 = some (.iload_n 3, 1, 0, 0, []) := rfl
theorem rw_67_66 : mm_code 67 66 = some (.iaload, 1, 0, 0, []) := rfl
theorem rw_67_67 : mm_code 67 67 = some (.if_icmp .ne 7, 3, 74, 0, []) := rfl
theorem rw_67_70 : mm_code 67 70 = some (.iconst 1, 1, 1, 0, []) := rfl
theorem rw_67_71 : mm_code 67 71 = some (.goto 4, 3, 75, 0, []) := rfl
theorem rw_67_74 : mm_code 67 74 = some (.iconst 0, 1, 0, 0, []) := rfl
theorem rw_67_75 : mm_code 67 75 = some (.istore 7, 2, 0, 0, []) := rfl
theorem rw_67_77 : mm_code 67 77 = some (.iload 7, 2, 0, 0, []) := rfl
theorem rw_67_79 : mm_code 67 79 = some (.ifCond .eq 12, 3, 91, 0, []) := rfl
theorem rw_67_82 : mm_code 67 82 = some (.iload 5, 2, 0, 0, []) := rfl
theorem rw_67_84 : mm_code 67 84 = some (.iconst 1, 1, 1, 0, []) := rfl
theorem rw_67_85 : mm_code 67 85 = some (.iload 6, 2, 0, 0, []) := rfl
theorem rw_67_87 : mm_code 67 87 = some (.ishl, 1, 0, 0, []) := rfl
theorem rw_67_88 : mm_code 67 88 = some (.ior, 1, 0, 0, []) := rfl
theorem rw_67_89 : mm_code 67 89 = some (.istore 5, 2, 0, 0, []) := rfl
theorem rw_67_91 : mm_code 67 91 = some (.iinc 6 1, 3, 1, 0, []) := rfl
theorem rw_67_94 : mm_code 67 94 = some (.goto (-71), 3, 23, 0, []) := rfl
theorem rw_67_97 : mm_code 67 97 = some (.iload 5, 2, 0, 0, []) := rfl
theorem rw_67_99 : mm_code 67 99 = some (.ireturn, 1, 0, 0, []) := rfl
theorem rw_69_0 : mm_code 69 0 = some (.aload_n 0, 1, 0, 0, []) := rfl
theorem rw_69_1 : mm_code 69 1 = some (.aload_n 1, 1, 0, 0, []) := rfl
theorem rw_69_2 : mm_code 69 2 = some (.getfield 30, 3, 4, 1, [3, 7]) := rfl
theorem rw_69_5 : mm_code 69 5 = some (.iload_n 2, 1, 0, 0, []) := rfl
theorem rw_69_6 : mm_code 69 6 = some (.iaload, 1, 0, 0, []) := rfl
theorem rw_69_7 : mm_code 69 7 = some (.putfield 35, 3, 7, 0, [0, 8]) := rfl
theorem rw_69_10 : mm_code 69 10 = some (.aload_n 0, 1, 0, 0, []) := rfl
theorem rw_69_11 : mm_code 69 11 = some (.aload_n 3, 1, 0, 0, []) := rfl
theorem rw_69_12 : mm_code 69 12 = some (.iload 5, 2, 0, 0, []) := rfl
theorem rw_69_14 : mm_code 69 14 = some (.invokevirtual 39, 3, 47, 2, [9, 0]) := rfl
theorem rw_69_17 : mm_code 69 17 = some (.bipush 6, 2, 6, 0, []) := rfl
theorem rw_69_19 : mm_code 69 19 = some (.invokestatic 45, 3, 996, 2, [10, 0]) := rfl
theorem rw_69_22 : mm_code 69 22 = some (.putfield 51, 3, 7, 1, [0, 11]) := rfl
theorem rw_69_25 : mm_code 69 25 = some (.iconst 0, 1, 0, 0, []) := rfl
theorem rw_69_26 : mm_code 69 26 = some (.istore 6, 2, 0, 0, []) := rfl
theorem rw_69_28 : mm_code 69 28 = some (.iload 6, 2, 0, 0, []) := rfl
theorem rw_69_30 : mm_code 69 30 = some (.aload_n 0, 1, 0, 0, []) := rfl
theorem rw_69_31 : mm_code 69 31 = some (.getfield 35, 3, 7, 0, [0, 8]) := rfl
theorem rw_69_34 : mm_code 69 34 = some (.if_icmp .ge 68, 3, 102, 0, []) := rfl
theorem rw_69_37 : mm_code 69 37 = some (.aload_n 1, 1, 0, 0, []) := rfl
theorem rw_69_38 : mm_code 69 38 = some (.getfield 53, 3, 4, 0, [3, 12]) := rfl
theorem rw_69_41 : mm_code 69 41 = some (.iload_n 2, 1, 0, 0, []) := rfl
theorem rw_69_42 : mm_code 69 42 = some (.aaload, 1, 0, 0, []) := rfl
theorem rw_69_43 : mm_code 69 43 = some (.iload 6, 2, 0, 0, []) := rfl
theorem rw_69_45 : mm_code 69 45 = some (.iaload, 1, 0, 0, []) := rfl
theorem rw_69_46 : mm_code 69 46 = some (.istore 7, 2, 0, 0, []) := rfl
theorem rw_69_48 : mm_code 69 48 = some (.aload_n 0, 1, 0, 0, []) := rfl
theorem rw_69_49 : mm_code 69 49 = some (.getfield 9, 3, 7, 2, [3, 1]) := rfl
theorem rw_69_52 : mm_code 69 52 = some (.iload 6, 2, 0, 0, []) := rfl
theorem rw_69_54 : mm_code 69 54 = some (.aload 4, 2, 0, 0, []) := rfl
theorem rw_69_56 : mm_code 69 56 = some (.iload 7, 2, 0, 0, []) := rfl
theorem rw_69_58 : mm_code 69 58 = some (.iload 5, 2, 0, 0, []) := rfl
theorem rw_69_60 : mm_code 69 60 = some (.invokevirtual 57, 3, 12, 3, [13, 0]) := rfl
theorem rw_69_63 : mm_code 69 63 = some (.iastore, 1, 0, 0, []) := rfl
theorem rw_69_64 : mm_code 69 64 = some (.aload_n 0, 1, 0, 0, []) := rfl
theorem rw_69_65 : mm_code 69 65 = some (.getfield 15, 3, 7, 3, [3, 2]) := rfl
theorem rw_69_68 : mm_code 69 68 = some (.iload 6, 2, 0, 0, []) := rfl
theorem rw_69_70 : mm_code 69 70 = some (.aload_n 1, 1, 0, 0, []) := rfl
theorem rw_69_71 : mm_code 69 71 = some (.getfield 62, 3, 4, 3, [3, 14]) := rfl
theorem rw_69_74 : mm_code 69 74 = some (.iload 7, 2, 0, 0, []) := rfl
theorem rw_69_76 : mm_code 69 76 = some (.laload, 1, 0, 0, []) := rfl
theorem rw_69_77 : mm_code 69 77 = some (.aload_n 3, 1, 0, 0, []) := rfl
theorem rw_69_78 : mm_code 69 78 = some (.getfield 66, 3, 5, 7, [3, 15]) := rfl
theorem rw_69_81 : mm_code 69 81 = some (.iload 5, 2, 0, 0, []) := rfl
theorem rw_69_83 : mm_code 69 83 = some (.iaload, 1, 0, 0, []) := rfl
theorem rw_69_84 : mm_code 69 84 = some (.lshr, 1, 0, 0, []) := rfl
theorem rw_69_85 : mm_code 69 85 = some (.l2i, 1, 0, 0, []) := rfl
theorem rw_69_86 : mm_code 69 86 = some (.iconst 1, 1, 1, 0, []) := rfl
theorem rw_69_87 : mm_code 69 87 = some (.aload_n 0, 1, 0, 0, []) := rfl
theorem rw_69_88 : mm_code 69 88 = some (.getfield 51, 3, 7, 1, [0, 11]) := rfl
theorem rw_69_91 : mm_code 69 91 = some (.ishl, 1, 0, 0, []) := rfl
theorem rw_69_92 : mm_code 69 92 = some (.iconst 1, 1, 1, 0, []) := rfl
theorem rw_69_93 : mm_code 69 93 = some (.isub, 1, 0, 0, []) := rfl
theorem rw_69_94 : mm_code 69 94 = some (.iand, 1, 0, 0, []) := rfl
theorem rw_69_95 : mm_code 69 95 = some (.iastore, 1, 0, 0, []) := rfl
theorem rw_69_96 : mm_code 69 96 = some (.iinc 6 1, 3, 1, 0, []) := rfl
theorem rw_69_99 : mm_code 69 99 = some (.goto (-71), 3, 28, 0, []) := rfl
theorem rw_69_102 : mm_code 69 102 = some (.return_, 1, 0, 0, []) := rfl
theorem rw_70_0 : mm_code 70 0 = some (.iconst 0, 1, 0, 0, []) := rfl
theorem rw_70_1 : mm_code 70 1 = some (.istore_n 1, 1, 0, 0, []) := rfl
theorem rw_70_2 : mm_code 70 2 = some (.iconst 0, 1, 0, 0, []) := rfl
theorem rw_70_3 : mm_code 70 3 = some (.istore_n 2, 1, 0, 0, []) := rfl
theorem rw_70_4 : mm_code 70 4 = some (.iload_n 2, 1, 0, 0, []) := rfl
theorem rw_70_5 : mm_code 70 5 = some (.aload_n 0, 1, 0, 0, []) := rfl
theorem rw_70_6 : mm_code 70 6 = some (.getfield 35, 3, 7, 0, [0, 8]) := rfl
theorem rw_70_9 : mm_code 70 9 = some (.if_icmp .ge 78, 3, 87, 0, []) := rfl
theorem rw_70_12 : mm_code 70 12 = some (.aload_n 0, 1, 0, 0, []) := rfl
theorem rw_70_13 : mm_code 70 13 = some (.getfield 18, 3, 7, 4, [3, 3]) := rfl
theorem rw_70_16 : mm_code 70 16 = some (.iload_n 2, 1, 0, 0, []) := rfl
theorem rw_70_17 : mm_code 70 17 = some (.iconst 1, 1, 1, 0, []) := rfl
theorem rw_70_18 : mm_code 70 18 = some (.iastore, 1, 0, 0, []) := rfl
theorem rw_70_19 : mm_code 70 19 = some (.iconst 0, 1, 0, 0, []) := rfl
theorem rw_70_20 : mm_code 70 20 = some (.istore_n 3, 1, 0, 0, []) := rfl
theorem rw_70_21 : mm_code 70 21 = some (.iload_n 3, 1, 0, 0, []) := rfl
theorem rw_70_22 : mm_code 70 22 = some (.iload_n 2, 1, 0, 0, []) := rfl
theorem rw_70_23 : mm_code 70 23 = some (.if_icmp .ge 47, 3, 70, 0, []) := rfl
theorem rw_70_26 : mm_code 70 26 = some (.aload_n 0, 1, 0, 0, []) := rfl
theorem rw_70_27 : mm_code 70 27 = some (.getfield 9, 3, 7, 2, [3, 1]) := rfl
theorem rw_70_30 : mm_code 70 30 = some (.iload_n 3, 1, 0, 0, []) := rfl
theorem rw_70_31 : mm_code 70 31 = some (.iaload, 1, 0, 0, []) := rfl
theorem rw_70_32 : mm_code 70 32 = some (.aload_n 0, 1, 0, 0, []) := rfl
theorem rw_70_33 : mm_code 70 33 = some (.getfield 9, 3, 7, 2, [3, 1]) := rfl
theorem rw_70_36 : mm_code 70 36 = some (.iload_n 2, 1, 0, 0, []) := rfl
theorem rw_70_37 : mm_code 70 37 = some (.iaload, 1, 0, 0, []) := rfl
theorem rw_70_38 : mm_code 70 38 = some (.if_icmp .gt 26, 3, 64, 0, []) := rfl
theorem rw_70_41 : mm_code 70 41 = some (.aload_n 0, 1, 0, 0, []) := rfl
theorem rw_70_42 : mm_code 70 42 = some (.getfield 18, 3, 7, 4, [3, 3]) := rfl
theorem rw_70_45 : mm_code 70 45 = some (.iload_n 2, 1, 0, 0, []) := rfl
theorem rw_70_46 : mm_code 70 46 = some (.aload_n 0, 1, 0, 0, []) := rfl
theorem rw_70_47 : mm_code 70 47 = some (.getfield 18, 3, 7, 4, [3, 3]) := rfl
theorem rw_70_50 : mm_code 70 50 = some (.iload_n 2, 1, 0, 0, []) := rfl
theorem rw_70_51 : mm_code 70 51 = some (.iaload, 1, 0, 0, []) := rfl
theorem rw_70_52 : mm_code 70 52 = some (.aload_n 0, 1, 0, 0, []) := rfl
theorem rw_70_53 : mm_code 70 53 = some (.getfield 18, 3, 7, 4, [3, 3]) := rfl
theorem rw_70_56 : mm_code 70 56 = some (.iload_n 3, 1, 0, 0, []) := rfl
theorem rw_70_57 : mm_code 70 57 = some (.iaload, 1, 0, 0, []) := rfl
theorem rw_70_58 : mm_code 70 58 = some (.iconst 1, 1, 1, 0, []) := rfl
theorem rw_70_59 : mm_code 70 59 = some (.iadd, 1, 0, 0, []) := rfl
theorem rw_70_60 : mm_code 70 60 = some (.invokestatic 69, 3, 997, 2, [16, 0]) := rfl
theorem rw_70_63 : mm_code 70 63 = some (.iastore, 1, 0, 0, []) := rfl
theorem rw_70_64 : mm_code 70 64 = some (.iinc 3 1, 3, 1, 0, []) := rfl
theorem rw_70_67 : mm_code 70 67 = some (.goto (-46), 3, 21, 0, []) := rfl
theorem rw_70_70 : mm_code 70 70 = some (.iload_n 1, 1, 0, 0, []) := rfl
theorem rw_70_71 : mm_code 70 71 = some (.aload_n 0, 1, 0, 0, []) := rfl
theorem rw_70_72 : mm_code 70 72 = some (.getfield 18, 3, 7, 4, [3, 3]) := rfl
theorem rw_70_75 : mm_code 70 75 = some (.iload_n 2, 1, 0, 0, []) := rfl
theorem rw_70_76 : mm_code 70 76 = some (.iaload, 1, 0, 0, []) := rfl
theorem rw_70_77 : mm_code 70 77 = some (.invokestatic 69, 3, 997, 2, [16, 0]) := rfl
theorem rw_70_80 : mm_code 70 80 = some (.istore_n 1, 1, 0, 0, []) := rfl
theorem rw_70_81 : mm_code 70 81 = some (.iinc 2 1, 3, 1, 0, []) := rfl
theorem rw_70_84 : mm_code 70 84 = some (.goto (-80), 3, 4, 0, []) := rfl
theorem rw_70_87 : mm_code 70 87 = some (.aload_n 0, 1, 0, 0, []) := rfl
theorem rw_70_88 : mm_code 70 88 = some (.getfield 35, 3, 7, 0, [0, 8]) := rfl
theorem rw_70_91 : mm_code 70 91 = some (.iload_n 1, 1, 0, 0, []) := rfl
theorem rw_70_92 : mm_code 70 92 = some (.isub, 1, 0, 0, []) := rfl
theorem rw_70_93 : mm_code 70 93 = some (.ireturn, 1, 0, 0, []) := rfl
theorem rw_71_0 : mm_code 71 0 = some (.aload_n 0, 1, 0, 0, []) := rfl
theorem rw_71_1 : mm_code 71 1 = some (.iconst (-1), 1, 1, 1, []) := rfl
theorem rw_71_2 : mm_code 71 2 = some (.putfield 72, 3, 7, 8, [0, 17]) := rfl
theorem rw_71_5 : mm_code 71 5 = some (.aload_n 0, 1, 0, 0, []) := rfl
theorem rw_71_6 : mm_code 71 6 = some (.getfield 21, 3, 7, 5, [3, 4]) := rfl
theorem rw_71_9 : mm_code 71 9 = some (.iconst 0, 1, 0, 0, []) := rfl
theorem rw_71_10 : mm_code 71 10 = some (.iconst 0, 1, 0, 0, []) := rfl
theorem rw_71_11 : mm_code 71 11 = some (.iastore, 1, 0, 0, []) := rfl
theorem rw_71_12 : mm_code 71 12 = some (.iconst 0, 1, 0, 0, []) := rfl
theorem rw_71_13 : mm_code 71 13 = some (.istore_n 1, 1, 0, 0, []) := rfl
theorem rw_71_14 : mm_code 71 14 = some (.iload_n 1, 1, 0, 0, []) := rfl
theorem rw_71_15 : mm_code 71 15 = some (.iconst 1, 1, 1, 0, []) := rfl
theorem rw_71_16 : mm_code 71 16 = some (.aload_n 0, 1, 0, 0, []) := rfl
theorem rw_71_17 : mm_code 71 17 = some (.getfield 51, 3, 7, 1, [0, 11]) := rfl
theorem rw_71_20 : mm_code 71 20 = some (.ishl, 1, 0, 0, []) := rfl
theorem rw_71_21 : mm_code 71 21 = some (.if_icmp .ge 109, 3, 130, 0, []) := rfl
theorem rw_71_24 : mm_code 71 24 = some (.iload_n 1, 1, 0, 0, []) := rfl
theorem rw_71_25 : mm_code 71 25 = some (.ifCond .le 14, 3, 39, 0, []) := rfl
theorem rw_71_28 : mm_code 71 28 = some (.aload_n 0, 1, 0, 0, []) := rfl
theorem rw_71_29 : mm_code 71 29 = some (.getfield 21, 3, 7, 5, [3, 4]) := rfl
theorem rw_71_32 : mm_code 71 32 = some (.iload_n 1, 1, 0, 0, []) := rfl
theorem rw_71_33 : mm_code 71 33 = some (.aload_n 0, 1, 0, 0, []) := rfl
theorem rw_71_34 : mm_code 71 34 = some (.iload_n 1, 1, 0, 0, []) := rfl
theorem rw_71_35 : mm_code 71 35 = some (.invokevirtual 75, 3, 72, 2, [18, 0]) := rfl
theorem rw_71_38 : mm_code 71 38 = some (.iastore, 1, 0, 0, []) := rfl
theorem rw_71_39 : mm_code 71 39 = some (.iload_n 1, 1, 0, 0, []) := rfl
theorem rw_71_40 : mm_code 71 40 = some (.invokestatic 78, 3, 246, 1, [19, 0]) := rfl
theorem rw_71_43 : mm_code 71 43 = some (.istore_n 2, 1, 0, 0, []) := rfl
theorem rw_71_44 : mm_code 71 44 = some (.aload_n 0, 1, 0, 0, []) := rfl
theorem rw_71_45 : mm_code 71 45 = some (.getfield 72, 3, 7, 8, [0, 17]) := rfl
theorem rw_71_48 : mm_code 71 48 = some (.iconst (-1), 1, 1, 1, []) := rfl
theorem rw_71_49 : mm_code 71 49 = some (.if_icmp .eq 32, 3, 81, 0, []) := rfl
theorem rw_71_52 : mm_code 71 52 = some (.iload_n 2, 1, 0, 0, []) := rfl
theorem rw_71_53 : mm_code 71 53 = some (.aload_n 0, 1, 0, 0, []) := rfl
theorem rw_71_54 : mm_code 71 54 = some (.getfield 72, 3, 7, 8, [0, 17]) := rfl
end
section
theorem rw_71_57 : mm_code 71 57 = some (.if_icmp .lt 24, 3, 81, 0, []) := rfl
theorem rw_71_60 : mm_code 71 60 = some (.iload_n 2, 1, 0, 0, []) := rfl
theorem rw_71_61 : mm_code 71 61 = some (.aload_n 0, 1, 0, 0, []) := rfl
theorem rw_71_62 : mm_code 71 62 = some (.getfield 72, 3, 7, 8, [0, 17]) := rfl
theorem rw_71_65 : mm_code 71 65 = some (.if_icmp .ne 20, 3, 85, 0, []) := rfl
theorem rw_71_68 : mm_code 71 68 = some (.aload_n 0, 1, 0, 0, []) := rfl
theorem rw_71_69 : mm_code 71 69 = some (.getfield 21, 3, 7, 5, [3, 4]) := rfl
theorem rw_71_72 : mm_code 71 72 = some (.iload_n 1, 1, 0, 0, []) := rfl
theorem rw_71_73 : mm_code 71 73 = some (.iaload, 1, 0, 0, []) := rfl
theorem rw_71_74 : mm_code 71 74 = some (.aload_n 0, 1, 0, 0, []) := rfl
theorem rw_71_75 : mm_code 71 75 = some (.getfield 83, 3, 7, 9, [0, 20]) := rfl
theorem rw_71_78 : mm_code 71 78 = some (.if_icmp .ge 7, 3, 85, 0, []) := rfl
theorem rw_71_81 : mm_code 71 81 = some (.iconst 1, 1, 1, 0, []) := rfl
theorem rw_71_82 : mm_code 71 82 = some (.goto 4, 3, 86, 0, []) := rfl
theorem rw_71_85 : mm_code 71 85 = some (.iconst 0, 1, 0, 0, []) := rfl
theorem rw_71_86 : mm_code 71 86 = some (.istore_n 3, 1, 0, 0, []) := rfl
theorem rw_71_87 : mm_code 71 87 = some (.aload_n 0, 1, 0, 0, []) := rfl
theorem rw_71_88 : mm_code 71 88 = some (.getfield 21, 3, 7, 5, [3, 4]) := rfl
theorem rw_71_91 : mm_code 71 91 = some (.iload_n 1, 1, 0, 0, []) := rfl
theorem rw_71_92 : mm_code 71 92 = some (.iaload, 1, 0, 0, []) := rfl
theorem rw_71_93 : mm_code 71 93 = some (.iconst (-1), 1, 1, 1, []) := rfl
theorem rw_71_94 : mm_code 71 94 = some (.if_icmp .eq 30, 3, 124, 0, []) := rfl
theorem rw_71_97 : mm_code 71 97 = some (.iload_n 3, 1, 0, 0, []) := rfl
theorem rw_71_98 : mm_code 71 98 = some (.ifCond .eq 26, 3, 124, 0, []) := rfl
theorem rw_71_101 : mm_code 71 101 = some (.aload_n 0, 1, 0, 0, []) := rfl
theorem rw_71_102 : mm_code 71 102 = some (.iload_n 1, 1, 0, 0, []) := rfl
theorem rw_71_103 : mm_code 71 103 = some (.invokevirtual 86, 3, 74, 2, [21, 0]) := rfl
theorem rw_71_106 : mm_code 71 106 = some (.ifCond .eq 18, 3, 124, 0, []) := rfl
theorem rw_71_109 : mm_code 71 109 = some (.aload_n 0, 1, 0, 0, []) := rfl
theorem rw_71_110 : mm_code 71 110 = some (.iload_n 2, 1, 0, 0, []) := rfl
theorem rw_71_111 : mm_code 71 111 = some (.putfield 72, 3, 7, 8, [0, 17]) := rfl
theorem rw_71_114 : mm_code 71 114 = some (.aload_n 0, 1, 0, 0, []) := rfl
theorem rw_71_115 : mm_code 71 115 = some (.aload_n 0, 1, 0, 0, []) := rfl
theorem rw_71_116 : mm_code 71 116 = some (.getfield 21, 3, 7, 5, [3, 4]) := rfl
theorem rw_71_119 : mm_code 71 119 = some (.iload_n 1, 1, 0, 0, []) := rfl
theorem rw_71_120 : mm_code 71 120 = some (.iaload, 1, 0, 0, []) := rfl
theorem rw_71_121 : mm_code 71 121 = some (.putfield 83, 3, 7, 9, [0, 20]) := rfl
theorem rw_71_124 : mm_code 71 124 = some (.iinc 1 1, 3, 1, 0, []) := rfl
theorem rw_71_127 : mm_code 71 127 = some (.goto (-113), 3, 14, 0, []) := rfl
theorem rw_71_130 : mm_code 71 130 = some (.aload_n 0, 1, 0, 0, []) := rfl
theorem rw_71_131 : mm_code 71 131 = some (.getfield 72, 3, 7, 8, [0, 17]) := rfl
theorem rw_71_134 : mm_code 71 134 = some (.iconst (-1), 1, 1, 1, []) := rfl
theorem rw_71_135 : mm_code 71 135 = some (.if_icmp .eq 7, 3, 142, 0, []) := rfl
theorem rw_71_138 : mm_code 71 138 = some (.iconst 1, 1, 1, 0, []) := rfl
theorem rw_71_139 : mm_code 71 139 = some (.goto 4, 3, 143, 0, []) := rfl
theorem rw_71_142 : mm_code 71 142 = some (.iconst 0, 1, 0, 0, []) := rfl
theorem rw_71_143 : mm_code 71 143 = some (.ireturn, 1, 1, 0, []) := rfl
theorem rw_72_0 : mm_code 72 0 = some (.iload_n 1, 1, 0, 0, []) := rfl
theorem rw_72_1 : mm_code 72 1 = some (.invokestatic 78, 3, 246, 1, [19, 0]) := rfl
theorem rw_72_4 : mm_code 72 4 = some (.iconst 1, 1, 1, 0, []) := rfl
theorem rw_72_5 : mm_code 72 5 = some (.isub, 1, 0, 0, []) := rfl
theorem rw_72_6 : mm_code 72 6 = some (.istore_n 2, 1, 0, 0, []) := rfl
theorem rw_72_7 : mm_code 72 7 = some (.iconst 0, 1, 0, 0, []) := rfl
theorem rw_72_8 : mm_code 72 8 = some (.istore_n 3, 1, 0, 0, []) := rfl
theorem rw_72_9 : mm_code 72 9 = some (.iload_n 3, 1, 0, 0, []) := rfl
theorem rw_72_10 : mm_code 72 10 = some (.aload_n 0, 1, 0, 0, []) := rfl
theorem rw_72_11 : mm_code 72 11 = some (.getfield 51, 3, 7, 1, [0, 11]) := rfl
theorem rw_72_14 : mm_code 72 14 = some (.if_icmp .ge 59, 3, 73, 0, []) := rfl
theorem rw_72_17 : mm_code 72 17 = some (.iload_n 1, 1, 0, 0, []) := rfl
theorem rw_72_18 : mm_code 72 18 = some (.iconst 1, 1, 1, 0, []) := rfl
theorem rw_72_19 : mm_code 72 19 = some (.iload_n 3, 1, 0, 0, []) := rfl
theorem rw_72_20 : mm_code 72 20 = some (.ishl, 1, 0, 0, []) := rfl
theorem rw_72_21 : mm_code 72 21 = some (.iconst (-1), 1, 1, 1, []) := rfl
theorem rw_72_22 : mm_code 72 22 = some (.ixor, 1, 0, 0, []) := rfl
theorem rw_72_23 : mm_code 72 23 = some (.iand, 1, 0, 0, []) := rfl
theorem rw_72_24 : mm_code 72 24 = some (.istore 4, 2, 0, 0, []) := rfl
theorem rw_72_26 : mm_code 72 26 = some (.iload 4, 2, 0, 0, []) := rfl
theorem rw_72_28 : mm_code 72 28 = some (.iload_n 1, 1, 0, 0, []) := rfl
theorem rw_72_29 : mm_code 72 29 = some (.if_icmp .eq 38, 3, 67, 0, []) := rfl
theorem rw_72_32 : mm_code 72 32 = some (.aload_n 0, 1, 0, 0, []) := rfl
theorem rw_72_33 : mm_code 72 33 = some (.getfield 21, 3, 7, 5, [3, 4]) := rfl
theorem rw_72_36 : mm_code 72 36 = some (.iload 4, 2, 0, 0, []) := rfl
theorem rw_72_38 : mm_code 72 38 = some (.iaload, 1, 0, 0, []) := rfl
theorem rw_72_39 : mm_code 72 39 = some (.iconst (-1), 1, 1, 1, []) := rfl
theorem rw_72_40 : mm_code 72 40 = some (.if_icmp .eq 27, 3, 67, 0, []) := rfl
theorem rw_72_43 : mm_code 72 43 = some (.aload_n 0, 1, 0, 0, []) := rfl
theorem rw_72_44 : mm_code 72 44 = some (.iload 4, 2, 0, 0, []) := rfl
theorem rw_72_46 : mm_code 72 46 = some (.iload_n 3, 1, 0, 0, []) := rfl
theorem rw_72_47 : mm_code 72 47 = some (.invokevirtual 90, 3, 73, 3, [22, 0]) := rfl
theorem rw_72_50 : mm_code 72 50 = some (.ifCond .eq 17, 3, 67, 0, []) := rfl
theorem rw_72_53 : mm_code 72 53 = some (.iload_n 3, 1, 0, 0, []) := rfl
theorem rw_72_54 : mm_code 72 54 = some (.iconst 3, 1, 3, 0, []) := rfl
theorem rw_72_55 : mm_code 72 55 = some (.iload_n 2, 1, 0, 0, []) := rfl
theorem rw_72_56 : mm_code 72 56 = some (.imul, 1, 0, 0, []) := rfl
theorem rw_72_57 : mm_code 72 57 = some (.ishl, 1, 0, 0, []) := rfl
theorem rw_72_58 : mm_code 72 58 = some (.aload_n 0, 1, 0, 0, []) := rfl
theorem rw_72_59 : mm_code 72 59 = some (.getfield 21, 3, 7, 5, [3, 4]) := rfl
theorem rw_72_62 : mm_code 72 62 = some (.iload 4, 2, 0, 0, []) := rfl
theorem rw_72_64 : mm_code 72 64 = some (.iaload, 1, 0, 0, []) := rfl
theorem rw_72_65 : mm_code 72 65 = some (.ior, 1, 0, 0, []) := rfl
theorem rw_72_66 : mm_code 72 66 = some (.ireturn, 1, 0, 0, []) := rfl
theorem rw_72_67 : mm_code 72 67 = some (.iinc 3 1, 3, 1, 0, []) := rfl
theorem rw_72_70 : mm_code 72 70 = some (.goto (-61), 3, 9, 0, []) := rfl
theorem rw_72_73 : mm_code 72 73 = some (.iconst (-1), 1, 1, 1, []) := rfl
theorem rw_72_74 : mm_code 72 74 = some (.ireturn, 1, 0, 0, []) := rfl
theorem rw_73_0 : mm_code 73 0 = some (.iconst 0, 1, 0, 0, []) := rfl
theorem rw_73_1 : mm_code 73 1 = some (.istore_n 3, 1, 0, 0, []) := rfl
theorem rw_73_2 : mm_code 73 2 = some (.iload_n 3, 1, 0, 0, []) := rfl
theorem rw_73_3 : mm_code 73 3 = some (.aload_n 0, 1, 0, 0, []) := rfl
theorem rw_73_4 : mm_code 73 4 = some (.getfield 35, 3, 7, 0, [0, 8]) := rfl
theorem rw_73_7 : mm_code 73 7 = some (.if_icmp .ge 39, 3, 46, 0, []) := rfl
theorem rw_73_10 : mm_code 73 10 = some (.aload_n 0, 1, 0, 0, []) := rfl
theorem rw_73_11 : mm_code 73 11 = some (.getfield 24, 3, 7, 6, [3, 5]) := rfl
theorem rw_73_14 : mm_code 73 14 = some (.aload_n 0, 1, 0, 0, []) := rfl
theorem rw_73_15 : mm_code 73 15 = some (.getfield 15, 3, 7, 3, [3, 2]) := rfl
theorem rw_73_18 : mm_code 73 18 = some (.iload_n 3, 1, 0, 0, []) := rfl
theorem rw_73_19 : mm_code 73 19 = some (.iaload, 1, 0, 0, []) := rfl
theorem rw_73_20 : mm_code 73 20 = some (.iload_n 1, 1, 0, 0, []) := rfl
theorem rw_73_21 : mm_code 73 21 = some (.iand, 1, 0, 0, []) := rfl
theorem rw_73_22 : mm_code 73 22 = some (.bipush (-2), 2, 2, 1, []) := rfl
theorem rw_73_24 : mm_code 73 24 = some (.iastore, 1, 0, 0, []) := rfl
theorem rw_73_25 : mm_code 73 25 = some (.aload_n 0, 1, 0, 0, []) := rfl
theorem rw_73_26 : mm_code 73 26 = some (.getfield 27, 3, 7, 7, [3, 6]) := rfl
theorem rw_73_29 : mm_code 73 29 = some (.aload_n 0, 1, 0, 0, []) := rfl
theorem rw_73_30 : mm_code 73 30 = some (.getfield 15, 3, 7, 3, [3, 2]) := rfl
theorem rw_73_33 : mm_code 73 33 = some (.iload_n 3, 1, 0, 0, []) := rfl
theorem rw_73_34 : mm_code 73 34 = some (.iaload, 1, 0, 0, []) := rfl
theorem rw_73_35 : mm_code 73 35 = some (.iload_n 1, 1, 0, 0, []) := rfl
theorem rw_73_36 : mm_code 73 36 = some (.iand, 1, 0, 0, []) := rfl
theorem rw_73_37 : mm_code 73 37 = some (.bipush 100, 2, 100, 0, []) := rfl
theorem rw_73_39 : mm_code 73 39 = some (.iastore, 1, 0, 0, []) := rfl
theorem rw_73_40 : mm_code 73 40 = some (.iinc 3 1, 3, 1, 0, []) := rfl
theorem rw_73_43 : mm_code 73 43 = some (.goto (-41), 3, 2, 0, []) := rfl
theorem rw_73_46 : mm_code 73 46 = some (.iconst 0, 1, 0, 0, []) := rfl
theorem rw_73_47 : mm_code 73 47 = some (.istore_n 3, 1, 0, 0, []) := rfl
theorem rw_73_48 : mm_code 73 48 = some (.iload_n 3, 1, 0, 0, []) := rfl
theorem rw_73_49 : mm_code 73 49 = some (.aload_n 0, 1, 0, 0, []) := rfl
theorem rw_73_50 : mm_code 73 50 = some (.getfield 35, 3, 7, 0, [0, 8]) := rfl
theorem rw_73_53 : mm_code 73 53 = some (.if_icmp .ge 100, 3, 153, 0, []) := rfl
theorem rw_73_56 : mm_code 73 56 = some (.aload_n 0, 1, 0, 0, []) := rfl
theorem rw_73_57 : mm_code 73 57 = some (.getfield 15, 3, 7, 3, [3, 2]) := rfl
theorem rw_73_60 : mm_code 73 60 = some (.iload_n 3, 1, 0, 0, []) := rfl
theorem rw_73_61 : mm_code 73 61 = some (.iaload, 1, 0, 0, []) := rfl
theorem rw_73_62 : mm_code 73 62 = some (.iload_n 1, 1, 0, 0, []) := rfl
theorem rw_73_63 : mm_code 73 63 = some (.iand, 1, 0, 0, []) := rfl
theorem rw_73_64 : mm_code 73 64 = some (.istore 4, 2, 0, 0, []) := rfl
theorem rw_73_66 : mm_code 73 66 = some (.aload_n 0, 1, 0, 0, []) := rfl
theorem rw_73_67 : mm_code 73 67 = some (.getfield 15, 3, 7, 3, [3, 2]) := rfl
theorem rw_73_70 : mm_code 73 70 = some (.iload_n 3, 1, 0, 0, []) := rfl
theorem rw_73_71 : mm_code 73 71 = some (.iaload, 1, 0, 0, []) := rfl
theorem rw_73_72 : mm_code 73 72 = some (.iload_n 2, 1, 0, 0, []) := rfl
theorem rw_73_73 : mm_code 73 73 = some (.ishr, 1, 0, 0, []) := rfl
theorem rw_73_74 : mm_code 73 74 = some (.iconst 1, 1, 1, 0, []) := rfl
theorem rw_73_75 : mm_code 73 75 = some (.iand, 1, 0, 0, []) := rfl
theorem rw_73_76 : mm_code 73 76 = some (.ifCond .eq 29, 3, 105, 0, []) := rfl
theorem rw_73_79 : mm_code 73 79 = some (.aload_n 0, 1, 0, 0, []) := rfl
theorem rw_73_80 : mm_code 73 80 = some (.getfield 27, 3, 7, 7, [3, 6]) := rfl
theorem rw_73_83 : mm_code 73 83 = some (.iload 4, 2, 0, 0, []) := rfl
theorem rw_73_85 : mm_code 73 85 = some (.aload_n 0, 1, 0, 0, []) := rfl
theorem rw_73_86 : mm_code 73 86 = some (.getfield 27, 3, 7, 7, [3, 6]) := rfl
theorem rw_73_89 : mm_code 73 89 = some (.iload 4, 2, 0, 0, []) := rfl
theorem rw_73_91 : mm_code 73 91 = some (.iaload, 1, 0, 0, []) := rfl
theorem rw_73_92 : mm_code 73 92 = some (.aload_n 0, 1, 0, 0, []) := rfl
theorem rw_73_93 : mm_code 73 93 = some (.getfield 9, 3, 7, 2, [3, 1]) := rfl
theorem rw_73_96 : mm_code 73 96 = some (.iload_n 3, 1, 0, 0, []) := rfl
theorem rw_73_97 : mm_code 73 97 = some (.iaload, 1, 0, 0, []) := rfl
theorem rw_73_98 : mm_code 73 98 = some (.invokestatic 45, 3, 996, 2, [10, 0]) := rfl
theorem rw_73_101 : mm_code 73 101 = some (.iastore, 1, 0, 0, []) := rfl
theorem rw_73_102 : mm_code 73 102 = some (.goto 26, 3, 128, 0, []) := rfl
theorem rw_73_105 : mm_code 73 105 = some (.aload_n 0, 1, 0, 0, []) := rfl
theorem rw_73_106 : mm_code 73 106 = some (.getfield 24, 3, 7, 6, [3, 5]) := rfl
theorem rw_73_109 : mm_code 73 109 = some (.iload 4, 2, 0, 0, []) := rfl
theorem rw_73_111 : mm_code 73 111 = some (.aload_n 0, 1, 0, 0, []) := rfl
theorem rw_73_112 : mm_code 73 112 = some (.getfield 24, 3, 7, 6, [3, 5]) := rfl
theorem rw_73_115 : mm_code 73 115 = some (.iload 4, 2, 0, 0, []) := rfl
theorem rw_73_117 : mm_code 73 117 = some (.iaload, 1, 0, 0, []) := rfl
theorem rw_73_118 : mm_code 73 118 = some (.aload_n 0, 1, 0, 0, []) := rfl
theorem rw_73_119 : mm_code 73 119 = some (.getfield 9, 3, 7, 2, [3, 1]) := rfl
theorem rw_73_122 : mm_code 73 122 = some (.iload_n 3, 1, 0, 0, []) := rfl
theorem rw_73_123 : mm_code 73 123 = some (.iaload, 1, 0, 0, []) := rfl
theorem rw_73_124 : mm_code 73 124 = some (.invokestatic 69, 3, 997, 2, [16, 0]) := rfl
theorem rw_73_127 : mm_code 73 127 = some (.iastore, 1, 0, 0, []) := rfl
theorem rw_73_128 : mm_code 73 128 = some (.aload_n 0, 1, 0, 0, []) := rfl
theorem rw_73_129 : mm_code 73 129 = some (.getfield 24, 3, 7, 6, [3, 5]) := rfl
theorem rw_73_132 : mm_code 73 132 = some (.iload 4, 2, 0, 0, []) := rfl
theorem rw_73_134 : mm_code 73 134 = some (.iaload, 1, 0, 0, []) := rfl
theorem rw_73_135 : mm_code 73 135 = some (.aload_n 0, 1, 0, 0, []) := rfl
theorem rw_73_136 : mm_code 73 136 = some (.getfield 27, 3, 7, 7, [3, 6]) := rfl
theorem rw_73_139 : mm_code 73 139 = some (.iload 4, 2, 0, 0, []) := rfl
theorem rw_73_141 : mm_code 73 141 = some (.iaload, 1, 0, 0, []) := rfl
theorem rw_73_142 : mm_code 73 142 = some (.if_icmp .le 5, 3, 147, 0, []) := rfl
theorem rw_73_145 : mm_code 73 145 = some (.iconst 0, 1, 0, 0, []) := rfl
theorem rw_73_146 : mm_code 73 146 = some (.ireturn, 1, 1, 0, []) := rfl
theorem rw_73_147 : mm_code 73 147 = some (.iinc 3 1, 3, 1, 0, []) := rfl
theorem rw_73_150 : mm_code 73 150 = some (.goto (-102), 3, 48, 0, []) := rfl
theorem rw_73_153 : mm_code 73 153 = some (.iconst 1, 1, 1, 0, []) := rfl
theorem rw_73_154 : mm_code 73 154 = some (.ireturn, 1, 1, 0, []) := rfl
theorem rw_74_0 : mm_code 74 0 = some (.iconst 0, 1, 0, 0, []) := rfl
theorem rw_74_1 : mm_code 74 1 = some (.istore_n 2, 1, 0, 0, []) := rfl
theorem rw_74_2 : mm_code 74 2 = some (.iload_n 2, 1, 0, 0, []) := rfl
theorem rw_74_3 : mm_code 74 3 = some (.aload_n 0, 1, 0, 0, []) := rfl
theorem rw_74_4 : mm_code 74 4 = some (.getfield 35, 3, 7, 0, [0, 8]) := rfl
theorem rw_74_7 : mm_code 74 7 = some (.if_icmp .ge 24, 3, 31, 0, []) := rfl
theorem rw_74_10 : mm_code 74 10 = some (.aload_n 0, 1, 0, 0, []) := rfl
theorem rw_74_11 : mm_code 74 11 = some (.getfield 24, 3, 7, 6, [3, 5]) := rfl
theorem rw_74_14 : mm_code 74 14 = some (.aload_n 0, 1, 0, 0, []) := rfl
theorem rw_74_15 : mm_code 74 15 = some (.getfield 15, 3, 7, 3, [3, 2]) := rfl
theorem rw_74_18 : mm_code 74 18 = some (.iload_n 2, 1, 0, 0, []) := rfl
theorem rw_74_19 : mm_code 74 19 = some (.iaload, 1, 0, 0, []) := rfl
theorem rw_74_20 : mm_code 74 20 = some (.iload_n 1, 1, 0, 0, []) := rfl
theorem rw_74_21 : mm_code 74 21 = some (.iand, 1, 0, 0, []) := rfl
theorem rw_74_22 : mm_code 74 22 = some (.bipush (-2), 2, 2, 1, []) := rfl
theorem rw_74_24 : mm_code 74 24 = some (.iastore, 1, 0, 0, []) := rfl
theorem rw_74_25 : mm_code 74 25 = some (.iinc 2 1, 3, 1, 0, []) := rfl
theorem rw_74_28 : mm_code 74 28 = some (.goto (-26), 3, 2, 0, []) := rfl
theorem rw_74_31 : mm_code 74 31 = some (.iconst 0, 1, 0, 0, []) := rfl
theorem rw_74_32 : mm_code 74 32 = some (.istore_n 2, 1, 0, 0, []) := rfl
theorem rw_74_33 : mm_code 74 33 = some (.iload_n 2, 1, 0, 0, []) := rfl
theorem rw_74_34 : mm_code 74 34 = some (.aload_n 0, 1, 0, 0, []) := rfl
theorem rw_74_35 : mm_code 74 35 = some (.getfield 35, 3, 7, 0, [0, 8]) := rfl
theorem rw_74_38 : mm_code 74 38 = some (.if_icmp .ge 52, 3, 90, 0, []) := rfl
theorem rw_74_41 : mm_code 74 41 = some (.aload_n 0, 1, 0, 0, []) := rfl
theorem rw_74_42 : mm_code 74 42 = some (.getfield 9, 3, 7, 2, [3, 1]) := rfl
theorem rw_74_45 : mm_code 74 45 = some (.iload_n 2, 1, 0, 0, []) := rfl
theorem rw_74_46 : mm_code 74 46 = some (.iaload, 1, 0, 0, []) := rfl
theorem rw_74_47 : mm_code 74 47 = some (.aload_n 0, 1, 0, 0, []) := rfl
theorem rw_74_48 : mm_code 74 48 = some (.getfield 24, 3, 7, 6, [3, 5]) := rfl
theorem rw_74_51 : mm_code 74 51 = some (.aload_n 0, 1, 0, 0, []) := rfl
theorem rw_74_52 : mm_code 74 52 = some (.getfield 15, 3, 7, 3, [3, 2]) := rfl
theorem rw_74_55 : mm_code 74 55 = some (.iload_n 2, 1, 0, 0, []) := rfl
theorem rw_74_56 : mm_code 74 56 = some (.iaload, 1, 0, 0, []) := rfl
theorem rw_74_57 : mm_code 74 57 = some (.iload_n 1, 1, 0, 0, []) := rfl
theorem rw_74_58 : mm_code 74 58 = some (.iand, 1, 0, 0, []) := rfl
theorem rw_74_59 : mm_code 74 59 = some (.iaload, 1, 0, 0, []) := rfl
theorem rw_74_60 : mm_code 74 60 = some (.if_icmp .ge 5, 3, 65, 0, []) := rfl
theorem rw_74_63 : mm_code 74 63 = some (.iconst 0, 1, 0, 0, []) := rfl
theorem rw_74_64 : mm_code 74 64 = some (.ireturn, 1, 1, 0, []) := rfl
theorem rw_74_65 : mm_code 74 65 = some (.aload_n 0, 1, 0, 0, []) := rfl
theorem rw_74_66 : mm_code 74 66 = some (.getfield 24, 3, 7, 6, [3, 5]) := rfl
theorem rw_74_69 : mm_code 74 69 = some (.aload_n 0, 1, 0, 0, []) := rfl
theorem rw_74_70 : mm_code 74 70 = some (.getfield 15, 3, 7, 3, [3, 2]) := rfl
theorem rw_74_73 : mm_code 74 73 = some (.iload_n 2, 1, 0, 0, []) := rfl
theorem rw_74_74 : mm_code 74 74 = some (.iaload, 1, 0, 0, []) := rfl
theorem rw_74_75 : mm_code 74 75 = some (.iload_n 1, 1, 0, 0, []) := rfl
theorem rw_74_76 : mm_code 74 76 = some (.iand, 1, 0, 0, []) := rfl
theorem rw_74_77 : mm_code 74 77 = some (.aload_n 0, 1, 0, 0, []) := rfl
theorem rw_74_78 : mm_code 74 78 = some (.getfield 9, 3, 7, 2, [3, 1]) := rfl
theorem rw_74_81 : mm_code 74 81 = some (.iload_n 2, 1, 0, 0, []) := rfl
theorem rw_74_82 : mm_code 74 82 = some (.iaload, 1, 0, 0, []) := rfl
theorem rw_74_83 : mm_code 74 83 = some (.iastore, 1, 0, 0, []) := rfl
theorem rw_74_84 : mm_code 74 84 = some (.iinc 2 1, 3, 1, 0, []) := rfl
theorem rw_74_87 : mm_code 74 87 = some (.goto (-54), 3, 33, 0, []) := rfl
theorem rw_74_90 : mm_code 74 90 = some (.iconst 1, 1, 1, 0, []) := rfl
theorem rw_74_91 : mm_code 74 91 = some (.ireturn, 1, 1, 0, []) := rfl
theorem rw_75_0 : mm_code 75 0 = some (.aload_n 0, 1, 0, 0, []) := rfl
theorem rw_75_1 : mm_code 75 1 = some (.getfield 83, 3, 7, 9, [0, 20]) := rfl
theorem rw_75_4 : mm_code 75 4 = some (.iconst 3, 1, 3, 0, []) := rfl
theorem rw_75_5 : mm_code 75 5 = some (.aload_n 0, 1, 0, 0, []) := rfl
theorem rw_75_6 : mm_code 75 6 = some (.getfield 72, 3, 7, 8, [0, 17]) := rfl
theorem rw_75_9 : mm_code 75 9 = some (.iconst 1, 1, 1, 0, []) := rfl
theorem rw_75_10 : mm_code 75 10 = some (.isub, 1, 0, 0, []) := rfl
theorem rw_75_11 : mm_code 75 11 = some (.iload_n 1, 1, 0, 0, []) := rfl
theorem rw_75_12 : mm_code 75 12 = some (.isub, 1, 0, 0, []) := rfl
theorem rw_75_13 : mm_code 75 13 = some (.imul, 1, 0, 0, []) := rfl
theorem rw_75_14 : mm_code 75 14 = some (.ishr, 1, 0, 0, []) := rfl
theorem rw_75_15 : mm_code 75 15 = some (.bipush 7, 2, 7, 0, []) := rfl
theorem rw_75_17 : mm_code 75 17 = some (.iand, 1, 0, 0, []) := rfl
theorem rw_75_18 : mm_code 75 18 = some (.ireturn, 1, 0, 0, []) := rfl
theorem rw_77_0 : mm_code 77 0 = some (.bipush 24, 2, 24, 0, []) := rfl
theorem rw_77_2 : mm_code 77 2 = some (.istore_n 2, 1, 0, 0, []) := rfl
theorem rw_77_3 : mm_code 77 3 = some (.iload_n 2, 1, 0, 0, []) := rfl
theorem rw_77_4 : mm_code 77 4 = some (.ifCond .lt 44, 3, 48, 0, []) := rfl
theorem rw_77_7 : mm_code 77 7 = some (.aload_n 0, 1, 0, 0, []) := rfl
theorem rw_77_8 : mm_code 77 8 = some (.getfield 29, 3, 8, 1, [0, 6]) := rfl
theorem rw_77_11 : mm_code 77 11 = some (.aload_n 0, 1, 0, 0, []) := rfl
theorem rw_77_12 : mm_code 77 12 = some (.getfield 9, 3, 8, 0, [3, 1]) := rfl
theorem rw_77_15 : mm_code 77 15 = some (.arraylength, 1, 0, 0, []) := rfl
theorem rw_77_16 : mm_code 77 16 = some (.if_icmp .ge 32, 3, 48, 0, []) := rfl
theorem rw_77_19 : mm_code 77 19 = some (.aload_n 0, 1, 0, 0, []) := rfl
theorem rw_77_20 : mm_code 77 20 = some (.getfield 9, 3, 8, 0, [3, 1]) := rfl
theorem rw_77_23 : mm_code 77 23 = some (.aload_n 0, 1, 0, 0, []) := rfl
theorem rw_77_24 : mm_code 77 24 = some (.getfield 29, 3, 8, 1, [0, 6]) := rfl
theorem rw_77_27 : mm_code 77 27 = some (.iload_n 1, 1, 0, 0, []) := rfl
theorem rw_77_28 : mm_code 77 28 = some (.iload_n 2, 1, 0, 0, []) := rfl
theorem rw_77_29 : mm_code 77 29 = some (.ishr, 1, 0, 0, []) := rfl
theorem rw_77_30 : mm_code 77 30 = some (.i2b, 1, 0, 0, []) := rfl
theorem rw_77_31 : mm_code 77 31 = some (.bastore, 1, 0, 0, []) := rfl
theorem rw_77_32 : mm_code 77 32 = some (.aload_n 0, 1, 0, 0, []) := rfl
theorem rw_77_33 : mm_code 77 33 = some (.dup, 1, 0, 0, []) := rfl
theorem rw_77_34 : mm_code 77 34 = some (.getfield 29, 3, 8, 1, [0, 6]) := rfl
theorem rw_77_37 : mm_code 77 37 = some (.iconst 1, 1, 1, 0, []) := rfl
theorem rw_77_38 : mm_code 77 38 = some (.iadd, 1, 0, 0, []) := rfl
theorem rw_77_39 : mm_code 77 39 = some (.putfield 29, 3, 8, 1, [0, 6]) := rfl
theorem rw_77_42 : mm_code 77 42 = some (.iinc 2 (-8), 3, 8, 1, []) := rfl
theorem rw_77_45 : mm_code 77 45 = some (.goto (-42), 3, 3, 0, []) := rfl
theorem rw_77_48 : mm_code 77 48 = some (.return_, 1, 0, 0, []) := rfl
theorem rw_78_0 : mm_code 78 0 = some (.iload_n 1, 1, 0, 0, []) := rfl
theorem rw_78_1 : mm_code 78 1 = some (.ifCond .lt 11, 3, 12, 0, []) := rfl
theorem rw_78_4 : mm_code 78 4 = some (.iload_n 1, 1, 0, 0, []) := rfl
theorem rw_78_5 : mm_code 78 5 = some (.aload_n 0, 1, 0, 0, []) := rfl
theorem rw_78_6 : mm_code 78 6 = some (.getfield 29, 3, 8, 1, [0, 6]) := rfl
theorem rw_78_9 : mm_code 78 9 = some (.if_icmp .le 5, 3, 14, 0, []) := rfl
theorem rw_78_12 : mm_code 78 12 = some (.iconst 0, 1, 0, 0, []) := rfl
theorem rw_78_13 : mm_code 78 13 = some (.ireturn, 1, 1, 0, []) := rfl
theorem rw_78_14 : mm_code 78 14 = some (.aload_n 0, 1, 0, 0, []) := rfl
theorem rw_78_15 : mm_code 78 15 = some (.iconst 0, 1, 0, 0, []) := rfl
theorem rw_78_16 : mm_code 78 16 = some (.putfield 29, 3, 8, 1, [0, 6]) := rfl
theorem rw_78_19 : mm_code 78 19 = some (.aload_n 0, 1, 0, 0, []) := rfl
theorem rw_78_20 : mm_code 78 20 = some (.iconst 0, 1, 0, 0, []) := rfl
theorem rw_78_21 : mm_code 78 21 = some (.putfield 32, 3, 8, 10, [0, 7]) := rfl
theorem rw_78_24 : mm_code 78 24 = some (.aload_n 0, 1, 0, 0, []) := rfl
theorem rw_78_25 : mm_code 78 25 = some (.iconst (-1), 1, 1, 1, []) := rfl
theorem rw_78_26 : mm_code 78 26 = some (.putfield 25, 3, 8, 11, [0, 5]) := rfl
theorem rw_78_29 : mm_code 78 29 = some (.aload_n 0, 1, 0, 0, []) := rfl
theorem rw_78_30 : mm_code 78 30 = some (.iload_n 1, 1, 0, 0, []) := rfl
theorem rw_78_31 : mm_code 78 31 = some (.invokevirtual 35, 3, 79, 2, [8, 0]) := rfl
theorem rw_78_34 : mm_code 78 34 = some (.aload_n 0, 1, 0, 0, []) := rfl
theorem rw_78_35 : mm_code 78 35 = some (.iconst (-1), 1, 1, 1, []) := rfl
theorem rw_78_36 : mm_code 78 36 = some (.putfield 39, 3, 8, 6, [0, 9]) := rfl
theorem rw_78_39 : mm_code 78 39 = some (.aload_n 0, 1, 0, 0, []) := rfl
theorem rw_78_40 : mm_code 78 40 = some (.invokevirtual 42, 3, 83, 1, [10, 0]) := rfl
theorem rw_78_43 : mm_code 78 43 = some (.iconst 1, 1, 1, 0, []) := rfl
theorem rw_78_44 : mm_code 78 44 = some (.ireturn, 1, 1, 0, []) := rfl
theorem rw_79_0 : mm_code 79 0 = some (.aload_n 0, 1, 0, 0, []) := rfl
theorem rw_79_1 : mm_code 79 1 = some (.iconst 0, 1, 0, 0, []) := rfl
theorem rw_79_2 : mm_code 79 2 = some (.putfield 45, 3, 8, 5, [0, 11]) := rfl
theorem rw_79_5 : mm_code 79 5 = some (.iconst 0, 1, 0, 0, []) := rfl
theorem rw_79_6 : mm_code 79 6 = some (.istore_n 2, 1, 0, 0, []) := rfl
theorem rw_79_7 : mm_code 79 7 = some (.iload_n 2, 1, 0, 0, []) := rfl
theorem rw_79_8 : mm_code 79 8 = some (.iload_n 1, 1, 0, 0, []) := rfl
theorem rw_79_9 : mm_code 79 9 = some (.if_icmp .ge 87, 3, 96, 0, []) := rfl
theorem rw_79_12 : mm_code 79 12 = some (.aload_n 0, 1, 0, 0, []) := rfl
theorem rw_79_13 : mm_code 79 13 = some (.iload_n 2, 1, 0, 0, []) := rfl
theorem rw_79_14 : mm_code 79 14 = some (.invokevirtual 48, 3, 91, 2, [12, 0]) := rfl
theorem rw_79_17 : mm_code 79 17 = some (.istore_n 3, 1, 0, 0, []) := rfl
theorem rw_79_18 : mm_code 79 18 = some (.iload_n 2, 1, 0, 0, []) := rfl
theorem rw_79_19 : mm_code 79 19 = some (.iconst 1, 1, 1, 0, []) := rfl
theorem rw_79_20 : mm_code 79 20 = some (.iadd, 1, 0, 0, []) := rfl
theorem rw_79_21 : mm_code 79 21 = some (.istore 4, 2, 0, 0, []) := rfl
theorem rw_79_23 : mm_code 79 23 = some (.iload_n 3, 1, 0, 0, []) := rfl
theorem rw_79_24 : mm_code 79 24 = some (.invokestatic 52, 3, 93, 1, [13, 0]) := rfl
theorem rw_79_27 : mm_code 79 27 = some (.ifCond .eq 14, 3, 41, 0, []) := rfl
theorem rw_79_30 : mm_code 79 30 = some (.aload_n 0, 1, 0, 0, []) := rfl
theorem rw_79_31 : mm_code 79 31 = some (.iload_n 2, 1, 0, 0, []) := rfl
theorem rw_79_32 : mm_code 79 32 = some (.iload_n 1, 1, 0, 0, []) := rfl
theorem rw_79_33 : mm_code 79 33 = some (.invokevirtual 56, 3, 80, 3, [14, 0]) := rfl
theorem rw_79_36 : mm_code 79 36 = some (.istore 4, 2, 0, 0, []) := rfl
theorem rw_79_38 : mm_code 79 38 = some (.goto 46, 3, 84, 0, []) := rfl
theorem rw_79_41 : mm_code 79 41 = some (.iload_n 3, 1, 0, 0, []) := rfl
theorem rw_79_42 : mm_code 79 42 = some (.invokestatic 60, 3, 94, 1, [15, 0]) := rfl
theorem rw_79_45 : mm_code 79 45 = some (.ifCond .eq 14, 3, 59, 0, []) := rfl
theorem rw_79_48 : mm_code 79 48 = some (.aload_n 0, 1, 0, 0, []) := rfl
theorem rw_79_49 : mm_code 79 49 = some (.iload_n 2, 1, 0, 0, []) := rfl
theorem rw_79_50 : mm_code 79 50 = some (.iload_n 1, 1, 0, 0, []) := rfl
theorem rw_79_51 : mm_code 79 51 = some (.invokevirtual 63, 3, 81, 3, [16, 0]) := rfl
theorem rw_79_54 : mm_code 79 54 = some (.istore 4, 2, 0, 0, []) := rfl
theorem rw_79_56 : mm_code 79 56 = some (.goto 28, 3, 84, 0, []) := rfl
theorem rw_79_59 : mm_code 79 59 = some (.iload_n 3, 1, 0, 0, []) := rfl
theorem rw_79_60 : mm_code 79 60 = some (.invokestatic 66, 3, 92, 1, [17, 0]) := rfl
theorem rw_79_63 : mm_code 79 63 = some (.ifCond .ne 21, 3, 84, 0, []) := rfl
theorem rw_79_66 : mm_code 79 66 = some (.aload_n 0, 1, 0, 0, []) := rfl
theorem rw_79_67 : mm_code 79 67 = some (.iload_n 3, 1, 0, 0, []) := rfl
theorem rw_79_68 : mm_code 79 68 = some (.invokestatic 69, 3, 95, 1, [18, 0]) := rfl
theorem rw_79_71 : mm_code 79 71 = some (.ifCond .eq 7, 3, 78, 0, []) := rfl
theorem rw_79_74 : mm_code 79 74 = some (.iload_n 3, 1, 0, 0, []) := rfl
theorem rw_79_75 : mm_code 79 75 = some (.goto 4, 3, 79, 0, []) := rfl
theorem rw_79_78 : mm_code 79 78 = some (.iconst 1, 1, 1, 0, []) := rfl
theorem rw_79_79 : mm_code 79 79 = some (.iconst 0, 1, 0, 0, []) := rfl
theorem rw_79_80 : mm_code 79 80 = some (.iload_n 2, 1, 0, 0, []) := rfl
theorem rw_79_81 : mm_code 79 81 = some (.invokevirtual 72, 3, 82, 4, [19, 0]) := rfl
theorem rw_79_84 : mm_code 79 84 = some (.iload_n 2, 1, 0, 0, []) := rfl
theorem rw_79_85 : mm_code 79 85 = some (.iconst 1, 1, 1, 0, []) := rfl
theorem rw_79_86 : mm_code 79 86 = some (.iadd, 1, 0, 0, []) := rfl
theorem rw_79_87 : mm_code 79 87 = some (.iload 4, 2, 0, 0, []) := rfl
theorem rw_79_89 : mm_code 79 89 = some (.invokestatic 76, 3, 997, 2, [20, 0]) := rfl
theorem rw_79_92 : mm_code 79 92 = some (.istore_n 2, 1, 0, 0, []) := rfl
theorem rw_79_93 : mm_code 79 93 = some (.goto (-86), 3, 7, 0, []) := rfl
theorem rw_79_96 : mm_code 79 96 = some (.aload_n 0, 1, 0, 0, []) := rfl
theorem rw_79_97 : mm_code 79 97 = some (.iconst 0, 1, 0, 0, []) := rfl
theorem rw_79_98 : mm_code 79 98 = some (.iconst 0, 1, 0, 0, []) := rfl
theorem rw_79_99 : mm_code 79 99 = some (.iload_n 1, 1, 0, 0, []) := rfl
theorem rw_79_100 : mm_code 79 100 = some (.invokevirtual 72, 3, 82, 4, [19, 0]) := rfl
theorem rw_79_103 : mm_code 79 103 = some (.return_, 1, 0, 0, []) := rfl
theorem rw_80_0 : mm_code 80 0 = some (.iconst 0, 1, 0, 0, []) := rfl
theorem rw_80_1 : mm_code 80 1 = some (.istore_n 3, 1, 0, 0, []) := rfl
theorem rw_80_2 : mm_code 80 2 = some (.iload_n 1, 1, 0, 0, []) := rfl
theorem rw_80_3 : mm_code 80 3 = some (.istore 4, 2, 0, 0, []) := rfl
theorem rw_80_5 : mm_code 80 5 = some (.iload 4, 2, 0, 0, []) := rfl
theorem rw_80_7 : mm_code 80 7 = some (.iload_n 2, 1, 0, 0, []) := rfl
theorem rw_80_8 : mm_code 80 8 = some (.if_icmp .ge 52, 3, 60, 0, []) := rfl
theorem rw_80_11 : mm_code 80 11 = some (.aload_n 0, 1, 0, 0, []) := rfl
theorem rw_80_12 : mm_code 80 12 = some (.iload 4, 2, 0, 0, []) := rfl
theorem rw_80_14 : mm_code 80 14 = some (.invokevirtual 48, 3, 91, 2, [12, 0]) := rfl
theorem rw_80_17 : mm_code 80 17 = some (.invokestatic 52, 3, 93, 1, [13, 0]) := rfl
theorem rw_80_20 : mm_code 80 20 = some (.ifCond .eq 40, 3, 60, 0, []) := rfl
theorem rw_80_23 : mm_code 80 23 = some (.iload 4, 2, 0, 0, []) := rfl
theorem rw_80_25 : mm_code 80 25 = some (.iload_n 1, 1, 0, 0, []) := rfl
theorem rw_80_26 : mm_code 80 26 = some (.isub, 1, 0, 0, []) := rfl
theorem rw_80_27 : mm_code 80 27 = some (.bipush 6, 2, 6, 0, []) := rfl
theorem rw_80_29 : mm_code 80 29 = some (.if_icmp .ge 25, 3, 54, 0, []) := rfl
theorem rw_80_32 : mm_code 80 32 = some (.iload_n 3, 1, 0, 0, []) := rfl
theorem rw_80_33 : mm_code 80 33 = some (.aload_n 0, 1, 0, 0, []) := rfl
theorem rw_80_34 : mm_code 80 34 = some (.iload 4, 2, 0, 0, []) := rfl
theorem rw_80_36 : mm_code 80 36 = some (.invokevirtual 48, 3, 91, 2, [12, 0]) := rfl
theorem rw_80_39 : mm_code 80 39 = some (.bipush 31, 2, 31, 0, []) := rfl
theorem rw_80_41 : mm_code 80 41 = some (.iand, 1, 0, 0, []) := rfl
theorem rw_80_42 : mm_code 80 42 = some (.bipush 25, 2, 25, 0, []) := rfl
theorem rw_80_44 : mm_code 80 44 = some (.iconst 5, 1, 5, 0, []) := rfl
theorem rw_80_45 : mm_code 80 45 = some (.iload 4, 2, 0, 0, []) := rfl
theorem rw_80_47 : mm_code 80 47 = some (.iload_n 1, 1, 0, 0, []) := rfl
theorem rw_80_48 : mm_code 80 48 = some (.isub, 1, 0, 0, []) := rfl
theorem rw_80_49 : mm_code 80 49 = some (.imul, 1, 0, 0, []) := rfl
theorem rw_80_50 : mm_code 80 50 = some (.isub, 1, 0, 0, []) := rfl
theorem rw_80_51 : mm_code 80 51 = some (.ishl, 1, 0, 0, []) := rfl
theorem rw_80_52 : mm_code 80 52 = some (.ior, 1, 0, 0, []) := rfl
theorem rw_80_53 : mm_code 80 53 = some (.istore_n 3, 1, 0, 0, []) := rfl
theorem rw_80_54 : mm_code 80 54 = some (.iinc 4 1, 3, 1, 0, []) := rfl
theorem rw_80_57 : mm_code 80 57 = some (.goto (-52), 3, 5, 0, []) := rfl
theorem rw_80_60 : mm_code 80 60 = some (.iload 4, 2, 0, 0, []) := rfl
theorem rw_80_62 : mm_code 80 62 = some (.iload_n 1, 1, 0, 0, []) := rfl
theorem rw_80_63 : mm_code 80 63 = some (.isub, 1, 0, 0, []) := rfl
theorem rw_80_64 : mm_code 80 64 = some (.bipush 6, 2, 6, 0, []) := rfl
theorem rw_80_66 : mm_code 80 66 = some (.if_icmp .le 13, 3, 79, 0, []) := rfl
theorem rw_80_69 : mm_code 80 69 = some (.aload_n 0, 1, 0, 0, []) := rfl
theorem rw_80_70 : mm_code 80 70 = some (.iconst 1, 1, 1, 0, []) := rfl
theorem rw_80_71 : mm_code 80 71 = some (.iconst 0, 1, 0, 0, []) := rfl
theorem rw_80_72 : mm_code 80 72 = some (.iload_n 1, 1, 0, 0, []) := rfl
theorem rw_80_73 : mm_code 80 73 = some (.invokevirtual 72, 3, 82, 4, [19, 0]) := rfl
theorem rw_80_76 : mm_code 80 76 = some (.goto 21, 3, 97, 0, []) := rfl
theorem rw_80_79 : mm_code 80 79 = some (.aload_n 0, 1, 0, 0, []) := rfl
theorem rw_80_80 : mm_code 80 80 = some (.iload_n 3, 1, 0, 0, []) := rfl
theorem rw_80_81 : mm_code 80 81 = some (.invokestatic 81, 3, 96, 1, [21, 0]) := rfl
theorem rw_80_84 : mm_code 80 84 = some (.ifCond .eq 7, 3, 91, 0, []) := rfl
theorem rw_80_87 : mm_code 80 87 = some (.iconst 4, 1, 4, 0, []) := rfl
theorem rw_80_88 : mm_code 80 88 = some (.goto 4, 3, 92, 0, []) := rfl
theorem rw_80_91 : mm_code 80 91 = some (.iconst 3, 1, 3, 0, []) := rfl
theorem rw_80_92 : mm_code 80 92 = some (.iload_n 3, 1, 0, 0, []) := rfl
theorem rw_80_93 : mm_code 80 93 = some (.iload_n 1, 1, 0, 0, []) := rfl
theorem rw_80_94 : mm_code 80 94 = some (.invokevirtual 72, 3, 82, 4, [19, 0]) := rfl
theorem rw_80_97 : mm_code 80 97 = some (.iload 4, 2, 0, 0, []) := rfl
theorem rw_80_99 : mm_code 80 99 = some (.ireturn, 1, 0, 0, []) := rfl
theorem rw_81_0 : mm_code 81 0 = some (.iconst 0, 1, 0, 0, []) := rfl
theorem rw_81_1 : mm_code 81 1 = some (.istore_n 3, 1, 0, 0, []) := rfl
theorem rw_81_2 : mm_code 81 2 = some (.iload_n 1, 1, 0, 0, []) := rfl
theorem rw_81_3 : mm_code 81 3 = some (.istore 4, 2, 0, 0, []) := rfl
theorem rw_81_5 : mm_code 81 5 = some (.iload 4, 2, 0, 0, []) := rfl
theorem rw_81_7 : mm_code 81 7 = some (.iload_n 2, 1, 0, 0, []) := rfl
theorem rw_81_8 : mm_code 81 8 = some (.if_icmp .ge 41, 3, 49, 0, []) := rfl
theorem rw_81_11 : mm_code 81 11 = some (.aload_n 0, 1, 0, 0, []) := rfl
theorem rw_81_12 : mm_code 81 12 = some (.iload 4, 2, 0, 0, []) := rfl
theorem rw_81_14 : mm_code 81 14 = some (.invokevirtual 48, 3, 91, 2, [12, 0]) := rfl
theorem rw_81_17 : mm_code 81 17 = some (.invokestatic 60, 3, 94, 1, [15, 0]) := rfl
theorem rw_81_20 : mm_code 81 20 = some (.ifCond .eq 29, 3, 49, 0, []) := rfl
theorem rw_81_23 : mm_code 81 23 = some (.iload_n 3, 1, 0, 0, []) := rfl
theorem rw_81_24 : mm_code 81 24 = some (.bipush 10, 2, 10, 0, []) := rfl
theorem rw_81_26 : mm_code 81 26 = some (.imul, 1, 0, 0, []) := rfl
theorem rw_81_27 : mm_code 81 27 = some (.aload_n 0, 1, 0, 0, []) := rfl
theorem rw_81_28 : mm_code 81 28 = some (.iload 4, 2, 0, 0, []) := rfl
theorem rw_81_30 : mm_code 81 30 = some (.invokevirtual 48, 3, 91, 2, [12, 0]) := rfl
theorem rw_81_33 : mm_code 81 33 = some (.iadd, 1, 0, 0, []) := rfl
theorem rw_81_34 : mm_code 81 34 = some (.bipush 48, 2, 48, 0, []) := rfl
theorem rw_81_36 : mm_code 81 36 = some (.isub, 1, 0, 0, []) := rfl
theorem rw_81_37 : mm_code 81 37 = some (.bipush 100, 2, 100, 0, []) := rfl
theorem rw_81_39 : mm_code 81 39 = some (.invokestatic 84, 3, 996, 2, [22, 0]) := rfl
theorem rw_81_42 : mm_code 81 42 = some (.istore_n 3, 1, 0, 0, []) := rfl
theorem rw_81_43 : mm_code 81 43 = some (.iinc 4 1, 3, 1, 0, []) := rfl
theorem rw_81_46 : mm_code 81 46 = some (.goto (-41), 3, 5, 0, []) := rfl
theorem rw_81_49 : mm_code 81 49 = some (.aload_n 0, 1, 0, 0, []) := rfl
theorem rw_81_50 : mm_code 81 50 = some (.iconst 2, 1, 2, 0, []) := rfl
theorem rw_81_51 : mm_code 81 51 = some (.iload_n 3, 1, 0, 0, []) := rfl
theorem rw_81_52 : mm_code 81 52 = some (.iload_n 1, 1, 0, 0, []) := rfl
theorem rw_81_53 : mm_code 81 53 = some (.invokevirtual 72, 3, 82, 4, [19, 0]) := rfl
theorem rw_81_56 : mm_code 81 56 = some (.iload 4, 2, 0, 0, []) := rfl
theorem rw_81_58 : mm_code 81 58 = some (.ireturn, 1, 0, 0, []) := rfl
theorem rw_82_0 : mm_code 82 0 = some (.aload_n 0, 1, 0, 0, []) := rfl
theorem rw_82_1 : mm_code 82 1 = some (.getfield 45, 3, 8, 5, [0, 11]) := rfl
theorem rw_82_4 : mm_code 82 4 = some (.aload_n 0, 1, 0, 0, []) := rfl
theorem rw_82_5 : mm_code 82 5 = some (.getfield 15, 3, 8, 2, [3, 2]) := rfl
theorem rw_82_8 : mm_code 82 8 = some (.arraylength, 1, 0, 0, []) := rfl
theorem rw_82_9 : mm_code 82 9 = some (.if_icmp .ge 43, 3, 52, 0, []) := rfl
theorem rw_82_12 : mm_code 82 12 = some (.aload_n 0, 1, 0, 0, []) := rfl
theorem rw_82_13 : mm_code 82 13 = some (.getfield 15, 3, 8, 2, [3, 2]) := rfl
theorem rw_82_16 : mm_code 82 16 = some (.aload_n 0, 1, 0, 0, []) := rfl
theorem rw_82_17 : mm_code 82 17 = some (.getfield 45, 3, 8, 5, [0, 11]) := rfl
theorem rw_82_20 : mm_code 82 20 = some (.iload_n 1, 1, 0, 0, []) := rfl
theorem rw_82_21 : mm_code 82 21 = some (.iastore, 1, 0, 0, []) := rfl
theorem rw_82_22 : mm_code 82 22 = some (.aload_n 0, 1, 0, 0, []) := rfl
theorem rw_82_23 : mm_code 82 23 = some (.getfield 19, 3, 8, 3, [3, 3]) := rfl
theorem rw_82_26 : mm_code 82 26 = some (.aload_n 0, 1, 0, 0, []) := rfl
theorem rw_82_27 : mm_code 82 27 = some (.getfield 45, 3, 8, 5, [0, 11]) := rfl
theorem rw_82_30 : mm_code 82 30 = some (.iload_n 2, 1, 0, 0, []) := rfl
theorem rw_82_31 : mm_code 82 31 = some (.iastore, 1, 0, 0, []) := rfl
theorem rw_82_32 : mm_code 82 32 = some (.aload_n 0, 1, 0, 0, []) := rfl
theorem rw_82_33 : mm_code 82 33 = some (.getfield 22, 3, 8, 4, [3, 4]) := rfl
theorem rw_82_36 : mm_code 82 36 = some (.aload_n 0, 1, 0, 0, []) := rfl
theorem rw_82_37 : mm_code 82 37 = some (.getfield 45, 3, 8, 5, [0, 11]) := rfl
theorem rw_82_40 : mm_code 82 40 = some (.iload_n 3, 1, 0, 0, []) := rfl
theorem rw_82_41 : mm_code 82 41 = some (.iastore, 1, 0, 0, []) := rfl
theorem rw_82_42 : mm_code 82 42 = some (.aload_n 0, 1, 0, 0, []) := rfl
theorem rw_82_43 : mm_code 82 43 = some (.dup, 1, 0, 0, []) := rfl
theorem rw_82_44 : mm_code 82 44 = some (.getfield 45, 3, 8, 5, [0, 11]) := rfl
theorem rw_82_47 : mm_code 82 47 = some (.iconst 1, 1, 1, 0, []) := rfl
theorem rw_82_48 : mm_code 82 48 = some (.iadd, 1, 0, 0, []) := rfl
theorem rw_82_49 : mm_code 82 49 = some (.putfield 45, 3, 8, 5, [0, 11]) := rfl
theorem rw_82_52 : mm_code 82 52 = some (.return_, 1, 0, 0, []) := rfl
theorem rw_83_0 : mm_code 83 0 = some (.aload_n 0, 1, 0, 0, []) := rfl
theorem rw_83_1 : mm_code 83 1 = some (.getfield 39, 3, 8, 6, [0, 9]) := rfl
theorem rw_83_4 : mm_code 83 4 = some (.iconst 1, 1, 1, 0, []) := rfl
theorem rw_83_5 : mm_code 83 5 = some (.iadd, 1, 0, 0, []) := rfl
theorem rw_83_6 : mm_code 83 6 = some (.aload_n 0, 1, 0, 0, []) := rfl
theorem rw_83_7 : mm_code 83 7 = some (.getfield 45, 3, 8, 5, [0, 11]) := rfl
theorem rw_83_10 : mm_code 83 10 = some (.if_icmp .ge 13, 3, 23, 0, []) := rfl
theorem rw_83_13 : mm_code 83 13 = some (.aload_n 0, 1, 0, 0, []) := rfl
theorem rw_83_14 : mm_code 83 14 = some (.dup, 1, 0, 0, []) := rfl
theorem rw_83_15 : mm_code 83 15 = some (.getfield 39, 3, 8, 6, [0, 9]) := rfl
theorem rw_83_18 : mm_code 83 18 = some (.iconst 1, 1, 1, 0, []) := rfl
theorem rw_83_19 : mm_code 83 19 = some (.iadd, 1, 0, 0, []) := rfl
theorem rw_83_20 : mm_code 83 20 = some (.putfield 39, 3, 8, 6, [0, 9]) := rfl
theorem rw_83_23 : mm_code 83 23 = some (.aload_n 0, 1, 0, 0, []) := rfl
theorem rw_83_24 : mm_code 83 24 = some (.aload_n 0, 1, 0, 0, []) := rfl
theorem rw_83_25 : mm_code 83 25 = some (.getfield 15, 3, 8, 2, [3, 2]) := rfl
theorem rw_83_28 : mm_code 83 28 = some (.aload_n 0, 1, 0, 0, []) := rfl
theorem rw_83_29 : mm_code 83 29 = some (.getfield 39, 3, 8, 6, [0, 9]) := rfl
theorem rw_83_32 : mm_code 83 32 = some (.iaload, 1, 0, 0, []) := rfl
theorem rw_83_33 : mm_code 83 33 = some (.putfield 87, 3, 8, 7, [0, 23]) := rfl
theorem rw_83_36 : mm_code 83 36 = some (.aload_n 0, 1, 0, 0, []) := rfl
theorem rw_83_37 : mm_code 83 37 = some (.aload_n 0, 1, 0, 0, []) := rfl
theorem rw_83_38 : mm_code 83 38 = some (.getfield 19, 3, 8, 3, [3, 3]) := rfl
theorem rw_83_41 : mm_code 83 41 = some (.aload_n 0, 1, 0, 0, []) := rfl
theorem rw_83_42 : mm_code 83 42 = some (.getfield 39, 3, 8, 6, [0, 9]) := rfl
theorem rw_83_45 : mm_code 83 45 = some (.iaload, 1, 0, 0, []) := rfl
theorem rw_83_46 : mm_code 83 46 = some (.putfield 90, 3, 8, 8, [0, 24]) := rfl
theorem rw_83_49 : mm_code 83 49 = some (.aload_n 0, 1, 0, 0, []) := rfl
theorem rw_83_50 : mm_code 83 50 = some (.aload_n 0, 1, 0, 0, []) := rfl
theorem rw_83_51 : mm_code 83 51 = some (.getfield 22, 3, 8, 4, [3, 4]) := rfl
theorem rw_83_54 : mm_code 83 54 = some (.aload_n 0, 1, 0, 0, []) := rfl
theorem rw_83_55 : mm_code 83 55 = some (.getfield 39, 3, 8, 6, [0, 9]) := rfl
theorem rw_83_58 : mm_code 83 58 = some (.iaload, 1, 0, 0, []) := rfl
theorem rw_83_59 : mm_code 83 59 = some (.putfield 93, 3, 8, 9, [0, 25]) := rfl
theorem rw_83_62 : mm_code 83 62 = some (.return_, 1, 0, 0, []) := rfl
theorem rw_84_0 : mm_code 84 0 = some (.aload_n 0, 1, 0, 0, []) := rfl
theorem rw_84_1 : mm_code 84 1 = some (.iload_n 1, 1, 0, 0, []) := rfl
theorem rw_84_2 : mm_code 84 2 = some (.putfield 32, 3, 8, 10, [0, 7]) := rfl
theorem rw_84_5 : mm_code 84 5 = some (.aload_n 0, 1, 0, 0, []) := rfl
theorem rw_84_6 : mm_code 84 6 = some (.aload_n 0, 1, 0, 0, []) := rfl
theorem rw_84_7 : mm_code 84 7 = some (.getfield 93, 3, 8, 9, [0, 25]) := rfl
theorem rw_84_10 : mm_code 84 10 = some (.putfield 25, 3, 8, 11, [0, 5]) := rfl
theorem rw_84_13 : mm_code 84 13 = some (.iconst 0, 1, 0, 0, []) := rfl
theorem rw_84_14 : mm_code 84 14 = some (.ireturn, 1, 1, 0, []) := rfl
theorem rw_85_0 : mm_code 85 0 = some (.aload_n 0, 1, 0, 0, []) := rfl
theorem rw_85_1 : mm_code 85 1 = some (.iload_n 1, 1, 0, 0, []) := rfl
theorem rw_85_2 : mm_code 85 2 = some (.putfield 32, 3, 8, 10, [0, 7]) := rfl
theorem rw_85_5 : mm_code 85 5 = some (.aload_n 0, 1, 0, 0, []) := rfl
theorem rw_85_6 : mm_code 85 6 = some (.iload_n 2, 1, 0, 0, []) := rfl
theorem rw_85_7 : mm_code 85 7 = some (.putfield 25, 3, 8, 11, [0, 5]) := rfl
theorem rw_85_10 : mm_code 85 10 = some (.iconst 0, 1, 0, 0, []) := rfl
theorem rw_85_11 : mm_code 85 11 = some (.ireturn, 1, 1, 0, []) := rfl
theorem rw_86_0 : mm_code 86 0 = some (.aload_n 0, 1, 0, 0, []) := rfl
theorem rw_86_1 : mm_code 86 1 = some (.getfield 87, 3, 8, 7, [0, 23]) := rfl
theorem rw_86_4 : mm_code 86 4 = some (.iconst 4, 1, 4, 0, []) := rfl
theorem rw_86_5 : mm_code 86 5 = some (.if_icmp .ne 15, 3, 20, 0, []) := rfl
theorem rw_86_8 : mm_code 86 8 = some (.aload_n 0, 1, 0, 0, []) := rfl
theorem rw_86_9 : mm_code 86 9 = some (.getfield 90, 3, 8, 8, [0, 24]) := rfl
theorem rw_86_12 : mm_code 86 12 = some (.iload_n 1, 1, 0, 0, []) := rfl
theorem rw_86_13 : mm_code 86 13 = some (.if_icmp .ne 7, 3, 20, 0, []) := rfl
theorem rw_86_16 : mm_code 86 16 = some (.iconst 1, 1, 1, 0, []) := rfl
theorem rw_86_17 : mm_code 86 17 = some (.goto 4, 3, 21, 0, []) := rfl
theorem rw_86_20 : mm_code 86 20 = some (.iconst 0, 1, 0, 0, []) := rfl
theorem rw_86_21 : mm_code 86 21 = some (.ireturn, 1, 1, 0, []) := rfl
theorem rw_87_0 : mm_code 87 0 = some (.aload_n 0, 1, 0, 0, []) := rfl
theorem rw_87_1 : mm_code 87 1 = some (.getfield 87, 3, 8, 7, [0, 23]) := rfl
theorem rw_87_4 : mm_code 87 4 = some (.ifCond .eq 11, 3, 15, 0, []) := rfl
theorem rw_87_7 : mm_code 87 7 = some (.aload_n 0, 1, 0, 0, []) := rfl
theorem rw_87_8 : mm_code 87 8 = some (.iconst 1, 1, 1, 0, []) := rfl
theorem rw_87_9 : mm_code 87 9 = some (.invokevirtual 96, 3, 84, 2, [26, 0]) := rfl
theorem rw_87_12 : mm_code 87 12 = some (.ifCond .eq 7, 3, 19, 0, []) := rfl
theorem rw_87_15 : mm_code 87 15 = some (.iconst 1, 1, 1, 0, []) := rfl
theorem rw_87_16 : mm_code 87 16 = some (.goto 4, 3, 20, 0, []) := rfl
theorem rw_87_19 : mm_code 87 19 = some (.iconst 0, 1, 0, 0, []) := rfl
theorem rw_87_20 : mm_code 87 20 = some (.ireturn, 1, 1, 0, []) := rfl
theorem rw_88_0 : mm_code 88 0 = some (.aload_n 0, 1, 0, 0, []) := rfl
theorem rw_88_1 : mm_code 88 1 = some (.getfield 87, 3, 8, 7, [0, 23]) := rfl
theorem rw_88_4 : mm_code 88 4 = some (.iconst 2, 1, 2, 0, []) := rfl
theorem rw_88_5 : mm_code 88 5 = some (.if_icmp .eq 9, 3, 14, 0, []) := rfl
theorem rw_88_8 : mm_code 88 8 = some (.aload_n 0, 1, 0, 0, []) := rfl
theorem rw_88_9 : mm_code 88 9 = some (.iconst 1, 1, 1, 0, []) := rfl
theorem rw_88_10 : mm_code 88 10 = some (.invokevirtual 96, 3, 84, 2, [26, 0]) := rfl
theorem rw_88_13 : mm_code 88 13 = some (.ireturn, 1, 1, 0, []) := rfl
theorem rw_88_14 : mm_code 88 14 = some (.aload_n 0, 1, 0, 0, []) := rfl
theorem rw_88_15 : mm_code 88 15 = some (.getfield 90, 3, 8, 8, [0, 24]) := rfl
theorem rw_88_18 : mm_code 88 18 = some (.iload_n 1, 1, 0, 0, []) := rfl
theorem rw_88_19 : mm_code 88 19 = some (.if_icmp .lt 11, 3, 30, 0, []) := rfl
theorem rw_88_22 : mm_code 88 22 = some (.aload_n 0, 1, 0, 0, []) := rfl
theorem rw_88_23 : mm_code 88 23 = some (.getfield 90, 3, 8, 8, [0, 24]) := rfl
theorem rw_88_26 : mm_code 88 26 = some (.iload_n 2, 1, 0, 0, []) := rfl
theorem rw_88_27 : mm_code 88 27 = some (.if_icmp .le 11, 3, 38, 0, []) := rfl
theorem rw_88_30 : mm_code 88 30 = some (.aload_n 0, 1, 0, 0, []) := rfl
theorem rw_88_31 : mm_code 88 31 = some (.iconst 2, 1, 2, 0, []) := rfl
theorem rw_88_32 : mm_code 88 32 = some (.invokevirtual 96, 3, 84, 2, [26, 0]) := rfl
theorem rw_88_35 : mm_code 88 35 = some (.ifCond .eq 7, 3, 42, 0, []) := rfl
theorem rw_88_38 : mm_code 88 38 = some (.iconst 1, 1, 1, 0, []) := rfl
theorem rw_88_39 : mm_code 88 39 = some (.goto 4, 3, 43, 0, []) := rfl
theorem rw_88_42 : mm_code 88 42 = some (.iconst 0, 1, 0, 0, []) := rfl
theorem rw_88_43 : mm_code 88 43 = some (.ireturn, 1, 1, 0, []) := rfl
theorem rw_89_0 : mm_code 89 0 = some (.aload_n 0, 1, 0, 0, []) := rfl
theorem rw_89_1 : mm_code 89 1 = some (.iload_n 1, 1, 0, 0, []) := rfl
theorem rw_89_2 : mm_code 89 2 = some (.invokevirtual 99, 3, 86, 2, [27, 0]) := rfl
theorem rw_89_5 : mm_code 89 5 = some (.ifCond .ne 9, 3, 14, 0, []) := rfl
theorem rw_89_8 : mm_code 89 8 = some (.aload_n 0, 1, 0, 0, []) := rfl
theorem rw_89_9 : mm_code 89 9 = some (.iconst 1, 1, 1, 0, []) := rfl
theorem rw_89_10 : mm_code 89 10 = some (.invokevirtual 96, 3, 84, 2, [26, 0]) := rfl
theorem rw_89_13 : mm_code 89 13 = some (.ireturn, 1, 1, 0, []) := rfl
theorem rw_89_14 : mm_code 89 14 = some (.aload_n 0, 1, 0, 0, []) := rfl
theorem rw_89_15 : mm_code 89 15 = some (.invokevirtual 42, 3, 83, 1, [10, 0]) := rfl
theorem rw_89_18 : mm_code 89 18 = some (.iconst 1, 1, 1, 0, []) := rfl
theorem rw_89_19 : mm_code 89 19 = some (.ireturn, 1, 1, 0, []) := rfl
theorem rw_90_0 : mm_code 90 0 = some (.aload_n 0, 1, 0, 0, []) := rfl
theorem rw_90_1 : mm_code 90 1 = some (.getfield 87, 3, 8, 7, [0, 23]) := rfl
theorem rw_90_4 : mm_code 90 4 = some (.iload_n 1, 1, 0, 0, []) := rfl
theorem rw_90_5 : mm_code 90 5 = some (.if_icmp .eq 9, 3, 14, 0, []) := rfl
theorem rw_90_8 : mm_code 90 8 = some (.aload_n 0, 1, 0, 0, []) := rfl
theorem rw_90_9 : mm_code 90 9 = some (.iconst 1, 1, 1, 0, []) := rfl
theorem rw_90_10 : mm_code 90 10 = some (.invokevirtual 96, 3, 84, 2, [26, 0]) := rfl
theorem rw_90_13 : mm_code 90 13 = some (.ireturn, 1, 1, 0, []) := rfl
theorem rw_90_14 : mm_code 90 14 = some (.aload_n 0, 1, 0, 0, []) := rfl
theorem rw_90_15 : mm_code 90 15 = some (.invokevirtual 42, 3, 83, 1, [10, 0]) := rfl
theorem rw_90_18 : mm_code 90 18 = some (.iconst 1, 1, 1, 0, []) := rfl
theorem rw_90_19 : mm_code 90 19 = some (.ireturn, 1, 1, 0, []) := rfl
theorem rw_91_0 : mm_code 91 0 = some (.iload_n 1, 1, 0, 0, []) := rfl
theorem rw_91_1 : mm_code 91 1 = some (.ifCond .lt 25, 3, 26, 0, []) := rfl
theorem rw_91_4 : mm_code 91 4 = some (.iload_n 1, 1, 0, 0, []) := rfl
theorem rw_91_5 : mm_code 91 5 = some (.aload_n 0, 1, 0, 0, []) := rfl
theorem rw_91_6 : mm_code 91 6 = some (.getfield 9, 3, 8, 0, [3, 1]) := rfl
theorem rw_91_9 : mm_code 91 9 = some (.arraylength, 1, 0, 0, []) := rfl
theorem rw_91_10 : mm_code 91 10 = some (.if_icmp .ge 16, 3, 26, 0, []) := rfl
theorem rw_91_13 : mm_code 91 13 = some (.aload_n 0, 1, 0, 0, []) := rfl
theorem rw_91_14 : mm_code 91 14 = some (.getfield 9, 3, 8, 0, [3, 1]) := rfl
theorem rw_91_17 : mm_code 91 17 = some (.iload_n 1, 1, 0, 0, []) := rfl
theorem rw_91_18 : mm_code 91 18 = some (.baload, 1, 0, 0, []) := rfl
theorem rw_91_19 : mm_code 91 19 = some (.sipush 255, 3, 255, 0, []) := rfl
theorem rw_91_22 : mm_code 91 22 = some (.iand, 1, 0, 0, []) := rfl
theorem rw_91_23 : mm_code 91 23 = some (.goto 4, 3, 27, 0, []) := rfl
theorem rw_91_26 : mm_code 91 26 = some (.iconst 0, 1, 0, 0, []) := rfl
theorem rw_91_27 : mm_code 91 27 = some (.ireturn, 1, 0, 0, []) := rfl
theorem rw_92_0 : mm_code 92 0 = some (.iload_n 0, 1, 0, 0, []) := rfl
theorem rw_92_1 : mm_code 92 1 = some (.bipush 10, 2, 10, 0, []) := rfl
theorem rw_92_3 : mm_code 92 3 = some (.if_icmp .eq 9, 3, 12, 0, []) := rfl
theorem rw_92_6 : mm_code 92 6 = some (.iload_n 0, 1, 0, 0, []) := rfl
theorem rw_92_7 : mm_code 92 7 = some (.bipush 32, 2, 32, 0, []) := rfl
theorem rw_92_9 : mm_code 92 9 = some (.if_icmp .ne 7, 3, 16, 0, []) := rfl
theorem rw_92_12 : mm_code 92 12 = some (.iconst 1, 1, 1, 0, []) := rfl
theorem rw_92_13 : mm_code 92 13 = some (.goto 4, 3, 17, 0, []) := rfl
theorem rw_92_16 : mm_code 92 16 = some (.iconst 0, 1, 0, 0, []) := rfl
theorem rw_92_17 : mm_code 92 17 = some (.ireturn, 1, 1, 0, []) := rfl
theorem rw_93_0 : mm_code 93 0 = some (.iload_n 0, 1, 0, 0, []) := rfl
theorem rw_93_1 : mm_code 93 1 = some (.bipush 97, 2, 97, 0, []) := rfl
theorem rw_93_3 : mm_code 93 3 = some (.if_icmp .lt 13, 3, 16, 0, []) := rfl
theorem rw_93_6 : mm_code 93 6 = some (.iload_n 0, 1, 0, 0, []) := rfl
theorem rw_93_7 : mm_code 93 7 = some (.bipush 122, 2, 122, 0, []) := rfl
theorem rw_93_9 : mm_code 93 9 = some (.if_icmp .gt 7, 3, 16, 0, []) := rfl
theorem rw_93_12 : mm_code 93 12 = some (.iconst 1, 1, 1, 0, []) := rfl
theorem rw_93_13 : mm_code 93 13 = some (.goto 4, 3, 17, 0, []) := rfl
theorem rw_93_16 : mm_code 93 16 = some (.iconst 0, 1, 0, 0, []) := rfl
theorem rw_93_17 : mm_code 93 17 = some (.ireturn, 1, 1, 0, []) := rfl
theorem rw_94_0 : mm_code 94 0 = some (.iload_n 0, 1, 0, 0, []) := rfl
theorem rw_94_1 : mm_code 94 1 = some (.bipush 48, 2, 48, 0, []) := rfl
theorem rw_94_3 : mm_code 94 3 = some (.if_icmp .lt 13, 3, 16, 0, []) := rfl
theorem rw_94_6 : mm_code 94 6 = some (.iload_n 0, 1, 0, 0, []) := rfl
theorem rw_94_7 : mm_code 94 7 = some (.bipush 57, 2, 57, 0, []) := rfl
theorem rw_94_9 : mm_code 94 9 = some (.if_icmp .gt 7, 3, 16, 0, []) := rfl
theorem rw_94_12 : mm_code 94 12 = some (.iconst 1, 1, 1, 0, []) := rfl
theorem rw_94_13 : mm_code 94 13 = some (.goto 4, 3, 17, 0, []) := rfl
theorem rw_94_16 : mm_code 94 16 = some (.iconst 0, 1, 0, 0, []) := rfl
theorem rw_94_17 : mm_code 94 17 = some (.ireturn, 1, 1, 0, []) := rfl
theorem rw_95_0 : mm_code 95 0 = some (.iload_n 0, 1, 0, 0, []) := rfl
theorem rw_95_1 : mm_code 95 1 = some (.bipush 59, 2, 59, 0, []) := rfl
theorem rw_95_3 : mm_code 95 3 = some (.if_icmp .eq 21, 3, 24, 0, []) := rfl
theorem rw_95_6 : mm_code 95 6 = some (.iload_n 0, 1, 0, 0, []) := rfl
theorem rw_95_7 : mm_code 95 7 = some (.bipush 40, 2, 40, 0, []) := rfl
theorem rw_95_9 : mm_code 95 9 = some (.if_icmp .eq 15, 3, 24, 0, []) := rfl
theorem rw_95_12 : mm_code 95 12 = some (.iload_n 0, 1, 0, 0, []) := rfl
theorem rw_95_13 : mm_code 95 13 = some (.bipush 41, 2, 41, 0, []) := rfl
theorem rw_95_15 : mm_code 95 15 = some (.if_icmp .eq 9, 3, 24, 0, []) := rfl
theorem rw_95_18 : mm_code 95 18 = some (.iload_n 0, 1, 0, 0, []) := rfl
theorem rw_95_19 : mm_code 95 19 = some (.bipush 61, 2, 61, 0, []) := rfl
theorem rw_95_21 : mm_code 95 21 = some (.if_icmp .ne 7, 3, 28, 0, []) := rfl
theorem rw_95_24 : mm_code 95 24 = some (.iconst 1, 1, 1, 0, []) := rfl
theorem rw_95_25 : mm_code 95 25 = some (.goto 4, 3, 29, 0, []) := rfl
theorem rw_95_28 : mm_code 95 28 = some (.iconst 0, 1, 0, 0, []) := rfl
theorem rw_95_29 : mm_code 95 29 = some (.ireturn, 1, 1, 0, []) := rfl
theorem rw_96_0 : mm_code 96 0 = some (.getstatic 102, 3, 1, 0, [4]) := rfl
theorem rw_96_3 : mm_code 96 3 = some (.astore_n 1, 1, 0, 0, []) := rfl
theorem rw_96_4 : mm_code 96 4 = some (.aload_n 1, 1, 0, 0, []) := rfl
theorem rw_96_5 : mm_code 96 5 = some (.arraylength, 1, 0, 0, []) := rfl
theorem rw_96_6 : mm_code 96 6 = some (.istore_n 2, 1, 0, 0, []) := rfl
theorem rw_96_7 : mm_code 96 7 = some (.iconst 0, 1, 0, 0, []) := rfl
theorem rw_96_8 : mm_code 96 8 = some (.istore_n 3, 1, 0, 0, []) := rfl
theorem rw_96_9 : mm_code 96 9 = some (.iload_n 3, 1, 0, 0, []) := rfl
theorem rw_96_10 : mm_code 96 10 = some (.iload_n 2, 1, 0, 0, []) := rfl
theorem rw_96_11 : mm_code 96 11 = some (.if_icmp .ge 22, 3, 33, 0, []) := rfl
theorem rw_96_14 : mm_code 96 14 = some (.aload_n 1, 1, 0, 0, []) := rfl
theorem rw_96_15 : mm_code 96 15 = some (.iload_n 3, 1, 0, 0, []) := rfl
theorem rw_96_16 : mm_code 96 16 = some (.iaload, 1, 0, 0, []) := rfl
theorem rw_96_17 : mm_code 96 17 = some (.istore 4, 2, 0, 0, []) := rfl
theorem rw_96_19 : mm_code 96 19 = some (.iload 4, 2, 0, 0, []) := rfl
theorem rw_96_21 : mm_code 96 21 = some (.iload_n 0, 1, 0, 0, []) := rfl
theorem rw_96_22 : mm_code 96 22 = some (.if_icmp .ne 5, 3, 27, 0, []) := rfl
theorem rw_96_25 : mm_code 96 25 = some (.iconst 1, 1, 1, 0, []) := rfl
theorem rw_96_26 : mm_code 96 26 = some (.ireturn, 1, 1, 0, []) := rfl
theorem rw_96_27 : mm_code 96 27 = some (.iinc 3 1, 3, 1, 0, []) := rfl
theorem rw_96_30 : mm_code 96 30 = some (.goto (-21), 3, 9, 0, []) := rfl
theorem rw_96_33 : mm_code 96 33 = some (.iconst 0, 1, 0, 0, []) := rfl
theorem rw_96_34 : mm_code 96 34 = some (.ireturn, 1, 1, 0, []) := rfl
theorem rw_98_0 : mm_code 98 0 = some (.aload_n 0, 1, 0, 0, []) := rfl
theorem rw_98_1 : mm_code 98 1 = some (.iconst 0, 1, 0, 0, []) := rfl
theorem rw_98_2 : mm_code 98 2 = some (.putfield 34, 3, 9, 7, [0, 8]) := rfl
theorem rw_98_5 : mm_code 98 5 = some (.aload_n 0, 1, 0, 0, []) := rfl
theorem rw_98_6 : mm_code 98 6 = some (.aload_n 1, 1, 0, 0, []) := rfl
theorem rw_98_7 : mm_code 98 7 = some (.aload_n 2, 1, 0, 0, []) := rfl
theorem rw_98_8 : mm_code 98 8 = some (.aload_n 3, 1, 0, 0, []) := rfl
theorem rw_98_9 : mm_code 98 9 = some (.iconst 0, 1, 0, 0, []) := rfl
theorem rw_98_10 : mm_code 98 10 = some (.invokevirtual 38, 3, 99, 5, [9, 0]) := rfl
theorem rw_98_13 : mm_code 98 13 = some (.ifCond .eq 14, 3, 27, 0, []) := rfl
theorem rw_98_16 : mm_code 98 16 = some (.aload_n 1, 1, 0, 0, []) := rfl
theorem rw_98_17 : mm_code 98 17 = some (.invokevirtual 42, 3, 87, 1, [10, 0]) := rfl
theorem rw_98_20 : mm_code 98 20 = some (.ifCond .eq 7, 3, 27, 0, []) := rfl
theorem rw_98_23 : mm_code 98 23 = some (.iconst 1, 1, 1, 0, []) := rfl
theorem rw_98_24 : mm_code 98 24 = some (.goto 4, 3, 28, 0, []) := rfl
theorem rw_98_27 : mm_code 98 27 = some (.iconst 0, 1, 0, 0, []) := rfl
theorem rw_98_28 : mm_code 98 28 = some (.ireturn, 1, 1, 0, []) := rfl
theorem rw_99_0 : mm_code 99 0 = some (.iconst 0, 1, 0, 0, []) := rfl
theorem rw_99_1 : mm_code 99 1 = some (.istore 5, 2, 0, 0, []) := rfl
theorem rw_99_3 : mm_code 99 3 = some (.iload 5, 2, 0, 0, []) := rfl
theorem rw_99_5 : mm_code 99 5 = some (.bipush 40, 2, 40, 0, []) := rfl
theorem rw_99_7 : mm_code 99 7 = some (.if_icmp .gt 31, 3, 38, 0, []) := rfl
theorem rw_99_10 : mm_code 99 10 = some (.aload_n 1, 1, 0, 0, []) := rfl
theorem rw_99_11 : mm_code 99 11 = some (.getfield 48, 3, 8, 7, [0, 11]) := rfl
theorem rw_99_14 : mm_code 99 14 = some (.iconst 4, 1, 4, 0, []) := rfl
theorem rw_99_15 : mm_code 99 15 = some (.if_icmp .ne 23, 3, 38, 0, []) := rfl
theorem rw_99_18 : mm_code 99 18 = some (.aload_n 0, 1, 0, 0, []) := rfl
theorem rw_99_19 : mm_code 99 19 = some (.aload_n 1, 1, 0, 0, []) := rfl
theorem rw_99_20 : mm_code 99 20 = some (.aload_n 2, 1, 0, 0, []) := rfl
theorem rw_99_21 : mm_code 99 21 = some (.aload_n 3, 1, 0, 0, []) := rfl
theorem rw_99_22 : mm_code 99 22 = some (.iload 4, 2, 0, 0, []) := rfl
theorem rw_99_24 : mm_code 99 24 = some (.invokevirtual 51, 3, 100, 5, [12, 0]) := rfl
theorem rw_99_27 : mm_code 99 27 = some (.ifCond .ne 5, 3, 32, 0, []) := rfl
theorem rw_99_30 : mm_code 99 30 = some (.iconst 0, 1, 0, 0, []) := rfl
theorem rw_99_31 : mm_code 99 31 = some (.ireturn, 1, 1, 0, []) := rfl
theorem rw_99_32 : mm_code 99 32 = some (.iinc 5 1, 3, 1, 0, []) := rfl
theorem rw_99_35 : mm_code 99 35 = some (.goto (-32), 3, 3, 0, []) := rfl
theorem rw_99_38 : mm_code 99 38 = some (.iconst 1, 1, 1, 0, []) := rfl
theorem rw_99_39 : mm_code 99 39 = some (.ireturn, 1, 1, 0, []) := rfl
theorem rw_100_0 : mm_code 100 0 = some (.aload_n 1, 1, 0, 0, []) := rfl
theorem rw_100_1 : mm_code 100 1 = some (.getfield 54, 3, 8, 8, [0, 13]) := rfl
theorem rw_100_4 : mm_code 100 4 = some (.istore 5, 2, 0, 0, []) := rfl
theorem rw_100_6 : mm_code 100 6 = some (.iload 5, 2, 0, 0, []) := rfl
theorem rw_100_8 : mm_code 100 8 = some (.ldc 57, 2, 538561536, 0, [14]) := rfl
theorem rw_100_10 : mm_code 100 10 = some (.if_icmp .eq 23, 3, 33, 0, []) := rfl
theorem rw_100_13 : mm_code 100 13 = some (.iload 5, 2, 0, 0, []) := rfl
theorem rw_100_15 : mm_code 100 15 = some (.ldc 58, 2, 351582208, 0, [15]) := rfl
theorem rw_100_17 : mm_code 100 17 = some (.if_icmp .eq 16, 3, 33, 0, []) := rfl
theorem rw_100_20 : mm_code 100 20 = some (.iload 5, 2, 0, 0, []) := rfl
theorem rw_100_22 : mm_code 100 22 = some (.ldc 59, 2, 40936896, 0, [16]) := rfl
theorem rw_100_24 : mm_code 100 24 = some (.if_icmp .eq 9, 3, 33, 0, []) := rfl
theorem rw_100_27 : mm_code 100 27 = some (.aload_n 1, 1, 0, 0, []) := rfl
theorem rw_100_28 : mm_code 100 28 = some (.iconst 1, 1, 1, 0, []) := rfl
theorem rw_100_29 : mm_code 100 29 = some (.invokevirtual 60, 3, 84, 2, [17, 0]) := rfl
theorem rw_100_32 : mm_code 100 32 = some (.ireturn, 1, 1, 0, []) := rfl
theorem rw_100_33 : mm_code 100 33 = some (.aload_n 0, 1, 0, 0, []) := rfl
theorem rw_100_34 : mm_code 100 34 = some (.getfield 34, 3, 9, 7, [0, 8]) := rfl
theorem rw_100_37 : mm_code 100 37 = some (.bipush 40, 2, 40, 0, []) := rfl
theorem rw_100_39 : mm_code 100 39 = some (.if_icmp .lt 9, 3, 48, 0, []) := rfl
theorem rw_100_42 : mm_code 100 42 = some (.aload_n 1, 1, 0, 0, []) := rfl
theorem rw_100_43 : mm_code 100 43 = some (.iconst 2, 1, 2, 0, []) := rfl
theorem rw_100_44 : mm_code 100 44 = some (.invokevirtual 60, 3, 84, 2, [17, 0]) := rfl
theorem rw_100_47 : mm_code 100 47 = some (.ireturn, 1, 1, 0, []) := rfl
theorem rw_100_48 : mm_code 100 48 = some (.aload_n 0, 1, 0, 0, []) := rfl
theorem rw_100_49 : mm_code 100 49 = some (.getfield 34, 3, 9, 7, [0, 8]) := rfl
theorem rw_100_52 : mm_code 100 52 = some (.istore 6, 2, 0, 0, []) := rfl
theorem rw_100_54 : mm_code 100 54 = some (.aload_n 0, 1, 0, 0, []) := rfl
theorem rw_100_55 : mm_code 100 55 = some (.dup, 1, 0, 0, []) := rfl
theorem rw_100_56 : mm_code 100 56 = some (.getfield 34, 3, 9, 7, [0, 8]) := rfl
theorem rw_100_59 : mm_code 100 59 = some (.iconst 1, 1, 1, 0, []) := rfl
theorem rw_100_60 : mm_code 100 60 = some (.iadd, 1, 0, 0, []) := rfl
theorem rw_100_61 : mm_code 100 61 = some (.putfield 34, 3, 9, 7, [0, 8]) := rfl
theorem rw_100_64 : mm_code 100 64 = some (.aload_n 0, 1, 0, 0, []) := rfl
theorem rw_100_65 : mm_code 100 65 = some (.getfield 9, 3, 9, 0, [3, 1]) := rfl
theorem rw_100_68 : mm_code 100 68 = some (.iload 6, 2, 0, 0, []) := rfl
theorem rw_100_70 : mm_code 100 70 = some (.iload 5, 2, 0, 0, []) := rfl
theorem rw_100_72 : mm_code 100 72 = some (.iastore, 1, 0, 0, []) := rfl
theorem rw_100_73 : mm_code 100 73 = some (.aload_n 1, 1, 0, 0, []) := rfl
theorem rw_100_74 : mm_code 100 74 = some (.invokevirtual 64, 3, 83, 1, [18, 0]) := rfl
theorem rw_100_77 : mm_code 100 77 = some (.iload 5, 2, 0, 0, []) := rfl
theorem rw_100_79 : mm_code 100 79 = some (.ldc 57, 2, 538561536, 0, [14]) := rfl
theorem rw_100_81 : mm_code 100 81 = some (.if_icmp .ne 17, 3, 98, 0, []) := rfl
theorem rw_100_84 : mm_code 100 84 = some (.aload_n 0, 1, 0, 0, []) := rfl
theorem rw_100_85 : mm_code 100 85 = some (.aload_n 1, 1, 0, 0, []) := rfl
theorem rw_100_86 : mm_code 100 86 = some (.aload_n 2, 1, 0, 0, []) := rfl
theorem rw_100_87 : mm_code 100 87 = some (.aload_n 3, 1, 0, 0, []) := rfl
theorem rw_100_88 : mm_code 100 88 = some (.iload 6, 2, 0, 0, []) := rfl
theorem rw_100_90 : mm_code 100 90 = some (.invokevirtual 67, 3, 101, 5, [19, 0]) := rfl
theorem rw_100_93 : mm_code 100 93 = some (.istore 7, 2, 0, 0, []) := rfl
theorem rw_100_95 : mm_code 100 95 = some (.goto 35, 3, 130, 0, []) := rfl
theorem rw_100_98 : mm_code 100 98 = some (.iload 5, 2, 0, 0, []) := rfl
theorem rw_100_100 : mm_code 100 100 = some (.ldc 58, 2, 351582208, 0, [15]) := rfl
theorem rw_100_102 : mm_code 100 102 = some (.if_icmp .ne 15, 3, 117, 0, []) := rfl
theorem rw_100_105 : mm_code 100 105 = some (.aload_n 0, 1, 0, 0, []) := rfl
theorem rw_100_106 : mm_code 100 106 = some (.aload_n 1, 1, 0, 0, []) := rfl
theorem rw_100_107 : mm_code 100 107 = some (.iload 6, 2, 0, 0, []) := rfl
theorem rw_100_109 : mm_code 100 109 = some (.invokevirtual 70, 3, 104, 3, [20, 0]) := rfl
theorem rw_100_112 : mm_code 100 112 = some (.istore 7, 2, 0, 0, []) := rfl
theorem rw_100_114 : mm_code 100 114 = some (.goto 16, 3, 130, 0, []) := rfl
theorem rw_100_117 : mm_code 100 117 = some (.aload_n 0, 1, 0, 0, []) := rfl
theorem rw_100_118 : mm_code 100 118 = some (.aload_n 1, 1, 0, 0, []) := rfl
theorem rw_100_119 : mm_code 100 119 = some (.aload_n 2, 1, 0, 0, []) := rfl
theorem rw_100_120 : mm_code 100 120 = some (.aload_n 3, 1, 0, 0, []) := rfl
theorem rw_100_121 : mm_code 100 121 = some (.iload 4, 2, 0, 0, []) := rfl
theorem rw_100_123 : mm_code 100 123 = some (.iload 6, 2, 0, 0, []) := rfl
theorem rw_100_125 : mm_code 100 125 = some (.invokevirtual 74, 3, 105, 6, [21, 0]) := rfl
theorem rw_100_128 : mm_code 100 128 = some (.istore 7, 2, 0, 0, []) := rfl
theorem rw_100_130 : mm_code 100 130 = some (.aload_n 0, 1, 0, 0, []) := rfl
theorem rw_100_131 : mm_code 100 131 = some (.getfield 31, 3, 9, 6, [3, 7]) := rfl
theorem rw_100_134 : mm_code 100 134 = some (.iload 6, 2, 0, 0, []) := rfl
theorem rw_100_136 : mm_code 100 136 = some (.aload_n 0, 1, 0, 0, []) := rfl
theorem rw_100_137 : mm_code 100 137 = some (.getfield 34, 3, 9, 7, [0, 8]) := rfl
theorem rw_100_140 : mm_code 100 140 = some (.iastore, 1, 0, 0, []) := rfl
theorem rw_100_141 : mm_code 100 141 = some (.iload 7, 2, 0, 0, []) := rfl
theorem rw_100_143 : mm_code 100 143 = some (.ireturn, 1, 1, 0, []) := rfl
theorem rw_101_0 : mm_code 101 0 = some (.aload_n 0, 1, 0, 0, []) := rfl
theorem rw_101_1 : mm_code 101 1 = some (.aload_n 1, 1, 0, 0, []) := rfl
theorem rw_101_2 : mm_code 101 2 = some (.aload_n 0, 1, 0, 0, []) := rfl
theorem rw_101_3 : mm_code 101 3 = some (.getfield 15, 3, 9, 1, [3, 2]) := rfl
theorem rw_101_6 : mm_code 101 6 = some (.iload 4, 2, 0, 0, []) := rfl
theorem rw_101_8 : mm_code 101 8 = some (.invokevirtual 78, 3, 102, 4, [22, 0]) := rfl
theorem rw_101_11 : mm_code 101 11 = some (.ifCond .eq 12, 3, 23, 0, []) := rfl
theorem rw_101_14 : mm_code 101 14 = some (.aload_n 1, 1, 0, 0, []) := rfl
theorem rw_101_15 : mm_code 101 15 = some (.ldc 82, 2, 686817280, 0, [23]) := rfl
theorem rw_101_17 : mm_code 101 17 = some (.invokevirtual 83, 3, 89, 2, [24, 0]) := rfl
theorem rw_101_20 : mm_code 101 20 = some (.ifCond .ne 5, 3, 25, 0, []) := rfl
theorem rw_101_23 : mm_code 101 23 = some (.iconst 0, 1, 0, 0, []) := rfl
theorem rw_101_24 : mm_code 101 24 = some (.ireturn, 1, 1, 0, []) := rfl
theorem rw_101_25 : mm_code 101 25 = some (.aload_n 0, 1, 0, 0, []) := rfl
theorem rw_101_26 : mm_code 101 26 = some (.aload_n 1, 1, 0, 0, []) := rfl
theorem rw_101_27 : mm_code 101 27 = some (.aload_n 0, 1, 0, 0, []) := rfl
theorem rw_101_28 : mm_code 101 28 = some (.getfield 18, 3, 9, 2, [3, 3]) := rfl
theorem rw_101_31 : mm_code 101 31 = some (.iload 4, 2, 0, 0, []) := rfl
theorem rw_101_33 : mm_code 101 33 = some (.invokevirtual 78, 3, 102, 4, [22, 0]) := rfl
theorem rw_101_36 : mm_code 101 36 = some (.ifCond .eq 26, 3, 62, 0, []) := rfl
theorem rw_101_39 : mm_code 101 39 = some (.aload_n 0, 1, 0, 0, []) := rfl
theorem rw_101_40 : mm_code 101 40 = some (.aload_n 1, 1, 0, 0, []) := rfl
theorem rw_101_41 : mm_code 101 41 = some (.aload_n 0, 1, 0, 0, []) := rfl
theorem rw_101_42 : mm_code 101 42 = some (.getfield 21, 3, 9, 3, [3, 4]) := rfl
theorem rw_101_45 : mm_code 101 45 = some (.iload 4, 2, 0, 0, []) := rfl
theorem rw_101_47 : mm_code 101 47 = some (.invokevirtual 78, 3, 102, 4, [22, 0]) := rfl
theorem rw_101_50 : mm_code 101 50 = some (.ifCond .eq 12, 3, 62, 0, []) := rfl
theorem rw_101_53 : mm_code 101 53 = some (.aload_n 1, 1, 0, 0, []) := rfl
theorem rw_101_54 : mm_code 101 54 = some (.ldc 86, 2, 93323264, 0, [25]) := rfl
theorem rw_101_56 : mm_code 101 56 = some (.invokevirtual 83, 3, 89, 2, [24, 0]) := rfl
theorem rw_101_59 : mm_code 101 59 = some (.ifCond .ne 5, 3, 64, 0, []) := rfl
theorem rw_101_62 : mm_code 101 62 = some (.iconst 0, 1, 0, 0, []) := rfl
theorem rw_101_63 : mm_code 101 63 = some (.ireturn, 1, 1, 0, []) := rfl
theorem rw_101_64 : mm_code 101 64 = some (.aload_n 0, 1, 0, 0, []) := rfl
theorem rw_101_65 : mm_code 101 65 = some (.getfield 24, 3, 9, 4, [3, 5]) := rfl
theorem rw_101_68 : mm_code 101 68 = some (.iload 4, 2, 0, 0, []) := rfl
theorem rw_101_70 : mm_code 101 70 = some (.lconst 0, 1, 0, 0, []) := rfl
theorem rw_101_71 : mm_code 101 71 = some (.lastore, 1, 0, 0, []) := rfl
theorem rw_101_72 : mm_code 101 72 = some (.aload_n 0, 1, 0, 0, []) := rfl
theorem rw_101_73 : mm_code 101 73 = some (.aload_n 1, 1, 0, 0, []) := rfl
theorem rw_101_74 : mm_code 101 74 = some (.aload_n 2, 1, 0, 0, []) := rfl
theorem rw_101_75 : mm_code 101 75 = some (.aload_n 3, 1, 0, 0, []) := rfl
theorem rw_101_76 : mm_code 101 76 = some (.iload 4, 2, 0, 0, []) := rfl
theorem rw_101_78 : mm_code 101 78 = some (.invokevirtual 87, 3, 103, 5, [26, 0]) := rfl
theorem rw_101_81 : mm_code 101 81 = some (.ifCond .ne 5, 3, 86, 0, []) := rfl
theorem rw_101_84 : mm_code 101 84 = some (.iconst 0, 1, 0, 0, []) := rfl
theorem rw_101_85 : mm_code 101 85 = some (.ireturn, 1, 1, 0, []) := rfl
theorem rw_101_86 : mm_code 101 86 = some (.iconst 0, 1, 0, 0, []) := rfl
theorem rw_101_87 : mm_code 101 87 = some (.istore 5, 2, 0, 0, []) := rfl
theorem rw_101_89 : mm_code 101 89 = some (.iload 5, 2, 0, 0, []) := rfl
theorem rw_101_91 : mm_code 101 91 = some (.sipush 500, 3, 500, 0, []) := rfl
theorem rw_101_94 : mm_code 101 94 = some (.if_icmp .ge 32, 3, 126, 0, []) := rfl
theorem rw_101_97 : mm_code 101 97 = some (.aload_n 1, 1, 0, 0, []) := rfl
theorem rw_101_98 : mm_code 101 98 = some (.getfield 48, 3, 8, 7, [0, 11]) := rfl
theorem rw_101_101 : mm_code 101 101 = some (.bipush 59, 2, 59, 0, []) := rfl
theorem rw_101_103 : mm_code 101 103 = some (.if_icmp .eq 23, 3, 126, 0, []) := rfl
theorem rw_101_106 : mm_code 101 106 = some (.aload_n 0, 1, 0, 0, []) := rfl
theorem rw_101_107 : mm_code 101 107 = some (.aload_n 1, 1, 0, 0, []) := rfl
theorem rw_101_108 : mm_code 101 108 = some (.aload_n 2, 1, 0, 0, []) := rfl
theorem rw_101_109 : mm_code 101 109 = some (.aload_n 3, 1, 0, 0, []) := rfl
theorem rw_101_110 : mm_code 101 110 = some (.iload 4, 2, 0, 0, []) := rfl
theorem rw_101_112 : mm_code 101 112 = some (.invokevirtual 87, 3, 103, 5, [26, 0]) := rfl
theorem rw_101_115 : mm_code 101 115 = some (.ifCond .ne 5, 3, 120, 0, []) := rfl
theorem rw_101_118 : mm_code 101 118 = some (.iconst 0, 1, 0, 0, []) := rfl
theorem rw_101_119 : mm_code 101 119 = some (.ireturn, 1, 1, 0, []) := rfl
theorem rw_101_120 : mm_code 101 120 = some (.iinc 5 1, 3, 1, 0, []) := rfl
theorem rw_101_123 : mm_code 101 123 = some (.goto (-34), 3, 89, 0, []) := rfl
theorem rw_101_126 : mm_code 101 126 = some (.aload_n 1, 1, 0, 0, []) := rfl
theorem rw_101_127 : mm_code 101 127 = some (.bipush 59, 2, 59, 0, []) := rfl
theorem rw_101_129 : mm_code 101 129 = some (.invokevirtual 90, 3, 90, 2, [27, 0]) := rfl
theorem rw_101_132 : mm_code 101 132 = some (.ireturn, 1, 1, 0, []) := rfl
theorem rw_102_0 : mm_code 102 0 = some (.aload_n 1, 1, 0, 0, []) := rfl
theorem rw_102_1 : mm_code 102 1 = some (.getfield 48, 3, 8, 7, [0, 11]) := rfl
theorem rw_102_4 : mm_code 102 4 = some (.iconst 3, 1, 3, 0, []) := rfl
theorem rw_102_5 : mm_code 102 5 = some (.if_icmp .ne 13, 3, 18, 0, []) := rfl
theorem rw_102_8 : mm_code 102 8 = some (.aload_n 1, 1, 0, 0, []) := rfl
theorem rw_102_9 : mm_code 102 9 = some (.getfield 54, 3, 8, 8, [0, 13]) := rfl
theorem rw_102_12 : mm_code 102 12 = some (.bipush 25, 2, 25, 0, []) := rfl
theorem rw_102_14 : mm_code 102 14 = some (.ishr, 1, 0, 0, []) := rfl
theorem rw_102_15 : mm_code 102 15 = some (.goto 4, 3, 19, 0, []) := rfl
theorem rw_102_18 : mm_code 102 18 = some (.iconst 0, 1, 0, 0, []) := rfl
theorem rw_102_19 : mm_code 102 19 = some (.istore 4, 2, 0, 0, []) := rfl
theorem rw_102_21 : mm_code 102 21 = some (.iload 4, 2, 0, 0, []) := rfl
theorem rw_102_23 : mm_code 102 23 = some (.iconst 1, 1, 1, 0, []) := rfl
theorem rw_102_24 : mm_code 102 24 = some (.if_icmp .lt 22, 3, 46, 0, []) := rfl
theorem rw_102_27 : mm_code 102 27 = some (.iload 4, 2, 0, 0, []) := rfl
theorem rw_102_29 : mm_code 102 29 = some (.bipush 6, 2, 6, 0, []) := rfl
theorem rw_102_31 : mm_code 102 31 = some (.if_icmp .gt 15, 3, 46, 0, []) := rfl
theorem rw_102_34 : mm_code 102 34 = some (.aload_n 1, 1, 0, 0, []) := rfl
theorem rw_102_35 : mm_code 102 35 = some (.getfield 54, 3, 8, 8, [0, 13]) := rfl
theorem rw_102_38 : mm_code 102 38 = some (.iload 4, 2, 0, 0, []) := rfl
theorem rw_102_40 : mm_code 102 40 = some (.bipush 25, 2, 25, 0, []) := rfl
theorem rw_102_42 : mm_code 102 42 = some (.ishl, 1, 0, 0, []) := rfl
theorem rw_102_43 : mm_code 102 43 = some (.if_icmp .eq 9, 3, 52, 0, []) := rfl
theorem rw_102_46 : mm_code 102 46 = some (.aload_n 1, 1, 0, 0, []) := rfl
theorem rw_102_47 : mm_code 102 47 = some (.iconst 1, 1, 1, 0, []) := rfl
theorem rw_102_48 : mm_code 102 48 = some (.invokevirtual 60, 3, 84, 2, [17, 0]) := rfl
theorem rw_102_51 : mm_code 102 51 = some (.ireturn, 1, 1, 0, []) := rfl
theorem rw_102_52 : mm_code 102 52 = some (.aload_n 2, 1, 0, 0, []) := rfl
theorem rw_102_53 : mm_code 102 53 = some (.iload_n 3, 1, 0, 0, []) := rfl
theorem rw_102_54 : mm_code 102 54 = some (.iload 4, 2, 0, 0, []) := rfl
theorem rw_102_56 : mm_code 102 56 = some (.iconst 1, 1, 1, 0, []) := rfl
theorem rw_102_57 : mm_code 102 57 = some (.isub, 1, 0, 0, []) := rfl
theorem rw_102_58 : mm_code 102 58 = some (.iastore, 1, 0, 0, []) := rfl
theorem rw_102_59 : mm_code 102 59 = some (.aload_n 1, 1, 0, 0, []) := rfl
theorem rw_102_60 : mm_code 102 60 = some (.invokevirtual 64, 3, 83, 1, [18, 0]) := rfl
theorem rw_102_63 : mm_code 102 63 = some (.iconst 1, 1, 1, 0, []) := rfl
theorem rw_102_64 : mm_code 102 64 = some (.ireturn, 1, 1, 0, []) := rfl
theorem rw_103_0 : mm_code 103 0 = some (.iconst 0, 1, 0, 0, []) := rfl
theorem rw_103_1 : mm_code 103 1 = some (.istore 5, 2, 0, 0, []) := rfl
theorem rw_103_3 : mm_code 103 3 = some (.aload_n 2, 1, 0, 0, []) := rfl
theorem rw_103_4 : mm_code 103 4 = some (.getfield 94, 3, 5, 0, [0, 28]) := rfl
theorem rw_103_7 : mm_code 103 7 = some (.iconst 1, 1, 1, 0, []) := rfl
theorem rw_103_8 : mm_code 103 8 = some (.isub, 1, 0, 0, []) := rfl
theorem rw_103_9 : mm_code 103 9 = some (.istore 6, 2, 0, 0, []) := rfl
theorem rw_103_11 : mm_code 103 11 = some (.aload_n 1, 1, 0, 0, []) := rfl
theorem rw_103_12 : mm_code 103 12 = some (.getfield 48, 3, 8, 7, [0, 11]) := rfl
theorem rw_103_15 : mm_code 103 15 = some (.iconst 3, 1, 3, 0, []) := rfl
theorem rw_103_16 : mm_code 103 16 = some (.if_icmp .ne 93, 3, 109, 0, []) := rfl
theorem rw_103_19 : mm_code 103 19 = some (.aload_n 2, 1, 0, 0, []) := rfl
theorem rw_103_20 : mm_code 103 20 = some (.aload_n 1, 1, 0, 0, []) := rfl
theorem rw_103_21 : mm_code 103 21 = some (.getfield 54, 3, 8, 8, [0, 13]) := rfl
theorem rw_103_24 : mm_code 103 24 = some (.invokevirtual 99, 3, 53, 2, [29, 0]) := rfl
theorem rw_103_27 : mm_code 103 27 = some (.istore 7, 2, 0, 0, []) := rfl
theorem rw_103_29 : mm_code 103 29 = some (.aload_n 2, 1, 0, 0, []) := rfl
theorem rw_103_30 : mm_code 103 30 = some (.iload 7, 2, 0, 0, []) := rfl
theorem rw_103_32 : mm_code 103 32 = some (.invokevirtual 103, 3, 44, 2, [30, 0]) := rfl
theorem rw_103_35 : mm_code 103 35 = some (.ifCond .eq 26, 3, 61, 0, []) := rfl
theorem rw_103_38 : mm_code 103 38 = some (.aload_n 0, 1, 0, 0, []) := rfl
theorem rw_103_39 : mm_code 103 39 = some (.getfield 24, 3, 9, 4, [3, 5]) := rfl
theorem rw_103_42 : mm_code 103 42 = some (.iload 4, 2, 0, 0, []) := rfl
theorem rw_103_44 : mm_code 103 44 = some (.dup2, 1, 0, 0, []) := rfl
theorem rw_103_45 : mm_code 103 45 = some (.laload, 1, 0, 0, []) := rfl
theorem rw_103_46 : mm_code 103 46 = some (.aload_n 3, 1, 0, 0, []) := rfl
theorem rw_103_47 : mm_code 103 47 = some (.getfield 106, 3, 1, 3, [3, 31]) := rfl
theorem rw_103_50 : mm_code 103 50 = some (.iload 7, 2, 0, 0, []) := rfl
theorem rw_103_52 : mm_code 103 52 = some (.laload, 1, 0, 0, []) := rfl
theorem rw_103_53 : mm_code 103 53 = some (.lor, 1, 0, 0, []) := rfl
theorem rw_103_54 : mm_code 103 54 = some (.lastore, 1, 0, 0, []) := rfl
theorem rw_103_55 : mm_code 103 55 = some (.aload_n 1, 1, 0, 0, []) := rfl
theorem rw_103_56 : mm_code 103 56 = some (.invokevirtual 64, 3, 83, 1, [18, 0]) := rfl
theorem rw_103_59 : mm_code 103 59 = some (.iconst 1, 1, 1, 0, []) := rfl
theorem rw_103_60 : mm_code 103 60 = some (.ireturn, 1, 1, 0, []) := rfl
theorem rw_103_61 : mm_code 103 61 = some (.aload_n 2, 1, 0, 0, []) := rfl
theorem rw_103_62 : mm_code 103 62 = some (.aload_n 1, 1, 0, 0, []) := rfl
theorem rw_103_63 : mm_code 103 63 = some (.getfield 54, 3, 8, 8, [0, 13]) := rfl
theorem rw_103_66 : mm_code 103 66 = some (.invokevirtual 111, 3, 52, 2, [32, 0]) := rfl
theorem rw_103_69 : mm_code 103 69 = some (.istore 8, 2, 0, 0, []) := rfl
theorem rw_103_71 : mm_code 103 71 = some (.aload_n 2, 1, 0, 0, []) := rfl
theorem rw_103_72 : mm_code 103 72 = some (.iload 8, 2, 0, 0, []) := rfl
theorem rw_103_74 : mm_code 103 74 = some (.invokevirtual 114, 3, 43, 2, [33, 0]) := rfl
theorem rw_103_77 : mm_code 103 77 = some (.ifCond .ne 9, 3, 86, 0, []) := rfl
theorem rw_103_80 : mm_code 103 80 = some (.aload_n 1, 1, 0, 0, []) := rfl
theorem rw_103_81 : mm_code 103 81 = some (.iconst 4, 1, 4, 0, []) := rfl
theorem rw_103_82 : mm_code 103 82 = some (.invokevirtual 60, 3, 84, 2, [17, 0]) := rfl
theorem rw_103_85 : mm_code 103 85 = some (.ireturn, 1, 1, 0, []) := rfl
theorem rw_103_86 : mm_code 103 86 = some (.aload_n 2, 1, 0, 0, []) := rfl
theorem rw_103_87 : mm_code 103 87 = some (.getfield 117, 3, 5, 7, [3, 34]) := rfl
theorem rw_103_90 : mm_code 103 90 = some (.iload 8, 2, 0, 0, []) := rfl
theorem rw_103_92 : mm_code 103 92 = some (.iaload, 1, 0, 0, []) := rfl
theorem rw_103_93 : mm_code 103 93 = some (.istore 5, 2, 0, 0, []) := rfl
theorem rw_103_95 : mm_code 103 95 = some (.aload_n 2, 1, 0, 0, []) := rfl
theorem rw_103_96 : mm_code 103 96 = some (.iload 8, 2, 0, 0, []) := rfl
theorem rw_103_98 : mm_code 103 98 = some (.invokevirtual 120, 3, 47, 2, [35, 0]) := rfl
theorem rw_103_101 : mm_code 103 101 = some (.iconst 1, 1, 1, 0, []) := rfl
theorem rw_103_102 : mm_code 103 102 = some (.isub, 1, 0, 0, []) := rfl
theorem rw_103_103 : mm_code 103 103 = some (.istore 6, 2, 0, 0, []) := rfl
theorem rw_103_105 : mm_code 103 105 = some (.aload_n 1, 1, 0, 0, []) := rfl
theorem rw_103_106 : mm_code 103 106 = some (.invokevirtual 64, 3, 83, 1, [18, 0]) := rfl
theorem rw_103_109 : mm_code 103 109 = some (.aload_n 1, 1, 0, 0, []) := rfl
theorem rw_103_110 : mm_code 103 110 = some (.iconst 0, 1, 0, 0, []) := rfl
theorem rw_103_111 : mm_code 103 111 = some (.iload 6, 2, 0, 0, []) := rfl
theorem rw_103_113 : mm_code 103 113 = some (.invokevirtual 123, 3, 88, 3, [36, 0]) := rfl
theorem rw_103_116 : mm_code 103 116 = some (.ifCond .ne 5, 3, 121, 0, []) := rfl
theorem rw_103_119 : mm_code 103 119 = some (.iconst 0, 1, 0, 0, []) := rfl
theorem rw_103_120 : mm_code 103 120 = some (.ireturn, 1, 1, 0, []) := rfl
theorem rw_103_121 : mm_code 103 121 = some (.aload_n 0, 1, 0, 0, []) := rfl
theorem rw_103_122 : mm_code 103 122 = some (.getfield 24, 3, 9, 4, [3, 5]) := rfl
theorem rw_103_125 : mm_code 103 125 = some (.iload 4, 2, 0, 0, []) := rfl
theorem rw_103_127 : mm_code 103 127 = some (.dup2, 1, 0, 0, []) := rfl
theorem rw_103_128 : mm_code 103 128 = some (.laload, 1, 0, 0, []) := rfl
theorem rw_103_129 : mm_code 103 129 = some (.lconst 1, 1, 1, 0, []) := rfl
theorem rw_103_130 : mm_code 103 130 = some (.iload 5, 2, 0, 0, []) := rfl
theorem rw_103_132 : mm_code 103 132 = some (.aload_n 1, 1, 0, 0, []) := rfl
theorem rw_103_133 : mm_code 103 133 = some (.getfield 54, 3, 8, 8, [0, 13]) := rfl
theorem rw_103_136 : mm_code 103 136 = some (.iadd, 1, 0, 0, []) := rfl
theorem rw_103_137 : mm_code 103 137 = some (.lshl, 1, 0, 0, []) := rfl
theorem rw_103_138 : mm_code 103 138 = some (.lor, 1, 0, 0, []) := rfl
theorem rw_103_139 : mm_code 103 139 = some (.lastore, 1, 0, 0, []) := rfl
theorem rw_103_140 : mm_code 103 140 = some (.aload_n 1, 1, 0, 0, []) := rfl
theorem rw_103_141 : mm_code 103 141 = some (.invokevirtual 64, 3, 83, 1, [18, 0]) := rfl
theorem rw_103_144 : mm_code 103 144 = some (.iconst 1, 1, 1, 0, []) := rfl
theorem rw_103_145 : mm_code 103 145 = some (.ireturn, 1, 1, 0, []) := rfl
theorem rw_104_0 : mm_code 104 0 = some (.aload_n 0, 1, 0, 0, []) := rfl
theorem rw_104_1 : mm_code 104 1 = some (.aload_n 1, 1, 0, 0, []) := rfl
theorem rw_104_2 : mm_code 104 2 = some (.aload_n 0, 1, 0, 0, []) := rfl
theorem rw_104_3 : mm_code 104 3 = some (.getfield 15, 3, 9, 1, [3, 2]) := rfl
theorem rw_104_6 : mm_code 104 6 = some (.iload_n 2, 1, 0, 0, []) := rfl
theorem rw_104_7 : mm_code 104 7 = some (.invokevirtual 78, 3, 102, 4, [22, 0]) := rfl
theorem rw_104_10 : mm_code 104 10 = some (.ifCond .ne 5, 3, 15, 0, []) := rfl
theorem rw_104_13 : mm_code 104 13 = some (.iconst 0, 1, 0, 0, []) := rfl
theorem rw_104_14 : mm_code 104 14 = some (.ireturn, 1, 1, 0, []) := rfl
theorem rw_104_15 : mm_code 104 15 = some (.aload_n 1, 1, 0, 0, []) := rfl
theorem rw_104_16 : mm_code 104 16 = some (.getfield 127, 3, 8, 9, [0, 37]) := rfl
theorem rw_104_19 : mm_code 104 19 = some (.istore_n 3, 1, 0, 0, []) := rfl
theorem rw_104_20 : mm_code 104 20 = some (.aload_n 0, 1, 0, 0, []) := rfl
theorem rw_104_21 : mm_code 104 21 = some (.aload_n 1, 1, 0, 0, []) := rfl
theorem rw_104_22 : mm_code 104 22 = some (.aload_n 0, 1, 0, 0, []) := rfl
theorem rw_104_23 : mm_code 104 23 = some (.getfield 18, 3, 9, 2, [3, 3]) := rfl
theorem rw_104_26 : mm_code 104 26 = some (.iload_n 2, 1, 0, 0, []) := rfl
theorem rw_104_27 : mm_code 104 27 = some (.invokevirtual 78, 3, 102, 4, [22, 0]) := rfl
theorem rw_104_30 : mm_code 104 30 = some (.ifCond .ne 5, 3, 35, 0, []) := rfl
theorem rw_104_33 : mm_code 104 33 = some (.iconst 0, 1, 0, 0, []) := rfl
theorem rw_104_34 : mm_code 104 34 = some (.ireturn, 1, 1, 0, []) := rfl
theorem rw_104_35 : mm_code 104 35 = some (.aload_n 0, 1, 0, 0, []) := rfl
theorem rw_104_36 : mm_code 104 36 = some (.getfield 15, 3, 9, 1, [3, 2]) := rfl
theorem rw_104_39 : mm_code 104 39 = some (.iload_n 2, 1, 0, 0, []) := rfl
theorem rw_104_40 : mm_code 104 40 = some (.iaload, 1, 0, 0, []) := rfl
theorem rw_104_41 : mm_code 104 41 = some (.aload_n 0, 1, 0, 0, []) := rfl
theorem rw_104_42 : mm_code 104 42 = some (.getfield 18, 3, 9, 2, [3, 3]) := rfl
theorem rw_104_45 : mm_code 104 45 = some (.iload_n 2, 1, 0, 0, []) := rfl
theorem rw_104_46 : mm_code 104 46 = some (.iaload, 1, 0, 0, []) := rfl
theorem rw_104_47 : mm_code 104 47 = some (.if_icmp .ne 10, 3, 57, 0, []) := rfl
theorem rw_104_50 : mm_code 104 50 = some (.aload_n 1, 1, 0, 0, []) := rfl
theorem rw_104_51 : mm_code 104 51 = some (.iconst 3, 1, 3, 0, []) := rfl
theorem rw_104_52 : mm_code 104 52 = some (.iload_n 3, 1, 0, 0, []) := rfl
theorem rw_104_53 : mm_code 104 53 = some (.invokevirtual 130, 3, 85, 3, [38, 0]) := rfl
theorem rw_104_56 : mm_code 104 56 = some (.ireturn, 1, 1, 0, []) := rfl
theorem rw_104_57 : mm_code 104 57 = some (.aload_n 1, 1, 0, 0, []) := rfl
theorem rw_104_58 : mm_code 104 58 = some (.bipush 59, 2, 59, 0, []) := rfl
theorem rw_104_60 : mm_code 104 60 = some (.invokevirtual 90, 3, 90, 2, [27, 0]) := rfl
theorem rw_104_63 : mm_code 104 63 = some (.ireturn, 1, 1, 0, []) := rfl
theorem rw_105_0 : mm_code 105 0 = some (.aload_n 1, 1, 0, 0, []) := rfl
theorem rw_105_1 : mm_code 105 1 = some (.iconst 0, 1, 0, 0, []) := rfl
theorem rw_105_2 : mm_code 105 2 = some (.bipush 99, 2, 99, 0, []) := rfl
theorem rw_105_4 : mm_code 105 4 = some (.invokevirtual 123, 3, 88, 3, [36, 0]) := rfl
theorem rw_105_7 : mm_code 105 7 = some (.ifCond .ne 5, 3, 12, 0, []) := rfl
theorem rw_105_10 : mm_code 105 10 = some (.iconst 0, 1, 0, 0, []) := rfl
theorem rw_105_11 : mm_code 105 11 = some (.ireturn, 1, 1, 0, []) := rfl
theorem rw_105_12 : mm_code 105 12 = some (.aload_n 0, 1, 0, 0, []) := rfl
theorem rw_105_13 : mm_code 105 13 = some (.getfield 28, 3, 9, 5, [3, 6]) := rfl
theorem rw_105_16 : mm_code 105 16 = some (.iload 5, 2, 0, 0, []) := rfl
theorem rw_105_18 : mm_code 105 18 = some (.aload_n 1, 1, 0, 0, []) := rfl
theorem rw_105_19 : mm_code 105 19 = some (.getfield 54, 3, 8, 8, [0, 13]) := rfl
theorem rw_105_22 : mm_code 105 22 = some (.iastore, 1, 0, 0, []) := rfl
theorem rw_105_23 : mm_code 105 23 = some (.aload_n 1, 1, 0, 0, []) := rfl
theorem rw_105_24 : mm_code 105 24 = some (.invokevirtual 64, 3, 83, 1, [18, 0]) := rfl
theorem rw_105_27 : mm_code 105 27 = some (.aload_n 1, 1, 0, 0, []) := rfl
theorem rw_105_28 : mm_code 105 28 = some (.getfield 48, 3, 8, 7, [0, 11]) := rfl
theorem rw_105_31 : mm_code 105 31 = some (.bipush 40, 2, 40, 0, []) := rfl
theorem rw_105_33 : mm_code 105 33 = some (.if_icmp .ne 15, 3, 48, 0, []) := rfl
theorem rw_105_36 : mm_code 105 36 = some (.iload 4, 2, 0, 0, []) := rfl
theorem rw_105_38 : mm_code 105 38 = some (.iconst 5, 1, 5, 0, []) := rfl
theorem rw_105_39 : mm_code 105 39 = some (.if_icmp .lt 9, 3, 48, 0, []) := rfl
theorem rw_105_42 : mm_code 105 42 = some (.aload_n 1, 1, 0, 0, []) := rfl
theorem rw_105_43 : mm_code 105 43 = some (.iconst 2, 1, 2, 0, []) := rfl
theorem rw_105_44 : mm_code 105 44 = some (.invokevirtual 60, 3, 84, 2, [17, 0]) := rfl
theorem rw_105_47 : mm_code 105 47 = some (.ireturn, 1, 1, 0, []) := rfl
theorem rw_105_48 : mm_code 105 48 = some (.aload_n 1, 1, 0, 0, []) := rfl
theorem rw_105_49 : mm_code 105 49 = some (.bipush 40, 2, 40, 0, []) := rfl
theorem rw_105_51 : mm_code 105 51 = some (.invokevirtual 90, 3, 90, 2, [27, 0]) := rfl
theorem rw_105_54 : mm_code 105 54 = some (.ifCond .eq 30, 3, 84, 0, []) := rfl
theorem rw_105_57 : mm_code 105 57 = some (.aload_n 0, 1, 0, 0, []) := rfl
theorem rw_105_58 : mm_code 105 58 = some (.aload_n 1, 1, 0, 0, []) := rfl
theorem rw_105_59 : mm_code 105 59 = some (.aload_n 2, 1, 0, 0, []) := rfl
theorem rw_105_60 : mm_code 105 60 = some (.aload_n 3, 1, 0, 0, []) := rfl
theorem rw_105_61 : mm_code 105 61 = some (.iload 4, 2, 0, 0, []) := rfl
theorem rw_105_63 : mm_code 105 63 = some (.iconst 1, 1, 1, 0, []) := rfl
theorem rw_105_64 : mm_code 105 64 = some (.iadd, 1, 0, 0, []) := rfl
theorem rw_105_65 : mm_code 105 65 = some (.invokevirtual 38, 3, 99, 5, [9, 0]) := rfl
theorem rw_105_68 : mm_code 105 68 = some (.ifCond .eq 16, 3, 84, 0, []) := rfl
theorem rw_105_71 : mm_code 105 71 = some (.aload_n 1, 1, 0, 0, []) := rfl
theorem rw_105_72 : mm_code 105 72 = some (.bipush 41, 2, 41, 0, []) := rfl
theorem rw_105_74 : mm_code 105 74 = some (.invokevirtual 90, 3, 90, 2, [27, 0]) := rfl
theorem rw_105_77 : mm_code 105 77 = some (.ifCond .eq 7, 3, 84, 0, []) := rfl
theorem rw_105_80 : mm_code 105 80 = some (.iconst 1, 1, 1, 0, []) := rfl
theorem rw_105_81 : mm_code 105 81 = some (.goto 4, 3, 85, 0, []) := rfl
theorem rw_105_84 : mm_code 105 84 = some (.iconst 0, 1, 0, 0, []) := rfl
theorem rw_105_85 : mm_code 105 85 = some (.ireturn, 1, 1, 0, []) := rfl
theorem rw_106_0 : mm_code 106 0 = some (.aload_n 0, 1, 0, 0, []) := rfl
theorem rw_106_1 : mm_code 106 1 = some (.iconst 0, 1, 0, 0, []) := rfl
theorem rw_106_2 : mm_code 106 2 = some (.putfield 133, 3, 9, 8, [0, 39]) := rfl
theorem rw_106_5 : mm_code 106 5 = some (.aload_n 0, 1, 0, 0, []) := rfl
theorem rw_106_6 : mm_code 106 6 = some (.iconst 0, 1, 0, 0, []) := rfl
theorem rw_106_7 : mm_code 106 7 = some (.putfield 136, 3, 9, 9, [0, 40]) := rfl
theorem rw_106_10 : mm_code 106 10 = some (.aload_n 0, 1, 0, 0, []) := rfl
theorem rw_106_11 : mm_code 106 11 = some (.iconst 0, 1, 0, 0, []) := rfl
theorem rw_106_12 : mm_code 106 12 = some (.putfield 139, 3, 9, 10, [1, 41]) := rfl
theorem rw_106_15 : mm_code 106 15 = some (.aload_n 0, 1, 0, 0, []) := rfl
theorem rw_106_16 : mm_code 106 16 = some (.aload_n 1, 1, 0, 0, []) := rfl
theorem rw_106_17 : mm_code 106 17 = some (.iconst 0, 1, 0, 0, []) := rfl
theorem rw_106_18 : mm_code 106 18 = some (.aload_n 0, 1, 0, 0, []) := rfl
theorem rw_106_19 : mm_code 106 19 = some (.getfield 34, 3, 9, 7, [0, 8]) := rfl
theorem rw_106_22 : mm_code 106 22 = some (.iconst 0, 1, 0, 0, []) := rfl
theorem rw_106_23 : mm_code 106 23 = some (.invokevirtual 143, 3, 107, 5, [42, 0]) := rfl
theorem rw_106_26 : mm_code 106 26 = some (.aload_n 0, 1, 0, 0, []) := rfl
theorem rw_106_27 : mm_code 106 27 = some (.getfield 139, 3, 9, 10, [1, 41]) := rfl
theorem rw_106_30 : mm_code 106 30 = some (.ifCond .ne 7, 3, 37, 0, []) := rfl
theorem rw_106_33 : mm_code 106 33 = some (.iconst 1, 1, 1, 0, []) := rfl
theorem rw_106_34 : mm_code 106 34 = some (.goto 4, 3, 38, 0, []) := rfl
theorem rw_106_37 : mm_code 106 37 = some (.iconst 0, 1, 0, 0, []) := rfl
theorem rw_106_38 : mm_code 106 38 = some (.ireturn, 1, 1, 0, []) := rfl
theorem rw_107_0 : mm_code 107 0 = some (.iload 4, 2, 0, 0, []) := rfl
theorem rw_107_2 : mm_code 107 2 = some (.iconst 5, 1, 5, 0, []) := rfl
theorem rw_107_3 : mm_code 107 3 = some (.if_icmp .le 4, 3, 7, 0, []) := rfl
theorem rw_107_6 : mm_code 107 6 = some (.return_, 1, 0, 0, []) := rfl
theorem rw_107_7 : mm_code 107 7 = some (.iload_n 2, 1, 0, 0, []) := rfl
theorem rw_107_8 : mm_code 107 8 = some (.istore 5, 2, 0, 0, []) := rfl
theorem rw_107_10 : mm_code 107 10 = some (.iload 5, 2, 0, 0, []) := rfl
theorem rw_107_12 : mm_code 107 12 = some (.iload_n 3, 1, 0, 0, []) := rfl
theorem rw_107_13 : mm_code 107 13 = some (.if_icmp .ge 73, 3, 86, 0, []) := rfl
theorem rw_107_16 : mm_code 107 16 = some (.iload 5, 2, 0, 0, []) := rfl
theorem rw_107_18 : mm_code 107 18 = some (.bipush 40, 2, 40, 0, []) := rfl
theorem rw_107_20 : mm_code 107 20 = some (.if_icmp .ge 66, 3, 86, 0, []) := rfl
theorem rw_107_23 : mm_code 107 23 = some (.aload_n 0, 1, 0, 0, []) := rfl
theorem rw_107_24 : mm_code 107 24 = some (.getfield 139, 3, 9, 10, [1, 41]) := rfl
theorem rw_107_27 : mm_code 107 27 = some (.ifCond .ne 59, 3, 86, 0, []) := rfl
theorem rw_107_30 : mm_code 107 30 = some (.aload_n 0, 1, 0, 0, []) := rfl
theorem rw_107_31 : mm_code 107 31 = some (.getfield 133, 3, 9, 8, [0, 39]) := rfl
theorem rw_107_34 : mm_code 107 34 = some (.sipush 3000, 3, 3000, 0, []) := rfl
theorem rw_107_37 : mm_code 107 37 = some (.if_icmp .lt 11, 3, 48, 0, []) := rfl
theorem rw_107_40 : mm_code 107 40 = some (.aload_n 0, 1, 0, 0, []) := rfl
theorem rw_107_41 : mm_code 107 41 = some (.iconst 1, 1, 1, 0, []) := rfl
theorem rw_107_42 : mm_code 107 42 = some (.putfield 139, 3, 9, 10, [1, 41]) := rfl
theorem rw_107_45 : mm_code 107 45 = some (.goto 22, 3, 67, 0, []) := rfl
theorem rw_107_48 : mm_code 107 48 = some (.aload_n 0, 1, 0, 0, []) := rfl
theorem rw_107_49 : mm_code 107 49 = some (.dup, 1, 0, 0, []) := rfl
theorem rw_107_50 : mm_code 107 50 = some (.getfield 133, 3, 9, 8, [0, 39]) := rfl
theorem rw_107_53 : mm_code 107 53 = some (.iconst 1, 1, 1, 0, []) := rfl
theorem rw_107_54 : mm_code 107 54 = some (.iadd, 1, 0, 0, []) := rfl
theorem rw_107_55 : mm_code 107 55 = some (.putfield 133, 3, 9, 8, [0, 39]) := rfl
theorem rw_107_58 : mm_code 107 58 = some (.aload_n 0, 1, 0, 0, []) := rfl
theorem rw_107_59 : mm_code 107 59 = some (.aload_n 1, 1, 0, 0, []) := rfl
theorem rw_107_60 : mm_code 107 60 = some (.iload 5, 2, 0, 0, []) := rfl
theorem rw_107_62 : mm_code 107 62 = some (.iload 4, 2, 0, 0, []) := rfl
theorem rw_107_64 : mm_code 107 64 = some (.invokevirtual 147, 3, 108, 4, [43, 0]) := rfl
theorem rw_107_67 : mm_code 107 67 = some (.iload 5, 2, 0, 0, []) := rfl
theorem rw_107_69 : mm_code 107 69 = some (.iconst 1, 1, 1, 0, []) := rfl
theorem rw_107_70 : mm_code 107 70 = some (.iadd, 1, 0, 0, []) := rfl
theorem rw_107_71 : mm_code 107 71 = some (.aload_n 0, 1, 0, 0, []) := rfl
theorem rw_107_72 : mm_code 107 72 = some (.getfield 31, 3, 9, 6, [3, 7]) := rfl
theorem rw_107_75 : mm_code 107 75 = some (.iload 5, 2, 0, 0, []) := rfl
theorem rw_107_77 : mm_code 107 77 = some (.iaload, 1, 0, 0, []) := rfl
theorem rw_107_78 : mm_code 107 78 = some (.invokestatic 151, 3, 997, 2, [44, 0]) := rfl
theorem rw_107_81 : mm_code 107 81 = some (.istore 5, 2, 0, 0, []) := rfl
theorem rw_107_83 : mm_code 107 83 = some (.goto (-73), 3, 10, 0, []) := rfl
theorem rw_107_86 : mm_code 107 86 = some (.return_, 1, 0, 0, []) := rfl
theorem rw_108_0 : mm_code 108 0 = some (.aload_n 0, 1, 0, 0, []) := rfl
theorem rw_108_1 : mm_code 108 1 = some (.getfield 9, 3, 9, 0, [3, 1]) := rfl
theorem rw_108_4 : mm_code 108 4 = some (.iload_n 2, 1, 0, 0, []) := rfl
theorem rw_108_5 : mm_code 108 5 = some (.iaload, 1, 0, 0, []) := rfl
theorem rw_108_6 : mm_code 108 6 = some (.ldc 57, 2, 538561536, 0, [14]) := rfl
theorem rw_108_8 : mm_code 108 8 = some (.if_icmp .ne 44, 3, 52, 0, []) := rfl
theorem rw_108_11 : mm_code 108 11 = some (.aload_n 0, 1, 0, 0, []) := rfl
theorem rw_108_12 : mm_code 108 12 = some (.dup, 1, 0, 0, []) := rfl
theorem rw_108_13 : mm_code 108 13 = some (.getfield 136, 3, 9, 9, [0, 40]) := rfl
theorem rw_108_16 : mm_code 108 16 = some (.iconst 1, 1, 1, 0, []) := rfl
theorem rw_108_17 : mm_code 108 17 = some (.iadd, 1, 0, 0, []) := rfl
theorem rw_108_18 : mm_code 108 18 = some (.putfield 136, 3, 9, 9, [0, 40]) := rfl
theorem rw_108_21 : mm_code 108 21 = some (.aload_n 1, 1, 0, 0, []) := rfl
theorem rw_108_22 : mm_code 108 22 = some (.aload_n 0, 1, 0, 0, []) := rfl
theorem rw_108_23 : mm_code 108 23 = some (.getfield 15, 3, 9, 1, [3, 2]) := rfl
theorem rw_108_26 : mm_code 108 26 = some (.iload_n 2, 1, 0, 0, []) := rfl
theorem rw_108_27 : mm_code 108 27 = some (.iaload, 1, 0, 0, []) := rfl
theorem rw_108_28 : mm_code 108 28 = some (.aload_n 0, 1, 0, 0, []) := rfl
theorem rw_108_29 : mm_code 108 29 = some (.getfield 18, 3, 9, 2, [3, 3]) := rfl
theorem rw_108_32 : mm_code 108 32 = some (.iload_n 2, 1, 0, 0, []) := rfl
theorem rw_108_33 : mm_code 108 33 = some (.iaload, 1, 0, 0, []) := rfl
theorem rw_108_34 : mm_code 108 34 = some (.aload_n 0, 1, 0, 0, []) := rfl
theorem rw_108_35 : mm_code 108 35 = some (.getfield 21, 3, 9, 3, [3, 4]) := rfl
theorem rw_108_38 : mm_code 108 38 = some (.iload_n 2, 1, 0, 0, []) := rfl
theorem rw_108_39 : mm_code 108 39 = some (.iaload, 1, 0, 0, []) := rfl
theorem rw_108_40 : mm_code 108 40 = some (.aload_n 0, 1, 0, 0, []) := rfl
theorem rw_108_41 : mm_code 108 41 = some (.getfield 24, 3, 9, 4, [3, 5]) := rfl
theorem rw_108_44 : mm_code 108 44 = some (.iload_n 2, 1, 0, 0, []) := rfl
theorem rw_108_45 : mm_code 108 45 = some (.laload, 1, 0, 0, []) := rfl
theorem rw_108_46 : mm_code 108 46 = some (.invokevirtual 157, 3, 28, 5, [45, 0]) := rfl
theorem rw_108_49 : mm_code 108 49 = some (.goto 84, 3, 133, 0, []) := rfl
theorem rw_108_52 : mm_code 108 52 = some (.aload_n 0, 1, 0, 0, []) := rfl
theorem rw_108_53 : mm_code 108 53 = some (.getfield 9, 3, 9, 0, [3, 1]) := rfl
theorem rw_108_56 : mm_code 108 56 = some (.iload_n 2, 1, 0, 0, []) := rfl
theorem rw_108_57 : mm_code 108 57 = some (.iaload, 1, 0, 0, []) := rfl
theorem rw_108_58 : mm_code 108 58 = some (.ldc 58, 2, 351582208, 0, [15]) := rfl
theorem rw_108_60 : mm_code 108 60 = some (.if_icmp .ne 29, 3, 89, 0, []) := rfl
theorem rw_108_63 : mm_code 108 63 = some (.aload_n 1, 1, 0, 0, []) := rfl
theorem rw_108_64 : mm_code 108 64 = some (.aload_n 0, 1, 0, 0, []) := rfl
theorem rw_108_65 : mm_code 108 65 = some (.getfield 15, 3, 9, 1, [3, 2]) := rfl
theorem rw_108_68 : mm_code 108 68 = some (.iload_n 2, 1, 0, 0, []) := rfl
theorem rw_108_69 : mm_code 108 69 = some (.iaload, 1, 0, 0, []) := rfl
theorem rw_108_70 : mm_code 108 70 = some (.aload_n 0, 1, 0, 0, []) := rfl
theorem rw_108_71 : mm_code 108 71 = some (.getfield 18, 3, 9, 2, [3, 3]) := rfl
theorem rw_108_74 : mm_code 108 74 = some (.iload_n 2, 1, 0, 0, []) := rfl
theorem rw_108_75 : mm_code 108 75 = some (.iaload, 1, 0, 0, []) := rfl
theorem rw_108_76 : mm_code 108 76 = some (.aload_n 0, 1, 0, 0, []) := rfl
theorem rw_108_77 : mm_code 108 77 = some (.getfield 18, 3, 9, 2, [3, 3]) := rfl
theorem rw_108_80 : mm_code 108 80 = some (.iload_n 2, 1, 0, 0, []) := rfl
theorem rw_108_81 : mm_code 108 81 = some (.iaload, 1, 0, 0, []) := rfl
theorem rw_108_82 : mm_code 108 82 = some (.lconst 0, 1, 0, 0, []) := rfl
theorem rw_108_83 : mm_code 108 83 = some (.invokevirtual 157, 3, 28, 5, [45, 0]) := rfl
theorem rw_108_86 : mm_code 108 86 = some (.goto 47, 3, 133, 0, []) := rfl
theorem rw_108_89 : mm_code 108 89 = some (.iconst 0, 1, 0, 0, []) := rfl
theorem rw_108_90 : mm_code 108 90 = some (.istore 4, 2, 0, 0, []) := rfl
theorem rw_108_92 : mm_code 108 92 = some (.iload 4, 2, 0, 0, []) := rfl
theorem rw_108_94 : mm_code 108 94 = some (.aload_n 0, 1, 0, 0, []) := rfl
theorem rw_108_95 : mm_code 108 95 = some (.getfield 28, 3, 9, 5, [3, 6]) := rfl
theorem rw_108_98 : mm_code 108 98 = some (.iload_n 2, 1, 0, 0, []) := rfl
theorem rw_108_99 : mm_code 108 99 = some (.iaload, 1, 0, 0, []) := rfl
theorem rw_108_100 : mm_code 108 100 = some (.if_icmp .ge 33, 3, 133, 0, []) := rfl
theorem rw_108_103 : mm_code 108 103 = some (.aload_n 0, 1, 0, 0, []) := rfl
theorem rw_108_104 : mm_code 108 104 = some (.getfield 139, 3, 9, 10, [1, 41]) := rfl
theorem rw_108_107 : mm_code 108 107 = some (.ifCond .ne 26, 3, 133, 0, []) := rfl
theorem rw_108_110 : mm_code 108 110 = some (.aload_n 0, 1, 0, 0, []) := rfl
theorem rw_108_111 : mm_code 108 111 = some (.aload_n 1, 1, 0, 0, []) := rfl
theorem rw_108_112 : mm_code 108 112 = some (.iload_n 2, 1, 0, 0, []) := rfl
theorem rw_108_113 : mm_code 108 113 = some (.iconst 1, 1, 1, 0, []) := rfl
theorem rw_108_114 : mm_code 108 114 = some (.iadd, 1, 0, 0, []) := rfl
theorem rw_108_115 : mm_code 108 115 = some (.aload_n 0, 1, 0, 0, []) := rfl
theorem rw_108_116 : mm_code 108 116 = some (.getfield 31, 3, 9, 6, [3, 7]) := rfl
theorem rw_108_119 : mm_code 108 119 = some (.iload_n 2, 1, 0, 0, []) := rfl
theorem rw_108_120 : mm_code 108 120 = some (.iaload, 1, 0, 0, []) := rfl
theorem rw_108_121 : mm_code 108 121 = some (.iload_n 3, 1, 0, 0, []) := rfl
theorem rw_108_122 : mm_code 108 122 = some (.iconst 1, 1, 1, 0, []) := rfl
theorem rw_108_123 : mm_code 108 123 = some (.iadd, 1, 0, 0, []) := rfl
theorem rw_108_124 : mm_code 108 124 = some (.invokevirtual 143, 3, 107, 5, [42, 0]) := rfl
theorem rw_108_127 : mm_code 108 127 = some (.iinc 4 1, 3, 1, 0, []) := rfl
theorem rw_108_130 : mm_code 108 130 = some (.goto (-38), 3, 92, 0, []) := rfl
theorem rw_108_133 : mm_code 108 133 = some (.return_, 1, 0, 0, []) := rfl
theorem rw_110_0 : mm_code 110 0 = some (.aload_n 0, 1, 0, 0, []) := rfl
theorem rw_110_1 : mm_code 110 1 = some (.getfield 10, 3, 10, 0, [3, 2]) := rfl
theorem rw_110_4 : mm_code 110 4 = some (.getfield 89, 3, 8, 1, [0, 24]) := rfl
theorem rw_110_7 : mm_code 110 7 = some (.sipush 480, 3, 480, 0, []) := rfl
theorem rw_110_10 : mm_code 110 10 = some (.if_icmp .le 5, 3, 15, 0, []) := rfl
theorem rw_110_13 : mm_code 110 13 = some (.iconst (-1), 1, 1, 1, []) := rfl
theorem rw_110_14 : mm_code 110 14 = some (.ireturn, 1, 0, 0, []) := rfl
theorem rw_110_15 : mm_code 110 15 = some (.aload_n 0, 1, 0, 0, []) := rfl
theorem rw_110_16 : mm_code 110 16 = some (.getfield 10, 3, 10, 0, [3, 2]) := rfl
theorem rw_110_19 : mm_code 110 19 = some (.iload_n 1, 1, 0, 0, []) := rfl
theorem rw_110_20 : mm_code 110 20 = some (.invokevirtual 92, 3, 77, 2, [25, 0]) := rfl
theorem rw_110_23 : mm_code 110 23 = some (.aload_n 0, 1, 0, 0, []) := rfl
theorem rw_110_24 : mm_code 110 24 = some (.getfield 10, 3, 10, 0, [3, 2]) := rfl
theorem rw_110_27 : mm_code 110 27 = some (.iload_n 2, 1, 0, 0, []) := rfl
theorem rw_110_28 : mm_code 110 28 = some (.invokevirtual 92, 3, 77, 2, [25, 0]) := rfl
theorem rw_110_31 : mm_code 110 31 = some (.aload_n 0, 1, 0, 0, []) := rfl
theorem rw_110_32 : mm_code 110 32 = some (.getfield 10, 3, 10, 0, [3, 2]) := rfl
theorem rw_110_35 : mm_code 110 35 = some (.iload_n 3, 1, 0, 0, []) := rfl
theorem rw_110_36 : mm_code 110 36 = some (.invokevirtual 92, 3, 77, 2, [25, 0]) := rfl
theorem rw_110_39 : mm_code 110 39 = some (.aload_n 0, 1, 0, 0, []) := rfl
theorem rw_110_40 : mm_code 110 40 = some (.getfield 10, 3, 10, 0, [3, 2]) := rfl
theorem rw_110_43 : mm_code 110 43 = some (.iload 4, 2, 0, 0, []) := rfl
theorem rw_110_45 : mm_code 110 45 = some (.invokevirtual 92, 3, 77, 2, [25, 0]) := rfl
theorem rw_110_48 : mm_code 110 48 = some (.aload_n 0, 1, 0, 0, []) := rfl
theorem rw_110_49 : mm_code 110 49 = some (.getfield 10, 3, 10, 0, [3, 2]) := rfl
theorem rw_110_52 : mm_code 110 52 = some (.iload 5, 2, 0, 0, []) := rfl
theorem rw_110_54 : mm_code 110 54 = some (.invokevirtual 92, 3, 77, 2, [25, 0]) := rfl
theorem rw_110_57 : mm_code 110 57 = some (.aload_n 0, 1, 0, 0, []) := rfl
theorem rw_110_58 : mm_code 110 58 = some (.getfield 10, 3, 10, 0, [3, 2]) := rfl
theorem rw_110_61 : mm_code 110 61 = some (.getfield 89, 3, 8, 1, [0, 24]) := rfl
theorem rw_110_64 : mm_code 110 64 = some (.ireturn, 1, 0, 0, []) := rfl
theorem rw_111_0 : mm_code 111 0 = some (.aload_n 0, 1, 0, 0, []) := rfl
theorem rw_111_1 : mm_code 111 1 = some (.getfield 10, 3, 10, 0, [3, 2]) := rfl
theorem rw_111_4 : mm_code 111 4 = some (.iload_n 1, 1, 0, 0, []) := rfl
theorem rw_111_5 : mm_code 111 5 = some (.invokevirtual 96, 3, 78, 2, [26, 0]) := rfl
theorem rw_111_8 : mm_code 111 8 = some (.ifCond .ne 6, 3, 14, 0, []) := rfl
theorem rw_111_11 : mm_code 111 11 = some (.bipush (-2), 2, 2, 1, []) := rfl
theorem rw_111_13 : mm_code 111 13 = some (.ireturn, 1, 0, 0, []) := rfl
theorem rw_111_14 : mm_code 111 14 = some (.aload_n 0, 1, 0, 0, []) := rfl
theorem rw_111_15 : mm_code 111 15 = some (.getfield 72, 3, 10, 9, [3, 19]) := rfl
theorem rw_111_18 : mm_code 111 18 = some (.aload_n 0, 1, 0, 0, []) := rfl
theorem rw_111_19 : mm_code 111 19 = some (.getfield 10, 3, 10, 0, [3, 2]) := rfl
theorem rw_111_22 : mm_code 111 22 = some (.invokevirtual 100, 3, 30, 2, [27, 0]) := rfl
theorem rw_111_25 : mm_code 111 25 = some (.ifCond .ne 5, 3, 30, 0, []) := rfl
theorem rw_111_28 : mm_code 111 28 = some (.iconst (-1), 1, 1, 1, []) := rfl
theorem rw_111_29 : mm_code 111 29 = some (.ireturn, 1, 0, 0, []) := rfl
theorem rw_111_30 : mm_code 111 30 = some (.aload_n 0, 1, 0, 0, []) := rfl
theorem rw_111_31 : mm_code 111 31 = some (.getfield 68, 3, 10, 8, [3, 18]) := rfl
theorem rw_111_34 : mm_code 111 34 = some (.astore_n 2, 1, 0, 0, []) := rfl
theorem rw_111_35 : mm_code 111 35 = some (.aload_n 0, 1, 0, 0, []) := rfl
theorem rw_111_36 : mm_code 111 36 = some (.aload_n 0, 1, 0, 0, []) := rfl
theorem rw_111_37 : mm_code 111 37 = some (.getfield 72, 3, 10, 9, [3, 19]) := rfl
theorem rw_111_40 : mm_code 111 40 = some (.putfield 68, 3, 10, 8, [3, 18]) := rfl
theorem rw_111_43 : mm_code 111 43 = some (.aload_n 0, 1, 0, 0, []) := rfl
theorem rw_111_44 : mm_code 111 44 = some (.aload_n 2, 1, 0, 0, []) := rfl
theorem rw_111_45 : mm_code 111 45 = some (.putfield 72, 3, 10, 9, [3, 19]) := rfl
theorem rw_111_48 : mm_code 111 48 = some (.aload_n 0, 1, 0, 0, []) := rfl
theorem rw_111_49 : mm_code 111 49 = some (.iconst 0, 1, 0, 0, []) := rfl
theorem rw_111_50 : mm_code 111 50 = some (.putfield 85, 3, 10, 12, [0, 23]) := rfl
theorem rw_111_53 : mm_code 111 53 = some (.aload_n 0, 1, 0, 0, []) := rfl
theorem rw_111_54 : mm_code 111 54 = some (.getfield 19, 3, 10, 1, [3, 4]) := rfl
theorem rw_111_57 : mm_code 111 57 = some (.iconst 0, 1, 0, 0, []) := rfl
theorem rw_111_58 : mm_code 111 58 = some (.putfield 104, 3, 3, 0, [0, 28]) := rfl
theorem rw_111_61 : mm_code 111 61 = some (.aload_n 0, 1, 0, 0, []) := rfl
theorem rw_111_62 : mm_code 111 62 = some (.getfield 78, 3, 10, 10, [3, 21]) := rfl
theorem rw_111_65 : mm_code 111 65 = some (.invokevirtual 107, 3, 56, 1, [29, 0]) := rfl
theorem rw_111_68 : mm_code 111 68 = some (.aload_n 0, 1, 0, 0, []) := rfl
theorem rw_111_69 : mm_code 111 69 = some (.getfield 33, 3, 10, 3, [3, 8]) := rfl
theorem rw_111_72 : mm_code 111 72 = some (.invokevirtual 110, 3, 22, 1, [30, 0]) := rfl
theorem rw_111_75 : mm_code 111 75 = some (.aload_n 0, 1, 0, 0, []) := rfl
theorem rw_111_76 : mm_code 111 76 = some (.getfield 68, 3, 10, 8, [3, 18]) := rfl
theorem rw_111_79 : mm_code 111 79 = some (.getfield 111, 3, 5, 1, [0, 31]) := rfl
theorem rw_111_82 : mm_code 111 82 = some (.ireturn, 1, 0, 0, []) := rfl
theorem rw_112_0 : mm_code 112 0 = some (.aload_n 0, 1, 0, 0, []) := rfl
theorem rw_112_1 : mm_code 112 1 = some (.getfield 10, 3, 10, 0, [3, 2]) := rfl
theorem rw_112_4 : mm_code 112 4 = some (.iload_n 1, 1, 0, 0, []) := rfl
theorem rw_112_5 : mm_code 112 5 = some (.invokevirtual 96, 3, 78, 2, [26, 0]) := rfl
theorem rw_112_8 : mm_code 112 8 = some (.ifCond .ne 6, 3, 14, 0, []) := rfl
theorem rw_112_11 : mm_code 112 11 = some (.bipush (-2), 2, 2, 1, []) := rfl
theorem rw_112_13 : mm_code 112 13 = some (.ireturn, 1, 0, 0, []) := rfl
theorem rw_112_14 : mm_code 112 14 = some (.aload_n 0, 1, 0, 0, []) := rfl
theorem rw_112_15 : mm_code 112 15 = some (.invokevirtual 114, 3, 142, 1, [32, 0]) := rfl
theorem rw_112_18 : mm_code 112 18 = some (.aload_n 0, 1, 0, 0, []) := rfl
theorem rw_112_19 : mm_code 112 19 = some (.getfield 40, 3, 10, 4, [3, 10]) := rfl
theorem rw_112_22 : mm_code 112 22 = some (.aload_n 0, 1, 0, 0, []) := rfl
theorem rw_112_23 : mm_code 112 23 = some (.getfield 10, 3, 10, 0, [3, 2]) := rfl
theorem rw_112_26 : mm_code 112 26 = some (.aload_n 0, 1, 0, 0, []) := rfl
theorem rw_112_27 : mm_code 112 27 = some (.getfield 68, 3, 10, 8, [3, 18]) := rfl
theorem rw_112_30 : mm_code 112 30 = some (.aload_n 0, 1, 0, 0, []) := rfl
theorem rw_112_31 : mm_code 112 31 = some (.getfield 26, 3, 10, 2, [3, 6]) := rfl
theorem rw_112_34 : mm_code 112 34 = some (.invokevirtual 117, 3, 98, 4, [33, 0]) := rfl
theorem rw_112_37 : mm_code 112 37 = some (.ifCond .ne 5, 3, 42, 0, []) := rfl
theorem rw_112_40 : mm_code 112 40 = some (.iconst (-1), 1, 1, 1, []) := rfl
theorem rw_112_41 : mm_code 112 41 = some (.ireturn, 1, 0, 0, []) := rfl
theorem rw_112_42 : mm_code 112 42 = some (.aload_n 0, 1, 0, 0, []) := rfl
theorem rw_112_43 : mm_code 112 43 = some (.getfield 33, 3, 10, 3, [3, 8]) := rfl
theorem rw_112_46 : mm_code 112 46 = some (.aload_n 0, 1, 0, 0, []) := rfl
theorem rw_112_47 : mm_code 112 47 = some (.getfield 26, 3, 10, 2, [3, 6]) := rfl
theorem rw_112_50 : mm_code 112 50 = some (.aload_n 0, 1, 0, 0, []) := rfl
theorem rw_112_51 : mm_code 112 51 = some (.getfield 68, 3, 10, 8, [3, 18]) := rfl
theorem rw_112_54 : mm_code 112 54 = some (.getfield 120, 3, 5, 0, [0, 34]) := rfl
theorem rw_112_57 : mm_code 112 57 = some (.invokevirtual 123, 3, 24, 3, [35, 0]) := rfl
theorem rw_112_60 : mm_code 112 60 = some (.aload_n 0, 1, 0, 0, []) := rfl
theorem rw_112_61 : mm_code 112 61 = some (.getfield 40, 3, 10, 4, [3, 10]) := rfl
theorem rw_112_64 : mm_code 112 64 = some (.aload_n 0, 1, 0, 0, []) := rfl
theorem rw_112_65 : mm_code 112 65 = some (.getfield 33, 3, 10, 3, [3, 8]) := rfl
theorem rw_112_68 : mm_code 112 68 = some (.invokevirtual 127, 3, 106, 2, [36, 0]) := rfl
theorem rw_112_71 : mm_code 112 71 = some (.ifCond .eq 7, 3, 78, 0, []) := rfl
theorem rw_112_74 : mm_code 112 74 = some (.iconst 0, 1, 0, 0, []) := rfl
theorem rw_112_75 : mm_code 112 75 = some (.goto 4, 3, 79, 0, []) := rfl
theorem rw_112_78 : mm_code 112 78 = some (.iconst 1, 1, 1, 0, []) := rfl
theorem rw_112_79 : mm_code 112 79 = some (.ireturn, 1, 0, 0, []) := rfl
theorem rw_113_0 : mm_code 113 0 = some (.aload_n 0, 1, 0, 0, []) := rfl
theorem rw_113_1 : mm_code 113 1 = some (.getfield 10, 3, 10, 0, [3, 2]) := rfl
theorem rw_113_4 : mm_code 113 4 = some (.iload_n 1, 1, 0, 0, []) := rfl
theorem rw_113_5 : mm_code 113 5 = some (.invokevirtual 96, 3, 78, 2, [26, 0]) := rfl
theorem rw_113_8 : mm_code 113 8 = some (.ifCond .ne 6, 3, 14, 0, []) := rfl
theorem rw_113_11 : mm_code 113 11 = some (.bipush (-2), 2, 2, 1, []) := rfl
theorem rw_113_13 : mm_code 113 13 = some (.ireturn, 1, 0, 0, []) := rfl
theorem rw_113_14 : mm_code 113 14 = some (.aload_n 0, 1, 0, 0, []) := rfl
theorem rw_113_15 : mm_code 113 15 = some (.getfield 82, 3, 10, 11, [3, 22]) := rfl
theorem rw_113_18 : mm_code 113 18 = some (.aload_n 0, 1, 0, 0, []) := rfl
theorem rw_113_19 : mm_code 113 19 = some (.getfield 10, 3, 10, 0, [3, 2]) := rfl
theorem rw_113_22 : mm_code 113 22 = some (.aload_n 0, 1, 0, 0, []) := rfl
theorem rw_113_23 : mm_code 113 23 = some (.getfield 68, 3, 10, 8, [3, 18]) := rfl
theorem rw_113_26 : mm_code 113 26 = some (.invokevirtual 131, 3, 57, 3, [37, 0]) := rfl
theorem rw_113_29 : mm_code 113 29 = some (.ifCond .ne 5, 3, 34, 0, []) := rfl
theorem rw_113_32 : mm_code 113 32 = some (.iconst (-1), 1, 1, 1, []) := rfl
theorem rw_113_33 : mm_code 113 33 = some (.ireturn, 1, 0, 0, []) := rfl
theorem rw_113_34 : mm_code 113 34 = some (.aload_n 0, 1, 0, 0, []) := rfl
theorem rw_113_35 : mm_code 113 35 = some (.getfield 78, 3, 10, 10, [3, 21]) := rfl
theorem rw_113_38 : mm_code 113 38 = some (.astore_n 2, 1, 0, 0, []) := rfl
theorem rw_113_39 : mm_code 113 39 = some (.aload_n 0, 1, 0, 0, []) := rfl
theorem rw_113_40 : mm_code 113 40 = some (.aload_n 0, 1, 0, 0, []) := rfl
theorem rw_113_41 : mm_code 113 41 = some (.getfield 82, 3, 10, 11, [3, 22]) := rfl
theorem rw_113_44 : mm_code 113 44 = some (.putfield 78, 3, 10, 10, [3, 21]) := rfl
theorem rw_113_47 : mm_code 113 47 = some (.aload_n 0, 1, 0, 0, []) := rfl
theorem rw_113_48 : mm_code 113 48 = some (.aload_n 2, 1, 0, 0, []) := rfl
theorem rw_113_49 : mm_code 113 49 = some (.putfield 82, 3, 10, 11, [3, 22]) := rfl
theorem rw_113_52 : mm_code 113 52 = some (.aload_n 0, 1, 0, 0, []) := rfl
theorem rw_113_53 : mm_code 113 53 = some (.getfield 78, 3, 10, 10, [3, 21]) := rfl
theorem rw_113_56 : mm_code 113 56 = some (.getfield 134, 3, 6, 4, [0, 38]) := rfl
theorem rw_113_59 : mm_code 113 59 = some (.ireturn, 1, 0, 0, []) := rfl
theorem rw_114_0 : mm_code 114 0 = some (.iload_n 1, 1, 0, 0, []) := rfl
theorem rw_114_1 : mm_code 114 1 = some (.ifCond .ne 11, 3, 12, 0, []) := rfl
theorem rw_114_4 : mm_code 114 4 = some (.aload_n 0, 1, 0, 0, []) := rfl
theorem rw_114_5 : mm_code 114 5 = some (.getfield 10, 3, 10, 0, [3, 2]) := rfl
theorem rw_114_8 : mm_code 114 8 = some (.getfield 137, 3, 8, 10, [0, 39]) := rfl
theorem rw_114_11 : mm_code 114 11 = some (.ireturn, 1, 0, 0, []) := rfl
theorem rw_114_12 : mm_code 114 12 = some (.iload_n 1, 1, 0, 0, []) := rfl
theorem rw_114_13 : mm_code 114 13 = some (.iconst 1, 1, 1, 0, []) := rfl
theorem rw_114_14 : mm_code 114 14 = some (.if_icmp .ne 13, 3, 27, 0, []) := rfl
theorem rw_114_17 : mm_code 114 17 = some (.aload_n 0, 1, 0, 0, []) := rfl
theorem rw_114_18 : mm_code 114 18 = some (.getfield 10, 3, 10, 0, [3, 2]) := rfl
theorem rw_114_21 : mm_code 114 21 = some (.getfield 140, 3, 8, 11, [0, 40]) := rfl
theorem rw_114_24 : mm_code 114 24 = some (.goto 4, 3, 28, 0, []) := rfl
theorem rw_114_27 : mm_code 114 27 = some (.iconst (-1), 1, 1, 1, []) := rfl
theorem rw_114_28 : mm_code 114 28 = some (.ireturn, 1, 0, 0, []) := rfl
theorem rw_115_0 : mm_code 115 0 = some (.iload_n 1, 1, 0, 0, []) := rfl
theorem rw_115_1 : mm_code 115 1 = some (.ifCond .ne 12, 3, 13, 0, []) := rfl
theorem rw_115_4 : mm_code 115 4 = some (.aload_n 0, 1, 0, 0, []) := rfl
theorem rw_115_5 : mm_code 115 5 = some (.getfield 68, 3, 10, 8, [3, 18]) := rfl
theorem rw_115_8 : mm_code 115 8 = some (.iload_n 2, 1, 0, 0, []) := rfl
theorem rw_115_9 : mm_code 115 9 = some (.invokevirtual 143, 3, 52, 2, [41, 0]) := rfl
theorem rw_115_12 : mm_code 115 12 = some (.ireturn, 1, 0, 0, []) := rfl
theorem rw_115_13 : mm_code 115 13 = some (.iload_n 1, 1, 0, 0, []) := rfl
theorem rw_115_14 : mm_code 115 14 = some (.iconst 1, 1, 1, 0, []) := rfl
theorem rw_115_15 : mm_code 115 15 = some (.if_icmp .ne 14, 3, 29, 0, []) := rfl
theorem rw_115_18 : mm_code 115 18 = some (.aload_n 0, 1, 0, 0, []) := rfl
theorem rw_115_19 : mm_code 115 19 = some (.getfield 68, 3, 10, 8, [3, 18]) := rfl
theorem rw_115_22 : mm_code 115 22 = some (.iload_n 2, 1, 0, 0, []) := rfl
theorem rw_115_23 : mm_code 115 23 = some (.invokevirtual 147, 3, 53, 2, [42, 0]) := rfl
theorem rw_115_26 : mm_code 115 26 = some (.goto 4, 3, 30, 0, []) := rfl
theorem rw_115_29 : mm_code 115 29 = some (.iconst (-1), 1, 1, 1, []) := rfl
theorem rw_115_30 : mm_code 115 30 = some (.ireturn, 1, 0, 0, []) := rfl
theorem rw_116_0 : mm_code 116 0 = some (.aload_n 0, 1, 0, 0, []) := rfl
theorem rw_116_1 : mm_code 116 1 = some (.getfield 68, 3, 10, 8, [3, 18]) := rfl
theorem rw_116_4 : mm_code 116 4 = some (.iload_n 1, 1, 0, 0, []) := rfl
theorem rw_116_5 : mm_code 116 5 = some (.iload_n 2, 1, 0, 0, []) := rfl
theorem rw_116_6 : mm_code 116 6 = some (.invokevirtual 178, 3, 49, 3, [43, 0]) := rfl
theorem rw_116_9 : mm_code 116 9 = some (.lreturn, 1, 0, 0, []) := rfl
theorem rw_117_0 : mm_code 117 0 = some (.aload_n 0, 1, 0, 0, []) := rfl
theorem rw_117_1 : mm_code 117 1 = some (.iload_n 1, 1, 0, 0, []) := rfl
theorem rw_117_2 : mm_code 117 2 = some (.invokevirtual 182, 3, 139, 2, [44, 0]) := rfl
theorem rw_117_5 : mm_code 117 5 = some (.ifCond .eq 14, 3, 19, 0, []) := rfl
theorem rw_117_8 : mm_code 117 8 = some (.aload_n 0, 1, 0, 0, []) := rfl
theorem rw_117_9 : mm_code 117 9 = some (.getfield 68, 3, 10, 8, [3, 18]) := rfl
theorem rw_117_12 : mm_code 117 12 = some (.iload_n 2, 1, 0, 0, []) := rfl
theorem rw_117_13 : mm_code 117 13 = some (.invokevirtual 185, 3, 44, 2, [45, 0]) := rfl
theorem rw_117_16 : mm_code 117 16 = some (.ifCond .ne 5, 3, 21, 0, []) := rfl
theorem rw_117_19 : mm_code 117 19 = some (.lconst 0, 1, 0, 0, []) := rfl
theorem rw_117_20 : mm_code 117 20 = some (.lreturn, 1, 0, 0, []) := rfl
theorem rw_117_21 : mm_code 117 21 = some (.aload_n 0, 1, 0, 0, []) := rfl
theorem rw_117_22 : mm_code 117 22 = some (.iload_n 1, 1, 0, 0, []) := rfl
theorem rw_117_23 : mm_code 117 23 = some (.invokevirtual 188, 3, 141, 2, [46, 0]) := rfl
theorem rw_117_26 : mm_code 117 26 = some (.aload_n 0, 1, 0, 0, []) := rfl
theorem rw_117_27 : mm_code 117 27 = some (.getfield 26, 3, 10, 2, [3, 6]) := rfl
theorem rw_117_30 : mm_code 117 30 = some (.getfield 191, 3, 1, 3, [3, 47]) := rfl
theorem rw_117_33 : mm_code 117 33 = some (.iload_n 2, 1, 0, 0, []) := rfl
theorem rw_117_34 : mm_code 117 34 = some (.laload, 1, 0, 0, []) := rfl
theorem rw_117_35 : mm_code 117 35 = some (.lreturn, 1, 0, 0, []) := rfl
theorem rw_118_0 : mm_code 118 0 = some (.aload_n 0, 1, 0, 0, []) := rfl
theorem rw_118_1 : mm_code 118 1 = some (.getfield 85, 3, 10, 12, [0, 23]) := rfl
theorem rw_118_4 : mm_code 118 4 = some (.bipush 30, 2, 30, 0, []) := rfl
theorem rw_118_6 : mm_code 118 6 = some (.if_icmp .lt 5, 3, 11, 0, []) := rfl
theorem rw_118_9 : mm_code 118 9 = some (.iconst (-1), 1, 1, 1, []) := rfl
theorem rw_118_10 : mm_code 118 10 = some (.ireturn, 1, 0, 0, []) := rfl
theorem rw_118_11 : mm_code 118 11 = some (.aload_n 0, 1, 0, 0, []) := rfl
theorem rw_118_12 : mm_code 118 12 = some (.getfield 33, 3, 10, 3, [3, 8]) := rfl
theorem rw_118_15 : mm_code 118 15 = some (.iconst 0, 1, 0, 0, []) := rfl
theorem rw_118_16 : mm_code 118 16 = some (.aload_n 0, 1, 0, 0, []) := rfl
theorem rw_118_17 : mm_code 118 17 = some (.getfield 85, 3, 10, 12, [0, 23]) := rfl
theorem rw_118_20 : mm_code 118 20 = some (.invokevirtual 195, 3, 23, 3, [48, 0]) := rfl
theorem rw_118_23 : mm_code 118 23 = some (.aload_n 0, 1, 0, 0, []) := rfl
theorem rw_118_24 : mm_code 118 24 = some (.dup, 1, 0, 0, []) := rfl
theorem rw_118_25 : mm_code 118 25 = some (.getfield 85, 3, 10, 12, [0, 23]) := rfl
theorem rw_118_28 : mm_code 118 28 = some (.iconst 1, 1, 1, 0, []) := rfl
theorem rw_118_29 : mm_code 118 29 = some (.iadd, 1, 0, 0, []) := rfl
theorem rw_118_30 : mm_code 118 30 = some (.putfield 85, 3, 10, 12, [0, 23]) := rfl
theorem rw_118_33 : mm_code 118 33 = some (.aload_n 0, 1, 0, 0, []) := rfl
theorem rw_118_34 : mm_code 118 34 = some (.getfield 85, 3, 10, 12, [0, 23]) := rfl
theorem rw_118_37 : mm_code 118 37 = some (.iconst 1, 1, 1, 0, []) := rfl
theorem rw_118_38 : mm_code 118 38 = some (.isub, 1, 0, 0, []) := rfl
theorem rw_118_39 : mm_code 118 39 = some (.ireturn, 1, 0, 0, []) := rfl
theorem rw_119_0 : mm_code 119 0 = some (.aload_n 0, 1, 0, 0, []) := rfl
theorem rw_119_1 : mm_code 119 1 = some (.iload_n 1, 1, 0, 0, []) := rfl
theorem rw_119_2 : mm_code 119 2 = some (.invokevirtual 198, 3, 140, 2, [49, 0]) := rfl
theorem rw_119_5 : mm_code 119 5 = some (.ifCond .eq 15, 3, 20, 0, []) := rfl
theorem rw_119_8 : mm_code 119 8 = some (.aload_n 0, 1, 0, 0, []) := rfl
theorem rw_119_9 : mm_code 119 9 = some (.getfield 68, 3, 10, 8, [3, 18]) := rfl
theorem rw_119_12 : mm_code 119 12 = some (.iload_n 2, 1, 0, 0, []) := rfl
theorem rw_119_13 : mm_code 119 13 = some (.iload_n 3, 1, 0, 0, []) := rfl
theorem rw_119_14 : mm_code 119 14 = some (.invokevirtual 201, 3, 46, 3, [50, 0]) := rfl
theorem rw_119_17 : mm_code 119 17 = some (.ifCond .ne 5, 3, 22, 0, []) := rfl
theorem rw_119_20 : mm_code 119 20 = some (.iconst (-1), 1, 1, 1, []) := rfl
theorem rw_119_21 : mm_code 119 21 = some (.ireturn, 1, 0, 0, []) := rfl
theorem rw_119_22 : mm_code 119 22 = some (.aload_n 0, 1, 0, 0, []) := rfl
theorem rw_119_23 : mm_code 119 23 = some (.getfield 19, 3, 10, 1, [3, 4]) := rfl
theorem rw_119_26 : mm_code 119 26 = some (.iconst 0, 1, 0, 0, []) := rfl
theorem rw_119_27 : mm_code 119 27 = some (.iload_n 1, 1, 0, 0, []) := rfl
theorem rw_119_28 : mm_code 119 28 = some (.iload_n 2, 1, 0, 0, []) := rfl
theorem rw_119_29 : mm_code 119 29 = some (.iload_n 3, 1, 0, 0, []) := rfl
theorem rw_119_30 : mm_code 119 30 = some (.invokevirtual 205, 3, 20, 5, [51, 0]) := rfl
theorem rw_119_33 : mm_code 119 33 = some (.ireturn, 1, 0, 0, []) := rfl
theorem rw_120_0 : mm_code 120 0 = some (.aload_n 0, 1, 0, 0, []) := rfl
theorem rw_120_1 : mm_code 120 1 = some (.iload_n 1, 1, 0, 0, []) := rfl
theorem rw_120_2 : mm_code 120 2 = some (.invokevirtual 198, 3, 140, 2, [49, 0]) := rfl
theorem rw_120_5 : mm_code 120 5 = some (.ifCond .eq 14, 3, 19, 0, []) := rfl
theorem rw_120_8 : mm_code 120 8 = some (.aload_n 0, 1, 0, 0, []) := rfl
theorem rw_120_9 : mm_code 120 9 = some (.getfield 68, 3, 10, 8, [3, 18]) := rfl
theorem rw_120_12 : mm_code 120 12 = some (.iload_n 2, 1, 0, 0, []) := rfl
theorem rw_120_13 : mm_code 120 13 = some (.invokevirtual 185, 3, 44, 2, [45, 0]) := rfl
theorem rw_120_16 : mm_code 120 16 = some (.ifCond .ne 5, 3, 21, 0, []) := rfl
theorem rw_120_19 : mm_code 120 19 = some (.iconst (-1), 1, 1, 1, []) := rfl
theorem rw_120_20 : mm_code 120 20 = some (.ireturn, 1, 0, 0, []) := rfl
theorem rw_120_21 : mm_code 120 21 = some (.aload_n 0, 1, 0, 0, []) := rfl
theorem rw_120_22 : mm_code 120 22 = some (.getfield 19, 3, 10, 1, [3, 4]) := rfl
theorem rw_120_25 : mm_code 120 25 = some (.iconst 1, 1, 1, 0, []) := rfl
theorem rw_120_26 : mm_code 120 26 = some (.iload_n 1, 1, 0, 0, []) := rfl
theorem rw_120_27 : mm_code 120 27 = some (.iload_n 2, 1, 0, 0, []) := rfl
theorem rw_120_28 : mm_code 120 28 = some (.iconst 0, 1, 0, 0, []) := rfl
theorem rw_120_29 : mm_code 120 29 = some (.invokevirtual 205, 3, 20, 5, [51, 0]) := rfl
theorem rw_120_32 : mm_code 120 32 = some (.ireturn, 1, 0, 0, []) := rfl
theorem rw_121_0 : mm_code 121 0 = some (.aload_n 0, 1, 0, 0, []) := rfl
theorem rw_121_1 : mm_code 121 1 = some (.iload_n 1, 1, 0, 0, []) := rfl
theorem rw_121_2 : mm_code 121 2 = some (.invokevirtual 198, 3, 140, 2, [49, 0]) := rfl
theorem rw_121_5 : mm_code 121 5 = some (.ifCond .eq 18, 3, 23, 0, []) := rfl
theorem rw_121_8 : mm_code 121 8 = some (.iload_n 2, 1, 0, 0, []) := rfl
theorem rw_121_9 : mm_code 121 9 = some (.ifCond .lt 14, 3, 23, 0, []) := rfl
theorem rw_121_12 : mm_code 121 12 = some (.iload_n 2, 1, 0, 0, []) := rfl
theorem rw_121_13 : mm_code 121 13 = some (.aload_n 0, 1, 0, 0, []) := rfl
theorem rw_121_14 : mm_code 121 14 = some (.getfield 68, 3, 10, 8, [3, 18]) := rfl
theorem rw_121_17 : mm_code 121 17 = some (.getfield 120, 3, 5, 0, [0, 34]) := rfl
theorem rw_121_20 : mm_code 121 20 = some (.if_icmp .lt 5, 3, 25, 0, []) := rfl
theorem rw_121_23 : mm_code 121 23 = some (.iconst (-1), 1, 1, 1, []) := rfl
theorem rw_121_24 : mm_code 121 24 = some (.ireturn, 1, 0, 0, []) := rfl
theorem rw_121_25 : mm_code 121 25 = some (.aload_n 0, 1, 0, 0, []) := rfl
theorem rw_121_26 : mm_code 121 26 = some (.getfield 19, 3, 10, 1, [3, 4]) := rfl
theorem rw_121_29 : mm_code 121 29 = some (.iload_n 3, 1, 0, 0, []) := rfl
theorem rw_121_30 : mm_code 121 30 = some (.ifCond .eq 7, 3, 37, 0, []) := rfl
theorem rw_121_33 : mm_code 121 33 = some (.iconst 3, 1, 3, 0, []) := rfl
theorem rw_121_34 : mm_code 121 34 = some (.goto 4, 3, 38, 0, []) := rfl
theorem rw_121_37 : mm_code 121 37 = some (.iconst 2, 1, 2, 0, []) := rfl
theorem rw_121_38 : mm_code 121 38 = some (.iload_n 1, 1, 0, 0, []) := rfl
theorem rw_121_39 : mm_code 121 39 = some (.iload_n 2, 1, 0, 0, []) := rfl
theorem rw_121_40 : mm_code 121 40 = some (.iconst 0, 1, 0, 0, []) := rfl
theorem rw_121_41 : mm_code 121 41 = some (.invokevirtual 205, 3, 20, 5, [51, 0]) := rfl
theorem rw_121_44 : mm_code 121 44 = some (.ireturn, 1, 0, 0, []) := rfl
theorem rw_122_0 : mm_code 122 0 = some (.aload_n 0, 1, 0, 0, []) := rfl
theorem rw_122_1 : mm_code 122 1 = some (.getfield 68, 3, 10, 8, [3, 18]) := rfl
theorem rw_122_4 : mm_code 122 4 = some (.iload_n 1, 1, 0, 0, []) := rfl
theorem rw_122_5 : mm_code 122 5 = some (.invokevirtual 185, 3, 44, 2, [45, 0]) := rfl
theorem rw_122_8 : mm_code 122 8 = some (.ifCond .eq 15, 3, 23, 0, []) := rfl
theorem rw_122_11 : mm_code 122 11 = some (.aload_n 0, 1, 0, 0, []) := rfl
theorem rw_122_12 : mm_code 122 12 = some (.getfield 68, 3, 10, 8, [3, 18]) := rfl
theorem rw_122_15 : mm_code 122 15 = some (.iload_n 1, 1, 0, 0, []) := rfl
theorem rw_122_16 : mm_code 122 16 = some (.iload_n 2, 1, 0, 0, []) := rfl
theorem rw_122_17 : mm_code 122 17 = some (.invokevirtual 209, 3, 50, 3, [52, 0]) := rfl
theorem rw_122_20 : mm_code 122 20 = some (.ifCond .ne 5, 3, 25, 0, []) := rfl
theorem rw_122_23 : mm_code 122 23 = some (.iconst (-1), 1, 1, 1, []) := rfl
theorem rw_122_24 : mm_code 122 24 = some (.ireturn, 1, 0, 0, []) := rfl
theorem rw_122_25 : mm_code 122 25 = some (.aload_n 0, 1, 0, 0, []) := rfl
theorem rw_122_26 : mm_code 122 26 = some (.getfield 19, 3, 10, 1, [3, 4]) := rfl
theorem rw_122_29 : mm_code 122 29 = some (.iconst 4, 1, 4, 0, []) := rfl
theorem rw_122_30 : mm_code 122 30 = some (.iload_n 1, 1, 0, 0, []) := rfl
theorem rw_122_31 : mm_code 122 31 = some (.iload_n 2, 1, 0, 0, []) := rfl
theorem rw_122_32 : mm_code 122 32 = some (.iconst 0, 1, 0, 0, []) := rfl
theorem rw_122_33 : mm_code 122 33 = some (.invokevirtual 205, 3, 20, 5, [51, 0]) := rfl
theorem rw_122_36 : mm_code 122 36 = some (.ireturn, 1, 0, 0, []) := rfl
theorem rw_123_0 : mm_code 123 0 = some (.iload_n 1, 1, 0, 0, []) := rfl
theorem rw_123_1 : mm_code 123 1 = some (.ifCond .lt 14, 3, 15, 0, []) := rfl
theorem rw_123_4 : mm_code 123 4 = some (.iload_n 1, 1, 0, 0, []) := rfl
theorem rw_123_5 : mm_code 123 5 = some (.aload_n 0, 1, 0, 0, []) := rfl
theorem rw_123_6 : mm_code 123 6 = some (.getfield 19, 3, 10, 1, [3, 4]) := rfl
theorem rw_123_9 : mm_code 123 9 = some (.getfield 104, 3, 3, 0, [0, 28]) := rfl
theorem rw_123_12 : mm_code 123 12 = some (.if_icmp .lt 5, 3, 17, 0, []) := rfl
theorem rw_123_15 : mm_code 123 15 = some (.iconst (-1), 1, 1, 1, []) := rfl
theorem rw_123_16 : mm_code 123 16 = some (.ireturn, 1, 0, 0, []) := rfl
theorem rw_123_17 : mm_code 123 17 = some (.aload_n 0, 1, 0, 0, []) := rfl
theorem rw_123_18 : mm_code 123 18 = some (.getfield 19, 3, 10, 1, [3, 4]) := rfl
theorem rw_123_21 : mm_code 123 21 = some (.iconst 5, 1, 5, 0, []) := rfl
theorem rw_123_22 : mm_code 123 22 = some (.iload_n 1, 1, 0, 0, []) := rfl
theorem rw_123_23 : mm_code 123 23 = some (.iconst 0, 1, 0, 0, []) := rfl
theorem rw_123_24 : mm_code 123 24 = some (.iconst 0, 1, 0, 0, []) := rfl
theorem rw_123_25 : mm_code 123 25 = some (.invokevirtual 205, 3, 20, 5, [51, 0]) := rfl
theorem rw_123_28 : mm_code 123 28 = some (.ireturn, 1, 0, 0, []) := rfl
theorem rw_124_0 : mm_code 124 0 = some (.aload_n 0, 1, 0, 0, []) := rfl
theorem rw_124_1 : mm_code 124 1 = some (.iload_n 1, 1, 0, 0, []) := rfl
theorem rw_124_2 : mm_code 124 2 = some (.invokevirtual 182, 3, 139, 2, [44, 0]) := rfl
theorem rw_124_5 : mm_code 124 5 = some (.ifCond .eq 11, 3, 16, 0, []) := rfl
theorem rw_124_8 : mm_code 124 8 = some (.aload_n 0, 1, 0, 0, []) := rfl
theorem rw_124_9 : mm_code 124 9 = some (.iload_n 2, 1, 0, 0, []) := rfl
theorem rw_124_10 : mm_code 124 10 = some (.invokevirtual 198, 3, 140, 2, [49, 0]) := rfl
theorem rw_124_13 : mm_code 124 13 = some (.ifCond .ne 7, 3, 20, 0, []) := rfl
theorem rw_124_16 : mm_code 124 16 = some (.ldc2_w 212, 3, 1, 1, [53]) := rfl
theorem rw_124_19 : mm_code 124 19 = some (.lreturn, 1, 0, 0, []) := rfl
theorem rw_124_20 : mm_code 124 20 = some (.aload_n 0, 1, 0, 0, []) := rfl
theorem rw_124_21 : mm_code 124 21 = some (.iload_n 1, 1, 0, 0, []) := rfl
theorem rw_124_22 : mm_code 124 22 = some (.invokevirtual 188, 3, 141, 2, [46, 0]) := rfl
theorem rw_124_25 : mm_code 124 25 = some (.aload_n 0, 1, 0, 0, []) := rfl
theorem rw_124_26 : mm_code 124 26 = some (.getfield 26, 3, 10, 2, [3, 6]) := rfl
theorem rw_124_29 : mm_code 124 29 = some (.getfield 214, 3, 1, 0, [3, 54]) := rfl
theorem rw_124_32 : mm_code 124 32 = some (.iload_n 2, 1, 0, 0, []) := rfl
theorem rw_124_33 : mm_code 124 33 = some (.laload, 1, 0, 0, []) := rfl
theorem rw_124_34 : mm_code 124 34 = some (.lreturn, 1, 0, 0, []) := rfl
theorem rw_125_0 : mm_code 125 0 = some (.aload_n 0, 1, 0, 0, []) := rfl
theorem rw_125_1 : mm_code 125 1 = some (.iload_n 1, 1, 0, 0, []) := rfl
theorem rw_125_2 : mm_code 125 2 = some (.invokevirtual 182, 3, 139, 2, [44, 0]) := rfl
theorem rw_125_5 : mm_code 125 5 = some (.ifCond .eq 22, 3, 27, 0, []) := rfl
theorem rw_125_8 : mm_code 125 8 = some (.aload_n 0, 1, 0, 0, []) := rfl
theorem rw_125_9 : mm_code 125 9 = some (.iload_n 2, 1, 0, 0, []) := rfl
theorem rw_125_10 : mm_code 125 10 = some (.invokevirtual 198, 3, 140, 2, [49, 0]) := rfl
theorem rw_125_13 : mm_code 125 13 = some (.ifCond .eq 14, 3, 27, 0, []) := rfl
theorem rw_125_16 : mm_code 125 16 = some (.aload_n 0, 1, 0, 0, []) := rfl
theorem rw_125_17 : mm_code 125 17 = some (.getfield 68, 3, 10, 8, [3, 18]) := rfl
theorem rw_125_20 : mm_code 125 20 = some (.iload_n 3, 1, 0, 0, []) := rfl
theorem rw_125_21 : mm_code 125 21 = some (.invokevirtual 150, 3, 43, 2, [55, 0]) := rfl
theorem rw_125_24 : mm_code 125 24 = some (.ifCond .ne 6, 3, 30, 0, []) := rfl
theorem rw_125_27 : mm_code 125 27 = some (.bipush (-2), 2, 2, 1, []) := rfl
theorem rw_125_29 : mm_code 125 29 = some (.ireturn, 1, 0, 0, []) := rfl
theorem rw_125_30 : mm_code 125 30 = some (.aload_n 0, 1, 0, 0, []) := rfl
theorem rw_125_31 : mm_code 125 31 = some (.iload_n 1, 1, 0, 0, []) := rfl
theorem rw_125_32 : mm_code 125 32 = some (.invokevirtual 188, 3, 141, 2, [46, 0]) := rfl
theorem rw_125_35 : mm_code 125 35 = some (.aload_n 0, 1, 0, 0, []) := rfl
theorem rw_125_36 : mm_code 125 36 = some (.getfield 68, 3, 10, 8, [3, 18]) := rfl
theorem rw_125_39 : mm_code 125 39 = some (.iload_n 3, 1, 0, 0, []) := rfl
theorem rw_125_40 : mm_code 125 40 = some (.invokevirtual 217, 3, 45, 2, [56, 0]) := rfl
theorem rw_125_43 : mm_code 125 43 = some (.ifCond .eq 22, 3, 65, 0, []) := rfl
theorem rw_125_46 : mm_code 125 46 = some (.aload_n 0, 1, 0, 0, []) := rfl
theorem rw_125_47 : mm_code 125 47 = some (.getfield 26, 3, 10, 2, [3, 6]) := rfl
theorem rw_125_50 : mm_code 125 50 = some (.getfield 220, 3, 1, 1, [3, 57]) := rfl
theorem rw_125_53 : mm_code 125 53 = some (.iload_n 2, 1, 0, 0, []) := rfl
theorem rw_125_54 : mm_code 125 54 = some (.iaload, 1, 0, 0, []) := rfl
theorem rw_125_55 : mm_code 125 55 = some (.aload_n 0, 1, 0, 0, []) := rfl
theorem rw_125_56 : mm_code 125 56 = some (.getfield 68, 3, 10, 8, [3, 18]) := rfl
theorem rw_125_59 : mm_code 125 59 = some (.iload_n 3, 1, 0, 0, []) := rfl
theorem rw_125_60 : mm_code 125 60 = some (.invokevirtual 223, 3, 51, 2, [58, 0]) := rfl
theorem rw_125_63 : mm_code 125 63 = some (.iand, 1, 0, 0, []) := rfl
theorem rw_125_64 : mm_code 125 64 = some (.ireturn, 1, 0, 0, []) := rfl
theorem rw_125_65 : mm_code 125 65 = some (.aload_n 0, 1, 0, 0, []) := rfl
theorem rw_125_66 : mm_code 125 66 = some (.getfield 26, 3, 10, 2, [3, 6]) := rfl
theorem rw_125_69 : mm_code 125 69 = some (.iload_n 2, 1, 0, 0, []) := rfl
theorem rw_125_70 : mm_code 125 70 = some (.iload_n 3, 1, 0, 0, []) := rfl
theorem rw_125_71 : mm_code 125 71 = some (.invokevirtual 226, 3, 12, 3, [59, 0]) := rfl
theorem rw_125_74 : mm_code 125 74 = some (.ireturn, 1, 0, 0, []) := rfl
theorem rw_126_0 : mm_code 126 0 = some (.aload_n 0, 1, 0, 0, []) := rfl
theorem rw_126_1 : mm_code 126 1 = some (.iload_n 1, 1, 0, 0, []) := rfl
theorem rw_126_2 : mm_code 126 2 = some (.invokevirtual 198, 3, 140, 2, [49, 0]) := rfl
theorem rw_126_5 : mm_code 126 5 = some (.ifCond .ne 5, 3, 10, 0, []) := rfl
theorem rw_126_8 : mm_code 126 8 = some (.iconst 0, 1, 0, 0, []) := rfl
theorem rw_126_9 : mm_code 126 9 = some (.ireturn, 1, 1, 0, []) := rfl
theorem rw_126_10 : mm_code 126 10 = some (.aload_n 0, 1, 0, 0, []) := rfl
theorem rw_126_11 : mm_code 126 11 = some (.getfield 33, 3, 10, 3, [3, 8]) := rfl
theorem rw_126_14 : mm_code 126 14 = some (.dup, 1, 0, 0, []) := rfl
theorem rw_126_15 : mm_code 126 15 = some (.getfield 230, 3, 4, 4, [0, 60]) := rfl
theorem rw_126_18 : mm_code 126 18 = some (.iconst 1, 1, 1, 0, []) := rfl
theorem rw_126_19 : mm_code 126 19 = some (.iload_n 1, 1, 0, 0, []) := rfl
theorem rw_126_20 : mm_code 126 20 = some (.ishl, 1, 0, 0, []) := rfl
theorem rw_126_21 : mm_code 126 21 = some (.ixor, 1, 0, 0, []) := rfl
theorem rw_126_22 : mm_code 126 22 = some (.putfield 230, 3, 4, 4, [0, 60]) := rfl
theorem rw_126_25 : mm_code 126 25 = some (.iconst 1, 1, 1, 0, []) := rfl
theorem rw_126_26 : mm_code 126 26 = some (.ireturn, 1, 1, 0, []) := rfl
theorem rw_127_0 : mm_code 127 0 = some (.aload_n 0, 1, 0, 0, []) := rfl
theorem rw_127_1 : mm_code 127 1 = some (.getfield 33, 3, 10, 3, [3, 8]) := rfl
theorem rw_127_4 : mm_code 127 4 = some (.getfield 230, 3, 4, 4, [0, 60]) := rfl
theorem rw_127_7 : mm_code 127 7 = some (.ireturn, 1, 0, 0, []) := rfl
theorem rw_128_0 : mm_code 128 0 = some (.iload_n 1, 1, 0, 0, []) := rfl
theorem rw_128_1 : mm_code 128 1 = some (.invokestatic 233, 3, 143, 1, [61, 0]) := rfl
theorem rw_128_4 : mm_code 128 4 = some (.ifCond .eq 20, 3, 24, 0, []) := rfl
theorem rw_128_7 : mm_code 128 7 = some (.iload_n 2, 1, 0, 0, []) := rfl
theorem rw_128_8 : mm_code 128 8 = some (.ifCond .lt 16, 3, 24, 0, []) := rfl
theorem rw_128_11 : mm_code 128 11 = some (.iload_n 2, 1, 0, 0, []) := rfl
theorem rw_128_12 : mm_code 128 12 = some (.aload_n 0, 1, 0, 0, []) := rfl
theorem rw_128_13 : mm_code 128 13 = some (.getfield 33, 3, 10, 3, [3, 8]) := rfl
theorem rw_128_16 : mm_code 128 16 = some (.getfield 236, 3, 4, 1, [3, 62]) := rfl
theorem rw_128_19 : mm_code 128 19 = some (.iload_n 1, 1, 0, 0, []) := rfl
theorem rw_128_20 : mm_code 128 20 = some (.iaload, 1, 0, 0, []) := rfl
theorem rw_128_21 : mm_code 128 21 = some (.if_icmp .lt 5, 3, 26, 0, []) := rfl
theorem rw_128_24 : mm_code 128 24 = some (.iconst (-1), 1, 1, 1, []) := rfl
theorem rw_128_25 : mm_code 128 25 = some (.ireturn, 1, 0, 0, []) := rfl
theorem rw_128_26 : mm_code 128 26 = some (.aload_n 0, 1, 0, 0, []) := rfl
theorem rw_128_27 : mm_code 128 27 = some (.getfield 33, 3, 10, 3, [3, 8]) := rfl
theorem rw_128_30 : mm_code 128 30 = some (.getfield 239, 3, 4, 0, [3, 63]) := rfl
theorem rw_128_33 : mm_code 128 33 = some (.iload_n 1, 1, 0, 0, []) := rfl
theorem rw_128_34 : mm_code 128 34 = some (.aaload, 1, 0, 0, []) := rfl
theorem rw_128_35 : mm_code 128 35 = some (.iload_n 2, 1, 0, 0, []) := rfl
theorem rw_128_36 : mm_code 128 36 = some (.iaload, 1, 0, 0, []) := rfl
theorem rw_128_37 : mm_code 128 37 = some (.ireturn, 1, 0, 0, []) := rfl
theorem rw_129_0 : mm_code 129 0 = some (.iload_n 1, 1, 0, 0, []) := rfl
theorem rw_129_1 : mm_code 129 1 = some (.invokestatic 233, 3, 143, 1, [61, 0]) := rfl
theorem rw_129_4 : mm_code 129 4 = some (.ifCond .ne 5, 3, 9, 0, []) := rfl
theorem rw_129_7 : mm_code 129 7 = some (.iconst (-1), 1, 1, 1, []) := rfl
theorem rw_129_8 : mm_code 129 8 = some (.ireturn, 1, 0, 0, []) := rfl
theorem rw_129_9 : mm_code 129 9 = some (.aload_n 0, 1, 0, 0, []) := rfl
theorem rw_129_10 : mm_code 129 10 = some (.invokevirtual 114, 3, 142, 1, [32, 0]) := rfl
theorem rw_129_13 : mm_code 129 13 = some (.aload_n 0, 1, 0, 0, []) := rfl
theorem rw_129_14 : mm_code 129 14 = some (.getfield 33, 3, 10, 3, [3, 8]) := rfl
theorem rw_129_17 : mm_code 129 17 = some (.aload_n 0, 1, 0, 0, []) := rfl
theorem rw_129_18 : mm_code 129 18 = some (.getfield 26, 3, 10, 2, [3, 6]) := rfl
theorem rw_129_21 : mm_code 129 21 = some (.aload_n 0, 1, 0, 0, []) := rfl
theorem rw_129_22 : mm_code 129 22 = some (.getfield 68, 3, 10, 8, [3, 18]) := rfl
theorem rw_129_25 : mm_code 129 25 = some (.getfield 120, 3, 5, 0, [0, 34]) := rfl
theorem rw_129_28 : mm_code 129 28 = some (.invokevirtual 123, 3, 24, 3, [35, 0]) := rfl
theorem rw_129_31 : mm_code 129 31 = some (.aload_n 0, 1, 0, 0, []) := rfl
theorem rw_129_32 : mm_code 129 32 = some (.getfield 33, 3, 10, 3, [3, 8]) := rfl
theorem rw_129_35 : mm_code 129 35 = some (.iload_n 1, 1, 0, 0, []) := rfl
theorem rw_129_36 : mm_code 129 36 = some (.lload_n 2, 1, 0, 0, []) := rfl
theorem rw_129_37 : mm_code 129 37 = some (.iconst 0, 1, 0, 0, []) := rfl
theorem rw_129_38 : mm_code 129 38 = some (.aload_n 0, 1, 0, 0, []) := rfl
theorem rw_129_39 : mm_code 129 39 = some (.getfield 68, 3, 10, 8, [3, 18]) := rfl
theorem rw_129_42 : mm_code 129 42 = some (.getfield 120, 3, 5, 0, [0, 34]) := rfl
theorem rw_129_45 : mm_code 129 45 = some (.iconst 1, 1, 1, 0, []) := rfl
theorem rw_129_46 : mm_code 129 46 = some (.isub, 1, 0, 0, []) := rfl
theorem rw_129_47 : mm_code 129 47 = some (.invokestatic 243, 3, 144, 2, [64, 0]) := rfl
theorem rw_129_50 : mm_code 129 50 = some (.land, 1, 0, 0, []) := rfl
theorem rw_129_51 : mm_code 129 51 = some (.invokevirtual 246, 3, 27, 3, [65, 0]) := rfl
theorem rw_129_54 : mm_code 129 54 = some (.ireturn, 1, 0, 0, []) := rfl
theorem rw_130_0 : mm_code 130 0 = some (.aload_n 0, 1, 0, 0, []) := rfl
theorem rw_130_1 : mm_code 130 1 = some (.getfield 33, 3, 10, 3, [3, 8]) := rfl
theorem rw_130_4 : mm_code 130 4 = some (.invokevirtual 110, 3, 22, 1, [30, 0]) := rfl
theorem rw_130_7 : mm_code 130 7 = some (.iconst 0, 1, 0, 0, []) := rfl
theorem rw_130_8 : mm_code 130 8 = some (.istore_n 1, 1, 0, 0, []) := rfl
theorem rw_130_9 : mm_code 130 9 = some (.iload_n 1, 1, 0, 0, []) := rfl
theorem rw_130_10 : mm_code 130 10 = some (.aload_n 0, 1, 0, 0, []) := rfl
theorem rw_130_11 : mm_code 130 11 = some (.getfield 85, 3, 10, 12, [0, 23]) := rfl
theorem rw_130_14 : mm_code 130 14 = some (.if_icmp .ge 18, 3, 32, 0, []) := rfl
theorem rw_130_17 : mm_code 130 17 = some (.aload_n 0, 1, 0, 0, []) := rfl
theorem rw_130_18 : mm_code 130 18 = some (.getfield 33, 3, 10, 3, [3, 8]) := rfl
theorem rw_130_21 : mm_code 130 21 = some (.iconst 0, 1, 0, 0, []) := rfl
theorem rw_130_22 : mm_code 130 22 = some (.iload_n 1, 1, 0, 0, []) := rfl
theorem rw_130_23 : mm_code 130 23 = some (.invokevirtual 195, 3, 23, 3, [48, 0]) := rfl
theorem rw_130_26 : mm_code 130 26 = some (.iinc 1 1, 3, 1, 0, []) := rfl
theorem rw_130_29 : mm_code 130 29 = some (.goto (-20), 3, 9, 0, []) := rfl
theorem rw_130_32 : mm_code 130 32 = some (.aload_n 0, 1, 0, 0, []) := rfl
theorem rw_130_33 : mm_code 130 33 = some (.getfield 85, 3, 10, 12, [0, 23]) := rfl
theorem rw_130_36 : mm_code 130 36 = some (.ireturn, 1, 0, 0, []) := rfl
theorem rw_131_0 : mm_code 131 0 = some (.aload_n 0, 1, 0, 0, []) := rfl
theorem rw_131_1 : mm_code 131 1 = some (.iload_n 1, 1, 0, 0, []) := rfl
theorem rw_131_2 : mm_code 131 2 = some (.invokevirtual 182, 3, 139, 2, [44, 0]) := rfl
theorem rw_131_5 : mm_code 131 5 = some (.ifCond .eq 22, 3, 27, 0, []) := rfl
theorem rw_131_8 : mm_code 131 8 = some (.iload_n 2, 1, 0, 0, []) := rfl
theorem rw_131_9 : mm_code 131 9 = some (.ifCond .lt 18, 3, 27, 0, []) := rfl
theorem rw_131_12 : mm_code 131 12 = some (.iload_n 2, 1, 0, 0, []) := rfl
theorem rw_131_13 : mm_code 131 13 = some (.iconst 3, 1, 3, 0, []) := rfl
theorem rw_131_14 : mm_code 131 14 = some (.if_icmp .gt 13, 3, 27, 0, []) := rfl
theorem rw_131_17 : mm_code 131 17 = some (.aload_n 0, 1, 0, 0, []) := rfl
theorem rw_131_18 : mm_code 131 18 = some (.getfield 78, 3, 10, 10, [3, 21]) := rfl
theorem rw_131_21 : mm_code 131 21 = some (.getfield 134, 3, 6, 4, [0, 38]) := rfl
theorem rw_131_24 : mm_code 131 24 = some (.ifCond .ne 5, 3, 29, 0, []) := rfl
theorem rw_131_27 : mm_code 131 27 = some (.iconst (-1), 1, 1, 1, []) := rfl
theorem rw_131_28 : mm_code 131 28 = some (.ireturn, 1, 0, 0, []) := rfl
theorem rw_131_29 : mm_code 131 29 = some (.aload_n 0, 1, 0, 0, []) := rfl
theorem rw_131_30 : mm_code 131 30 = some (.iload_n 1, 1, 0, 0, []) := rfl
theorem rw_131_31 : mm_code 131 31 = some (.invokevirtual 188, 3, 141, 2, [46, 0]) := rfl
theorem rw_131_34 : mm_code 131 34 = some (.aload_n 0, 1, 0, 0, []) := rfl
theorem rw_131_35 : mm_code 131 35 = some (.getfield 78, 3, 10, 10, [3, 21]) := rfl
theorem rw_131_38 : mm_code 131 38 = some (.aload_n 0, 1, 0, 0, []) := rfl
theorem rw_131_39 : mm_code 131 39 = some (.getfield 68, 3, 10, 8, [3, 18]) := rfl
theorem rw_131_42 : mm_code 131 42 = some (.aload_n 0, 1, 0, 0, []) := rfl
theorem rw_131_43 : mm_code 131 43 = some (.getfield 26, 3, 10, 2, [3, 6]) := rfl
theorem rw_131_46 : mm_code 131 46 = some (.aload_n 0, 1, 0, 0, []) := rfl
theorem rw_131_47 : mm_code 131 47 = some (.getfield 85, 3, 10, 12, [0, 23]) := rfl
theorem rw_131_50 : mm_code 131 50 = some (.iconst 0, 1, 0, 0, []) := rfl
theorem rw_131_51 : mm_code 131 51 = some (.invokevirtual 250, 3, 65, 5, [66, 0]) := rfl
theorem rw_131_54 : mm_code 131 54 = some (.istore_n 3, 1, 0, 0, []) := rfl
theorem rw_131_55 : mm_code 131 55 = some (.aload_n 0, 1, 0, 0, []) := rfl
theorem rw_131_56 : mm_code 131 56 = some (.getfield 78, 3, 10, 10, [3, 21]) := rfl
theorem rw_131_59 : mm_code 131 59 = some (.aload_n 0, 1, 0, 0, []) := rfl
theorem rw_131_60 : mm_code 131 60 = some (.getfield 68, 3, 10, 8, [3, 18]) := rfl
theorem rw_131_63 : mm_code 131 63 = some (.aload_n 0, 1, 0, 0, []) := rfl
theorem rw_131_64 : mm_code 131 64 = some (.getfield 26, 3, 10, 2, [3, 6]) := rfl
theorem rw_131_67 : mm_code 131 67 = some (.aload_n 0, 1, 0, 0, []) := rfl
theorem rw_131_68 : mm_code 131 68 = some (.getfield 85, 3, 10, 12, [0, 23]) := rfl
theorem rw_131_71 : mm_code 131 71 = some (.iconst 1, 1, 1, 0, []) := rfl
theorem rw_131_72 : mm_code 131 72 = some (.invokevirtual 250, 3, 65, 5, [66, 0]) := rfl
theorem rw_131_75 : mm_code 131 75 = some (.istore 4, 2, 0, 0, []) := rfl
theorem rw_131_77 : mm_code 131 77 = some (.iload_n 2, 1, 0, 0, []) := rfl
theorem rw_131_78 : mm_code 131 78 = some (.tableswitch 38 0 2 #[26, 28, 31], 26, 116, 0, [104, 106, 109]) := rfl
theorem rw_131_104 : mm_code 131 104 = some (.iload_n 3, 1, 0, 0, []) := rfl
theorem rw_131_105 : mm_code 131 105 = some (.ireturn, 1, 0, 0, []) := rfl
theorem rw_131_106 : mm_code 131 106 = some (.iload 4, 2, 0, 0, []) := rfl
theorem rw_131_108 : mm_code 131 108 = some (.ireturn, 1, 0, 0, []) := rfl
theorem rw_131_109 : mm_code 131 109 = some (.iload_n 3, 1, 0, 0, []) := rfl
theorem rw_131_110 : mm_code 131 110 = some (.iload 4, 2, 0, 0, []) := rfl
theorem rw_131_112 : mm_code 131 112 = some (.iconst (-1), 1, 1, 1, []) := rfl
theorem rw_131_113 : mm_code 131 113 = some (.ixor, 1, 0, 0, []) := rfl
theorem rw_131_114 : mm_code 131 114 = some (.iand, 1, 0, 0, []) := rfl
theorem rw_131_115 : mm_code 131 115 = some (.ireturn, 1, 0, 0, []) := rfl
theorem rw_131_116 : mm_code 131 116 = some (.iload 4, 2, 0, 0, []) := rfl
theorem rw_131_118 : mm_code 131 118 = some (.iload_n 3, 1, 0, 0, []) := rfl
theorem rw_131_119 : mm_code 131 119 = some (.iconst (-1), 1, 1, 1, []) := rfl
theorem rw_131_120 : mm_code 131 120 = some (.ixor, 1, 0, 0, []) := rfl
theorem rw_131_121 : mm_code 131 121 = some (.iand, 1, 0, 0, []) := rfl
theorem rw_131_122 : mm_code 131 122 = some (.ireturn, 1, 0, 0, []) := rfl
theorem rw_132_0 : mm_code 132 0 = some (.aload_n 0, 1, 0, 0, []) := rfl
theorem rw_132_1 : mm_code 132 1 = some (.iload_n 1, 1, 0, 0, []) := rfl
theorem rw_132_2 : mm_code 132 2 = some (.invokevirtual 182, 3, 139, 2, [44, 0]) := rfl
theorem rw_132_5 : mm_code 132 5 = some (.ifCond .eq 23, 3, 28, 0, []) := rfl
theorem rw_132_8 : mm_code 132 8 = some (.aload_n 0, 1, 0, 0, []) := rfl
theorem rw_132_9 : mm_code 132 9 = some (.getfield 68, 3, 10, 8, [3, 18]) := rfl
theorem rw_132_12 : mm_code 132 12 = some (.iload_n 2, 1, 0, 0, []) := rfl
theorem rw_132_13 : mm_code 132 13 = some (.invokevirtual 185, 3, 44, 2, [45, 0]) := rfl
theorem rw_132_16 : mm_code 132 16 = some (.ifCond .eq 12, 3, 28, 0, []) := rfl
theorem rw_132_19 : mm_code 132 19 = some (.iload_n 3, 1, 0, 0, []) := rfl
theorem rw_132_20 : mm_code 132 20 = some (.ifCond .lt 8, 3, 28, 0, []) := rfl
theorem rw_132_23 : mm_code 132 23 = some (.iload_n 3, 1, 0, 0, []) := rfl
theorem rw_132_24 : mm_code 132 24 = some (.iconst 1, 1, 1, 0, []) := rfl
theorem rw_132_25 : mm_code 132 25 = some (.if_icmp .le 7, 3, 32, 0, []) := rfl
theorem rw_132_28 : mm_code 132 28 = some (.ldc2_w 212, 3, 1, 1, [53]) := rfl
theorem rw_132_31 : mm_code 132 31 = some (.lreturn, 1, 0, 0, []) := rfl
theorem rw_132_32 : mm_code 132 32 = some (.aload_n 0, 1, 0, 0, []) := rfl
theorem rw_132_33 : mm_code 132 33 = some (.getfield 68, 3, 10, 8, [3, 18]) := rfl
theorem rw_132_36 : mm_code 132 36 = some (.getfield 254, 3, 5, 11, [3, 67]) := rfl
theorem rw_132_39 : mm_code 132 39 = some (.iload_n 2, 1, 0, 0, []) := rfl
theorem rw_132_40 : mm_code 132 40 = some (.iaload, 1, 0, 0, []) := rfl
theorem rw_132_41 : mm_code 132 41 = some (.istore 4, 2, 0, 0, []) := rfl
theorem rw_132_43 : mm_code 132 43 = some (.aload_n 0, 1, 0, 0, []) := rfl
theorem rw_132_44 : mm_code 132 44 = some (.getfield 68, 3, 10, 8, [3, 18]) := rfl
theorem rw_132_47 : mm_code 132 47 = some (.getfield 170, 3, 5, 9, [3, 68]) := rfl
theorem rw_132_50 : mm_code 132 50 = some (.iload 4, 2, 0, 0, []) := rfl
theorem rw_132_52 : mm_code 132 52 = some (.iaload, 1, 0, 0, []) := rfl
theorem rw_132_53 : mm_code 132 53 = some (.istore 5, 2, 0, 0, []) := rfl
theorem rw_132_55 : mm_code 132 55 = some (.iload_n 3, 1, 0, 0, []) := rfl
theorem rw_132_56 : mm_code 132 56 = some (.iconst 1, 1, 1, 0, []) := rfl
theorem rw_132_57 : mm_code 132 57 = some (.if_icmp .ne 18, 3, 75, 0, []) := rfl
theorem rw_132_60 : mm_code 132 60 = some (.aload_n 0, 1, 0, 0, []) := rfl
theorem rw_132_61 : mm_code 132 61 = some (.getfield 68, 3, 10, 8, [3, 18]) := rfl
theorem rw_132_64 : mm_code 132 64 = some (.iload 4, 2, 0, 0, []) := rfl
theorem rw_132_66 : mm_code 132 66 = some (.invokevirtual 257, 3, 47, 2, [69, 0]) := rfl
theorem rw_132_69 : mm_code 132 69 = some (.iload 5, 2, 0, 0, []) := rfl
theorem rw_132_71 : mm_code 132 71 = some (.invokestatic 260, 3, 145, 2, [70, 0]) := rfl
theorem rw_132_74 : mm_code 132 74 = some (.lreturn, 1, 0, 0, []) := rfl
theorem rw_132_75 : mm_code 132 75 = some (.aload_n 0, 1, 0, 0, []) := rfl
theorem rw_132_76 : mm_code 132 76 = some (.iload_n 1, 1, 0, 0, []) := rfl
theorem rw_132_77 : mm_code 132 77 = some (.invokevirtual 188, 3, 141, 2, [46, 0]) := rfl
theorem rw_132_80 : mm_code 132 80 = some (.lconst 0, 1, 0, 0, []) := rfl
theorem rw_132_81 : mm_code 132 81 = some (.lstore 6, 2, 0, 0, []) := rfl
theorem rw_132_83 : mm_code 132 83 = some (.iconst 0, 1, 0, 0, []) := rfl
theorem rw_132_84 : mm_code 132 84 = some (.istore 8, 2, 0, 0, []) := rfl
theorem rw_132_86 : mm_code 132 86 = some (.iload 8, 2, 0, 0, []) := rfl
theorem rw_132_88 : mm_code 132 88 = some (.aload_n 0, 1, 0, 0, []) := rfl
theorem rw_132_89 : mm_code 132 89 = some (.getfield 85, 3, 10, 12, [0, 23]) := rfl
theorem rw_132_92 : mm_code 132 92 = some (.if_icmp .ge 55, 3, 147, 0, []) := rfl
theorem rw_132_95 : mm_code 132 95 = some (.aload_n 0, 1, 0, 0, []) := rfl
theorem rw_132_96 : mm_code 132 96 = some (.getfield 26, 3, 10, 2, [3, 6]) := rfl
theorem rw_132_99 : mm_code 132 99 = some (.iload 8, 2, 0, 0, []) := rfl
theorem rw_132_101 : mm_code 132 101 = some (.iload_n 2, 1, 0, 0, []) := rfl
theorem rw_132_102 : mm_code 132 102 = some (.invokevirtual 263, 3, 13, 3, [71, 0]) := rfl
theorem rw_132_105 : mm_code 132 105 = some (.ifCond .ne 36, 3, 141, 0, []) := rfl
theorem rw_132_108 : mm_code 132 108 = some (.lload 6, 2, 0, 0, []) := rfl
theorem rw_132_110 : mm_code 132 110 = some (.aload_n 0, 1, 0, 0, []) := rfl
theorem rw_132_111 : mm_code 132 111 = some (.getfield 26, 3, 10, 2, [3, 6]) := rfl
theorem rw_132_114 : mm_code 132 114 = some (.getfield 214, 3, 1, 0, [3, 54]) := rfl
theorem rw_132_117 : mm_code 132 117 = some (.iload 8, 2, 0, 0, []) := rfl
theorem rw_132_119 : mm_code 132 119 = some (.laload, 1, 0, 0, []) := rfl
theorem rw_132_120 : mm_code 132 120 = some (.aload_n 0, 1, 0, 0, []) := rfl
theorem rw_132_121 : mm_code 132 121 = some (.getfield 68, 3, 10, 8, [3, 18]) := rfl
theorem rw_132_124 : mm_code 132 124 = some (.iload 4, 2, 0, 0, []) := rfl
theorem rw_132_126 : mm_code 132 126 = some (.invokevirtual 266, 3, 48, 2, [72, 0]) := rfl
theorem rw_132_129 : mm_code 132 129 = some (.land, 1, 0, 0, []) := rfl
theorem rw_132_130 : mm_code 132 130 = some (.invokestatic 270, 3, 247, 1, [73, 0]) := rfl
theorem rw_132_133 : mm_code 132 133 = some (.iload 5, 2, 0, 0, []) := rfl
theorem rw_132_135 : mm_code 132 135 = some (.invokestatic 260, 3, 145, 2, [70, 0]) := rfl
theorem rw_132_138 : mm_code 132 138 = some (.ladd, 1, 0, 0, []) := rfl
theorem rw_132_139 : mm_code 132 139 = some (.lstore 6, 2, 0, 0, []) := rfl
theorem rw_132_141 : mm_code 132 141 = some (.iinc 8 1, 3, 1, 0, []) := rfl
theorem rw_132_144 : mm_code 132 144 = some (.goto (-58), 3, 86, 0, []) := rfl
theorem rw_132_147 : mm_code 132 147 = some (.lload 6, 2, 0, 0, []) := rfl
theorem rw_132_149 : mm_code 132 149 = some (.lreturn, 1, 0, 0, []) := rfl
theorem rw_133_0 : mm_code 133 0 = some (.aload_n 0, 1, 0, 0, []) := rfl
theorem rw_133_1 : mm_code 133 1 = some (.iload_n 1, 1, 0, 0, []) := rfl
theorem rw_133_2 : mm_code 133 2 = some (.invokevirtual 182, 3, 139, 2, [44, 0]) := rfl
theorem rw_133_5 : mm_code 133 5 = some (.ifCond .eq 14, 3, 19, 0, []) := rfl
theorem rw_133_8 : mm_code 133 8 = some (.aload_n 0, 1, 0, 0, []) := rfl
theorem rw_133_9 : mm_code 133 9 = some (.getfield 68, 3, 10, 8, [3, 18]) := rfl
theorem rw_133_12 : mm_code 133 12 = some (.iload_n 2, 1, 0, 0, []) := rfl
theorem rw_133_13 : mm_code 133 13 = some (.invokevirtual 185, 3, 44, 2, [45, 0]) := rfl
theorem rw_133_16 : mm_code 133 16 = some (.ifCond .ne 5, 3, 21, 0, []) := rfl
theorem rw_133_19 : mm_code 133 19 = some (.iconst (-1), 1, 1, 1, []) := rfl
theorem rw_133_20 : mm_code 133 20 = some (.ireturn, 1, 0, 0, []) := rfl
theorem rw_133_21 : mm_code 133 21 = some (.aload_n 0, 1, 0, 0, []) := rfl
theorem rw_133_22 : mm_code 133 22 = some (.iload_n 1, 1, 0, 0, []) := rfl
theorem rw_133_23 : mm_code 133 23 = some (.invokevirtual 188, 3, 141, 2, [46, 0]) := rfl
theorem rw_133_26 : mm_code 133 26 = some (.iconst 0, 1, 0, 0, []) := rfl
theorem rw_133_27 : mm_code 133 27 = some (.istore_n 3, 1, 0, 0, []) := rfl
theorem rw_133_28 : mm_code 133 28 = some (.iconst 0, 1, 0, 0, []) := rfl
theorem rw_133_29 : mm_code 133 29 = some (.istore 4, 2, 0, 0, []) := rfl
theorem rw_133_31 : mm_code 133 31 = some (.iload 4, 2, 0, 0, []) := rfl
theorem rw_133_33 : mm_code 133 33 = some (.aload_n 0, 1, 0, 0, []) := rfl
theorem rw_133_34 : mm_code 133 34 = some (.getfield 85, 3, 10, 12, [0, 23]) := rfl
theorem rw_133_37 : mm_code 133 37 = some (.if_icmp .ge 46, 3, 83, 0, []) := rfl
theorem rw_133_40 : mm_code 133 40 = some (.aload_n 0, 1, 0, 0, []) := rfl
theorem rw_133_41 : mm_code 133 41 = some (.getfield 26, 3, 10, 2, [3, 6]) := rfl
theorem rw_133_44 : mm_code 133 44 = some (.iload 4, 2, 0, 0, []) := rfl
theorem rw_133_46 : mm_code 133 46 = some (.iload_n 2, 1, 0, 0, []) := rfl
theorem rw_133_47 : mm_code 133 47 = some (.invokevirtual 263, 3, 13, 3, [71, 0]) := rfl
theorem rw_133_50 : mm_code 133 50 = some (.ifCond .ne 27, 3, 77, 0, []) := rfl
theorem rw_133_53 : mm_code 133 53 = some (.aload_n 0, 1, 0, 0, []) := rfl
theorem rw_133_54 : mm_code 133 54 = some (.getfield 26, 3, 10, 2, [3, 6]) := rfl
theorem rw_133_57 : mm_code 133 57 = some (.iload 4, 2, 0, 0, []) := rfl
theorem rw_133_59 : mm_code 133 59 = some (.aload_n 0, 1, 0, 0, []) := rfl
theorem rw_133_60 : mm_code 133 60 = some (.getfield 26, 3, 10, 2, [3, 6]) := rfl
theorem rw_133_63 : mm_code 133 63 = some (.getfield 191, 3, 1, 3, [3, 47]) := rfl
theorem rw_133_66 : mm_code 133 66 = some (.iload_n 2, 1, 0, 0, []) := rfl
theorem rw_133_67 : mm_code 133 67 = some (.laload, 1, 0, 0, []) := rfl
theorem rw_133_68 : mm_code 133 68 = some (.invokevirtual 276, 3, 14, 3, [74, 0]) := rfl
theorem rw_133_71 : mm_code 133 71 = some (.ifCond .eq 6, 3, 77, 0, []) := rfl
theorem rw_133_74 : mm_code 133 74 = some (.iinc 3 1, 3, 1, 0, []) := rfl
theorem rw_133_77 : mm_code 133 77 = some (.iinc 4 1, 3, 1, 0, []) := rfl
theorem rw_133_80 : mm_code 133 80 = some (.goto (-49), 3, 31, 0, []) := rfl
theorem rw_133_83 : mm_code 133 83 = some (.iload_n 3, 1, 0, 0, []) := rfl
theorem rw_133_84 : mm_code 133 84 = some (.ireturn, 1, 0, 0, []) := rfl
theorem rw_134_0 : mm_code 134 0 = some (.aload_n 0, 1, 0, 0, []) := rfl
theorem rw_134_1 : mm_code 134 1 = some (.iload_n 1, 1, 0, 0, []) := rfl
theorem rw_134_2 : mm_code 134 2 = some (.invokevirtual 182, 3, 139, 2, [44, 0]) := rfl
theorem rw_134_5 : mm_code 134 5 = some (.ifCond .eq 14, 3, 19, 0, []) := rfl
theorem rw_134_8 : mm_code 134 8 = some (.aload_n 0, 1, 0, 0, []) := rfl
theorem rw_134_9 : mm_code 134 9 = some (.getfield 68, 3, 10, 8, [3, 18]) := rfl
theorem rw_134_12 : mm_code 134 12 = some (.iload_n 2, 1, 0, 0, []) := rfl
theorem rw_134_13 : mm_code 134 13 = some (.invokevirtual 185, 3, 44, 2, [45, 0]) := rfl
theorem rw_134_16 : mm_code 134 16 = some (.ifCond .ne 5, 3, 21, 0, []) := rfl
theorem rw_134_19 : mm_code 134 19 = some (.iconst (-1), 1, 1, 1, []) := rfl
theorem rw_134_20 : mm_code 134 20 = some (.ireturn, 1, 0, 0, []) := rfl
theorem rw_134_21 : mm_code 134 21 = some (.aload_n 0, 1, 0, 0, []) := rfl
theorem rw_134_22 : mm_code 134 22 = some (.iload_n 1, 1, 0, 0, []) := rfl
theorem rw_134_23 : mm_code 134 23 = some (.invokevirtual 188, 3, 141, 2, [46, 0]) := rfl
theorem rw_134_26 : mm_code 134 26 = some (.aload_n 0, 1, 0, 0, []) := rfl
theorem rw_134_27 : mm_code 134 27 = some (.getfield 47, 3, 10, 5, [3, 12]) := rfl
theorem rw_134_30 : mm_code 134 30 = some (.aload_n 0, 1, 0, 0, []) := rfl
theorem rw_134_31 : mm_code 134 31 = some (.getfield 68, 3, 10, 8, [3, 18]) := rfl
theorem rw_134_34 : mm_code 134 34 = some (.aload_n 0, 1, 0, 0, []) := rfl
theorem rw_134_35 : mm_code 134 35 = some (.getfield 26, 3, 10, 2, [3, 6]) := rfl
theorem rw_134_38 : mm_code 134 38 = some (.aload_n 0, 1, 0, 0, []) := rfl
theorem rw_134_39 : mm_code 134 39 = some (.getfield 85, 3, 10, 12, [0, 23]) := rfl
theorem rw_134_42 : mm_code 134 42 = some (.iload_n 2, 1, 0, 0, []) := rfl
theorem rw_134_43 : mm_code 134 43 = some (.invokevirtual 280, 3, 2, 5, [75, 0]) := rfl
theorem rw_134_46 : mm_code 134 46 = some (.ireturn, 1, 0, 0, []) := rfl
theorem rw_135_0 : mm_code 135 0 = some (.aload_n 0, 1, 0, 0, []) := rfl
theorem rw_135_1 : mm_code 135 1 = some (.iload_n 1, 1, 0, 0, []) := rfl
theorem rw_135_2 : mm_code 135 2 = some (.invokevirtual 182, 3, 139, 2, [44, 0]) := rfl
theorem rw_135_5 : mm_code 135 5 = some (.ifCond .eq 22, 3, 27, 0, []) := rfl
theorem rw_135_8 : mm_code 135 8 = some (.aload_n 0, 1, 0, 0, []) := rfl
theorem rw_135_9 : mm_code 135 9 = some (.iload_n 2, 1, 0, 0, []) := rfl
theorem rw_135_10 : mm_code 135 10 = some (.invokevirtual 198, 3, 140, 2, [49, 0]) := rfl
theorem rw_135_13 : mm_code 135 13 = some (.ifCond .eq 14, 3, 27, 0, []) := rfl
theorem rw_135_16 : mm_code 135 16 = some (.aload_n 0, 1, 0, 0, []) := rfl
theorem rw_135_17 : mm_code 135 17 = some (.getfield 68, 3, 10, 8, [3, 18]) := rfl
theorem rw_135_20 : mm_code 135 20 = some (.iload_n 3, 1, 0, 0, []) := rfl
theorem rw_135_21 : mm_code 135 21 = some (.invokevirtual 150, 3, 43, 2, [55, 0]) := rfl
theorem rw_135_24 : mm_code 135 24 = some (.ifCond .ne 6, 3, 30, 0, []) := rfl
theorem rw_135_27 : mm_code 135 27 = some (.bipush (-2), 2, 2, 1, []) := rfl
theorem rw_135_29 : mm_code 135 29 = some (.ireturn, 1, 0, 0, []) := rfl
theorem rw_135_30 : mm_code 135 30 = some (.iload 4, 2, 0, 0, []) := rfl
theorem rw_135_32 : mm_code 135 32 = some (.ifCond .lt 21, 3, 53, 0, []) := rfl
theorem rw_135_35 : mm_code 135 35 = some (.iload 4, 2, 0, 0, []) := rfl
theorem rw_135_37 : mm_code 135 37 = some (.bipush 9, 2, 9, 0, []) := rfl
theorem rw_135_39 : mm_code 135 39 = some (.if_icmp .gt 14, 3, 53, 0, []) := rfl
theorem rw_135_42 : mm_code 135 42 = some (.iload 5, 2, 0, 0, []) := rfl
theorem rw_135_44 : mm_code 135 44 = some (.ifCond .lt 9, 3, 53, 0, []) := rfl
theorem rw_135_47 : mm_code 135 47 = some (.iload 5, 2, 0, 0, []) := rfl
theorem rw_135_49 : mm_code 135 49 = some (.iconst 2, 1, 2, 0, []) := rfl
theorem rw_135_50 : mm_code 135 50 = some (.if_icmp .le 6, 3, 56, 0, []) := rfl
theorem rw_135_53 : mm_code 135 53 = some (.bipush (-2), 2, 2, 1, []) := rfl
theorem rw_135_55 : mm_code 135 55 = some (.ireturn, 1, 0, 0, []) := rfl
theorem rw_135_56 : mm_code 135 56 = some (.aload_n 0, 1, 0, 0, []) := rfl
theorem rw_135_57 : mm_code 135 57 = some (.iload_n 1, 1, 0, 0, []) := rfl
theorem rw_135_58 : mm_code 135 58 = some (.invokevirtual 188, 3, 141, 2, [46, 0]) := rfl
theorem rw_135_61 : mm_code 135 61 = some (.aload_n 0, 1, 0, 0, []) := rfl
theorem rw_135_62 : mm_code 135 62 = some (.getfield 68, 3, 10, 8, [3, 18]) := rfl
theorem rw_135_65 : mm_code 135 65 = some (.iload_n 3, 1, 0, 0, []) := rfl
theorem rw_135_66 : mm_code 135 66 = some (.invokevirtual 217, 3, 45, 2, [56, 0]) := rfl
theorem rw_135_69 : mm_code 135 69 = some (.ifCond .eq 25, 3, 94, 0, []) := rfl
theorem rw_135_72 : mm_code 135 72 = some (.aload_n 0, 1, 0, 0, []) := rfl
theorem rw_135_73 : mm_code 135 73 = some (.getfield 54, 3, 10, 6, [3, 14]) := rfl
theorem rw_135_76 : mm_code 135 76 = some (.aload_n 0, 1, 0, 0, []) := rfl
theorem rw_135_77 : mm_code 135 77 = some (.getfield 68, 3, 10, 8, [3, 18]) := rfl
theorem rw_135_80 : mm_code 135 80 = some (.aload_n 0, 1, 0, 0, []) := rfl
theorem rw_135_81 : mm_code 135 81 = some (.getfield 26, 3, 10, 2, [3, 6]) := rfl
theorem rw_135_84 : mm_code 135 84 = some (.iload_n 2, 1, 0, 0, []) := rfl
theorem rw_135_85 : mm_code 135 85 = some (.iload_n 3, 1, 0, 0, []) := rfl
theorem rw_135_86 : mm_code 135 86 = some (.iload 4, 2, 0, 0, []) := rfl
theorem rw_135_88 : mm_code 135 88 = some (.invokevirtual 284, 3, 16, 6, [76, 0]) := rfl
theorem rw_135_91 : mm_code 135 91 = some (.goto 22, 3, 113, 0, []) := rfl
theorem rw_135_94 : mm_code 135 94 = some (.aload_n 0, 1, 0, 0, []) := rfl
theorem rw_135_95 : mm_code 135 95 = some (.getfield 54, 3, 10, 6, [3, 14]) := rfl
theorem rw_135_98 : mm_code 135 98 = some (.aload_n 0, 1, 0, 0, []) := rfl
theorem rw_135_99 : mm_code 135 99 = some (.getfield 68, 3, 10, 8, [3, 18]) := rfl
theorem rw_135_102 : mm_code 135 102 = some (.aload_n 0, 1, 0, 0, []) := rfl
theorem rw_135_103 : mm_code 135 103 = some (.getfield 26, 3, 10, 2, [3, 6]) := rfl
theorem rw_135_106 : mm_code 135 106 = some (.iload_n 2, 1, 0, 0, []) := rfl
theorem rw_135_107 : mm_code 135 107 = some (.iload_n 3, 1, 0, 0, []) := rfl
theorem rw_135_108 : mm_code 135 108 = some (.iload 4, 2, 0, 0, []) := rfl
theorem rw_135_110 : mm_code 135 110 = some (.invokevirtual 288, 3, 18, 6, [77, 0]) := rfl
theorem rw_135_113 : mm_code 135 113 = some (.iload 5, 2, 0, 0, []) := rfl
theorem rw_135_115 : mm_code 135 115 = some (.ifCond .ne 11, 3, 126, 0, []) := rfl
theorem rw_135_118 : mm_code 135 118 = some (.aload_n 0, 1, 0, 0, []) := rfl
theorem rw_135_119 : mm_code 135 119 = some (.getfield 54, 3, 10, 6, [3, 14]) := rfl
theorem rw_135_122 : mm_code 135 122 = some (.getfield 291, 3, 2, 4, [0, 78]) := rfl
theorem rw_135_125 : mm_code 135 125 = some (.ireturn, 1, 0, 0, []) := rfl
theorem rw_135_126 : mm_code 135 126 = some (.iload 5, 2, 0, 0, []) := rfl
theorem rw_135_128 : mm_code 135 128 = some (.iconst 1, 1, 1, 0, []) := rfl
theorem rw_135_129 : mm_code 135 129 = some (.if_icmp .ne 13, 3, 142, 0, []) := rfl
theorem rw_135_132 : mm_code 135 132 = some (.aload_n 0, 1, 0, 0, []) := rfl
theorem rw_135_133 : mm_code 135 133 = some (.getfield 54, 3, 10, 6, [3, 14]) := rfl
theorem rw_135_136 : mm_code 135 136 = some (.getfield 294, 3, 2, 5, [0, 79]) := rfl
theorem rw_135_139 : mm_code 135 139 = some (.goto 10, 3, 149, 0, []) := rfl
theorem rw_135_142 : mm_code 135 142 = some (.aload_n 0, 1, 0, 0, []) := rfl
theorem rw_135_143 : mm_code 135 143 = some (.getfield 54, 3, 10, 6, [3, 14]) := rfl
theorem rw_135_146 : mm_code 135 146 = some (.getfield 297, 3, 2, 6, [0, 80]) := rfl
theorem rw_135_149 : mm_code 135 149 = some (.ireturn, 1, 0, 0, []) := rfl
theorem rw_136_0 : mm_code 136 0 = some (.iload_n 1, 1, 0, 0, []) := rfl
theorem rw_136_1 : mm_code 136 1 = some (.invokestatic 233, 3, 143, 1, [61, 0]) := rfl
theorem rw_136_4 : mm_code 136 4 = some (.ifCond .eq 25, 3, 29, 0, []) := rfl
theorem rw_136_7 : mm_code 136 7 = some (.aload_n 0, 1, 0, 0, []) := rfl
theorem rw_136_8 : mm_code 136 8 = some (.getfield 68, 3, 10, 8, [3, 18]) := rfl
theorem rw_136_11 : mm_code 136 11 = some (.iload_n 2, 1, 0, 0, []) := rfl
theorem rw_136_12 : mm_code 136 12 = some (.invokevirtual 150, 3, 43, 2, [55, 0]) := rfl
theorem rw_136_15 : mm_code 136 15 = some (.ifCond .eq 14, 3, 29, 0, []) := rfl
theorem rw_136_18 : mm_code 136 18 = some (.aload_n 0, 1, 0, 0, []) := rfl
theorem rw_136_19 : mm_code 136 19 = some (.getfield 68, 3, 10, 8, [3, 18]) := rfl
theorem rw_136_22 : mm_code 136 22 = some (.iload_n 2, 1, 0, 0, []) := rfl
theorem rw_136_23 : mm_code 136 23 = some (.invokevirtual 217, 3, 45, 2, [56, 0]) := rfl
theorem rw_136_26 : mm_code 136 26 = some (.ifCond .eq 5, 3, 31, 0, []) := rfl
theorem rw_136_29 : mm_code 136 29 = some (.iconst (-1), 1, 1, 1, []) := rfl
theorem rw_136_30 : mm_code 136 30 = some (.ireturn, 1, 0, 0, []) := rfl
theorem rw_136_31 : mm_code 136 31 = some (.aload_n 0, 1, 0, 0, []) := rfl
theorem rw_136_32 : mm_code 136 32 = some (.invokevirtual 114, 3, 142, 1, [32, 0]) := rfl
theorem rw_136_35 : mm_code 136 35 = some (.aload_n 0, 1, 0, 0, []) := rfl
theorem rw_136_36 : mm_code 136 36 = some (.getfield 61, 3, 10, 7, [3, 16]) := rfl
theorem rw_136_39 : mm_code 136 39 = some (.aload_n 0, 1, 0, 0, []) := rfl
theorem rw_136_40 : mm_code 136 40 = some (.getfield 33, 3, 10, 3, [3, 8]) := rfl
theorem rw_136_43 : mm_code 136 43 = some (.iload_n 1, 1, 0, 0, []) := rfl
theorem rw_136_44 : mm_code 136 44 = some (.aload_n 0, 1, 0, 0, []) := rfl
theorem rw_136_45 : mm_code 136 45 = some (.getfield 68, 3, 10, 8, [3, 18]) := rfl
theorem rw_136_48 : mm_code 136 48 = some (.aload_n 0, 1, 0, 0, []) := rfl
theorem rw_136_49 : mm_code 136 49 = some (.getfield 26, 3, 10, 2, [3, 6]) := rfl
theorem rw_136_52 : mm_code 136 52 = some (.iload_n 2, 1, 0, 0, []) := rfl
theorem rw_136_53 : mm_code 136 53 = some (.invokevirtual 300, 3, 69, 6, [81, 0]) := rfl
theorem rw_136_56 : mm_code 136 56 = some (.aload_n 0, 1, 0, 0, []) := rfl
theorem rw_136_57 : mm_code 136 57 = some (.getfield 61, 3, 10, 7, [3, 16]) := rfl
theorem rw_136_60 : mm_code 136 60 = some (.invokevirtual 304, 3, 70, 1, [82, 0]) := rfl
theorem rw_136_63 : mm_code 136 63 = some (.ireturn, 1, 0, 0, []) := rfl
theorem rw_137_0 : mm_code 137 0 = some (.iload_n 1, 1, 0, 0, []) := rfl
theorem rw_137_1 : mm_code 137 1 = some (.invokestatic 233, 3, 143, 1, [61, 0]) := rfl
theorem rw_137_4 : mm_code 137 4 = some (.ifCond .eq 29, 3, 33, 0, []) := rfl
theorem rw_137_7 : mm_code 137 7 = some (.aload_n 0, 1, 0, 0, []) := rfl
theorem rw_137_8 : mm_code 137 8 = some (.getfield 68, 3, 10, 8, [3, 18]) := rfl
theorem rw_137_11 : mm_code 137 11 = some (.iload_n 2, 1, 0, 0, []) := rfl
theorem rw_137_12 : mm_code 137 12 = some (.invokevirtual 150, 3, 43, 2, [55, 0]) := rfl
theorem rw_137_15 : mm_code 137 15 = some (.ifCond .eq 18, 3, 33, 0, []) := rfl
theorem rw_137_18 : mm_code 137 18 = some (.aload_n 0, 1, 0, 0, []) := rfl
theorem rw_137_19 : mm_code 137 19 = some (.getfield 68, 3, 10, 8, [3, 18]) := rfl
theorem rw_137_22 : mm_code 137 22 = some (.iload_n 2, 1, 0, 0, []) := rfl
theorem rw_137_23 : mm_code 137 23 = some (.invokevirtual 217, 3, 45, 2, [56, 0]) := rfl
theorem rw_137_26 : mm_code 137 26 = some (.ifCond .ne 7, 3, 33, 0, []) := rfl
theorem rw_137_29 : mm_code 137 29 = some (.iload_n 3, 1, 0, 0, []) := rfl
theorem rw_137_30 : mm_code 137 30 = some (.ifCond .ge 5, 3, 35, 0, []) := rfl
theorem rw_137_33 : mm_code 137 33 = some (.iconst (-1), 1, 1, 1, []) := rfl
theorem rw_137_34 : mm_code 137 34 = some (.ireturn, 1, 0, 0, []) := rfl
theorem rw_137_35 : mm_code 137 35 = some (.aload_n 0, 1, 0, 0, []) := rfl
theorem rw_137_36 : mm_code 137 36 = some (.getfield 68, 3, 10, 8, [3, 18]) := rfl
theorem rw_137_39 : mm_code 137 39 = some (.iload_n 2, 1, 0, 0, []) := rfl
theorem rw_137_40 : mm_code 137 40 = some (.invokevirtual 257, 3, 47, 2, [69, 0]) := rfl
theorem rw_137_43 : mm_code 137 43 = some (.bipush 6, 2, 6, 0, []) := rfl
theorem rw_137_45 : mm_code 137 45 = some (.if_icmp .le 5, 3, 50, 0, []) := rfl
theorem rw_137_48 : mm_code 137 48 = some (.iconst (-1), 1, 1, 1, []) := rfl
theorem rw_137_49 : mm_code 137 49 = some (.ireturn, 1, 0, 0, []) := rfl
theorem rw_137_50 : mm_code 137 50 = some (.aload_n 0, 1, 0, 0, []) := rfl
theorem rw_137_51 : mm_code 137 51 = some (.invokevirtual 114, 3, 142, 1, [32, 0]) := rfl
theorem rw_137_54 : mm_code 137 54 = some (.aload_n 0, 1, 0, 0, []) := rfl
theorem rw_137_55 : mm_code 137 55 = some (.getfield 33, 3, 10, 3, [3, 8]) := rfl
theorem rw_137_58 : mm_code 137 58 = some (.aload_n 0, 1, 0, 0, []) := rfl
theorem rw_137_59 : mm_code 137 59 = some (.getfield 26, 3, 10, 2, [3, 6]) := rfl
theorem rw_137_62 : mm_code 137 62 = some (.aload_n 0, 1, 0, 0, []) := rfl
theorem rw_137_63 : mm_code 137 63 = some (.getfield 68, 3, 10, 8, [3, 18]) := rfl
theorem rw_137_66 : mm_code 137 66 = some (.getfield 120, 3, 5, 0, [0, 34]) := rfl
theorem rw_137_69 : mm_code 137 69 = some (.invokevirtual 123, 3, 24, 3, [35, 0]) := rfl
theorem rw_137_72 : mm_code 137 72 = some (.aload_n 0, 1, 0, 0, []) := rfl
theorem rw_137_73 : mm_code 137 73 = some (.getfield 61, 3, 10, 7, [3, 16]) := rfl
theorem rw_137_76 : mm_code 137 76 = some (.aload_n 0, 1, 0, 0, []) := rfl
theorem rw_137_77 : mm_code 137 77 = some (.getfield 33, 3, 10, 3, [3, 8]) := rfl
theorem rw_137_80 : mm_code 137 80 = some (.iload_n 1, 1, 0, 0, []) := rfl
theorem rw_137_81 : mm_code 137 81 = some (.aload_n 0, 1, 0, 0, []) := rfl
theorem rw_137_82 : mm_code 137 82 = some (.getfield 68, 3, 10, 8, [3, 18]) := rfl
theorem rw_137_85 : mm_code 137 85 = some (.aload_n 0, 1, 0, 0, []) := rfl
theorem rw_137_86 : mm_code 137 86 = some (.getfield 26, 3, 10, 2, [3, 6]) := rfl
theorem rw_137_89 : mm_code 137 89 = some (.iload_n 2, 1, 0, 0, []) := rfl
theorem rw_137_90 : mm_code 137 90 = some (.invokevirtual 300, 3, 69, 6, [81, 0]) := rfl
theorem rw_137_93 : mm_code 137 93 = some (.aload_n 0, 1, 0, 0, []) := rfl
theorem rw_137_94 : mm_code 137 94 = some (.getfield 61, 3, 10, 7, [3, 16]) := rfl
theorem rw_137_97 : mm_code 137 97 = some (.invokevirtual 308, 3, 71, 1, [83, 0]) := rfl
theorem rw_137_100 : mm_code 137 100 = some (.ifCond .ne 6, 3, 106, 0, []) := rfl
theorem rw_137_103 : mm_code 137 103 = some (.bipush (-2), 2, 2, 1, []) := rfl
theorem rw_137_105 : mm_code 137 105 = some (.ireturn, 1, 0, 0, []) := rfl
theorem rw_137_106 : mm_code 137 106 = some (.iload_n 3, 1, 0, 0, []) := rfl
theorem rw_137_107 : mm_code 137 107 = some (.ifCond .ne 11, 3, 118, 0, []) := rfl
theorem rw_137_110 : mm_code 137 110 = some (.aload_n 0, 1, 0, 0, []) := rfl
theorem rw_137_111 : mm_code 137 111 = some (.getfield 61, 3, 10, 7, [3, 16]) := rfl
theorem rw_137_114 : mm_code 137 114 = some (.getfield 312, 3, 7, 8, [0, 84]) := rfl
theorem rw_137_117 : mm_code 137 117 = some (.ireturn, 1, 0, 0, []) := rfl
theorem rw_137_118 : mm_code 137 118 = some (.iload_n 3, 1, 0, 0, []) := rfl
theorem rw_137_119 : mm_code 137 119 = some (.aload_n 0, 1, 0, 0, []) := rfl
theorem rw_137_120 : mm_code 137 120 = some (.getfield 61, 3, 10, 7, [3, 16]) := rfl
theorem rw_137_123 : mm_code 137 123 = some (.getfield 312, 3, 7, 8, [0, 84]) := rfl
theorem rw_137_126 : mm_code 137 126 = some (.if_icmp .le 7, 3, 133, 0, []) := rfl
theorem rw_137_129 : mm_code 137 129 = some (.iconst (-1), 1, 1, 1, []) := rfl
theorem rw_137_130 : mm_code 137 130 = some (.goto 23, 3, 153, 0, []) := rfl
theorem rw_137_133 : mm_code 137 133 = some (.aload_n 0, 1, 0, 0, []) := rfl
theorem rw_137_134 : mm_code 137 134 = some (.getfield 68, 3, 10, 8, [3, 18]) := rfl
theorem rw_137_137 : mm_code 137 137 = some (.getfield 164, 3, 5, 7, [3, 85]) := rfl
theorem rw_137_140 : mm_code 137 140 = some (.iload_n 2, 1, 0, 0, []) := rfl
theorem rw_137_141 : mm_code 137 141 = some (.iaload, 1, 0, 0, []) := rfl
theorem rw_137_142 : mm_code 137 142 = some (.aload_n 0, 1, 0, 0, []) := rfl
theorem rw_137_143 : mm_code 137 143 = some (.getfield 61, 3, 10, 7, [3, 16]) := rfl
theorem rw_137_146 : mm_code 137 146 = some (.iload_n 3, 1, 0, 0, []) := rfl
theorem rw_137_147 : mm_code 137 147 = some (.iconst 1, 1, 1, 0, []) := rfl
theorem rw_137_148 : mm_code 137 148 = some (.isub, 1, 0, 0, []) := rfl
theorem rw_137_149 : mm_code 137 149 = some (.invokevirtual 315, 3, 75, 2, [86, 0]) := rfl
theorem rw_137_152 : mm_code 137 152 = some (.iadd, 1, 0, 0, []) := rfl
theorem rw_137_153 : mm_code 137 153 = some (.ireturn, 1, 0, 0, []) := rfl
theorem rw_138_0 : mm_code 138 0 = some (.iload_n 1, 1, 0, 0, []) := rfl
theorem rw_138_1 : mm_code 138 1 = some (.tableswitch 108 0 7 #[47, 55, 63, 71, 76, 84, 92, 100], 47, 109, 0, [48, 56, 64, 72, 77, 85, 93, 101]) := rfl
theorem rw_138_48 : mm_code 138 48 = some (.aload_n 0, 1, 0, 0, []) := rfl
theorem rw_138_49 : mm_code 138 49 = some (.getfield 68, 3, 10, 8, [3, 18]) := rfl
theorem rw_138_52 : mm_code 138 52 = some (.getfield 120, 3, 5, 0, [0, 34]) := rfl
theorem rw_138_55 : mm_code 138 55 = some (.ireturn, 1, 0, 0, []) := rfl
theorem rw_138_56 : mm_code 138 56 = some (.aload_n 0, 1, 0, 0, []) := rfl
theorem rw_138_57 : mm_code 138 57 = some (.getfield 68, 3, 10, 8, [3, 18]) := rfl
theorem rw_138_60 : mm_code 138 60 = some (.getfield 318, 3, 5, 2, [0, 87]) := rfl
theorem rw_138_63 : mm_code 138 63 = some (.ireturn, 1, 0, 0, []) := rfl
theorem rw_138_64 : mm_code 138 64 = some (.aload_n 0, 1, 0, 0, []) := rfl
theorem rw_138_65 : mm_code 138 65 = some (.getfield 68, 3, 10, 8, [3, 18]) := rfl
theorem rw_138_68 : mm_code 138 68 = some (.getfield 321, 3, 5, 3, [0, 88]) := rfl
theorem rw_138_71 : mm_code 138 71 = some (.ireturn, 1, 0, 0, []) := rfl
theorem rw_138_72 : mm_code 138 72 = some (.aload_n 0, 1, 0, 0, []) := rfl
theorem rw_138_73 : mm_code 138 73 = some (.getfield 85, 3, 10, 12, [0, 23]) := rfl
theorem rw_138_76 : mm_code 138 76 = some (.ireturn, 1, 0, 0, []) := rfl
theorem rw_138_77 : mm_code 138 77 = some (.aload_n 0, 1, 0, 0, []) := rfl
theorem rw_138_78 : mm_code 138 78 = some (.getfield 19, 3, 10, 1, [3, 4]) := rfl
theorem rw_138_81 : mm_code 138 81 = some (.getfield 104, 3, 3, 0, [0, 28]) := rfl
theorem rw_138_84 : mm_code 138 84 = some (.ireturn, 1, 0, 0, []) := rfl
theorem rw_138_85 : mm_code 138 85 = some (.aload_n 0, 1, 0, 0, []) := rfl
theorem rw_138_86 : mm_code 138 86 = some (.getfield 78, 3, 10, 10, [3, 21]) := rfl
theorem rw_138_89 : mm_code 138 89 = some (.getfield 134, 3, 6, 4, [0, 38]) := rfl
theorem rw_138_92 : mm_code 138 92 = some (.ireturn, 1, 0, 0, []) := rfl
theorem rw_138_93 : mm_code 138 93 = some (.aload_n 0, 1, 0, 0, []) := rfl
theorem rw_138_94 : mm_code 138 94 = some (.getfield 40, 3, 10, 4, [3, 10]) := rfl
theorem rw_138_97 : mm_code 138 97 = some (.getfield 323, 3, 9, 9, [0, 89]) := rfl
theorem rw_138_100 : mm_code 138 100 = some (.ireturn, 1, 0, 0, []) := rfl
theorem rw_138_101 : mm_code 138 101 = some (.aload_n 0, 1, 0, 0, []) := rfl
theorem rw_138_102 : mm_code 138 102 = some (.getfield 40, 3, 10, 4, [3, 10]) := rfl
theorem rw_138_105 : mm_code 138 105 = some (.getfield 324, 3, 9, 8, [0, 90]) := rfl
theorem rw_138_108 : mm_code 138 108 = some (.ireturn, 1, 0, 0, []) := rfl
theorem rw_138_109 : mm_code 138 109 = some (.iconst (-1), 1, 1, 1, []) := rfl
theorem rw_138_110 : mm_code 138 110 = some (.ireturn, 1, 0, 0, []) := rfl
theorem rw_139_0 : mm_code 139 0 = some (.iload_n 1, 1, 0, 0, []) := rfl
theorem rw_139_1 : mm_code 139 1 = some (.ifCond .lt 18, 3, 19, 0, []) := rfl
theorem rw_139_4 : mm_code 139 4 = some (.iload_n 1, 1, 0, 0, []) := rfl
theorem rw_139_5 : mm_code 139 5 = some (.aload_n 0, 1, 0, 0, []) := rfl
theorem rw_139_6 : mm_code 139 6 = some (.getfield 19, 3, 10, 1, [3, 4]) := rfl
theorem rw_139_9 : mm_code 139 9 = some (.getfield 104, 3, 3, 0, [0, 28]) := rfl
theorem rw_139_12 : mm_code 139 12 = some (.if_icmp .gt 7, 3, 19, 0, []) := rfl
theorem rw_139_15 : mm_code 139 15 = some (.iconst 1, 1, 1, 0, []) := rfl
theorem rw_139_16 : mm_code 139 16 = some (.goto 4, 3, 20, 0, []) := rfl
theorem rw_139_19 : mm_code 139 19 = some (.iconst 0, 1, 0, 0, []) := rfl
theorem rw_139_20 : mm_code 139 20 = some (.ireturn, 1, 1, 0, []) := rfl
theorem rw_140_0 : mm_code 140 0 = some (.iload_n 1, 1, 0, 0, []) := rfl
theorem rw_140_1 : mm_code 140 1 = some (.ifCond .lt 15, 3, 16, 0, []) := rfl
theorem rw_140_4 : mm_code 140 4 = some (.iload_n 1, 1, 0, 0, []) := rfl
theorem rw_140_5 : mm_code 140 5 = some (.aload_n 0, 1, 0, 0, []) := rfl
theorem rw_140_6 : mm_code 140 6 = some (.getfield 85, 3, 10, 12, [0, 23]) := rfl
theorem rw_140_9 : mm_code 140 9 = some (.if_icmp .ge 7, 3, 16, 0, []) := rfl
theorem rw_140_12 : mm_code 140 12 = some (.iconst 1, 1, 1, 0, []) := rfl
theorem rw_140_13 : mm_code 140 13 = some (.goto 4, 3, 17, 0, []) := rfl
theorem rw_140_16 : mm_code 140 16 = some (.iconst 0, 1, 0, 0, []) := rfl
theorem rw_140_17 : mm_code 140 17 = some (.ireturn, 1, 1, 0, []) := rfl
theorem rw_141_0 : mm_code 141 0 = some (.aload_n 0, 1, 0, 0, []) := rfl
theorem rw_141_1 : mm_code 141 1 = some (.getfield 26, 3, 10, 2, [3, 6]) := rfl
theorem rw_141_4 : mm_code 141 4 = some (.aload_n 0, 1, 0, 0, []) := rfl
theorem rw_141_5 : mm_code 141 5 = some (.getfield 68, 3, 10, 8, [3, 18]) := rfl
theorem rw_141_8 : mm_code 141 8 = some (.aload_n 0, 1, 0, 0, []) := rfl
theorem rw_141_9 : mm_code 141 9 = some (.getfield 19, 3, 10, 1, [3, 4]) := rfl
theorem rw_141_12 : mm_code 141 12 = some (.iload_n 1, 1, 0, 0, []) := rfl
theorem rw_141_13 : mm_code 141 13 = some (.invokevirtual 327, 3, 8, 4, [91, 0]) := rfl
theorem rw_141_16 : mm_code 141 16 = some (.return_, 1, 0, 0, []) := rfl
theorem rw_142_0 : mm_code 142 0 = some (.aload_n 0, 1, 0, 0, []) := rfl
theorem rw_142_1 : mm_code 142 1 = some (.getfield 26, 3, 10, 2, [3, 6]) := rfl
theorem rw_142_4 : mm_code 142 4 = some (.aload_n 0, 1, 0, 0, []) := rfl
theorem rw_142_5 : mm_code 142 5 = some (.getfield 68, 3, 10, 8, [3, 18]) := rfl
theorem rw_142_8 : mm_code 142 8 = some (.aload_n 0, 1, 0, 0, []) := rfl
theorem rw_142_9 : mm_code 142 9 = some (.getfield 19, 3, 10, 1, [3, 4]) := rfl
theorem rw_142_12 : mm_code 142 12 = some (.aload_n 0, 1, 0, 0, []) := rfl
theorem rw_142_13 : mm_code 142 13 = some (.getfield 19, 3, 10, 1, [3, 4]) := rfl
theorem rw_142_16 : mm_code 142 16 = some (.getfield 104, 3, 3, 0, [0, 28]) := rfl
theorem rw_142_19 : mm_code 142 19 = some (.invokevirtual 327, 3, 8, 4, [91, 0]) := rfl
theorem rw_142_22 : mm_code 142 22 = some (.return_, 1, 0, 0, []) := rfl
theorem rw_143_0 : mm_code 143 0 = some (.iload_n 0, 1, 0, 0, []) := rfl
theorem rw_143_1 : mm_code 143 1 = some (.ifCond .lt 13, 3, 14, 0, []) := rfl
theorem rw_143_4 : mm_code 143 4 = some (.iload_n 0, 1, 0, 0, []) := rfl
theorem rw_143_5 : mm_code 143 5 = some (.bipush 6, 2, 6, 0, []) := rfl
theorem rw_143_7 : mm_code 143 7 = some (.if_icmp .ge 7, 3, 14, 0, []) := rfl
theorem rw_143_10 : mm_code 143 10 = some (.iconst 1, 1, 1, 0, []) := rfl
theorem rw_143_11 : mm_code 143 11 = some (.goto 4, 3, 15, 0, []) := rfl
theorem rw_143_14 : mm_code 143 14 = some (.iconst 0, 1, 0, 0, []) := rfl
theorem rw_143_15 : mm_code 143 15 = some (.ireturn, 1, 1, 0, []) := rfl
theorem rw_144_0 : mm_code 144 0 = some (.lconst 1, 1, 1, 0, []) := rfl
theorem rw_144_1 : mm_code 144 1 = some (.iload_n 1, 1, 0, 0, []) := rfl
theorem rw_144_2 : mm_code 144 2 = some (.iload_n 0, 1, 0, 0, []) := rfl
theorem rw_144_3 : mm_code 144 3 = some (.isub, 1, 0, 0, []) := rfl
theorem rw_144_4 : mm_code 144 4 = some (.iconst 1, 1, 1, 0, []) := rfl
theorem rw_144_5 : mm_code 144 5 = some (.iadd, 1, 0, 0, []) := rfl
theorem rw_144_6 : mm_code 144 6 = some (.lshl, 1, 0, 0, []) := rfl
theorem rw_144_7 : mm_code 144 7 = some (.lconst 1, 1, 1, 0, []) := rfl
theorem rw_144_8 : mm_code 144 8 = some (.lsub, 1, 0, 0, []) := rfl
theorem rw_144_9 : mm_code 144 9 = some (.iload_n 0, 1, 0, 0, []) := rfl
theorem rw_144_10 : mm_code 144 10 = some (.lshl, 1, 0, 0, []) := rfl
theorem rw_144_11 : mm_code 144 11 = some (.lreturn, 1, 0, 0, []) := rfl
theorem rw_145_0 : mm_code 145 0 = some (.lconst 1, 1, 1, 0, []) := rfl
theorem rw_145_1 : mm_code 145 1 = some (.lstore_n 2, 1, 0, 0, []) := rfl
theorem rw_145_2 : mm_code 145 2 = some (.iconst 1, 1, 1, 0, []) := rfl
theorem rw_145_3 : mm_code 145 3 = some (.istore 4, 2, 0, 0, []) := rfl
theorem rw_145_5 : mm_code 145 5 = some (.iload 4, 2, 0, 0, []) := rfl
theorem rw_145_7 : mm_code 145 7 = some (.iload_n 1, 1, 0, 0, []) := rfl
theorem rw_145_8 : mm_code 145 8 = some (.if_icmp .gt 23, 3, 31, 0, []) := rfl
theorem rw_145_11 : mm_code 145 11 = some (.lload_n 2, 1, 0, 0, []) := rfl
theorem rw_145_12 : mm_code 145 12 = some (.iload_n 0, 1, 0, 0, []) := rfl
theorem rw_145_13 : mm_code 145 13 = some (.iload_n 1, 1, 0, 0, []) := rfl
theorem rw_145_14 : mm_code 145 14 = some (.isub, 1, 0, 0, []) := rfl
theorem rw_145_15 : mm_code 145 15 = some (.iload 4, 2, 0, 0, []) := rfl
theorem rw_145_17 : mm_code 145 17 = some (.iadd, 1, 0, 0, []) := rfl
theorem rw_145_18 : mm_code 145 18 = some (.i2l, 1, 0, 0, []) := rfl
theorem rw_145_19 : mm_code 145 19 = some (.lmul, 1, 0, 0, []) := rfl
theorem rw_145_20 : mm_code 145 20 = some (.iload 4, 2, 0, 0, []) := rfl
theorem rw_145_22 : mm_code 145 22 = some (.i2l, 1, 0, 0, []) := rfl
theorem rw_145_23 : mm_code 145 23 = some (.ldiv, 1, 0, 0, []) := rfl
theorem rw_145_24 : mm_code 145 24 = some (.lstore_n 2, 1, 0, 0, []) := rfl
theorem rw_145_25 : mm_code 145 25 = some (.iinc 4 1, 3, 1, 0, []) := rfl
theorem rw_145_28 : mm_code 145 28 = some (.goto (-23), 3, 5, 0, []) := rfl
theorem rw_145_31 : mm_code 145 31 = some (.iload_n 0, 1, 0, 0, []) := rfl
theorem rw_145_32 : mm_code 145 32 = some (.iload_n 1, 1, 0, 0, []) := rfl
theorem rw_145_33 : mm_code 145 33 = some (.if_icmp .ge 7, 3, 40, 0, []) := rfl
theorem rw_145_36 : mm_code 145 36 = some (.lconst 0, 1, 0, 0, []) := rfl
theorem rw_145_37 : mm_code 145 37 = some (.goto 4, 3, 41, 0, []) := rfl
theorem rw_145_40 : mm_code 145 40 = some (.lload_n 2, 1, 0, 0, []) := rfl
theorem rw_145_41 : mm_code 145 41 = some (.lreturn, 1, 0, 0, []) := rfl
theorem rw_148_0 : mm_code 147 0 = some (.aload_n 0, 1, 0, 0, []) := rfl
theorem rw_148_1 : mm_code 147 1 = some (.iconst 0, 1, 0, 0, []) := rfl
theorem rw_148_2 : mm_code 147 2 = some (.putfield 163, 3, 11, 2, [0, 51]) := rfl
theorem rw_148_5 : mm_code 147 5 = some (.aload_n 0, 1, 0, 0, []) := rfl
theorem rw_148_6 : mm_code 147 6 = some (.getfield 166, 3, 11, 1, [0, 52]) := rfl
theorem rw_148_9 : mm_code 147 9 = some (.bipush 20, 2, 20, 0, []) := rfl
theorem rw_148_11 : mm_code 147 11 = some (.iadd, 1, 0, 0, []) := rfl
theorem rw_148_12 : mm_code 147 12 = some (.sipush 500, 3, 500, 0, []) := rfl
theorem rw_148_15 : mm_code 147 15 = some (.if_icmp .le 5, 3, 20, 0, []) := rfl
theorem rw_148_18 : mm_code 147 18 = some (.iconst (-1), 1, 1, 1, []) := rfl
theorem rw_148_19 : mm_code 147 19 = some (.ireturn, 1, 0, 0, []) := rfl
theorem rw_148_20 : mm_code 147 20 = some (.iconst 0, 1, 0, 0, []) := rfl
theorem rw_148_21 : mm_code 147 21 = some (.istore 6, 2, 0, 0, []) := rfl
theorem rw_148_23 : mm_code 147 23 = some (.iload 6, 2, 0, 0, []) := rfl
theorem rw_148_25 : mm_code 147 25 = some (.bipush 20, 2, 20, 0, []) := rfl
theorem rw_148_27 : mm_code 147 27 = some (.if_icmp .ge 86, 3, 113, 0, []) := rfl
theorem rw_148_30 : mm_code 147 30 = some (.iload 6, 2, 0, 0, []) := rfl
theorem rw_148_32 : mm_code 147 32 = some (.iconst 4, 1, 4, 0, []) := rfl
theorem rw_148_33 : mm_code 147 33 = some (.if_icmp .ge 7, 3, 40, 0, []) := rfl
theorem rw_148_36 : mm_code 147 36 = some (.iload_n 1, 1, 0, 0, []) := rfl
theorem rw_148_37 : mm_code 147 37 = some (.goto 39, 3, 76, 0, []) := rfl
theorem rw_148_40 : mm_code 147 40 = some (.iload 6, 2, 0, 0, []) := rfl
theorem rw_148_42 : mm_code 147 42 = some (.bipush 8, 2, 8, 0, []) := rfl
theorem rw_148_44 : mm_code 147 44 = some (.if_icmp .ge 7, 3, 51, 0, []) := rfl
theorem rw_148_47 : mm_code 147 47 = some (.iload_n 2, 1, 0, 0, []) := rfl
theorem rw_148_48 : mm_code 147 48 = some (.goto 28, 3, 76, 0, []) := rfl
theorem rw_148_51 : mm_code 147 51 = some (.iload 6, 2, 0, 0, []) := rfl
theorem rw_148_53 : mm_code 147 53 = some (.bipush 12, 2, 12, 0, []) := rfl
theorem rw_148_55 : mm_code 147 55 = some (.if_icmp .ge 7, 3, 62, 0, []) := rfl
theorem rw_148_58 : mm_code 147 58 = some (.iload_n 3, 1, 0, 0, []) := rfl
theorem rw_148_59 : mm_code 147 59 = some (.goto 17, 3, 76, 0, []) := rfl
theorem rw_148_62 : mm_code 147 62 = some (.iload 6, 2, 0, 0, []) := rfl
theorem rw_148_64 : mm_code 147 64 = some (.bipush 16, 2, 16, 0, []) := rfl
theorem rw_148_66 : mm_code 147 66 = some (.if_icmp .ge 8, 3, 74, 0, []) := rfl
theorem rw_148_69 : mm_code 147 69 = some (.iload 4, 2, 0, 0, []) := rfl
theorem rw_148_71 : mm_code 147 71 = some (.goto 5, 3, 76, 0, []) := rfl
theorem rw_148_74 : mm_code 147 74 = some (.iload 5, 2, 0, 0, []) := rfl
theorem rw_148_76 : mm_code 147 76 = some (.istore 7, 2, 0, 0, []) := rfl
theorem rw_148_78 : mm_code 147 78 = some (.aload_n 0, 1, 0, 0, []) := rfl
theorem rw_148_79 : mm_code 147 79 = some (.getfield 7, 3, 11, 0, [3, 1]) := rfl
theorem rw_148_82 : mm_code 147 82 = some (.aload_n 0, 1, 0, 0, []) := rfl
theorem rw_148_83 : mm_code 147 83 = some (.getfield 166, 3, 11, 1, [0, 52]) := rfl
theorem rw_148_86 : mm_code 147 86 = some (.iload 6, 2, 0, 0, []) := rfl
theorem rw_148_88 : mm_code 147 88 = some (.iadd, 1, 0, 0, []) := rfl
theorem rw_148_89 : mm_code 147 89 = some (.iload 7, 2, 0, 0, []) := rfl
theorem rw_148_91 : mm_code 147 91 = some (.bipush 24, 2, 24, 0, []) := rfl
theorem rw_148_93 : mm_code 147 93 = some (.bipush 8, 2, 8, 0, []) := rfl
theorem rw_148_95 : mm_code 147 95 = some (.iload 6, 2, 0, 0, []) := rfl
theorem rw_148_97 : mm_code 147 97 = some (.iconst 4, 1, 4, 0, []) := rfl
theorem rw_148_98 : mm_code 147 98 = some (.irem, 1, 0, 0, []) := rfl
theorem rw_148_99 : mm_code 147 99 = some (.imul, 1, 0, 0, []) := rfl
theorem rw_148_100 : mm_code 147 100 = some (.isub, 1, 0, 0, []) := rfl
theorem rw_148_101 : mm_code 147 101 = some (.ishr, 1, 0, 0, []) := rfl
theorem rw_148_102 : mm_code 147 102 = some (.sipush 255, 3, 255, 0, []) := rfl
theorem rw_148_105 : mm_code 147 105 = some (.iand, 1, 0, 0, []) := rfl
theorem rw_148_106 : mm_code 147 106 = some (.iastore, 1, 0, 0, []) := rfl
theorem rw_148_107 : mm_code 147 107 = some (.iinc 6 1, 3, 1, 0, []) := rfl
theorem rw_148_110 : mm_code 147 110 = some (.goto (-87), 3, 23, 0, []) := rfl
theorem rw_148_113 : mm_code 147 113 = some (.aload_n 0, 1, 0, 0, []) := rfl
theorem rw_148_114 : mm_code 147 114 = some (.dup, 1, 0, 0, []) := rfl
theorem rw_148_115 : mm_code 147 115 = some (.getfield 166, 3, 11, 1, [0, 52]) := rfl
theorem rw_148_118 : mm_code 147 118 = some (.bipush 20, 2, 20, 0, []) := rfl
theorem rw_148_120 : mm_code 147 120 = some (.iadd, 1, 0, 0, []) := rfl
theorem rw_148_121 : mm_code 147 121 = some (.putfield 166, 3, 11, 1, [0, 52]) := rfl
theorem rw_148_124 : mm_code 147 124 = some (.aload_n 0, 1, 0, 0, []) := rfl
theorem rw_148_125 : mm_code 147 125 = some (.getfield 166, 3, 11, 1, [0, 52]) := rfl
theorem rw_148_128 : mm_code 147 128 = some (.ireturn, 1, 0, 0, []) := rfl
theorem rw_149_0 : mm_code 148 0 = some (.iload_n 0, 1, 0, 0, []) := rfl
theorem rw_149_1 : mm_code 148 1 = some (.iload_n 1, 1, 0, 0, []) := rfl
theorem rw_149_2 : mm_code 148 2 = some (.if_icmp .lt 12, 3, 14, 0, []) := rfl
theorem rw_149_5 : mm_code 148 5 = some (.iload_n 0, 1, 0, 0, []) := rfl
theorem rw_149_6 : mm_code 148 6 = some (.iload_n 2, 1, 0, 0, []) := rfl
theorem rw_149_7 : mm_code 148 7 = some (.if_icmp .gt 7, 3, 14, 0, []) := rfl
theorem rw_149_10 : mm_code 148 10 = some (.iconst 1, 1, 1, 0, []) := rfl
theorem rw_149_11 : mm_code 148 11 = some (.goto 4, 3, 15, 0, []) := rfl
theorem rw_149_14 : mm_code 148 14 = some (.iconst 0, 1, 0, 0, []) := rfl
theorem rw_149_15 : mm_code 148 15 = some (.ireturn, 1, 1, 0, []) := rfl
theorem rw_150_0 : mm_code 149 0 = some (.lload_n 0, 1, 0, 0, []) := rfl
theorem rw_150_1 : mm_code 149 1 = some (.iload_n 2, 1, 0, 0, []) := rfl
theorem rw_150_2 : mm_code 149 2 = some (.lshr, 1, 0, 0, []) := rfl
theorem rw_150_3 : mm_code 149 3 = some (.lconst 1, 1, 1, 0, []) := rfl
theorem rw_150_4 : mm_code 149 4 = some (.land, 1, 0, 0, []) := rfl
theorem rw_150_5 : mm_code 149 5 = some (.lconst 1, 1, 1, 0, []) := rfl
theorem rw_150_6 : mm_code 149 6 = some (.lcmp, 1, 0, 0, []) := rfl
theorem rw_150_7 : mm_code 149 7 = some (.ifCond .ne 7, 3, 14, 0, []) := rfl
theorem rw_150_10 : mm_code 149 10 = some (.iconst 1, 1, 1, 0, []) := rfl
theorem rw_150_11 : mm_code 149 11 = some (.goto 4, 3, 15, 0, []) := rfl
theorem rw_150_14 : mm_code 149 14 = some (.iconst 0, 1, 0, 0, []) := rfl
theorem rw_150_15 : mm_code 149 15 = some (.ireturn, 1, 1, 0, []) := rfl
theorem rw_151_0 : mm_code 150 0 = some (.iconst 0, 1, 0, 0, []) := rfl
theorem rw_151_1 : mm_code 150 1 = some (.istore_n 2, 1, 0, 0, []) := rfl
theorem rw_151_2 : mm_code 150 2 = some (.iconst 0, 1, 0, 0, []) := rfl
theorem rw_151_3 : mm_code 150 3 = some (.istore_n 3, 1, 0, 0, []) := rfl
theorem rw_151_4 : mm_code 150 4 = some (.iload_n 3, 1, 0, 0, []) := rfl
theorem rw_151_5 : mm_code 150 5 = some (.bipush 62, 2, 62, 0, []) := rfl
theorem rw_151_7 : mm_code 150 7 = some (.if_icmp .ge 25, 3, 32, 0, []) := rfl
theorem rw_151_10 : mm_code 150 10 = some (.iload_n 2, 1, 0, 0, []) := rfl
theorem rw_151_11 : mm_code 150 11 = some (.lload_n 0, 1, 0, 0, []) := rfl
theorem rw_151_12 : mm_code 150 12 = some (.iload_n 3, 1, 0, 0, []) := rfl
theorem rw_151_13 : mm_code 150 13 = some (.invokestatic 169, 3, 149, 2, [53, 0]) := rfl
theorem rw_151_16 : mm_code 150 16 = some (.ifCond .eq 7, 3, 23, 0, []) := rfl
theorem rw_151_19 : mm_code 150 19 = some (.iconst 1, 1, 1, 0, []) := rfl
theorem rw_151_20 : mm_code 150 20 = some (.goto 4, 3, 24, 0, []) := rfl
theorem rw_151_23 : mm_code 150 23 = some (.iconst 0, 1, 0, 0, []) := rfl
theorem rw_151_24 : mm_code 150 24 = some (.iadd, 1, 0, 0, []) := rfl
theorem rw_151_25 : mm_code 150 25 = some (.istore_n 2, 1, 0, 0, []) := rfl
theorem rw_151_26 : mm_code 150 26 = some (.iinc 3 1, 3, 1, 0, []) := rfl
theorem rw_151_29 : mm_code 150 29 = some (.goto (-25), 3, 4, 0, []) := rfl
theorem rw_151_32 : mm_code 150 32 = some (.iload_n 2, 1, 0, 0, []) := rfl
theorem rw_151_33 : mm_code 150 33 = some (.ireturn, 1, 0, 0, []) := rfl
theorem rw_152_0 : mm_code 151 0 = some (.aload_n 0, 1, 0, 0, []) := rfl
theorem rw_152_1 : mm_code 151 1 = some (.iload_n 1, 1, 0, 0, []) := rfl
theorem rw_152_2 : mm_code 151 2 = some (.putfield 173, 3, 11, 4, [0, 54]) := rfl
theorem rw_152_5 : mm_code 151 5 = some (.aload_n 0, 1, 0, 0, []) := rfl
theorem rw_152_6 : mm_code 151 6 = some (.aload_n 0, 1, 0, 0, []) := rfl
theorem rw_152_7 : mm_code 151 7 = some (.getfield 176, 3, 11, 10, [0, 55]) := rfl
theorem rw_152_10 : mm_code 151 10 = some (.putfield 16, 3, 11, 5, [0, 3]) := rfl
theorem rw_152_13 : mm_code 151 13 = some (.iconst 0, 1, 0, 0, []) := rfl
theorem rw_152_14 : mm_code 151 14 = some (.ireturn, 1, 1, 0, []) := rfl
theorem rw_153_0 : mm_code 152 0 = some (.iconst 0, 1, 0, 0, []) := rfl
theorem rw_153_1 : mm_code 152 1 = some (.istore_n 3, 1, 0, 0, []) := rfl
theorem rw_153_2 : mm_code 152 2 = some (.iconst 0, 1, 0, 0, []) := rfl
theorem rw_153_3 : mm_code 152 3 = some (.istore 4, 2, 0, 0, []) := rfl
theorem rw_153_5 : mm_code 152 5 = some (.iload 4, 2, 0, 0, []) := rfl
theorem rw_153_7 : mm_code 152 7 = some (.aload_n 0, 1, 0, 0, []) := rfl
theorem rw_153_8 : mm_code 152 8 = some (.getfield 13, 3, 11, 3, [3, 2]) := rfl
theorem rw_153_11 : mm_code 152 11 = some (.arraylength, 1, 0, 0, []) := rfl
theorem rw_153_12 : mm_code 152 12 = some (.if_icmp .ge 114, 3, 126, 0, []) := rfl
theorem rw_153_15 : mm_code 152 15 = some (.iconst 0, 1, 0, 0, []) := rfl
theorem rw_153_16 : mm_code 152 16 = some (.istore 5, 2, 0, 0, []) := rfl
theorem rw_153_18 : mm_code 152 18 = some (.aload_n 0, 1, 0, 0, []) := rfl
theorem rw_153_19 : mm_code 152 19 = some (.getfield 13, 3, 11, 3, [3, 2]) := rfl
theorem rw_153_22 : mm_code 152 22 = some (.iload 4, 2, 0, 0, []) := rfl
theorem rw_153_24 : mm_code 152 24 = some (.iload 5, 2, 0, 0, []) := rfl
theorem rw_153_26 : mm_code 152 26 = some (.iadd, 1, 0, 0, []) := rfl
theorem rw_153_27 : mm_code 152 27 = some (.iaload, 1, 0, 0, []) := rfl
theorem rw_153_28 : mm_code 152 28 = some (.bipush 32, 2, 32, 0, []) := rfl
theorem rw_153_30 : mm_code 152 30 = some (.if_icmp .eq 9, 3, 39, 0, []) := rfl
theorem rw_153_33 : mm_code 152 33 = some (.iinc 5 1, 3, 1, 0, []) := rfl
theorem rw_153_36 : mm_code 152 36 = some (.goto (-18), 3, 18, 0, []) := rfl
theorem rw_153_39 : mm_code 152 39 = some (.iload 5, 2, 0, 0, []) := rfl
theorem rw_153_41 : mm_code 152 41 = some (.iload_n 2, 1, 0, 0, []) := rfl
theorem rw_153_42 : mm_code 152 42 = some (.iload_n 1, 1, 0, 0, []) := rfl
theorem rw_153_43 : mm_code 152 43 = some (.isub, 1, 0, 0, []) := rfl
end
section
theorem rw_153_44 : mm_code 152 44 = some (.if_icmp .ne 7, 3, 51, 0, []) := rfl
theorem rw_153_47 : mm_code 152 47 = some (.iconst 1, 1, 1, 0, []) := rfl
theorem rw_153_48 : mm_code 152 48 = some (.goto 4, 3, 52, 0, []) := rfl
theorem rw_153_51 : mm_code 152 51 = some (.iconst 0, 1, 0, 0, []) := rfl
theorem rw_153_52 : mm_code 152 52 = some (.istore 6, 2, 0, 0, []) := rfl
theorem rw_153_54 : mm_code 152 54 = some (.iconst 0, 1, 0, 0, []) := rfl
theorem rw_153_55 : mm_code 152 55 = some (.istore 7, 2, 0, 0, []) := rfl
theorem rw_153_57 : mm_code 152 57 = some (.iload 7, 2, 0, 0, []) := rfl
theorem rw_153_59 : mm_code 152 59 = some (.iload 5, 2, 0, 0, []) := rfl
theorem rw_153_61 : mm_code 152 61 = some (.if_icmp .ge 43, 3, 104, 0, []) := rfl
theorem rw_153_64 : mm_code 152 64 = some (.iload 6, 2, 0, 0, []) := rfl
theorem rw_153_66 : mm_code 152 66 = some (.ifCond .eq 38, 3, 104, 0, []) := rfl
theorem rw_153_69 : mm_code 152 69 = some (.aload_n 0, 1, 0, 0, []) := rfl
theorem rw_153_70 : mm_code 152 70 = some (.getfield 13, 3, 11, 3, [3, 2]) := rfl
theorem rw_153_73 : mm_code 152 73 = some (.iload 4, 2, 0, 0, []) := rfl
theorem rw_153_75 : mm_code 152 75 = some (.iload 7, 2, 0, 0, []) := rfl
theorem rw_153_77 : mm_code 152 77 = some (.iadd, 1, 0, 0, []) := rfl
theorem rw_153_78 : mm_code 152 78 = some (.iaload, 1, 0, 0, []) := rfl
theorem rw_153_79 : mm_code 152 79 = some (.aload_n 0, 1, 0, 0, []) := rfl
theorem rw_153_80 : mm_code 152 80 = some (.getfield 7, 3, 11, 0, [3, 1]) := rfl
theorem rw_153_83 : mm_code 152 83 = some (.iload_n 1, 1, 0, 0, []) := rfl
theorem rw_153_84 : mm_code 152 84 = some (.iload 7, 2, 0, 0, []) := rfl
theorem rw_153_86 : mm_code 152 86 = some (.iadd, 1, 0, 0, []) := rfl
theorem rw_153_87 : mm_code 152 87 = some (.iaload, 1, 0, 0, []) := rfl
theorem rw_153_88 : mm_code 152 88 = some (.if_icmp .ne 7, 3, 95, 0, []) := rfl
theorem rw_153_91 : mm_code 152 91 = some (.iconst 1, 1, 1, 0, []) := rfl
theorem rw_153_92 : mm_code 152 92 = some (.goto 4, 3, 96, 0, []) := rfl
theorem rw_153_95 : mm_code 152 95 = some (.iconst 0, 1, 0, 0, []) := rfl
theorem rw_153_96 : mm_code 152 96 = some (.istore 6, 2, 0, 0, []) := rfl
theorem rw_153_98 : mm_code 152 98 = some (.iinc 7 1, 3, 1, 0, []) := rfl
theorem rw_153_101 : mm_code 152 101 = some (.goto (-44), 3, 57, 0, []) := rfl
theorem rw_153_104 : mm_code 152 104 = some (.iload 6, 2, 0, 0, []) := rfl
theorem rw_153_106 : mm_code 152 106 = some (.ifCond .eq 5, 3, 111, 0, []) := rfl
theorem rw_153_109 : mm_code 152 109 = some (.iload_n 3, 1, 0, 0, []) := rfl
theorem rw_153_110 : mm_code 152 110 = some (.ireturn, 1, 0, 0, []) := rfl
theorem rw_153_111 : mm_code 152 111 = some (.iload 4, 2, 0, 0, []) := rfl
theorem rw_153_113 : mm_code 152 113 = some (.iload 5, 2, 0, 0, []) := rfl
theorem rw_153_115 : mm_code 152 115 = some (.iconst 1, 1, 1, 0, []) := rfl
theorem rw_153_116 : mm_code 152 116 = some (.iadd, 1, 0, 0, []) := rfl
theorem rw_153_117 : mm_code 152 117 = some (.iadd, 1, 0, 0, []) := rfl
theorem rw_153_118 : mm_code 152 118 = some (.istore 4, 2, 0, 0, []) := rfl
theorem rw_153_120 : mm_code 152 120 = some (.iinc 3 1, 3, 1, 0, []) := rfl
theorem rw_153_123 : mm_code 152 123 = some (.goto (-118), 3, 5, 0, []) := rfl
theorem rw_153_126 : mm_code 152 126 = some (.iconst (-1), 1, 1, 1, []) := rfl
theorem rw_153_127 : mm_code 152 127 = some (.ireturn, 1, 0, 0, []) := rfl
theorem rw_154_0 : mm_code 153 0 = some (.iload_n 1, 1, 0, 0, []) := rfl
theorem rw_154_1 : mm_code 153 1 = some (.aload_n 0, 1, 0, 0, []) := rfl
theorem rw_154_2 : mm_code 153 2 = some (.getfield 179, 3, 11, 6, [0, 56]) := rfl
theorem rw_154_5 : mm_code 153 5 = some (.if_icmp .ge 29, 3, 34, 0, []) := rfl
theorem rw_154_8 : mm_code 153 8 = some (.aload_n 0, 1, 0, 0, []) := rfl
theorem rw_154_9 : mm_code 153 9 = some (.getfield 7, 3, 11, 0, [3, 1]) := rfl
theorem rw_154_12 : mm_code 153 12 = some (.iload_n 1, 1, 0, 0, []) := rfl
theorem rw_154_13 : mm_code 153 13 = some (.iaload, 1, 0, 0, []) := rfl
theorem rw_154_14 : mm_code 153 14 = some (.bipush 97, 2, 97, 0, []) := rfl
theorem rw_154_16 : mm_code 153 16 = some (.if_icmp .lt 18, 3, 34, 0, []) := rfl
theorem rw_154_19 : mm_code 153 19 = some (.aload_n 0, 1, 0, 0, []) := rfl
theorem rw_154_20 : mm_code 153 20 = some (.getfield 7, 3, 11, 0, [3, 1]) := rfl
theorem rw_154_23 : mm_code 153 23 = some (.iload_n 1, 1, 0, 0, []) := rfl
theorem rw_154_24 : mm_code 153 24 = some (.iaload, 1, 0, 0, []) := rfl
theorem rw_154_25 : mm_code 153 25 = some (.bipush 122, 2, 122, 0, []) := rfl
theorem rw_154_27 : mm_code 153 27 = some (.if_icmp .gt 7, 3, 34, 0, []) := rfl
theorem rw_154_30 : mm_code 153 30 = some (.iconst 1, 1, 1, 0, []) := rfl
theorem rw_154_31 : mm_code 153 31 = some (.goto 4, 3, 35, 0, []) := rfl
theorem rw_154_34 : mm_code 153 34 = some (.iconst 0, 1, 0, 0, []) := rfl
theorem rw_154_35 : mm_code 153 35 = some (.ireturn, 1, 1, 0, []) := rfl
theorem rw_155_0 : mm_code 154 0 = some (.iload_n 1, 1, 0, 0, []) := rfl
theorem rw_155_1 : mm_code 154 1 = some (.aload_n 0, 1, 0, 0, []) := rfl
theorem rw_155_2 : mm_code 154 2 = some (.getfield 179, 3, 11, 6, [0, 56]) := rfl
theorem rw_155_5 : mm_code 154 5 = some (.if_icmp .ge 29, 3, 34, 0, []) := rfl
theorem rw_155_8 : mm_code 154 8 = some (.aload_n 0, 1, 0, 0, []) := rfl
theorem rw_155_9 : mm_code 154 9 = some (.getfield 7, 3, 11, 0, [3, 1]) := rfl
theorem rw_155_12 : mm_code 154 12 = some (.iload_n 1, 1, 0, 0, []) := rfl
theorem rw_155_13 : mm_code 154 13 = some (.iaload, 1, 0, 0, []) := rfl
theorem rw_155_14 : mm_code 154 14 = some (.bipush 48, 2, 48, 0, []) := rfl
theorem rw_155_16 : mm_code 154 16 = some (.if_icmp .lt 18, 3, 34, 0, []) := rfl
theorem rw_155_19 : mm_code 154 19 = some (.aload_n 0, 1, 0, 0, []) := rfl
theorem rw_155_20 : mm_code 154 20 = some (.getfield 7, 3, 11, 0, [3, 1]) := rfl
theorem rw_155_23 : mm_code 154 23 = some (.iload_n 1, 1, 0, 0, []) := rfl
theorem rw_155_24 : mm_code 154 24 = some (.iaload, 1, 0, 0, []) := rfl
theorem rw_155_25 : mm_code 154 25 = some (.bipush 57, 2, 57, 0, []) := rfl
theorem rw_155_27 : mm_code 154 27 = some (.if_icmp .gt 7, 3, 34, 0, []) := rfl
theorem rw_155_30 : mm_code 154 30 = some (.iconst 1, 1, 1, 0, []) := rfl
theorem rw_155_31 : mm_code 154 31 = some (.goto 4, 3, 35, 0, []) := rfl
theorem rw_155_34 : mm_code 154 34 = some (.iconst 0, 1, 0, 0, []) := rfl
theorem rw_155_35 : mm_code 154 35 = some (.ireturn, 1, 1, 0, []) := rfl
theorem rw_156_0 : mm_code 155 0 = some (.aload_n 0, 1, 0, 0, []) := rfl
theorem rw_156_1 : mm_code 155 1 = some (.getfield 182, 3, 11, 7, [0, 57]) := rfl
theorem rw_156_4 : mm_code 155 4 = some (.aload_n 0, 1, 0, 0, []) := rfl
theorem rw_156_5 : mm_code 155 5 = some (.getfield 179, 3, 11, 6, [0, 56]) := rfl
theorem rw_156_8 : mm_code 155 8 = some (.if_icmp .ge 44, 3, 52, 0, []) := rfl
theorem rw_156_11 : mm_code 155 11 = some (.aload_n 0, 1, 0, 0, []) := rfl
theorem rw_156_12 : mm_code 155 12 = some (.getfield 7, 3, 11, 0, [3, 1]) := rfl
theorem rw_156_15 : mm_code 155 15 = some (.aload_n 0, 1, 0, 0, []) := rfl
theorem rw_156_16 : mm_code 155 16 = some (.getfield 182, 3, 11, 7, [0, 57]) := rfl
theorem rw_156_19 : mm_code 155 19 = some (.iaload, 1, 0, 0, []) := rfl
theorem rw_156_20 : mm_code 155 20 = some (.bipush 10, 2, 10, 0, []) := rfl
theorem rw_156_22 : mm_code 155 22 = some (.if_icmp .eq 17, 3, 39, 0, []) := rfl
theorem rw_156_25 : mm_code 155 25 = some (.aload_n 0, 1, 0, 0, []) := rfl
theorem rw_156_26 : mm_code 155 26 = some (.getfield 7, 3, 11, 0, [3, 1]) := rfl
theorem rw_156_29 : mm_code 155 29 = some (.aload_n 0, 1, 0, 0, []) := rfl
theorem rw_156_30 : mm_code 155 30 = some (.getfield 182, 3, 11, 7, [0, 57]) := rfl
theorem rw_156_33 : mm_code 155 33 = some (.iaload, 1, 0, 0, []) := rfl
theorem rw_156_34 : mm_code 155 34 = some (.bipush 32, 2, 32, 0, []) := rfl
theorem rw_156_36 : mm_code 155 36 = some (.if_icmp .ne 16, 3, 52, 0, []) := rfl
theorem rw_156_39 : mm_code 155 39 = some (.aload_n 0, 1, 0, 0, []) := rfl
theorem rw_156_40 : mm_code 155 40 = some (.dup, 1, 0, 0, []) := rfl
theorem rw_156_41 : mm_code 155 41 = some (.getfield 182, 3, 11, 7, [0, 57]) := rfl
theorem rw_156_44 : mm_code 155 44 = some (.iconst 1, 1, 1, 0, []) := rfl
theorem rw_156_45 : mm_code 155 45 = some (.iadd, 1, 0, 0, []) := rfl
theorem rw_156_46 : mm_code 155 46 = some (.putfield 182, 3, 11, 7, [0, 57]) := rfl
theorem rw_156_49 : mm_code 155 49 = some (.goto (-49), 3, 0, 0, []) := rfl
theorem rw_156_52 : mm_code 155 52 = some (.aload_n 0, 1, 0, 0, []) := rfl
theorem rw_156_53 : mm_code 155 53 = some (.aload_n 0, 1, 0, 0, []) := rfl
theorem rw_156_54 : mm_code 155 54 = some (.getfield 182, 3, 11, 7, [0, 57]) := rfl
theorem rw_156_57 : mm_code 155 57 = some (.putfield 176, 3, 11, 10, [0, 55]) := rfl
theorem rw_156_60 : mm_code 155 60 = some (.aload_n 0, 1, 0, 0, []) := rfl
theorem rw_156_61 : mm_code 155 61 = some (.getfield 182, 3, 11, 7, [0, 57]) := rfl
theorem rw_156_64 : mm_code 155 64 = some (.aload_n 0, 1, 0, 0, []) := rfl
theorem rw_156_65 : mm_code 155 65 = some (.getfield 179, 3, 11, 6, [0, 56]) := rfl
theorem rw_156_68 : mm_code 155 68 = some (.if_icmp .ne 11, 3, 79, 0, []) := rfl
theorem rw_156_71 : mm_code 155 71 = some (.aload_n 0, 1, 0, 0, []) := rfl
theorem rw_156_72 : mm_code 155 72 = some (.iconst 0, 1, 0, 0, []) := rfl
theorem rw_156_73 : mm_code 155 73 = some (.putfield 185, 3, 11, 8, [0, 58]) := rfl
theorem rw_156_76 : mm_code 155 76 = some (.goto 268, 3, 344, 0, []) := rfl
theorem rw_156_79 : mm_code 155 79 = some (.aload_n 0, 1, 0, 0, []) := rfl
theorem rw_156_80 : mm_code 155 80 = some (.aload_n 0, 1, 0, 0, []) := rfl
theorem rw_156_81 : mm_code 155 81 = some (.getfield 182, 3, 11, 7, [0, 57]) := rfl
theorem rw_156_84 : mm_code 155 84 = some (.invokevirtual 188, 3, 153, 2, [59, 0]) := rfl
theorem rw_156_87 : mm_code 155 87 = some (.ifCond .eq 104, 3, 191, 0, []) := rfl
theorem rw_156_90 : mm_code 155 90 = some (.aload_n 0, 1, 0, 0, []) := rfl
theorem rw_156_91 : mm_code 155 91 = some (.aload_n 0, 1, 0, 0, []) := rfl
theorem rw_156_92 : mm_code 155 92 = some (.getfield 182, 3, 11, 7, [0, 57]) := rfl
theorem rw_156_95 : mm_code 155 95 = some (.invokevirtual 188, 3, 153, 2, [59, 0]) := rfl
theorem rw_156_98 : mm_code 155 98 = some (.ifCond .eq 16, 3, 114, 0, []) := rfl
theorem rw_156_101 : mm_code 155 101 = some (.aload_n 0, 1, 0, 0, []) := rfl
theorem rw_156_102 : mm_code 155 102 = some (.dup, 1, 0, 0, []) := rfl
theorem rw_156_103 : mm_code 155 103 = some (.getfield 182, 3, 11, 7, [0, 57]) := rfl
theorem rw_156_106 : mm_code 155 106 = some (.iconst 1, 1, 1, 0, []) := rfl
theorem rw_156_107 : mm_code 155 107 = some (.iadd, 1, 0, 0, []) := rfl
theorem rw_156_108 : mm_code 155 108 = some (.putfield 182, 3, 11, 7, [0, 57]) := rfl
theorem rw_156_111 : mm_code 155 111 = some (.goto (-21), 3, 90, 0, []) := rfl
theorem rw_156_114 : mm_code 155 114 = some (.aload_n 0, 1, 0, 0, []) := rfl
theorem rw_156_115 : mm_code 155 115 = some (.aload_n 0, 1, 0, 0, []) := rfl
theorem rw_156_116 : mm_code 155 116 = some (.aload_n 0, 1, 0, 0, []) := rfl
theorem rw_156_117 : mm_code 155 117 = some (.getfield 176, 3, 11, 10, [0, 55]) := rfl
theorem rw_156_120 : mm_code 155 120 = some (.aload_n 0, 1, 0, 0, []) := rfl
theorem rw_156_121 : mm_code 155 121 = some (.getfield 182, 3, 11, 7, [0, 57]) := rfl
theorem rw_156_124 : mm_code 155 124 = some (.invokevirtual 192, 3, 152, 3, [60, 0]) := rfl
theorem rw_156_127 : mm_code 155 127 = some (.putfield 196, 3, 11, 9, [0, 61]) := rfl
theorem rw_156_130 : mm_code 155 130 = some (.aload_n 0, 1, 0, 0, []) := rfl
theorem rw_156_131 : mm_code 155 131 = some (.aload_n 0, 1, 0, 0, []) := rfl
theorem rw_156_132 : mm_code 155 132 = some (.getfield 196, 3, 11, 9, [0, 61]) := rfl
theorem rw_156_135 : mm_code 155 135 = some (.ifCond .lt 7, 3, 142, 0, []) := rfl
theorem rw_156_138 : mm_code 155 138 = some (.iconst 1, 1, 1, 0, []) := rfl
theorem rw_156_139 : mm_code 155 139 = some (.goto 22, 3, 161, 0, []) := rfl
theorem rw_156_142 : mm_code 155 142 = some (.aload_n 0, 1, 0, 0, []) := rfl
theorem rw_156_143 : mm_code 155 143 = some (.getfield 182, 3, 11, 7, [0, 57]) := rfl
theorem rw_156_146 : mm_code 155 146 = some (.aload_n 0, 1, 0, 0, []) := rfl
theorem rw_156_147 : mm_code 155 147 = some (.getfield 176, 3, 11, 10, [0, 55]) := rfl
theorem rw_156_150 : mm_code 155 150 = some (.isub, 1, 0, 0, []) := rfl
theorem rw_156_151 : mm_code 155 151 = some (.bipush 6, 2, 6, 0, []) := rfl
theorem rw_156_153 : mm_code 155 153 = some (.if_icmp .le 7, 3, 160, 0, []) := rfl
theorem rw_156_156 : mm_code 155 156 = some (.iconst 5, 1, 5, 0, []) := rfl
theorem rw_156_157 : mm_code 155 157 = some (.goto 4, 3, 161, 0, []) := rfl
theorem rw_156_160 : mm_code 155 160 = some (.iconst 2, 1, 2, 0, []) := rfl
theorem rw_156_161 : mm_code 155 161 = some (.putfield 185, 3, 11, 8, [0, 58]) := rfl
theorem rw_156_164 : mm_code 155 164 = some (.aload_n 0, 1, 0, 0, []) := rfl
theorem rw_156_165 : mm_code 155 165 = some (.getfield 185, 3, 11, 8, [0, 58]) := rfl
theorem rw_156_168 : mm_code 155 168 = some (.iconst 2, 1, 2, 0, []) := rfl
theorem rw_156_169 : mm_code 155 169 = some (.if_icmp .ne 175, 3, 344, 0, []) := rfl
theorem rw_156_172 : mm_code 155 172 = some (.aload_n 0, 1, 0, 0, []) := rfl
theorem rw_156_173 : mm_code 155 173 = some (.aload_n 0, 1, 0, 0, []) := rfl
theorem rw_156_174 : mm_code 155 174 = some (.aload_n 0, 1, 0, 0, []) := rfl
theorem rw_156_175 : mm_code 155 175 = some (.getfield 176, 3, 11, 10, [0, 55]) := rfl
theorem rw_156_178 : mm_code 155 178 = some (.aload_n 0, 1, 0, 0, []) := rfl
theorem rw_156_179 : mm_code 155 179 = some (.getfield 182, 3, 11, 7, [0, 57]) := rfl
theorem rw_156_182 : mm_code 155 182 = some (.invokevirtual 199, 3, 156, 3, [62, 0]) := rfl
theorem rw_156_185 : mm_code 155 185 = some (.putfield 196, 3, 11, 9, [0, 61]) := rfl
theorem rw_156_188 : mm_code 155 188 = some (.goto 156, 3, 344, 0, []) := rfl
theorem rw_156_191 : mm_code 155 191 = some (.aload_n 0, 1, 0, 0, []) := rfl
theorem rw_156_192 : mm_code 155 192 = some (.aload_n 0, 1, 0, 0, []) := rfl
theorem rw_156_193 : mm_code 155 193 = some (.getfield 182, 3, 11, 7, [0, 57]) := rfl
theorem rw_156_196 : mm_code 155 196 = some (.invokevirtual 202, 3, 154, 2, [63, 0]) := rfl
theorem rw_156_199 : mm_code 155 199 = some (.ifCond .eq 77, 3, 276, 0, []) := rfl
theorem rw_156_202 : mm_code 155 202 = some (.aload_n 0, 1, 0, 0, []) := rfl
theorem rw_156_203 : mm_code 155 203 = some (.iconst 3, 1, 3, 0, []) := rfl
theorem rw_156_204 : mm_code 155 204 = some (.putfield 185, 3, 11, 8, [0, 58]) := rfl
theorem rw_156_207 : mm_code 155 207 = some (.aload_n 0, 1, 0, 0, []) := rfl
theorem rw_156_208 : mm_code 155 208 = some (.iconst 0, 1, 0, 0, []) := rfl
theorem rw_156_209 : mm_code 155 209 = some (.putfield 196, 3, 11, 9, [0, 61]) := rfl
theorem rw_156_212 : mm_code 155 212 = some (.aload_n 0, 1, 0, 0, []) := rfl
theorem rw_156_213 : mm_code 155 213 = some (.aload_n 0, 1, 0, 0, []) := rfl
theorem rw_156_214 : mm_code 155 214 = some (.getfield 182, 3, 11, 7, [0, 57]) := rfl
theorem rw_156_217 : mm_code 155 217 = some (.invokevirtual 202, 3, 154, 2, [63, 0]) := rfl
theorem rw_156_220 : mm_code 155 220 = some (.ifCond .eq 124, 3, 344, 0, []) := rfl
theorem rw_156_223 : mm_code 155 223 = some (.aload_n 0, 1, 0, 0, []) := rfl
theorem rw_156_224 : mm_code 155 224 = some (.aload_n 0, 1, 0, 0, []) := rfl
theorem rw_156_225 : mm_code 155 225 = some (.getfield 196, 3, 11, 9, [0, 61]) := rfl
theorem rw_156_228 : mm_code 155 228 = some (.bipush 99, 2, 99, 0, []) := rfl
theorem rw_156_230 : mm_code 155 230 = some (.if_icmp .le 10, 3, 240, 0, []) := rfl
theorem rw_156_233 : mm_code 155 233 = some (.aload_n 0, 1, 0, 0, []) := rfl
theorem rw_156_234 : mm_code 155 234 = some (.getfield 196, 3, 11, 9, [0, 61]) := rfl
theorem rw_156_237 : mm_code 155 237 = some (.goto 23, 3, 260, 0, []) := rfl
theorem rw_156_240 : mm_code 155 240 = some (.bipush 10, 2, 10, 0, []) := rfl
theorem rw_156_242 : mm_code 155 242 = some (.aload_n 0, 1, 0, 0, []) := rfl
theorem rw_156_243 : mm_code 155 243 = some (.getfield 196, 3, 11, 9, [0, 61]) := rfl
theorem rw_156_246 : mm_code 155 246 = some (.imul, 1, 0, 0, []) := rfl
theorem rw_156_247 : mm_code 155 247 = some (.aload_n 0, 1, 0, 0, []) := rfl
theorem rw_156_248 : mm_code 155 248 = some (.getfield 7, 3, 11, 0, [3, 1]) := rfl
theorem rw_156_251 : mm_code 155 251 = some (.aload_n 0, 1, 0, 0, []) := rfl
theorem rw_156_252 : mm_code 155 252 = some (.getfield 182, 3, 11, 7, [0, 57]) := rfl
theorem rw_156_255 : mm_code 155 255 = some (.iaload, 1, 0, 0, []) := rfl
theorem rw_156_256 : mm_code 155 256 = some (.iadd, 1, 0, 0, []) := rfl
theorem rw_156_257 : mm_code 155 257 = some (.bipush 48, 2, 48, 0, []) := rfl
theorem rw_156_259 : mm_code 155 259 = some (.isub, 1, 0, 0, []) := rfl
theorem rw_156_260 : mm_code 155 260 = some (.putfield 196, 3, 11, 9, [0, 61]) := rfl
theorem rw_156_263 : mm_code 155 263 = some (.aload_n 0, 1, 0, 0, []) := rfl
theorem rw_156_264 : mm_code 155 264 = some (.dup, 1, 0, 0, []) := rfl
theorem rw_156_265 : mm_code 155 265 = some (.getfield 182, 3, 11, 7, [0, 57]) := rfl
theorem rw_156_268 : mm_code 155 268 = some (.iconst 1, 1, 1, 0, []) := rfl
theorem rw_156_269 : mm_code 155 269 = some (.iadd, 1, 0, 0, []) := rfl
theorem rw_156_270 : mm_code 155 270 = some (.putfield 182, 3, 11, 7, [0, 57]) := rfl
theorem rw_156_273 : mm_code 155 273 = some (.goto (-61), 3, 212, 0, []) := rfl
theorem rw_156_276 : mm_code 155 276 = some (.aload_n 0, 1, 0, 0, []) := rfl
theorem rw_156_277 : mm_code 155 277 = some (.aload_n 0, 1, 0, 0, []) := rfl
theorem rw_156_278 : mm_code 155 278 = some (.getfield 7, 3, 11, 0, [3, 1]) := rfl
theorem rw_156_281 : mm_code 155 281 = some (.aload_n 0, 1, 0, 0, []) := rfl
theorem rw_156_282 : mm_code 155 282 = some (.getfield 182, 3, 11, 7, [0, 57]) := rfl
theorem rw_156_285 : mm_code 155 285 = some (.iaload, 1, 0, 0, []) := rfl
theorem rw_156_286 : mm_code 155 286 = some (.putfield 196, 3, 11, 9, [0, 61]) := rfl
theorem rw_156_289 : mm_code 155 289 = some (.aload_n 0, 1, 0, 0, []) := rfl
theorem rw_156_290 : mm_code 155 290 = some (.aload_n 0, 1, 0, 0, []) := rfl
theorem rw_156_291 : mm_code 155 291 = some (.getfield 196, 3, 11, 9, [0, 61]) := rfl
theorem rw_156_294 : mm_code 155 294 = some (.bipush 59, 2, 59, 0, []) := rfl
theorem rw_156_296 : mm_code 155 296 = some (.if_icmp .eq 30, 3, 326, 0, []) := rfl
theorem rw_156_299 : mm_code 155 299 = some (.aload_n 0, 1, 0, 0, []) := rfl
theorem rw_156_300 : mm_code 155 300 = some (.getfield 196, 3, 11, 9, [0, 61]) := rfl
theorem rw_156_303 : mm_code 155 303 = some (.bipush 40, 2, 40, 0, []) := rfl
theorem rw_156_305 : mm_code 155 305 = some (.if_icmp .eq 21, 3, 326, 0, []) := rfl
theorem rw_156_308 : mm_code 155 308 = some (.aload_n 0, 1, 0, 0, []) := rfl
theorem rw_156_309 : mm_code 155 309 = some (.getfield 196, 3, 11, 9, [0, 61]) := rfl
theorem rw_156_312 : mm_code 155 312 = some (.bipush 41, 2, 41, 0, []) := rfl
theorem rw_156_314 : mm_code 155 314 = some (.if_icmp .eq 12, 3, 326, 0, []) := rfl
theorem rw_156_317 : mm_code 155 317 = some (.aload_n 0, 1, 0, 0, []) := rfl
theorem rw_156_318 : mm_code 155 318 = some (.getfield 196, 3, 11, 9, [0, 61]) := rfl
theorem rw_156_321 : mm_code 155 321 = some (.bipush 61, 2, 61, 0, []) := rfl
theorem rw_156_323 : mm_code 155 323 = some (.if_icmp .ne 7, 3, 330, 0, []) := rfl
theorem rw_156_326 : mm_code 155 326 = some (.iconst 4, 1, 4, 0, []) := rfl
theorem rw_156_327 : mm_code 155 327 = some (.goto 4, 3, 331, 0, []) := rfl
theorem rw_156_330 : mm_code 155 330 = some (.iconst 5, 1, 5, 0, []) := rfl
theorem rw_156_331 : mm_code 155 331 = some (.putfield 185, 3, 11, 8, [0, 58]) := rfl
theorem rw_156_334 : mm_code 155 334 = some (.aload_n 0, 1, 0, 0, []) := rfl
theorem rw_156_335 : mm_code 155 335 = some (.dup, 1, 0, 0, []) := rfl
theorem rw_156_336 : mm_code 155 336 = some (.getfield 182, 3, 11, 7, [0, 57]) := rfl
theorem rw_156_339 : mm_code 155 339 = some (.iconst 1, 1, 1, 0, []) := rfl
theorem rw_156_340 : mm_code 155 340 = some (.iadd, 1, 0, 0, []) := rfl
theorem rw_156_341 : mm_code 155 341 = some (.putfield 182, 3, 11, 7, [0, 57]) := rfl
theorem rw_156_344 : mm_code 155 344 = some (.return_, 1, 0, 0, []) := rfl
theorem rw_157_0 : mm_code 156 0 = some (.iconst 0, 1, 0, 0, []) := rfl
theorem rw_157_1 : mm_code 156 1 = some (.istore_n 3, 1, 0, 0, []) := rfl
theorem rw_157_2 : mm_code 156 2 = some (.iload_n 1, 1, 0, 0, []) := rfl
theorem rw_157_3 : mm_code 156 3 = some (.istore 4, 2, 0, 0, []) := rfl
theorem rw_157_5 : mm_code 156 5 = some (.iload 4, 2, 0, 0, []) := rfl
theorem rw_157_7 : mm_code 156 7 = some (.iload_n 1, 1, 0, 0, []) := rfl
theorem rw_157_8 : mm_code 156 8 = some (.bipush 6, 2, 6, 0, []) := rfl
theorem rw_157_10 : mm_code 156 10 = some (.iadd, 1, 0, 0, []) := rfl
theorem rw_157_11 : mm_code 156 11 = some (.if_icmp .ge 34, 3, 45, 0, []) := rfl
theorem rw_157_14 : mm_code 156 14 = some (.iload_n 3, 1, 0, 0, []) := rfl
theorem rw_157_15 : mm_code 156 15 = some (.iconst 5, 1, 5, 0, []) := rfl
theorem rw_157_16 : mm_code 156 16 = some (.ishl, 1, 0, 0, []) := rfl
theorem rw_157_17 : mm_code 156 17 = some (.iload 4, 2, 0, 0, []) := rfl
theorem rw_157_19 : mm_code 156 19 = some (.iload_n 2, 1, 0, 0, []) := rfl
theorem rw_157_20 : mm_code 156 20 = some (.if_icmp .ge 16, 3, 36, 0, []) := rfl
theorem rw_157_23 : mm_code 156 23 = some (.aload_n 0, 1, 0, 0, []) := rfl
theorem rw_157_24 : mm_code 156 24 = some (.getfield 7, 3, 11, 0, [3, 1]) := rfl
theorem rw_157_27 : mm_code 156 27 = some (.iload 4, 2, 0, 0, []) := rfl
theorem rw_157_29 : mm_code 156 29 = some (.iaload, 1, 0, 0, []) := rfl
theorem rw_157_30 : mm_code 156 30 = some (.bipush 96, 2, 96, 0, []) := rfl
theorem rw_157_32 : mm_code 156 32 = some (.isub, 1, 0, 0, []) := rfl
theorem rw_157_33 : mm_code 156 33 = some (.goto 4, 3, 37, 0, []) := rfl
theorem rw_157_36 : mm_code 156 36 = some (.iconst 0, 1, 0, 0, []) := rfl
theorem rw_157_37 : mm_code 156 37 = some (.ior, 1, 0, 0, []) := rfl
theorem rw_157_38 : mm_code 156 38 = some (.istore_n 3, 1, 0, 0, []) := rfl
theorem rw_157_39 : mm_code 156 39 = some (.iinc 4 1, 3, 1, 0, []) := rfl
theorem rw_157_42 : mm_code 156 42 = some (.goto (-37), 3, 5, 0, []) := rfl
theorem rw_157_45 : mm_code 156 45 = some (.iload_n 3, 1, 0, 0, []) := rfl
theorem rw_157_46 : mm_code 156 46 = some (.ireturn, 1, 0, 0, []) := rfl
theorem rw_158_0 : mm_code 157 0 = some (.aload_n 0, 1, 0, 0, []) := rfl
theorem rw_158_1 : mm_code 157 1 = some (.getfield 185, 3, 11, 8, [0, 58]) := rfl
theorem rw_158_4 : mm_code 157 4 = some (.iconst 1, 1, 1, 0, []) := rfl
theorem rw_158_5 : mm_code 157 5 = some (.if_icmp .ne 15, 3, 20, 0, []) := rfl
theorem rw_158_8 : mm_code 157 8 = some (.aload_n 0, 1, 0, 0, []) := rfl
theorem rw_158_9 : mm_code 157 9 = some (.getfield 196, 3, 11, 9, [0, 61]) := rfl
theorem rw_158_12 : mm_code 157 12 = some (.iload_n 1, 1, 0, 0, []) := rfl
theorem rw_158_13 : mm_code 157 13 = some (.if_icmp .ne 7, 3, 20, 0, []) := rfl
theorem rw_158_16 : mm_code 157 16 = some (.iconst 1, 1, 1, 0, []) := rfl
theorem rw_158_17 : mm_code 157 17 = some (.goto 4, 3, 21, 0, []) := rfl
theorem rw_158_20 : mm_code 157 20 = some (.iconst 0, 1, 0, 0, []) := rfl
theorem rw_158_21 : mm_code 157 21 = some (.ireturn, 1, 1, 0, []) := rfl
theorem rw_159_0 : mm_code 158 0 = some (.aload_n 0, 1, 0, 0, []) := rfl
theorem rw_159_1 : mm_code 158 1 = some (.getfield 185, 3, 11, 8, [0, 58]) := rfl
theorem rw_159_4 : mm_code 158 4 = some (.iconst 4, 1, 4, 0, []) := rfl
theorem rw_159_5 : mm_code 158 5 = some (.if_icmp .ne 15, 3, 20, 0, []) := rfl
theorem rw_159_8 : mm_code 158 8 = some (.aload_n 0, 1, 0, 0, []) := rfl
theorem rw_159_9 : mm_code 158 9 = some (.getfield 196, 3, 11, 9, [0, 61]) := rfl
theorem rw_159_12 : mm_code 158 12 = some (.iload_n 1, 1, 0, 0, []) := rfl
theorem rw_159_13 : mm_code 158 13 = some (.if_icmp .ne 7, 3, 20, 0, []) := rfl
theorem rw_159_16 : mm_code 158 16 = some (.iconst 1, 1, 1, 0, []) := rfl
theorem rw_159_17 : mm_code 158 17 = some (.goto 4, 3, 21, 0, []) := rfl
theorem rw_159_20 : mm_code 158 20 = some (.iconst 0, 1, 0, 0, []) := rfl
theorem rw_159_21 : mm_code 158 21 = some (.ireturn, 1, 1, 0, []) := rfl
theorem rw_160_0 : mm_code 159 0 = some (.aload_n 0, 1, 0, 0, []) := rfl
theorem rw_160_1 : mm_code 159 1 = some (.iload_n 1, 1, 0, 0, []) := rfl
theorem rw_160_2 : mm_code 159 2 = some (.invokevirtual 205, 3, 158, 2, [64, 0]) := rfl
theorem rw_160_5 : mm_code 159 5 = some (.ifCond .ne 9, 3, 14, 0, []) := rfl
theorem rw_160_8 : mm_code 159 8 = some (.aload_n 0, 1, 0, 0, []) := rfl
theorem rw_160_9 : mm_code 159 9 = some (.iconst 1, 1, 1, 0, []) := rfl
theorem rw_160_10 : mm_code 159 10 = some (.invokevirtual 208, 3, 151, 2, [65, 0]) := rfl
theorem rw_160_13 : mm_code 159 13 = some (.ireturn, 1, 1, 0, []) := rfl
theorem rw_160_14 : mm_code 159 14 = some (.aload_n 0, 1, 0, 0, []) := rfl
theorem rw_160_15 : mm_code 159 15 = some (.invokevirtual 211, 3, 155, 1, [66, 0]) := rfl
theorem rw_160_18 : mm_code 159 18 = some (.iconst 1, 1, 1, 0, []) := rfl
theorem rw_160_19 : mm_code 159 19 = some (.ireturn, 1, 1, 0, []) := rfl
theorem rw_161_0 : mm_code 160 0 = some (.aload_n 0, 1, 0, 0, []) := rfl
theorem rw_161_1 : mm_code 160 1 = some (.iload_n 1, 1, 0, 0, []) := rfl
theorem rw_161_2 : mm_code 160 2 = some (.invokevirtual 214, 3, 157, 2, [67, 0]) := rfl
theorem rw_161_5 : mm_code 160 5 = some (.ifCond .ne 9, 3, 14, 0, []) := rfl
theorem rw_161_8 : mm_code 160 8 = some (.aload_n 0, 1, 0, 0, []) := rfl
theorem rw_161_9 : mm_code 160 9 = some (.iconst 1, 1, 1, 0, []) := rfl
theorem rw_161_10 : mm_code 160 10 = some (.invokevirtual 208, 3, 151, 2, [65, 0]) := rfl
theorem rw_161_13 : mm_code 160 13 = some (.ireturn, 1, 1, 0, []) := rfl
theorem rw_161_14 : mm_code 160 14 = some (.aload_n 0, 1, 0, 0, []) := rfl
theorem rw_161_15 : mm_code 160 15 = some (.invokevirtual 211, 3, 155, 1, [66, 0]) := rfl
theorem rw_161_18 : mm_code 160 18 = some (.iconst 1, 1, 1, 0, []) := rfl
theorem rw_161_19 : mm_code 160 19 = some (.ireturn, 1, 1, 0, []) := rfl
theorem rw_162_0 : mm_code 161 0 = some (.aload_n 0, 1, 0, 0, []) := rfl
theorem rw_162_1 : mm_code 161 1 = some (.getfield 185, 3, 11, 8, [0, 58]) := rfl
theorem rw_162_4 : mm_code 161 4 = some (.iconst 3, 1, 3, 0, []) := rfl
theorem rw_162_5 : mm_code 161 5 = some (.if_icmp .eq 9, 3, 14, 0, []) := rfl
theorem rw_162_8 : mm_code 161 8 = some (.aload_n 0, 1, 0, 0, []) := rfl
theorem rw_162_9 : mm_code 161 9 = some (.iconst 1, 1, 1, 0, []) := rfl
theorem rw_162_10 : mm_code 161 10 = some (.invokevirtual 208, 3, 151, 2, [65, 0]) := rfl
theorem rw_162_13 : mm_code 161 13 = some (.ireturn, 1, 1, 0, []) := rfl
theorem rw_162_14 : mm_code 161 14 = some (.aload_n 0, 1, 0, 0, []) := rfl
theorem rw_162_15 : mm_code 161 15 = some (.getfield 196, 3, 11, 9, [0, 61]) := rfl
theorem rw_162_18 : mm_code 161 18 = some (.iload_n 1, 1, 0, 0, []) := rfl
theorem rw_162_19 : mm_code 161 19 = some (.if_icmp .lt 11, 3, 30, 0, []) := rfl
theorem rw_162_22 : mm_code 161 22 = some (.aload_n 0, 1, 0, 0, []) := rfl
theorem rw_162_23 : mm_code 161 23 = some (.getfield 196, 3, 11, 9, [0, 61]) := rfl
theorem rw_162_26 : mm_code 161 26 = some (.iload_n 2, 1, 0, 0, []) := rfl
theorem rw_162_27 : mm_code 161 27 = some (.if_icmp .le 11, 3, 38, 0, []) := rfl
theorem rw_162_30 : mm_code 161 30 = some (.aload_n 0, 1, 0, 0, []) := rfl
theorem rw_162_31 : mm_code 161 31 = some (.iconst 2, 1, 2, 0, []) := rfl
theorem rw_162_32 : mm_code 161 32 = some (.invokevirtual 208, 3, 151, 2, [65, 0]) := rfl
theorem rw_162_35 : mm_code 161 35 = some (.ifCond .eq 7, 3, 42, 0, []) := rfl
theorem rw_162_38 : mm_code 161 38 = some (.iconst 1, 1, 1, 0, []) := rfl
theorem rw_162_39 : mm_code 161 39 = some (.goto 4, 3, 43, 0, []) := rfl
theorem rw_162_42 : mm_code 161 42 = some (.iconst 0, 1, 0, 0, []) := rfl
theorem rw_162_43 : mm_code 161 43 = some (.ireturn, 1, 1, 0, []) := rfl
theorem rw_163_0 : mm_code 162 0 = some (.iload_n 1, 1, 0, 0, []) := rfl
theorem rw_163_1 : mm_code 162 1 = some (.ifCond .lt 11, 3, 12, 0, []) := rfl
theorem rw_163_4 : mm_code 162 4 = some (.iload_n 1, 1, 0, 0, []) := rfl
theorem rw_163_5 : mm_code 162 5 = some (.aload_n 0, 1, 0, 0, []) := rfl
theorem rw_163_6 : mm_code 162 6 = some (.getfield 166, 3, 11, 1, [0, 52]) := rfl
theorem rw_163_9 : mm_code 162 9 = some (.if_icmp .le 5, 3, 14, 0, []) := rfl
theorem rw_163_12 : mm_code 162 12 = some (.iconst 0, 1, 0, 0, []) := rfl
theorem rw_163_13 : mm_code 162 13 = some (.ireturn, 1, 1, 0, []) := rfl
theorem rw_163_14 : mm_code 162 14 = some (.aload_n 0, 1, 0, 0, []) := rfl
theorem rw_163_15 : mm_code 162 15 = some (.iload_n 1, 1, 0, 0, []) := rfl
theorem rw_163_16 : mm_code 162 16 = some (.putfield 179, 3, 11, 6, [0, 56]) := rfl
theorem rw_163_19 : mm_code 162 19 = some (.aload_n 0, 1, 0, 0, []) := rfl
theorem rw_163_20 : mm_code 162 20 = some (.iconst 0, 1, 0, 0, []) := rfl
theorem rw_163_21 : mm_code 162 21 = some (.putfield 166, 3, 11, 1, [0, 52]) := rfl
theorem rw_163_24 : mm_code 162 24 = some (.aload_n 0, 1, 0, 0, []) := rfl
theorem rw_163_25 : mm_code 162 25 = some (.iconst 0, 1, 0, 0, []) := rfl
theorem rw_163_26 : mm_code 162 26 = some (.putfield 173, 3, 11, 4, [0, 54]) := rfl
theorem rw_163_29 : mm_code 162 29 = some (.aload_n 0, 1, 0, 0, []) := rfl
theorem rw_163_30 : mm_code 162 30 = some (.iconst (-1), 1, 1, 1, []) := rfl
theorem rw_163_31 : mm_code 162 31 = some (.putfield 16, 3, 11, 5, [0, 3]) := rfl
theorem rw_163_34 : mm_code 162 34 = some (.aload_n 0, 1, 0, 0, []) := rfl
theorem rw_163_35 : mm_code 162 35 = some (.iconst 0, 1, 0, 0, []) := rfl
theorem rw_163_36 : mm_code 162 36 = some (.putfield 182, 3, 11, 7, [0, 57]) := rfl
theorem rw_163_39 : mm_code 162 39 = some (.aload_n 0, 1, 0, 0, []) := rfl
theorem rw_163_40 : mm_code 162 40 = some (.invokevirtual 211, 3, 155, 1, [66, 0]) := rfl
theorem rw_163_43 : mm_code 162 43 = some (.iconst 1, 1, 1, 0, []) := rfl
theorem rw_163_44 : mm_code 162 44 = some (.ireturn, 1, 1, 0, []) := rfl
theorem rw_164_0 : mm_code 163 0 = some (.aload_n 0, 1, 0, 0, []) := rfl
theorem rw_164_1 : mm_code 163 1 = some (.bipush 10, 2, 10, 0, []) := rfl
theorem rw_164_3 : mm_code 163 3 = some (.putfield 217, 3, 11, 14, [0, 68]) := rfl
theorem rw_164_6 : mm_code 163 6 = some (.aload_n 0, 1, 0, 0, []) := rfl
theorem rw_164_7 : mm_code 163 7 = some (.iconst 0, 1, 0, 0, []) := rfl
theorem rw_164_8 : mm_code 163 8 = some (.putfield 220, 3, 11, 15, [0, 69]) := rfl
theorem rw_164_11 : mm_code 163 11 = some (.aload_n 0, 1, 0, 0, []) := rfl
theorem rw_164_12 : mm_code 163 12 = some (.iconst 0, 1, 0, 0, []) := rfl
theorem rw_164_13 : mm_code 163 13 = some (.putfield 223, 3, 11, 16, [0, 70]) := rfl
theorem rw_164_16 : mm_code 163 16 = some (.aload_n 0, 1, 0, 0, []) := rfl
theorem rw_164_17 : mm_code 163 17 = some (.lconst 0, 1, 0, 0, []) := rfl
theorem rw_164_18 : mm_code 163 18 = some (.putfield 226, 3, 11, 25, [2, 71]) := rfl
theorem rw_164_21 : mm_code 163 21 = some (.return_, 1, 0, 0, []) := rfl
theorem rw_165_0 : mm_code 164 0 = some (.aload_n 0, 1, 0, 0, []) := rfl
theorem rw_165_1 : mm_code 164 1 = some (.aload_n 0, 1, 0, 0, []) := rfl
theorem rw_165_2 : mm_code 164 2 = some (.getfield 217, 3, 11, 14, [0, 68]) := rfl
theorem rw_165_5 : mm_code 164 5 = some (.putfield 230, 3, 11, 11, [0, 72]) := rfl
theorem rw_165_8 : mm_code 164 8 = some (.aload_n 0, 1, 0, 0, []) := rfl
theorem rw_165_9 : mm_code 164 9 = some (.aload_n 0, 1, 0, 0, []) := rfl
theorem rw_165_10 : mm_code 164 10 = some (.getfield 220, 3, 11, 15, [0, 69]) := rfl
theorem rw_165_13 : mm_code 164 13 = some (.putfield 233, 3, 11, 12, [0, 73]) := rfl
theorem rw_165_16 : mm_code 164 16 = some (.aload_n 0, 1, 0, 0, []) := rfl
theorem rw_165_17 : mm_code 164 17 = some (.aload_n 0, 1, 0, 0, []) := rfl
theorem rw_165_18 : mm_code 164 18 = some (.getfield 223, 3, 11, 16, [0, 70]) := rfl
theorem rw_165_21 : mm_code 164 21 = some (.putfield 236, 3, 11, 13, [0, 74]) := rfl
theorem rw_165_24 : mm_code 164 24 = some (.iconst 0, 1, 0, 0, []) := rfl
theorem rw_165_25 : mm_code 164 25 = some (.istore_n 1, 1, 0, 0, []) := rfl
theorem rw_165_26 : mm_code 164 26 = some (.iload_n 1, 1, 0, 0, []) := rfl
theorem rw_165_27 : mm_code 164 27 = some (.bipush 8, 2, 8, 0, []) := rfl
theorem rw_165_29 : mm_code 164 29 = some (.if_icmp .ge 84, 3, 113, 0, []) := rfl
theorem rw_165_32 : mm_code 164 32 = some (.aload_n 0, 1, 0, 0, []) := rfl
theorem rw_165_33 : mm_code 164 33 = some (.getfield 20, 3, 11, 17, [3, 4]) := rfl
theorem rw_165_36 : mm_code 164 36 = some (.iload_n 1, 1, 0, 0, []) := rfl
theorem rw_165_37 : mm_code 164 37 = some (.aload_n 0, 1, 0, 0, []) := rfl
theorem rw_165_38 : mm_code 164 38 = some (.getfield 20, 3, 11, 17, [3, 4]) := rfl
theorem rw_165_41 : mm_code 164 41 = some (.bipush 8, 2, 8, 0, []) := rfl
theorem rw_165_43 : mm_code 164 43 = some (.iload_n 1, 1, 0, 0, []) := rfl
theorem rw_165_44 : mm_code 164 44 = some (.iadd, 1, 0, 0, []) := rfl
theorem rw_165_45 : mm_code 164 45 = some (.iaload, 1, 0, 0, []) := rfl
theorem rw_165_46 : mm_code 164 46 = some (.iastore, 1, 0, 0, []) := rfl
theorem rw_165_47 : mm_code 164 47 = some (.aload_n 0, 1, 0, 0, []) := rfl
theorem rw_165_48 : mm_code 164 48 = some (.getfield 23, 3, 11, 18, [3, 5]) := rfl
theorem rw_165_51 : mm_code 164 51 = some (.iload_n 1, 1, 0, 0, []) := rfl
theorem rw_165_52 : mm_code 164 52 = some (.aload_n 0, 1, 0, 0, []) := rfl
theorem rw_165_53 : mm_code 164 53 = some (.getfield 23, 3, 11, 18, [3, 5]) := rfl
theorem rw_165_56 : mm_code 164 56 = some (.bipush 8, 2, 8, 0, []) := rfl
theorem rw_165_58 : mm_code 164 58 = some (.iload_n 1, 1, 0, 0, []) := rfl
theorem rw_165_59 : mm_code 164 59 = some (.iadd, 1, 0, 0, []) := rfl
theorem rw_165_60 : mm_code 164 60 = some (.iaload, 1, 0, 0, []) := rfl
theorem rw_165_61 : mm_code 164 61 = some (.iastore, 1, 0, 0, []) := rfl
theorem rw_165_62 : mm_code 164 62 = some (.aload_n 0, 1, 0, 0, []) := rfl
theorem rw_165_63 : mm_code 164 63 = some (.getfield 26, 3, 11, 19, [3, 6]) := rfl
theorem rw_165_66 : mm_code 164 66 = some (.iload_n 1, 1, 0, 0, []) := rfl
theorem rw_165_67 : mm_code 164 67 = some (.aload_n 0, 1, 0, 0, []) := rfl
theorem rw_165_68 : mm_code 164 68 = some (.getfield 26, 3, 11, 19, [3, 6]) := rfl
theorem rw_165_71 : mm_code 164 71 = some (.bipush 8, 2, 8, 0, []) := rfl
theorem rw_165_73 : mm_code 164 73 = some (.iload_n 1, 1, 0, 0, []) := rfl
theorem rw_165_74 : mm_code 164 74 = some (.iadd, 1, 0, 0, []) := rfl
theorem rw_165_75 : mm_code 164 75 = some (.iaload, 1, 0, 0, []) := rfl
theorem rw_165_76 : mm_code 164 76 = some (.iastore, 1, 0, 0, []) := rfl
theorem rw_165_77 : mm_code 164 77 = some (.aload_n 0, 1, 0, 0, []) := rfl
theorem rw_165_78 : mm_code 164 78 = some (.getfield 29, 3, 11, 20, [3, 7]) := rfl
theorem rw_165_81 : mm_code 164 81 = some (.iload_n 1, 1, 0, 0, []) := rfl
theorem rw_165_82 : mm_code 164 82 = some (.aload_n 0, 1, 0, 0, []) := rfl
theorem rw_165_83 : mm_code 164 83 = some (.getfield 29, 3, 11, 20, [3, 7]) := rfl
theorem rw_165_86 : mm_code 164 86 = some (.bipush 8, 2, 8, 0, []) := rfl
theorem rw_165_88 : mm_code 164 88 = some (.iload_n 1, 1, 0, 0, []) := rfl
theorem rw_165_89 : mm_code 164 89 = some (.iadd, 1, 0, 0, []) := rfl
theorem rw_165_90 : mm_code 164 90 = some (.iaload, 1, 0, 0, []) := rfl
theorem rw_165_91 : mm_code 164 91 = some (.iastore, 1, 0, 0, []) := rfl
theorem rw_165_92 : mm_code 164 92 = some (.aload_n 0, 1, 0, 0, []) := rfl
theorem rw_165_93 : mm_code 164 93 = some (.getfield 32, 3, 11, 21, [3, 8]) := rfl
theorem rw_165_96 : mm_code 164 96 = some (.iload_n 1, 1, 0, 0, []) := rfl
theorem rw_165_97 : mm_code 164 97 = some (.aload_n 0, 1, 0, 0, []) := rfl
theorem rw_165_98 : mm_code 164 98 = some (.getfield 32, 3, 11, 21, [3, 8]) := rfl
theorem rw_165_101 : mm_code 164 101 = some (.bipush 8, 2, 8, 0, []) := rfl
theorem rw_165_103 : mm_code 164 103 = some (.iload_n 1, 1, 0, 0, []) := rfl
theorem rw_165_104 : mm_code 164 104 = some (.iadd, 1, 0, 0, []) := rfl
theorem rw_165_105 : mm_code 164 105 = some (.iaload, 1, 0, 0, []) := rfl
theorem rw_165_106 : mm_code 164 106 = some (.iastore, 1, 0, 0, []) := rfl
theorem rw_165_107 : mm_code 164 107 = some (.iinc 1 1, 3, 1, 0, []) := rfl
theorem rw_165_110 : mm_code 164 110 = some (.goto (-84), 3, 26, 0, []) := rfl
theorem rw_165_113 : mm_code 164 113 = some (.iconst 0, 1, 0, 0, []) := rfl
theorem rw_165_114 : mm_code 164 114 = some (.istore_n 1, 1, 0, 0, []) := rfl
theorem rw_165_115 : mm_code 164 115 = some (.iload_n 1, 1, 0, 0, []) := rfl
theorem rw_165_116 : mm_code 164 116 = some (.bipush 12, 2, 12, 0, []) := rfl
theorem rw_165_118 : mm_code 164 118 = some (.if_icmp .ge 54, 3, 172, 0, []) := rfl
theorem rw_165_121 : mm_code 164 121 = some (.aload_n 0, 1, 0, 0, []) := rfl
theorem rw_165_122 : mm_code 164 122 = some (.getfield 35, 3, 11, 22, [3, 9]) := rfl
theorem rw_165_125 : mm_code 164 125 = some (.iload_n 1, 1, 0, 0, []) := rfl
theorem rw_165_126 : mm_code 164 126 = some (.aload_n 0, 1, 0, 0, []) := rfl
theorem rw_165_127 : mm_code 164 127 = some (.getfield 35, 3, 11, 22, [3, 9]) := rfl
theorem rw_165_130 : mm_code 164 130 = some (.bipush 12, 2, 12, 0, []) := rfl
theorem rw_165_132 : mm_code 164 132 = some (.iload_n 1, 1, 0, 0, []) := rfl
theorem rw_165_133 : mm_code 164 133 = some (.iadd, 1, 0, 0, []) := rfl
theorem rw_165_134 : mm_code 164 134 = some (.iaload, 1, 0, 0, []) := rfl
theorem rw_165_135 : mm_code 164 135 = some (.iastore, 1, 0, 0, []) := rfl
theorem rw_165_136 : mm_code 164 136 = some (.aload_n 0, 1, 0, 0, []) := rfl
theorem rw_165_137 : mm_code 164 137 = some (.getfield 38, 3, 11, 23, [3, 10]) := rfl
theorem rw_165_140 : mm_code 164 140 = some (.iload_n 1, 1, 0, 0, []) := rfl
theorem rw_165_141 : mm_code 164 141 = some (.aload_n 0, 1, 0, 0, []) := rfl
theorem rw_165_142 : mm_code 164 142 = some (.getfield 38, 3, 11, 23, [3, 10]) := rfl
theorem rw_165_145 : mm_code 164 145 = some (.bipush 12, 2, 12, 0, []) := rfl
theorem rw_165_147 : mm_code 164 147 = some (.iload_n 1, 1, 0, 0, []) := rfl
theorem rw_165_148 : mm_code 164 148 = some (.iadd, 1, 0, 0, []) := rfl
theorem rw_165_149 : mm_code 164 149 = some (.iaload, 1, 0, 0, []) := rfl
theorem rw_165_150 : mm_code 164 150 = some (.iastore, 1, 0, 0, []) := rfl
theorem rw_165_151 : mm_code 164 151 = some (.aload_n 0, 1, 0, 0, []) := rfl
theorem rw_165_152 : mm_code 164 152 = some (.getfield 41, 3, 11, 24, [3, 11]) := rfl
theorem rw_165_155 : mm_code 164 155 = some (.iload_n 1, 1, 0, 0, []) := rfl
theorem rw_165_156 : mm_code 164 156 = some (.aload_n 0, 1, 0, 0, []) := rfl
theorem rw_165_157 : mm_code 164 157 = some (.getfield 41, 3, 11, 24, [3, 11]) := rfl
theorem rw_165_160 : mm_code 164 160 = some (.bipush 12, 2, 12, 0, []) := rfl
theorem rw_165_162 : mm_code 164 162 = some (.iload_n 1, 1, 0, 0, []) := rfl
theorem rw_165_163 : mm_code 164 163 = some (.iadd, 1, 0, 0, []) := rfl
theorem rw_165_164 : mm_code 164 164 = some (.laload, 1, 0, 0, []) := rfl
theorem rw_165_165 : mm_code 164 165 = some (.lastore, 1, 0, 0, []) := rfl
theorem rw_165_166 : mm_code 164 166 = some (.iinc 1 1, 3, 1, 0, []) := rfl
theorem rw_165_169 : mm_code 164 169 = some (.goto (-54), 3, 115, 0, []) := rfl
theorem rw_165_172 : mm_code 164 172 = some (.aload_n 0, 1, 0, 0, []) := rfl
theorem rw_165_173 : mm_code 164 173 = some (.iconst 0, 1, 0, 0, []) := rfl
theorem rw_165_174 : mm_code 164 174 = some (.putfield 239, 3, 11, 28, [0, 75]) := rfl
theorem rw_165_177 : mm_code 164 177 = some (.aload_n 0, 1, 0, 0, []) := rfl
theorem rw_165_178 : mm_code 164 178 = some (.iconst 0, 1, 0, 0, []) := rfl
theorem rw_165_179 : mm_code 164 179 = some (.putfield 242, 3, 11, 29, [0, 76]) := rfl
theorem rw_165_182 : mm_code 164 182 = some (.aload_n 0, 1, 0, 0, []) := rfl
theorem rw_165_183 : mm_code 164 183 = some (.iconst 0, 1, 0, 0, []) := rfl
theorem rw_165_184 : mm_code 164 184 = some (.putfield 245, 3, 11, 58, [0, 77]) := rfl
theorem rw_165_187 : mm_code 164 187 = some (.aload_n 0, 1, 0, 0, []) := rfl
theorem rw_165_188 : mm_code 164 188 = some (.iconst 0, 1, 0, 0, []) := rfl
theorem rw_165_189 : mm_code 164 189 = some (.putfield 248, 3, 11, 57, [1, 78]) := rfl
theorem rw_165_192 : mm_code 164 192 = some (.aload_n 0, 1, 0, 0, []) := rfl
theorem rw_165_193 : mm_code 164 193 = some (.iconst 0, 1, 0, 0, []) := rfl
theorem rw_165_194 : mm_code 164 194 = some (.putfield 252, 3, 11, 41, [0, 79]) := rfl
theorem rw_165_197 : mm_code 164 197 = some (.iconst 0, 1, 0, 0, []) := rfl
theorem rw_165_198 : mm_code 164 198 = some (.istore_n 1, 1, 0, 0, []) := rfl
theorem rw_165_199 : mm_code 164 199 = some (.iload_n 1, 1, 0, 0, []) := rfl
theorem rw_165_200 : mm_code 164 200 = some (.bipush 6, 2, 6, 0, []) := rfl
theorem rw_165_202 : mm_code 164 202 = some (.if_icmp .ge 16, 3, 218, 0, []) := rfl
theorem rw_165_205 : mm_code 164 205 = some (.aload_n 0, 1, 0, 0, []) := rfl
theorem rw_165_206 : mm_code 164 206 = some (.getfield 82, 3, 11, 40, [3, 24]) := rfl
theorem rw_165_209 : mm_code 164 209 = some (.iload_n 1, 1, 0, 0, []) := rfl
theorem rw_165_210 : mm_code 164 210 = some (.iconst 0, 1, 0, 0, []) := rfl
theorem rw_165_211 : mm_code 164 211 = some (.iastore, 1, 0, 0, []) := rfl
theorem rw_165_212 : mm_code 164 212 = some (.iinc 1 1, 3, 1, 0, []) := rfl
theorem rw_165_215 : mm_code 164 215 = some (.goto (-16), 3, 199, 0, []) := rfl
theorem rw_165_218 : mm_code 164 218 = some (.return_, 1, 0, 0, []) := rfl
theorem rw_166_0 : mm_code 165 0 = some (.iconst 0, 1, 0, 0, []) := rfl
theorem rw_166_1 : mm_code 165 1 = some (.istore_n 2, 1, 0, 0, []) := rfl
theorem rw_166_2 : mm_code 165 2 = some (.iload_n 2, 1, 0, 0, []) := rfl
theorem rw_166_3 : mm_code 165 3 = some (.aload_n 0, 1, 0, 0, []) := rfl
theorem rw_166_4 : mm_code 165 4 = some (.getfield 220, 3, 11, 15, [0, 69]) := rfl
theorem rw_166_7 : mm_code 165 7 = some (.if_icmp .ge 24, 3, 31, 0, []) := rfl
theorem rw_166_10 : mm_code 165 10 = some (.aload_n 0, 1, 0, 0, []) := rfl
theorem rw_166_11 : mm_code 165 11 = some (.getfield 20, 3, 11, 17, [3, 4]) := rfl
theorem rw_166_14 : mm_code 165 14 = some (.bipush 8, 2, 8, 0, []) := rfl
theorem rw_166_16 : mm_code 165 16 = some (.iload_n 2, 1, 0, 0, []) := rfl
theorem rw_166_17 : mm_code 165 17 = some (.iadd, 1, 0, 0, []) := rfl
theorem rw_166_18 : mm_code 165 18 = some (.iaload, 1, 0, 0, []) := rfl
theorem rw_166_19 : mm_code 165 19 = some (.iload_n 1, 1, 0, 0, []) := rfl
theorem rw_166_20 : mm_code 165 20 = some (.if_icmp .ne 5, 3, 25, 0, []) := rfl
theorem rw_166_23 : mm_code 165 23 = some (.iload_n 2, 1, 0, 0, []) := rfl
theorem rw_166_24 : mm_code 165 24 = some (.ireturn, 1, 0, 0, []) := rfl
theorem rw_166_25 : mm_code 165 25 = some (.iinc 2 1, 3, 1, 0, []) := rfl
theorem rw_166_28 : mm_code 165 28 = some (.goto (-26), 3, 2, 0, []) := rfl
theorem rw_166_31 : mm_code 165 31 = some (.iconst (-1), 1, 1, 1, []) := rfl
theorem rw_166_32 : mm_code 165 32 = some (.ireturn, 1, 0, 0, []) := rfl
theorem rw_167_0 : mm_code 166 0 = some (.iconst 0, 1, 0, 0, []) := rfl
theorem rw_167_1 : mm_code 166 1 = some (.istore_n 2, 1, 0, 0, []) := rfl
theorem rw_167_2 : mm_code 166 2 = some (.iload_n 2, 1, 0, 0, []) := rfl
theorem rw_167_3 : mm_code 166 3 = some (.aload_n 0, 1, 0, 0, []) := rfl
theorem rw_167_4 : mm_code 166 4 = some (.getfield 223, 3, 11, 16, [0, 70]) := rfl
theorem rw_167_7 : mm_code 166 7 = some (.if_icmp .ge 24, 3, 31, 0, []) := rfl
theorem rw_167_10 : mm_code 166 10 = some (.aload_n 0, 1, 0, 0, []) := rfl
theorem rw_167_11 : mm_code 166 11 = some (.getfield 35, 3, 11, 22, [3, 9]) := rfl
theorem rw_167_14 : mm_code 166 14 = some (.bipush 12, 2, 12, 0, []) := rfl
theorem rw_167_16 : mm_code 166 16 = some (.iload_n 2, 1, 0, 0, []) := rfl
theorem rw_167_17 : mm_code 166 17 = some (.iadd, 1, 0, 0, []) := rfl
theorem rw_167_18 : mm_code 166 18 = some (.iaload, 1, 0, 0, []) := rfl
theorem rw_167_19 : mm_code 166 19 = some (.iload_n 1, 1, 0, 0, []) := rfl
theorem rw_167_20 : mm_code 166 20 = some (.if_icmp .ne 5, 3, 25, 0, []) := rfl
theorem rw_167_23 : mm_code 166 23 = some (.iconst 1, 1, 1, 0, []) := rfl
theorem rw_167_24 : mm_code 166 24 = some (.ireturn, 1, 1, 0, []) := rfl
theorem rw_167_25 : mm_code 166 25 = some (.iinc 2 1, 3, 1, 0, []) := rfl
theorem rw_167_28 : mm_code 166 28 = some (.goto (-26), 3, 2, 0, []) := rfl
theorem rw_167_31 : mm_code 166 31 = some (.aload_n 0, 1, 0, 0, []) := rfl
theorem rw_167_32 : mm_code 166 32 = some (.iload_n 1, 1, 0, 0, []) := rfl
theorem rw_167_33 : mm_code 166 33 = some (.invokevirtual 255, 3, 165, 2, [80, 0]) := rfl
theorem rw_167_36 : mm_code 166 36 = some (.ifCond .lt 7, 3, 43, 0, []) := rfl
theorem rw_167_39 : mm_code 166 39 = some (.iconst 1, 1, 1, 0, []) := rfl
theorem rw_167_40 : mm_code 166 40 = some (.goto 4, 3, 44, 0, []) := rfl
theorem rw_167_43 : mm_code 166 43 = some (.iconst 0, 1, 0, 0, []) := rfl
theorem rw_167_44 : mm_code 166 44 = some (.ireturn, 1, 1, 0, []) := rfl
theorem rw_168_0 : mm_code 167 0 = some (.lconst 0, 1, 0, 0, []) := rfl
theorem rw_168_1 : mm_code 167 1 = some (.lstore_n 2, 1, 0, 0, []) := rfl
theorem rw_168_2 : mm_code 167 2 = some (.iload_n 0, 1, 0, 0, []) := rfl
theorem rw_168_3 : mm_code 167 3 = some (.istore 4, 2, 0, 0, []) := rfl
theorem rw_168_5 : mm_code 167 5 = some (.iload 4, 2, 0, 0, []) := rfl
theorem rw_168_7 : mm_code 167 7 = some (.iload_n 1, 1, 0, 0, []) := rfl
theorem rw_168_8 : mm_code 167 8 = some (.if_icmp .gt 16, 3, 24, 0, []) := rfl
theorem rw_168_11 : mm_code 167 11 = some (.lload_n 2, 1, 0, 0, []) := rfl
theorem rw_168_12 : mm_code 167 12 = some (.lconst 1, 1, 1, 0, []) := rfl
theorem rw_168_13 : mm_code 167 13 = some (.iload 4, 2, 0, 0, []) := rfl
theorem rw_168_15 : mm_code 167 15 = some (.lshl, 1, 0, 0, []) := rfl
theorem rw_168_16 : mm_code 167 16 = some (.lor, 1, 0, 0, []) := rfl
theorem rw_168_17 : mm_code 167 17 = some (.lstore_n 2, 1, 0, 0, []) := rfl
theorem rw_168_18 : mm_code 167 18 = some (.iinc 4 1, 3, 1, 0, []) := rfl
theorem rw_168_21 : mm_code 167 21 = some (.goto (-16), 3, 5, 0, []) := rfl
theorem rw_168_24 : mm_code 167 24 = some (.lload_n 2, 1, 0, 0, []) := rfl
theorem rw_168_25 : mm_code 167 25 = some (.lreturn, 1, 0, 0, []) := rfl
theorem rw_169_0 : mm_code 168 0 = some (.aload_n 0, 1, 0, 0, []) := rfl
theorem rw_169_1 : mm_code 168 1 = some (.getfield 185, 3, 11, 8, [0, 58]) := rfl
theorem rw_169_4 : mm_code 168 4 = some (.iconst 2, 1, 2, 0, []) := rfl
theorem rw_169_5 : mm_code 168 5 = some (.if_icmp .eq 9, 3, 14, 0, []) := rfl
theorem rw_169_8 : mm_code 168 8 = some (.aload_n 0, 1, 0, 0, []) := rfl
theorem rw_169_9 : mm_code 168 9 = some (.iconst 1, 1, 1, 0, []) := rfl
theorem rw_169_10 : mm_code 168 10 = some (.invokevirtual 208, 3, 151, 2, [65, 0]) := rfl
theorem rw_169_13 : mm_code 168 13 = some (.ireturn, 1, 1, 0, []) := rfl
theorem rw_169_14 : mm_code 168 14 = some (.aload_n 0, 1, 0, 0, []) := rfl
theorem rw_169_15 : mm_code 168 15 = some (.aload_n 0, 1, 0, 0, []) := rfl
theorem rw_169_16 : mm_code 168 16 = some (.getfield 196, 3, 11, 9, [0, 61]) := rfl
theorem rw_169_19 : mm_code 168 19 = some (.invokevirtual 259, 3, 166, 2, [81, 0]) := rfl
theorem rw_169_22 : mm_code 168 22 = some (.ifCond .eq 11, 3, 33, 0, []) := rfl
theorem rw_169_25 : mm_code 168 25 = some (.aload_n 0, 1, 0, 0, []) := rfl
theorem rw_169_26 : mm_code 168 26 = some (.iconst 3, 1, 3, 0, []) := rfl
theorem rw_169_27 : mm_code 168 27 = some (.invokevirtual 208, 3, 151, 2, [65, 0]) := rfl
theorem rw_169_30 : mm_code 168 30 = some (.ifCond .eq 7, 3, 37, 0, []) := rfl
theorem rw_169_33 : mm_code 168 33 = some (.iconst 1, 1, 1, 0, []) := rfl
theorem rw_169_34 : mm_code 168 34 = some (.goto 4, 3, 38, 0, []) := rfl
theorem rw_169_37 : mm_code 168 37 = some (.iconst 0, 1, 0, 0, []) := rfl
theorem rw_169_38 : mm_code 168 38 = some (.ireturn, 1, 1, 0, []) := rfl
theorem rw_170_0 : mm_code 169 0 = some (.aload_n 0, 1, 0, 0, []) := rfl
theorem rw_170_1 : mm_code 169 1 = some (.getfield 220, 3, 11, 15, [0, 69]) := rfl
theorem rw_170_4 : mm_code 169 4 = some (.bipush 8, 2, 8, 0, []) := rfl
theorem rw_170_6 : mm_code 169 6 = some (.if_icmp .ne 9, 3, 15, 0, []) := rfl
theorem rw_170_9 : mm_code 169 9 = some (.aload_n 0, 1, 0, 0, []) := rfl
theorem rw_170_10 : mm_code 169 10 = some (.iconst 2, 1, 2, 0, []) := rfl
theorem rw_170_11 : mm_code 169 11 = some (.invokevirtual 208, 3, 151, 2, [65, 0]) := rfl
theorem rw_170_14 : mm_code 169 14 = some (.ireturn, 1, 1, 0, []) := rfl
theorem rw_170_15 : mm_code 169 15 = some (.aload_n 0, 1, 0, 0, []) := rfl
theorem rw_170_16 : mm_code 169 16 = some (.invokevirtual 211, 3, 155, 1, [66, 0]) := rfl
theorem rw_170_19 : mm_code 169 19 = some (.aload_n 0, 1, 0, 0, []) := rfl
theorem rw_170_20 : mm_code 169 20 = some (.invokevirtual 262, 3, 168, 1, [82, 0]) := rfl
theorem rw_170_23 : mm_code 169 23 = some (.ifCond .ne 5, 3, 28, 0, []) := rfl
theorem rw_170_26 : mm_code 169 26 = some (.iconst 0, 1, 0, 0, []) := rfl
theorem rw_170_27 : mm_code 169 27 = some (.ireturn, 1, 1, 0, []) := rfl
theorem rw_170_28 : mm_code 169 28 = some (.bipush 8, 2, 8, 0, []) := rfl
theorem rw_170_30 : mm_code 169 30 = some (.aload_n 0, 1, 0, 0, []) := rfl
theorem rw_170_31 : mm_code 169 31 = some (.getfield 220, 3, 11, 15, [0, 69]) := rfl
theorem rw_170_34 : mm_code 169 34 = some (.iadd, 1, 0, 0, []) := rfl
theorem rw_170_35 : mm_code 169 35 = some (.istore_n 1, 1, 0, 0, []) := rfl
theorem rw_170_36 : mm_code 169 36 = some (.aload_n 0, 1, 0, 0, []) := rfl
theorem rw_170_37 : mm_code 169 37 = some (.getfield 196, 3, 11, 9, [0, 61]) := rfl
theorem rw_170_40 : mm_code 169 40 = some (.istore_n 2, 1, 0, 0, []) := rfl
theorem rw_170_41 : mm_code 169 41 = some (.aload_n 0, 1, 0, 0, []) := rfl
theorem rw_170_42 : mm_code 169 42 = some (.invokevirtual 211, 3, 155, 1, [66, 0]) := rfl
theorem rw_170_45 : mm_code 169 45 = some (.aload_n 0, 1, 0, 0, []) := rfl
theorem rw_170_46 : mm_code 169 46 = some (.getfield 185, 3, 11, 8, [0, 58]) := rfl
theorem rw_170_49 : mm_code 169 49 = some (.iconst 1, 1, 1, 0, []) := rfl
theorem rw_170_50 : mm_code 169 50 = some (.if_icmp .ne 20, 3, 70, 0, []) := rfl
theorem rw_170_53 : mm_code 169 53 = some (.aload_n 0, 1, 0, 0, []) := rfl
theorem rw_170_54 : mm_code 169 54 = some (.getfield 196, 3, 11, 9, [0, 61]) := rfl
theorem rw_170_57 : mm_code 169 57 = some (.iconst 3, 1, 3, 0, []) := rfl
theorem rw_170_58 : mm_code 169 58 = some (.if_icmp .lt 12, 3, 70, 0, []) := rfl
theorem rw_170_61 : mm_code 169 61 = some (.aload_n 0, 1, 0, 0, []) := rfl
theorem rw_170_62 : mm_code 169 62 = some (.getfield 196, 3, 11, 9, [0, 61]) := rfl
theorem rw_170_65 : mm_code 169 65 = some (.bipush 6, 2, 6, 0, []) := rfl
theorem rw_170_67 : mm_code 169 67 = some (.if_icmp .le 9, 3, 76, 0, []) := rfl
theorem rw_170_70 : mm_code 169 70 = some (.aload_n 0, 1, 0, 0, []) := rfl
theorem rw_170_71 : mm_code 169 71 = some (.iconst 1, 1, 1, 0, []) := rfl
theorem rw_170_72 : mm_code 169 72 = some (.invokevirtual 208, 3, 151, 2, [65, 0]) := rfl
theorem rw_170_75 : mm_code 169 75 = some (.ireturn, 1, 1, 0, []) := rfl
theorem rw_170_76 : mm_code 169 76 = some (.aload_n 0, 1, 0, 0, []) := rfl
theorem rw_170_77 : mm_code 169 77 = some (.getfield 196, 3, 11, 9, [0, 61]) := rfl
theorem rw_170_80 : mm_code 169 80 = some (.iconst 3, 1, 3, 0, []) := rfl
theorem rw_170_81 : mm_code 169 81 = some (.isub, 1, 0, 0, []) := rfl
theorem rw_170_82 : mm_code 169 82 = some (.istore_n 3, 1, 0, 0, []) := rfl
theorem rw_170_83 : mm_code 169 83 = some (.aload_n 0, 1, 0, 0, []) := rfl
theorem rw_170_84 : mm_code 169 84 = some (.invokevirtual 211, 3, 155, 1, [66, 0]) := rfl
theorem rw_170_87 : mm_code 169 87 = some (.iload_n 3, 1, 0, 0, []) := rfl
theorem rw_170_88 : mm_code 169 88 = some (.ifCond .eq 8, 3, 96, 0, []) := rfl
theorem rw_170_91 : mm_code 169 91 = some (.iload_n 3, 1, 0, 0, []) := rfl
theorem rw_170_92 : mm_code 169 92 = some (.iconst 3, 1, 3, 0, []) := rfl
theorem rw_170_93 : mm_code 169 93 = some (.if_icmp .ne 7, 3, 100, 0, []) := rfl
theorem rw_170_96 : mm_code 169 96 = some (.iconst 1, 1, 1, 0, []) := rfl
theorem rw_170_97 : mm_code 169 97 = some (.goto 4, 3, 101, 0, []) := rfl
theorem rw_170_100 : mm_code 169 100 = some (.iconst 0, 1, 0, 0, []) := rfl
theorem rw_170_101 : mm_code 169 101 = some (.istore 4, 2, 0, 0, []) := rfl
theorem rw_170_103 : mm_code 169 103 = some (.iload_n 3, 1, 0, 0, []) := rfl
theorem rw_170_104 : mm_code 169 104 = some (.iconst 1, 1, 1, 0, []) := rfl
theorem rw_170_105 : mm_code 169 105 = some (.if_icmp .ne 7, 3, 112, 0, []) := rfl
theorem rw_170_108 : mm_code 169 108 = some (.iconst 3, 1, 3, 0, []) := rfl
theorem rw_170_109 : mm_code 169 109 = some (.goto 13, 3, 122, 0, []) := rfl
theorem rw_170_112 : mm_code 169 112 = some (.iload_n 3, 1, 0, 0, []) := rfl
theorem rw_170_113 : mm_code 169 113 = some (.iconst 2, 1, 2, 0, []) := rfl
theorem rw_170_114 : mm_code 169 114 = some (.if_icmp .ne 7, 3, 121, 0, []) := rfl
theorem rw_170_117 : mm_code 169 117 = some (.iconst 4, 1, 4, 0, []) := rfl
theorem rw_170_118 : mm_code 169 118 = some (.goto 4, 3, 122, 0, []) := rfl
theorem rw_170_121 : mm_code 169 121 = some (.iconst 0, 1, 0, 0, []) := rfl
theorem rw_170_122 : mm_code 169 122 = some (.istore 5, 2, 0, 0, []) := rfl
theorem rw_170_124 : mm_code 169 124 = some (.aload_n 0, 1, 0, 0, []) := rfl
theorem rw_170_125 : mm_code 169 125 = some (.iconst 0, 1, 0, 0, []) := rfl
theorem rw_170_126 : mm_code 169 126 = some (.aload_n 0, 1, 0, 0, []) := rfl
theorem rw_170_127 : mm_code 169 127 = some (.getfield 217, 3, 11, 14, [0, 68]) := rfl
theorem rw_170_130 : mm_code 169 130 = some (.iconst 1, 1, 1, 0, []) := rfl
theorem rw_170_131 : mm_code 169 131 = some (.isub, 1, 0, 0, []) := rfl
theorem rw_170_132 : mm_code 169 132 = some (.iload 5, 2, 0, 0, []) := rfl
theorem rw_170_134 : mm_code 169 134 = some (.isub, 1, 0, 0, []) := rfl
theorem rw_170_135 : mm_code 169 135 = some (.invokevirtual 266, 3, 161, 3, [83, 0]) := rfl
theorem rw_170_138 : mm_code 169 138 = some (.ifCond .ne 5, 3, 143, 0, []) := rfl
theorem rw_170_141 : mm_code 169 141 = some (.iconst 0, 1, 0, 0, []) := rfl
theorem rw_170_142 : mm_code 169 142 = some (.ireturn, 1, 1, 0, []) := rfl
theorem rw_170_143 : mm_code 169 143 = some (.aload_n 0, 1, 0, 0, []) := rfl
theorem rw_170_144 : mm_code 169 144 = some (.getfield 196, 3, 11, 9, [0, 61]) := rfl
theorem rw_170_147 : mm_code 169 147 = some (.istore 6, 2, 0, 0, []) := rfl
theorem rw_170_149 : mm_code 169 149 = some (.aload_n 0, 1, 0, 0, []) := rfl
theorem rw_170_150 : mm_code 169 150 = some (.getfield 226, 3, 11, 25, [2, 71]) := rfl
theorem rw_170_153 : mm_code 169 153 = some (.iload 6, 2, 0, 0, []) := rfl
theorem rw_170_155 : mm_code 169 155 = some (.iload 6, 2, 0, 0, []) := rfl
theorem rw_170_157 : mm_code 169 157 = some (.iload 5, 2, 0, 0, []) := rfl
theorem rw_170_159 : mm_code 169 159 = some (.iadd, 1, 0, 0, []) := rfl
theorem rw_170_160 : mm_code 169 160 = some (.invokestatic 270, 3, 167, 2, [84, 0]) := rfl
theorem rw_170_163 : mm_code 169 163 = some (.land, 1, 0, 0, []) := rfl
theorem rw_170_164 : mm_code 169 164 = some (.lconst 0, 1, 0, 0, []) := rfl
theorem rw_170_165 : mm_code 169 165 = some (.lcmp, 1, 0, 0, []) := rfl
theorem rw_170_166 : mm_code 169 166 = some (.ifCond .eq 9, 3, 175, 0, []) := rfl
theorem rw_170_169 : mm_code 169 169 = some (.aload_n 0, 1, 0, 0, []) := rfl
theorem rw_170_170 : mm_code 169 170 = some (.iconst 3, 1, 3, 0, []) := rfl
theorem rw_170_171 : mm_code 169 171 = some (.invokevirtual 208, 3, 151, 2, [65, 0]) := rfl
theorem rw_170_174 : mm_code 169 174 = some (.ireturn, 1, 1, 0, []) := rfl
theorem rw_170_175 : mm_code 169 175 = some (.aload_n 0, 1, 0, 0, []) := rfl
theorem rw_170_176 : mm_code 169 176 = some (.invokevirtual 211, 3, 155, 1, [66, 0]) := rfl
theorem rw_170_179 : mm_code 169 179 = some (.iload 6, 2, 0, 0, []) := rfl
theorem rw_170_181 : mm_code 169 181 = some (.iload 5, 2, 0, 0, []) := rfl
theorem rw_170_183 : mm_code 169 183 = some (.iadd, 1, 0, 0, []) := rfl
theorem rw_170_184 : mm_code 169 184 = some (.istore 7, 2, 0, 0, []) := rfl
theorem rw_170_186 : mm_code 169 186 = some (.bipush 10, 2, 10, 0, []) := rfl
theorem rw_170_188 : mm_code 169 188 = some (.istore 8, 2, 0, 0, []) := rfl
theorem rw_170_190 : mm_code 169 190 = some (.iload 4, 2, 0, 0, []) := rfl
theorem rw_170_192 : mm_code 169 192 = some (.ifCond .eq 126, 3, 318, 0, []) := rfl
theorem rw_170_195 : mm_code 169 195 = some (.aload_n 0, 1, 0, 0, []) := rfl
theorem rw_170_196 : mm_code 169 196 = some (.iload_n 3, 1, 0, 0, []) := rfl
theorem rw_170_197 : mm_code 169 197 = some (.ifCond .ne 10, 3, 207, 0, []) := rfl
theorem rw_170_200 : mm_code 169 200 = some (.iload 6, 2, 0, 0, []) := rfl
theorem rw_170_202 : mm_code 169 202 = some (.iconst 1, 1, 1, 0, []) := rfl
theorem rw_170_203 : mm_code 169 203 = some (.iadd, 1, 0, 0, []) := rfl
theorem rw_170_204 : mm_code 169 204 = some (.goto 5, 3, 209, 0, []) := rfl
theorem rw_170_207 : mm_code 169 207 = some (.iload 6, 2, 0, 0, []) := rfl
theorem rw_170_209 : mm_code 169 209 = some (.aload_n 0, 1, 0, 0, []) := rfl
theorem rw_170_210 : mm_code 169 210 = some (.getfield 217, 3, 11, 14, [0, 68]) := rfl
theorem rw_170_213 : mm_code 169 213 = some (.iconst 1, 1, 1, 0, []) := rfl
theorem rw_170_214 : mm_code 169 214 = some (.isub, 1, 0, 0, []) := rfl
theorem rw_170_215 : mm_code 169 215 = some (.invokevirtual 266, 3, 161, 3, [83, 0]) := rfl
theorem rw_170_218 : mm_code 169 218 = some (.ifCond .ne 5, 3, 223, 0, []) := rfl
theorem rw_170_221 : mm_code 169 221 = some (.iconst 0, 1, 0, 0, []) := rfl
theorem rw_170_222 : mm_code 169 222 = some (.ireturn, 1, 1, 0, []) := rfl
theorem rw_170_223 : mm_code 169 223 = some (.aload_n 0, 1, 0, 0, []) := rfl
theorem rw_170_224 : mm_code 169 224 = some (.getfield 196, 3, 11, 9, [0, 61]) := rfl
theorem rw_170_227 : mm_code 169 227 = some (.istore 7, 2, 0, 0, []) := rfl
theorem rw_170_229 : mm_code 169 229 = some (.iload 7, 2, 0, 0, []) := rfl
theorem rw_170_231 : mm_code 169 231 = some (.iload 6, 2, 0, 0, []) := rfl
theorem rw_170_233 : mm_code 169 233 = some (.isub, 1, 0, 0, []) := rfl
theorem rw_170_234 : mm_code 169 234 = some (.bipush 23, 2, 23, 0, []) := rfl
theorem rw_170_236 : mm_code 169 236 = some (.if_icmp .le 9, 3, 245, 0, []) := rfl
theorem rw_170_239 : mm_code 169 239 = some (.aload_n 0, 1, 0, 0, []) := rfl
theorem rw_170_240 : mm_code 169 240 = some (.iconst 2, 1, 2, 0, []) := rfl
theorem rw_170_241 : mm_code 169 241 = some (.invokevirtual 208, 3, 151, 2, [65, 0]) := rfl
theorem rw_170_244 : mm_code 169 244 = some (.ireturn, 1, 1, 0, []) := rfl
theorem rw_170_245 : mm_code 169 245 = some (.aload_n 0, 1, 0, 0, []) := rfl
theorem rw_170_246 : mm_code 169 246 = some (.getfield 226, 3, 11, 25, [2, 71]) := rfl
theorem rw_170_249 : mm_code 169 249 = some (.iload 6, 2, 0, 0, []) := rfl
theorem rw_170_251 : mm_code 169 251 = some (.iload 7, 2, 0, 0, []) := rfl
theorem rw_170_253 : mm_code 169 253 = some (.invokestatic 270, 3, 167, 2, [84, 0]) := rfl
theorem rw_170_256 : mm_code 169 256 = some (.land, 1, 0, 0, []) := rfl
theorem rw_170_257 : mm_code 169 257 = some (.lconst 0, 1, 0, 0, []) := rfl
theorem rw_170_258 : mm_code 169 258 = some (.lcmp, 1, 0, 0, []) := rfl
theorem rw_170_259 : mm_code 169 259 = some (.ifCond .eq 9, 3, 268, 0, []) := rfl
theorem rw_170_262 : mm_code 169 262 = some (.aload_n 0, 1, 0, 0, []) := rfl
theorem rw_170_263 : mm_code 169 263 = some (.iconst 3, 1, 3, 0, []) := rfl
theorem rw_170_264 : mm_code 169 264 = some (.invokevirtual 208, 3, 151, 2, [65, 0]) := rfl
theorem rw_170_267 : mm_code 169 267 = some (.ireturn, 1, 1, 0, []) := rfl
theorem rw_170_268 : mm_code 169 268 = some (.aload_n 0, 1, 0, 0, []) := rfl
theorem rw_170_269 : mm_code 169 269 = some (.invokevirtual 211, 3, 155, 1, [66, 0]) := rfl
theorem rw_170_272 : mm_code 169 272 = some (.iload 7, 2, 0, 0, []) := rfl
theorem rw_170_274 : mm_code 169 274 = some (.iload 6, 2, 0, 0, []) := rfl
theorem rw_170_276 : mm_code 169 276 = some (.isub, 1, 0, 0, []) := rfl
theorem rw_170_277 : mm_code 169 277 = some (.iconst 1, 1, 1, 0, []) := rfl
theorem rw_170_278 : mm_code 169 278 = some (.iadd, 1, 0, 0, []) := rfl
theorem rw_170_279 : mm_code 169 279 = some (.istore 8, 2, 0, 0, []) := rfl
theorem rw_170_281 : mm_code 169 281 = some (.iload_n 3, 1, 0, 0, []) := rfl
theorem rw_170_282 : mm_code 169 282 = some (.iconst 3, 1, 3, 0, []) := rfl
theorem rw_170_283 : mm_code 169 283 = some (.if_icmp .ne 35, 3, 318, 0, []) := rfl
theorem rw_170_286 : mm_code 169 286 = some (.aload_n 0, 1, 0, 0, []) := rfl
theorem rw_170_287 : mm_code 169 287 = some (.iconst 1, 1, 1, 0, []) := rfl
theorem rw_170_288 : mm_code 169 288 = some (.iload 8, 2, 0, 0, []) := rfl
theorem rw_170_290 : mm_code 169 290 = some (.iconst 4, 1, 4, 0, []) := rfl
theorem rw_170_291 : mm_code 169 291 = some (.if_icmp .ge 8, 3, 299, 0, []) := rfl
theorem rw_170_294 : mm_code 169 294 = some (.iload 8, 2, 0, 0, []) := rfl
theorem rw_170_296 : mm_code 169 296 = some (.goto 4, 3, 300, 0, []) := rfl
theorem rw_170_299 : mm_code 169 299 = some (.iconst 4, 1, 4, 0, []) := rfl
theorem rw_170_300 : mm_code 169 300 = some (.invokevirtual 266, 3, 161, 3, [83, 0]) := rfl
theorem rw_170_303 : mm_code 169 303 = some (.ifCond .ne 5, 3, 308, 0, []) := rfl
theorem rw_170_306 : mm_code 169 306 = some (.iconst 0, 1, 0, 0, []) := rfl
theorem rw_170_307 : mm_code 169 307 = some (.ireturn, 1, 1, 0, []) := rfl
theorem rw_170_308 : mm_code 169 308 = some (.aload_n 0, 1, 0, 0, []) := rfl
theorem rw_170_309 : mm_code 169 309 = some (.getfield 196, 3, 11, 9, [0, 61]) := rfl
theorem rw_170_312 : mm_code 169 312 = some (.istore 8, 2, 0, 0, []) := rfl
theorem rw_170_314 : mm_code 169 314 = some (.aload_n 0, 1, 0, 0, []) := rfl
theorem rw_170_315 : mm_code 169 315 = some (.invokevirtual 211, 3, 155, 1, [66, 0]) := rfl
theorem rw_170_318 : mm_code 169 318 = some (.aload_n 0, 1, 0, 0, []) := rfl
theorem rw_170_319 : mm_code 169 319 = some (.dup, 1, 0, 0, []) := rfl
theorem rw_170_320 : mm_code 169 320 = some (.getfield 226, 3, 11, 25, [2, 71]) := rfl
theorem rw_170_323 : mm_code 169 323 = some (.iload 6, 2, 0, 0, []) := rfl
theorem rw_170_325 : mm_code 169 325 = some (.iload 7, 2, 0, 0, []) := rfl
theorem rw_170_327 : mm_code 169 327 = some (.invokestatic 270, 3, 167, 2, [84, 0]) := rfl
theorem rw_170_330 : mm_code 169 330 = some (.lor, 1, 0, 0, []) := rfl
theorem rw_170_331 : mm_code 169 331 = some (.putfield 226, 3, 11, 25, [2, 71]) := rfl
theorem rw_170_334 : mm_code 169 334 = some (.aload_n 0, 1, 0, 0, []) := rfl
theorem rw_170_335 : mm_code 169 335 = some (.getfield 20, 3, 11, 17, [3, 4]) := rfl
theorem rw_170_338 : mm_code 169 338 = some (.iload_n 1, 1, 0, 0, []) := rfl
theorem rw_170_339 : mm_code 169 339 = some (.iload_n 2, 1, 0, 0, []) := rfl
theorem rw_170_340 : mm_code 169 340 = some (.iastore, 1, 0, 0, []) := rfl
theorem rw_170_341 : mm_code 169 341 = some (.aload_n 0, 1, 0, 0, []) := rfl
theorem rw_170_342 : mm_code 169 342 = some (.getfield 23, 3, 11, 18, [3, 5]) := rfl
theorem rw_170_345 : mm_code 169 345 = some (.iload_n 1, 1, 0, 0, []) := rfl
theorem rw_170_346 : mm_code 169 346 = some (.iload_n 3, 1, 0, 0, []) := rfl
theorem rw_170_347 : mm_code 169 347 = some (.iastore, 1, 0, 0, []) := rfl
theorem rw_170_348 : mm_code 169 348 = some (.aload_n 0, 1, 0, 0, []) := rfl
theorem rw_170_349 : mm_code 169 349 = some (.getfield 26, 3, 11, 19, [3, 6]) := rfl
theorem rw_170_352 : mm_code 169 352 = some (.iload_n 1, 1, 0, 0, []) := rfl
theorem rw_170_353 : mm_code 169 353 = some (.iload 6, 2, 0, 0, []) := rfl
theorem rw_170_355 : mm_code 169 355 = some (.iastore, 1, 0, 0, []) := rfl
theorem rw_170_356 : mm_code 169 356 = some (.aload_n 0, 1, 0, 0, []) := rfl
theorem rw_170_357 : mm_code 169 357 = some (.getfield 29, 3, 11, 20, [3, 7]) := rfl
theorem rw_170_360 : mm_code 169 360 = some (.iload_n 1, 1, 0, 0, []) := rfl
theorem rw_170_361 : mm_code 169 361 = some (.iload 7, 2, 0, 0, []) := rfl
theorem rw_170_363 : mm_code 169 363 = some (.iastore, 1, 0, 0, []) := rfl
theorem rw_170_364 : mm_code 169 364 = some (.aload_n 0, 1, 0, 0, []) := rfl
theorem rw_170_365 : mm_code 169 365 = some (.getfield 32, 3, 11, 21, [3, 8]) := rfl
theorem rw_170_368 : mm_code 169 368 = some (.iload_n 1, 1, 0, 0, []) := rfl
theorem rw_170_369 : mm_code 169 369 = some (.iload 8, 2, 0, 0, []) := rfl
theorem rw_170_371 : mm_code 169 371 = some (.iastore, 1, 0, 0, []) := rfl
theorem rw_170_372 : mm_code 169 372 = some (.aload_n 0, 1, 0, 0, []) := rfl
theorem rw_170_373 : mm_code 169 373 = some (.dup, 1, 0, 0, []) := rfl
theorem rw_170_374 : mm_code 169 374 = some (.getfield 220, 3, 11, 15, [0, 69]) := rfl
theorem rw_170_377 : mm_code 169 377 = some (.iconst 1, 1, 1, 0, []) := rfl
theorem rw_170_378 : mm_code 169 378 = some (.iadd, 1, 0, 0, []) := rfl
theorem rw_170_379 : mm_code 169 379 = some (.putfield 220, 3, 11, 15, [0, 69]) := rfl
theorem rw_170_382 : mm_code 169 382 = some (.iconst 1, 1, 1, 0, []) := rfl
theorem rw_170_383 : mm_code 169 383 = some (.ireturn, 1, 1, 0, []) := rfl
theorem rw_171_0 : mm_code 170 0 = some (.aload_n 0, 1, 0, 0, []) := rfl
theorem rw_171_1 : mm_code 170 1 = some (.getfield 223, 3, 11, 16, [0, 70]) := rfl
theorem rw_171_4 : mm_code 170 4 = some (.bipush 12, 2, 12, 0, []) := rfl
theorem rw_171_6 : mm_code 170 6 = some (.if_icmp .ne 9, 3, 15, 0, []) := rfl
theorem rw_171_9 : mm_code 170 9 = some (.aload_n 0, 1, 0, 0, []) := rfl
theorem rw_171_10 : mm_code 170 10 = some (.iconst 2, 1, 2, 0, []) := rfl
theorem rw_171_11 : mm_code 170 11 = some (.invokevirtual 208, 3, 151, 2, [65, 0]) := rfl
theorem rw_171_14 : mm_code 170 14 = some (.ireturn, 1, 1, 0, []) := rfl
theorem rw_171_15 : mm_code 170 15 = some (.aload_n 0, 1, 0, 0, []) := rfl
theorem rw_171_16 : mm_code 170 16 = some (.invokevirtual 211, 3, 155, 1, [66, 0]) := rfl
theorem rw_171_19 : mm_code 170 19 = some (.aload_n 0, 1, 0, 0, []) := rfl
theorem rw_171_20 : mm_code 170 20 = some (.getfield 185, 3, 11, 8, [0, 58]) := rfl
theorem rw_171_23 : mm_code 170 23 = some (.iconst 2, 1, 2, 0, []) := rfl
theorem rw_171_24 : mm_code 170 24 = some (.if_icmp .eq 9, 3, 33, 0, []) := rfl
theorem rw_171_27 : mm_code 170 27 = some (.aload_n 0, 1, 0, 0, []) := rfl
theorem rw_171_28 : mm_code 170 28 = some (.iconst 1, 1, 1, 0, []) := rfl
theorem rw_171_29 : mm_code 170 29 = some (.invokevirtual 208, 3, 151, 2, [65, 0]) := rfl
theorem rw_171_32 : mm_code 170 32 = some (.ireturn, 1, 1, 0, []) := rfl
theorem rw_171_33 : mm_code 170 33 = some (.aload_n 0, 1, 0, 0, []) := rfl
theorem rw_171_34 : mm_code 170 34 = some (.aload_n 0, 1, 0, 0, []) := rfl
theorem rw_171_35 : mm_code 170 35 = some (.getfield 196, 3, 11, 9, [0, 61]) := rfl
theorem rw_171_38 : mm_code 170 38 = some (.invokevirtual 255, 3, 165, 2, [80, 0]) := rfl
theorem rw_171_41 : mm_code 170 41 = some (.istore_n 1, 1, 0, 0, []) := rfl
theorem rw_171_42 : mm_code 170 42 = some (.iload_n 1, 1, 0, 0, []) := rfl
theorem rw_171_43 : mm_code 170 43 = some (.ifCond .lt 16, 3, 59, 0, []) := rfl
theorem rw_171_46 : mm_code 170 46 = some (.aload_n 0, 1, 0, 0, []) := rfl
theorem rw_171_47 : mm_code 170 47 = some (.getfield 23, 3, 11, 18, [3, 5]) := rfl
theorem rw_171_50 : mm_code 170 50 = some (.bipush 8, 2, 8, 0, []) := rfl
theorem rw_171_52 : mm_code 170 52 = some (.iload_n 1, 1, 0, 0, []) := rfl
theorem rw_171_53 : mm_code 170 53 = some (.iadd, 1, 0, 0, []) := rfl
theorem rw_171_54 : mm_code 170 54 = some (.iaload, 1, 0, 0, []) := rfl
theorem rw_171_55 : mm_code 170 55 = some (.iconst 3, 1, 3, 0, []) := rfl
theorem rw_171_56 : mm_code 170 56 = some (.if_icmp .eq 9, 3, 65, 0, []) := rfl
theorem rw_171_59 : mm_code 170 59 = some (.aload_n 0, 1, 0, 0, []) := rfl
theorem rw_171_60 : mm_code 170 60 = some (.iconst 4, 1, 4, 0, []) := rfl
theorem rw_171_61 : mm_code 170 61 = some (.invokevirtual 208, 3, 151, 2, [65, 0]) := rfl
theorem rw_171_64 : mm_code 170 64 = some (.ireturn, 1, 1, 0, []) := rfl
theorem rw_171_65 : mm_code 170 65 = some (.aload_n 0, 1, 0, 0, []) := rfl
theorem rw_171_66 : mm_code 170 66 = some (.invokevirtual 211, 3, 155, 1, [66, 0]) := rfl
theorem rw_171_69 : mm_code 170 69 = some (.aload_n 0, 1, 0, 0, []) := rfl
theorem rw_171_70 : mm_code 170 70 = some (.invokevirtual 262, 3, 168, 1, [82, 0]) := rfl
theorem rw_171_73 : mm_code 170 73 = some (.ifCond .ne 5, 3, 78, 0, []) := rfl
theorem rw_171_76 : mm_code 170 76 = some (.iconst 0, 1, 0, 0, []) := rfl
theorem rw_171_77 : mm_code 170 77 = some (.ireturn, 1, 1, 0, []) := rfl
theorem rw_171_78 : mm_code 170 78 = some (.aload_n 0, 1, 0, 0, []) := rfl
theorem rw_171_79 : mm_code 170 79 = some (.getfield 196, 3, 11, 9, [0, 61]) := rfl
theorem rw_171_82 : mm_code 170 82 = some (.istore_n 2, 1, 0, 0, []) := rfl
theorem rw_171_83 : mm_code 170 83 = some (.aload_n 0, 1, 0, 0, []) := rfl
theorem rw_171_84 : mm_code 170 84 = some (.invokevirtual 211, 3, 155, 1, [66, 0]) := rfl
theorem rw_171_87 : mm_code 170 87 = some (.aload_n 0, 1, 0, 0, []) := rfl
theorem rw_171_88 : mm_code 170 88 = some (.getfield 185, 3, 11, 8, [0, 58]) := rfl
theorem rw_171_91 : mm_code 170 91 = some (.iconst 3, 1, 3, 0, []) := rfl
theorem rw_171_92 : mm_code 170 92 = some (.if_icmp .eq 9, 3, 101, 0, []) := rfl
theorem rw_171_95 : mm_code 170 95 = some (.aload_n 0, 1, 0, 0, []) := rfl
theorem rw_171_96 : mm_code 170 96 = some (.iconst 1, 1, 1, 0, []) := rfl
theorem rw_171_97 : mm_code 170 97 = some (.invokevirtual 208, 3, 151, 2, [65, 0]) := rfl
theorem rw_171_100 : mm_code 170 100 = some (.ireturn, 1, 1, 0, []) := rfl
theorem rw_171_101 : mm_code 170 101 = some (.iconst 0, 1, 0, 0, []) := rfl
theorem rw_171_102 : mm_code 170 102 = some (.istore_n 3, 1, 0, 0, []) := rfl
theorem rw_171_103 : mm_code 170 103 = some (.lconst 0, 1, 0, 0, []) := rfl
theorem rw_171_104 : mm_code 170 104 = some (.lstore 4, 2, 0, 0, []) := rfl
theorem rw_171_106 : mm_code 170 106 = some (.aload_n 0, 1, 0, 0, []) := rfl
theorem rw_171_107 : mm_code 170 107 = some (.getfield 185, 3, 11, 8, [0, 58]) := rfl
theorem rw_171_110 : mm_code 170 110 = some (.iconst 3, 1, 3, 0, []) := rfl
theorem rw_171_111 : mm_code 170 111 = some (.if_icmp .ne 107, 3, 218, 0, []) := rfl
theorem rw_171_114 : mm_code 170 114 = some (.iload_n 3, 1, 0, 0, []) := rfl
theorem rw_171_115 : mm_code 170 115 = some (.aload_n 0, 1, 0, 0, []) := rfl
theorem rw_171_116 : mm_code 170 116 = some (.getfield 32, 3, 11, 21, [3, 8]) := rfl
theorem rw_171_119 : mm_code 170 119 = some (.bipush 8, 2, 8, 0, []) := rfl
theorem rw_171_121 : mm_code 170 121 = some (.iload_n 1, 1, 0, 0, []) := rfl
theorem rw_171_122 : mm_code 170 122 = some (.iadd, 1, 0, 0, []) := rfl
theorem rw_171_123 : mm_code 170 123 = some (.iaload, 1, 0, 0, []) := rfl
theorem rw_171_124 : mm_code 170 124 = some (.if_icmp .eq 29, 3, 153, 0, []) := rfl
theorem rw_171_127 : mm_code 170 127 = some (.aload_n 0, 1, 0, 0, []) := rfl
theorem rw_171_128 : mm_code 170 128 = some (.getfield 196, 3, 11, 9, [0, 61]) := rfl
theorem rw_171_131 : mm_code 170 131 = some (.aload_n 0, 1, 0, 0, []) := rfl
theorem rw_171_132 : mm_code 170 132 = some (.getfield 29, 3, 11, 20, [3, 7]) := rfl
theorem rw_171_135 : mm_code 170 135 = some (.bipush 8, 2, 8, 0, []) := rfl
theorem rw_171_137 : mm_code 170 137 = some (.iload_n 1, 1, 0, 0, []) := rfl
theorem rw_171_138 : mm_code 170 138 = some (.iadd, 1, 0, 0, []) := rfl
theorem rw_171_139 : mm_code 170 139 = some (.iaload, 1, 0, 0, []) := rfl
theorem rw_171_140 : mm_code 170 140 = some (.aload_n 0, 1, 0, 0, []) := rfl
theorem rw_171_141 : mm_code 170 141 = some (.getfield 26, 3, 11, 19, [3, 6]) := rfl
theorem rw_171_144 : mm_code 170 144 = some (.bipush 8, 2, 8, 0, []) := rfl
theorem rw_171_146 : mm_code 170 146 = some (.iload_n 1, 1, 0, 0, []) := rfl
theorem rw_171_147 : mm_code 170 147 = some (.iadd, 1, 0, 0, []) := rfl
theorem rw_171_148 : mm_code 170 148 = some (.iaload, 1, 0, 0, []) := rfl
theorem rw_171_149 : mm_code 170 149 = some (.isub, 1, 0, 0, []) := rfl
theorem rw_171_150 : mm_code 170 150 = some (.if_icmp .le 9, 3, 159, 0, []) := rfl
theorem rw_171_153 : mm_code 170 153 = some (.aload_n 0, 1, 0, 0, []) := rfl
theorem rw_171_154 : mm_code 170 154 = some (.iconst 2, 1, 2, 0, []) := rfl
theorem rw_171_155 : mm_code 170 155 = some (.invokevirtual 208, 3, 151, 2, [65, 0]) := rfl
theorem rw_171_158 : mm_code 170 158 = some (.ireturn, 1, 1, 0, []) := rfl
theorem rw_171_159 : mm_code 170 159 = some (.lload 4, 2, 0, 0, []) := rfl
theorem rw_171_161 : mm_code 170 161 = some (.aload_n 0, 1, 0, 0, []) := rfl
theorem rw_171_162 : mm_code 170 162 = some (.getfield 26, 3, 11, 19, [3, 6]) := rfl
theorem rw_171_165 : mm_code 170 165 = some (.bipush 8, 2, 8, 0, []) := rfl
theorem rw_171_167 : mm_code 170 167 = some (.iload_n 1, 1, 0, 0, []) := rfl
theorem rw_171_168 : mm_code 170 168 = some (.iadd, 1, 0, 0, []) := rfl
theorem rw_171_169 : mm_code 170 169 = some (.iaload, 1, 0, 0, []) := rfl
theorem rw_171_170 : mm_code 170 170 = some (.aload_n 0, 1, 0, 0, []) := rfl
theorem rw_171_171 : mm_code 170 171 = some (.getfield 196, 3, 11, 9, [0, 61]) := rfl
theorem rw_171_174 : mm_code 170 174 = some (.iadd, 1, 0, 0, []) := rfl
theorem rw_171_175 : mm_code 170 175 = some (.invokestatic 169, 3, 149, 2, [53, 0]) := rfl
theorem rw_171_178 : mm_code 170 178 = some (.ifCond .eq 9, 3, 187, 0, []) := rfl
theorem rw_171_181 : mm_code 170 181 = some (.aload_n 0, 1, 0, 0, []) := rfl
theorem rw_171_182 : mm_code 170 182 = some (.iconst 3, 1, 3, 0, []) := rfl
theorem rw_171_183 : mm_code 170 183 = some (.invokevirtual 208, 3, 151, 2, [65, 0]) := rfl
theorem rw_171_186 : mm_code 170 186 = some (.ireturn, 1, 1, 0, []) := rfl
theorem rw_171_187 : mm_code 170 187 = some (.lload 4, 2, 0, 0, []) := rfl
theorem rw_171_189 : mm_code 170 189 = some (.lconst 1, 1, 1, 0, []) := rfl
theorem rw_171_190 : mm_code 170 190 = some (.aload_n 0, 1, 0, 0, []) := rfl
theorem rw_171_191 : mm_code 170 191 = some (.getfield 26, 3, 11, 19, [3, 6]) := rfl
theorem rw_171_194 : mm_code 170 194 = some (.bipush 8, 2, 8, 0, []) := rfl
theorem rw_171_196 : mm_code 170 196 = some (.iload_n 1, 1, 0, 0, []) := rfl
theorem rw_171_197 : mm_code 170 197 = some (.iadd, 1, 0, 0, []) := rfl
theorem rw_171_198 : mm_code 170 198 = some (.iaload, 1, 0, 0, []) := rfl
theorem rw_171_199 : mm_code 170 199 = some (.aload_n 0, 1, 0, 0, []) := rfl
theorem rw_171_200 : mm_code 170 200 = some (.getfield 196, 3, 11, 9, [0, 61]) := rfl
theorem rw_171_203 : mm_code 170 203 = some (.iadd, 1, 0, 0, []) := rfl
theorem rw_171_204 : mm_code 170 204 = some (.lshl, 1, 0, 0, []) := rfl
theorem rw_171_205 : mm_code 170 205 = some (.lor, 1, 0, 0, []) := rfl
theorem rw_171_206 : mm_code 170 206 = some (.lstore 4, 2, 0, 0, []) := rfl
theorem rw_171_208 : mm_code 170 208 = some (.iinc 3 1, 3, 1, 0, []) := rfl
theorem rw_171_211 : mm_code 170 211 = some (.aload_n 0, 1, 0, 0, []) := rfl
theorem rw_171_212 : mm_code 170 212 = some (.invokevirtual 211, 3, 155, 1, [66, 0]) := rfl
theorem rw_171_215 : mm_code 170 215 = some (.goto (-109), 3, 106, 0, []) := rfl
theorem rw_171_218 : mm_code 170 218 = some (.aload_n 0, 1, 0, 0, []) := rfl
theorem rw_171_219 : mm_code 170 219 = some (.bipush 59, 2, 59, 0, []) := rfl
theorem rw_171_221 : mm_code 170 221 = some (.invokevirtual 205, 3, 158, 2, [64, 0]) := rfl
theorem rw_171_224 : mm_code 170 224 = some (.ifCond .eq 22, 3, 246, 0, []) := rfl
theorem rw_171_227 : mm_code 170 227 = some (.iload_n 3, 1, 0, 0, []) := rfl
theorem rw_171_228 : mm_code 170 228 = some (.aload_n 0, 1, 0, 0, []) := rfl
theorem rw_171_229 : mm_code 170 229 = some (.getfield 32, 3, 11, 21, [3, 8]) := rfl
theorem rw_171_232 : mm_code 170 232 = some (.bipush 8, 2, 8, 0, []) := rfl
theorem rw_171_234 : mm_code 170 234 = some (.iload_n 1, 1, 0, 0, []) := rfl
theorem rw_171_235 : mm_code 170 235 = some (.iadd, 1, 0, 0, []) := rfl
theorem rw_171_236 : mm_code 170 236 = some (.iaload, 1, 0, 0, []) := rfl
theorem rw_171_237 : mm_code 170 237 = some (.if_icmp .ge 9, 3, 246, 0, []) := rfl
theorem rw_171_240 : mm_code 170 240 = some (.aload_n 0, 1, 0, 0, []) := rfl
theorem rw_171_241 : mm_code 170 241 = some (.iconst 5, 1, 5, 0, []) := rfl
theorem rw_171_242 : mm_code 170 242 = some (.invokevirtual 208, 3, 151, 2, [65, 0]) := rfl
theorem rw_171_245 : mm_code 170 245 = some (.ireturn, 1, 1, 0, []) := rfl
theorem rw_171_246 : mm_code 170 246 = some (.aload_n 0, 1, 0, 0, []) := rfl
theorem rw_171_247 : mm_code 170 247 = some (.getfield 35, 3, 11, 22, [3, 9]) := rfl
theorem rw_171_250 : mm_code 170 250 = some (.bipush 12, 2, 12, 0, []) := rfl
theorem rw_171_252 : mm_code 170 252 = some (.aload_n 0, 1, 0, 0, []) := rfl
theorem rw_171_253 : mm_code 170 253 = some (.getfield 223, 3, 11, 16, [0, 70]) := rfl
theorem rw_171_256 : mm_code 170 256 = some (.iadd, 1, 0, 0, []) := rfl
theorem rw_171_257 : mm_code 170 257 = some (.iload_n 2, 1, 0, 0, []) := rfl
theorem rw_171_258 : mm_code 170 258 = some (.iastore, 1, 0, 0, []) := rfl
theorem rw_171_259 : mm_code 170 259 = some (.aload_n 0, 1, 0, 0, []) := rfl
theorem rw_171_260 : mm_code 170 260 = some (.getfield 38, 3, 11, 23, [3, 10]) := rfl
theorem rw_171_263 : mm_code 170 263 = some (.bipush 12, 2, 12, 0, []) := rfl
theorem rw_171_265 : mm_code 170 265 = some (.aload_n 0, 1, 0, 0, []) := rfl
theorem rw_171_266 : mm_code 170 266 = some (.getfield 223, 3, 11, 16, [0, 70]) := rfl
theorem rw_171_269 : mm_code 170 269 = some (.iadd, 1, 0, 0, []) := rfl
theorem rw_171_270 : mm_code 170 270 = some (.iload_n 1, 1, 0, 0, []) := rfl
theorem rw_171_271 : mm_code 170 271 = some (.iastore, 1, 0, 0, []) := rfl
theorem rw_171_272 : mm_code 170 272 = some (.aload_n 0, 1, 0, 0, []) := rfl
theorem rw_171_273 : mm_code 170 273 = some (.getfield 41, 3, 11, 24, [3, 11]) := rfl
theorem rw_171_276 : mm_code 170 276 = some (.bipush 12, 2, 12, 0, []) := rfl
theorem rw_171_278 : mm_code 170 278 = some (.aload_n 0, 1, 0, 0, []) := rfl
theorem rw_171_279 : mm_code 170 279 = some (.getfield 223, 3, 11, 16, [0, 70]) := rfl
theorem rw_171_282 : mm_code 170 282 = some (.iadd, 1, 0, 0, []) := rfl
theorem rw_171_283 : mm_code 170 283 = some (.lload 4, 2, 0, 0, []) := rfl
theorem rw_171_285 : mm_code 170 285 = some (.lastore, 1, 0, 0, []) := rfl
theorem rw_171_286 : mm_code 170 286 = some (.aload_n 0, 1, 0, 0, []) := rfl
theorem rw_171_287 : mm_code 170 287 = some (.dup, 1, 0, 0, []) := rfl
theorem rw_171_288 : mm_code 170 288 = some (.getfield 223, 3, 11, 16, [0, 70]) := rfl
theorem rw_171_291 : mm_code 170 291 = some (.iconst 1, 1, 1, 0, []) := rfl
theorem rw_171_292 : mm_code 170 292 = some (.iadd, 1, 0, 0, []) := rfl
theorem rw_171_293 : mm_code 170 293 = some (.putfield 223, 3, 11, 16, [0, 70]) := rfl
theorem rw_171_296 : mm_code 170 296 = some (.iconst 1, 1, 1, 0, []) := rfl
theorem rw_171_297 : mm_code 170 297 = some (.ireturn, 1, 1, 0, []) := rfl
theorem rw_172_0 : mm_code 171 0 = some (.aload_n 0, 1, 0, 0, []) := rfl
theorem rw_172_1 : mm_code 171 1 = some (.getfield 185, 3, 11, 8, [0, 58]) := rfl
theorem rw_172_4 : mm_code 171 4 = some (.iconst 1, 1, 1, 0, []) := rfl
theorem rw_172_5 : mm_code 171 5 = some (.if_icmp .ne 22, 3, 27, 0, []) := rfl
theorem rw_172_8 : mm_code 171 8 = some (.aload_n 0, 1, 0, 0, []) := rfl
theorem rw_172_9 : mm_code 171 9 = some (.getfield 196, 3, 11, 9, [0, 61]) := rfl
theorem rw_172_12 : mm_code 171 12 = some (.iconst 2, 1, 2, 0, []) := rfl
theorem rw_172_13 : mm_code 171 13 = some (.if_icmp .gt 14, 3, 27, 0, []) := rfl
theorem rw_172_16 : mm_code 171 16 = some (.iload_n 1, 1, 0, 0, []) := rfl
theorem rw_172_17 : mm_code 171 17 = some (.ifCond .eq 16, 3, 33, 0, []) := rfl
theorem rw_172_20 : mm_code 171 20 = some (.aload_n 0, 1, 0, 0, []) := rfl
theorem rw_172_21 : mm_code 171 21 = some (.getfield 196, 3, 11, 9, [0, 61]) := rfl
theorem rw_172_24 : mm_code 171 24 = some (.ifCond .eq 9, 3, 33, 0, []) := rfl
theorem rw_172_27 : mm_code 171 27 = some (.aload_n 0, 1, 0, 0, []) := rfl
theorem rw_172_28 : mm_code 171 28 = some (.iconst 1, 1, 1, 0, []) := rfl
theorem rw_172_29 : mm_code 171 29 = some (.invokevirtual 208, 3, 151, 2, [65, 0]) := rfl
theorem rw_172_32 : mm_code 171 32 = some (.ireturn, 1, 1, 0, []) := rfl
theorem rw_172_33 : mm_code 171 33 = some (.aload_n 0, 1, 0, 0, []) := rfl
theorem rw_172_34 : mm_code 171 34 = some (.getfield 196, 3, 11, 9, [0, 61]) := rfl
theorem rw_172_37 : mm_code 171 37 = some (.ifCond .ne 45, 3, 82, 0, []) := rfl
theorem rw_172_40 : mm_code 171 40 = some (.iload_n 1, 1, 0, 0, []) := rfl
theorem rw_172_41 : mm_code 171 41 = some (.ifCond .ne 9, 3, 50, 0, []) := rfl
theorem rw_172_44 : mm_code 171 44 = some (.aload_n 0, 1, 0, 0, []) := rfl
theorem rw_172_45 : mm_code 171 45 = some (.iconst 3, 1, 3, 0, []) := rfl
theorem rw_172_46 : mm_code 171 46 = some (.invokevirtual 208, 3, 151, 2, [65, 0]) := rfl
theorem rw_172_49 : mm_code 171 49 = some (.ireturn, 1, 1, 0, []) := rfl
theorem rw_172_50 : mm_code 171 50 = some (.aload_n 0, 1, 0, 0, []) := rfl
theorem rw_172_51 : mm_code 171 51 = some (.invokevirtual 211, 3, 155, 1, [66, 0]) := rfl
theorem rw_172_54 : mm_code 171 54 = some (.aload_n 0, 1, 0, 0, []) := rfl
theorem rw_172_55 : mm_code 171 55 = some (.bipush 10, 2, 10, 0, []) := rfl
theorem rw_172_57 : mm_code 171 57 = some (.bipush 60, 2, 60, 0, []) := rfl
theorem rw_172_59 : mm_code 171 59 = some (.invokevirtual 266, 3, 161, 3, [83, 0]) := rfl
theorem rw_172_62 : mm_code 171 62 = some (.ifCond .ne 5, 3, 67, 0, []) := rfl
theorem rw_172_65 : mm_code 171 65 = some (.iconst 0, 1, 0, 0, []) := rfl
theorem rw_172_66 : mm_code 171 66 = some (.ireturn, 1, 1, 0, []) := rfl
theorem rw_172_67 : mm_code 171 67 = some (.aload_n 0, 1, 0, 0, []) := rfl
theorem rw_172_68 : mm_code 171 68 = some (.aload_n 0, 1, 0, 0, []) := rfl
theorem rw_172_69 : mm_code 171 69 = some (.getfield 196, 3, 11, 9, [0, 61]) := rfl
theorem rw_172_72 : mm_code 171 72 = some (.putfield 217, 3, 11, 14, [0, 68]) := rfl
theorem rw_172_75 : mm_code 171 75 = some (.aload_n 0, 1, 0, 0, []) := rfl
theorem rw_172_76 : mm_code 171 76 = some (.invokevirtual 211, 3, 155, 1, [66, 0]) := rfl
theorem rw_172_79 : mm_code 171 79 = some (.goto 30, 3, 109, 0, []) := rfl
theorem rw_172_82 : mm_code 171 82 = some (.aload_n 0, 1, 0, 0, []) := rfl
theorem rw_172_83 : mm_code 171 83 = some (.getfield 196, 3, 11, 9, [0, 61]) := rfl
theorem rw_172_86 : mm_code 171 86 = some (.iconst 1, 1, 1, 0, []) := rfl
theorem rw_172_87 : mm_code 171 87 = some (.if_icmp .ne 13, 3, 100, 0, []) := rfl
theorem rw_172_90 : mm_code 171 90 = some (.aload_n 0, 1, 0, 0, []) := rfl
theorem rw_172_91 : mm_code 171 91 = some (.invokevirtual 274, 3, 169, 1, [85, 0]) := rfl
theorem rw_172_94 : mm_code 171 94 = some (.ifCond .ne 15, 3, 109, 0, []) := rfl
theorem rw_172_97 : mm_code 171 97 = some (.goto 10, 3, 107, 0, []) := rfl
theorem rw_172_100 : mm_code 171 100 = some (.aload_n 0, 1, 0, 0, []) := rfl
theorem rw_172_101 : mm_code 171 101 = some (.invokevirtual 277, 3, 170, 1, [86, 0]) := rfl
theorem rw_172_104 : mm_code 171 104 = some (.ifCond .ne 5, 3, 109, 0, []) := rfl
theorem rw_172_107 : mm_code 171 107 = some (.iconst 0, 1, 0, 0, []) := rfl
theorem rw_172_108 : mm_code 171 108 = some (.ireturn, 1, 1, 0, []) := rfl
theorem rw_172_109 : mm_code 171 109 = some (.aload_n 0, 1, 0, 0, []) := rfl
theorem rw_172_110 : mm_code 171 110 = some (.bipush 59, 2, 59, 0, []) := rfl
theorem rw_172_112 : mm_code 171 112 = some (.invokevirtual 280, 3, 159, 2, [87, 0]) := rfl
theorem rw_172_115 : mm_code 171 115 = some (.ireturn, 1, 1, 0, []) := rfl
theorem rw_173_0 : mm_code 172 0 = some (.aload_n 0, 1, 0, 0, []) := rfl
theorem rw_173_1 : mm_code 172 1 = some (.iconst 0, 1, 0, 0, []) := rfl
theorem rw_173_2 : mm_code 172 2 = some (.putfield 163, 3, 11, 2, [0, 51]) := rfl
theorem rw_173_5 : mm_code 172 5 = some (.aload_n 0, 1, 0, 0, []) := rfl
theorem rw_173_6 : mm_code 172 6 = some (.iload_n 1, 1, 0, 0, []) := rfl
theorem rw_173_7 : mm_code 172 7 = some (.invokevirtual 283, 3, 162, 2, [88, 0]) := rfl
theorem rw_173_10 : mm_code 172 10 = some (.ifCond .ne 6, 3, 16, 0, []) := rfl
theorem rw_173_13 : mm_code 172 13 = some (.bipush (-2), 2, 2, 1, []) := rfl
theorem rw_173_15 : mm_code 172 15 = some (.ireturn, 1, 0, 0, []) := rfl
theorem rw_173_16 : mm_code 172 16 = some (.aload_n 0, 1, 0, 0, []) := rfl
theorem rw_173_17 : mm_code 172 17 = some (.invokevirtual 157, 3, 163, 1, [49, 0]) := rfl
theorem rw_173_20 : mm_code 172 20 = some (.iconst 0, 1, 0, 0, []) := rfl
theorem rw_173_21 : mm_code 172 21 = some (.istore_n 2, 1, 0, 0, []) := rfl
theorem rw_173_22 : mm_code 172 22 = some (.aload_n 0, 1, 0, 0, []) := rfl
theorem rw_173_23 : mm_code 172 23 = some (.getfield 185, 3, 11, 8, [0, 58]) := rfl
theorem rw_173_26 : mm_code 172 26 = some (.ifCond .eq 27, 3, 53, 0, []) := rfl
theorem rw_173_29 : mm_code 172 29 = some (.aload_n 0, 1, 0, 0, []) := rfl
theorem rw_173_30 : mm_code 172 30 = some (.iload_n 2, 1, 0, 0, []) := rfl
theorem rw_173_31 : mm_code 172 31 = some (.ifCond .ne 7, 3, 38, 0, []) := rfl
theorem rw_173_34 : mm_code 172 34 = some (.iconst 1, 1, 1, 0, []) := rfl
theorem rw_173_35 : mm_code 172 35 = some (.goto 4, 3, 39, 0, []) := rfl
theorem rw_173_38 : mm_code 172 38 = some (.iconst 0, 1, 0, 0, []) := rfl
theorem rw_173_39 : mm_code 172 39 = some (.invokevirtual 286, 3, 171, 2, [89, 0]) := rfl
theorem rw_173_42 : mm_code 172 42 = some (.ifCond .ne 5, 3, 47, 0, []) := rfl
theorem rw_173_45 : mm_code 172 45 = some (.iconst (-1), 1, 1, 1, []) := rfl
theorem rw_173_46 : mm_code 172 46 = some (.ireturn, 1, 0, 0, []) := rfl
theorem rw_173_47 : mm_code 172 47 = some (.iinc 2 1, 3, 1, 0, []) := rfl
theorem rw_173_50 : mm_code 172 50 = some (.goto (-28), 3, 22, 0, []) := rfl
theorem rw_173_53 : mm_code 172 53 = some (.aload_n 0, 1, 0, 0, []) := rfl
theorem rw_173_54 : mm_code 172 54 = some (.invokevirtual 160, 3, 164, 1, [50, 0]) := rfl
theorem rw_173_57 : mm_code 172 57 = some (.iload_n 2, 1, 0, 0, []) := rfl
theorem rw_173_58 : mm_code 172 58 = some (.ireturn, 1, 0, 0, []) := rfl
theorem rw_174_0 : mm_code 173 0 = some (.aload_n 0, 1, 0, 0, []) := rfl
theorem rw_174_1 : mm_code 173 1 = some (.iconst 0, 1, 0, 0, []) := rfl
theorem rw_174_2 : mm_code 173 2 = some (.putfield 163, 3, 11, 2, [0, 51]) := rfl
theorem rw_174_5 : mm_code 173 5 = some (.iload_n 1, 1, 0, 0, []) := rfl
theorem rw_174_6 : mm_code 173 6 = some (.ifCond .ne 10, 3, 16, 0, []) := rfl
theorem rw_174_9 : mm_code 173 9 = some (.aload_n 0, 1, 0, 0, []) := rfl
theorem rw_174_10 : mm_code 173 10 = some (.getfield 173, 3, 11, 4, [0, 54]) := rfl
theorem rw_174_13 : mm_code 173 13 = some (.goto 16, 3, 29, 0, []) := rfl
theorem rw_174_16 : mm_code 173 16 = some (.iload_n 1, 1, 0, 0, []) := rfl
theorem rw_174_17 : mm_code 173 17 = some (.iconst 1, 1, 1, 0, []) := rfl
theorem rw_174_18 : mm_code 173 18 = some (.if_icmp .ne 10, 3, 28, 0, []) := rfl
theorem rw_174_21 : mm_code 173 21 = some (.aload_n 0, 1, 0, 0, []) := rfl
theorem rw_174_22 : mm_code 173 22 = some (.getfield 16, 3, 11, 5, [0, 3]) := rfl
theorem rw_174_25 : mm_code 173 25 = some (.goto 4, 3, 29, 0, []) := rfl
theorem rw_174_28 : mm_code 173 28 = some (.iconst (-1), 1, 1, 1, []) := rfl
theorem rw_174_29 : mm_code 173 29 = some (.ireturn, 1, 0, 0, []) := rfl
theorem rw_175_0 : mm_code 174 0 = some (.iconst 0, 1, 0, 0, []) := rfl
theorem rw_175_1 : mm_code 174 1 = some (.istore_n 2, 1, 0, 0, []) := rfl
theorem rw_175_2 : mm_code 174 2 = some (.iload_n 2, 1, 0, 0, []) := rfl
theorem rw_175_3 : mm_code 174 3 = some (.aload_n 0, 1, 0, 0, []) := rfl
theorem rw_175_4 : mm_code 174 4 = some (.getfield 233, 3, 11, 12, [0, 73]) := rfl
theorem rw_175_7 : mm_code 174 7 = some (.if_icmp .ge 21, 3, 28, 0, []) := rfl
theorem rw_175_10 : mm_code 174 10 = some (.aload_n 0, 1, 0, 0, []) := rfl
theorem rw_175_11 : mm_code 174 11 = some (.getfield 20, 3, 11, 17, [3, 4]) := rfl
theorem rw_175_14 : mm_code 174 14 = some (.iload_n 2, 1, 0, 0, []) := rfl
theorem rw_175_15 : mm_code 174 15 = some (.iaload, 1, 0, 0, []) := rfl
theorem rw_175_16 : mm_code 174 16 = some (.iload_n 1, 1, 0, 0, []) := rfl
theorem rw_175_17 : mm_code 174 17 = some (.if_icmp .ne 5, 3, 22, 0, []) := rfl
theorem rw_175_20 : mm_code 174 20 = some (.iload_n 2, 1, 0, 0, []) := rfl
theorem rw_175_21 : mm_code 174 21 = some (.ireturn, 1, 0, 0, []) := rfl
theorem rw_175_22 : mm_code 174 22 = some (.iinc 2 1, 3, 1, 0, []) := rfl
theorem rw_175_25 : mm_code 174 25 = some (.goto (-23), 3, 2, 0, []) := rfl
theorem rw_175_28 : mm_code 174 28 = some (.iconst (-1), 1, 1, 1, []) := rfl
theorem rw_175_29 : mm_code 174 29 = some (.ireturn, 1, 0, 0, []) := rfl
theorem rw_176_0 : mm_code 175 0 = some (.iconst 0, 1, 0, 0, []) := rfl
theorem rw_176_1 : mm_code 175 1 = some (.istore_n 2, 1, 0, 0, []) := rfl
theorem rw_176_2 : mm_code 175 2 = some (.iload_n 2, 1, 0, 0, []) := rfl
theorem rw_176_3 : mm_code 175 3 = some (.aload_n 0, 1, 0, 0, []) := rfl
theorem rw_176_4 : mm_code 175 4 = some (.getfield 236, 3, 11, 13, [0, 74]) := rfl
theorem rw_176_7 : mm_code 175 7 = some (.if_icmp .ge 21, 3, 28, 0, []) := rfl
theorem rw_176_10 : mm_code 175 10 = some (.aload_n 0, 1, 0, 0, []) := rfl
theorem rw_176_11 : mm_code 175 11 = some (.getfield 35, 3, 11, 22, [3, 9]) := rfl
theorem rw_176_14 : mm_code 175 14 = some (.iload_n 2, 1, 0, 0, []) := rfl
theorem rw_176_15 : mm_code 175 15 = some (.iaload, 1, 0, 0, []) := rfl
theorem rw_176_16 : mm_code 175 16 = some (.iload_n 1, 1, 0, 0, []) := rfl
theorem rw_176_17 : mm_code 175 17 = some (.if_icmp .ne 5, 3, 22, 0, []) := rfl
theorem rw_176_20 : mm_code 175 20 = some (.iload_n 2, 1, 0, 0, []) := rfl
theorem rw_176_21 : mm_code 175 21 = some (.ireturn, 1, 0, 0, []) := rfl
theorem rw_176_22 : mm_code 175 22 = some (.iinc 2 1, 3, 1, 0, []) := rfl
theorem rw_176_25 : mm_code 175 25 = some (.goto (-23), 3, 2, 0, []) := rfl
theorem rw_176_28 : mm_code 175 28 = some (.iconst (-1), 1, 1, 1, []) := rfl
theorem rw_176_29 : mm_code 175 29 = some (.ireturn, 1, 0, 0, []) := rfl
theorem rw_177_0 : mm_code 176 0 = some (.aload_n 0, 1, 0, 0, []) := rfl
theorem rw_177_1 : mm_code 176 1 = some (.iconst 0, 1, 0, 0, []) := rfl
theorem rw_177_2 : mm_code 176 2 = some (.putfield 163, 3, 11, 2, [0, 51]) := rfl
theorem rw_177_5 : mm_code 176 5 = some (.iload_n 1, 1, 0, 0, []) := rfl
theorem rw_177_6 : mm_code 176 6 = some (.ifCond .ne 11, 3, 17, 0, []) := rfl
theorem rw_177_9 : mm_code 176 9 = some (.aload_n 0, 1, 0, 0, []) := rfl
theorem rw_177_10 : mm_code 176 10 = some (.iload_n 2, 1, 0, 0, []) := rfl
theorem rw_177_11 : mm_code 176 11 = some (.invokevirtual 290, 3, 174, 2, [90, 0]) := rfl
theorem rw_177_14 : mm_code 176 14 = some (.goto 17, 3, 31, 0, []) := rfl
theorem rw_177_17 : mm_code 176 17 = some (.iload_n 1, 1, 0, 0, []) := rfl
theorem rw_177_18 : mm_code 176 18 = some (.iconst 1, 1, 1, 0, []) := rfl
theorem rw_177_19 : mm_code 176 19 = some (.if_icmp .ne 11, 3, 30, 0, []) := rfl
theorem rw_177_22 : mm_code 176 22 = some (.aload_n 0, 1, 0, 0, []) := rfl
theorem rw_177_23 : mm_code 176 23 = some (.iload_n 2, 1, 0, 0, []) := rfl
theorem rw_177_24 : mm_code 176 24 = some (.invokevirtual 293, 3, 175, 2, [91, 0]) := rfl
theorem rw_177_27 : mm_code 176 27 = some (.goto 4, 3, 31, 0, []) := rfl
theorem rw_177_30 : mm_code 176 30 = some (.iconst (-1), 1, 1, 1, []) := rfl
theorem rw_177_31 : mm_code 176 31 = some (.ireturn, 1, 0, 0, []) := rfl
theorem rw_178_0 : mm_code 177 0 = some (.iload_n 1, 1, 0, 0, []) := rfl
theorem rw_178_1 : mm_code 177 1 = some (.ifCond .lt 15, 3, 16, 0, []) := rfl
theorem rw_178_4 : mm_code 177 4 = some (.iload_n 1, 1, 0, 0, []) := rfl
theorem rw_178_5 : mm_code 177 5 = some (.aload_n 0, 1, 0, 0, []) := rfl
theorem rw_178_6 : mm_code 177 6 = some (.getfield 233, 3, 11, 12, [0, 73]) := rfl
theorem rw_178_9 : mm_code 177 9 = some (.if_icmp .ge 7, 3, 16, 0, []) := rfl
theorem rw_178_12 : mm_code 177 12 = some (.iconst 1, 1, 1, 0, []) := rfl
theorem rw_178_13 : mm_code 177 13 = some (.goto 4, 3, 17, 0, []) := rfl
theorem rw_178_16 : mm_code 177 16 = some (.iconst 0, 1, 0, 0, []) := rfl
theorem rw_178_17 : mm_code 177 17 = some (.ireturn, 1, 1, 0, []) := rfl
theorem rw_179_0 : mm_code 178 0 = some (.aload_n 0, 1, 0, 0, []) := rfl
theorem rw_179_1 : mm_code 178 1 = some (.iload_n 1, 1, 0, 0, []) := rfl
theorem rw_179_2 : mm_code 178 2 = some (.invokevirtual 296, 3, 177, 2, [92, 0]) := rfl
theorem rw_179_5 : mm_code 178 5 = some (.ifCond .eq 17, 3, 22, 0, []) := rfl
theorem rw_179_8 : mm_code 178 8 = some (.aload_n 0, 1, 0, 0, []) := rfl
theorem rw_179_9 : mm_code 178 9 = some (.getfield 23, 3, 11, 18, [3, 5]) := rfl
theorem rw_179_12 : mm_code 178 12 = some (.iload_n 1, 1, 0, 0, []) := rfl
theorem rw_179_13 : mm_code 178 13 = some (.iaload, 1, 0, 0, []) := rfl
theorem rw_179_14 : mm_code 178 14 = some (.iconst 3, 1, 3, 0, []) := rfl
theorem rw_179_15 : mm_code 178 15 = some (.if_icmp .eq 7, 3, 22, 0, []) := rfl
theorem rw_179_18 : mm_code 178 18 = some (.iconst 1, 1, 1, 0, []) := rfl
theorem rw_179_19 : mm_code 178 19 = some (.goto 4, 3, 23, 0, []) := rfl
theorem rw_179_22 : mm_code 178 22 = some (.iconst 0, 1, 0, 0, []) := rfl
theorem rw_179_23 : mm_code 178 23 = some (.ireturn, 1, 1, 0, []) := rfl
theorem rw_180_0 : mm_code 179 0 = some (.iload_n 1, 1, 0, 0, []) := rfl
theorem rw_180_1 : mm_code 179 1 = some (.ifCond .lt 15, 3, 16, 0, []) := rfl
theorem rw_180_4 : mm_code 179 4 = some (.iload_n 1, 1, 0, 0, []) := rfl
theorem rw_180_5 : mm_code 179 5 = some (.aload_n 0, 1, 0, 0, []) := rfl
theorem rw_180_6 : mm_code 179 6 = some (.getfield 236, 3, 11, 13, [0, 74]) := rfl
theorem rw_180_9 : mm_code 179 9 = some (.if_icmp .ge 7, 3, 16, 0, []) := rfl
theorem rw_180_12 : mm_code 179 12 = some (.iconst 1, 1, 1, 0, []) := rfl
theorem rw_180_13 : mm_code 179 13 = some (.goto 4, 3, 17, 0, []) := rfl
theorem rw_180_16 : mm_code 179 16 = some (.iconst 0, 1, 0, 0, []) := rfl
theorem rw_180_17 : mm_code 179 17 = some (.ireturn, 1, 1, 0, []) := rfl
theorem rw_181_0 : mm_code 180 0 = some (.aload_n 0, 1, 0, 0, []) := rfl
theorem rw_181_1 : mm_code 180 1 = some (.iload_n 1, 1, 0, 0, []) := rfl
theorem rw_181_2 : mm_code 180 2 = some (.putfield 163, 3, 11, 2, [0, 51]) := rfl
theorem rw_181_5 : mm_code 180 5 = some (.iconst 0, 1, 0, 0, []) := rfl
theorem rw_181_6 : mm_code 180 6 = some (.ireturn, 1, 0, 0, []) := rfl
theorem rw_182_0 : mm_code 181 0 = some (.aload_n 0, 1, 0, 0, []) := rfl
theorem rw_182_1 : mm_code 181 1 = some (.iconst 0, 1, 0, 0, []) := rfl
theorem rw_182_2 : mm_code 181 2 = some (.putfield 163, 3, 11, 2, [0, 51]) := rfl
theorem rw_182_5 : mm_code 181 5 = some (.aload_n 0, 1, 0, 0, []) := rfl
theorem rw_182_6 : mm_code 181 6 = some (.iload_n 1, 1, 0, 0, []) := rfl
theorem rw_182_7 : mm_code 181 7 = some (.invokevirtual 296, 3, 177, 2, [92, 0]) := rfl
theorem rw_182_10 : mm_code 181 10 = some (.ifCond .ne 9, 3, 19, 0, []) := rfl
theorem rw_182_13 : mm_code 181 13 = some (.aload_n 0, 1, 0, 0, []) := rfl
theorem rw_182_14 : mm_code 181 14 = some (.iconst 1, 1, 1, 0, []) := rfl
theorem rw_182_15 : mm_code 181 15 = some (.invokevirtual 299, 3, 180, 2, [93, 0]) := rfl
theorem rw_182_18 : mm_code 181 18 = some (.ireturn, 1, 0, 0, []) := rfl
theorem rw_182_19 : mm_code 181 19 = some (.iload_n 2, 1, 0, 0, []) := rfl
theorem rw_182_20 : mm_code 181 20 = some (.tableswitch 60 0 3 #[32, 39, 46, 53], 32, 80, 0, [52, 59, 66, 73]) := rfl
theorem rw_182_52 : mm_code 181 52 = some (.aload_n 0, 1, 0, 0, []) := rfl
theorem rw_182_53 : mm_code 181 53 = some (.getfield 23, 3, 11, 18, [3, 5]) := rfl
theorem rw_182_56 : mm_code 181 56 = some (.iload_n 1, 1, 0, 0, []) := rfl
theorem rw_182_57 : mm_code 181 57 = some (.iaload, 1, 0, 0, []) := rfl
theorem rw_182_58 : mm_code 181 58 = some (.ireturn, 1, 0, 0, []) := rfl
theorem rw_182_59 : mm_code 181 59 = some (.aload_n 0, 1, 0, 0, []) := rfl
theorem rw_182_60 : mm_code 181 60 = some (.getfield 26, 3, 11, 19, [3, 6]) := rfl
theorem rw_182_63 : mm_code 181 63 = some (.iload_n 1, 1, 0, 0, []) := rfl
theorem rw_182_64 : mm_code 181 64 = some (.iaload, 1, 0, 0, []) := rfl
theorem rw_182_65 : mm_code 181 65 = some (.ireturn, 1, 0, 0, []) := rfl
theorem rw_182_66 : mm_code 181 66 = some (.aload_n 0, 1, 0, 0, []) := rfl
theorem rw_182_67 : mm_code 181 67 = some (.getfield 29, 3, 11, 20, [3, 7]) := rfl
theorem rw_182_70 : mm_code 181 70 = some (.iload_n 1, 1, 0, 0, []) := rfl
theorem rw_182_71 : mm_code 181 71 = some (.iaload, 1, 0, 0, []) := rfl
theorem rw_182_72 : mm_code 181 72 = some (.ireturn, 1, 0, 0, []) := rfl
theorem rw_182_73 : mm_code 181 73 = some (.aload_n 0, 1, 0, 0, []) := rfl
theorem rw_182_74 : mm_code 181 74 = some (.getfield 32, 3, 11, 21, [3, 8]) := rfl
theorem rw_182_77 : mm_code 181 77 = some (.iload_n 1, 1, 0, 0, []) := rfl
theorem rw_182_78 : mm_code 181 78 = some (.iaload, 1, 0, 0, []) := rfl
theorem rw_182_79 : mm_code 181 79 = some (.ireturn, 1, 0, 0, []) := rfl
theorem rw_182_80 : mm_code 181 80 = some (.aload_n 0, 1, 0, 0, []) := rfl
theorem rw_182_81 : mm_code 181 81 = some (.iconst 2, 1, 2, 0, []) := rfl
theorem rw_182_82 : mm_code 181 82 = some (.invokevirtual 299, 3, 180, 2, [93, 0]) := rfl
theorem rw_182_85 : mm_code 181 85 = some (.ireturn, 1, 0, 0, []) := rfl
theorem rw_183_0 : mm_code 182 0 = some (.aload_n 0, 1, 0, 0, []) := rfl
theorem rw_183_1 : mm_code 182 1 = some (.getfield 23, 3, 11, 18, [3, 5]) := rfl
theorem rw_183_4 : mm_code 182 4 = some (.iload_n 1, 1, 0, 0, []) := rfl
theorem rw_183_5 : mm_code 182 5 = some (.iaload, 1, 0, 0, []) := rfl
theorem rw_183_6 : mm_code 182 6 = some (.ifCond .ne 9, 3, 15, 0, []) := rfl
theorem rw_183_9 : mm_code 182 9 = some (.lconst 1, 1, 1, 0, []) := rfl
theorem rw_183_10 : mm_code 182 10 = some (.iload_n 2, 1, 0, 0, []) := rfl
theorem rw_183_11 : mm_code 182 11 = some (.lshl, 1, 0, 0, []) := rfl
theorem rw_183_12 : mm_code 182 12 = some (.goto 30, 3, 42, 0, []) := rfl
theorem rw_183_15 : mm_code 182 15 = some (.aload_n 0, 1, 0, 0, []) := rfl
theorem rw_183_16 : mm_code 182 16 = some (.getfield 23, 3, 11, 18, [3, 5]) := rfl
theorem rw_183_19 : mm_code 182 19 = some (.iload_n 1, 1, 0, 0, []) := rfl
theorem rw_183_20 : mm_code 182 20 = some (.iaload, 1, 0, 0, []) := rfl
theorem rw_183_21 : mm_code 182 21 = some (.iconst 1, 1, 1, 0, []) := rfl
theorem rw_183_22 : mm_code 182 22 = some (.if_icmp .ne 13, 3, 35, 0, []) := rfl
theorem rw_183_25 : mm_code 182 25 = some (.aload_n 0, 1, 0, 0, []) := rfl
theorem rw_183_26 : mm_code 182 26 = some (.getfield 45, 3, 11, 26, [3, 12]) := rfl
theorem rw_183_29 : mm_code 182 29 = some (.iload_n 2, 1, 0, 0, []) := rfl
theorem rw_183_30 : mm_code 182 30 = some (.iaload, 1, 0, 0, []) := rfl
theorem rw_183_31 : mm_code 182 31 = some (.i2l, 1, 0, 0, []) := rfl
theorem rw_183_32 : mm_code 182 32 = some (.goto 10, 3, 42, 0, []) := rfl
theorem rw_183_35 : mm_code 182 35 = some (.aload_n 0, 1, 0, 0, []) := rfl
theorem rw_183_36 : mm_code 182 36 = some (.getfield 48, 3, 11, 27, [3, 13]) := rfl
theorem rw_183_39 : mm_code 182 39 = some (.iload_n 2, 1, 0, 0, []) := rfl
theorem rw_183_40 : mm_code 182 40 = some (.iaload, 1, 0, 0, []) := rfl
theorem rw_183_41 : mm_code 182 41 = some (.i2l, 1, 0, 0, []) := rfl
theorem rw_183_42 : mm_code 182 42 = some (.aload_n 0, 1, 0, 0, []) := rfl
theorem rw_183_43 : mm_code 182 43 = some (.getfield 26, 3, 11, 19, [3, 6]) := rfl
theorem rw_183_46 : mm_code 182 46 = some (.iload_n 1, 1, 0, 0, []) := rfl
theorem rw_183_47 : mm_code 182 47 = some (.iaload, 1, 0, 0, []) := rfl
theorem rw_183_48 : mm_code 182 48 = some (.lshl, 1, 0, 0, []) := rfl
theorem rw_183_49 : mm_code 182 49 = some (.lreturn, 1, 0, 0, []) := rfl
theorem rw_184_0 : mm_code 183 0 = some (.aload_n 0, 1, 0, 0, []) := rfl
theorem rw_184_1 : mm_code 183 1 = some (.iload_n 1, 1, 0, 0, []) := rfl
theorem rw_184_2 : mm_code 183 2 = some (.invokevirtual 302, 3, 178, 2, [94, 0]) := rfl
theorem rw_184_5 : mm_code 183 5 = some (.ifCond .eq 21, 3, 26, 0, []) := rfl
theorem rw_184_8 : mm_code 183 8 = some (.iload_n 2, 1, 0, 0, []) := rfl
theorem rw_184_9 : mm_code 183 9 = some (.ifCond .lt 17, 3, 26, 0, []) := rfl
theorem rw_184_12 : mm_code 183 12 = some (.iload_n 2, 1, 0, 0, []) := rfl
theorem rw_184_13 : mm_code 183 13 = some (.aload_n 0, 1, 0, 0, []) := rfl
theorem rw_184_14 : mm_code 183 14 = some (.getfield 32, 3, 11, 21, [3, 8]) := rfl
theorem rw_184_17 : mm_code 183 17 = some (.iload_n 1, 1, 0, 0, []) := rfl
theorem rw_184_18 : mm_code 183 18 = some (.iaload, 1, 0, 0, []) := rfl
theorem rw_184_19 : mm_code 183 19 = some (.if_icmp .ge 7, 3, 26, 0, []) := rfl
theorem rw_184_22 : mm_code 183 22 = some (.iconst 1, 1, 1, 0, []) := rfl
theorem rw_184_23 : mm_code 183 23 = some (.goto 4, 3, 27, 0, []) := rfl
theorem rw_184_26 : mm_code 183 26 = some (.iconst 0, 1, 0, 0, []) := rfl
theorem rw_184_27 : mm_code 183 27 = some (.ireturn, 1, 1, 0, []) := rfl
theorem rw_185_0 : mm_code 184 0 = some (.aload_n 0, 1, 0, 0, []) := rfl
theorem rw_185_1 : mm_code 184 1 = some (.iconst 0, 1, 0, 0, []) := rfl
theorem rw_185_2 : mm_code 184 2 = some (.putfield 163, 3, 11, 2, [0, 51]) := rfl
theorem rw_185_5 : mm_code 184 5 = some (.aload_n 0, 1, 0, 0, []) := rfl
theorem rw_185_6 : mm_code 184 6 = some (.iload_n 1, 1, 0, 0, []) := rfl
theorem rw_185_7 : mm_code 184 7 = some (.iload_n 2, 1, 0, 0, []) := rfl
theorem rw_185_8 : mm_code 184 8 = some (.invokevirtual 305, 3, 183, 3, [95, 0]) := rfl
theorem rw_185_11 : mm_code 184 11 = some (.ifCond .eq 12, 3, 23, 0, []) := rfl
theorem rw_185_14 : mm_code 184 14 = some (.aload_n 0, 1, 0, 0, []) := rfl
theorem rw_185_15 : mm_code 184 15 = some (.iload_n 1, 1, 0, 0, []) := rfl
theorem rw_185_16 : mm_code 184 16 = some (.iload_n 2, 1, 0, 0, []) := rfl
theorem rw_185_17 : mm_code 184 17 = some (.invokevirtual 308, 3, 182, 3, [96, 0]) := rfl
theorem rw_185_20 : mm_code 184 20 = some (.goto 4, 3, 24, 0, []) := rfl
theorem rw_185_23 : mm_code 184 23 = some (.lconst 0, 1, 0, 0, []) := rfl
theorem rw_185_24 : mm_code 184 24 = some (.lreturn, 1, 0, 0, []) := rfl
theorem rw_186_0 : mm_code 185 0 = some (.iload_n 1, 1, 0, 0, []) := rfl
theorem rw_186_1 : mm_code 185 1 = some (.ifCond .lt 15, 3, 16, 0, []) := rfl
theorem rw_186_4 : mm_code 185 4 = some (.iload_n 1, 1, 0, 0, []) := rfl
theorem rw_186_5 : mm_code 185 5 = some (.aload_n 0, 1, 0, 0, []) := rfl
theorem rw_186_6 : mm_code 185 6 = some (.getfield 242, 3, 11, 29, [0, 76]) := rfl
theorem rw_186_9 : mm_code 185 9 = some (.if_icmp .gt 7, 3, 16, 0, []) := rfl
theorem rw_186_12 : mm_code 185 12 = some (.iconst 1, 1, 1, 0, []) := rfl
theorem rw_186_13 : mm_code 185 13 = some (.goto 4, 3, 17, 0, []) := rfl
theorem rw_186_16 : mm_code 185 16 = some (.iconst 0, 1, 0, 0, []) := rfl
theorem rw_186_17 : mm_code 185 17 = some (.ireturn, 1, 1, 0, []) := rfl
theorem rw_187_0 : mm_code 186 0 = some (.iload_n 1, 1, 0, 0, []) := rfl
theorem rw_187_1 : mm_code 186 1 = some (.ifCond .lt 15, 3, 16, 0, []) := rfl
theorem rw_187_4 : mm_code 186 4 = some (.iload_n 1, 1, 0, 0, []) := rfl
theorem rw_187_5 : mm_code 186 5 = some (.aload_n 0, 1, 0, 0, []) := rfl
theorem rw_187_6 : mm_code 186 6 = some (.getfield 239, 3, 11, 28, [0, 75]) := rfl
theorem rw_187_9 : mm_code 186 9 = some (.if_icmp .ge 7, 3, 16, 0, []) := rfl
theorem rw_187_12 : mm_code 186 12 = some (.iconst 1, 1, 1, 0, []) := rfl
theorem rw_187_13 : mm_code 186 13 = some (.goto 4, 3, 17, 0, []) := rfl
theorem rw_187_16 : mm_code 186 16 = some (.iconst 0, 1, 0, 0, []) := rfl
theorem rw_187_17 : mm_code 186 17 = some (.ireturn, 1, 1, 0, []) := rfl
theorem rw_188_0 : mm_code 187 0 = some (.iload_n 2, 1, 0, 0, []) := rfl
theorem rw_188_1 : mm_code 187 1 = some (.i2l, 1, 0, 0, []) := rfl
theorem rw_188_2 : mm_code 187 2 = some (.aload_n 0, 1, 0, 0, []) := rfl
theorem rw_188_3 : mm_code 187 3 = some (.getfield 26, 3, 11, 19, [3, 6]) := rfl
theorem rw_188_6 : mm_code 187 6 = some (.aload_n 0, 1, 0, 0, []) := rfl
theorem rw_188_7 : mm_code 187 7 = some (.getfield 38, 3, 11, 23, [3, 10]) := rfl
theorem rw_188_10 : mm_code 187 10 = some (.iload_n 1, 1, 0, 0, []) := rfl
theorem rw_188_11 : mm_code 187 11 = some (.iaload, 1, 0, 0, []) := rfl
theorem rw_188_12 : mm_code 187 12 = some (.iaload, 1, 0, 0, []) := rfl
theorem rw_188_13 : mm_code 187 13 = some (.lshl, 1, 0, 0, []) := rfl
theorem rw_188_14 : mm_code 187 14 = some (.lreturn, 1, 0, 0, []) := rfl
theorem rw_189_0 : mm_code 188 0 = some (.iconst 0, 1, 0, 0, []) := rfl
theorem rw_189_1 : mm_code 188 1 = some (.istore_n 2, 1, 0, 0, []) := rfl
theorem rw_189_2 : mm_code 188 2 = some (.iload_n 2, 1, 0, 0, []) := rfl
theorem rw_189_3 : mm_code 188 3 = some (.iload_n 1, 1, 0, 0, []) := rfl
theorem rw_189_4 : mm_code 188 4 = some (.if_icmp .ge 16, 3, 20, 0, []) := rfl
theorem rw_189_7 : mm_code 188 7 = some (.aload_n 0, 1, 0, 0, []) := rfl
theorem rw_189_8 : mm_code 188 8 = some (.getfield 63, 3, 11, 34, [3, 18]) := rfl
theorem rw_189_11 : mm_code 188 11 = some (.iload_n 2, 1, 0, 0, []) := rfl
theorem rw_189_12 : mm_code 188 12 = some (.iconst 1, 1, 1, 0, []) := rfl
theorem rw_189_13 : mm_code 188 13 = some (.bastore, 1, 0, 0, []) := rfl
theorem rw_189_14 : mm_code 188 14 = some (.iinc 2 1, 3, 1, 0, []) := rfl
theorem rw_189_17 : mm_code 188 17 = some (.goto (-15), 3, 2, 0, []) := rfl
theorem rw_189_20 : mm_code 188 20 = some (.iload_n 1, 1, 0, 0, []) := rfl
theorem rw_189_21 : mm_code 188 21 = some (.iconst 1, 1, 1, 0, []) := rfl
theorem rw_189_22 : mm_code 188 22 = some (.isub, 1, 0, 0, []) := rfl
theorem rw_189_23 : mm_code 188 23 = some (.istore_n 2, 1, 0, 0, []) := rfl
theorem rw_189_24 : mm_code 188 24 = some (.iload_n 2, 1, 0, 0, []) := rfl
theorem rw_189_25 : mm_code 188 25 = some (.ifCond .lt 40, 3, 65, 0, []) := rfl
theorem rw_189_28 : mm_code 188 28 = some (.aload_n 0, 1, 0, 0, []) := rfl
theorem rw_189_29 : mm_code 188 29 = some (.getfield 51, 3, 11, 30, [3, 14]) := rfl
theorem rw_189_32 : mm_code 188 32 = some (.iload_n 2, 1, 0, 0, []) := rfl
theorem rw_189_33 : mm_code 188 33 = some (.iaload, 1, 0, 0, []) := rfl
theorem rw_189_34 : mm_code 188 34 = some (.iconst 5, 1, 5, 0, []) := rfl
theorem rw_189_35 : mm_code 188 35 = some (.if_icmp .ne 24, 3, 59, 0, []) := rfl
theorem rw_189_38 : mm_code 188 38 = some (.aload_n 0, 1, 0, 0, []) := rfl
theorem rw_189_39 : mm_code 188 39 = some (.getfield 63, 3, 11, 34, [3, 18]) := rfl
theorem rw_189_42 : mm_code 188 42 = some (.iload_n 2, 1, 0, 0, []) := rfl
theorem rw_189_43 : mm_code 188 43 = some (.baload, 1, 0, 0, []) := rfl
theorem rw_189_44 : mm_code 188 44 = some (.ifCond .eq 15, 3, 59, 0, []) := rfl
theorem rw_189_47 : mm_code 188 47 = some (.aload_n 0, 1, 0, 0, []) := rfl
theorem rw_189_48 : mm_code 188 48 = some (.getfield 63, 3, 11, 34, [3, 18]) := rfl
theorem rw_189_51 : mm_code 188 51 = some (.aload_n 0, 1, 0, 0, []) := rfl
theorem rw_189_52 : mm_code 188 52 = some (.getfield 54, 3, 11, 31, [3, 15]) := rfl
theorem rw_189_55 : mm_code 188 55 = some (.iload_n 2, 1, 0, 0, []) := rfl
theorem rw_189_56 : mm_code 188 56 = some (.iaload, 1, 0, 0, []) := rfl
theorem rw_189_57 : mm_code 188 57 = some (.iconst 0, 1, 0, 0, []) := rfl
theorem rw_189_58 : mm_code 188 58 = some (.bastore, 1, 0, 0, []) := rfl
theorem rw_189_59 : mm_code 188 59 = some (.iinc 2 (-1), 3, 1, 1, []) := rfl
theorem rw_189_62 : mm_code 188 62 = some (.goto (-38), 3, 24, 0, []) := rfl
theorem rw_189_65 : mm_code 188 65 = some (.iconst 0, 1, 0, 0, []) := rfl
theorem rw_189_66 : mm_code 188 66 = some (.istore_n 2, 1, 0, 0, []) := rfl
theorem rw_189_67 : mm_code 188 67 = some (.iload_n 2, 1, 0, 0, []) := rfl
theorem rw_189_68 : mm_code 188 68 = some (.aload_n 0, 1, 0, 0, []) := rfl
theorem rw_189_69 : mm_code 188 69 = some (.getfield 236, 3, 11, 13, [0, 74]) := rfl
theorem rw_189_72 : mm_code 188 72 = some (.if_icmp .ge 21, 3, 93, 0, []) := rfl
theorem rw_189_75 : mm_code 188 75 = some (.aload_n 0, 1, 0, 0, []) := rfl
theorem rw_189_76 : mm_code 188 76 = some (.getfield 67, 3, 11, 35, [3, 19]) := rfl
theorem rw_189_79 : mm_code 188 79 = some (.iload_n 2, 1, 0, 0, []) := rfl
theorem rw_189_80 : mm_code 188 80 = some (.aload_n 0, 1, 0, 0, []) := rfl
theorem rw_189_81 : mm_code 188 81 = some (.getfield 41, 3, 11, 24, [3, 11]) := rfl
theorem rw_189_84 : mm_code 188 84 = some (.iload_n 2, 1, 0, 0, []) := rfl
theorem rw_189_85 : mm_code 188 85 = some (.laload, 1, 0, 0, []) := rfl
theorem rw_189_86 : mm_code 188 86 = some (.lastore, 1, 0, 0, []) := rfl
theorem rw_189_87 : mm_code 188 87 = some (.iinc 2 1, 3, 1, 0, []) := rfl
theorem rw_189_90 : mm_code 188 90 = some (.goto (-23), 3, 67, 0, []) := rfl
theorem rw_189_93 : mm_code 188 93 = some (.iconst 0, 1, 0, 0, []) := rfl
theorem rw_189_94 : mm_code 188 94 = some (.istore_n 2, 1, 0, 0, []) := rfl
theorem rw_189_95 : mm_code 188 95 = some (.iload_n 2, 1, 0, 0, []) := rfl
theorem rw_189_96 : mm_code 188 96 = some (.aload_n 0, 1, 0, 0, []) := rfl
theorem rw_189_97 : mm_code 188 97 = some (.getfield 239, 3, 11, 28, [0, 75]) := rfl
theorem rw_189_100 : mm_code 188 100 = some (.if_icmp .ge 49, 3, 149, 0, []) := rfl
theorem rw_189_103 : mm_code 188 103 = some (.aload_n 0, 1, 0, 0, []) := rfl
theorem rw_189_104 : mm_code 188 104 = some (.getfield 70, 3, 11, 36, [3, 20]) := rfl
theorem rw_189_107 : mm_code 188 107 = some (.iload_n 2, 1, 0, 0, []) := rfl
theorem rw_189_108 : mm_code 188 108 = some (.lconst 0, 1, 0, 0, []) := rfl
theorem rw_189_109 : mm_code 188 109 = some (.lastore, 1, 0, 0, []) := rfl
theorem rw_189_110 : mm_code 188 110 = some (.aload_n 0, 1, 0, 0, []) := rfl
theorem rw_189_111 : mm_code 188 111 = some (.getfield 76, 3, 11, 38, [3, 22]) := rfl
theorem rw_189_114 : mm_code 188 114 = some (.iload_n 2, 1, 0, 0, []) := rfl
theorem rw_189_115 : mm_code 188 115 = some (.iconst 0, 1, 0, 0, []) := rfl
theorem rw_189_116 : mm_code 188 116 = some (.iastore, 1, 0, 0, []) := rfl
theorem rw_189_117 : mm_code 188 117 = some (.iconst 0, 1, 0, 0, []) := rfl
theorem rw_189_118 : mm_code 188 118 = some (.istore_n 3, 1, 0, 0, []) := rfl
theorem rw_189_119 : mm_code 188 119 = some (.iload_n 3, 1, 0, 0, []) := rfl
theorem rw_189_120 : mm_code 188 120 = some (.bipush 8, 2, 8, 0, []) := rfl
theorem rw_189_122 : mm_code 188 122 = some (.if_icmp .ge 21, 3, 143, 0, []) := rfl
theorem rw_189_125 : mm_code 188 125 = some (.aload_n 0, 1, 0, 0, []) := rfl
theorem rw_189_126 : mm_code 188 126 = some (.getfield 73, 3, 11, 37, [3, 21]) := rfl
theorem rw_189_129 : mm_code 188 129 = some (.bipush 8, 2, 8, 0, []) := rfl
theorem rw_189_131 : mm_code 188 131 = some (.iload_n 2, 1, 0, 0, []) := rfl
theorem rw_189_132 : mm_code 188 132 = some (.imul, 1, 0, 0, []) := rfl
theorem rw_189_133 : mm_code 188 133 = some (.iload_n 3, 1, 0, 0, []) := rfl
theorem rw_189_134 : mm_code 188 134 = some (.iadd, 1, 0, 0, []) := rfl
theorem rw_189_135 : mm_code 188 135 = some (.iconst (-1), 1, 1, 1, []) := rfl
theorem rw_189_136 : mm_code 188 136 = some (.iastore, 1, 0, 0, []) := rfl
theorem rw_189_137 : mm_code 188 137 = some (.iinc 3 1, 3, 1, 0, []) := rfl
theorem rw_189_140 : mm_code 188 140 = some (.goto (-21), 3, 119, 0, []) := rfl
theorem rw_189_143 : mm_code 188 143 = some (.iinc 2 1, 3, 1, 0, []) := rfl
theorem rw_189_146 : mm_code 188 146 = some (.goto (-51), 3, 95, 0, []) := rfl
theorem rw_189_149 : mm_code 188 149 = some (.iconst 0, 1, 0, 0, []) := rfl
theorem rw_189_150 : mm_code 188 150 = some (.istore_n 2, 1, 0, 0, []) := rfl
theorem rw_189_151 : mm_code 188 151 = some (.iload_n 2, 1, 0, 0, []) := rfl
theorem rw_189_152 : mm_code 188 152 = some (.iload_n 1, 1, 0, 0, []) := rfl
theorem rw_189_153 : mm_code 188 153 = some (.if_icmp .ge 23, 3, 176, 0, []) := rfl
theorem rw_189_156 : mm_code 188 156 = some (.aload_n 0, 1, 0, 0, []) := rfl
theorem rw_189_157 : mm_code 188 157 = some (.getfield 63, 3, 11, 34, [3, 18]) := rfl
theorem rw_189_160 : mm_code 188 160 = some (.iload_n 2, 1, 0, 0, []) := rfl
theorem rw_189_161 : mm_code 188 161 = some (.baload, 1, 0, 0, []) := rfl
theorem rw_189_162 : mm_code 188 162 = some (.ifCond .eq 8, 3, 170, 0, []) := rfl
theorem rw_189_165 : mm_code 188 165 = some (.aload_n 0, 1, 0, 0, []) := rfl
theorem rw_189_166 : mm_code 188 166 = some (.iload_n 2, 1, 0, 0, []) := rfl
theorem rw_189_167 : mm_code 188 167 = some (.invokevirtual 311, 3, 189, 2, [97, 0]) := rfl
theorem rw_189_170 : mm_code 188 170 = some (.iinc 2 1, 3, 1, 0, []) := rfl
theorem rw_189_173 : mm_code 188 173 = some (.goto (-22), 3, 151, 0, []) := rfl
theorem rw_189_176 : mm_code 188 176 = some (.return_, 1, 0, 0, []) := rfl
theorem rw_190_0 : mm_code 189 0 = some (.aload_n 0, 1, 0, 0, []) := rfl
theorem rw_190_1 : mm_code 189 1 = some (.getfield 54, 3, 11, 31, [3, 15]) := rfl
theorem rw_190_4 : mm_code 189 4 = some (.iload_n 1, 1, 0, 0, []) := rfl
theorem rw_190_5 : mm_code 189 5 = some (.iaload, 1, 0, 0, []) := rfl
theorem rw_190_6 : mm_code 189 6 = some (.istore_n 2, 1, 0, 0, []) := rfl
theorem rw_190_7 : mm_code 189 7 = some (.aload_n 0, 1, 0, 0, []) := rfl
theorem rw_190_8 : mm_code 189 8 = some (.getfield 51, 3, 11, 30, [3, 14]) := rfl
theorem rw_190_11 : mm_code 189 11 = some (.iload_n 1, 1, 0, 0, []) := rfl
theorem rw_190_12 : mm_code 189 12 = some (.iaload, 1, 0, 0, []) := rfl
theorem rw_190_13 : mm_code 189 13 = some (.tableswitch 189 0 4 #[35, 85, 125, 145, 169], 35, 202, 0, [48, 98, 138, 158, 182]) := rfl
theorem rw_190_48 : mm_code 189 48 = some (.aload_n 0, 1, 0, 0, []) := rfl
theorem rw_190_49 : mm_code 189 49 = some (.getfield 70, 3, 11, 36, [3, 20]) := rfl
theorem rw_190_52 : mm_code 189 52 = some (.iload_n 2, 1, 0, 0, []) := rfl
theorem rw_190_53 : mm_code 189 53 = some (.dup2, 1, 0, 0, []) := rfl
theorem rw_190_54 : mm_code 189 54 = some (.laload, 1, 0, 0, []) := rfl
theorem rw_190_55 : mm_code 189 55 = some (.aload_n 0, 1, 0, 0, []) := rfl
theorem rw_190_56 : mm_code 189 56 = some (.aload_n 0, 1, 0, 0, []) := rfl
theorem rw_190_57 : mm_code 189 57 = some (.getfield 57, 3, 11, 32, [3, 16]) := rfl
theorem rw_190_60 : mm_code 189 60 = some (.iload_n 1, 1, 0, 0, []) := rfl
theorem rw_190_61 : mm_code 189 61 = some (.iaload, 1, 0, 0, []) := rfl
theorem rw_190_62 : mm_code 189 62 = some (.aload_n 0, 1, 0, 0, []) := rfl
theorem rw_190_63 : mm_code 189 63 = some (.getfield 60, 3, 11, 33, [3, 17]) := rfl
theorem rw_190_66 : mm_code 189 66 = some (.iload_n 1, 1, 0, 0, []) := rfl
theorem rw_190_67 : mm_code 189 67 = some (.iaload, 1, 0, 0, []) := rfl
theorem rw_190_68 : mm_code 189 68 = some (.invokevirtual 308, 3, 182, 3, [96, 0]) := rfl
theorem rw_190_71 : mm_code 189 71 = some (.lor, 1, 0, 0, []) := rfl
theorem rw_190_72 : mm_code 189 72 = some (.lastore, 1, 0, 0, []) := rfl
theorem rw_190_73 : mm_code 189 73 = some (.aload_n 0, 1, 0, 0, []) := rfl
theorem rw_190_74 : mm_code 189 74 = some (.getfield 73, 3, 11, 37, [3, 21]) := rfl
theorem rw_190_77 : mm_code 189 77 = some (.bipush 8, 2, 8, 0, []) := rfl
theorem rw_190_79 : mm_code 189 79 = some (.iload_n 2, 1, 0, 0, []) := rfl
theorem rw_190_80 : mm_code 189 80 = some (.imul, 1, 0, 0, []) := rfl
theorem rw_190_81 : mm_code 189 81 = some (.aload_n 0, 1, 0, 0, []) := rfl
theorem rw_190_82 : mm_code 189 82 = some (.getfield 57, 3, 11, 32, [3, 16]) := rfl
theorem rw_190_85 : mm_code 189 85 = some (.iload_n 1, 1, 0, 0, []) := rfl
theorem rw_190_86 : mm_code 189 86 = some (.iaload, 1, 0, 0, []) := rfl
theorem rw_190_87 : mm_code 189 87 = some (.iadd, 1, 0, 0, []) := rfl
theorem rw_190_88 : mm_code 189 88 = some (.aload_n 0, 1, 0, 0, []) := rfl
theorem rw_190_89 : mm_code 189 89 = some (.getfield 60, 3, 11, 33, [3, 17]) := rfl
theorem rw_190_92 : mm_code 189 92 = some (.iload_n 1, 1, 0, 0, []) := rfl
theorem rw_190_93 : mm_code 189 93 = some (.iaload, 1, 0, 0, []) := rfl
theorem rw_190_94 : mm_code 189 94 = some (.iastore, 1, 0, 0, []) := rfl
theorem rw_190_95 : mm_code 189 95 = some (.goto 107, 3, 202, 0, []) := rfl
theorem rw_190_98 : mm_code 189 98 = some (.aload_n 0, 1, 0, 0, []) := rfl
theorem rw_190_99 : mm_code 189 99 = some (.getfield 70, 3, 11, 36, [3, 20]) := rfl
theorem rw_190_102 : mm_code 189 102 = some (.iload_n 2, 1, 0, 0, []) := rfl
theorem rw_190_103 : mm_code 189 103 = some (.dup2, 1, 0, 0, []) := rfl
theorem rw_190_104 : mm_code 189 104 = some (.laload, 1, 0, 0, []) := rfl
theorem rw_190_105 : mm_code 189 105 = some (.aload_n 0, 1, 0, 0, []) := rfl
theorem rw_190_106 : mm_code 189 106 = some (.getfield 67, 3, 11, 35, [3, 19]) := rfl
theorem rw_190_109 : mm_code 189 109 = some (.aload_n 0, 1, 0, 0, []) := rfl
theorem rw_190_110 : mm_code 189 110 = some (.getfield 57, 3, 11, 32, [3, 16]) := rfl
theorem rw_190_113 : mm_code 189 113 = some (.iload_n 1, 1, 0, 0, []) := rfl
theorem rw_190_114 : mm_code 189 114 = some (.iaload, 1, 0, 0, []) := rfl
theorem rw_190_115 : mm_code 189 115 = some (.laload, 1, 0, 0, []) := rfl
theorem rw_190_116 : mm_code 189 116 = some (.lor, 1, 0, 0, []) := rfl
theorem rw_190_117 : mm_code 189 117 = some (.lastore, 1, 0, 0, []) := rfl
theorem rw_190_118 : mm_code 189 118 = some (.aload_n 0, 1, 0, 0, []) := rfl
theorem rw_190_119 : mm_code 189 119 = some (.getfield 76, 3, 11, 38, [3, 22]) := rfl
theorem rw_190_122 : mm_code 189 122 = some (.iload_n 2, 1, 0, 0, []) := rfl
theorem rw_190_123 : mm_code 189 123 = some (.dup2, 1, 0, 0, []) := rfl
theorem rw_190_124 : mm_code 189 124 = some (.iaload, 1, 0, 0, []) := rfl
theorem rw_190_125 : mm_code 189 125 = some (.iconst 1, 1, 1, 0, []) := rfl
theorem rw_190_126 : mm_code 189 126 = some (.aload_n 0, 1, 0, 0, []) := rfl
theorem rw_190_127 : mm_code 189 127 = some (.getfield 57, 3, 11, 32, [3, 16]) := rfl
theorem rw_190_130 : mm_code 189 130 = some (.iload_n 1, 1, 0, 0, []) := rfl
theorem rw_190_131 : mm_code 189 131 = some (.iaload, 1, 0, 0, []) := rfl
theorem rw_190_132 : mm_code 189 132 = some (.ishl, 1, 0, 0, []) := rfl
theorem rw_190_133 : mm_code 189 133 = some (.ior, 1, 0, 0, []) := rfl
theorem rw_190_134 : mm_code 189 134 = some (.iastore, 1, 0, 0, []) := rfl
theorem rw_190_135 : mm_code 189 135 = some (.goto 67, 3, 202, 0, []) := rfl
theorem rw_190_138 : mm_code 189 138 = some (.aload_n 0, 1, 0, 0, []) := rfl
theorem rw_190_139 : mm_code 189 139 = some (.getfield 70, 3, 11, 36, [3, 20]) := rfl
theorem rw_190_142 : mm_code 189 142 = some (.iload_n 2, 1, 0, 0, []) := rfl
theorem rw_190_143 : mm_code 189 143 = some (.dup2, 1, 0, 0, []) := rfl
theorem rw_190_144 : mm_code 189 144 = some (.laload, 1, 0, 0, []) := rfl
theorem rw_190_145 : mm_code 189 145 = some (.lconst 1, 1, 1, 0, []) := rfl
theorem rw_190_146 : mm_code 189 146 = some (.aload_n 0, 1, 0, 0, []) := rfl
theorem rw_190_147 : mm_code 189 147 = some (.getfield 57, 3, 11, 32, [3, 16]) := rfl
theorem rw_190_150 : mm_code 189 150 = some (.iload_n 1, 1, 0, 0, []) := rfl
theorem rw_190_151 : mm_code 189 151 = some (.iaload, 1, 0, 0, []) := rfl
theorem rw_190_152 : mm_code 189 152 = some (.lshl, 1, 0, 0, []) := rfl
theorem rw_190_153 : mm_code 189 153 = some (.lor, 1, 0, 0, []) := rfl
theorem rw_190_154 : mm_code 189 154 = some (.lastore, 1, 0, 0, []) := rfl
theorem rw_190_155 : mm_code 189 155 = some (.goto 47, 3, 202, 0, []) := rfl
theorem rw_190_158 : mm_code 189 158 = some (.aload_n 0, 1, 0, 0, []) := rfl
theorem rw_190_159 : mm_code 189 159 = some (.getfield 70, 3, 11, 36, [3, 20]) := rfl
theorem rw_190_162 : mm_code 189 162 = some (.iload_n 2, 1, 0, 0, []) := rfl
theorem rw_190_163 : mm_code 189 163 = some (.dup2, 1, 0, 0, []) := rfl
theorem rw_190_164 : mm_code 189 164 = some (.laload, 1, 0, 0, []) := rfl
theorem rw_190_165 : mm_code 189 165 = some (.lconst 1, 1, 1, 0, []) := rfl
theorem rw_190_166 : mm_code 189 166 = some (.aload_n 0, 1, 0, 0, []) := rfl
theorem rw_190_167 : mm_code 189 167 = some (.getfield 57, 3, 11, 32, [3, 16]) := rfl
theorem rw_190_170 : mm_code 189 170 = some (.iload_n 1, 1, 0, 0, []) := rfl
theorem rw_190_171 : mm_code 189 171 = some (.iaload, 1, 0, 0, []) := rfl
theorem rw_190_172 : mm_code 189 172 = some (.lshl, 1, 0, 0, []) := rfl
theorem rw_190_173 : mm_code 189 173 = some (.ldc2_w 315, 3, 1, 1, [98]) := rfl
theorem rw_190_176 : mm_code 189 176 = some (.lxor, 1, 0, 0, []) := rfl
theorem rw_190_177 : mm_code 189 177 = some (.land, 1, 0, 0, []) := rfl
theorem rw_190_178 : mm_code 189 178 = some (.lastore, 1, 0, 0, []) := rfl
theorem rw_190_179 : mm_code 189 179 = some (.goto 23, 3, 202, 0, []) := rfl
theorem rw_190_182 : mm_code 189 182 = some (.aload_n 0, 1, 0, 0, []) := rfl
theorem rw_190_183 : mm_code 189 183 = some (.getfield 67, 3, 11, 35, [3, 19]) := rfl
theorem rw_190_186 : mm_code 189 186 = some (.iload_n 2, 1, 0, 0, []) := rfl
theorem rw_190_187 : mm_code 189 187 = some (.aload_n 0, 1, 0, 0, []) := rfl
theorem rw_190_188 : mm_code 189 188 = some (.iload_n 2, 1, 0, 0, []) := rfl
theorem rw_190_189 : mm_code 189 189 = some (.aload_n 0, 1, 0, 0, []) := rfl
theorem rw_190_190 : mm_code 189 190 = some (.getfield 57, 3, 11, 32, [3, 16]) := rfl
theorem rw_190_193 : mm_code 189 193 = some (.iload_n 1, 1, 0, 0, []) := rfl
theorem rw_190_194 : mm_code 189 194 = some (.iaload, 1, 0, 0, []) := rfl
theorem rw_190_195 : mm_code 189 195 = some (.invokevirtual 317, 3, 187, 3, [99, 0]) := rfl
theorem rw_190_198 : mm_code 189 198 = some (.lastore, 1, 0, 0, []) := rfl
theorem rw_190_199 : mm_code 189 199 = some (.goto 3, 3, 202, 0, []) := rfl
theorem rw_190_202 : mm_code 189 202 = some (.return_, 1, 0, 0, []) := rfl
theorem rw_191_0 : mm_code 190 0 = some (.aload_n 0, 1, 0, 0, []) := rfl
theorem rw_191_1 : mm_code 190 1 = some (.getfield 51, 3, 11, 30, [3, 14]) := rfl
theorem rw_191_4 : mm_code 190 4 = some (.aload_n 0, 1, 0, 0, []) := rfl
theorem rw_191_5 : mm_code 190 5 = some (.getfield 242, 3, 11, 29, [0, 76]) := rfl
theorem rw_191_8 : mm_code 190 8 = some (.iload_n 1, 1, 0, 0, []) := rfl
theorem rw_191_9 : mm_code 190 9 = some (.iastore, 1, 0, 0, []) := rfl
theorem rw_191_10 : mm_code 190 10 = some (.aload_n 0, 1, 0, 0, []) := rfl
theorem rw_191_11 : mm_code 190 11 = some (.getfield 54, 3, 11, 31, [3, 15]) := rfl
theorem rw_191_14 : mm_code 190 14 = some (.aload_n 0, 1, 0, 0, []) := rfl
theorem rw_191_15 : mm_code 190 15 = some (.getfield 242, 3, 11, 29, [0, 76]) := rfl
theorem rw_191_18 : mm_code 190 18 = some (.iload_n 2, 1, 0, 0, []) := rfl
theorem rw_191_19 : mm_code 190 19 = some (.iastore, 1, 0, 0, []) := rfl
theorem rw_191_20 : mm_code 190 20 = some (.aload_n 0, 1, 0, 0, []) := rfl
theorem rw_191_21 : mm_code 190 21 = some (.getfield 57, 3, 11, 32, [3, 16]) := rfl
theorem rw_191_24 : mm_code 190 24 = some (.aload_n 0, 1, 0, 0, []) := rfl
theorem rw_191_25 : mm_code 190 25 = some (.getfield 242, 3, 11, 29, [0, 76]) := rfl
theorem rw_191_28 : mm_code 190 28 = some (.iload_n 3, 1, 0, 0, []) := rfl
theorem rw_191_29 : mm_code 190 29 = some (.iastore, 1, 0, 0, []) := rfl
theorem rw_191_30 : mm_code 190 30 = some (.aload_n 0, 1, 0, 0, []) := rfl
theorem rw_191_31 : mm_code 190 31 = some (.getfield 60, 3, 11, 33, [3, 17]) := rfl
theorem rw_191_34 : mm_code 190 34 = some (.aload_n 0, 1, 0, 0, []) := rfl
theorem rw_191_35 : mm_code 190 35 = some (.getfield 242, 3, 11, 29, [0, 76]) := rfl
theorem rw_191_38 : mm_code 190 38 = some (.iload 4, 2, 0, 0, []) := rfl
theorem rw_191_40 : mm_code 190 40 = some (.iastore, 1, 0, 0, []) := rfl
theorem rw_191_41 : mm_code 190 41 = some (.aload_n 0, 1, 0, 0, []) := rfl
theorem rw_191_42 : mm_code 190 42 = some (.dup, 1, 0, 0, []) := rfl
theorem rw_191_43 : mm_code 190 43 = some (.getfield 242, 3, 11, 29, [0, 76]) := rfl
theorem rw_191_46 : mm_code 190 46 = some (.iconst 1, 1, 1, 0, []) := rfl
theorem rw_191_47 : mm_code 190 47 = some (.iadd, 1, 0, 0, []) := rfl
theorem rw_191_48 : mm_code 190 48 = some (.putfield 242, 3, 11, 29, [0, 76]) := rfl
theorem rw_191_51 : mm_code 190 51 = some (.aload_n 0, 1, 0, 0, []) := rfl
theorem rw_191_52 : mm_code 190 52 = some (.getfield 242, 3, 11, 29, [0, 76]) := rfl
theorem rw_191_55 : mm_code 190 55 = some (.iconst 1, 1, 1, 0, []) := rfl
theorem rw_191_56 : mm_code 190 56 = some (.isub, 1, 0, 0, []) := rfl
theorem rw_191_57 : mm_code 190 57 = some (.ireturn, 1, 0, 0, []) := rfl
theorem rw_192_0 : mm_code 191 0 = some (.aload_n 0, 1, 0, 0, []) := rfl
theorem rw_192_1 : mm_code 191 1 = some (.iconst 0, 1, 0, 0, []) := rfl
theorem rw_192_2 : mm_code 191 2 = some (.putfield 163, 3, 11, 2, [0, 51]) := rfl
theorem rw_192_5 : mm_code 191 5 = some (.aload_n 0, 1, 0, 0, []) := rfl
theorem rw_192_6 : mm_code 191 6 = some (.iload_n 1, 1, 0, 0, []) := rfl
theorem rw_192_7 : mm_code 191 7 = some (.invokevirtual 320, 3, 185, 2, [100, 0]) := rfl
theorem rw_192_10 : mm_code 191 10 = some (.ifCond .eq 11, 3, 21, 0, []) := rfl
theorem rw_192_13 : mm_code 191 13 = some (.aload_n 0, 1, 0, 0, []) := rfl
theorem rw_192_14 : mm_code 191 14 = some (.iload_n 2, 1, 0, 0, []) := rfl
theorem rw_192_15 : mm_code 191 15 = some (.invokevirtual 323, 3, 179, 2, [101, 0]) := rfl
theorem rw_192_18 : mm_code 191 18 = some (.ifCond .ne 5, 3, 23, 0, []) := rfl
theorem rw_192_21 : mm_code 191 21 = some (.lconst 0, 1, 0, 0, []) := rfl
theorem rw_192_22 : mm_code 191 22 = some (.lreturn, 1, 0, 0, []) := rfl
theorem rw_192_23 : mm_code 191 23 = some (.aload_n 0, 1, 0, 0, []) := rfl
theorem rw_192_24 : mm_code 191 24 = some (.iload_n 1, 1, 0, 0, []) := rfl
theorem rw_192_25 : mm_code 191 25 = some (.invokevirtual 326, 3, 188, 2, [102, 0]) := rfl
theorem rw_192_28 : mm_code 191 28 = some (.aload_n 0, 1, 0, 0, []) := rfl
theorem rw_192_29 : mm_code 191 29 = some (.getfield 67, 3, 11, 35, [3, 19]) := rfl
theorem rw_192_32 : mm_code 191 32 = some (.iload_n 2, 1, 0, 0, []) := rfl
theorem rw_192_33 : mm_code 191 33 = some (.laload, 1, 0, 0, []) := rfl
theorem rw_192_34 : mm_code 191 34 = some (.lreturn, 1, 0, 0, []) := rfl
theorem rw_193_0 : mm_code 192 0 = some (.aload_n 0, 1, 0, 0, []) := rfl
theorem rw_193_1 : mm_code 192 1 = some (.iconst 0, 1, 0, 0, []) := rfl
theorem rw_193_2 : mm_code 192 2 = some (.putfield 163, 3, 11, 2, [0, 51]) := rfl
theorem rw_193_5 : mm_code 192 5 = some (.aload_n 0, 1, 0, 0, []) := rfl
theorem rw_193_6 : mm_code 192 6 = some (.getfield 239, 3, 11, 28, [0, 75]) := rfl
theorem rw_193_9 : mm_code 192 9 = some (.bipush 30, 2, 30, 0, []) := rfl
theorem rw_193_11 : mm_code 192 11 = some (.if_icmp .ne 5, 3, 16, 0, []) := rfl
theorem rw_193_14 : mm_code 192 14 = some (.iconst (-1), 1, 1, 1, []) := rfl
theorem rw_193_15 : mm_code 192 15 = some (.ireturn, 1, 0, 0, []) := rfl
theorem rw_193_16 : mm_code 192 16 = some (.aload_n 0, 1, 0, 0, []) := rfl
theorem rw_193_17 : mm_code 192 17 = some (.getfield 79, 3, 11, 39, [3, 23]) := rfl
theorem rw_193_20 : mm_code 192 20 = some (.aload_n 0, 1, 0, 0, []) := rfl
theorem rw_193_21 : mm_code 192 21 = some (.getfield 82, 3, 11, 40, [3, 24]) := rfl
theorem rw_193_24 : mm_code 192 24 = some (.iconst 0, 1, 0, 0, []) := rfl
theorem rw_193_25 : mm_code 192 25 = some (.iaload, 1, 0, 0, []) := rfl
theorem rw_193_26 : mm_code 192 26 = some (.aload_n 0, 1, 0, 0, []) := rfl
theorem rw_193_27 : mm_code 192 27 = some (.getfield 239, 3, 11, 28, [0, 75]) := rfl
theorem rw_193_30 : mm_code 192 30 = some (.iastore, 1, 0, 0, []) := rfl
theorem rw_193_31 : mm_code 192 31 = some (.aload_n 0, 1, 0, 0, []) := rfl
theorem rw_193_32 : mm_code 192 32 = some (.getfield 82, 3, 11, 40, [3, 24]) := rfl
theorem rw_193_35 : mm_code 192 35 = some (.iconst 0, 1, 0, 0, []) := rfl
theorem rw_193_36 : mm_code 192 36 = some (.dup2, 1, 0, 0, []) := rfl
theorem rw_193_37 : mm_code 192 37 = some (.iaload, 1, 0, 0, []) := rfl
theorem rw_193_38 : mm_code 192 38 = some (.iconst 1, 1, 1, 0, []) := rfl
theorem rw_193_39 : mm_code 192 39 = some (.iadd, 1, 0, 0, []) := rfl
theorem rw_193_40 : mm_code 192 40 = some (.iastore, 1, 0, 0, []) := rfl
theorem rw_193_41 : mm_code 192 41 = some (.aload_n 0, 1, 0, 0, []) := rfl
theorem rw_193_42 : mm_code 192 42 = some (.dup, 1, 0, 0, []) := rfl
theorem rw_193_43 : mm_code 192 43 = some (.getfield 239, 3, 11, 28, [0, 75]) := rfl
theorem rw_193_46 : mm_code 192 46 = some (.iconst 1, 1, 1, 0, []) := rfl
theorem rw_193_47 : mm_code 192 47 = some (.iadd, 1, 0, 0, []) := rfl
theorem rw_193_48 : mm_code 192 48 = some (.putfield 239, 3, 11, 28, [0, 75]) := rfl
theorem rw_193_51 : mm_code 192 51 = some (.aload_n 0, 1, 0, 0, []) := rfl
theorem rw_193_52 : mm_code 192 52 = some (.getfield 239, 3, 11, 28, [0, 75]) := rfl
theorem rw_193_55 : mm_code 192 55 = some (.iconst 1, 1, 1, 0, []) := rfl
theorem rw_193_56 : mm_code 192 56 = some (.isub, 1, 0, 0, []) := rfl
theorem rw_193_57 : mm_code 192 57 = some (.ireturn, 1, 0, 0, []) := rfl
theorem rw_194_0 : mm_code 193 0 = some (.aload_n 0, 1, 0, 0, []) := rfl
theorem rw_194_1 : mm_code 193 1 = some (.iconst 0, 1, 0, 0, []) := rfl
theorem rw_194_2 : mm_code 193 2 = some (.putfield 163, 3, 11, 2, [0, 51]) := rfl
theorem rw_194_5 : mm_code 193 5 = some (.aload_n 0, 1, 0, 0, []) := rfl
theorem rw_194_6 : mm_code 193 6 = some (.getfield 242, 3, 11, 29, [0, 76]) := rfl
theorem rw_194_9 : mm_code 193 9 = some (.sipush 150, 3, 150, 0, []) := rfl
theorem rw_194_12 : mm_code 193 12 = some (.if_icmp .eq 20, 3, 32, 0, []) := rfl
theorem rw_194_15 : mm_code 193 15 = some (.aload_n 0, 1, 0, 0, []) := rfl
theorem rw_194_16 : mm_code 193 16 = some (.iload_n 1, 1, 0, 0, []) := rfl
theorem rw_194_17 : mm_code 193 17 = some (.invokevirtual 329, 3, 186, 2, [103, 0]) := rfl
theorem rw_194_20 : mm_code 193 20 = some (.ifCond .eq 12, 3, 32, 0, []) := rfl
theorem rw_194_23 : mm_code 193 23 = some (.aload_n 0, 1, 0, 0, []) := rfl
theorem rw_194_24 : mm_code 193 24 = some (.iload_n 2, 1, 0, 0, []) := rfl
theorem rw_194_25 : mm_code 193 25 = some (.iload_n 3, 1, 0, 0, []) := rfl
theorem rw_194_26 : mm_code 193 26 = some (.invokevirtual 305, 3, 183, 3, [95, 0]) := rfl
theorem rw_194_29 : mm_code 193 29 = some (.ifCond .ne 7, 3, 36, 0, []) := rfl
theorem rw_194_32 : mm_code 193 32 = some (.iconst (-1), 1, 1, 1, []) := rfl
theorem rw_194_33 : mm_code 193 33 = some (.goto 11, 3, 44, 0, []) := rfl
theorem rw_194_36 : mm_code 193 36 = some (.aload_n 0, 1, 0, 0, []) := rfl
theorem rw_194_37 : mm_code 193 37 = some (.iconst 0, 1, 0, 0, []) := rfl
theorem rw_194_38 : mm_code 193 38 = some (.iload_n 1, 1, 0, 0, []) := rfl
theorem rw_194_39 : mm_code 193 39 = some (.iload_n 2, 1, 0, 0, []) := rfl
theorem rw_194_40 : mm_code 193 40 = some (.iload_n 3, 1, 0, 0, []) := rfl
theorem rw_194_41 : mm_code 193 41 = some (.invokevirtual 332, 3, 190, 5, [104, 0]) := rfl
theorem rw_194_44 : mm_code 193 44 = some (.ireturn, 1, 0, 0, []) := rfl
theorem rw_195_0 : mm_code 194 0 = some (.aload_n 0, 1, 0, 0, []) := rfl
theorem rw_195_1 : mm_code 194 1 = some (.iconst 0, 1, 0, 0, []) := rfl
theorem rw_195_2 : mm_code 194 2 = some (.putfield 163, 3, 11, 2, [0, 51]) := rfl
theorem rw_195_5 : mm_code 194 5 = some (.aload_n 0, 1, 0, 0, []) := rfl
theorem rw_195_6 : mm_code 194 6 = some (.getfield 242, 3, 11, 29, [0, 76]) := rfl
theorem rw_195_9 : mm_code 194 9 = some (.sipush 150, 3, 150, 0, []) := rfl
theorem rw_195_12 : mm_code 194 12 = some (.if_icmp .eq 19, 3, 31, 0, []) := rfl
theorem rw_195_15 : mm_code 194 15 = some (.aload_n 0, 1, 0, 0, []) := rfl
theorem rw_195_16 : mm_code 194 16 = some (.iload_n 1, 1, 0, 0, []) := rfl
theorem rw_195_17 : mm_code 194 17 = some (.invokevirtual 329, 3, 186, 2, [103, 0]) := rfl
theorem rw_195_20 : mm_code 194 20 = some (.ifCond .eq 11, 3, 31, 0, []) := rfl
theorem rw_195_23 : mm_code 194 23 = some (.aload_n 0, 1, 0, 0, []) := rfl
theorem rw_195_24 : mm_code 194 24 = some (.iload_n 2, 1, 0, 0, []) := rfl
theorem rw_195_25 : mm_code 194 25 = some (.invokevirtual 323, 3, 179, 2, [101, 0]) := rfl
theorem rw_195_28 : mm_code 194 28 = some (.ifCond .ne 7, 3, 35, 0, []) := rfl
theorem rw_195_31 : mm_code 194 31 = some (.iconst (-1), 1, 1, 1, []) := rfl
theorem rw_195_32 : mm_code 194 32 = some (.goto 11, 3, 43, 0, []) := rfl
theorem rw_195_35 : mm_code 194 35 = some (.aload_n 0, 1, 0, 0, []) := rfl
theorem rw_195_36 : mm_code 194 36 = some (.iconst 1, 1, 1, 0, []) := rfl
theorem rw_195_37 : mm_code 194 37 = some (.iload_n 1, 1, 0, 0, []) := rfl
theorem rw_195_38 : mm_code 194 38 = some (.iload_n 2, 1, 0, 0, []) := rfl
theorem rw_195_39 : mm_code 194 39 = some (.iconst 0, 1, 0, 0, []) := rfl
theorem rw_195_40 : mm_code 194 40 = some (.invokevirtual 332, 3, 190, 5, [104, 0]) := rfl
theorem rw_195_43 : mm_code 194 43 = some (.ireturn, 1, 0, 0, []) := rfl
theorem rw_196_0 : mm_code 195 0 = some (.aload_n 0, 1, 0, 0, []) := rfl
theorem rw_196_1 : mm_code 195 1 = some (.iconst 0, 1, 0, 0, []) := rfl
theorem rw_196_2 : mm_code 195 2 = some (.putfield 163, 3, 11, 2, [0, 51]) := rfl
theorem rw_196_5 : mm_code 195 5 = some (.aload_n 0, 1, 0, 0, []) := rfl
theorem rw_196_6 : mm_code 195 6 = some (.getfield 242, 3, 11, 29, [0, 76]) := rfl
theorem rw_196_9 : mm_code 195 9 = some (.sipush 150, 3, 150, 0, []) := rfl
theorem rw_196_12 : mm_code 195 12 = some (.if_icmp .eq 23, 3, 35, 0, []) := rfl
theorem rw_196_15 : mm_code 195 15 = some (.aload_n 0, 1, 0, 0, []) := rfl
theorem rw_196_16 : mm_code 195 16 = some (.iload_n 1, 1, 0, 0, []) := rfl
theorem rw_196_17 : mm_code 195 17 = some (.invokevirtual 329, 3, 186, 2, [103, 0]) := rfl
theorem rw_196_20 : mm_code 195 20 = some (.ifCond .eq 15, 3, 35, 0, []) := rfl
theorem rw_196_23 : mm_code 195 23 = some (.iload_n 2, 1, 0, 0, []) := rfl
theorem rw_196_24 : mm_code 195 24 = some (.ifCond .lt 11, 3, 35, 0, []) := rfl
theorem rw_196_27 : mm_code 195 27 = some (.iload_n 2, 1, 0, 0, []) := rfl
theorem rw_196_28 : mm_code 195 28 = some (.aload_n 0, 1, 0, 0, []) := rfl
theorem rw_196_29 : mm_code 195 29 = some (.getfield 230, 3, 11, 11, [0, 72]) := rfl
theorem rw_196_32 : mm_code 195 32 = some (.if_icmp .lt 7, 3, 39, 0, []) := rfl
theorem rw_196_35 : mm_code 195 35 = some (.iconst (-1), 1, 1, 1, []) := rfl
theorem rw_196_36 : mm_code 195 36 = some (.goto 19, 3, 55, 0, []) := rfl
theorem rw_196_39 : mm_code 195 39 = some (.aload_n 0, 1, 0, 0, []) := rfl
theorem rw_196_40 : mm_code 195 40 = some (.iload_n 3, 1, 0, 0, []) := rfl
theorem rw_196_41 : mm_code 195 41 = some (.ifCond .eq 7, 3, 48, 0, []) := rfl
theorem rw_196_44 : mm_code 195 44 = some (.iconst 3, 1, 3, 0, []) := rfl
theorem rw_196_45 : mm_code 195 45 = some (.goto 4, 3, 49, 0, []) := rfl
theorem rw_196_48 : mm_code 195 48 = some (.iconst 2, 1, 2, 0, []) := rfl
theorem rw_196_49 : mm_code 195 49 = some (.iload_n 1, 1, 0, 0, []) := rfl
theorem rw_196_50 : mm_code 195 50 = some (.iload_n 2, 1, 0, 0, []) := rfl
theorem rw_196_51 : mm_code 195 51 = some (.iconst 0, 1, 0, 0, []) := rfl
theorem rw_196_52 : mm_code 195 52 = some (.invokevirtual 332, 3, 190, 5, [104, 0]) := rfl
theorem rw_196_55 : mm_code 195 55 = some (.ireturn, 1, 0, 0, []) := rfl
theorem rw_197_0 : mm_code 196 0 = some (.aload_n 0, 1, 0, 0, []) := rfl
theorem rw_197_1 : mm_code 196 1 = some (.getfield 29, 3, 11, 20, [3, 7]) := rfl
theorem rw_197_4 : mm_code 196 4 = some (.iload_n 1, 1, 0, 0, []) := rfl
theorem rw_197_5 : mm_code 196 5 = some (.iaload, 1, 0, 0, []) := rfl
theorem rw_197_6 : mm_code 196 6 = some (.aload_n 0, 1, 0, 0, []) := rfl
theorem rw_197_7 : mm_code 196 7 = some (.getfield 26, 3, 11, 19, [3, 6]) := rfl
theorem rw_197_10 : mm_code 196 10 = some (.iload_n 1, 1, 0, 0, []) := rfl
theorem rw_197_11 : mm_code 196 11 = some (.iaload, 1, 0, 0, []) := rfl
theorem rw_197_12 : mm_code 196 12 = some (.isub, 1, 0, 0, []) := rfl
theorem rw_197_13 : mm_code 196 13 = some (.iconst 1, 1, 1, 0, []) := rfl
theorem rw_197_14 : mm_code 196 14 = some (.iadd, 1, 0, 0, []) := rfl
theorem rw_197_15 : mm_code 196 15 = some (.ireturn, 1, 0, 0, []) := rfl
theorem rw_198_0 : mm_code 197 0 = some (.aload_n 0, 1, 0, 0, []) := rfl
theorem rw_198_1 : mm_code 197 1 = some (.iconst 0, 1, 0, 0, []) := rfl
theorem rw_198_2 : mm_code 197 2 = some (.putfield 163, 3, 11, 2, [0, 51]) := rfl
theorem rw_198_5 : mm_code 197 5 = some (.aload_n 0, 1, 0, 0, []) := rfl
theorem rw_198_6 : mm_code 197 6 = some (.getfield 242, 3, 11, 29, [0, 76]) := rfl
theorem rw_198_9 : mm_code 197 9 = some (.sipush 150, 3, 150, 0, []) := rfl
theorem rw_198_12 : mm_code 197 12 = some (.if_icmp .eq 49, 3, 61, 0, []) := rfl
theorem rw_198_15 : mm_code 197 15 = some (.aload_n 0, 1, 0, 0, []) := rfl
theorem rw_198_16 : mm_code 197 16 = some (.iload_n 1, 1, 0, 0, []) := rfl
theorem rw_198_17 : mm_code 197 17 = some (.invokevirtual 323, 3, 179, 2, [101, 0]) := rfl
theorem rw_198_20 : mm_code 197 20 = some (.ifCond .eq 41, 3, 61, 0, []) := rfl
theorem rw_198_23 : mm_code 197 23 = some (.iload_n 2, 1, 0, 0, []) := rfl
theorem rw_198_24 : mm_code 197 24 = some (.ifCond .lt 37, 3, 61, 0, []) := rfl
theorem rw_198_27 : mm_code 197 27 = some (.iload_n 2, 1, 0, 0, []) := rfl
theorem rw_198_28 : mm_code 197 28 = some (.aload_n 0, 1, 0, 0, []) := rfl
theorem rw_198_29 : mm_code 197 29 = some (.aload_n 0, 1, 0, 0, []) := rfl
theorem rw_198_30 : mm_code 197 30 = some (.getfield 38, 3, 11, 23, [3, 10]) := rfl
theorem rw_198_33 : mm_code 197 33 = some (.iload_n 1, 1, 0, 0, []) := rfl
theorem rw_198_34 : mm_code 197 34 = some (.iaload, 1, 0, 0, []) := rfl
theorem rw_198_35 : mm_code 197 35 = some (.invokevirtual 336, 3, 196, 2, [105, 0]) := rfl
theorem rw_198_38 : mm_code 197 38 = some (.ishr, 1, 0, 0, []) := rfl
theorem rw_198_39 : mm_code 197 39 = some (.ifCond .ne 22, 3, 61, 0, []) := rfl
theorem rw_198_42 : mm_code 197 42 = some (.iload_n 2, 1, 0, 0, []) := rfl
theorem rw_198_43 : mm_code 197 43 = some (.i2l, 1, 0, 0, []) := rfl
theorem rw_198_44 : mm_code 197 44 = some (.invokestatic 339, 3, 150, 1, [106, 0]) := rfl
theorem rw_198_47 : mm_code 197 47 = some (.aload_n 0, 1, 0, 0, []) := rfl
theorem rw_198_48 : mm_code 197 48 = some (.getfield 32, 3, 11, 21, [3, 8]) := rfl
theorem rw_198_51 : mm_code 197 51 = some (.aload_n 0, 1, 0, 0, []) := rfl
theorem rw_198_52 : mm_code 197 52 = some (.getfield 38, 3, 11, 23, [3, 10]) := rfl
theorem rw_198_55 : mm_code 197 55 = some (.iload_n 1, 1, 0, 0, []) := rfl
theorem rw_198_56 : mm_code 197 56 = some (.iaload, 1, 0, 0, []) := rfl
theorem rw_198_57 : mm_code 197 57 = some (.iaload, 1, 0, 0, []) := rfl
theorem rw_198_58 : mm_code 197 58 = some (.if_icmp .eq 5, 3, 63, 0, []) := rfl
theorem rw_198_61 : mm_code 197 61 = some (.iconst (-1), 1, 1, 1, []) := rfl
theorem rw_198_62 : mm_code 197 62 = some (.ireturn, 1, 0, 0, []) := rfl
theorem rw_198_63 : mm_code 197 63 = some (.aload_n 0, 1, 0, 0, []) := rfl
theorem rw_198_64 : mm_code 197 64 = some (.iconst 4, 1, 4, 0, []) := rfl
theorem rw_198_65 : mm_code 197 65 = some (.iload_n 1, 1, 0, 0, []) := rfl
theorem rw_198_66 : mm_code 197 66 = some (.iload_n 2, 1, 0, 0, []) := rfl
theorem rw_198_67 : mm_code 197 67 = some (.iconst 0, 1, 0, 0, []) := rfl
theorem rw_198_68 : mm_code 197 68 = some (.invokevirtual 332, 3, 190, 5, [104, 0]) := rfl
theorem rw_198_71 : mm_code 197 71 = some (.ireturn, 1, 0, 0, []) := rfl
theorem rw_199_0 : mm_code 198 0 = some (.aload_n 0, 1, 0, 0, []) := rfl
theorem rw_199_1 : mm_code 198 1 = some (.iconst 0, 1, 0, 0, []) := rfl
theorem rw_199_2 : mm_code 198 2 = some (.putfield 163, 3, 11, 2, [0, 51]) := rfl
theorem rw_199_5 : mm_code 198 5 = some (.aload_n 0, 1, 0, 0, []) := rfl
theorem rw_199_6 : mm_code 198 6 = some (.getfield 242, 3, 11, 29, [0, 76]) := rfl
theorem rw_199_9 : mm_code 198 9 = some (.sipush 150, 3, 150, 0, []) := rfl
theorem rw_199_12 : mm_code 198 12 = some (.if_icmp .eq 15, 3, 27, 0, []) := rfl
theorem rw_199_15 : mm_code 198 15 = some (.iload_n 1, 1, 0, 0, []) := rfl
theorem rw_199_16 : mm_code 198 16 = some (.ifCond .lt 11, 3, 27, 0, []) := rfl
theorem rw_199_19 : mm_code 198 19 = some (.iload_n 1, 1, 0, 0, []) := rfl
theorem rw_199_20 : mm_code 198 20 = some (.aload_n 0, 1, 0, 0, []) := rfl
theorem rw_199_21 : mm_code 198 21 = some (.getfield 242, 3, 11, 29, [0, 76]) := rfl
theorem rw_199_24 : mm_code 198 24 = some (.if_icmp .lt 7, 3, 31, 0, []) := rfl
theorem rw_199_27 : mm_code 198 27 = some (.iconst (-1), 1, 1, 1, []) := rfl
theorem rw_199_28 : mm_code 198 28 = some (.goto 11, 3, 39, 0, []) := rfl
theorem rw_199_31 : mm_code 198 31 = some (.aload_n 0, 1, 0, 0, []) := rfl
theorem rw_199_32 : mm_code 198 32 = some (.iconst 5, 1, 5, 0, []) := rfl
theorem rw_199_33 : mm_code 198 33 = some (.iload_n 1, 1, 0, 0, []) := rfl
theorem rw_199_34 : mm_code 198 34 = some (.iconst 0, 1, 0, 0, []) := rfl
theorem rw_199_35 : mm_code 198 35 = some (.iconst 0, 1, 0, 0, []) := rfl
theorem rw_199_36 : mm_code 198 36 = some (.invokevirtual 332, 3, 190, 5, [104, 0]) := rfl
theorem rw_199_39 : mm_code 198 39 = some (.ireturn, 1, 0, 0, []) := rfl
theorem rw_200_0 : mm_code 199 0 = some (.aload_n 0, 1, 0, 0, []) := rfl
theorem rw_200_1 : mm_code 199 1 = some (.iconst 0, 1, 0, 0, []) := rfl
theorem rw_200_2 : mm_code 199 2 = some (.putfield 163, 3, 11, 2, [0, 51]) := rfl
theorem rw_200_5 : mm_code 199 5 = some (.aload_n 0, 1, 0, 0, []) := rfl
theorem rw_200_6 : mm_code 199 6 = some (.iload_n 1, 1, 0, 0, []) := rfl
theorem rw_200_7 : mm_code 199 7 = some (.invokevirtual 320, 3, 185, 2, [100, 0]) := rfl
theorem rw_200_10 : mm_code 199 10 = some (.ifCond .eq 11, 3, 21, 0, []) := rfl
theorem rw_200_13 : mm_code 199 13 = some (.aload_n 0, 1, 0, 0, []) := rfl
theorem rw_200_14 : mm_code 199 14 = some (.iload_n 2, 1, 0, 0, []) := rfl
theorem rw_200_15 : mm_code 199 15 = some (.invokevirtual 329, 3, 186, 2, [103, 0]) := rfl
theorem rw_200_18 : mm_code 199 18 = some (.ifCond .ne 7, 3, 25, 0, []) := rfl
theorem rw_200_21 : mm_code 199 21 = some (.ldc2_w 315, 3, 1, 1, [98]) := rfl
theorem rw_200_24 : mm_code 199 24 = some (.lreturn, 1, 0, 0, []) := rfl
theorem rw_200_25 : mm_code 199 25 = some (.aload_n 0, 1, 0, 0, []) := rfl
theorem rw_200_26 : mm_code 199 26 = some (.iload_n 1, 1, 0, 0, []) := rfl
theorem rw_200_27 : mm_code 199 27 = some (.invokevirtual 326, 3, 188, 2, [102, 0]) := rfl
theorem rw_200_30 : mm_code 199 30 = some (.aload_n 0, 1, 0, 0, []) := rfl
theorem rw_200_31 : mm_code 199 31 = some (.getfield 70, 3, 11, 36, [3, 20]) := rfl
theorem rw_200_34 : mm_code 199 34 = some (.iload_n 2, 1, 0, 0, []) := rfl
theorem rw_200_35 : mm_code 199 35 = some (.laload, 1, 0, 0, []) := rfl
theorem rw_200_36 : mm_code 199 36 = some (.lreturn, 1, 0, 0, []) := rfl
theorem rw_201_0 : mm_code 200 0 = some (.iconst 0, 1, 0, 0, []) := rfl
theorem rw_201_1 : mm_code 200 1 = some (.istore_n 2, 1, 0, 0, []) := rfl
theorem rw_201_2 : mm_code 200 2 = some (.iconst 0, 1, 0, 0, []) := rfl
theorem rw_201_3 : mm_code 200 3 = some (.istore_n 3, 1, 0, 0, []) := rfl
theorem rw_201_4 : mm_code 200 4 = some (.iload_n 3, 1, 0, 0, []) := rfl
theorem rw_201_5 : mm_code 200 5 = some (.aload_n 0, 1, 0, 0, []) := rfl
theorem rw_201_6 : mm_code 200 6 = some (.getfield 236, 3, 11, 13, [0, 74]) := rfl
theorem rw_201_9 : mm_code 200 9 = some (.if_icmp .ge 29, 3, 38, 0, []) := rfl
theorem rw_201_12 : mm_code 200 12 = some (.iload_n 2, 1, 0, 0, []) := rfl
theorem rw_201_13 : mm_code 200 13 = some (.aload_n 0, 1, 0, 0, []) := rfl
theorem rw_201_14 : mm_code 200 14 = some (.getfield 38, 3, 11, 23, [3, 10]) := rfl
theorem rw_201_17 : mm_code 200 17 = some (.iload_n 3, 1, 0, 0, []) := rfl
theorem rw_201_18 : mm_code 200 18 = some (.iaload, 1, 0, 0, []) := rfl
theorem rw_201_19 : mm_code 200 19 = some (.iload_n 1, 1, 0, 0, []) := rfl
theorem rw_201_20 : mm_code 200 20 = some (.if_icmp .ne 9, 3, 29, 0, []) := rfl
theorem rw_201_23 : mm_code 200 23 = some (.iconst 1, 1, 1, 0, []) := rfl
theorem rw_201_24 : mm_code 200 24 = some (.iload_n 3, 1, 0, 0, []) := rfl
theorem rw_201_25 : mm_code 200 25 = some (.ishl, 1, 0, 0, []) := rfl
theorem rw_201_26 : mm_code 200 26 = some (.goto 4, 3, 30, 0, []) := rfl
theorem rw_201_29 : mm_code 200 29 = some (.iconst 0, 1, 0, 0, []) := rfl
theorem rw_201_30 : mm_code 200 30 = some (.ior, 1, 0, 0, []) := rfl
theorem rw_201_31 : mm_code 200 31 = some (.istore_n 2, 1, 0, 0, []) := rfl
theorem rw_201_32 : mm_code 200 32 = some (.iinc 3 1, 3, 1, 0, []) := rfl
theorem rw_201_35 : mm_code 200 35 = some (.goto (-31), 3, 4, 0, []) := rfl
theorem rw_201_38 : mm_code 200 38 = some (.iload_n 2, 1, 0, 0, []) := rfl
theorem rw_201_39 : mm_code 200 39 = some (.ireturn, 1, 0, 0, []) := rfl
theorem rw_202_0 : mm_code 201 0 = some (.aload_n 0, 1, 0, 0, []) := rfl
theorem rw_202_1 : mm_code 201 1 = some (.iconst 0, 1, 0, 0, []) := rfl
theorem rw_202_2 : mm_code 201 2 = some (.putfield 163, 3, 11, 2, [0, 51]) := rfl
theorem rw_202_5 : mm_code 201 5 = some (.aload_n 0, 1, 0, 0, []) := rfl
theorem rw_202_6 : mm_code 201 6 = some (.iload_n 1, 1, 0, 0, []) := rfl
theorem rw_202_7 : mm_code 201 7 = some (.invokevirtual 320, 3, 185, 2, [100, 0]) := rfl
theorem rw_202_10 : mm_code 201 10 = some (.ifCond .eq 19, 3, 29, 0, []) := rfl
theorem rw_202_13 : mm_code 201 13 = some (.aload_n 0, 1, 0, 0, []) := rfl
theorem rw_202_14 : mm_code 201 14 = some (.iload_n 2, 1, 0, 0, []) := rfl
theorem rw_202_15 : mm_code 201 15 = some (.invokevirtual 329, 3, 186, 2, [103, 0]) := rfl
theorem rw_202_18 : mm_code 201 18 = some (.ifCond .eq 11, 3, 29, 0, []) := rfl
theorem rw_202_21 : mm_code 201 21 = some (.aload_n 0, 1, 0, 0, []) := rfl
theorem rw_202_22 : mm_code 201 22 = some (.iload_n 3, 1, 0, 0, []) := rfl
theorem rw_202_23 : mm_code 201 23 = some (.invokevirtual 296, 3, 177, 2, [92, 0]) := rfl
theorem rw_202_26 : mm_code 201 26 = some (.ifCond .ne 6, 3, 32, 0, []) := rfl
theorem rw_202_29 : mm_code 201 29 = some (.bipush (-2), 2, 2, 1, []) := rfl
theorem rw_202_31 : mm_code 201 31 = some (.ireturn, 1, 0, 0, []) := rfl
theorem rw_202_32 : mm_code 201 32 = some (.aload_n 0, 1, 0, 0, []) := rfl
theorem rw_202_33 : mm_code 201 33 = some (.iload_n 1, 1, 0, 0, []) := rfl
theorem rw_202_34 : mm_code 201 34 = some (.invokevirtual 326, 3, 188, 2, [102, 0]) := rfl
theorem rw_202_37 : mm_code 201 37 = some (.aload_n 0, 1, 0, 0, []) := rfl
theorem rw_202_38 : mm_code 201 38 = some (.getfield 23, 3, 11, 18, [3, 5]) := rfl
theorem rw_202_41 : mm_code 201 41 = some (.iload_n 3, 1, 0, 0, []) := rfl
theorem rw_202_42 : mm_code 201 42 = some (.iaload, 1, 0, 0, []) := rfl
theorem rw_202_43 : mm_code 201 43 = some (.iconst 3, 1, 3, 0, []) := rfl
theorem rw_202_44 : mm_code 201 44 = some (.if_icmp .ne 18, 3, 62, 0, []) := rfl
theorem rw_202_47 : mm_code 201 47 = some (.aload_n 0, 1, 0, 0, []) := rfl
theorem rw_202_48 : mm_code 201 48 = some (.getfield 76, 3, 11, 38, [3, 22]) := rfl
theorem rw_202_51 : mm_code 201 51 = some (.iload_n 2, 1, 0, 0, []) := rfl
theorem rw_202_52 : mm_code 201 52 = some (.iaload, 1, 0, 0, []) := rfl
theorem rw_202_53 : mm_code 201 53 = some (.aload_n 0, 1, 0, 0, []) := rfl
theorem rw_202_54 : mm_code 201 54 = some (.iload_n 3, 1, 0, 0, []) := rfl
theorem rw_202_55 : mm_code 201 55 = some (.invokevirtual 343, 3, 200, 2, [107, 0]) := rfl
theorem rw_202_58 : mm_code 201 58 = some (.iand, 1, 0, 0, []) := rfl
theorem rw_202_59 : mm_code 201 59 = some (.goto 14, 3, 73, 0, []) := rfl
theorem rw_202_62 : mm_code 201 62 = some (.aload_n 0, 1, 0, 0, []) := rfl
theorem rw_202_63 : mm_code 201 63 = some (.getfield 73, 3, 11, 37, [3, 21]) := rfl
theorem rw_202_66 : mm_code 201 66 = some (.bipush 8, 2, 8, 0, []) := rfl
theorem rw_202_68 : mm_code 201 68 = some (.iload_n 2, 1, 0, 0, []) := rfl
theorem rw_202_69 : mm_code 201 69 = some (.imul, 1, 0, 0, []) := rfl
theorem rw_202_70 : mm_code 201 70 = some (.iload_n 3, 1, 0, 0, []) := rfl
theorem rw_202_71 : mm_code 201 71 = some (.iadd, 1, 0, 0, []) := rfl
theorem rw_202_72 : mm_code 201 72 = some (.iaload, 1, 0, 0, []) := rfl
theorem rw_202_73 : mm_code 201 73 = some (.ireturn, 1, 0, 0, []) := rfl
theorem rw_203_0 : mm_code 202 0 = some (.aload_n 0, 1, 0, 0, []) := rfl
theorem rw_203_1 : mm_code 202 1 = some (.iconst 0, 1, 0, 0, []) := rfl
theorem rw_203_2 : mm_code 202 2 = some (.putfield 163, 3, 11, 2, [0, 51]) := rfl
theorem rw_203_5 : mm_code 202 5 = some (.aload_n 0, 1, 0, 0, []) := rfl
theorem rw_203_6 : mm_code 202 6 = some (.iload_n 1, 1, 0, 0, []) := rfl
theorem rw_203_7 : mm_code 202 7 = some (.invokevirtual 329, 3, 186, 2, [103, 0]) := rfl
theorem rw_203_10 : mm_code 202 10 = some (.ifCond .ne 5, 3, 15, 0, []) := rfl
theorem rw_203_13 : mm_code 202 13 = some (.iconst 0, 1, 0, 0, []) := rfl
theorem rw_203_14 : mm_code 202 14 = some (.ireturn, 1, 1, 0, []) := rfl
theorem rw_203_15 : mm_code 202 15 = some (.aload_n 0, 1, 0, 0, []) := rfl
theorem rw_203_16 : mm_code 202 16 = some (.dup, 1, 0, 0, []) := rfl
theorem rw_203_17 : mm_code 202 17 = some (.getfield 252, 3, 11, 41, [0, 79]) := rfl
theorem rw_203_20 : mm_code 202 20 = some (.iconst 1, 1, 1, 0, []) := rfl
theorem rw_203_21 : mm_code 202 21 = some (.iload_n 1, 1, 0, 0, []) := rfl
theorem rw_203_22 : mm_code 202 22 = some (.ishl, 1, 0, 0, []) := rfl
theorem rw_203_23 : mm_code 202 23 = some (.ixor, 1, 0, 0, []) := rfl
theorem rw_203_24 : mm_code 202 24 = some (.putfield 252, 3, 11, 41, [0, 79]) := rfl
theorem rw_203_27 : mm_code 202 27 = some (.iconst 1, 1, 1, 0, []) := rfl
theorem rw_203_28 : mm_code 202 28 = some (.ireturn, 1, 1, 0, []) := rfl
theorem rw_204_0 : mm_code 203 0 = some (.aload_n 0, 1, 0, 0, []) := rfl
theorem rw_204_1 : mm_code 203 1 = some (.iconst 0, 1, 0, 0, []) := rfl
theorem rw_204_2 : mm_code 203 2 = some (.putfield 163, 3, 11, 2, [0, 51]) := rfl
theorem rw_204_5 : mm_code 203 5 = some (.aload_n 0, 1, 0, 0, []) := rfl
theorem rw_204_6 : mm_code 203 6 = some (.getfield 252, 3, 11, 41, [0, 79]) := rfl
theorem rw_204_9 : mm_code 203 9 = some (.ireturn, 1, 0, 0, []) := rfl
theorem rw_205_0 : mm_code 204 0 = some (.iload_n 0, 1, 0, 0, []) := rfl
theorem rw_205_1 : mm_code 204 1 = some (.ifCond .lt 13, 3, 14, 0, []) := rfl
theorem rw_205_4 : mm_code 204 4 = some (.iload_n 0, 1, 0, 0, []) := rfl
theorem rw_205_5 : mm_code 204 5 = some (.bipush 6, 2, 6, 0, []) := rfl
theorem rw_205_7 : mm_code 204 7 = some (.if_icmp .ge 7, 3, 14, 0, []) := rfl
theorem rw_205_10 : mm_code 204 10 = some (.iconst 1, 1, 1, 0, []) := rfl
theorem rw_205_11 : mm_code 204 11 = some (.goto 4, 3, 15, 0, []) := rfl
theorem rw_205_14 : mm_code 204 14 = some (.iconst 0, 1, 0, 0, []) := rfl
theorem rw_205_15 : mm_code 204 15 = some (.ireturn, 1, 1, 0, []) := rfl
theorem rw_206_0 : mm_code 205 0 = some (.aload_n 0, 1, 0, 0, []) := rfl
theorem rw_206_1 : mm_code 205 1 = some (.iconst 0, 1, 0, 0, []) := rfl
theorem rw_206_2 : mm_code 205 2 = some (.putfield 163, 3, 11, 2, [0, 51]) := rfl
theorem rw_206_5 : mm_code 205 5 = some (.iload_n 1, 1, 0, 0, []) := rfl
theorem rw_206_6 : mm_code 205 6 = some (.invokestatic 346, 3, 204, 1, [108, 0]) := rfl
theorem rw_206_9 : mm_code 205 9 = some (.ifCond .eq 31, 3, 40, 0, []) := rfl
theorem rw_206_12 : mm_code 205 12 = some (.iload_n 2, 1, 0, 0, []) := rfl
theorem rw_206_13 : mm_code 205 13 = some (.ifCond .lt 27, 3, 40, 0, []) := rfl
theorem rw_206_16 : mm_code 205 16 = some (.iload_n 2, 1, 0, 0, []) := rfl
theorem rw_206_17 : mm_code 205 17 = some (.aload_n 0, 1, 0, 0, []) := rfl
theorem rw_206_18 : mm_code 205 18 = some (.getfield 82, 3, 11, 40, [3, 24]) := rfl
theorem rw_206_21 : mm_code 205 21 = some (.iload_n 1, 1, 0, 0, []) := rfl
theorem rw_206_22 : mm_code 205 22 = some (.iaload, 1, 0, 0, []) := rfl
theorem rw_206_23 : mm_code 205 23 = some (.if_icmp .ge 17, 3, 40, 0, []) := rfl
theorem rw_206_26 : mm_code 205 26 = some (.aload_n 0, 1, 0, 0, []) := rfl
theorem rw_206_27 : mm_code 205 27 = some (.getfield 79, 3, 11, 39, [3, 23]) := rfl
theorem rw_206_30 : mm_code 205 30 = some (.bipush 30, 2, 30, 0, []) := rfl
theorem rw_206_32 : mm_code 205 32 = some (.iload_n 1, 1, 0, 0, []) := rfl
theorem rw_206_33 : mm_code 205 33 = some (.imul, 1, 0, 0, []) := rfl
theorem rw_206_34 : mm_code 205 34 = some (.iload_n 2, 1, 0, 0, []) := rfl
theorem rw_206_35 : mm_code 205 35 = some (.iadd, 1, 0, 0, []) := rfl
theorem rw_206_36 : mm_code 205 36 = some (.iaload, 1, 0, 0, []) := rfl
theorem rw_206_37 : mm_code 205 37 = some (.goto 4, 3, 41, 0, []) := rfl
theorem rw_206_40 : mm_code 205 40 = some (.iconst (-1), 1, 1, 1, []) := rfl
theorem rw_206_41 : mm_code 205 41 = some (.ireturn, 1, 0, 0, []) := rfl
theorem rw_207_0 : mm_code 206 0 = some (.iconst 0, 1, 0, 0, []) := rfl
theorem rw_207_1 : mm_code 206 1 = some (.istore 4, 2, 0, 0, []) := rfl
theorem rw_207_3 : mm_code 206 3 = some (.iload 4, 2, 0, 0, []) := rfl
theorem rw_207_5 : mm_code 206 5 = some (.aload_n 0, 1, 0, 0, []) := rfl
theorem rw_207_6 : mm_code 206 6 = some (.getfield 230, 3, 11, 11, [0, 72]) := rfl
theorem rw_207_9 : mm_code 206 9 = some (.if_icmp .ge 58, 3, 67, 0, []) := rfl
theorem rw_207_12 : mm_code 206 12 = some (.lload_n 2, 1, 0, 0, []) := rfl
theorem rw_207_13 : mm_code 206 13 = some (.iload 4, 2, 0, 0, []) := rfl
theorem rw_207_15 : mm_code 206 15 = some (.invokestatic 169, 3, 149, 2, [53, 0]) := rfl
theorem rw_207_18 : mm_code 206 18 = some (.ifCond .eq 43, 3, 61, 0, []) := rfl
theorem rw_207_21 : mm_code 206 21 = some (.aload_n 0, 1, 0, 0, []) := rfl
theorem rw_207_22 : mm_code 206 22 = some (.getfield 70, 3, 11, 36, [3, 20]) := rfl
theorem rw_207_25 : mm_code 206 25 = some (.iload_n 1, 1, 0, 0, []) := rfl
theorem rw_207_26 : mm_code 206 26 = some (.laload, 1, 0, 0, []) := rfl
theorem rw_207_27 : mm_code 206 27 = some (.aload_n 0, 1, 0, 0, []) := rfl
theorem rw_207_28 : mm_code 206 28 = some (.getfield 252, 3, 11, 41, [0, 79]) := rfl
theorem rw_207_31 : mm_code 206 31 = some (.iload_n 1, 1, 0, 0, []) := rfl
theorem rw_207_32 : mm_code 206 32 = some (.ishr, 1, 0, 0, []) := rfl
theorem rw_207_33 : mm_code 206 33 = some (.iconst 1, 1, 1, 0, []) := rfl
theorem rw_207_34 : mm_code 206 34 = some (.iand, 1, 0, 0, []) := rfl
theorem rw_207_35 : mm_code 206 35 = some (.iconst 1, 1, 1, 0, []) := rfl
theorem rw_207_36 : mm_code 206 36 = some (.if_icmp .ne 15, 3, 51, 0, []) := rfl
theorem rw_207_39 : mm_code 206 39 = some (.aload_n 0, 1, 0, 0, []) := rfl
theorem rw_207_40 : mm_code 206 40 = some (.getfield 230, 3, 11, 11, [0, 72]) := rfl
theorem rw_207_43 : mm_code 206 43 = some (.iconst 1, 1, 1, 0, []) := rfl
theorem rw_207_44 : mm_code 206 44 = some (.isub, 1, 0, 0, []) := rfl
theorem rw_207_45 : mm_code 206 45 = some (.iload 4, 2, 0, 0, []) := rfl
theorem rw_207_47 : mm_code 206 47 = some (.isub, 1, 0, 0, []) := rfl
theorem rw_207_48 : mm_code 206 48 = some (.goto 5, 3, 53, 0, []) := rfl
theorem rw_207_51 : mm_code 206 51 = some (.iload 4, 2, 0, 0, []) := rfl
theorem rw_207_53 : mm_code 206 53 = some (.invokestatic 169, 3, 149, 2, [53, 0]) := rfl
theorem rw_207_56 : mm_code 206 56 = some (.ifCond .ne 5, 3, 61, 0, []) := rfl
theorem rw_207_59 : mm_code 206 59 = some (.iconst 0, 1, 0, 0, []) := rfl
theorem rw_207_60 : mm_code 206 60 = some (.ireturn, 1, 1, 0, []) := rfl
theorem rw_207_61 : mm_code 206 61 = some (.iinc 4 1, 3, 1, 0, []) := rfl
theorem rw_207_64 : mm_code 206 64 = some (.goto (-61), 3, 3, 0, []) := rfl
theorem rw_207_67 : mm_code 206 67 = some (.iconst 1, 1, 1, 0, []) := rfl
theorem rw_207_68 : mm_code 206 68 = some (.ireturn, 1, 1, 0, []) := rfl
theorem rw_208_0 : mm_code 207 0 = some (.aload_n 0, 1, 0, 0, []) := rfl
theorem rw_208_1 : mm_code 207 1 = some (.iconst 0, 1, 0, 0, []) := rfl
theorem rw_208_2 : mm_code 207 2 = some (.putfield 163, 3, 11, 2, [0, 51]) := rfl
theorem rw_208_5 : mm_code 207 5 = some (.iload_n 1, 1, 0, 0, []) := rfl
theorem rw_208_6 : mm_code 207 6 = some (.invokestatic 346, 3, 204, 1, [108, 0]) := rfl
theorem rw_208_9 : mm_code 207 9 = some (.ifCond .ne 5, 3, 14, 0, []) := rfl
theorem rw_208_12 : mm_code 207 12 = some (.iconst (-1), 1, 1, 1, []) := rfl
theorem rw_208_13 : mm_code 207 13 = some (.ireturn, 1, 0, 0, []) := rfl
theorem rw_208_14 : mm_code 207 14 = some (.aload_n 0, 1, 0, 0, []) := rfl
theorem rw_208_15 : mm_code 207 15 = some (.aload_n 0, 1, 0, 0, []) := rfl
theorem rw_208_16 : mm_code 207 16 = some (.getfield 242, 3, 11, 29, [0, 76]) := rfl
theorem rw_208_19 : mm_code 207 19 = some (.invokevirtual 326, 3, 188, 2, [102, 0]) := rfl
theorem rw_208_22 : mm_code 207 22 = some (.iconst 0, 1, 0, 0, []) := rfl
theorem rw_208_23 : mm_code 207 23 = some (.istore 4, 2, 0, 0, []) := rfl
theorem rw_208_25 : mm_code 207 25 = some (.iconst 0, 1, 0, 0, []) := rfl
theorem rw_208_26 : mm_code 207 26 = some (.istore 5, 2, 0, 0, []) := rfl
theorem rw_208_28 : mm_code 207 28 = some (.iload 5, 2, 0, 0, []) := rfl
theorem rw_208_30 : mm_code 207 30 = some (.aload_n 0, 1, 0, 0, []) := rfl
theorem rw_208_31 : mm_code 207 31 = some (.getfield 82, 3, 11, 40, [3, 24]) := rfl
theorem rw_208_34 : mm_code 207 34 = some (.iload_n 1, 1, 0, 0, []) := rfl
theorem rw_208_35 : mm_code 207 35 = some (.iaload, 1, 0, 0, []) := rfl
theorem rw_208_36 : mm_code 207 36 = some (.if_icmp .ge 52, 3, 88, 0, []) := rfl
theorem rw_208_39 : mm_code 207 39 = some (.iload 4, 2, 0, 0, []) := rfl
theorem rw_208_41 : mm_code 207 41 = some (.aload_n 0, 1, 0, 0, []) := rfl
theorem rw_208_42 : mm_code 207 42 = some (.aload_n 0, 1, 0, 0, []) := rfl
theorem rw_208_43 : mm_code 207 43 = some (.getfield 79, 3, 11, 39, [3, 23]) := rfl
theorem rw_208_46 : mm_code 207 46 = some (.bipush 30, 2, 30, 0, []) := rfl
theorem rw_208_48 : mm_code 207 48 = some (.iload_n 1, 1, 0, 0, []) := rfl
theorem rw_208_49 : mm_code 207 49 = some (.imul, 1, 0, 0, []) := rfl
theorem rw_208_50 : mm_code 207 50 = some (.iload 5, 2, 0, 0, []) := rfl
theorem rw_208_52 : mm_code 207 52 = some (.iadd, 1, 0, 0, []) := rfl
theorem rw_208_53 : mm_code 207 53 = some (.iaload, 1, 0, 0, []) := rfl
theorem rw_208_54 : mm_code 207 54 = some (.lload_n 2, 1, 0, 0, []) := rfl
theorem rw_208_55 : mm_code 207 55 = some (.invokevirtual 349, 3, 206, 3, [109, 0]) := rfl
theorem rw_208_58 : mm_code 207 58 = some (.ifCond .eq 20, 3, 78, 0, []) := rfl
theorem rw_208_61 : mm_code 207 61 = some (.iconst 1, 1, 1, 0, []) := rfl
theorem rw_208_62 : mm_code 207 62 = some (.aload_n 0, 1, 0, 0, []) := rfl
theorem rw_208_63 : mm_code 207 63 = some (.getfield 79, 3, 11, 39, [3, 23]) := rfl
theorem rw_208_66 : mm_code 207 66 = some (.bipush 30, 2, 30, 0, []) := rfl
theorem rw_208_68 : mm_code 207 68 = some (.iload_n 1, 1, 0, 0, []) := rfl
theorem rw_208_69 : mm_code 207 69 = some (.imul, 1, 0, 0, []) := rfl
theorem rw_208_70 : mm_code 207 70 = some (.iload 5, 2, 0, 0, []) := rfl
theorem rw_208_72 : mm_code 207 72 = some (.iadd, 1, 0, 0, []) := rfl
theorem rw_208_73 : mm_code 207 73 = some (.iaload, 1, 0, 0, []) := rfl
theorem rw_208_74 : mm_code 207 74 = some (.ishl, 1, 0, 0, []) := rfl
theorem rw_208_75 : mm_code 207 75 = some (.goto 4, 3, 79, 0, []) := rfl
theorem rw_208_78 : mm_code 207 78 = some (.iconst 0, 1, 0, 0, []) := rfl
theorem rw_208_79 : mm_code 207 79 = some (.ior, 1, 0, 0, []) := rfl
theorem rw_208_80 : mm_code 207 80 = some (.istore 4, 2, 0, 0, []) := rfl
theorem rw_208_82 : mm_code 207 82 = some (.iinc 5 1, 3, 1, 0, []) := rfl
theorem rw_208_85 : mm_code 207 85 = some (.goto (-57), 3, 28, 0, []) := rfl
theorem rw_208_88 : mm_code 207 88 = some (.iload 4, 2, 0, 0, []) := rfl
theorem rw_208_90 : mm_code 207 90 = some (.ireturn, 1, 0, 0, []) := rfl
theorem rw_209_0 : mm_code 208 0 = some (.aload_n 0, 1, 0, 0, []) := rfl
theorem rw_209_1 : mm_code 208 1 = some (.iconst 0, 1, 0, 0, []) := rfl
theorem rw_209_2 : mm_code 208 2 = some (.putfield 163, 3, 11, 2, [0, 51]) := rfl
theorem rw_209_5 : mm_code 208 5 = some (.iconst 0, 1, 0, 0, []) := rfl
theorem rw_209_6 : mm_code 208 6 = some (.istore_n 1, 1, 0, 0, []) := rfl
theorem rw_209_7 : mm_code 208 7 = some (.iload_n 1, 1, 0, 0, []) := rfl
theorem rw_209_8 : mm_code 208 8 = some (.bipush 6, 2, 6, 0, []) := rfl
theorem rw_209_10 : mm_code 208 10 = some (.if_icmp .ge 16, 3, 26, 0, []) := rfl
theorem rw_209_13 : mm_code 208 13 = some (.aload_n 0, 1, 0, 0, []) := rfl
theorem rw_209_14 : mm_code 208 14 = some (.getfield 82, 3, 11, 40, [3, 24]) := rfl
theorem rw_209_17 : mm_code 208 17 = some (.iload_n 1, 1, 0, 0, []) := rfl
theorem rw_209_18 : mm_code 208 18 = some (.iconst 0, 1, 0, 0, []) := rfl
theorem rw_209_19 : mm_code 208 19 = some (.iastore, 1, 0, 0, []) := rfl
theorem rw_209_20 : mm_code 208 20 = some (.iinc 1 1, 3, 1, 0, []) := rfl
theorem rw_209_23 : mm_code 208 23 = some (.goto (-16), 3, 7, 0, []) := rfl
theorem rw_209_26 : mm_code 208 26 = some (.iconst 0, 1, 0, 0, []) := rfl
theorem rw_209_27 : mm_code 208 27 = some (.istore_n 1, 1, 0, 0, []) := rfl
theorem rw_209_28 : mm_code 208 28 = some (.iload_n 1, 1, 0, 0, []) := rfl
theorem rw_209_29 : mm_code 208 29 = some (.aload_n 0, 1, 0, 0, []) := rfl
theorem rw_209_30 : mm_code 208 30 = some (.getfield 239, 3, 11, 28, [0, 75]) := rfl
theorem rw_209_33 : mm_code 208 33 = some (.if_icmp .ge 16, 3, 49, 0, []) := rfl
theorem rw_209_36 : mm_code 208 36 = some (.aload_n 0, 1, 0, 0, []) := rfl
theorem rw_209_37 : mm_code 208 37 = some (.getfield 79, 3, 11, 39, [3, 23]) := rfl
theorem rw_209_40 : mm_code 208 40 = some (.iload_n 1, 1, 0, 0, []) := rfl
theorem rw_209_41 : mm_code 208 41 = some (.iload_n 1, 1, 0, 0, []) := rfl
theorem rw_209_42 : mm_code 208 42 = some (.iastore, 1, 0, 0, []) := rfl
theorem rw_209_43 : mm_code 208 43 = some (.iinc 1 1, 3, 1, 0, []) := rfl
theorem rw_209_46 : mm_code 208 46 = some (.goto (-18), 3, 28, 0, []) := rfl
theorem rw_209_49 : mm_code 208 49 = some (.aload_n 0, 1, 0, 0, []) := rfl
theorem rw_209_50 : mm_code 208 50 = some (.getfield 82, 3, 11, 40, [3, 24]) := rfl
theorem rw_209_53 : mm_code 208 53 = some (.iconst 0, 1, 0, 0, []) := rfl
theorem rw_209_54 : mm_code 208 54 = some (.aload_n 0, 1, 0, 0, []) := rfl
theorem rw_209_55 : mm_code 208 55 = some (.getfield 239, 3, 11, 28, [0, 75]) := rfl
theorem rw_209_58 : mm_code 208 58 = some (.iastore, 1, 0, 0, []) := rfl
theorem rw_209_59 : mm_code 208 59 = some (.aload_n 0, 1, 0, 0, []) := rfl
theorem rw_209_60 : mm_code 208 60 = some (.iconst 0, 1, 0, 0, []) := rfl
theorem rw_209_61 : mm_code 208 61 = some (.putfield 252, 3, 11, 41, [0, 79]) := rfl
theorem rw_209_64 : mm_code 208 64 = some (.aload_n 0, 1, 0, 0, []) := rfl
theorem rw_209_65 : mm_code 208 65 = some (.getfield 239, 3, 11, 28, [0, 75]) := rfl
theorem rw_209_68 : mm_code 208 68 = some (.ireturn, 1, 0, 0, []) := rfl
theorem rw_210_0 : mm_code 209 0 = some (.aload_n 0, 1, 0, 0, []) := rfl
theorem rw_210_1 : mm_code 209 1 = some (.getfield 79, 3, 11, 39, [3, 23]) := rfl
theorem rw_210_4 : mm_code 209 4 = some (.bipush 30, 2, 30, 0, []) := rfl
theorem rw_210_6 : mm_code 209 6 = some (.iload_n 1, 1, 0, 0, []) := rfl
theorem rw_210_7 : mm_code 209 7 = some (.imul, 1, 0, 0, []) := rfl
theorem rw_210_8 : mm_code 209 8 = some (.aload_n 0, 1, 0, 0, []) := rfl
theorem rw_210_9 : mm_code 209 9 = some (.getfield 82, 3, 11, 40, [3, 24]) := rfl
theorem rw_210_12 : mm_code 209 12 = some (.iload_n 1, 1, 0, 0, []) := rfl
theorem rw_210_13 : mm_code 209 13 = some (.iaload, 1, 0, 0, []) := rfl
theorem rw_210_14 : mm_code 209 14 = some (.iadd, 1, 0, 0, []) := rfl
theorem rw_210_15 : mm_code 209 15 = some (.iload_n 2, 1, 0, 0, []) := rfl
theorem rw_210_16 : mm_code 209 16 = some (.iastore, 1, 0, 0, []) := rfl
theorem rw_210_17 : mm_code 209 17 = some (.aload_n 0, 1, 0, 0, []) := rfl
theorem rw_210_18 : mm_code 209 18 = some (.getfield 82, 3, 11, 40, [3, 24]) := rfl
theorem rw_210_21 : mm_code 209 21 = some (.iload_n 1, 1, 0, 0, []) := rfl
theorem rw_210_22 : mm_code 209 22 = some (.dup2, 1, 0, 0, []) := rfl
theorem rw_210_23 : mm_code 209 23 = some (.iaload, 1, 0, 0, []) := rfl
theorem rw_210_24 : mm_code 209 24 = some (.iconst 1, 1, 1, 0, []) := rfl
theorem rw_210_25 : mm_code 209 25 = some (.iadd, 1, 0, 0, []) := rfl
theorem rw_210_26 : mm_code 209 26 = some (.iastore, 1, 0, 0, []) := rfl
theorem rw_210_27 : mm_code 209 27 = some (.return_, 1, 0, 0, []) := rfl
theorem rw_211_0 : mm_code 210 0 = some (.aload_n 0, 1, 0, 0, []) := rfl
theorem rw_211_1 : mm_code 210 1 = some (.getfield 185, 3, 11, 8, [0, 58]) := rfl
theorem rw_211_4 : mm_code 210 4 = some (.iconst 2, 1, 2, 0, []) := rfl
theorem rw_211_5 : mm_code 210 5 = some (.if_icmp .ne 26, 3, 31, 0, []) := rfl
theorem rw_211_8 : mm_code 210 8 = some (.aload_n 0, 1, 0, 0, []) := rfl
theorem rw_211_9 : mm_code 210 9 = some (.getfield 196, 3, 11, 9, [0, 61]) := rfl
theorem rw_211_12 : mm_code 210 12 = some (.ldc_w 353, 3, 33554431, 0, [110]) := rfl
theorem rw_211_15 : mm_code 210 15 = some (.iand, 1, 0, 0, []) := rfl
theorem rw_211_16 : mm_code 210 16 = some (.ifCond .ne 15, 3, 31, 0, []) := rfl
theorem rw_211_19 : mm_code 210 19 = some (.aload_n 0, 1, 0, 0, []) := rfl
theorem rw_211_20 : mm_code 210 20 = some (.getfield 196, 3, 11, 9, [0, 61]) := rfl
theorem rw_211_23 : mm_code 210 23 = some (.bipush 25, 2, 25, 0, []) := rfl
theorem rw_211_25 : mm_code 210 25 = some (.ishr, 1, 0, 0, []) := rfl
theorem rw_211_26 : mm_code 210 26 = some (.iconst 1, 1, 1, 0, []) := rfl
theorem rw_211_27 : mm_code 210 27 = some (.isub, 1, 0, 0, []) := rfl
theorem rw_211_28 : mm_code 210 28 = some (.goto 4, 3, 32, 0, []) := rfl
theorem rw_211_31 : mm_code 210 31 = some (.iconst (-1), 1, 1, 1, []) := rfl
theorem rw_211_32 : mm_code 210 32 = some (.istore_n 1, 1, 0, 0, []) := rfl
theorem rw_211_33 : mm_code 210 33 = some (.iload_n 1, 1, 0, 0, []) := rfl
theorem rw_211_34 : mm_code 210 34 = some (.ifCond .lt 8, 3, 42, 0, []) := rfl
theorem rw_211_37 : mm_code 210 37 = some (.iload_n 1, 1, 0, 0, []) := rfl
theorem rw_211_38 : mm_code 210 38 = some (.iconst 5, 1, 5, 0, []) := rfl
theorem rw_211_39 : mm_code 210 39 = some (.if_icmp .le 11, 3, 50, 0, []) := rfl
theorem rw_211_42 : mm_code 210 42 = some (.aload_n 0, 1, 0, 0, []) := rfl
theorem rw_211_43 : mm_code 210 43 = some (.iconst 1, 1, 1, 0, []) := rfl
theorem rw_211_44 : mm_code 210 44 = some (.invokevirtual 208, 3, 151, 2, [65, 0]) := rfl
theorem rw_211_47 : mm_code 210 47 = some (.istore_n 2, 1, 0, 0, []) := rfl
theorem rw_211_48 : mm_code 210 48 = some (.iconst (-1), 1, 1, 1, []) := rfl
theorem rw_211_49 : mm_code 210 49 = some (.ireturn, 1, 0, 0, []) := rfl
theorem rw_211_50 : mm_code 210 50 = some (.iload_n 1, 1, 0, 0, []) := rfl
theorem rw_211_51 : mm_code 210 51 = some (.ireturn, 1, 0, 0, []) := rfl
theorem rw_212_0 : mm_code 211 0 = some (.aload_n 0, 1, 0, 0, []) := rfl
theorem rw_212_1 : mm_code 211 1 = some (.getfield 185, 3, 11, 8, [0, 58]) := rfl
theorem rw_212_4 : mm_code 211 4 = some (.iconst 3, 1, 3, 0, []) := rfl
theorem rw_212_5 : mm_code 211 5 = some (.if_icmp .ne 40, 3, 45, 0, []) := rfl
theorem rw_212_8 : mm_code 211 8 = some (.aload_n 0, 1, 0, 0, []) := rfl
theorem rw_212_9 : mm_code 211 9 = some (.iconst 0, 1, 0, 0, []) := rfl
theorem rw_212_10 : mm_code 211 10 = some (.aload_n 0, 1, 0, 0, []) := rfl
theorem rw_212_11 : mm_code 211 11 = some (.getfield 230, 3, 11, 11, [0, 72]) := rfl
theorem rw_212_14 : mm_code 211 14 = some (.iconst 1, 1, 1, 0, []) := rfl
theorem rw_212_15 : mm_code 211 15 = some (.isub, 1, 0, 0, []) := rfl
theorem rw_212_16 : mm_code 211 16 = some (.invokevirtual 266, 3, 161, 3, [83, 0]) := rfl
theorem rw_212_19 : mm_code 211 19 = some (.ifCond .ne 5, 3, 24, 0, []) := rfl
theorem rw_212_22 : mm_code 211 22 = some (.iconst 0, 1, 0, 0, []) := rfl
theorem rw_212_23 : mm_code 211 23 = some (.ireturn, 1, 1, 0, []) := rfl
theorem rw_212_24 : mm_code 211 24 = some (.aload_n 0, 1, 0, 0, []) := rfl
theorem rw_212_25 : mm_code 211 25 = some (.getfield 100, 3, 11, 50, [3, 30]) := rfl
theorem rw_212_28 : mm_code 211 28 = some (.iload_n 1, 1, 0, 0, []) := rfl
theorem rw_212_29 : mm_code 211 29 = some (.dup2, 1, 0, 0, []) := rfl
theorem rw_212_30 : mm_code 211 30 = some (.laload, 1, 0, 0, []) := rfl
theorem rw_212_31 : mm_code 211 31 = some (.lconst 1, 1, 1, 0, []) := rfl
theorem rw_212_32 : mm_code 211 32 = some (.aload_n 0, 1, 0, 0, []) := rfl
theorem rw_212_33 : mm_code 211 33 = some (.getfield 196, 3, 11, 9, [0, 61]) := rfl
theorem rw_212_36 : mm_code 211 36 = some (.lshl, 1, 0, 0, []) := rfl
theorem rw_212_37 : mm_code 211 37 = some (.lor, 1, 0, 0, []) := rfl
theorem rw_212_38 : mm_code 211 38 = some (.lastore, 1, 0, 0, []) := rfl
theorem rw_212_39 : mm_code 211 39 = some (.aload_n 0, 1, 0, 0, []) := rfl
theorem rw_212_40 : mm_code 211 40 = some (.invokevirtual 211, 3, 155, 1, [66, 0]) := rfl
theorem rw_212_43 : mm_code 211 43 = some (.iconst 1, 1, 1, 0, []) := rfl
theorem rw_212_44 : mm_code 211 44 = some (.ireturn, 1, 1, 0, []) := rfl
theorem rw_212_45 : mm_code 211 45 = some (.aload_n 0, 1, 0, 0, []) := rfl
theorem rw_212_46 : mm_code 211 46 = some (.aload_n 0, 1, 0, 0, []) := rfl
theorem rw_212_47 : mm_code 211 47 = some (.getfield 196, 3, 11, 9, [0, 61]) := rfl
theorem rw_212_50 : mm_code 211 50 = some (.invokevirtual 290, 3, 174, 2, [90, 0]) := rfl
theorem rw_212_53 : mm_code 211 53 = some (.istore_n 2, 1, 0, 0, []) := rfl
theorem rw_212_54 : mm_code 211 54 = some (.aload_n 0, 1, 0, 0, []) := rfl
theorem rw_212_55 : mm_code 211 55 = some (.aload_n 0, 1, 0, 0, []) := rfl
theorem rw_212_56 : mm_code 211 56 = some (.getfield 196, 3, 11, 9, [0, 61]) := rfl
theorem rw_212_59 : mm_code 211 59 = some (.invokevirtual 293, 3, 175, 2, [91, 0]) := rfl
theorem rw_212_62 : mm_code 211 62 = some (.istore_n 3, 1, 0, 0, []) := rfl
theorem rw_212_63 : mm_code 211 63 = some (.iload_n 2, 1, 0, 0, []) := rfl
theorem rw_212_64 : mm_code 211 64 = some (.ifCond .ge 13, 3, 77, 0, []) := rfl
theorem rw_212_67 : mm_code 211 67 = some (.iload_n 3, 1, 0, 0, []) := rfl
theorem rw_212_68 : mm_code 211 68 = some (.ifCond .ge 9, 3, 77, 0, []) := rfl
theorem rw_212_71 : mm_code 211 71 = some (.aload_n 0, 1, 0, 0, []) := rfl
theorem rw_212_72 : mm_code 211 72 = some (.iconst 4, 1, 4, 0, []) := rfl
theorem rw_212_73 : mm_code 211 73 = some (.invokevirtual 208, 3, 151, 2, [65, 0]) := rfl
theorem rw_212_76 : mm_code 211 76 = some (.ireturn, 1, 1, 0, []) := rfl
theorem rw_212_77 : mm_code 211 77 = some (.aload_n 0, 1, 0, 0, []) := rfl
theorem rw_212_78 : mm_code 211 78 = some (.invokevirtual 211, 3, 155, 1, [66, 0]) := rfl
theorem rw_212_81 : mm_code 211 81 = some (.iload_n 3, 1, 0, 0, []) := rfl
theorem rw_212_82 : mm_code 211 82 = some (.ifCond .lt 17, 3, 99, 0, []) := rfl
theorem rw_212_85 : mm_code 211 85 = some (.aload_n 0, 1, 0, 0, []) := rfl
theorem rw_212_86 : mm_code 211 86 = some (.getfield 103, 3, 11, 51, [3, 31]) := rfl
theorem rw_212_89 : mm_code 211 89 = some (.iload_n 1, 1, 0, 0, []) := rfl
theorem rw_212_90 : mm_code 211 90 = some (.dup2, 1, 0, 0, []) := rfl
theorem rw_212_91 : mm_code 211 91 = some (.iaload, 1, 0, 0, []) := rfl
theorem rw_212_92 : mm_code 211 92 = some (.iconst 1, 1, 1, 0, []) := rfl
theorem rw_212_93 : mm_code 211 93 = some (.iload_n 3, 1, 0, 0, []) := rfl
theorem rw_212_94 : mm_code 211 94 = some (.ishl, 1, 0, 0, []) := rfl
theorem rw_212_95 : mm_code 211 95 = some (.ior, 1, 0, 0, []) := rfl
theorem rw_212_96 : mm_code 211 96 = some (.iastore, 1, 0, 0, []) := rfl
theorem rw_212_97 : mm_code 211 97 = some (.iconst 1, 1, 1, 0, []) := rfl
theorem rw_212_98 : mm_code 211 98 = some (.ireturn, 1, 1, 0, []) := rfl
theorem rw_212_99 : mm_code 211 99 = some (.aload_n 0, 1, 0, 0, []) := rfl
theorem rw_212_100 : mm_code 211 100 = some (.iconst 0, 1, 0, 0, []) := rfl
theorem rw_212_101 : mm_code 211 101 = some (.aload_n 0, 1, 0, 0, []) := rfl
theorem rw_212_102 : mm_code 211 102 = some (.getfield 29, 3, 11, 20, [3, 7]) := rfl
theorem rw_212_105 : mm_code 211 105 = some (.iload_n 2, 1, 0, 0, []) := rfl
theorem rw_212_106 : mm_code 211 106 = some (.iaload, 1, 0, 0, []) := rfl
theorem rw_212_107 : mm_code 211 107 = some (.aload_n 0, 1, 0, 0, []) := rfl
theorem rw_212_108 : mm_code 211 108 = some (.getfield 26, 3, 11, 19, [3, 6]) := rfl
theorem rw_212_111 : mm_code 211 111 = some (.iload_n 2, 1, 0, 0, []) := rfl
theorem rw_212_112 : mm_code 211 112 = some (.iaload, 1, 0, 0, []) := rfl
theorem rw_212_113 : mm_code 211 113 = some (.isub, 1, 0, 0, []) := rfl
theorem rw_212_114 : mm_code 211 114 = some (.invokevirtual 266, 3, 161, 3, [83, 0]) := rfl
theorem rw_212_117 : mm_code 211 117 = some (.ifCond .ne 5, 3, 122, 0, []) := rfl
theorem rw_212_120 : mm_code 211 120 = some (.iconst 0, 1, 0, 0, []) := rfl
theorem rw_212_121 : mm_code 211 121 = some (.ireturn, 1, 1, 0, []) := rfl
theorem rw_212_122 : mm_code 211 122 = some (.aload_n 0, 1, 0, 0, []) := rfl
theorem rw_212_123 : mm_code 211 123 = some (.getfield 100, 3, 11, 50, [3, 30]) := rfl
theorem rw_212_126 : mm_code 211 126 = some (.iload_n 1, 1, 0, 0, []) := rfl
theorem rw_212_127 : mm_code 211 127 = some (.dup2, 1, 0, 0, []) := rfl
theorem rw_212_128 : mm_code 211 128 = some (.laload, 1, 0, 0, []) := rfl
theorem rw_212_129 : mm_code 211 129 = some (.lconst 1, 1, 1, 0, []) := rfl
theorem rw_212_130 : mm_code 211 130 = some (.aload_n 0, 1, 0, 0, []) := rfl
theorem rw_212_131 : mm_code 211 131 = some (.getfield 26, 3, 11, 19, [3, 6]) := rfl
theorem rw_212_134 : mm_code 211 134 = some (.iload_n 2, 1, 0, 0, []) := rfl
theorem rw_212_135 : mm_code 211 135 = some (.iaload, 1, 0, 0, []) := rfl
theorem rw_212_136 : mm_code 211 136 = some (.aload_n 0, 1, 0, 0, []) := rfl
theorem rw_212_137 : mm_code 211 137 = some (.getfield 196, 3, 11, 9, [0, 61]) := rfl
theorem rw_212_140 : mm_code 211 140 = some (.iadd, 1, 0, 0, []) := rfl
theorem rw_212_141 : mm_code 211 141 = some (.lshl, 1, 0, 0, []) := rfl
theorem rw_212_142 : mm_code 211 142 = some (.lor, 1, 0, 0, []) := rfl
theorem rw_212_143 : mm_code 211 143 = some (.lastore, 1, 0, 0, []) := rfl
theorem rw_212_144 : mm_code 211 144 = some (.aload_n 0, 1, 0, 0, []) := rfl
theorem rw_212_145 : mm_code 211 145 = some (.invokevirtual 211, 3, 155, 1, [66, 0]) := rfl
theorem rw_212_148 : mm_code 211 148 = some (.iconst 1, 1, 1, 0, []) := rfl
theorem rw_212_149 : mm_code 211 149 = some (.ireturn, 1, 1, 0, []) := rfl
theorem rw_213_0 : mm_code 212 0 = some (.aload_n 0, 1, 0, 0, []) := rfl
theorem rw_213_1 : mm_code 212 1 = some (.getfield 88, 3, 11, 46, [3, 26]) := rfl
theorem rw_213_4 : mm_code 212 4 = some (.iload_n 1, 1, 0, 0, []) := rfl
theorem rw_213_5 : mm_code 212 5 = some (.aload_n 0, 1, 0, 0, []) := rfl
theorem rw_213_6 : mm_code 212 6 = some (.invokevirtual 354, 3, 210, 1, [111, 0]) := rfl
theorem rw_213_9 : mm_code 212 9 = some (.iastore, 1, 0, 0, []) := rfl
theorem rw_213_10 : mm_code 212 10 = some (.aload_n 0, 1, 0, 0, []) := rfl
theorem rw_213_11 : mm_code 212 11 = some (.getfield 88, 3, 11, 46, [3, 26]) := rfl
theorem rw_213_14 : mm_code 212 14 = some (.iload_n 1, 1, 0, 0, []) := rfl
theorem rw_213_15 : mm_code 212 15 = some (.iaload, 1, 0, 0, []) := rfl
theorem rw_213_16 : mm_code 212 16 = some (.ifCond .ge 5, 3, 21, 0, []) := rfl
theorem rw_213_19 : mm_code 212 19 = some (.iconst 0, 1, 0, 0, []) := rfl
theorem rw_213_20 : mm_code 212 20 = some (.ireturn, 1, 1, 0, []) := rfl
theorem rw_213_21 : mm_code 212 21 = some (.aload_n 0, 1, 0, 0, []) := rfl
theorem rw_213_22 : mm_code 212 22 = some (.invokevirtual 211, 3, 155, 1, [66, 0]) := rfl
theorem rw_213_25 : mm_code 212 25 = some (.aload_n 0, 1, 0, 0, []) := rfl
theorem rw_213_26 : mm_code 212 26 = some (.bipush 8, 2, 8, 0, []) := rfl
theorem rw_213_28 : mm_code 212 28 = some (.invokevirtual 358, 3, 160, 2, [112, 0]) := rfl
theorem rw_213_31 : mm_code 212 31 = some (.ifCond .ne 5, 3, 36, 0, []) := rfl
theorem rw_213_34 : mm_code 212 34 = some (.iconst 0, 1, 0, 0, []) := rfl
theorem rw_213_35 : mm_code 212 35 = some (.ireturn, 1, 1, 0, []) := rfl
theorem rw_213_36 : mm_code 212 36 = some (.aload_n 0, 1, 0, 0, []) := rfl
theorem rw_213_37 : mm_code 212 37 = some (.getfield 91, 3, 11, 47, [3, 27]) := rfl
theorem rw_213_40 : mm_code 212 40 = some (.iload_n 1, 1, 0, 0, []) := rfl
theorem rw_213_41 : mm_code 212 41 = some (.aload_n 0, 1, 0, 0, []) := rfl
theorem rw_213_42 : mm_code 212 42 = some (.invokevirtual 354, 3, 210, 1, [111, 0]) := rfl
theorem rw_213_45 : mm_code 212 45 = some (.iastore, 1, 0, 0, []) := rfl
theorem rw_213_46 : mm_code 212 46 = some (.aload_n 0, 1, 0, 0, []) := rfl
theorem rw_213_47 : mm_code 212 47 = some (.getfield 91, 3, 11, 47, [3, 27]) := rfl
theorem rw_213_50 : mm_code 212 50 = some (.iload_n 1, 1, 0, 0, []) := rfl
theorem rw_213_51 : mm_code 212 51 = some (.iaload, 1, 0, 0, []) := rfl
theorem rw_213_52 : mm_code 212 52 = some (.ifCond .ge 5, 3, 57, 0, []) := rfl
theorem rw_213_55 : mm_code 212 55 = some (.iconst 0, 1, 0, 0, []) := rfl
theorem rw_213_56 : mm_code 212 56 = some (.ireturn, 1, 1, 0, []) := rfl
theorem rw_213_57 : mm_code 212 57 = some (.aload_n 0, 1, 0, 0, []) := rfl
theorem rw_213_58 : mm_code 212 58 = some (.invokevirtual 211, 3, 155, 1, [66, 0]) := rfl
theorem rw_213_61 : mm_code 212 61 = some (.aload_n 0, 1, 0, 0, []) := rfl
theorem rw_213_62 : mm_code 212 62 = some (.getfield 94, 3, 11, 48, [3, 28]) := rfl
theorem rw_213_65 : mm_code 212 65 = some (.iload_n 1, 1, 0, 0, []) := rfl
theorem rw_213_66 : mm_code 212 66 = some (.aload_n 0, 1, 0, 0, []) := rfl
theorem rw_213_67 : mm_code 212 67 = some (.invokevirtual 354, 3, 210, 1, [111, 0]) := rfl
theorem rw_213_70 : mm_code 212 70 = some (.iastore, 1, 0, 0, []) := rfl
theorem rw_213_71 : mm_code 212 71 = some (.aload_n 0, 1, 0, 0, []) := rfl
theorem rw_213_72 : mm_code 212 72 = some (.getfield 94, 3, 11, 48, [3, 28]) := rfl
theorem rw_213_75 : mm_code 212 75 = some (.iload_n 1, 1, 0, 0, []) := rfl
theorem rw_213_76 : mm_code 212 76 = some (.iaload, 1, 0, 0, []) := rfl
theorem rw_213_77 : mm_code 212 77 = some (.ifCond .ge 5, 3, 82, 0, []) := rfl
theorem rw_213_80 : mm_code 212 80 = some (.iconst 0, 1, 0, 0, []) := rfl
theorem rw_213_81 : mm_code 212 81 = some (.ireturn, 1, 1, 0, []) := rfl
theorem rw_213_82 : mm_code 212 82 = some (.aload_n 0, 1, 0, 0, []) := rfl
theorem rw_213_83 : mm_code 212 83 = some (.invokevirtual 211, 3, 155, 1, [66, 0]) := rfl
theorem rw_213_86 : mm_code 212 86 = some (.aload_n 0, 1, 0, 0, []) := rfl
theorem rw_213_87 : mm_code 212 87 = some (.bipush 9, 2, 9, 0, []) := rfl
theorem rw_213_89 : mm_code 212 89 = some (.invokevirtual 358, 3, 160, 2, [112, 0]) := rfl
theorem rw_213_92 : mm_code 212 92 = some (.ifCond .ne 5, 3, 97, 0, []) := rfl
theorem rw_213_95 : mm_code 212 95 = some (.iconst 0, 1, 0, 0, []) := rfl
theorem rw_213_96 : mm_code 212 96 = some (.ireturn, 1, 1, 0, []) := rfl
theorem rw_213_97 : mm_code 212 97 = some (.aload_n 0, 1, 0, 0, []) := rfl
theorem rw_213_98 : mm_code 212 98 = some (.getfield 185, 3, 11, 8, [0, 58]) := rfl
theorem rw_213_101 : mm_code 212 101 = some (.iconst 3, 1, 3, 0, []) := rfl
theorem rw_213_102 : mm_code 212 102 = some (.if_icmp .eq 17, 3, 119, 0, []) := rfl
theorem rw_213_105 : mm_code 212 105 = some (.aload_n 0, 1, 0, 0, []) := rfl
theorem rw_213_106 : mm_code 212 106 = some (.getfield 185, 3, 11, 8, [0, 58]) := rfl
theorem rw_213_109 : mm_code 212 109 = some (.iconst 2, 1, 2, 0, []) := rfl
theorem rw_213_110 : mm_code 212 110 = some (.if_icmp .eq 9, 3, 119, 0, []) := rfl
theorem rw_213_113 : mm_code 212 113 = some (.aload_n 0, 1, 0, 0, []) := rfl
theorem rw_213_114 : mm_code 212 114 = some (.iconst 1, 1, 1, 0, []) := rfl
theorem rw_213_115 : mm_code 212 115 = some (.invokevirtual 208, 3, 151, 2, [65, 0]) := rfl
theorem rw_213_118 : mm_code 212 118 = some (.ireturn, 1, 1, 0, []) := rfl
theorem rw_213_119 : mm_code 212 119 = some (.aload_n 0, 1, 0, 0, []) := rfl
theorem rw_213_120 : mm_code 212 120 = some (.getfield 100, 3, 11, 50, [3, 30]) := rfl
theorem rw_213_123 : mm_code 212 123 = some (.iload_n 1, 1, 0, 0, []) := rfl
theorem rw_213_124 : mm_code 212 124 = some (.lconst 0, 1, 0, 0, []) := rfl
theorem rw_213_125 : mm_code 212 125 = some (.lastore, 1, 0, 0, []) := rfl
theorem rw_213_126 : mm_code 212 126 = some (.aload_n 0, 1, 0, 0, []) := rfl
theorem rw_213_127 : mm_code 212 127 = some (.getfield 103, 3, 11, 51, [3, 31]) := rfl
theorem rw_213_130 : mm_code 212 130 = some (.iload_n 1, 1, 0, 0, []) := rfl
theorem rw_213_131 : mm_code 212 131 = some (.iconst 0, 1, 0, 0, []) := rfl
theorem rw_213_132 : mm_code 212 132 = some (.iastore, 1, 0, 0, []) := rfl
theorem rw_213_133 : mm_code 212 133 = some (.aload_n 0, 1, 0, 0, []) := rfl
theorem rw_213_134 : mm_code 212 134 = some (.getfield 185, 3, 11, 8, [0, 58]) := rfl
theorem rw_213_137 : mm_code 212 137 = some (.iconst 3, 1, 3, 0, []) := rfl
theorem rw_213_138 : mm_code 212 138 = some (.if_icmp .eq 11, 3, 149, 0, []) := rfl
theorem rw_213_141 : mm_code 212 141 = some (.aload_n 0, 1, 0, 0, []) := rfl
theorem rw_213_142 : mm_code 212 142 = some (.getfield 185, 3, 11, 8, [0, 58]) := rfl
theorem rw_213_145 : mm_code 212 145 = some (.iconst 2, 1, 2, 0, []) := rfl
theorem rw_213_146 : mm_code 212 146 = some (.if_icmp .ne 13, 3, 159, 0, []) := rfl
theorem rw_213_149 : mm_code 212 149 = some (.aload_n 0, 1, 0, 0, []) := rfl
theorem rw_213_150 : mm_code 212 150 = some (.iload_n 1, 1, 0, 0, []) := rfl
theorem rw_213_151 : mm_code 212 151 = some (.invokevirtual 361, 3, 211, 2, [113, 0]) := rfl
theorem rw_213_154 : mm_code 212 154 = some (.ifCond .ne (-21), 3, 133, 0, []) := rfl
theorem rw_213_157 : mm_code 212 157 = some (.iconst 0, 1, 0, 0, []) := rfl
theorem rw_213_158 : mm_code 212 158 = some (.ireturn, 1, 1, 0, []) := rfl
theorem rw_213_159 : mm_code 212 159 = some (.aload_n 0, 1, 0, 0, []) := rfl
theorem rw_213_160 : mm_code 212 160 = some (.bipush 59, 2, 59, 0, []) := rfl
theorem rw_213_162 : mm_code 212 162 = some (.invokevirtual 280, 3, 159, 2, [87, 0]) := rfl
theorem rw_213_165 : mm_code 212 165 = some (.ireturn, 1, 1, 0, []) := rfl
theorem rw_214_0 : mm_code 213 0 = some (.aload_n 0, 1, 0, 0, []) := rfl
theorem rw_214_1 : mm_code 213 1 = some (.getfield 88, 3, 11, 46, [3, 26]) := rfl
theorem rw_214_4 : mm_code 213 4 = some (.iload_n 1, 1, 0, 0, []) := rfl
theorem rw_214_5 : mm_code 213 5 = some (.aload_n 0, 1, 0, 0, []) := rfl
theorem rw_214_6 : mm_code 213 6 = some (.invokevirtual 354, 3, 210, 1, [111, 0]) := rfl
theorem rw_214_9 : mm_code 213 9 = some (.iastore, 1, 0, 0, []) := rfl
theorem rw_214_10 : mm_code 213 10 = some (.aload_n 0, 1, 0, 0, []) := rfl
theorem rw_214_11 : mm_code 213 11 = some (.getfield 88, 3, 11, 46, [3, 26]) := rfl
theorem rw_214_14 : mm_code 213 14 = some (.iload_n 1, 1, 0, 0, []) := rfl
theorem rw_214_15 : mm_code 213 15 = some (.iaload, 1, 0, 0, []) := rfl
theorem rw_214_16 : mm_code 213 16 = some (.ifCond .ge 5, 3, 21, 0, []) := rfl
theorem rw_214_19 : mm_code 213 19 = some (.iconst 0, 1, 0, 0, []) := rfl
theorem rw_214_20 : mm_code 213 20 = some (.ireturn, 1, 1, 0, []) := rfl
theorem rw_214_21 : mm_code 213 21 = some (.aload_n 0, 1, 0, 0, []) := rfl
theorem rw_214_22 : mm_code 213 22 = some (.invokevirtual 211, 3, 155, 1, [66, 0]) := rfl
theorem rw_214_25 : mm_code 213 25 = some (.aload_n 0, 1, 0, 0, []) := rfl
theorem rw_214_26 : mm_code 213 26 = some (.getfield 91, 3, 11, 47, [3, 27]) := rfl
theorem rw_214_29 : mm_code 213 29 = some (.iload_n 1, 1, 0, 0, []) := rfl
theorem rw_214_30 : mm_code 213 30 = some (.aload_n 0, 1, 0, 0, []) := rfl
theorem rw_214_31 : mm_code 213 31 = some (.invokevirtual 354, 3, 210, 1, [111, 0]) := rfl
theorem rw_214_34 : mm_code 213 34 = some (.iastore, 1, 0, 0, []) := rfl
theorem rw_214_35 : mm_code 213 35 = some (.aload_n 0, 1, 0, 0, []) := rfl
theorem rw_214_36 : mm_code 213 36 = some (.getfield 91, 3, 11, 47, [3, 27]) := rfl
theorem rw_214_39 : mm_code 213 39 = some (.iload_n 1, 1, 0, 0, []) := rfl
theorem rw_214_40 : mm_code 213 40 = some (.iaload, 1, 0, 0, []) := rfl
theorem rw_214_41 : mm_code 213 41 = some (.ifCond .ge 5, 3, 46, 0, []) := rfl
theorem rw_214_44 : mm_code 213 44 = some (.iconst 0, 1, 0, 0, []) := rfl
theorem rw_214_45 : mm_code 213 45 = some (.ireturn, 1, 1, 0, []) := rfl
theorem rw_214_46 : mm_code 213 46 = some (.aload_n 0, 1, 0, 0, []) := rfl
theorem rw_214_47 : mm_code 213 47 = some (.getfield 91, 3, 11, 47, [3, 27]) := rfl
theorem rw_214_50 : mm_code 213 50 = some (.iload_n 1, 1, 0, 0, []) := rfl
theorem rw_214_51 : mm_code 213 51 = some (.iaload, 1, 0, 0, []) := rfl
theorem rw_214_52 : mm_code 213 52 = some (.aload_n 0, 1, 0, 0, []) := rfl
theorem rw_214_53 : mm_code 213 53 = some (.getfield 88, 3, 11, 46, [3, 26]) := rfl
theorem rw_214_56 : mm_code 213 56 = some (.iload_n 1, 1, 0, 0, []) := rfl
theorem rw_214_57 : mm_code 213 57 = some (.iaload, 1, 0, 0, []) := rfl
theorem rw_214_58 : mm_code 213 58 = some (.if_icmp .ne 9, 3, 67, 0, []) := rfl
end
