/-! STEPS, with numbers told by what they are as integers; every memory is a variable -/
theorem i_of {x : Int32} : -2147483648 ≤ x.toInt ∧ x.toInt ≤ 2147483647 := ⟨Int32.le_toInt x, by have := Int32.toInt_lt x; omega⟩
theorem i_bm {z : Int} (h : -2147483648 ≤ z ∧ z ≤ 2147483647) : z.bmod (2 ^ 32) = z := by
  rw [Int.bmod_eq_of_le] <;> omega
theorem i_add {x y : Int32} {A B : Int} (ex : x.toInt = A) (ey : y.toInt = B) (h : -2147483648 ≤ A + B ∧ A + B ≤ 2147483647) : (x + y).toInt = A + B := by
  rw [Int32.toInt_add, ex, ey, i_bm h]
theorem i_sub {x y : Int32} {A B : Int} (ex : x.toInt = A) (ey : y.toInt = B) (h : -2147483648 ≤ A - B ∧ A - B ≤ 2147483647) : (x - y).toInt = A - B := by
  rw [Int32.toInt_sub, ex, ey, i_bm h]
theorem i_mul {x y : Int32} {A B : Int} (ex : x.toInt = A) (ey : y.toInt = B) (h : -2147483648 ≤ A * B ∧ A * B ≤ 2147483647) : (x * y).toInt = A * B := by
  rw [Int32.toInt_mul, ex, ey, i_bm h]
theorem i_lt {x y : Int32} {A B : Int} (ex : x.toInt = A) (ey : y.toInt = B) : x < y ↔ A < B := by rw [Int32.lt_iff_toInt_lt, ex, ey]
theorem i_le {x y : Int32} {A B : Int} (ex : x.toInt = A) (ey : y.toInt = B) : x ≤ y ↔ A ≤ B := by rw [Int32.le_iff_toInt_le, ex, ey]
theorem i_eq {x y : Int32} {A B : Int} (ex : x.toInt = A) (ey : y.toInt = B) : x = y ↔ A = B := by rw [← Int32.toInt_inj, ex, ey]
theorem i_and {x y : Int32} {B : Int} (ey : y.toInt = B) (h : 0 ≤ B) : 0 ≤ (x &&& y).toInt ∧ (x &&& y).toInt ≤ B := by
  have hy : y.toBitVec.msb = false := by
    rw [BitVec.msb_eq_toInt]
    have : y.toBitVec.toInt = B := ey
    simp only [this, decide_eq_false_iff_not]; omega
  have e : (x &&& y).toInt = ((x.toBitVec &&& y.toBitVec).toNat : Int) := by
    show (x &&& y).toBitVec.toInt = _
    rw [Int32.toBitVec_and, BitVec.toInt_eq_toNat_of_msb (by rw [BitVec.msb_and, hy, Bool.and_false])]
  have e2 : B = (y.toBitVec.toNat : Int) := by
    rw [← ey]
    show y.toBitVec.toInt = _
    rw [BitVec.toInt_eq_toNat_of_msb hy]
  have h3 : (x.toBitVec &&& y.toBitVec).toNat ≤ y.toBitVec.toNat := by
    rw [BitVec.toNat_and]
    exact Nat.and_le_right
  rw [e, e2]
  omega
theorem i_and' {x y : Int32} {B : Int} (ex : x.toInt = B) (h : 0 ≤ B) : 0 ≤ (x &&& y).toInt ∧ (x &&& y).toInt ≤ B := by
  have e : x &&& y = y &&& x := by
    apply Int32.toBitVec_inj.mp
    rw [Int32.toBitVec_and, Int32.toBitVec_and, BitVec.and_comm]
  rw [e]
  exact i_and ex h
section SS
variable {X : mm_X} {d mi pc : Nat} {ls st : List Value} {M : mm_M} {Q : Option Value → mm_M → Prop} {len a b : Nat} {ps : List Nat} {x y : Int32} {A B : Int}
theorem s_add (hc : mm_code mi pc = some (.iadd, len, a, b, ps)) (ex : x.toInt = A) (ey : y.toInt = B) (hr : -2147483648 ≤ A + B ∧ A + B ≤ 2147483647) (h : ∀ v : Int32, v.toInt = A + B → mm_T X d mi (pc + len) ls (.int v :: st) M Q) : mm_T X d mi pc ls (.int y :: .int x :: st) M Q := tt_1 hc (h (x + y) (i_add ex ey hr))
theorem s_sub (hc : mm_code mi pc = some (.isub, len, a, b, ps)) (ex : x.toInt = A) (ey : y.toInt = B) (hr : -2147483648 ≤ A - B ∧ A - B ≤ 2147483647) (h : ∀ v : Int32, v.toInt = A - B → mm_T X d mi (pc + len) ls (.int v :: st) M Q) : mm_T X d mi pc ls (.int y :: .int x :: st) M Q := tt_1 hc (h (x - y) (i_sub ex ey hr))
theorem s_mul (hc : mm_code mi pc = some (.imul, len, a, b, ps)) (ex : x.toInt = A) (ey : y.toInt = B) (hr : -2147483648 ≤ A * B ∧ A * B ≤ 2147483647) (h : ∀ v : Int32, v.toInt = A * B → mm_T X d mi (pc + len) ls (.int v :: st) M Q) : mm_T X d mi pc ls (.int y :: .int x :: st) M Q := tt_1 hc (h (x * y) (i_mul ex ey hr))
theorem s_and (hc : mm_code mi pc = some (.iand, len, a, b, ps)) (ey : y.toInt = B) (hr : 0 ≤ B) (h : ∀ v : Int32, x &&& y = v → 0 ≤ v.toInt → v.toInt ≤ B → mm_T X d mi (pc + len) ls (.int v :: st) M Q) : mm_T X d mi pc ls (.int y :: .int x :: st) M Q := tt_1 hc (h (x &&& y) rfl (i_and ey hr).1 (i_and ey hr).2)
theorem s_and' (hc : mm_code mi pc = some (.iand, len, a, b, ps)) (ex : x.toInt = A) (hr : 0 ≤ A) (h : ∀ v : Int32, x &&& y = v → 0 ≤ v.toInt → v.toInt ≤ A → mm_T X d mi (pc + len) ls (.int v :: st) M Q) : mm_T X d mi pc ls (.int y :: .int x :: st) M Q := tt_1 hc (h (x &&& y) rfl (i_and' ex hr).1 (i_and' ex hr).2)
theorem s_any {i : Instr} (hc : mm_code mi pc = some (i, len, a, b, ps)) (hi : ∀ x y, (mm_op2 i x y).isSome = true) (h : ∀ v : Int32, mm_T X d mi (pc + len) ls (.int v :: st) M Q) : mm_T X d mi pc ls (.int y :: .int x :: st) M Q := by
  obtain ⟨v, hv⟩ := Option.isSome_iff_exists.mp (hi x y)
  exact to_2 hc hv (h v)
theorem s_anyL {i : Instr} {x y : Int64} (hc : mm_code mi pc = some (i, len, a, b, ps)) (hi : ∀ x y, (mm_opL i x y).isSome = true) (h : ∀ v : Int64, mm_T X d mi (pc + len) ls (.long v :: st) M Q) : mm_T X d mi pc ls (.long y :: .long x :: st) M Q := by
  obtain ⟨v, hv⟩ := Option.isSome_iff_exists.mp (hi x y)
  exact to_2l hc hv (h v)
theorem s_anyS {i : Instr} {x : Int64} (hc : mm_code mi pc = some (i, len, a, b, ps)) (hi : ∀ x y, (mm_opS i x y).isSome = true) (h : ∀ v : Int64, mm_T X d mi (pc + len) ls (.long v :: st) M Q) : mm_T X d mi pc ls (.int y :: .long x :: st) M Q := by
  obtain ⟨v, hv⟩ := Option.isSome_iff_exists.mp (hi x y)
  exact to_2s hc hv (h v)
theorem s_lcmp {x y : Int64} (hc : mm_code mi pc = some (.lcmp, len, a, b, ps)) (h : ∀ v : Int32, mm_T X d mi (pc + len) ls (.int v :: st) M Q) : mm_T X d mi pc ls (.long y :: .long x :: st) M Q := to_lc hc rfl (h _)
theorem s_i2l (hc : mm_code mi pc = some (.i2l, len, a, b, ps)) (h : ∀ v : Int64, v = x.toInt64 → mm_T X d mi (pc + len) ls (.long v :: st) M Q) : mm_T X d mi pc ls (.int x :: st) M Q := to_i2l hc rfl (h _ rfl)
theorem s_l2i {x : Int64} (hc : mm_code mi pc = some (.l2i, len, a, b, ps)) (h : ∀ v : Int32, mm_T X d mi (pc + len) ls (.int v :: st) M Q) : mm_T X d mi pc ls (.long x :: st) M Q := to_l2i hc rfl (h _)
theorem s_i2b (hc : mm_code mi pc = some (.i2b, len, a, b, ps)) (h : ∀ v : Int32, mm_T X d mi (pc + len) ls (.int v :: st) M Q) : mm_T X d mi pc ls (.int x :: st) M Q := to_i2b hc rfl (h _)
theorem s_cl {i : Instr} (hc : mm_code mi pc = some (i, len, a, b, ps)) (hi : mm_isCl i = true) (h : ∀ v : Int64, mm_T X d mi (pc + len) ls (.long v :: st) M Q) : mm_T X d mi pc ls st M Q := to_cl hc hi rfl (h _)
theorem s_inc {k : Nat} {n : Int} {ls2 : Int32 → List Value} (hc : mm_code mi pc = some (.iinc k n, len, a, b, ps)) (hv : mm_at ls k = .int x) (hn : Nat.blt k ls.length = true) (hs : ∀ v, mm_set ls k (.int v) = ls2 v) (ex : x.toInt = A) (ek : (mm_i a b).toInt = B) (hr : -2147483648 ≤ A + B ∧ A + B ≤ 2147483647) (h : ∀ v : Int32, v.toInt = A + B → mm_T X d mi (pc + len) (ls2 v) st M Q) : mm_T X d mi pc ls st M Q := to_inc hc hv hn (hs _) (h _ (i_add ex ek hr))
theorem s_min {k : Nat} (hc : mm_code mi pc = some (.invokestatic k, len, 996, b, ps)) (h8 : Nat.ble (st.map fun v => v.category).sum 100 = true) (ex : x.toInt = A) (ey : y.toInt = B) (h : ∀ v : Int32, v.toInt ≤ A → v.toInt ≤ B → (v.toInt = A ∨ v.toInt = B) → mm_T X d mi (pc + len) ls (.int v :: st) M Q) : mm_T X d mi pc ls (.int y :: .int x :: st) M Q := by
  refine to_min hc h8 rfl ?_
  by_cases g : y < x
  · rw [if_pos g]
    have := (i_lt ey ex).mp g
    exact h y (by omega) (by omega) (by omega)
  · rw [if_neg g]
    have : ¬ (B < A) := fun z => g ((i_lt ey ex).mpr z)
    exact h x (by omega) (by omega) (by omega)
set_option maxRecDepth 20000 in
theorem s_max {k : Nat} (hc : mm_code mi pc = some (.invokestatic k, len, 997, b, ps)) (h8 : Nat.ble (st.map fun v => v.category).sum 100 = true) (ex : x.toInt = A) (ey : y.toInt = B) (h : ∀ v : Int32, A ≤ v.toInt → B ≤ v.toInt → (v.toInt = A ∨ v.toInt = B) → mm_T X d mi (pc + len) ls (.int v :: st) M Q) : mm_T X d mi pc ls (.int y :: .int x :: st) M Q := tt_1 hc (by
  show mm_b (Nat.ble (st.map fun v => v.category).sum 100) (mm_T X d mi (pc + len) ls (.int (if x < y then y else x) :: st) M Q) False
  rw [h8]
  show mm_T X d mi (pc + len) ls (.int (if x < y then y else x) :: st) M Q
  by_cases g : x < y
  · rw [if_pos g]
    have := (i_lt ex ey).mp g
    exact h y (by omega) (by omega) (by omega)
  · rw [if_neg g]
    have : ¬ (A < B) := fun z => g ((i_lt ex ey).mpr z)
    exact h x (by omega) (by omega) (by omega))
theorem s_r1 (hc : mm_code mi pc = some (.ireturn, len, 1, b, ps)) (ex : x.toInt = A) (h0 : 0 ≤ A ∧ A ≤ 1) (h : Q (some (.int x)) M) : mm_T X d mi pc ls [.int x] M Q := to_r1 hc (by
  rcases (show A = 0 ∨ A = 1 by omega) with z | z
  · exact Or.inl ((i_eq ex (rfl : (0 : Int32).toInt = 0)).mpr z)
  · exact Or.inr ((i_eq ex (rfl : (1 : Int32).toInt = 1)).mpr z)) h
theorem b_ceq {o : Int} (hc : mm_code mi pc = some (.if_icmp .eq o, len, a, b, ps)) (ex : x.toInt = A) (ey : y.toInt = B) (h1 : A = B → mm_T X d mi a ls st M Q) (h2 : A ≠ B → mm_T X d mi (pc + len) ls st M Q) : mm_T X d mi pc ls (.int y :: .int x :: st) M Q := by
  rcases (show A = B ∨ A ≠ B by omega) with z | z
  · exact to_ict hc (cd_of (by rw [ex, ey]; exact z)) (h1 z)
  · exact to_icf hc (cd_no (by rw [ex, ey]; intro z2; have z3 : A = B := z2; omega)) (h2 z)
theorem b_ceq_t {o : Int} (hc : mm_code mi pc = some (.if_icmp .eq o, len, a, b, ps)) (ex : x.toInt = A) (ey : y.toInt = B) (z : A = B) (h1 : mm_T X d mi a ls st M Q) : mm_T X d mi pc ls (.int y :: .int x :: st) M Q := to_ict hc (cd_of (by rw [ex, ey]; exact z)) h1
theorem b_ceq_f {o : Int} (hc : mm_code mi pc = some (.if_icmp .eq o, len, a, b, ps)) (ex : x.toInt = A) (ey : y.toInt = B) (z : A ≠ B) (h1 : mm_T X d mi (pc + len) ls st M Q) : mm_T X d mi pc ls (.int y :: .int x :: st) M Q := to_icf hc (cd_no (by rw [ex, ey]; intro z2; have z3 : A = B := z2; omega)) h1
theorem b_ieq {o : Int} (hc : mm_code mi pc = some (.ifCond .eq o, len, a, b, ps)) (ex : x.toInt = A) (h1 : A = 0 → mm_T X d mi a ls st M Q) (h2 : A ≠ 0 → mm_T X d mi (pc + len) ls st M Q) : mm_T X d mi pc ls (.int x :: st) M Q := by
  rcases (show A = 0 ∨ A ≠ 0 by omega) with z | z
  · exact to_ift hc (cd_of (by rw [ex, (rfl : (0 : Int32).toInt = 0)]; exact z)) (h1 z)
  · exact to_iff hc (cd_no (by rw [ex, (rfl : (0 : Int32).toInt = 0)]; intro z2; have z3 : A = 0 := z2; omega)) (h2 z)
theorem b_ieq_t {o : Int} (hc : mm_code mi pc = some (.ifCond .eq o, len, a, b, ps)) (ex : x.toInt = A) (z : A = 0) (h1 : mm_T X d mi a ls st M Q) : mm_T X d mi pc ls (.int x :: st) M Q := to_ift hc (cd_of (by rw [ex, (rfl : (0 : Int32).toInt = 0)]; exact z)) h1
theorem b_ieq_f {o : Int} (hc : mm_code mi pc = some (.ifCond .eq o, len, a, b, ps)) (ex : x.toInt = A) (z : A ≠ 0) (h1 : mm_T X d mi (pc + len) ls st M Q) : mm_T X d mi pc ls (.int x :: st) M Q := to_iff hc (cd_no (by rw [ex, (rfl : (0 : Int32).toInt = 0)]; intro z2; have z3 : A = 0 := z2; omega)) h1
theorem b_cne {o : Int} (hc : mm_code mi pc = some (.if_icmp .ne o, len, a, b, ps)) (ex : x.toInt = A) (ey : y.toInt = B) (h1 : A ≠ B → mm_T X d mi a ls st M Q) (h2 : A = B → mm_T X d mi (pc + len) ls st M Q) : mm_T X d mi pc ls (.int y :: .int x :: st) M Q := by
  rcases (show A ≠ B ∨ A = B by omega) with z | z
  · exact to_ict hc (cd_of (by rw [ex, ey]; exact z)) (h1 z)
  · exact to_icf hc (cd_no (by rw [ex, ey]; intro z2; have z3 : A ≠ B := z2; omega)) (h2 z)
theorem b_cne_t {o : Int} (hc : mm_code mi pc = some (.if_icmp .ne o, len, a, b, ps)) (ex : x.toInt = A) (ey : y.toInt = B) (z : A ≠ B) (h1 : mm_T X d mi a ls st M Q) : mm_T X d mi pc ls (.int y :: .int x :: st) M Q := to_ict hc (cd_of (by rw [ex, ey]; exact z)) h1
theorem b_cne_f {o : Int} (hc : mm_code mi pc = some (.if_icmp .ne o, len, a, b, ps)) (ex : x.toInt = A) (ey : y.toInt = B) (z : A = B) (h1 : mm_T X d mi (pc + len) ls st M Q) : mm_T X d mi pc ls (.int y :: .int x :: st) M Q := to_icf hc (cd_no (by rw [ex, ey]; intro z2; have z3 : A ≠ B := z2; omega)) h1
theorem b_ine {o : Int} (hc : mm_code mi pc = some (.ifCond .ne o, len, a, b, ps)) (ex : x.toInt = A) (h1 : A ≠ 0 → mm_T X d mi a ls st M Q) (h2 : A = 0 → mm_T X d mi (pc + len) ls st M Q) : mm_T X d mi pc ls (.int x :: st) M Q := by
  rcases (show A ≠ 0 ∨ A = 0 by omega) with z | z
  · exact to_ift hc (cd_of (by rw [ex, (rfl : (0 : Int32).toInt = 0)]; exact z)) (h1 z)
  · exact to_iff hc (cd_no (by rw [ex, (rfl : (0 : Int32).toInt = 0)]; intro z2; have z3 : A ≠ 0 := z2; omega)) (h2 z)
theorem b_ine_t {o : Int} (hc : mm_code mi pc = some (.ifCond .ne o, len, a, b, ps)) (ex : x.toInt = A) (z : A ≠ 0) (h1 : mm_T X d mi a ls st M Q) : mm_T X d mi pc ls (.int x :: st) M Q := to_ift hc (cd_of (by rw [ex, (rfl : (0 : Int32).toInt = 0)]; exact z)) h1
theorem b_ine_f {o : Int} (hc : mm_code mi pc = some (.ifCond .ne o, len, a, b, ps)) (ex : x.toInt = A) (z : A = 0) (h1 : mm_T X d mi (pc + len) ls st M Q) : mm_T X d mi pc ls (.int x :: st) M Q := to_iff hc (cd_no (by rw [ex, (rfl : (0 : Int32).toInt = 0)]; intro z2; have z3 : A ≠ 0 := z2; omega)) h1
theorem b_clt {o : Int} (hc : mm_code mi pc = some (.if_icmp .lt o, len, a, b, ps)) (ex : x.toInt = A) (ey : y.toInt = B) (h1 : A < B → mm_T X d mi a ls st M Q) (h2 : B ≤ A → mm_T X d mi (pc + len) ls st M Q) : mm_T X d mi pc ls (.int y :: .int x :: st) M Q := by
  rcases (show A < B ∨ B ≤ A by omega) with z | z
  · exact to_ict hc (cd_of (by rw [ex, ey]; exact z)) (h1 z)
  · exact to_icf hc (cd_no (by rw [ex, ey]; intro z2; have z3 : A < B := z2; omega)) (h2 z)
theorem b_clt_t {o : Int} (hc : mm_code mi pc = some (.if_icmp .lt o, len, a, b, ps)) (ex : x.toInt = A) (ey : y.toInt = B) (z : A < B) (h1 : mm_T X d mi a ls st M Q) : mm_T X d mi pc ls (.int y :: .int x :: st) M Q := to_ict hc (cd_of (by rw [ex, ey]; exact z)) h1
theorem b_clt_f {o : Int} (hc : mm_code mi pc = some (.if_icmp .lt o, len, a, b, ps)) (ex : x.toInt = A) (ey : y.toInt = B) (z : B ≤ A) (h1 : mm_T X d mi (pc + len) ls st M Q) : mm_T X d mi pc ls (.int y :: .int x :: st) M Q := to_icf hc (cd_no (by rw [ex, ey]; intro z2; have z3 : A < B := z2; omega)) h1
theorem b_ilt {o : Int} (hc : mm_code mi pc = some (.ifCond .lt o, len, a, b, ps)) (ex : x.toInt = A) (h1 : A < 0 → mm_T X d mi a ls st M Q) (h2 : 0 ≤ A → mm_T X d mi (pc + len) ls st M Q) : mm_T X d mi pc ls (.int x :: st) M Q := by
  rcases (show A < 0 ∨ 0 ≤ A by omega) with z | z
  · exact to_ift hc (cd_of (by rw [ex, (rfl : (0 : Int32).toInt = 0)]; exact z)) (h1 z)
  · exact to_iff hc (cd_no (by rw [ex, (rfl : (0 : Int32).toInt = 0)]; intro z2; have z3 : A < 0 := z2; omega)) (h2 z)
theorem b_ilt_t {o : Int} (hc : mm_code mi pc = some (.ifCond .lt o, len, a, b, ps)) (ex : x.toInt = A) (z : A < 0) (h1 : mm_T X d mi a ls st M Q) : mm_T X d mi pc ls (.int x :: st) M Q := to_ift hc (cd_of (by rw [ex, (rfl : (0 : Int32).toInt = 0)]; exact z)) h1
theorem b_ilt_f {o : Int} (hc : mm_code mi pc = some (.ifCond .lt o, len, a, b, ps)) (ex : x.toInt = A) (z : 0 ≤ A) (h1 : mm_T X d mi (pc + len) ls st M Q) : mm_T X d mi pc ls (.int x :: st) M Q := to_iff hc (cd_no (by rw [ex, (rfl : (0 : Int32).toInt = 0)]; intro z2; have z3 : A < 0 := z2; omega)) h1
theorem b_cge {o : Int} (hc : mm_code mi pc = some (.if_icmp .ge o, len, a, b, ps)) (ex : x.toInt = A) (ey : y.toInt = B) (h1 : B ≤ A → mm_T X d mi a ls st M Q) (h2 : A < B → mm_T X d mi (pc + len) ls st M Q) : mm_T X d mi pc ls (.int y :: .int x :: st) M Q := by
  rcases (show B ≤ A ∨ A < B by omega) with z | z
  · exact to_ict hc (cd_of (by rw [ex, ey]; exact z)) (h1 z)
  · exact to_icf hc (cd_no (by rw [ex, ey]; intro z2; have z3 : B ≤ A := z2; omega)) (h2 z)
theorem b_cge_t {o : Int} (hc : mm_code mi pc = some (.if_icmp .ge o, len, a, b, ps)) (ex : x.toInt = A) (ey : y.toInt = B) (z : B ≤ A) (h1 : mm_T X d mi a ls st M Q) : mm_T X d mi pc ls (.int y :: .int x :: st) M Q := to_ict hc (cd_of (by rw [ex, ey]; exact z)) h1
theorem b_cge_f {o : Int} (hc : mm_code mi pc = some (.if_icmp .ge o, len, a, b, ps)) (ex : x.toInt = A) (ey : y.toInt = B) (z : A < B) (h1 : mm_T X d mi (pc + len) ls st M Q) : mm_T X d mi pc ls (.int y :: .int x :: st) M Q := to_icf hc (cd_no (by rw [ex, ey]; intro z2; have z3 : B ≤ A := z2; omega)) h1
theorem b_ige {o : Int} (hc : mm_code mi pc = some (.ifCond .ge o, len, a, b, ps)) (ex : x.toInt = A) (h1 : 0 ≤ A → mm_T X d mi a ls st M Q) (h2 : A < 0 → mm_T X d mi (pc + len) ls st M Q) : mm_T X d mi pc ls (.int x :: st) M Q := by
  rcases (show 0 ≤ A ∨ A < 0 by omega) with z | z
  · exact to_ift hc (cd_of (by rw [ex, (rfl : (0 : Int32).toInt = 0)]; exact z)) (h1 z)
  · exact to_iff hc (cd_no (by rw [ex, (rfl : (0 : Int32).toInt = 0)]; intro z2; have z3 : 0 ≤ A := z2; omega)) (h2 z)
theorem b_ige_t {o : Int} (hc : mm_code mi pc = some (.ifCond .ge o, len, a, b, ps)) (ex : x.toInt = A) (z : 0 ≤ A) (h1 : mm_T X d mi a ls st M Q) : mm_T X d mi pc ls (.int x :: st) M Q := to_ift hc (cd_of (by rw [ex, (rfl : (0 : Int32).toInt = 0)]; exact z)) h1
theorem b_ige_f {o : Int} (hc : mm_code mi pc = some (.ifCond .ge o, len, a, b, ps)) (ex : x.toInt = A) (z : A < 0) (h1 : mm_T X d mi (pc + len) ls st M Q) : mm_T X d mi pc ls (.int x :: st) M Q := to_iff hc (cd_no (by rw [ex, (rfl : (0 : Int32).toInt = 0)]; intro z2; have z3 : 0 ≤ A := z2; omega)) h1
theorem b_cgt {o : Int} (hc : mm_code mi pc = some (.if_icmp .gt o, len, a, b, ps)) (ex : x.toInt = A) (ey : y.toInt = B) (h1 : B < A → mm_T X d mi a ls st M Q) (h2 : A ≤ B → mm_T X d mi (pc + len) ls st M Q) : mm_T X d mi pc ls (.int y :: .int x :: st) M Q := by
  rcases (show B < A ∨ A ≤ B by omega) with z | z
  · exact to_ict hc (cd_of (by rw [ex, ey]; exact z)) (h1 z)
  · exact to_icf hc (cd_no (by rw [ex, ey]; intro z2; have z3 : B < A := z2; omega)) (h2 z)
theorem b_cgt_t {o : Int} (hc : mm_code mi pc = some (.if_icmp .gt o, len, a, b, ps)) (ex : x.toInt = A) (ey : y.toInt = B) (z : B < A) (h1 : mm_T X d mi a ls st M Q) : mm_T X d mi pc ls (.int y :: .int x :: st) M Q := to_ict hc (cd_of (by rw [ex, ey]; exact z)) h1
theorem b_cgt_f {o : Int} (hc : mm_code mi pc = some (.if_icmp .gt o, len, a, b, ps)) (ex : x.toInt = A) (ey : y.toInt = B) (z : A ≤ B) (h1 : mm_T X d mi (pc + len) ls st M Q) : mm_T X d mi pc ls (.int y :: .int x :: st) M Q := to_icf hc (cd_no (by rw [ex, ey]; intro z2; have z3 : B < A := z2; omega)) h1
theorem b_igt {o : Int} (hc : mm_code mi pc = some (.ifCond .gt o, len, a, b, ps)) (ex : x.toInt = A) (h1 : 0 < A → mm_T X d mi a ls st M Q) (h2 : A ≤ 0 → mm_T X d mi (pc + len) ls st M Q) : mm_T X d mi pc ls (.int x :: st) M Q := by
  rcases (show 0 < A ∨ A ≤ 0 by omega) with z | z
  · exact to_ift hc (cd_of (by rw [ex, (rfl : (0 : Int32).toInt = 0)]; exact z)) (h1 z)
  · exact to_iff hc (cd_no (by rw [ex, (rfl : (0 : Int32).toInt = 0)]; intro z2; have z3 : 0 < A := z2; omega)) (h2 z)
theorem b_igt_t {o : Int} (hc : mm_code mi pc = some (.ifCond .gt o, len, a, b, ps)) (ex : x.toInt = A) (z : 0 < A) (h1 : mm_T X d mi a ls st M Q) : mm_T X d mi pc ls (.int x :: st) M Q := to_ift hc (cd_of (by rw [ex, (rfl : (0 : Int32).toInt = 0)]; exact z)) h1
theorem b_igt_f {o : Int} (hc : mm_code mi pc = some (.ifCond .gt o, len, a, b, ps)) (ex : x.toInt = A) (z : A ≤ 0) (h1 : mm_T X d mi (pc + len) ls st M Q) : mm_T X d mi pc ls (.int x :: st) M Q := to_iff hc (cd_no (by rw [ex, (rfl : (0 : Int32).toInt = 0)]; intro z2; have z3 : 0 < A := z2; omega)) h1
theorem b_cle {o : Int} (hc : mm_code mi pc = some (.if_icmp .le o, len, a, b, ps)) (ex : x.toInt = A) (ey : y.toInt = B) (h1 : A ≤ B → mm_T X d mi a ls st M Q) (h2 : B < A → mm_T X d mi (pc + len) ls st M Q) : mm_T X d mi pc ls (.int y :: .int x :: st) M Q := by
  rcases (show A ≤ B ∨ B < A by omega) with z | z
  · exact to_ict hc (cd_of (by rw [ex, ey]; exact z)) (h1 z)
  · exact to_icf hc (cd_no (by rw [ex, ey]; intro z2; have z3 : A ≤ B := z2; omega)) (h2 z)
theorem b_cle_t {o : Int} (hc : mm_code mi pc = some (.if_icmp .le o, len, a, b, ps)) (ex : x.toInt = A) (ey : y.toInt = B) (z : A ≤ B) (h1 : mm_T X d mi a ls st M Q) : mm_T X d mi pc ls (.int y :: .int x :: st) M Q := to_ict hc (cd_of (by rw [ex, ey]; exact z)) h1
theorem b_cle_f {o : Int} (hc : mm_code mi pc = some (.if_icmp .le o, len, a, b, ps)) (ex : x.toInt = A) (ey : y.toInt = B) (z : B < A) (h1 : mm_T X d mi (pc + len) ls st M Q) : mm_T X d mi pc ls (.int y :: .int x :: st) M Q := to_icf hc (cd_no (by rw [ex, ey]; intro z2; have z3 : A ≤ B := z2; omega)) h1
theorem b_ile {o : Int} (hc : mm_code mi pc = some (.ifCond .le o, len, a, b, ps)) (ex : x.toInt = A) (h1 : A ≤ 0 → mm_T X d mi a ls st M Q) (h2 : 0 < A → mm_T X d mi (pc + len) ls st M Q) : mm_T X d mi pc ls (.int x :: st) M Q := by
  rcases (show A ≤ 0 ∨ 0 < A by omega) with z | z
  · exact to_ift hc (cd_of (by rw [ex, (rfl : (0 : Int32).toInt = 0)]; exact z)) (h1 z)
  · exact to_iff hc (cd_no (by rw [ex, (rfl : (0 : Int32).toInt = 0)]; intro z2; have z3 : A ≤ 0 := z2; omega)) (h2 z)
theorem b_ile_t {o : Int} (hc : mm_code mi pc = some (.ifCond .le o, len, a, b, ps)) (ex : x.toInt = A) (z : A ≤ 0) (h1 : mm_T X d mi a ls st M Q) : mm_T X d mi pc ls (.int x :: st) M Q := to_ift hc (cd_of (by rw [ex, (rfl : (0 : Int32).toInt = 0)]; exact z)) h1
theorem b_ile_f {o : Int} (hc : mm_code mi pc = some (.ifCond .le o, len, a, b, ps)) (ex : x.toInt = A) (z : 0 < A) (h1 : mm_T X d mi (pc + len) ls st M Q) : mm_T X d mi pc ls (.int x :: st) M Q := to_iff hc (cd_no (by rw [ex, (rfl : (0 : Int32).toInt = 0)]; intro z2; have z3 : A ≤ 0 := z2; omega)) h1
end SS
/-! THE MEMORY BETWEEN CALLS: kinds, lengths and references stay, the ints lie within their bounds -/
noncomputable def g_ty (a : Nat) : Nat := (bif Nat.blt a 43 then (bif Nat.blt a 18 then (bif Nat.blt a 11 then (bif Nat.blt a 3 then (bif Nat.blt a 1 then 10 else (bif Nat.blt a 2 then 8 else 103)) else (bif Nat.blt a 6 then 100 else (bif Nat.blt a 7 then 3 else 100))) else (bif Nat.blt a 15 then (bif Nat.blt a 12 then 1 else (bif Nat.blt a 13 then 101 else 100)) else (bif Nat.blt a 16 then 101 else (bif Nat.blt a 17 then 102 else 4)))) else (bif Nat.blt a 34 then (bif Nat.blt a 28 then (bif Nat.blt a 19 then 104 else (bif Nat.blt a 27 then 100 else 101)) else (bif Nat.blt a 29 then 9 else (bif Nat.blt a 33 then 100 else 101))) else (bif Nat.blt a 39 then (bif Nat.blt a 36 then 100 else (bif Nat.blt a 37 then 0 else 100)) else (bif Nat.blt a 41 then (bif Nat.blt a 40 then 2 else 100) else (bif Nat.blt a 42 then 101 else 7))))) else (bif Nat.blt a 78 then (bif Nat.blt a 66 then (bif Nat.blt a 57 then (bif Nat.blt a 49 then 100 else (bif Nat.blt a 50 then 5 else 100)) else (bif Nat.blt a 58 then 101 else (bif Nat.blt a 59 then 5 else 100))) else (bif Nat.blt a 72 then (bif Nat.blt a 67 then 101 else (bif Nat.blt a 68 then 6 else 100)) else (bif Nat.blt a 73 then 6 else (bif Nat.blt a 77 then 100 else 11)))) else (bif Nat.blt a 106 then (bif Nat.blt a 94 then (bif Nat.blt a 87 then 100 else (bif Nat.blt a 88 then 101 else 100)) else (bif Nat.blt a 95 then 102 else (bif Nat.blt a 97 then 101 else 100))) else (bif Nat.blt a 118 then (bif Nat.blt a 107 then 101 else (bif Nat.blt a 117 then 100 else 102)) else (bif Nat.blt a 125 then (bif Nat.blt a 124 then 100 else 102) else (bif Nat.blt a 126 then 101 else 999))))))
noncomputable def g_ln (a : Nat) : Nat := (bif Nat.blt a 67 then (bif Nat.blt a 28 then (bif Nat.blt a 14 then (bif Nat.blt a 6 then (bif Nat.blt a 2 then 0 else (bif Nat.blt a 3 then 500 else 501)) else (bif Nat.blt a 11 then (bif Nat.blt a 7 then 0 else 150) else (bif Nat.blt a 12 then 0 else 30))) else (bif Nat.blt a 18 then (bif Nat.blt a 16 then (bif Nat.blt a 15 then 240 else 12) else (bif Nat.blt a 17 then 150 else 0)) else (bif Nat.blt a 25 then (bif Nat.blt a 19 then 6 else 30) else (bif Nat.blt a 26 then 6 else 30)))) else (bif Nat.blt a 43 then (bif Nat.blt a 37 then (bif Nat.blt a 29 then 0 else (bif Nat.blt a 36 then 40 else 0)) else (bif Nat.blt a 40 then (bif Nat.blt a 39 then 24 else 0) else (bif Nat.blt a 42 then 12 else 0))) else (bif Nat.blt a 55 then (bif Nat.blt a 49 then (bif Nat.blt a 46 then 30 else 64) else (bif Nat.blt a 50 then 0 else 8)) else (bif Nat.blt a 59 then (bif Nat.blt a 58 then 12 else 0) else (bif Nat.blt a 64 then 8 else 12))))) else (bif Nat.blt a 99 then (bif Nat.blt a 80 then (bif Nat.blt a 73 then (bif Nat.blt a 68 then 0 else (bif Nat.blt a 72 then 40 else 0)) else (bif Nat.blt a 78 then (bif Nat.blt a 77 then 40 else 0) else (bif Nat.blt a 79 then 500 else 70))) else (bif Nat.blt a 95 then (bif Nat.blt a 88 then (bif Nat.blt a 85 then 16 else 24) else (bif Nat.blt a 90 then 10 else 150)) else (bif Nat.blt a 97 then (bif Nat.blt a 96 then 12 else 30) else (bif Nat.blt a 98 then 240 else 30)))) else (bif Nat.blt a 117 then (bif Nat.blt a 109 then (bif Nat.blt a 101 then (bif Nat.blt a 100 then 180 else 6) else (bif Nat.blt a 108 then 40 else 5)) else (bif Nat.blt a 112 then (bif Nat.blt a 110 then 30 else 5) else (bif Nat.blt a 115 then 80 else 64))) else (bif Nat.blt a 123 then (bif Nat.blt a 119 then (bif Nat.blt a 118 then 40 else 4) else (bif Nat.blt a 120 then 12 else 30)) else (bif Nat.blt a 125 then (bif Nat.blt a 124 then 6 else 180) else (bif Nat.blt a 126 then 1 else 0))))))
noncomputable def g_rf (a i : Nat) : Option Nat := (bif Nat.blt a 39 then (bif Nat.blt a 17 then (bif Nat.blt a 6 then (bif Nat.blt a 1 then (bif Nat.blt i 4 then (bif Nat.blt i 2 then (bif Nat.blt i 1 then (some 1) else (some 6)) else (bif Nat.blt i 3 then (some 11) else (some 17))) else (bif Nat.blt i 6 then (bif Nat.blt i 5 then (some 28) else (some 36)) else (bif Nat.blt i 7 then (some 39) else (bif Nat.blt i 8 then (some 42) else (none))))) else (bif Nat.blt a 2 then (bif Nat.blt i 3 then (bif Nat.blt i 1 then (some 2) else (bif Nat.blt i 2 then (none) else (some 3))) else (bif Nat.blt i 4 then (some 4) else (bif Nat.blt i 5 then (some 5) else (none)))) else (none))) else (bif Nat.blt a 11 then (bif Nat.blt a 7 then (bif Nat.blt i 3 then (bif Nat.blt i 1 then (none) else (bif Nat.blt i 2 then (some 7) else (some 8))) else (bif Nat.blt i 4 then (some 9) else (bif Nat.blt i 5 then (some 10) else (none)))) else (none)) else (bif Nat.blt a 12 then (bif Nat.blt i 3 then (bif Nat.blt i 1 then (some 12) else (bif Nat.blt i 2 then (some 13) else (some 14))) else (bif Nat.blt i 4 then (some 15) else (bif Nat.blt i 5 then (some 16) else (none)))) else (none)))) else (bif Nat.blt a 28 then (bif Nat.blt a 18 then (bif Nat.blt i 2 then (bif Nat.blt i 1 then (some 18) else (some 25)) else (bif Nat.blt i 3 then (some 26) else (bif Nat.blt i 4 then (some 27) else (none)))) else (bif Nat.blt a 19 then (bif Nat.blt i 3 then (bif Nat.blt i 1 then (some 19) else (bif Nat.blt i 2 then (some 20) else (some 21))) else (bif Nat.blt i 5 then (bif Nat.blt i 4 then (some 22) else (some 23)) else (bif Nat.blt i 6 then (some 24) else (none)))) else (none))) else (bif Nat.blt a 36 then (bif Nat.blt a 29 then (bif Nat.blt i 4 then (bif Nat.blt i 2 then (bif Nat.blt i 1 then (some 29) else (some 30)) else (bif Nat.blt i 3 then (some 31) else (some 32))) else (bif Nat.blt i 6 then (bif Nat.blt i 5 then (some 33) else (some 34)) else (bif Nat.blt i 7 then (some 35) else (none)))) else (none)) else (bif Nat.blt a 37 then (bif Nat.blt i 1 then (some 37) else (bif Nat.blt i 2 then (some 38) else (none))) else (none))))) else (bif Nat.blt a 59 then (bif Nat.blt a 43 then (bif Nat.blt a 40 then (bif Nat.blt i 1 then (some 40) else (bif Nat.blt i 2 then (some 41) else (none))) else (bif Nat.blt a 42 then (none) else (bif Nat.blt i 5 then (bif Nat.blt i 3 then (bif Nat.blt i 2 then (none) else (some 43)) else (bif Nat.blt i 4 then (some 44) else (some 45))) else (bif Nat.blt i 7 then (bif Nat.blt i 6 then (some 46) else (some 47)) else (bif Nat.blt i 8 then (some 48) else (none)))))) else (bif Nat.blt a 50 then (bif Nat.blt a 49 then (none) else (bif Nat.blt i 9 then (bif Nat.blt i 6 then (bif Nat.blt i 5 then (none) else (some 50)) else (bif Nat.blt i 7 then (some 51) else (bif Nat.blt i 8 then (some 52) else (some 53)))) else (bif Nat.blt i 11 then (bif Nat.blt i 10 then (some 54) else (some 55)) else (bif Nat.blt i 12 then (some 56) else (bif Nat.blt i 13 then (some 57) else (none)))))) else (bif Nat.blt a 58 then (none) else (bif Nat.blt i 9 then (bif Nat.blt i 6 then (bif Nat.blt i 5 then (none) else (some 59)) else (bif Nat.blt i 7 then (some 60) else (bif Nat.blt i 8 then (some 61) else (some 62)))) else (bif Nat.blt i 11 then (bif Nat.blt i 10 then (some 63) else (some 64)) else (bif Nat.blt i 12 then (some 65) else (bif Nat.blt i 13 then (some 66) else (none)))))))) else (bif Nat.blt a 73 then (bif Nat.blt a 68 then (bif Nat.blt a 67 then (none) else (bif Nat.blt i 2 then (bif Nat.blt i 1 then (some 68) else (some 69)) else (bif Nat.blt i 3 then (some 70) else (bif Nat.blt i 4 then (some 71) else (none))))) else (bif Nat.blt a 72 then (none) else (bif Nat.blt i 2 then (bif Nat.blt i 1 then (some 73) else (some 74)) else (bif Nat.blt i 3 then (some 75) else (bif Nat.blt i 4 then (some 76) else (none)))))) else (bif Nat.blt a 78 then (bif Nat.blt a 77 then (none) else (bif Nat.blt i 45 then (bif Nat.blt i 27 then (bif Nat.blt i 20 then (bif Nat.blt i 4 then (bif Nat.blt i 1 then (some 78) else (bif Nat.blt i 3 then (none) else (some 79))) else (bif Nat.blt i 18 then (bif Nat.blt i 17 then (none) else (some 80)) else (bif Nat.blt i 19 then (some 81) else (some 82)))) else (bif Nat.blt i 23 then (bif Nat.blt i 21 then (some 83) else (bif Nat.blt i 22 then (some 84) else (some 85))) else (bif Nat.blt i 25 then (bif Nat.blt i 24 then (some 86) else (some 87)) else (bif Nat.blt i 26 then (none) else (some 88))))) else (bif Nat.blt i 35 then (bif Nat.blt i 31 then (bif Nat.blt i 28 then (some 89) else (bif Nat.blt i 30 then (none) else (some 90))) else (bif Nat.blt i 33 then (bif Nat.blt i 32 then (some 91) else (some 92)) else (bif Nat.blt i 34 then (some 93) else (some 94)))) else (bif Nat.blt i 38 then (bif Nat.blt i 36 then (some 95) else (bif Nat.blt i 37 then (some 96) else (some 97))) else (bif Nat.blt i 40 then (bif Nat.blt i 39 then (some 98) else (some 99)) else (bif Nat.blt i 41 then (some 100) else (none)))))) else (bif Nat.blt i 61 then (bif Nat.blt i 52 then (bif Nat.blt i 48 then (bif Nat.blt i 46 then (some 101) else (bif Nat.blt i 47 then (some 102) else (some 103))) else (bif Nat.blt i 50 then (bif Nat.blt i 49 then (some 104) else (some 105)) else (bif Nat.blt i 51 then (some 106) else (some 107)))) else (bif Nat.blt i 55 then (bif Nat.blt i 53 then (none) else (bif Nat.blt i 54 then (some 108) else (some 109))) else (bif Nat.blt i 57 then (bif Nat.blt i 56 then (some 110) else (some 111)) else (bif Nat.blt i 60 then (none) else (some 112))))) else (bif Nat.blt i 72 then (bif Nat.blt i 64 then (bif Nat.blt i 62 then (some 113) else (bif Nat.blt i 63 then (some 114) else (some 115))) else (bif Nat.blt i 70 then (bif Nat.blt i 65 then (some 116) else (none)) else (bif Nat.blt i 71 then (some 117) else (some 118)))) else (bif Nat.blt i 75 then (bif Nat.blt i 73 then (some 119) else (bif Nat.blt i 74 then (some 120) else (some 121))) else (bif Nat.blt i 77 then (bif Nat.blt i 76 then (some 122) else (some 123)) else (bif Nat.blt i 78 then (some 124) else (none)))))))) else (bif Nat.blt a 126 then (none) else none)))))
noncomputable def g_lo (a i : Nat) : Int := (bif Nat.blt a 60 then (bif Nat.blt a 36 then (bif Nat.blt a 17 then (bif Nat.blt a 6 then (bif Nat.blt a 1 then (bif Nat.blt i 12 then (-2147483648) else (bif Nat.blt i 13 then (0) else (-2147483648))) else (bif Nat.blt a 2 then (bif Nat.blt i 2 then (bif Nat.blt i 1 then (-2147483648) else (0)) else (bif Nat.blt i 5 then (-2147483648) else (bif Nat.blt i 7 then (0) else (-2147483648)))) else (-2147483648))) else (bif Nat.blt a 9 then (bif Nat.blt a 7 then (bif Nat.blt i 1 then (0) else (-2147483648)) else (0)) else (bif Nat.blt a 16 then (-2147483648) else (0)))) else (bif Nat.blt a 29 then (bif Nat.blt a 27 then (bif Nat.blt a 19 then (-2147483648) else (0)) else (bif Nat.blt a 28 then (-2147483648) else (bif Nat.blt i 9 then (bif Nat.blt i 7 then (-2147483648) else (0)) else (bif Nat.blt i 10 then (-2147483648) else (bif Nat.blt i 11 then (0) else (-2147483648)))))) else (bif Nat.blt a 33 then (bif Nat.blt a 30 then (-2147483648) else (0)) else (bif Nat.blt a 34 then (-2147483648) else (0))))) else (bif Nat.blt a 49 then (bif Nat.blt a 42 then (bif Nat.blt a 39 then (-2147483648) else (bif Nat.blt a 40 then (bif Nat.blt i 2 then (-2147483648) else (bif Nat.blt i 3 then (0) else (-2147483648))) else (-2147483648))) else (bif Nat.blt a 44 then (bif Nat.blt a 43 then (bif Nat.blt i 2 then (0) else (-2147483648)) else (-2147483648)) else (bif Nat.blt a 45 then (0) else (-2147483648)))) else (bif Nat.blt a 56 then (bif Nat.blt a 51 then (bif Nat.blt a 50 then (bif Nat.blt i 2 then (bif Nat.blt i 1 then (10) else (-2147483648)) else (bif Nat.blt i 4 then (0) else (-2147483648))) else (-2147483648)) else (bif Nat.blt a 55 then (0) else (-2147483648))) else (bif Nat.blt a 58 then (bif Nat.blt a 57 then (0) else (-2147483648)) else (bif Nat.blt a 59 then (bif Nat.blt i 2 then (bif Nat.blt i 1 then (10) else (-2147483648)) else (bif Nat.blt i 4 then (0) else (-2147483648))) else (-2147483648)))))) else (bif Nat.blt a 86 then (bif Nat.blt a 72 then (bif Nat.blt a 66 then (bif Nat.blt a 64 then (0) else (bif Nat.blt a 65 then (-2147483648) else (0))) else (bif Nat.blt a 68 then (bif Nat.blt a 67 then (-2147483648) else (bif Nat.blt i 4 then (-2147483648) else (bif Nat.blt i 6 then (0) else (-2147483648)))) else (bif Nat.blt a 70 then (0) else (-2147483648)))) else (bif Nat.blt a 78 then (bif Nat.blt a 75 then (bif Nat.blt a 73 then (bif Nat.blt i 4 then (-2147483648) else (bif Nat.blt i 6 then (0) else (-2147483648))) else (0)) else (bif Nat.blt a 77 then (-2147483648) else (bif Nat.blt i 17 then (bif Nat.blt i 10 then (bif Nat.blt i 2 then (bif Nat.blt i 1 then (-2147483648) else (0)) else (bif Nat.blt i 6 then (-2147483648) else (bif Nat.blt i 9 then (0) else (-2147483648)))) else (bif Nat.blt i 12 then (bif Nat.blt i 11 then (0) else (10)) else (bif Nat.blt i 14 then (0) else (bif Nat.blt i 15 then (10) else (0))))) else (bif Nat.blt i 52 then (bif Nat.blt i 30 then (bif Nat.blt i 28 then (-2147483648) else (0)) else (bif Nat.blt i 43 then (-2147483648) else (bif Nat.blt i 45 then (0) else (-2147483648)))) else (bif Nat.blt i 60 then (bif Nat.blt i 53 then (0) else (bif Nat.blt i 57 then (-2147483648) else (0))) else (bif Nat.blt i 65 then (-2147483648) else (bif Nat.blt i 70 then (0) else (-2147483648)))))))) else (bif Nat.blt a 81 then (bif Nat.blt a 79 then (0) else (-2147483648)) else (bif Nat.blt a 85 then (0) else (-2147483648))))) else (bif Nat.blt a 105 then (bif Nat.blt a 94 then (bif Nat.blt a 90 then (bif Nat.blt a 87 then (0) else (-2147483648)) else (bif Nat.blt a 92 then (0) else (-2147483648))) else (bif Nat.blt a 99 then (bif Nat.blt a 95 then (0) else (-2147483648)) else (bif Nat.blt a 102 then (0) else (-1)))) else (bif Nat.blt a 115 then (bif Nat.blt a 108 then (bif Nat.blt a 106 then (0) else (-2147483648)) else (bif Nat.blt a 114 then (0) else (-2147483648))) else (bif Nat.blt a 121 then (bif Nat.blt a 120 then (0) else (-2147483648)) else (bif Nat.blt a 125 then (0) else (-2147483648)))))))
noncomputable def g_hi (a i : Nat) : Int := (bif Nat.blt a 68 then (bif Nat.blt a 42 then (bif Nat.blt a 26 then (bif Nat.blt a 8 then (bif Nat.blt a 2 then (bif Nat.blt a 1 then (bif Nat.blt i 12 then (2147483647) else (bif Nat.blt i 13 then (30) else (2147483647))) else (bif Nat.blt i 5 then (bif Nat.blt i 1 then (2147483647) else (bif Nat.blt i 2 then (500) else (2147483647))) else (bif Nat.blt i 6 then (501) else (bif Nat.blt i 7 then (500) else (2147483647))))) else (bif Nat.blt a 6 then (2147483647) else (bif Nat.blt a 7 then (bif Nat.blt i 1 then (150) else (2147483647)) else (5)))) else (bif Nat.blt a 17 then (bif Nat.blt a 9 then (149) else (bif Nat.blt a 16 then (2147483647) else (1))) else (bif Nat.blt a 19 then (2147483647) else (bif Nat.blt a 25 then (29) else (30))))) else (bif Nat.blt a 33 then (bif Nat.blt a 28 then (bif Nat.blt a 27 then (29) else (2147483647)) else (bif Nat.blt a 29 then (bif Nat.blt i 9 then (bif Nat.blt i 7 then (2147483647) else (bif Nat.blt i 8 then (40) else (3000))) else (bif Nat.blt i 10 then (2147483647) else (bif Nat.blt i 11 then (1) else (2147483647)))) else (bif Nat.blt a 30 then (2147483647) else (5)))) else (bif Nat.blt a 36 then (bif Nat.blt a 34 then (2147483647) else (bif Nat.blt a 35 then (99) else (40))) else (bif Nat.blt a 39 then (2147483647) else (bif Nat.blt a 40 then (bif Nat.blt i 2 then (2147483647) else (bif Nat.blt i 3 then (12) else (2147483647))) else (2147483647)))))) else (bif Nat.blt a 56 then (bif Nat.blt a 50 then (bif Nat.blt a 44 then (bif Nat.blt a 43 then (bif Nat.blt i 1 then (30) else (bif Nat.blt i 2 then (6) else (2147483647))) else (2147483647)) else (bif Nat.blt a 45 then (63) else (bif Nat.blt a 49 then (2147483647) else (bif Nat.blt i 2 then (bif Nat.blt i 1 then (60) else (2147483647)) else (bif Nat.blt i 3 then (8) else (bif Nat.blt i 4 then (12) else (2147483647))))))) else (bif Nat.blt a 53 then (bif Nat.blt a 51 then (2147483647) else (bif Nat.blt a 52 then (3) else (59))) else (bif Nat.blt a 54 then (63) else (bif Nat.blt a 55 then (24) else (2147483647))))) else (bif Nat.blt a 62 then (bif Nat.blt a 59 then (bif Nat.blt a 57 then (7) else (bif Nat.blt a 58 then (2147483647) else (bif Nat.blt i 2 then (bif Nat.blt i 1 then (60) else (2147483647)) else (bif Nat.blt i 3 then (8) else (bif Nat.blt i 4 then (12) else (2147483647)))))) else (bif Nat.blt a 60 then (2147483647) else (bif Nat.blt a 61 then (3) else (59)))) else (bif Nat.blt a 65 then (bif Nat.blt a 63 then (63) else (bif Nat.blt a 64 then (24) else (2147483647))) else (bif Nat.blt a 66 then (7) else (bif Nat.blt a 67 then (2147483647) else (bif Nat.blt i 4 then (2147483647) else (bif Nat.blt i 6 then (40) else (2147483647))))))))) else (bif Nat.blt a 100 then (bif Nat.blt a 82 then (bif Nat.blt a 74 then (bif Nat.blt a 70 then (bif Nat.blt a 69 then (4) else (11)) else (bif Nat.blt a 72 then (2147483647) else (bif Nat.blt a 73 then (bif Nat.blt i 4 then (2147483647) else (bif Nat.blt i 6 then (40) else (2147483647))) else (4)))) else (bif Nat.blt a 78 then (bif Nat.blt a 75 then (11) else (bif Nat.blt a 77 then (2147483647) else (bif Nat.blt i 29 then (bif Nat.blt i 11 then (bif Nat.blt i 6 then (bif Nat.blt i 1 then (2147483647) else (bif Nat.blt i 2 then (500) else (2147483647))) else (bif Nat.blt i 9 then (bif Nat.blt i 8 then (500) else (5)) else (bif Nat.blt i 10 then (2147483647) else (500)))) else (bif Nat.blt i 15 then (bif Nat.blt i 13 then (bif Nat.blt i 12 then (60) else (8)) else (bif Nat.blt i 14 then (12) else (60))) else (bif Nat.blt i 17 then (bif Nat.blt i 16 then (8) else (12)) else (bif Nat.blt i 28 then (2147483647) else (30))))) else (bif Nat.blt i 58 then (bif Nat.blt i 45 then (bif Nat.blt i 43 then (bif Nat.blt i 30 then (150) else (2147483647)) else (bif Nat.blt i 44 then (3000) else (40))) else (bif Nat.blt i 53 then (bif Nat.blt i 52 then (2147483647) else (5)) else (bif Nat.blt i 57 then (2147483647) else (1)))) else (bif Nat.blt i 67 then (bif Nat.blt i 65 then (bif Nat.blt i 60 then (40) else (2147483647)) else (bif Nat.blt i 66 then (48) else (40))) else (bif Nat.blt i 69 then (bif Nat.blt i 68 then (8) else (1)) else (bif Nat.blt i 70 then (40) else (2147483647)))))))) else (bif Nat.blt a 79 then (255) else (bif Nat.blt a 81 then (2147483647) else (3))))) else (bif Nat.blt a 90 then (bif Nat.blt a 85 then (bif Nat.blt a 83 then (59) else (bif Nat.blt a 84 then (63) else (24))) else (bif Nat.blt a 86 then (2147483647) else (bif Nat.blt a 87 then (7) else (2147483647)))) else (bif Nat.blt a 94 then (bif Nat.blt a 91 then (5) else (bif Nat.blt a 92 then (149) else (2147483647))) else (bif Nat.blt a 95 then (1) else (bif Nat.blt a 99 then (2147483647) else (29)))))) else (bif Nat.blt a 113 then (bif Nat.blt a 106 then (bif Nat.blt a 102 then (bif Nat.blt a 101 then (30) else (2)) else (bif Nat.blt a 103 then (99) else (bif Nat.blt a 105 then (5) else (40)))) else (bif Nat.blt a 110 then (bif Nat.blt a 108 then (2147483647) else (bif Nat.blt a 109 then (39) else (29))) else (bif Nat.blt a 111 then (39) else (bif Nat.blt a 112 then (99) else (4))))) else (bif Nat.blt a 119 then (bif Nat.blt a 116 then (bif Nat.blt a 114 then (39) else (bif Nat.blt a 115 then (2147483647) else (4))) else (bif Nat.blt a 117 then (39) else (bif Nat.blt a 118 then (1) else (63)))) else (bif Nat.blt a 123 then (bif Nat.blt a 120 then (11) else (bif Nat.blt a 121 then (2147483647) else (29))) else (bif Nat.blt a 124 then (5) else (bif Nat.blt a 125 then (1) else (2147483647))))))))
noncomputable def g_S (M : mm_M) : Prop := M.1.1.1 = 126 ∧ (∀ a, a < 126 → M.1.1.2.1 a = g_ty a ∧ M.1.1.2.2 a = g_ln a) ∧ (∀ a i v, g_rf a i = some v → M.2.2.2 a i = some v)
noncomputable def g_R (M : mm_M) : Prop := ∀ a i, g_lo a i ≤ (M.2.1 a i).toInt ∧ (M.2.1 a i).toInt ≤ g_hi a i
noncomputable def g_G (M : mm_M) : Prop := g_S M ∧ g_R M ∧ M.2.1 79 69 = 32
/-- what may have changed -/
noncomputable def FR (P : Nat → Nat → Prop) (M M1 : mm_M) : Prop := M1.1 = M.1 ∧ M1.2.2.2 = M.2.2.2 ∧ ∀ a i, ¬ P a i → M1.2.1 a i = M.2.1 a i ∧ M1.2.2.1 a i = M.2.2.1 a i
noncomputable def g_PQ (M : mm_M) (p p2 q q2 : Nat) : Prop := M.2.2.2 0 8 = some p ∧ M.2.2.2 0 9 = some p2 ∧ M.2.2.2 0 10 = some q ∧ M.2.2.2 0 11 = some q2
section GG
variable {M M0 M1 : mm_M} {P P2 : Nat → Nat → Prop}
theorem FR.rf : FR P M M := ⟨rfl, rfl, fun _ _ _ => ⟨rfl, rfl⟩⟩
theorem FR.w {a i : Nat} {v : Int32} (h : FR P M0 M) (W : M1 = mm_setI M a i v) (hp : P a i) : FR P M0 M1 := by
  subst W
  refine ⟨h.1, h.2.1, fun b j hn => ⟨?_, (h.2.2 b j hn).2⟩⟩
  show (if b = a ∧ j = i then v else M.2.1 b j) = _
  rw [if_neg (fun z => hn (by rw [z.1, z.2]; exact hp))]
  exact (h.2.2 b j hn).1
theorem FR.wl {a i : Nat} {v : Int64} (h : FR P M0 M) (W : M1 = mm_setL M a i v) (hp : P a i) : FR P M0 M1 := by
  subst W
  refine ⟨h.1, h.2.1, fun b j hn => ⟨(h.2.2 b j hn).1, ?_⟩⟩
  show (if b = a ∧ j = i then v else M.2.2.1 b j) = _
  rw [if_neg (fun z => hn (by rw [z.1, z.2]; exact hp))]
  exact (h.2.2 b j hn).2
theorem FR.c (h : FR P M0 M) (h2 : FR P2 M M1) (hs : ∀ a i, P2 a i → P a i) : FR P M0 M1 := ⟨h2.1.trans h.1, h2.2.1.trans h.2.1, fun a i hn => ⟨((h2.2.2 a i (fun z => hn (hs a i z))).1).trans (h.2.2 a i hn).1, ((h2.2.2 a i (fun z => hn (hs a i z))).2).trans (h.2.2 a i hn).2⟩⟩
theorem g_o {a c : Nat} (hG : g_G M) (h : (Nat.blt a 126 && Nat.beq (g_ty a) c) = true) : mm_isObj M a c = true := by
  obtain ⟨⟨h1, h2, -⟩, -⟩ := hG
  rw [Bool.and_eq_true] at h
  have ha : a < 126 := Nat.le_of_ble_eq_true h.1
  unfold mm_isObj
  rw [h1, (h2 a ha).1, h.1, h.2]; rfl
theorem g_no {a c : Nat} (hG : g_G M) (h : (Nat.blt a 126 && !Nat.beq (g_ty a) c) = true) : mm_isObj M a c = false := by
  obtain ⟨⟨h1, h2, -⟩, -⟩ := hG
  rw [Bool.and_eq_true] at h
  have ha : a < 126 := Nat.le_of_ble_eq_true h.1
  unfold mm_isObj
  rw [(h2 a ha).1]
  have := h.2
  rw [Bool.not_eq_true'] at this
  rw [this, Bool.and_false]
theorem g_l {a n : Nat} (hG : g_G M) (ha : Nat.blt a 126 = true) (h : g_ln a = n) : M.1.1.2.2 a = n := by
  obtain ⟨⟨h1, h2, -⟩, -⟩ := hG
  rw [(h2 a (Nat.le_of_ble_eq_true ha)).2, h]
theorem g_r {a i v : Nat} (hG : g_G M) (h : g_rf a i = some v) : M.2.2.2 a i = some v := hG.1.2.2 a i v h
theorem g_b {a i : Nat} {lo hi : Int} (hG : g_G M) (h1 : g_lo a i = lo) (h2 : g_hi a i = hi) : lo ≤ (M.2.1 a i).toInt ∧ (M.2.1 a i).toInt ≤ hi := by
  have := hG.2.1 a i
  rw [h1, h2] at this
  exact this
theorem g_w {a i : Nat} {v : Int32} {A : Int} {lo hi : Int} (hG : g_G M) (W : M1 = mm_setI M a i v) (ev : v.toInt = A) (h1 : g_lo a i = lo) (h2 : g_hi a i = hi) (h3 : lo ≤ A ∧ A ≤ hi) (h79 : ¬ a = 79) : g_G M1 := by
  subst W
  refine ⟨hG.1, fun b j => ?_, ?_⟩
  · show g_lo b j ≤ (if b = a ∧ j = i then v else M.2.1 b j).toInt ∧ (if b = a ∧ j = i then v else M.2.1 b j).toInt ≤ g_hi b j
    by_cases z : b = a ∧ j = i
    · rw [if_pos z, z.1, z.2, h1, h2, ev]
      exact h3
    · rw [if_neg z]
      exact hG.2.1 b j
  · show (if 79 = a ∧ 69 = i then v else M.2.1 79 69) = 32
    rw [if_neg (fun z => h79 z.1.symm)]
    exact hG.2.2
theorem g_wf {a i : Nat} {v : Int32} (hG : g_G M) (W : M1 = mm_setI M a i v) (h1 : g_lo a i = -2147483648) (h2 : g_hi a i = 2147483647) (h79 : ¬ a = 79) : g_G M1 := g_w hG W rfl h1 h2 i_of h79
theorem g_wl {a i : Nat} {v : Int64} (hG : g_G M) (W : M1 = mm_setL M a i v) : g_G M1 := by
  subst W
  exact hG
theorem W_e {a i : Nat} {v : Int32} (W : M1 = mm_setI M a i v) : M1.2.1 a i = v := by
  subst W
  show (if a = a ∧ i = i then v else _) = v
  rw [if_pos ⟨rfl, rfl⟩]
theorem W_n {a i b j : Nat} {v w : Int32} (W : M1 = mm_setI M a i v) (hn : ¬ (b = a ∧ j = i)) (h : M.2.1 b j = w) : M1.2.1 b j = w := by
  subst W
  show (if b = a ∧ j = i then v else M.2.1 b j) = w
  rw [if_neg hn]; exact h
theorem W_l {a i b j : Nat} {v : Int64} {w : Int32} (W : M1 = mm_setL M a i v) (h : M.2.1 b j = w) : M1.2.1 b j = w := by
  subst W
  exact h
theorem F_n {a i : Nat} {w : Int32} (F : FR P M M1) (hn : ¬ P a i) (h : M.2.1 a i = w) : M1.2.1 a i = w := (F.2.2 a i hn).1.trans h
theorem F_nl {a i : Nat} {w : Int64} (F : FR P M M1) (hn : ¬ P a i) (h : M.2.2.1 a i = w) : M1.2.2.1 a i = w := (F.2.2 a i hn).2.trans h
theorem L_e {a i : Nat} {v : Int64} (W : M1 = mm_setL M a i v) : M1.2.2.1 a i = v := by
  subst W
  show (if a = a ∧ i = i then v else _) = v
  rw [if_pos ⟨rfl, rfl⟩]
theorem L_n {a i b j : Nat} {v w : Int64} (W : M1 = mm_setL M a i v) (hn : ¬ (b = a ∧ j = i)) (h : M.2.2.1 b j = w) : M1.2.2.1 b j = w := by
  subst W
  show (if b = a ∧ j = i then v else M.2.2.1 b j) = w
  rw [if_neg hn]; exact h
theorem W_j {a i b j : Nat} {v : Int32} {w : Int64} (W : M1 = mm_setI M a i v) (h : M.2.2.1 b j = w) : M1.2.2.1 b j = w := by
  subst W
  exact h
theorem PQ_w {a i p p2 q q2 : Nat} {v : Int32} (W : M1 = mm_setI M a i v) (h : g_PQ M p p2 q q2) : g_PQ M1 p p2 q q2 := by
  subst W
  exact h
theorem PQ_l {a i p p2 q q2 : Nat} {v : Int64} (W : M1 = mm_setL M a i v) (h : g_PQ M p p2 q q2) : g_PQ M1 p p2 q q2 := by
  subst W
  exact h
theorem PQ_f {p p2 q q2 : Nat} (F : FR P M M1) (h : g_PQ M p p2 q q2) : g_PQ M1 p p2 q q2 := by
  unfold g_PQ at h ⊢
  rw [F.2.1]
  exact h
end GG
section SM
variable {X : mm_X} {d mi pc : Nat} {ls st : List Value} {M : mm_M} {Q : Option Value → mm_M → Prop} {len a b : Nat} {ps : List Nat} {x y : Int32} {A B : Int}
/-- fields -/
theorem s_gI {i o : Nat} {lo hi : Int} (hc : mm_code mi pc = some (.getfield i, len, a, b, 0 :: ps)) (hG : g_G M) (ho : (Nat.blt o 126 && Nat.beq (g_ty o) a) = true) (h1 : g_lo o b = lo) (h2 : g_hi o b = hi) (h : ∀ v : Int32, M.2.1 o b = v → lo ≤ v.toInt → v.toInt ≤ hi → mm_T X d mi (pc + len) ls (.int v :: st) M Q) : mm_T X d mi pc ls (.ref o :: st) M Q := tt_gI hc (g_o hG ho) rfl (h _ rfl (g_b hG h1 h2).1 (g_b hG h1 h2).2)
theorem s_gZ {i o : Nat} {lo hi : Int} (hc : mm_code mi pc = some (.getfield i, len, a, b, 1 :: ps)) (hG : g_G M) (ho : (Nat.blt o 126 && Nat.beq (g_ty o) a) = true) (h1 : g_lo o b = lo) (h2 : g_hi o b = hi) (h : ∀ v : Int32, M.2.1 o b = v → lo ≤ v.toInt → v.toInt ≤ hi → mm_T X d mi (pc + len) ls (.int v :: st) M Q) : mm_T X d mi pc ls (.ref o :: st) M Q := tt_gZ hc (g_o hG ho) rfl (h _ rfl (g_b hG h1 h2).1 (g_b hG h1 h2).2)
theorem s_gF {i o : Nat} (hc : mm_code mi pc = some (.getfield i, len, a, b, 0 :: ps)) (hG : g_G M) (ho : (Nat.blt o 126 && Nat.beq (g_ty o) a) = true) (h : ∀ v : Int32, M.2.1 o b = v → mm_T X d mi (pc + len) ls (.int v :: st) M Q) : mm_T X d mi pc ls (.ref o :: st) M Q := tt_gI hc (g_o hG ho) rfl (h _ rfl)
theorem s_gJ {i o : Nat} (hc : mm_code mi pc = some (.getfield i, len, a, b, 2 :: ps)) (hG : g_G M) (ho : (Nat.blt o 126 && Nat.beq (g_ty o) a) = true) (h : ∀ v : Int64, mm_T X d mi (pc + len) ls (.long v :: st) M Q) : mm_T X d mi pc ls (.ref o :: st) M Q := tt_gJ hc (g_o hG ho) rfl (h _)
theorem s_gR {i o v : Nat} (hc : mm_code mi pc = some (.getfield i, len, a, b, 3 :: ps)) (hG : g_G M) (ho : (Nat.blt o 126 && Nat.beq (g_ty o) a) = true) (hv : g_rf o b = some v) (h : mm_T X d mi (pc + len) ls (.ref v :: st) M Q) : mm_T X d mi pc ls (.ref o :: st) M Q := tt_gR hc (g_o hG ho) (g_r hG hv) h
theorem s_pI {i o : Nat} (hc : mm_code mi pc = some (.putfield i, len, a, b, 0 :: ps)) (hG : g_G M) (ho : (Nat.blt o 126 && Nat.beq (g_ty o) a) = true) (h : ∀ M1, M1 = mm_setI M o b x → mm_T X d mi (pc + len) ls st M1 Q) : mm_T X d mi pc ls (.int x :: .ref o :: st) M Q := tt_pI hc (g_o hG ho) (h _ rfl)
theorem s_pZ {i o : Nat} (hc : mm_code mi pc = some (.putfield i, len, a, b, 1 :: ps)) (hG : g_G M) (ho : (Nat.blt o 126 && Nat.beq (g_ty o) a) = true) (ex : x.toInt = A) (h0 : 0 ≤ A ∧ A ≤ 1) (h : ∀ M1, M1 = mm_setI M o b x → mm_T X d mi (pc + len) ls st M1 Q) : mm_T X d mi pc ls (.int x :: .ref o :: st) M Q := tt_pZ hc (g_o hG ho) (by
  rcases (show A = 0 ∨ A = 1 by omega) with z | z
  · exact Or.inl ((i_eq ex (rfl : (0 : Int32).toInt = 0)).mpr z)
  · exact Or.inr ((i_eq ex (rfl : (1 : Int32).toInt = 1)).mpr z)) (h _ rfl)
theorem s_pJ {i o : Nat} {v : Int64} (hc : mm_code mi pc = some (.putfield i, len, a, b, 2 :: ps)) (hG : g_G M) (ho : (Nat.blt o 126 && Nat.beq (g_ty o) a) = true) (h : ∀ M1, M1 = mm_setL M o b v → mm_T X d mi (pc + len) ls st M1 Q) : mm_T X d mi pc ls (.long v :: .ref o :: st) M Q := tt_pJ hc (g_o hG ho) (h _ rfl)
/-- rows -/
theorem i_ix {n : Nat} (ex : x.toInt = A) (h0 : 0 ≤ A) (h1 : A < (n : Int)) : ¬ (x < 0 ∨ n ≤ x.toNatClampNeg) := by
  have e : x.toNatClampNeg = A.toNat := by rw [← ex]; rfl
  rw [e, i_lt (B := 0) ex (rfl : (0 : Int32).toInt = 0)]
  omega
theorem s_ial {o n : Nat} {lo hi : Int} (hc : mm_code mi pc = some (.iaload, len, a, b, ps)) (hG : g_G M) (ho : (Nat.blt o 126 && Nat.beq (g_ty o) 100) = true) (hn : g_ln o = n) (hx : Nat.ble mm_ext o = false) (ex : x.toInt = A) (h0 : 0 ≤ A) (h1 : A < (n : Int)) (hl : g_lo o A.toNat = lo) (hh : g_hi o A.toNat = hi) (h : ∀ v : Int32, M.2.1 o A.toNat = v → lo ≤ v.toInt → v.toInt ≤ hi → mm_T X d mi (pc + len) ls (.int v :: st) M Q) : mm_T X d mi pc ls (.int x :: .ref o :: st) M Q := by
  rw [Bool.and_eq_true] at ho
  refine tt_ial hc hx (g_o hG (by rw [Bool.and_eq_true]; exact ho)) (by rw [g_l hG ho.1 hn]; exact i_ix ex h0 h1) rfl ?_
  have e : x.toNatClampNeg = A.toNat := by rw [← ex]; rfl
  rw [e]
  exact h _ rfl (g_b hG hl hh).1 (g_b hG hl hh).2
theorem s_lal {o n : Nat} (hc : mm_code mi pc = some (.laload, len, a, b, ps)) (hG : g_G M) (ho : (Nat.blt o 126 && Nat.beq (g_ty o) 101) = true) (hn : g_ln o = n) (ex : x.toInt = A) (h0 : 0 ≤ A) (h1 : A < (n : Int)) (h : ∀ v : Int64, mm_T X d mi (pc + len) ls (.long v :: st) M Q) : mm_T X d mi pc ls (.int x :: .ref o :: st) M Q := by
  rw [Bool.and_eq_true] at ho
  exact to_lal hc (g_o hG (by rw [Bool.and_eq_true]; exact ho)) (by rw [g_l hG ho.1 hn]; exact i_ix ex h0 h1) rfl (h _)
theorem s_bal {o n : Nat} {lo hi : Int} (hc : mm_code mi pc = some (.baload, len, a, b, ps)) (hG : g_G M) (ho : (Nat.blt o 126 && (Nat.beq (g_ty o) 102 || Nat.beq (g_ty o) 103)) = true) (hn : g_ln o = n) (ex : x.toInt = A) (h0 : 0 ≤ A) (h1 : A < (n : Int)) (hl : g_lo o A.toNat = lo) (hh : g_hi o A.toNat = hi) (h : ∀ v : Int32, M.2.1 o A.toNat = v → lo ≤ v.toInt → v.toInt ≤ hi → mm_T X d mi (pc + len) ls (.int v :: st) M Q) : mm_T X d mi pc ls (.int x :: .ref o :: st) M Q := by
  rw [Bool.and_eq_true, Bool.or_eq_true] at ho
  refine to_bal hc ?_ (by rw [g_l hG ho.1 hn]; exact i_ix ex h0 h1) rfl ?_
  · rcases ho.2 with z | z
    · rw [g_o hG (by rw [Bool.and_eq_true]; exact ⟨ho.1, z⟩)]; rfl
    · rw [g_o (c := 103) hG (by rw [Bool.and_eq_true]; exact ⟨ho.1, z⟩), Bool.or_true]
  · have e : x.toNatClampNeg = A.toNat := by rw [← ex]; rfl
    rw [e]
    exact h _ rfl (g_b hG hl hh).1 (g_b hG hl hh).2
theorem s_ias {o n : Nat} (hc : mm_code mi pc = some (.iastore, len, a, b, ps)) (hG : g_G M) (ho : (Nat.blt o 126 && Nat.beq (g_ty o) 100) = true) (hn : g_ln o = n) (ex : x.toInt = A) (h0 : 0 ≤ A) (h1 : A < (n : Int)) (h : ∀ M1, M1 = mm_setI M o A.toNat y → mm_T X d mi (pc + len) ls st M1 Q) : mm_T X d mi pc ls (.int y :: .int x :: .ref o :: st) M Q := by
  rw [Bool.and_eq_true] at ho
  exact to_ias hc (g_o hG (by rw [Bool.and_eq_true]; exact ho)) (by rw [g_l hG ho.1 hn]; exact i_ix ex h0 h1) (show x.toNatClampNeg = A.toNat by rw [← ex]; rfl) (h _ rfl)
theorem s_bas {o n : Nat} (hc : mm_code mi pc = some (.bastore, len, a, b, ps)) (hG : g_G M) (ho : (Nat.blt o 126 && Nat.beq (g_ty o) 103) = true) (hn : g_ln o = n) (ex : x.toInt = A) (h0 : 0 ≤ A) (h1 : A < (n : Int)) (h : ∀ M1 v, M1 = mm_setI M o A.toNat v → mm_T X d mi (pc + len) ls st M1 Q) : mm_T X d mi pc ls (.int y :: .int x :: .ref o :: st) M Q := by
  rw [Bool.and_eq_true] at ho
  have e103 := Nat.eq_of_beq_eq_true ho.2
  exact to_bas hc (g_no hG (by rw [ho.1, e103]; rfl)) (g_o hG (by rw [Bool.and_eq_true]; exact ho)) (by rw [g_l hG ho.1 hn]; exact i_ix ex h0 h1) (show x.toNatClampNeg = A.toNat by rw [← ex]; rfl) rfl (h _ _ rfl)
theorem s_zas {o n : Nat} (hc : mm_code mi pc = some (.bastore, len, a, b, ps)) (hG : g_G M) (ho : (Nat.blt o 126 && Nat.beq (g_ty o) 102) = true) (hn : g_ln o = n) (ex : x.toInt = A) (h0 : 0 ≤ A) (h1 : A < (n : Int)) (ey : y.toInt = B) (hb : 0 ≤ B ∧ B ≤ 1) (h : ∀ M1, M1 = mm_setI M o A.toNat y → mm_T X d mi (pc + len) ls st M1 Q) : mm_T X d mi pc ls (.int y :: .int x :: .ref o :: st) M Q := tt_1 hc (by
  rw [Bool.and_eq_true] at ho
  show mm_b (mm_isObj M o 102) (if x < 0 ∨ M.1.1.2.2 o ≤ x.toNatClampNeg then False else (mm_T X d mi (pc + len) ls st (mm_setI M o x.toNatClampNeg (y &&& 1)) Q)) _
  rw [g_o hG (by rw [Bool.and_eq_true]; exact ho)]
  show (if x < 0 ∨ M.1.1.2.2 o ≤ x.toNatClampNeg then False else (mm_T X d mi (pc + len) ls st (mm_setI M o x.toNatClampNeg (y &&& 1)) Q))
  rw [if_neg (by rw [g_l hG ho.1 hn]; exact i_ix ex h0 h1), show x.toNatClampNeg = A.toNat by rw [← ex]; rfl]
  have e : y &&& 1 = y := by
    rcases (show B = 0 ∨ B = 1 by omega) with z | z
    · rw [(i_eq ey (rfl : (0 : Int32).toInt = 0)).mpr z]; rfl
    · rw [(i_eq ey (rfl : (1 : Int32).toInt = 1)).mpr z]; rfl
  rw [e]
  exact h _ rfl)
theorem s_las {o n : Nat} {v : Int64} (hc : mm_code mi pc = some (.lastore, len, a, b, ps)) (hG : g_G M) (ho : (Nat.blt o 126 && Nat.beq (g_ty o) 101) = true) (hn : g_ln o = n) (ex : x.toInt = A) (h0 : 0 ≤ A) (h1 : A < (n : Int)) (h : ∀ M1, M1 = mm_setL M o A.toNat v → mm_T X d mi (pc + len) ls st M1 Q) : mm_T X d mi pc ls (.long v :: .int x :: .ref o :: st) M Q := tt_1 hc (by
  rw [Bool.and_eq_true] at ho
  show mm_b (mm_isObj M o 101) (if x < 0 ∨ M.1.1.2.2 o ≤ x.toNatClampNeg then False else (mm_T X d mi (pc + len) ls st (mm_setL M o x.toNatClampNeg v) Q)) False
  rw [g_o hG (by rw [Bool.and_eq_true]; exact ho)]
  show (if x < 0 ∨ M.1.1.2.2 o ≤ x.toNatClampNeg then False else (mm_T X d mi (pc + len) ls st (mm_setL M o x.toNatClampNeg v) Q))
  rw [if_neg (by rw [g_l hG ho.1 hn]; exact i_ix ex h0 h1), show x.toNatClampNeg = A.toNat by rw [← ex]; rfl]
  exact h _ rfl)
theorem s_len {o n : Nat} {v : Int32} (hc : mm_code mi pc = some (.arraylength, len, a, b, ps)) (hG : g_G M) (hx : Nat.ble mm_ext o = false) (ho : (Nat.blt o 126 && Nat.ble 100 (g_ty o) && Nat.ble (g_ty o) 104) = true) (hn : g_ln o = n) (hv : Int32.ofNat n = v) (h : mm_T X d mi (pc + len) ls (.int v :: st) M Q) : mm_T X d mi pc ls (.ref o :: st) M Q := by
  rw [Bool.and_eq_true, Bool.and_eq_true] at ho
  refine tt_len hc hx ?_ (g_l hG ho.1.1 hn) (by rw [hv]; exact h)
  have ha : o < 126 := Nat.le_of_ble_eq_true ho.1.1
  rw [(hG.1.2.1 o ha).1, hG.1.1, ho.1.1, ho.1.2, ho.2]; rfl
/-- calls -/
theorem s_v {k y n : Nat} {as st0 rest ls0 : List Value} (hc : mm_code mi pc = some (.invokevirtual k, len, y, n, ps)) (hd : 1 ≤ d) (hp : mm_pop n [] st0 (fun x r => (x, r)) ([], []) = (as, rest)) (hn : n ≤ st0.length) (h8 : mm_w8 rest ≤ 8) (hy : Nat.beq y 998 = false) (hrc : mm_rc M y as = true) (he : mm_entry y as = ls0) (h : mm_T X (d - 1) y 0 ls0 [] M (fun r1 M1 => mm_T X d mi (pc + 3) ls (r1.toList ++ rest) M1 Q)) : mm_T X d mi pc ls st0 M Q := by
  obtain ⟨e, rfl⟩ : ∃ e, d = e + 1 := ⟨d - 1, by omega⟩
  exact to_v hc rfl hp hn h8 hy hrc he h
theorem s_s {k y n : Nat} {as st0 rest ls0 : List Value} (hc : mm_code mi pc = some (.invokestatic k, len, y, n, ps)) (hd : 1 ≤ d) (hp : mm_pop n [] st0 (fun x r => (x, r)) ([], []) = (as, rest)) (hn : n ≤ st0.length) (h8 : mm_w8 rest ≤ 8) (hy : (Nat.beq y 998 || Nat.beq y 997 || Nat.beq y 996) = false) (hrc : mm_rc M y as = true) (he : mm_entry y as = ls0) (h : mm_T X (d - 1) y 0 ls0 [] M (fun r1 M1 => mm_T X d mi (pc + 3) ls (r1.toList ++ rest) M1 Q)) : mm_T X d mi pc ls st0 M Q := by
  obtain ⟨e, rfl⟩ : ∃ e, d = e + 1 := ⟨d - 1, by omega⟩
  exact to_s hc hp hn h8 hy hrc he h
end SM
noncomputable def g_xn (e : Nat) : Nat := bif Nat.beq e 1 then 15 else 10
noncomputable def g_X (X : mm_X) : Prop := ∀ e : Nat, 1 ≤ e → e ≤ 3 → (X e).1 = g_xn e
theorem i_shr {x y : Int32} {A : Int} (ex : x.toInt = A) (h : 0 ≤ A) : 0 ≤ (x >>> y).toInt ∧ (x >>> y).toInt ≤ A := by
  have hx : x.toBitVec.msb = false := by
    rw [BitVec.msb_eq_toInt]
    have : x.toBitVec.toInt = A := ex
    simp only [this, decide_eq_false_iff_not]; omega
  obtain ⟨k, hk⟩ : ∃ k : Nat, (x >>> y).toBitVec = x.toBitVec.sshiftRight k := ⟨_, rfl⟩
  have e : (x >>> y).toInt = x.toBitVec.toInt >>> k := by
    show (x >>> y).toBitVec.toInt = _
    rw [hk, BitVec.toInt_sshiftRight]
  have e2 : x.toBitVec.toInt = A := ex
  rw [e, e2, Int.shiftRight_eq_div_pow]
  refine ⟨Int.ediv_nonneg h (by have : (0 : Int) ≤ ((2 ^ k : Nat) : Int) := Int.natCast_nonneg _; exact this), ?_⟩
  exact Int.ediv_le_self _ h
theorem i_shl1 {y : Int32} {B : Int} (ey : y.toInt = B) (h : 0 ≤ B ∧ B ≤ 6) : 1 ≤ ((1 : Int32) <<< y).toInt ∧ ((1 : Int32) <<< y).toInt ≤ 64 := by
  rcases (show B = 0 ∨ B = 1 ∨ B = 2 ∨ B = 3 ∨ B = 4 ∨ B = 5 ∨ B = 6 by omega) with z | z | z | z | z | z | z <;> subst z
  · rw [(i_eq ey (rfl : (0 : Int32).toInt = 0)).mpr rfl]; decide
  · rw [(i_eq ey (rfl : (1 : Int32).toInt = 1)).mpr rfl]; decide
  · rw [(i_eq ey (rfl : (2 : Int32).toInt = 2)).mpr rfl]; decide
  · rw [(i_eq ey (rfl : (3 : Int32).toInt = 3)).mpr rfl]; decide
  · rw [(i_eq ey (rfl : (4 : Int32).toInt = 4)).mpr rfl]; decide
  · rw [(i_eq ey (rfl : (5 : Int32).toInt = 5)).mpr rfl]; decide
  · rw [(i_eq ey (rfl : (6 : Int32).toInt = 6)).mpr rfl]; decide
theorem i_div {x y : Int32} {A B : Int} (ex : x.toInt = A) (ey : y.toInt = B) (h0 : 0 ≤ A) (h1 : 1 ≤ B) : (x / y).toInt = A / B ∧ 0 ≤ A / B ∧ A / B ≤ A := by
  have hA := (i_of (x := x))
  have g1 : 0 ≤ A / B := Int.ediv_nonneg h0 (by omega)
  have g2 : A / B ≤ A := Int.ediv_le_self _ h0
  rw [ex] at hA
  refine ⟨?_, g1, g2⟩
  rw [Int32.toInt_div, ex, ey, Int.tdiv_eq_ediv_of_nonneg h0, i_bm (by omega)]
theorem i_rem {x y : Int32} {A B : Int} (ex : x.toInt = A) (ey : y.toInt = B) (h0 : 0 ≤ A) (h1 : 1 ≤ B) : (x - x / y * y).toInt = A % B ∧ 0 ≤ A % B ∧ A % B < B := by
  have hA := (i_of (x := x))
  rw [ex] at hA
  obtain ⟨e1, e2, e3⟩ := i_div ex ey h0 h1
  have g0 : 0 ≤ A % B := Int.emod_nonneg A (by omega)
  have g1 : A % B < B := Int.emod_lt_of_pos A (by omega)
  have g2 : A / B * B = A - A % B := by
    have := Int.mul_ediv_add_emod A B
    rw [Int.mul_comm] at this
    omega
  have g4 : 0 ≤ A / B * B := Int.mul_nonneg e2 (by omega)
  have g3 : A % B ≤ A := by omega
  have e4 : (x / y * y).toInt = A / B * B := i_mul e1 ey (by rw [g2]; omega)
  refine ⟨?_, g0, g1⟩
  rw [i_sub ex e4 (by rw [g2]; omega), g2]
  omega
theorem W_r {M M1 : mm_M} {a i b j : Nat} {v w : Int32} (W : M1 = mm_setI M a i v) (hn : ¬ (b = a ∧ j = i)) (h : M.2.1 b j = w) : M1.2.1 b j = w := W_n W hn h
section S3
variable {X : mm_X} {d mi pc : Nat} {ls st : List Value} {M M0 M1 : mm_M} {Q : Option Value → mm_M → Prop} {len a b : Nat} {ps : List Nat} {x y : Int32} {A B : Int}
theorem s_shr (hc : mm_code mi pc = some (.ishr, len, a, b, ps)) (ex : x.toInt = A) (hr : 0 ≤ A) (h : ∀ v : Int32, 0 ≤ v.toInt → v.toInt ≤ A → mm_T X d mi (pc + len) ls (.int v :: st) M Q) : mm_T X d mi pc ls (.int y :: .int x :: st) M Q := tt_1 hc (h (x >>> y) (i_shr ex hr).1 (i_shr ex hr).2)
theorem s_shl1 (hc : mm_code mi pc = some (.ishl, len, a, b, ps)) (ey : y.toInt = B) (hr : 0 ≤ B ∧ B ≤ 6) (h : ∀ v : Int32, 1 ≤ v.toInt → v.toInt ≤ 64 → mm_T X d mi (pc + len) ls (.int v :: st) M Q) : mm_T X d mi pc ls (.int y :: .int (1 : Int32) :: st) M Q := tt_1 hc (h ((1 : Int32) <<< y) (i_shl1 ey hr).1 (i_shl1 ey hr).2)
theorem i_n0 (ey : y.toInt = B) (h1 : 1 ≤ B) : ¬ y = 0 := fun z => by
  have := (i_eq (B := 0) ey (rfl : (0 : Int32).toInt = 0)).mp z
  omega
theorem s_idiv (hc : mm_code mi pc = some (.idiv, len, a, b, ps)) (ex : x.toInt = A) (ey : y.toInt = B) (h0 : 0 ≤ A) (h1 : 1 ≤ B) (h : ∀ v : Int32, v.toInt = A / B → (0 ≤ v.toInt ∧ v.toInt ≤ A) → mm_T X d mi (pc + len) ls (.int v :: st) M Q) : mm_T X d mi pc ls (.int y :: .int x :: st) M Q := to_2 (v := x / y) hc (by
  show (if y = 0 then none else some (x / y)) = some (x / y)
  rw [if_neg (i_n0 ey h1)]) (h _ (i_div ex ey h0 h1).1 (by rw [(i_div ex ey h0 h1).1]; exact (i_div ex ey h0 h1).2))
theorem s_irem (hc : mm_code mi pc = some (.irem, len, a, b, ps)) (ex : x.toInt = A) (ey : y.toInt = B) (h0 : 0 ≤ A) (h1 : 1 ≤ B) (h : ∀ v : Int32, v.toInt = A % B → (0 ≤ v.toInt ∧ v.toInt < B) → mm_T X d mi (pc + len) ls (.int v :: st) M Q) : mm_T X d mi pc ls (.int y :: .int x :: st) M Q := to_2 (v := x - x / y * y) hc (by
  show (if y = 0 then none else some (x - x / y * y)) = some (x - x / y * y)
  rw [if_neg (i_n0 ey h1)]) (h _ (i_rem ex ey h0 h1).1 (by rw [(i_rem ex ey h0 h1).1]; exact (i_rem ex ey h0 h1).2))
theorem s_ldiv {u v : Int64} (hc : mm_code mi pc = some (.ldiv, len, a, b, ps)) (e : v = y.toInt64) (ey : y.toInt = A) (h1 : 1 ≤ A) (h : ∀ w : Int64, mm_T X d mi (pc + len) ls (.long w :: st) M Q) : mm_T X d mi pc ls (.long v :: .long u :: st) M Q := tt_1 hc (by
  show (if v = 0 then False else mm_T X d mi (pc + len) ls (.long (u / v) :: st) M Q)
  rw [if_neg (fun z => ?_)]
  · exact h _
  · have h2 : v.toInt = 0 := by rw [z]; rfl
    rw [e, Int32.toInt_toInt64] at h2
    omega)
theorem s_incx {k : Nat} {n : Int} {ls2 : Int32 → List Value} (hc : mm_code mi pc = some (.iinc k n, len, a, b, ps)) (hv : mm_at ls k = .int x) (hn : Nat.blt k ls.length = true) (hs : ∀ v, mm_set ls k (.int v) = ls2 v) (h : ∀ v : Int32, mm_T X d mi (pc + len) (ls2 v) st M Q) : mm_T X d mi pc ls st M Q := to_inc hc hv hn (hs _) (h _)
theorem s_pop2 {v : Int64} (hc : mm_code mi pc = some (.pop2, len, a, b, ps)) (h : mm_T X d mi (pc + len) ls st M Q) : mm_T X d mi pc ls (.long v :: st) M Q := tt_1 hc h
theorem s_swd {o lo hi : Int} {os : Array Int} (hc : mm_code mi pc = some (.tableswitch o lo hi os, len, a, b, ps)) (ex : x.toInt = A) (hv : A < lo ∨ hi < A) (h : mm_T X d mi a ls st M Q) : mm_T X d mi pc ls (.int x :: st) M Q := to_swd hc (by rw [ex]; exact hv) h
theorem s_sw {o lo hi k : Int} {os : Array Int} {t : Nat} (hc : mm_code mi pc = some (.tableswitch o lo hi os, len, a, b, ps)) (ex : x.toInt = A) (hv : A = k) (hb : ¬ (k < lo ∨ hi < k)) (ht : ps[(k - lo).toNat]? = some t) (h : mm_T X d mi t ls st M Q) : mm_T X d mi pc ls (.int x :: st) M Q := to_sw hc (by rw [ex, hv]; exact hb) (by rw [ex, hv]; exact ht) h
theorem s_xal {e n : Nat} (hc : mm_code mi pc = some (.iaload, len, a, b, ps)) (hX : g_X X) (he : (Nat.ble 1 e && Nat.ble e 3 && Nat.beq (g_xn e) n) = true) (ex : x.toInt = A) (h0 : 0 ≤ A) (h1 : A < (n : Int)) (h : ∀ v : Int32, mm_T X d mi (pc + len) ls (.int v :: st) M Q) : mm_T X d mi pc ls (.int x :: .ref (mm_ext + e) :: st) M Q := by
  rw [Bool.and_eq_true, Bool.and_eq_true] at he
  have hn := hX e (Nat.le_of_ble_eq_true he.1.1) (Nat.le_of_ble_eq_true he.1.2)
  rw [Nat.eq_of_beq_eq_true he.2] at hn
  exact tt_xal hc (by rw [hn]; exact i_ix ex h0 h1) rfl (h _)
theorem s_xlen {e n : Nat} {v : Int32} (hc : mm_code mi pc = some (.arraylength, len, a, b, ps)) (hX : g_X X) (he : (Nat.ble 1 e && Nat.ble e 3 && Nat.beq (g_xn e) n) = true) (hv : Int32.ofNat n = v) (h : mm_T X d mi (pc + len) ls (.int v :: st) M Q) : mm_T X d mi pc ls (.ref (mm_ext + e) :: st) M Q := by
  rw [Bool.and_eq_true, Bool.and_eq_true] at he
  have hn := hX e (Nat.le_of_ble_eq_true he.1.1) (Nat.le_of_ble_eq_true he.1.2)
  rw [Nat.eq_of_beq_eq_true he.2] at hn
  exact to_xlen hc (by rw [hn]; exact hv) h
theorem s_ialk {o n : Nat} {v : Int32} (hc : mm_code mi pc = some (.iaload, len, a, b, ps)) (hG : g_G M) (ho : (Nat.blt o 126 && Nat.beq (g_ty o) 100) = true) (hn : g_ln o = n) (hx : Nat.ble mm_ext o = false) (ex : x.toInt = A) (h0 : 0 ≤ A) (h1 : A < (n : Int)) (hv : M.2.1 o A.toNat = v) (h : mm_T X d mi (pc + len) ls (.int v :: st) M Q) : mm_T X d mi pc ls (.int x :: .ref o :: st) M Q := by
  rw [Bool.and_eq_true] at ho
  exact tt_ial hc hx (g_o hG (by rw [Bool.and_eq_true]; exact ho)) (by rw [g_l hG ho.1 hn]; exact i_ix ex h0 h1) (by rw [show x.toNatClampNeg = A.toNat by rw [← ex]; rfl]; exact hv) h
theorem s_balk {o n : Nat} {v : Int32} (hc : mm_code mi pc = some (.baload, len, a, b, ps)) (hG : g_G M) (ho : (Nat.blt o 126 && (Nat.beq (g_ty o) 102 || Nat.beq (g_ty o) 103)) = true) (hn : g_ln o = n) (ex : x.toInt = A) (h0 : 0 ≤ A) (h1 : A < (n : Int)) (hv : M.2.1 o A.toNat = v) (h : mm_T X d mi (pc + len) ls (.int v :: st) M Q) : mm_T X d mi pc ls (.int x :: .ref o :: st) M Q := by
  rw [Bool.and_eq_true, Bool.or_eq_true] at ho
  refine to_bal hc ?_ (by rw [g_l hG ho.1 hn]; exact i_ix ex h0 h1) (by rw [show x.toNatClampNeg = A.toNat by rw [← ex]; rfl]; exact hv) h
  rcases ho.2 with z | z
  · rw [g_o hG (by rw [Bool.and_eq_true]; exact ⟨ho.1, z⟩)]; rfl
  · rw [g_o (c := 103) hG (by rw [Bool.and_eq_true]; exact ⟨ho.1, z⟩), Bool.or_true]
theorem s_gs {k : Nat} (hc : mm_code mi pc = some (.getstatic k, len, a, b, ps)) (h : mm_T X d mi (pc + len) ls (.ref (mm_ext + a) :: st) M Q) : mm_T X d mi pc ls st M Q := tt_1 hc h
theorem s_aal (hc : mm_code mi pc = some (.aaload, len, a, b, ps)) (hG : g_G M) (ex : x.toInt = A) (h0 : 0 ≤ A) (h1 : A < 6) (h : ∀ r : Nat, (19 ≤ r ∧ r ≤ 24) → mm_T X d mi (pc + len) ls (.ref r :: st) M Q) : mm_T X d mi pc ls (.int x :: .ref 18 :: st) M Q := tt_1 hc (by
  show mm_b (mm_isObj M 18 104) (if x < 0 ∨ M.1.1.2.2 18 ≤ x.toNatClampNeg then False else mm_gO (M.2.2.2 18 x.toNatClampNeg) (fun v => mm_T X d mi (pc + len) ls (.ref v :: st) M Q) False) False
  rw [g_o hG rfl]
  show (if x < 0 ∨ M.1.1.2.2 18 ≤ x.toNatClampNeg then False else mm_gO (M.2.2.2 18 x.toNatClampNeg) (fun v => mm_T X d mi (pc + len) ls (.ref v :: st) M Q) False)
  rw [if_neg (by rw [g_l (n := 6) hG rfl rfl]; exact i_ix ex h0 h1), show x.toNatClampNeg = A.toNat by rw [← ex]; rfl]
  obtain ⟨k, hk, h6⟩ : ∃ k : Nat, A.toNat = k ∧ k < 6 := ⟨_, rfl, by omega⟩
  rw [hk]
  rcases (show k = 0 ∨ k = 1 ∨ k = 2 ∨ k = 3 ∨ k = 4 ∨ k = 5 by omega) with z | z | z | z | z | z <;> subst z
  · rw [g_r (v := 19) hG rfl]; exact h 19 (by decide)
  · rw [g_r (v := 20) hG rfl]; exact h 20 (by decide)
  · rw [g_r (v := 21) hG rfl]; exact h 21 (by decide)
  · rw [g_r (v := 22) hG rfl]; exact h 22 (by decide)
  · rw [g_r (v := 23) hG rfl]; exact h 23 (by decide)
  · rw [g_r (v := 24) hG rfl]; exact h 24 (by decide))
theorem rr_o {r : Nat} {p : Nat → Prop} (h1 : 19 ≤ r) (h2 : r ≤ 24) (h : p 19 ∧ p 20 ∧ p 21 ∧ p 22 ∧ p 23 ∧ p 24) : p r := by
  rcases (show r = 19 ∨ r = 20 ∨ r = 21 ∨ r = 22 ∨ r = 23 ∨ r = 24 by omega) with z | z | z | z | z | z <;> subst z
  · exact h.1
  · exact h.2.1
  · exact h.2.2.1
  · exact h.2.2.2.1
  · exact h.2.2.2.2.1
  · exact h.2.2.2.2.2
theorem rr_6 {r : Nat} (h : 19 ≤ r ∧ r ≤ 24) : r = 19 ∨ r = 20 ∨ r = 21 ∨ r = 22 ∨ r = 23 ∨ r = 24 := by omega
theorem g_oW {o c i j : Nat} {v : Int32} (hG : g_G M) (W : M1 = mm_setI M i j v) (h : (Nat.blt o 126 && Nat.beq (g_ty o) c) = true) : mm_isObj M1 o c = true := by
  subst W
  exact g_o (M := M) hG h
theorem W_ww {i j : Nat} {v w : Int32} (W : M1 = mm_setI M i j v) (W0 : M = mm_setI M0 i j w) : M1 = mm_setI M0 i j v := by
  subst W0
  rw [W]
  unfold mm_setI
  refine congrArg (fun f => (M0.1, f, M0.2.2.1, M0.2.2.2)) ?_
  funext b k
  show (if b = i ∧ k = j then v else if b = i ∧ k = j then w else M0.2.1 b k) = (if b = i ∧ k = j then v else M0.2.1 b k)
  by_cases z : b = i ∧ k = j
  · rw [if_pos z, if_pos z]
  · rw [if_neg z, if_neg z, if_neg z]
theorem s_pI0 {i o : Nat} (hc : mm_code mi pc = some (.putfield i, len, a, b, 0 :: ps)) (ho : mm_isObj M o a = true) (h : ∀ M1, M1 = mm_setI M o b x → mm_T X d mi (pc + len) ls st M1 Q) : mm_T X d mi pc ls (.int x :: .ref o :: st) M Q := tt_pI hc ho (h _ rfl)
theorem s_addo (hc : mm_code mi pc = some (.iadd, len, a, b, ps)) (ex : x.toInt = A) (ey : y.toInt = B) (h : ∀ v : Int32, (v.toInt = A + B ∨ A + B < -2147483648 ∨ 2147483647 < A + B) → mm_T X d mi (pc + len) ls (.int v :: st) M Q) : mm_T X d mi pc ls (.int y :: .int x :: st) M Q := tt_1 hc (h (x + y) (by
  by_cases z : -2147483648 ≤ A + B ∧ A + B ≤ 2147483647
  · exact Or.inl (i_add ex ey z)
  · omega))
theorem s_subo (hc : mm_code mi pc = some (.isub, len, a, b, ps)) (ex : x.toInt = A) (ey : y.toInt = B) (h : ∀ v : Int32, (v.toInt = A - B ∨ A - B < -2147483648 ∨ 2147483647 < A - B) → mm_T X d mi (pc + len) ls (.int v :: st) M Q) : mm_T X d mi pc ls (.int y :: .int x :: st) M Q := tt_1 hc (h (x - y) (by
  by_cases z : -2147483648 ≤ A - B ∧ A - B ≤ 2147483647
  · exact Or.inl (i_sub ex ey z)
  · omega))
end S3
/-! what holds between rows: of PLANS, that no FIELD ends ahead of its first HOLE; of NOTES, what their numbers are by kind; of QUESTIONS, that a VALUE's FIELD is one -/
noncomputable def PI (M : mm_M) : Prop := ∀ i : Nat, (M.2.1 52 i).toInt ≤ (M.2.1 53 i).toInt ∧ (M.2.1 61 i).toInt ≤ (M.2.1 62 i).toInt
abbrev PI_r (a : Nat) : Prop := a = 52 ∨ a = 53 ∨ a = 61 ∨ a = 62
theorem PI_f {M M1 : mm_M} (h : ∀ a i, PI_r a → M1.2.1 a i = M.2.1 a i) (H : PI M) : PI M1 := fun i => by
  rw [h 52 i (by omega), h 53 i (by omega), h 61 i (by omega), h 62 i (by omega)]
  exact H i
theorem PI_p {M : mm_M} {p : Nat} (H : PI M) (hp : p = 49 ∨ p = 58) (i : Nat) : (M.2.1 (p + 3) i).toInt ≤ (M.2.1 (p + 4) i).toInt := by
  rcases hp with rfl | rfl
  · exact (H i).1
  · exact (H i).2
theorem PI_k {M M1 M2 : mm_M} {p k : Nat} {f l : Int32} (H : PI M) (hp : p = 49 ∨ p = 58) (W1 : M1 = mm_setI M (p + 3) k f) (W2 : M2 = mm_setI M1 (p + 4) k l) (hf : f.toInt ≤ l.toInt) : PI M2 := by
  intro i
  have key : ∀ q, q = 49 ∨ q = 58 → (M2.2.1 (q + 3) i).toInt ≤ (M2.2.1 (q + 4) i).toInt := by
    intro q hq
    by_cases z : q = p ∧ i = k
    · obtain ⟨rfl, rfl⟩ := z
      rw [W_e W2, W_n W2 (by omega) (W_e W1)]
      exact hf
    · rw [W_n W2 (by omega) (W_n W1 (by omega) rfl), W_n W2 (by omega) (W_n W1 (by omega) rfl)]
      exact PI_p H hq i
  exact ⟨key 49 (Or.inl rfl), key 58 (Or.inr rfl)⟩
abbrev NI_c (k f s : Int) : Prop := (k = 0 → f ≤ 29 ∧ 0 ≤ s ∧ s ≤ 7) ∧ (k = 1 → f ≤ 29 ∧ 0 ≤ s ∧ s ≤ 11) ∧ (k = 2 → f ≤ 29) ∧ (k = 3 → f ≤ 29) ∧ (k = 4 → f ≤ 11)
noncomputable def NI (M : mm_M) : Prop := ∀ i : Nat, NI_c (M.2.1 7 i).toInt (M.2.1 8 i).toInt (M.2.1 9 i).toInt
theorem NI_f {M M1 : mm_M} (h : ∀ a i, (7 ≤ a ∧ a ≤ 9) → M1.2.1 a i = M.2.1 a i) (H : NI M) : NI M1 := fun i => by
  rw [h 7 i (by omega), h 8 i (by omega), h 9 i (by omega)]
  exact H i
theorem NI_u {M : mm_M} (H : NI M) (i : Nat) : NI_c (M.2.1 7 i).toInt (M.2.1 8 i).toInt (M.2.1 9 i).toInt := H i
theorem NI_k {M M1 M2 M3 : mm_M} {n : Nat} {k f s : Int32} (H : NI M) (W1 : M1 = mm_setI M 7 n k) (W2 : M2 = mm_setI M1 8 n f) (W3 : M3 = mm_setI M2 9 n s) (hc : NI_c k.toInt f.toInt s.toInt) : NI M3 := by
  intro i
  by_cases z : i = n
  · subst z
    rw [W_n W3 (by omega) (W_n W2 (by omega) (W_e W1)), W_n W3 (by omega) (W_e W2), W_e W3]
    exact hc
  · rw [W_n W3 (by omega) (W_n W2 (by omega) (W_n W1 (by omega) rfl)), W_n W3 (by omega) (W_n W2 (by omega) (W_n W1 (by omega) rfl)), W_n W3 (by omega) (W_n W2 (by omega) (W_n W1 (by omega) rfl))]
    exact H i
noncomputable def QI (M : mm_M) : Prop := ∀ i : Nat, ((M.2.1 68 i).toInt = 0 → (M.2.1 69 i).toInt ≤ 7) ∧ ((M.2.1 73 i).toInt = 0 → (M.2.1 74 i).toInt ≤ 7)
theorem QI_f {M M1 : mm_M} (h : ∀ a i, (a = 68 ∨ a = 69 ∨ a = 73 ∨ a = 74) → M1.2.1 a i = M.2.1 a i) (H : QI M) : QI M1 := fun i => by
  rw [h 68 i (by omega), h 69 i (by omega), h 73 i (by omega), h 74 i (by omega)]
  exact H i
theorem QI_u {M : mm_M} {q : Nat} (H : QI M) (hq : q = 67 ∨ q = 72) (i : Nat) : (M.2.1 (q + 1) i).toInt = 0 → (M.2.1 (q + 2) i).toInt ≤ 7 := by
  rcases hq with rfl | rfl
  · exact (H i).1
  · exact (H i).2
theorem QI_k {M M1 M2 : mm_M} {q n : Nat} {k f : Int32} (H : QI M) (hq : q = 67 ∨ q = 72) (W1 : M1 = mm_setI M (q + 1) n k) (W2 : M2 = mm_setI M1 (q + 2) n f) (hc : k.toInt = 0 → f.toInt ≤ 7) : QI M2 := by
  intro i
  have key : ∀ q2, q2 = 67 ∨ q2 = 72 → ((M2.2.1 (q2 + 1) i).toInt = 0 → (M2.2.1 (q2 + 2) i).toInt ≤ 7) := by
    intro q2 hq2
    by_cases z : q2 = q ∧ i = n
    · obtain ⟨rfl, rfl⟩ := z
      rw [W_e W2, W_n W2 (by omega) (W_e W1)]
      exact hc
    · rw [W_n W2 (by omega) (W_n W1 (by omega) rfl), W_n W2 (by omega) (W_n W1 (by omega) rfl)]
      exact QI_u H hq2 i
  exact ⟨key 67 (Or.inl rfl), key 72 (Or.inr rfl)⟩
