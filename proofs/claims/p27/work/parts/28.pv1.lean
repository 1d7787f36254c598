/-! counting the bits of a long -/
section SLE
variable {X : mm_X} {d mi pc : Nat} {ls st : List Value} {M : mm_M} {Q : Option Value → mm_M → Prop} {len a b : Nat} {ps : List Nat}
theorem s_opLE {i : Instr} {x y w : Int64} (hc : mm_code mi pc = some (i, len, a, b, ps)) (hw : mm_opL i x y = some w) (h : ∀ v : Int64, w = v → mm_T X d mi (pc + len) ls (.long v :: st) M Q) : mm_T X d mi pc ls (.long y :: .long x :: st) M Q := to_2l hc hw (h w rfl)
theorem s_opSE {i : Instr} {x w : Int64} {y : Int32} (hc : mm_code mi pc = some (i, len, a, b, ps)) (hw : mm_opS i x y = some w) (h : ∀ v : Int64, w = v → mm_T X d mi (pc + len) ls (.long v :: st) M Q) : mm_T X d mi pc ls (.int y :: .long x :: st) M Q := to_2s hc hw (h w rfl)
theorem s_l2iE {x : Int64} (hc : mm_code mi pc = some (.l2i, len, a, b, ps)) (h : ∀ v : Int32, x.toInt32 = v → mm_T X d mi (pc + len) ls (.int v :: st) M Q) : mm_T X d mi pc ls (.long x :: st) M Q := to_l2i hc rfl (h _ rfl)
theorem s_ldivE {u v : Int64} (hc : mm_code mi pc = some (.ldiv, len, a, b, ps)) (hv : v ≠ 0) (h : mm_T X d mi (pc + len) ls (.long (u / v) :: st) M Q) : mm_T X d mi pc ls (.long v :: .long u :: st) M Q := tt_1 hc (by
  show (if v = 0 then False else mm_T X d mi (pc + len) ls (.long (u / v) :: st) M Q)
  rw [if_neg hv]
  exact h)
end SLE
theorem l_msb {x : Int64} (hx : 0 ≤ x.toInt) : x.toBitVec.msb = false := by
  rw [BitVec.msb_eq_toInt]
  have : 0 ≤ x.toBitVec.toInt := hx
  simp only [decide_eq_false_iff_not]; omega
theorem l_nat {x : Int64} (hx : 0 ≤ x.toInt) : x.toInt = (x.toBitVec.toNat : Int) := by
  show x.toBitVec.toInt = _
  rw [BitVec.toInt_eq_toNat_of_msb (l_msb hx)]
theorem l_and_n {x y : Int64} (hx : 0 ≤ x.toInt) (hy : 0 ≤ y.toInt) : (x &&& y).toInt = ((x.toInt.toNat &&& y.toInt.toNat : Nat) : Int) := by
  have ex := l_nat hx
  have ey := l_nat hy
  show (x &&& y).toBitVec.toInt = _
  rw [Int64.toBitVec_and, BitVec.toInt_eq_toNat_of_msb (by rw [BitVec.msb_and, l_msb hx]; rfl), BitVec.toNat_and, ex, ey]
  rfl
theorem l_and_r {x y : Int64} (hy : 0 ≤ y.toInt) : 0 ≤ (x &&& y).toInt ∧ (x &&& y).toInt ≤ y.toInt := by
  have ey := l_nat hy
  have e : (x &&& y).toInt = ((x.toBitVec.toNat &&& y.toBitVec.toNat : Nat) : Int) := by
    show (x &&& y).toBitVec.toInt = _
    rw [Int64.toBitVec_and, BitVec.toInt_eq_toNat_of_msb (by rw [BitVec.msb_and, l_msb hy, Bool.and_false]), BitVec.toNat_and]
  have le : (x.toBitVec.toNat &&& y.toBitVec.toNat) ≤ y.toBitVec.toNat := Nat.and_le_right
  rw [e, ey]
  omega
theorem l_ushr {x : Int64} {k : Nat} (hk : k < 64) (hx : 0 ≤ x.toInt) : ((x.toUInt64 >>> ((Int32.ofNat k).toInt64.toUInt64 &&& Int64.toUInt64 63)).toInt64).toInt = x.toInt / (2 ^ k : Int) := by
  have ex := l_nat hx
  have e1 : (x.toUInt64 >>> ((Int32.ofNat k).toInt64.toUInt64 &&& Int64.toUInt64 63)).toNat = x.toBitVec.toNat / 2 ^ k := by
    rw [UInt64.toNat_shiftRight]
    have e2 : ((Int32.ofNat k).toInt64.toUInt64 &&& Int64.toUInt64 63).toNat = k := by
      have := (show ∀ j : Fin 64, ((Int32.ofNat j.val).toInt64.toUInt64 &&& Int64.toUInt64 63).toNat = j.val from by decide +kernel) ⟨k, hk⟩
      exact this
    rw [e2, Nat.mod_eq_of_lt hk, Nat.shiftRight_eq_div_pow]
    rfl
  have lt : x.toBitVec.toNat < 9223372036854775808 := by
    have := Int64.toInt_lt x
    omega
  have e3 : ((x.toUInt64 >>> ((Int32.ofNat k).toInt64.toUInt64 &&& Int64.toUInt64 63)).toInt64).toBitVec.toNat = x.toBitVec.toNat / 2 ^ k := e1
  have le : x.toBitVec.toNat / 2 ^ k ≤ x.toBitVec.toNat := Nat.div_le_self _ _
  show ((x.toUInt64 >>> ((Int32.ofNat k).toInt64.toUInt64 &&& Int64.toUInt64 63)).toInt64).toBitVec.toInt = _
  rw [BitVec.toInt_eq_toNat_cond, e3, if_pos (by omega), ex]
  exact Int.natCast_ediv _ _ |>.trans (by push_cast; rfl)
theorem l_bm {n : Int} (h : -9223372036854775808 ≤ n ∧ n < 9223372036854775808) : n.bmod (2 ^ 64) = n := by
  rw [Int.bmod_eq_of_le] <;> omega
theorem l_add {x y : Int64} (h : -9223372036854775808 ≤ x.toInt + y.toInt ∧ x.toInt + y.toInt < 9223372036854775808) : (x + y).toInt = x.toInt + y.toInt := by
  rw [Int64.toInt_add]
  exact l_bm h
theorem l_sub {x y : Int64} (h : -9223372036854775808 ≤ x.toInt - y.toInt ∧ x.toInt - y.toInt < 9223372036854775808) : (x - y).toInt = x.toInt - y.toInt := by
  rw [Int64.toInt_sub]
  exact l_bm h
/-- a long's lowest bits -/
theorem l_low {x : Int64} {v r : Int32} (hx : 0 ≤ x.toInt) (e1 : x.toInt32 = v) (e2 : v &&& 127 = r) : r.toInt = x.toInt % 128 := by
  have ex := l_nat hx
  have e : r.toBitVec.toNat = x.toBitVec.toNat % 128 := by
    rw [← e2, ← e1, Int32.toBitVec_and, BitVec.toNat_and, Int64.toBitVec_toInt32, BitVec.signExtend_eq_setWidth_of_le _ (by decide), BitVec.toNat_setWidth]
    show x.toBitVec.toNat % 2 ^ 32 &&& 127 = _
    rw [show (127 : Nat) = 2 ^ 7 - 1 from rfl, Nat.and_two_pow_sub_one_eq_mod]
    simp only [Nat.reducePow]
    omega
  have lt : r.toBitVec.toNat < 128 := by rw [e]; exact Nat.mod_lt _ (by decide)
  have : r.toInt = (r.toBitVec.toNat : Int) := by
    show r.toBitVec.toInt = _
    rw [BitVec.toInt_eq_toNat_cond, if_pos (by omega)]
  rw [this, e, ex]
  omega
/-! bytes -/
noncomputable def n_v : List Nat → Nat
  | [] => 0
  | b :: bs => 256 * n_v bs + b
noncomputable def n_m (c : Nat) : Nat → Nat
  | 0 => 0
  | n + 1 => 256 * n_m c n + c
theorem n_s1 : ∀ bs : List Nat, (∀ b ∈ bs, b < 256) → (n_v bs / 2) &&& n_m 0x55 bs.length = n_v (bs.map (fun b => (b / 2) &&& 0x55))
  | [], _ => by decide
  | b :: bs, h => by
    have hb := h b List.mem_cons_self
    have ih := n_s1 bs (fun x hx => h x (List.mem_cons_of_mem _ hx))
    have t := n_t1 ⟨b, hb⟩ ⟨n_v bs % 2, by omega⟩
    simp only at t
    show ((256 * n_v bs + b) / 2) &&& (256 * n_m 0x55 bs.length + 0x55) = 256 * n_v (bs.map (fun b => (b / 2) &&& 0x55)) + ((b / 2) &&& 0x55)
    rw [show (256 * n_v bs + b) / 2 = 256 * (n_v bs / 2) + (n_v bs % 2 * 128 + b / 2) by omega, n_land8 (by omega) (by decide), ih, t.1]
theorem n_s1s : ∀ bs : List Nat, (∀ b ∈ bs, b < 256) → n_v (bs.map (fun b => (b / 2) &&& 0x55)) ≤ n_v bs ∧ n_v bs - n_v (bs.map (fun b => (b / 2) &&& 0x55)) = n_v (bs.map n_f1)
  | [], _ => ⟨Nat.le_refl _, rfl⟩
  | b :: bs, h => by
    have hb := h b List.mem_cons_self
    obtain ⟨i1, i2⟩ := n_s1s bs (fun x hx => h x (List.mem_cons_of_mem _ hx))
    have t := n_t1 ⟨b, hb⟩ ⟨0, by omega⟩
    simp only at t
    have q : ((b / 2) &&& 0x55) ≤ b := t.2.1
    have f : n_f1 b = b - ((b / 2) &&& 0x55) := rfl
    show 256 * n_v (bs.map (fun b => (b / 2) &&& 0x55)) + ((b / 2) &&& 0x55) ≤ 256 * n_v bs + b ∧ (256 * n_v bs + b) - (256 * n_v (bs.map (fun b => (b / 2) &&& 0x55)) + ((b / 2) &&& 0x55)) = 256 * n_v (bs.map n_f1) + n_f1 b
    constructor <;> omega
theorem n_s2 : ∀ bs : List Nat, (∀ b ∈ bs, b < 256) → (n_v (bs.map n_f1) &&& n_m 0x33 bs.length) + ((n_v (bs.map n_f1) / 4) &&& n_m 0x33 bs.length) = n_v (bs.map n_f2)
  | [], _ => by decide
  | b :: bs, h => by
    have hb := h b List.mem_cons_self
    have ih := n_s2 bs (fun x hx => h x (List.mem_cons_of_mem _ hx))
    have t1 := n_t1 ⟨b, hb⟩ ⟨0, by omega⟩
    have t := n_t2 ⟨b, hb⟩ ⟨n_v (bs.map n_f1) % 4, by omega⟩
    simp only at t t1
    have lt : n_f1 b < 256 := t1.2.2.2
    have f : n_f2 b = (n_f1 b &&& 0x33) + ((n_f1 b / 4) &&& 0x33) := rfl
    show ((256 * n_v (bs.map n_f1) + n_f1 b) &&& (256 * n_m 0x33 bs.length + 0x33)) + (((256 * n_v (bs.map n_f1) + n_f1 b) / 4) &&& (256 * n_m 0x33 bs.length + 0x33)) = 256 * n_v (bs.map n_f2) + n_f2 b
    rw [show (256 * n_v (bs.map n_f1) + n_f1 b) / 4 = 256 * (n_v (bs.map n_f1) / 4) + (n_v (bs.map n_f1) % 4 * 64 + n_f1 b / 4) by omega, n_land8 lt (by decide), n_land8 (by omega) (by decide), t.1]
    omega
theorem n_s3b : ∀ bs : List Nat, (∀ b ∈ bs, b < 256) → n_v (bs.map n_f2) % 16 ≤ 4
  | [], _ => by decide
  | b :: bs, h => by
    have t := n_t2 ⟨b, h b List.mem_cons_self⟩ ⟨0, by omega⟩
    simp only at t
    show (256 * n_v (bs.map n_f2) + n_f2 b) % 16 ≤ 4
    omega
theorem n_s3 : ∀ bs : List Nat, (∀ b ∈ bs, b < 256) → (n_v (bs.map n_f2) + n_v (bs.map n_f2) / 16) &&& n_m 0x0f bs.length = n_v (bs.map n_pc)
  | [], _ => by decide
  | b :: bs, h => by
    have hb := h b List.mem_cons_self
    have hs : ∀ x ∈ bs, x < 256 := fun x hx => h x (List.mem_cons_of_mem _ hx)
    have ih := n_s3 bs hs
    have b4 := n_s3b bs hs
    have t2 := n_t2 ⟨b, hb⟩ ⟨0, by omega⟩
    have t := n_t3 ⟨b, hb⟩ ⟨n_v (bs.map n_f2) % 16, by omega⟩
    simp only at t t2
    show (256 * n_v (bs.map n_f2) + n_f2 b + (256 * n_v (bs.map n_f2) + n_f2 b) / 16) &&& (256 * n_m 0x0f bs.length + 0x0f) = 256 * n_v (bs.map n_pc) + n_pc b
    rw [show 256 * n_v (bs.map n_f2) + n_f2 b + (256 * n_v (bs.map n_f2) + n_f2 b) / 16 = 256 * (n_v (bs.map n_f2) + n_v (bs.map n_f2) / 16) + (n_f2 b + (n_v (bs.map n_f2) % 16 * 16 + n_f2 b / 16)) by omega, n_land8 (by omega) (by decide), ih, t.1]
noncomputable def n_bs : Nat → Nat → List Nat
  | 0, _ => []
  | k + 1, n => n % 256 :: n_bs k (n / 256)
theorem n_bs_v : ∀ k n : Nat, n < 256 ^ k → n_v (n_bs k n) = n
  | 0, n, h => by
    have h0 : n = 0 := Nat.lt_one_iff.mp h
    rw [h0]
    rfl
  | k + 1, n, h => by
    show 256 * n_v (n_bs k (n / 256)) + n % 256 = n
    rw [n_bs_v k (n / 256) (Nat.div_lt_of_lt_mul (by rw [Nat.mul_comm, ← Nat.pow_succ]; exact h))]
    omega
theorem n_bs_b : ∀ k n : Nat, ∀ b ∈ n_bs k n, b < 256
  | 0, _, b, h => by
    have h : b ∈ ([] : List Nat) := h
    simp at h
  | k + 1, n, b, h => by
    have h : b ∈ n % 256 :: n_bs k (n / 256) := h
    rcases List.mem_cons.mp h with h | h
    · rw [h]; exact Nat.mod_lt _ (by decide)
    · exact n_bs_b k (n / 256) b h
theorem n_d8 {b : Nat} {bs : List Nat} (h : b < 256) : n_v (b :: bs) / 256 = n_v bs := by
  show (256 * n_v bs + b) / 256 = _
  omega
theorem n_d2 (y : Nat) : y / 65536 = y / 256 / 256 := by omega
theorem n_d4 (y : Nat) : y / 4294967296 = y / 256 / 256 / 256 / 256 := by omega
theorem n_y {a b c d e f g h : Nat} : n_v [a, b, c, d, e, f, g, h] + n_v [b, c, d, e, f, g, h] = n_v [a + b, b + c, c + d, d + e, e + f, f + g, g + h, h] := by
  simp only [n_v]
  omega
theorem n_z {a b c d e f g h : Nat} : n_v [a, b, c, d, e, f, g, h] + n_v [c, d, e, f, g, h] = n_v [a + c, b + d, c + e, d + f, e + g, f + h, g, h] := by
  simp only [n_v]
  omega
theorem n_w {A B x y : Nat} (h : x + y < 128) : (256 * A + x + (256 * B + y)) % 128 = x + y := by omega
theorem n_sum {a b c d e f g h : Nat} (h0 : a ≤ 8) (h1 : b ≤ 8) (h2 : c ≤ 8) (h3 : d ≤ 8) (h4 : e ≤ 8) (h5 : f ≤ 8) (h6 : g ≤ 8) (h7 : h ≤ 8) {x y z w : Nat} (hx : x = n_v [a, b, c, d, e, f, g, h]) (hy : y = x + x / 256) (hz : z = y + y / 65536) (hw : w = z + z / 4294967296) : w % 128 = a + b + c + d + e + f + g + h := by
  have y1 : y = n_v [a + b, b + c, c + d, d + e, e + f, f + g, g + h, h] := by
    rw [hy, hx, n_d8 (by omega)]
    exact n_y
  have z1 : z = n_v [a + b + (c + d), b + c + (d + e), c + d + (e + f), d + e + (f + g), e + f + (g + h), f + g + h, g + h, h] := by
    rw [hz, n_d2, y1, n_d8 (by omega), n_d8 (by omega)]
    exact n_z
  have w1 : z / 4294967296 = n_v [e + f + (g + h), f + g + h, g + h, h] := by
    rw [n_d4, z1, n_d8 (by omega), n_d8 (by omega), n_d8 (by omega), n_d8 (by omega)]
  rw [hw, w1, z1]
  refine (n_w (A := n_v [b + c + (d + e), c + d + (e + f), d + e + (f + g), e + f + (g + h), f + g + h, g + h, h]) (B := n_v [f + g + h, g + h, h]) (x := a + b + (c + d)) (y := e + f + (g + h)) (by omega)).trans ?_
  omega
theorem n_pc8 (n : Nat) : n_pc (n % 256) + n_pc (n / 256 % 256) + n_pc (n / 256 / 256 % 256) + n_pc (n / 256 / 256 / 256 % 256) + n_pc (n / 256 / 256 / 256 / 256 % 256) + n_pc (n / 256 / 256 / 256 / 256 / 256 % 256) + n_pc (n / 256 / 256 / 256 / 256 / 256 / 256 % 256) + n_pc (n / 256 / 256 / 256 / 256 / 256 / 256 / 256 % 256) = x_ct n 64 := by
  have pp : ∀ m : Nat, n_pc (m % 256) = x_ct m 8 := fun m => by
    have p0 := n_pc_8 ⟨m % 256, by omega⟩
    simp only at p0
    rw [p0]
    exact x_ct_lo 8 (fun i hi => by
      rcases (show i = 0 ∨ i = 1 ∨ i = 2 ∨ i = 3 ∨ i = 4 ∨ i = 5 ∨ i = 6 ∨ i = 7 by omega) with rfl | rfl | rfl | rfl | rfl | rfl | rfl | rfl <;> simp only [Nat.reducePow] <;> omega)
  have q : ∀ m k : Nat, x_ct m (8 + k) = x_ct m 8 + x_ct (m / 256) k := fun m k => x_ct_add 8 k
  rw [pp, pp, pp, pp, pp, pp, pp, pp, show (64 : Nat) = 8 + (8 + (8 + (8 + (8 + (8 + (8 + 8)))))) from rfl, q, q, q, q, q, q, q]
  omega
theorem x_ct_62 {n : Nat} (h : n < 4611686018427387904) : x_ct n 64 = x_ct n 62 := by
  rw [show (64 : Nat) = 62 + 1 + 1 from rfl, x_ct, x_ct, Nat.div_eq_of_lt (show n < 2 ^ (62 + 1) from Nat.lt_of_lt_of_le h (by decide)), Nat.div_eq_of_lt (show n < 2 ^ 62 from Nat.lt_of_lt_of_le h (by decide))]
  omega
theorem l_dv {v w : Int} {c k : Nat} (a : w = (c : Int)) (b : v = w / (k : Int)) : v = ((c / k : Nat) : Int) := by
  rw [b, a]
  exact (Int.natCast_ediv c k).symm
theorem l_sb {m n k : Nat} (h : m ≤ n ∧ n - m = k) : (n : Int) - (m : Int) = (k : Int) := by omega
theorem l_ad {m n k : Nat} (h : m + n = k) : (m : Int) + (n : Int) = (k : Int) := by omega
theorem l_md {v r : Int} {m k : Nat} (a : v = (m : Int)) (b : r = v % 128) (h : m % 128 = k) : r = (k : Int) := by
  rw [b, a]
  omega
theorem bl_end {c k : Nat} {v10 v11 v12 v13 v14 v15 v16 r : Int} (a10 : v10 = (c : Int)) (a11 : v11 = v10 / 256) (a12 : v12 = v10 + v11) (a13 : v13 = v12 / 65536) (a14 : v14 = v12 + v13) (a15 : v15 = v14 / 4294967296) (a16 : v16 = v14 + v15) (a17 : r = v16 % 128) {y z w : Nat} (hy : c + c / 256 = y) (hz : y + y / 65536 = z) (hw : z + z / 4294967296 = w) (key : w % 128 = k) : r = (k : Int) := by
  have e11 : v11 = ((c / 256 : Nat) : Int) := l_dv a10 a11
  have e12 : v12 = (y : Int) := by rw [a12, a10, e11]; exact l_ad hy
  have e13 : v13 = ((y / 65536 : Nat) : Int) := l_dv e12 a13
  have e14 : v14 = (z : Int) := by rw [a14, e12, e13]; exact l_ad hz
  have e15 : v15 = ((z / 4294967296 : Nat) : Int) := l_dv e14 a15
  have e16 : v16 = (w : Int) := by rw [a16, e14, e15]; exact l_ad hw
  exact l_md e16 a17 key
theorem bl_all {x v1 v2 v3 v4 v5 v6 v7 v8 v9 v10 v11 v12 v13 v14 v15 v16 r : Int} (h0 : 0 ≤ x) (h1 : x < 4611686018427387904) (a1 : v1 = x / 2) (a2 : v2 = ((v1.toNat &&& 0x5555555555555555 : Nat) : Int)) (a3 : v3 = x - v2) (a4 : v4 = ((v3.toNat &&& 0x3333333333333333 : Nat) : Int)) (a5 : v5 = v3 / 4) (a6 : v6 = ((v5.toNat &&& 0x3333333333333333 : Nat) : Int)) (a7 : v7 = v4 + v6) (a8 : v8 = v7 / 16) (a9 : v9 = v7 + v8) (a10 : v10 = ((v9.toNat &&& 0x0f0f0f0f0f0f0f0f : Nat) : Int)) (a11 : v11 = v10 / 256) (a12 : v12 = v10 + v11) (a13 : v13 = v12 / 65536) (a14 : v14 = v12 + v13) (a15 : v15 = v14 / 4294967296) (a16 : v16 = v14 + v15) (a17 : r = v16 % 128) : r = ((x_ct x.toNat 62 : Nat) : Int) := by
  obtain ⟨n, hxn⟩ := Int.eq_ofNat_of_zero_le h0
  have hn0 : n < 4611686018427387904 := by
    clear a1 a2 a3 a4 a5 a6 a7 a8 a9 a10 a11 a12 a13 a14 a15 a16 a17
    omega
  have hn : n < 256 ^ 8 := Nat.lt_of_lt_of_le hn0 (by decide)
  have ev := n_bs_v 8 _ hn
  have eb := n_bs_b 8 n
  have el : (n_bs 8 n).length = 8 := rfl
  have s1 := n_s1 _ eb
  have s1s := n_s1s _ eb
  have s2 := n_s2 _ eb
  have s3 := n_s3 _ eb
  rw [el] at s1 s2 s3
  rw [ev] at s1 s1s
  have m5 : n_m 0x55 8 = 0x5555555555555555 := by decide
  have m3 : n_m 0x33 8 = 0x3333333333333333 := by decide
  have m0 : n_m 0x0f 8 = 0x0f0f0f0f0f0f0f0f := by decide
  rw [m5] at s1
  rw [m3] at s2
  rw [m0] at s3
  have e1 : v1 = ((n / 2 : Nat) : Int) := l_dv hxn a1
  have e2 : v2 = ((n_v ((n_bs 8 n).map (fun b => (b / 2) &&& 0x55)) : Nat) : Int) := by rw [a2, e1, Int.toNat_natCast, s1]
  have e3 : v3 = ((n_v ((n_bs 8 n).map n_f1) : Nat) : Int) := by rw [a3, hxn, e2]; exact l_sb s1s
  have e4 : v4 = ((n_v ((n_bs 8 n).map n_f1) &&& 0x3333333333333333 : Nat) : Int) := by rw [a4, e3, Int.toNat_natCast]
  have e5 : v5 = ((n_v ((n_bs 8 n).map n_f1) / 4 : Nat) : Int) := l_dv e3 a5
  have e6 : v6 = ((n_v ((n_bs 8 n).map n_f1) / 4 &&& 0x3333333333333333 : Nat) : Int) := by rw [a6, e5, Int.toNat_natCast]
  have e7 : v7 = ((n_v ((n_bs 8 n).map n_f2) : Nat) : Int) := by rw [a7, e4, e6]; exact l_ad s2
  have e8 : v8 = ((n_v ((n_bs 8 n).map n_f2) / 16 : Nat) : Int) := l_dv e7 a8
  have e9 : v9 = ((n_v ((n_bs 8 n).map n_f2) + n_v ((n_bs 8 n).map n_f2) / 16 : Nat) : Int) := by rw [a9, e7, e8]; exact l_ad rfl
  have e10 : v10 = ((n_v ((n_bs 8 n).map n_pc) : Nat) : Int) := by rw [a10, e9, Int.toNat_natCast, s3]
  clear a1 a2 a3 a4 a5 a6 a7 a8 a9 a10 e1 e2 e3 e4 e5 e6 e7 e8 e9 s1 s1s s2 s3
  have t3 : ∀ m : Nat, n_pc (m % 256) ≤ 8 := fun m => (n_t3 ⟨m % 256, by omega⟩ ⟨0, by omega⟩).2.2
  have key := n_sum (t3 n) (t3 (n / 256)) (t3 (n / 256 / 256)) (t3 (n / 256 / 256 / 256)) (t3 (n / 256 / 256 / 256 / 256)) (t3 (n / 256 / 256 / 256 / 256 / 256)) (t3 (n / 256 / 256 / 256 / 256 / 256 / 256)) (t3 (n / 256 / 256 / 256 / 256 / 256 / 256 / 256)) (x := n_v ((n_bs 8 n).map n_pc)) rfl rfl rfl rfl
  rw [n_pc8, x_ct_62 hn0] at key
  have ex : x.toNat = n := by rw [hxn]; rfl
  rw [ex]
  exact bl_end e10 a11 a12 a13 a14 a15 a16 a17 rfl rfl rfl key
