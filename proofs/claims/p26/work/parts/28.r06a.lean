/-! counting the bits of a long -/
section SLE
variable {X : mm_X} {d mi pc : Nat} {ls st : List Value} {M : mm_M} {Q : Option Value → mm_M → Prop} {len a b : Nat} {ps : List Nat}
theorem s_opLE {i : Instr} {x y w : Int64} (hc : mm_code mi pc = some (i, len, a, b, ps)) (hw : mm_opL i x y = some w) (h : ∀ v : Int64, w = v → mm_T X d mi (pc + len) ls (.long v :: st) M Q) : mm_T X d mi pc ls (.long y :: .long x :: st) M Q := to_2l hc hw (h w rfl)
theorem s_opSE {i : Instr} {x w : Int64} {y : Int32} (hc : mm_code mi pc = some (i, len, a, b, ps)) (hw : mm_opS i x y = some w) (h : ∀ v : Int64, w = v → mm_T X d mi (pc + len) ls (.long v :: st) M Q) : mm_T X d mi pc ls (.int y :: .long x :: st) M Q := to_2s hc hw (h w rfl)
theorem s_l2iE {x : Int64} (hc : mm_code mi pc = some (.l2i, len, a, b, ps)) (h : ∀ v : Int32, x.toInt32 = v → mm_T X d mi (pc + len) ls (.int v :: st) M Q) : mm_T X d mi pc ls (.long x :: st) M Q := to_l2i hc rfl (h _ rfl)
theorem s_ldivE {u v : Int64} (hc : mm_code mi pc = some (.ldiv, len, a, b, ps)) (hv : v ≠ 0) (h : mm_T X d mi (pc + len) ls (.long (u / v) :: st) M Q) : mm_T X d mi pc ls (.long v :: .long u :: st) M Q := tt_1 hc (by
  show (if v = 0 then False else mm_T X d mi (pc + len) ls (.long (u / v) :: st) M Q)
  rw [if_neg hv]
  exact h)
end SLE
theorem l_msb {x : Int64} (hx : 0 ≤ x.toInt) : x.toBitVec.msb = false := by
  rw [BitVec.msb_eq_toInt]
  have : 0 ≤ x.toBitVec.toInt := hx
  simp only [decide_eq_false_iff_not]; omega
theorem l_nat {x : Int64} (hx : 0 ≤ x.toInt) : x.toInt = (x.toBitVec.toNat : Int) := by
  show x.toBitVec.toInt = _
  rw [BitVec.toInt_eq_toNat_of_msb (l_msb hx)]
theorem l_and_n {x y : Int64} (hx : 0 ≤ x.toInt) (hy : 0 ≤ y.toInt) : (x &&& y).toInt = ((x.toInt.toNat &&& y.toInt.toNat : Nat) : Int) := by
  have ex := l_nat hx
  have ey := l_nat hy
  show (x &&& y).toBitVec.toInt = _
  rw [Int64.toBitVec_and, BitVec.toInt_eq_toNat_of_msb (by rw [BitVec.msb_and, l_msb hx]; rfl), BitVec.toNat_and, ex, ey]
  rfl
theorem l_and_r {x y : Int64} (hy : 0 ≤ y.toInt) : 0 ≤ (x &&& y).toInt ∧ (x &&& y).toInt ≤ y.toInt := by
  have ey := l_nat hy
  have e : (x &&& y).toInt = ((x.toBitVec.toNat &&& y.toBitVec.toNat : Nat) : Int) := by
    show (x &&& y).toBitVec.toInt = _
    rw [Int64.toBitVec_and, BitVec.toInt_eq_toNat_of_msb (by rw [BitVec.msb_and, l_msb hy, Bool.and_false]), BitVec.toNat_and]
  have le : (x.toBitVec.toNat &&& y.toBitVec.toNat) ≤ y.toBitVec.toNat := Nat.and_le_right
  rw [e, ey]
  omega
theorem l_ushr {x : Int64} {k : Nat} (hk : k < 64) (hx : 0 ≤ x.toInt) : ((x.toUInt64 >>> ((Int32.ofNat k).toInt64.toUInt64 &&& Int64.toUInt64 63)).toInt64).toInt = x.toInt / (2 ^ k : Int) := by
  have ex := l_nat hx
  have e1 : (x.toUInt64 >>> ((Int32.ofNat k).toInt64.toUInt64 &&& Int64.toUInt64 63)).toNat = x.toBitVec.toNat / 2 ^ k := by
    rw [UInt64.toNat_shiftRight]
    have e2 : ((Int32.ofNat k).toInt64.toUInt64 &&& Int64.toUInt64 63).toNat = k := by
      have := (show ∀ j : Fin 64, ((Int32.ofNat j.val).toInt64.toUInt64 &&& Int64.toUInt64 63).toNat = j.val from by decide +kernel) ⟨k, hk⟩
      exact this
    rw [e2, Nat.mod_eq_of_lt hk, Nat.shiftRight_eq_div_pow]
    rfl
  have lt : x.toBitVec.toNat < 9223372036854775808 := by
    have := Int64.toInt_lt x
    omega
  have e3 : ((x.toUInt64 >>> ((Int32.ofNat k).toInt64.toUInt64 &&& Int64.toUInt64 63)).toInt64).toBitVec.toNat = x.toBitVec.toNat / 2 ^ k := e1
  have le : x.toBitVec.toNat / 2 ^ k ≤ x.toBitVec.toNat := Nat.div_le_self _ _
  show ((x.toUInt64 >>> ((Int32.ofNat k).toInt64.toUInt64 &&& Int64.toUInt64 63)).toInt64).toBitVec.toInt = _
  rw [BitVec.toInt_eq_toNat_cond, e3, if_pos (by omega), ex]
  exact Int.natCast_ediv _ _ |>.trans (by push_cast; rfl)
theorem l_bm {n : Int} (h : -9223372036854775808 ≤ n ∧ n < 9223372036854775808) : n.bmod (2 ^ 64) = n := by
  rw [Int.bmod_eq_of_le] <;> omega
theorem l_add {x y : Int64} (h : -9223372036854775808 ≤ x.toInt + y.toInt ∧ x.toInt + y.toInt < 9223372036854775808) : (x + y).toInt = x.toInt + y.toInt := by
  rw [Int64.toInt_add]
  exact l_bm h
theorem l_sub {x y : Int64} (h : -9223372036854775808 ≤ x.toInt - y.toInt ∧ x.toInt - y.toInt < 9223372036854775808) : (x - y).toInt = x.toInt - y.toInt := by
  rw [Int64.toInt_sub]
  exact l_bm h
/-- a long's lowest bits -/
theorem l_low {x : Int64} {v r : Int32} (hx : 0 ≤ x.toInt) (e1 : x.toInt32 = v) (e2 : v &&& 127 = r) : r.toInt = x.toInt % 128 := by
  have ex := l_nat hx
  have e : r.toBitVec.toNat = x.toBitVec.toNat % 128 := by
    rw [← e2, ← e1, Int32.toBitVec_and, BitVec.toNat_and, Int64.toBitVec_toInt32, BitVec.signExtend_eq_setWidth_of_le _ (by decide), BitVec.toNat_setWidth]
    show x.toBitVec.toNat % 2 ^ 32 &&& 127 = _
    rw [show (127 : Nat) = 2 ^ 7 - 1 from rfl, Nat.and_two_pow_sub_one_eq_mod]
    simp only [Nat.reducePow]
    omega
  have lt : r.toBitVec.toNat < 128 := by rw [e]; exact Nat.mod_lt _ (by decide)
  have : r.toInt = (r.toBitVec.toNat : Int) := by
    show r.toBitVec.toInt = _
    rw [BitVec.toInt_eq_toNat_cond, if_pos (by omega)]
  rw [this, e, ex]
  omega
/-! bytes -/
def n_v : List Nat → Nat
  | [] => 0
  | b :: bs => 256 * n_v bs + b
def n_m (c : Nat) : Nat → Nat
  | 0 => 0
  | n + 1 => 256 * n_m c n + c
theorem n_s1 : ∀ bs : List Nat, (∀ b ∈ bs, b < 256) → (n_v bs / 2) &&& n_m 0x55 bs.length = n_v (bs.map (fun b => (b / 2) &&& 0x55))
  | [], _ => by decide
  | b :: bs, h => by
    have hb := h b List.mem_cons_self
    have ih := n_s1 bs (fun x hx => h x (List.mem_cons_of_mem _ hx))
    have t := n_t1 ⟨b, hb⟩ ⟨n_v bs % 2, by omega⟩
    simp only at t
    show ((256 * n_v bs + b) / 2) &&& (256 * n_m 0x55 bs.length + 0x55) = 256 * n_v (bs.map (fun b => (b / 2) &&& 0x55)) + ((b / 2) &&& 0x55)
    rw [show (256 * n_v bs + b) / 2 = 256 * (n_v bs / 2) + (n_v bs % 2 * 128 + b / 2) by omega, n_land8 (by omega) (by decide), ih, t.1]
theorem n_s1s : ∀ bs : List Nat, (∀ b ∈ bs, b < 256) → n_v (bs.map (fun b => (b / 2) &&& 0x55)) ≤ n_v bs ∧ n_v bs - n_v (bs.map (fun b => (b / 2) &&& 0x55)) = n_v (bs.map n_f1)
  | [], _ => ⟨Nat.le_refl _, rfl⟩
  | b :: bs, h => by
    have hb := h b List.mem_cons_self
    obtain ⟨i1, i2⟩ := n_s1s bs (fun x hx => h x (List.mem_cons_of_mem _ hx))
    have t := n_t1 ⟨b, hb⟩ ⟨0, by omega⟩
    simp only at t
    have q : ((b / 2) &&& 0x55) ≤ b := t.2.1
    have f : n_f1 b = b - ((b / 2) &&& 0x55) := rfl
    show 256 * n_v (bs.map (fun b => (b / 2) &&& 0x55)) + ((b / 2) &&& 0x55) ≤ 256 * n_v bs + b ∧ (256 * n_v bs + b) - (256 * n_v (bs.map (fun b => (b / 2) &&& 0x55)) + ((b / 2) &&& 0x55)) = 256 * n_v (bs.map n_f1) + n_f1 b
    constructor <;> omega
theorem n_s2 : ∀ bs : List Nat, (∀ b ∈ bs, b < 256) → (n_v (bs.map n_f1) &&& n_m 0x33 bs.length) + ((n_v (bs.map n_f1) / 4) &&& n_m 0x33 bs.length) = n_v (bs.map n_f2)
  | [], _ => by decide
  | b :: bs, h => by
    have hb := h b List.mem_cons_self
    have ih := n_s2 bs (fun x hx => h x (List.mem_cons_of_mem _ hx))
    have t1 := n_t1 ⟨b, hb⟩ ⟨0, by omega⟩
    have t := n_t2 ⟨b, hb⟩ ⟨n_v (bs.map n_f1) % 4, by omega⟩
    simp only at t t1
    have lt : n_f1 b < 256 := t1.2.2.2
    have f : n_f2 b = (n_f1 b &&& 0x33) + ((n_f1 b / 4) &&& 0x33) := rfl
    show ((256 * n_v (bs.map n_f1) + n_f1 b) &&& (256 * n_m 0x33 bs.length + 0x33)) + (((256 * n_v (bs.map n_f1) + n_f1 b) / 4) &&& (256 * n_m 0x33 bs.length + 0x33)) = 256 * n_v (bs.map n_f2) + n_f2 b
    rw [show (256 * n_v (bs.map n_f1) + n_f1 b) / 4 = 256 * (n_v (bs.map n_f1) / 4) + (n_v (bs.map n_f1) % 4 * 64 + n_f1 b / 4) by omega, n_land8 lt (by decide), n_land8 (by omega) (by decide), t.1]
    omega
theorem n_s3b : ∀ bs : List Nat, (∀ b ∈ bs, b < 256) → n_v (bs.map n_f2) % 16 ≤ 4
  | [], _ => by decide
  | b :: bs, h => by
    have t := n_t2 ⟨b, h b List.mem_cons_self⟩ ⟨0, by omega⟩
    simp only at t
    show (256 * n_v (bs.map n_f2) + n_f2 b) % 16 ≤ 4
    omega
theorem n_s3 : ∀ bs : List Nat, (∀ b ∈ bs, b < 256) → (n_v (bs.map n_f2) + n_v (bs.map n_f2) / 16) &&& n_m 0x0f bs.length = n_v (bs.map n_pc)
  | [], _ => by decide
  | b :: bs, h => by
    have hb := h b List.mem_cons_self
    have hs : ∀ x ∈ bs, x < 256 := fun x hx => h x (List.mem_cons_of_mem _ hx)
    have ih := n_s3 bs hs
    have b4 := n_s3b bs hs
    have t2 := n_t2 ⟨b, hb⟩ ⟨0, by omega⟩
    have t := n_t3 ⟨b, hb⟩ ⟨n_v (bs.map n_f2) % 16, by omega⟩
    simp only at t t2
    show (256 * n_v (bs.map n_f2) + n_f2 b + (256 * n_v (bs.map n_f2) + n_f2 b) / 16) &&& (256 * n_m 0x0f bs.length + 0x0f) = 256 * n_v (bs.map n_pc) + n_pc b
    rw [show 256 * n_v (bs.map n_f2) + n_f2 b + (256 * n_v (bs.map n_f2) + n_f2 b) / 16 = 256 * (n_v (bs.map n_f2) + n_v (bs.map n_f2) / 16) + (n_f2 b + (n_v (bs.map n_f2) % 16 * 16 + n_f2 b / 16)) by omega, n_land8 (by omega) (by decide), ih, t.1]
def n_bs : Nat → Nat → List Nat
  | 0, _ => []
  | k + 1, n => n % 256 :: n_bs k (n / 256)
theorem n_bs_v : ∀ k n : Nat, n < 256 ^ k → n_v (n_bs k n) = n
  | 0, n, h => by
    have h0 : n = 0 := Nat.lt_one_iff.mp h
    rw [h0]
    rfl
  | k + 1, n, h => by
    show 256 * n_v (n_bs k (n / 256)) + n % 256 = n
    rw [n_bs_v k (n / 256) (Nat.div_lt_of_lt_mul (by rw [Nat.mul_comm, ← Nat.pow_succ]; exact h))]
    omega
theorem n_bs_b : ∀ k n : Nat, ∀ b ∈ n_bs k n, b < 256
  | 0, _, b, h => by
    have h : b ∈ ([] : List Nat) := h
    simp at h
  | k + 1, n, b, h => by
    have h : b ∈ n % 256 :: n_bs k (n / 256) := h
    rcases List.mem_cons.mp h with h | h
    · rw [h]; exact Nat.mod_lt _ (by decide)
    · exact n_bs_b k (n / 256) b h
theorem n_sum {a b c d e f g h : Nat} (h0 : a ≤ 8) (h1 : b ≤ 8) (h2 : c ≤ 8) (h3 : d ≤ 8) (h4 : e ≤ 8) (h5 : f ≤ 8) (h6 : g ≤ 8) (h7 : h ≤ 8) {x y z w : Nat} (hx : x = n_v [a, b, c, d, e, f, g, h]) (hy : y = x + x / 256) (hz : z = y + y / 65536) (hw : w = z + z / 4294967296) : w % 128 = a + b + c + d + e + f + g + h := by
  simp only [n_v] at hx
  have k1 : y = 256 * (256 * (256 * (256 * (256 * (256 * (256 * h + (g + h)) + (f + g)) + (e + f)) + (d + e)) + (c + d)) + (b + c)) + (a + b) := by omega
  have k2 : z = 256 * (256 * (256 * (256 * (256 * (256 * (256 * h + (g + h)) + (f + g + h)) + (e + f + g + h)) + (d + e + f + g)) + (c + d + e + f)) + (b + c + d + e)) + (a + b + c + d) := by omega
  have k3 : z / 4294967296 = 256 * (256 * (256 * h + (g + h)) + (f + g + h)) + (e + f + g + h) := by omega
  omega
theorem n_pc8 (n : Nat) : n_pc (n % 256) + n_pc (n / 256 % 256) + n_pc (n / 256 / 256 % 256) + n_pc (n / 256 / 256 / 256 % 256) + n_pc (n / 256 / 256 / 256 / 256 % 256) + n_pc (n / 256 / 256 / 256 / 256 / 256 % 256) + n_pc (n / 256 / 256 / 256 / 256 / 256 / 256 % 256) + n_pc (n / 256 / 256 / 256 / 256 / 256 / 256 / 256 % 256) = x_ct n 64 := by
  have pp : ∀ m : Nat, n_pc (m % 256) = x_ct m 8 := fun m => by
    have p0 := n_pc_8 ⟨m % 256, by omega⟩
    simp only at p0
    rw [p0]
    exact x_ct_lo 8 (fun i hi => by
      rcases (show i = 0 ∨ i = 1 ∨ i = 2 ∨ i = 3 ∨ i = 4 ∨ i = 5 ∨ i = 6 ∨ i = 7 by omega) with rfl | rfl | rfl | rfl | rfl | rfl | rfl | rfl <;> simp only [Nat.reducePow] <;> omega)
  have q : ∀ m k : Nat, x_ct m (8 + k) = x_ct m 8 + x_ct (m / 256) k := fun m k => x_ct_add 8 k
  rw [pp, pp, pp, pp, pp, pp, pp, pp, show (64 : Nat) = 8 + (8 + (8 + (8 + (8 + (8 + (8 + 8)))))) from rfl, q, q, q, q, q, q, q]
  omega
theorem x_ct_62 {n : Nat} (h : n < 4611686018427387904) : x_ct n 64 = x_ct n 62 := by
  rw [show (64 : Nat) = 62 + 1 + 1 from rfl, x_ct, x_ct, Nat.div_eq_of_lt (show n < 2 ^ (62 + 1) from Nat.lt_of_lt_of_le h (by decide)), Nat.div_eq_of_lt (show n < 2 ^ 62 from Nat.lt_of_lt_of_le h (by decide))]
theorem bl_all {x v1 v2 v3 v4 v5 v6 v7 v8 v9 v10 v11 v12 v13 v14 v15 v16 r : Int} (h0 : 0 ≤ x) (h1 : x < 4611686018427387904) (a1 : v1 = x / 2) (a2 : v2 = ((v1.toNat &&& 0x5555555555555555 : Nat) : Int)) (a3 : v3 = x - v2) (a4 : v4 = ((v3.toNat &&& 0x3333333333333333 : Nat) : Int)) (a5 : v5 = v3 / 4) (a6 : v6 = ((v5.toNat &&& 0x3333333333333333 : Nat) : Int)) (a7 : v7 = v4 + v6) (a8 : v8 = v7 / 16) (a9 : v9 = v7 + v8) (a10 : v10 = ((v9.toNat &&& 0x0f0f0f0f0f0f0f0f : Nat) : Int)) (a11 : v11 = v10 / 256) (a12 : v12 = v10 + v11) (a13 : v13 = v12 / 65536) (a14 : v14 = v12 + v13) (a15 : v15 = v14 / 4294967296) (a16 : v16 = v14 + v15) (a17 : r = v16 % 128) : r = ((x_ct x.toNat 62 : Nat) : Int) := by
  have hn : x.toNat < 256 ^ 8 := Nat.lt_of_lt_of_le (show x.toNat < 4611686018427387904 by omega) (by decide)
  have ev := n_bs_v 8 _ hn
  have eb := n_bs_b 8 x.toNat
  have el : (n_bs 8 x.toNat).length = 8 := rfl
  have s1 := n_s1 _ eb
  have s1s := n_s1s _ eb
  have s2 := n_s2 _ eb
  have s3 := n_s3 _ eb
  rw [el] at s1 s2 s3
  rw [ev] at s1 s1s
  have m5 : n_m 0x55 8 = 0x5555555555555555 := by decide
  have m3 : n_m 0x33 8 = 0x3333333333333333 := by decide
  have m0 : n_m 0x0f 8 = 0x0f0f0f0f0f0f0f0f := by decide
  rw [m5] at s1
  rw [m3] at s2
  rw [m0] at s3
  have b1 : v1.toNat = x.toNat / 2 := by omega
  rw [b1, s1] at a2
  have b3 : v3.toNat = n_v ((n_bs 8 x.toNat).map n_f1) := by omega
  rw [b3] at a4
  have b5 : v5.toNat = n_v ((n_bs 8 x.toNat).map n_f1) / 4 := by omega
  rw [b5] at a6
  have b9 : v9.toNat = n_v ((n_bs 8 x.toNat).map n_f2) + n_v ((n_bs 8 x.toNat).map n_f2) / 16 := by omega
  rw [b9, s3] at a10
  have t3 : ∀ m : Nat, n_pc (m % 256) ≤ 8 := fun m => (n_t3 ⟨m % 256, by omega⟩ ⟨0, by omega⟩).2.2
  have key := n_sum (t3 x.toNat) (t3 (x.toNat / 256)) (t3 (x.toNat / 256 / 256)) (t3 (x.toNat / 256 / 256 / 256)) (t3 (x.toNat / 256 / 256 / 256 / 256)) (t3 (x.toNat / 256 / 256 / 256 / 256 / 256)) (t3 (x.toNat / 256 / 256 / 256 / 256 / 256 / 256)) (t3 (x.toNat / 256 / 256 / 256 / 256 / 256 / 256 / 256)) (x := n_v ((n_bs 8 x.toNat).map n_pc)) rfl rfl rfl rfl
  rw [n_pc8, x_ct_62 (by omega)] at key
  generalize n_v ((n_bs 8 x.toNat).map n_pc) = c at a10 key
  omega
/-! how likely a drop is false -/
theorem l_ne0 {w : Int32} (h : 1 ≤ w.toInt) : w.toInt64 ≠ 0 := fun z => by
  have h2 : (w.toInt64).toInt = 0 := by rw [z]; rfl
  rw [Int32.toInt_toInt64] at h2
  omega
def x_wy (n k : Int) : Nat → Int → Int64 → Int64
  | 0, _, acc => acc
  | m + 1, i, acc => x_wy n k m (i + 1) (acc * (Int32.ofInt (n - k + i)).toInt64 / (Int32.ofInt i).toInt64)
def x_ch (n : Int) : Nat → Int → Int64 → Int64
  | 0, _, acc => acc
  | m + 1, i, acc => x_ch n m (i + 1) (acc * (Int32.ofInt (n - i)).toInt64 / (Int32.ofInt (i + 1)).toInt64)
def x_ways (n k : Int) : Int64 := if n < k then 0 else x_ch n k.toNat 0 1
theorem x_wy_d : ∀ n : Fin 65, ∀ k : Fin 5, ¬ (n.val : Int) < (k.val : Int) → x_wy n.val k.val k.val 1 1 = x_ch n.val k.val 0 1 := by decide +kernel
theorem x_wy_s {n k i i2 : Int} {acc E : Int64} {v w : Int32} (hv : v.toInt = n - k + i) (hw : w.toInt = i) (h0 : i ≤ k) (h2 : i2 = i + 1) (H : x_wy n k (k + 1 - i).toNat i acc = E) : x_wy n k (k + 1 - i2).toNat i2 (acc * v.toInt64 / w.toInt64) = E := by
  rw [← H, show (k + 1 - i).toNat = (k + 1 - i2).toNat + 1 by omega, x_wy, x_i32 hv, x_i32 hw, h2]
theorem x_ch_s {n k i i2 : Int} {acc E : Int64} {v w : Int32} (hv : v.toInt = n - i) (hw : w.toInt = i + 1) (h0 : i < k) (h2 : i2 = i + 1) (H : x_ch n (k - i).toNat i acc = E) : x_ch n (k - i2).toNat i2 (acc * v.toInt64 / w.toInt64) = E := by
  rw [← H, show (k - i).toNat = (k - i2).toNat + 1 by omega, x_ch, x_i32 hv, x_i32 hw, h2]
theorem x_ways_0 {n k : Int} (h : n < k) : (0 : Int64) = x_ways n k := by
  unfold x_ways
  rw [if_pos h]
theorem x_ways_y {n k i : Int} {acc : Int64} (h : ¬ n < k) (hn : 0 ≤ n ∧ n ≤ 64) (hk : 1 ≤ k ∧ k ≤ 4) (hi : k < i) (H : x_wy n k (k + 1 - i).toNat i acc = x_wy n k k.toNat 1 1) : acc = x_ways n k := by
  rw [show (k + 1 - i).toNat = 0 by omega] at H
  have d := x_wy_d ⟨n.toNat, by omega⟩ ⟨k.toNat, by omega⟩
  simp only [show ((n.toNat : Nat) : Int) = n by omega, show ((k.toNat : Nat) : Int) = k by omega] at d
  unfold x_ways
  rw [if_neg h, ← d h]
  exact H
theorem x_ways_c {n k i : Int} {acc : Int64} (h : ¬ n < k) (hi : k ≤ i) (H : x_ch n (k - i).toNat i acc = x_ch n k.toNat 0 1) : acc = x_ways n k := by
  rw [show (k - i).toNat = 0 by omega] at H
  unfold x_ways
  rw [if_neg h]
  exact H
theorem x_ways_v {n k k2 : Int} (h : k = k2) : x_ways n k = x_ways n k2 := by rw [h]
theorem x_bw_e {v f : Int32} {a l : Int} (hv : v.toInt = l - a + 1) (hf : f.toInt = a) : (((1 : Int64) <<< (v.toInt64 &&& 63)) - 1) <<< (f.toInt64 &&& 63) = x_bw a l := by
  rw [x_sh_e hv, x_sh_e hf]
  rfl
theorem x_bw_d : ∀ f l : Fin 60, f.val ≤ l.val → 0 ≤ (x_bw f.val l.val).toInt ∧ (x_bw f.val l.val).toInt < 4611686018427387904 := by decide +kernel
theorem x_bw_q {f l : Int} {a b : Int64} (h0 : 0 ≤ f) (h1 : f ≤ l) (h2 : l ≤ 59) (e : a = b &&& x_bw f l) : 0 ≤ a.toInt ∧ a.toInt < 4611686018427387904 := by
  have d := x_bw_d ⟨f.toNat, by omega⟩ ⟨l.toNat, by omega⟩ (by show f.toNat ≤ l.toNat; omega)
  simp only [show ((f.toNat : Nat) : Int) = f by omega, show ((l.toNat : Nat) : Int) = l by omega] at d
  have r := l_and_r (x := b) d.1
  rw [e]
  omega
theorem x_ct_le {n : Nat} : ∀ k, x_ct n k ≤ k
  | 0 => Nat.le_refl _
  | k + 1 => by
    have := x_ct_le (n := n) k
    rw [x_ct]
    omega
theorem l_many {x : Int64} {v : Int32} {h : Int} (hx : 0 ≤ x.toInt) (hv : v.toInt = h) (h0 : 0 ≤ h) (h1 : h < 62) : x_eq ((x >>> (v.toInt64 &&& 63)) &&& 1) 1 = 1 ↔ x.toInt.toNat / 2 ^ h.toNat % 2 = 1 := by
  have ev : v = Int32.ofInt ((h.toNat : Nat) : Int) := by rw [show ((h.toNat : Nat) : Int) = h by omega, ← hv, Int32.ofInt_toInt]
  have ex : x.toInt.toNat = x.toBitVec.toNat := by
    have := l_nat hx
    omega
  rw [x_eq_1, ev, x_shr_64 (by omega : h.toNat < 64), ex]
  show x.toBitVec.toNat.testBit h.toNat = true ↔ _
  rw [Nat.testBit_eq_decide_div_mod_eq, decide_eq_true_eq]
/-- how many notches of a card lie in a field -/
def x_nf (s : x_S) (K : x_Kn) (f : Int) (c : Nat) : Int := ((x_ct (K.1 c &&& x_bw (x_row s 3 f) (x_row s 4 f)).toInt.toNat 62 : Nat) : Int)
def x_lk9 (s : x_S) (K : x_Kn) (w f k : Int) : Nat → Nat → Int64 → Int64
  | 0, _, acc => acc
  | m + 1, c, acc => x_lk9 s K w f k m (c + 1) (if x_hw K c w = 0 then acc + x_ways (x_nf s K f c) k else acc)
section XLK
variable {s : x_S} {K : x_Kn} {w f k ca c c2 : Int} {acc acc2 E : Int64}
theorem x_lk_s (h0 : 0 ≤ c) (hc : c < ca) (hc2 : c2 = c + 1) (H : x_lk9 s K w f k (ca - c).toNat c.toNat acc = E) (e : acc2 = if x_hw K c.toNat w = 0 then acc + x_ways (x_nf s K f c.toNat) k else acc) : x_lk9 s K w f k (ca - c2).toNat c2.toNat acc2 = E := by
  rw [← H, show (ca - c).toNat = (ca - c2).toNat + 1 by omega, x_lk9, show c2.toNat = c.toNat + 1 by omega, e]
theorem x_lk_0 (hc : c = 0) (ha : acc = 0) : x_lk9 s K w f k (ca - c).toNat c.toNat acc = x_lk9 s K w f k ca.toNat 0 0 := by
  rw [hc, ha, show ca - 0 = ca by omega]
  rfl
theorem x_lk_x (hc : ca ≤ c) (H : x_lk9 s K w f k (ca - c).toNat c.toNat acc = x_lk9 s K w f k ca.toNat 0 0) : acc = x_lk9 s K w f k ca.toNat 0 0 := by
  rw [← H, show (ca - c).toNat = 0 by omega]
  rfl
theorem x_lk_y {r : Int64} {n : Int} {c : Nat} (hw : x_hw K c w = 0) (hn : n = x_nf s K f c) (hr : r = x_ways n k) (ha : acc2 = acc + r) : acc2 = if x_hw K c w = 0 then acc + x_ways (x_nf s K f c) k else acc := by
  rw [if_pos hw, ha, hr, hn]
theorem x_lk_n {c : Nat} (hw : ¬ x_hw K c w = 0) : acc = if x_hw K c w = 0 then acc + x_ways (x_nf s K f c) k else acc := by
  rw [if_neg hw]
theorem x_lk_z {c : Nat} (hw : ¬ x_hw K c w = 0) (ha : acc2 = acc + (0 : Int64)) : acc2 = if x_hw K c w = 0 then acc + x_ways (x_nf s K f c) k else acc := by
  rw [if_neg hw, ha, Int64.add_zero]
end XLK
def x_likely (s : x_S) (N : x_N) (sz ca n w q : Int) : Int64 := if 0 ≤ n ∧ n ≤ sz ∧ 0 ≤ w ∧ w < s.2.2.1 ∧ 0 ≤ q ∧ q ≤ 1 then (if q = 1 then x_ways (x_row s 4 (x_row s 7 w) - x_row s 3 (x_row s 7 w) + 1) (x_row s 5 (x_row s 7 w)) else x_lk9 s (x_kn s N n.toNat) w (x_row s 7 w) (x_row s 5 (x_row s 7 w)) ca.toNat 0 0) else -1
section XLI
variable {s : x_S} {N : x_N} {sz ca n w q : Int} {l : Int64}
theorem x_likely_n (h : ¬ (0 ≤ n ∧ n ≤ sz ∧ 0 ≤ w ∧ w < s.2.2.1 ∧ 0 ≤ q ∧ q ≤ 1)) : (-1 : Int64) = x_likely s N sz ca n w q := by
  unfold x_likely
  rw [if_neg h]
theorem x_likely_1 {a k : Int} (h : 0 ≤ n ∧ n ≤ sz ∧ 0 ≤ w ∧ w < s.2.2.1 ∧ 0 ≤ q ∧ q ≤ 1) (hq : q = 1) (e : l = x_ways a k) (ha : a = x_row s 4 (x_row s 7 w) - x_row s 3 (x_row s 7 w) + 1) (hk : k = x_row s 5 (x_row s 7 w)) : l = x_likely s N sz ca n w q := by
  unfold x_likely
  rw [if_pos h, if_pos hq, e, ha, hk]
theorem x_likely_0 {f k : Int} (h : 0 ≤ n ∧ n ≤ sz ∧ 0 ≤ w ∧ w < s.2.2.1 ∧ 0 ≤ q ∧ q ≤ 1) (hq : ¬ q = 1) (e : l = x_lk9 s (x_kn s N n.toNat) w f k ca.toNat 0 0) (hf : f = x_row s 7 w) (hk : k = x_row s 5 (x_row s 7 w)) : l = x_likely s N sz ca n w q := by
  unfold x_likely
  rw [if_pos h, if_neg hq, e, hf, hk]
end XLI
