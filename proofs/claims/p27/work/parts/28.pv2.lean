/-! how likely a drop is false -/
theorem l_ne0 {w : Int32} (h : 1 ≤ w.toInt) : w.toInt64 ≠ 0 := fun z => by
  have h2 : (w.toInt64).toInt = 0 := by rw [z]; rfl
  rw [Int32.toInt_toInt64] at h2
  omega
noncomputable def x_wy (n k : Int) : Nat → Int → Int64 → Int64
  | 0, _, acc => acc
  | m + 1, i, acc => x_wy n k m (i + 1) (acc * (Int32.ofInt (n - k + i)).toInt64 / (Int32.ofInt i).toInt64)
noncomputable def x_ch (n : Int) : Nat → Int → Int64 → Int64
  | 0, _, acc => acc
  | m + 1, i, acc => x_ch n m (i + 1) (acc * (Int32.ofInt (n - i)).toInt64 / (Int32.ofInt (i + 1)).toInt64)
noncomputable def x_ways (n k : Int) : Int64 := if n < k then 0 else x_ch n k.toNat 0 1
theorem x_wy_d : ∀ n : Fin 65, ∀ k : Fin 5, ¬ (n.val : Int) < (k.val : Int) → x_wy n.val k.val k.val 1 1 = x_ch n.val k.val 0 1 := by decide +kernel
theorem x_wy_s {n k i i2 : Int} {acc E : Int64} {v w : Int32} (hv : v.toInt = n - k + i) (hw : w.toInt = i) (h0 : i ≤ k) (h2 : i2 = i + 1) (H : x_wy n k (k + 1 - i).toNat i acc = E) : x_wy n k (k + 1 - i2).toNat i2 (acc * v.toInt64 / w.toInt64) = E := by
  rw [← H, show (k + 1 - i).toNat = (k + 1 - i2).toNat + 1 by omega, x_wy, x_i32 hv, x_i32 hw, h2]
theorem x_ch_s {n k i i2 : Int} {acc E : Int64} {v w : Int32} (hv : v.toInt = n - i) (hw : w.toInt = i + 1) (h0 : i < k) (h2 : i2 = i + 1) (H : x_ch n (k - i).toNat i acc = E) : x_ch n (k - i2).toNat i2 (acc * v.toInt64 / w.toInt64) = E := by
  rw [← H, show (k - i).toNat = (k - i2).toNat + 1 by omega, x_ch, x_i32 hv, x_i32 hw, h2]
theorem x_ways_0 {n k : Int} (h : n < k) : (0 : Int64) = x_ways n k := by
  unfold x_ways
  rw [if_pos h]
theorem x_ways_y {n k i : Int} {acc : Int64} (h : ¬ n < k) (hn : 0 ≤ n ∧ n ≤ 64) (hk : 1 ≤ k ∧ k ≤ 4) (hi : k < i) (H : x_wy n k (k + 1 - i).toNat i acc = x_wy n k k.toNat 1 1) : acc = x_ways n k := by
  rw [show (k + 1 - i).toNat = 0 by omega] at H
  have d := x_wy_d ⟨n.toNat, by omega⟩ ⟨k.toNat, by omega⟩
  simp only [show ((n.toNat : Nat) : Int) = n by omega, show ((k.toNat : Nat) : Int) = k by omega] at d
  unfold x_ways
  rw [if_neg h, ← d h]
  exact H
theorem x_ways_c {n k i : Int} {acc : Int64} (h : ¬ n < k) (hi : k ≤ i) (H : x_ch n (k - i).toNat i acc = x_ch n k.toNat 0 1) : acc = x_ways n k := by
  rw [show (k - i).toNat = 0 by omega] at H
  unfold x_ways
  rw [if_neg h]
  exact H
theorem x_ways_v {n k k2 : Int} (h : k = k2) : x_ways n k = x_ways n k2 := by rw [h]
theorem x_bw_e {v f : Int32} {a l : Int} (hv : v.toInt = l - a + 1) (hf : f.toInt = a) : (((1 : Int64) <<< (v.toInt64 &&& 63)) - 1) <<< (f.toInt64 &&& 63) = x_bw a l := by
  rw [x_sh_e hv, x_sh_e hf]
  rfl
theorem l_or_b {x y : Int64} (hx : 0 ≤ x.toInt ∧ x.toInt < 1152921504606846976) (hy : 0 ≤ y.toInt ∧ y.toInt < 1152921504606846976) : 0 ≤ (x ||| y).toInt ∧ (x ||| y).toInt < 1152921504606846976 := by
  have ex := l_nat hx.1
  have ey := l_nat hy.1
  have e : (x ||| y).toInt = ((x.toBitVec.toNat ||| y.toBitVec.toNat : Nat) : Int) := by
    show (x ||| y).toBitVec.toInt = _
    rw [Int64.toBitVec_or, BitVec.toInt_eq_toNat_of_msb (by rw [BitVec.msb_or, l_msb hx.1, l_msb hy.1]; rfl), BitVec.toNat_or]
  have lt := Nat.or_lt_two_pow (x := x.toBitVec.toNat) (y := y.toBitVec.toNat) (n := 60) (by simp only [Nat.reducePow]; omega) (by simp only [Nat.reducePow]; omega)
  simp only [Nat.reducePow] at lt
  omega
theorem x_bit_d : ∀ h : Fin 60, 0 ≤ (x_bit h.val).toInt ∧ (x_bit h.val).toInt < 1152921504606846976 := by decide +kernel
theorem x_bwr_b : ∀ (m h : Nat) (acc : Int64), 0 ≤ acc.toInt ∧ acc.toInt < 1152921504606846976 → h + m ≤ 60 → 0 ≤ (x_bwr m acc h).toInt ∧ (x_bwr m acc h).toInt < 1152921504606846976
  | 0, _, _, ha, _ => ha
  | m + 1, h, acc, ha, hm => by
    rw [x_bwr]
    exact x_bwr_b m (h + 1) _ (l_or_b ha (x_bit_d ⟨h, by omega⟩)) (by omega)
theorem x_bw_q {f l : Int} {a b : Int64} (h0 : 0 ≤ f) (h1 : f ≤ l) (h2 : l ≤ 59) (e : a = b &&& x_bw f l) : 0 ≤ a.toInt ∧ a.toInt < 4611686018427387904 := by
  have d := x_bwr_b (l + 1 - f).toNat f.toNat 0 ⟨by decide, by decide⟩ (by omega)
  rw [x_bw_r h0 h1 h2] at d
  have r := l_and_r (x := b) d.1
  rw [e]
  omega
theorem x_ct_le {n : Nat} : ∀ k, x_ct n k ≤ k
  | 0 => Nat.le_refl _
  | k + 1 => by
    have := x_ct_le (n := n) k
    rw [x_ct]
    omega
theorem l_many {x : Int64} {v : Int32} {h : Int} (hx : 0 ≤ x.toInt) (hv : v.toInt = h) (h0 : 0 ≤ h) (h1 : h < 62) : x_eq ((x >>> (v.toInt64 &&& 63)) &&& 1) 1 = 1 ↔ x.toInt.toNat / 2 ^ h.toNat % 2 = 1 := by
  have ev : v = Int32.ofInt ((h.toNat : Nat) : Int) := by rw [show ((h.toNat : Nat) : Int) = h by omega, ← hv, Int32.ofInt_toInt]
  have ex : x.toInt.toNat = x.toBitVec.toNat := by
    have := l_nat hx
    omega
  rw [x_eq_1, ev, x_shr_64 (by omega : h.toNat < 64), ex]
  show x.toBitVec.toNat.testBit h.toNat = true ↔ _
  rw [Nat.testBit_eq_decide_div_mod_eq, decide_eq_true_eq]
/-- how many notches of a card lie in a field -/
noncomputable def x_nf (s : x_S) (K : x_Kn) (f : Int) (c : Nat) : Int := ((x_ct (K.1 c &&& x_bw (x_row s 3 f) (x_row s 4 f)).toInt.toNat 62 : Nat) : Int)
noncomputable def x_lk9 (s : x_S) (K : x_Kn) (w f k : Int) : Nat → Nat → Int64 → Int64
  | 0, _, acc => acc
  | m + 1, c, acc => x_lk9 s K w f k m (c + 1) (if x_hw K c w = 0 then acc + x_ways (x_nf s K f c) k else acc)
section XLK
variable {s : x_S} {K : x_Kn} {w f k ca c c2 : Int} {acc acc2 E : Int64}
theorem x_lk_s (h0 : 0 ≤ c) (hc : c < ca) (hc2 : c2 = c + 1) (H : x_lk9 s K w f k (ca - c).toNat c.toNat acc = E) (e : acc2 = if x_hw K c.toNat w = 0 then acc + x_ways (x_nf s K f c.toNat) k else acc) : x_lk9 s K w f k (ca - c2).toNat c2.toNat acc2 = E := by
  rw [← H, show (ca - c).toNat = (ca - c2).toNat + 1 by omega, x_lk9, show c2.toNat = c.toNat + 1 by omega, e]
theorem x_lk_0 (hc : c = 0) (ha : acc = 0) : x_lk9 s K w f k (ca - c).toNat c.toNat acc = x_lk9 s K w f k ca.toNat 0 0 := by
  rw [hc, ha, show ca - 0 = ca by omega]
  rfl
theorem x_lk_x (hc : ca ≤ c) (H : x_lk9 s K w f k (ca - c).toNat c.toNat acc = x_lk9 s K w f k ca.toNat 0 0) : acc = x_lk9 s K w f k ca.toNat 0 0 := by
  rw [← H, show (ca - c).toNat = 0 by omega]
  rfl
theorem x_lk_y {r : Int64} {n : Int} {c : Nat} (hw : x_hw K c w = 0) (hn : n = x_nf s K f c) (hr : r = x_ways n k) (ha : acc2 = acc + r) : acc2 = if x_hw K c w = 0 then acc + x_ways (x_nf s K f c) k else acc := by
  rw [if_pos hw, ha, hr, hn]
theorem x_lk_n {c : Nat} (hw : ¬ x_hw K c w = 0) : acc = if x_hw K c w = 0 then acc + x_ways (x_nf s K f c) k else acc := by
  rw [if_neg hw]
theorem x_lk_z {c : Nat} (hw : ¬ x_hw K c w = 0) (ha : acc2 = acc + (0 : Int64)) : acc2 = if x_hw K c w = 0 then acc + x_ways (x_nf s K f c) k else acc := by
  rw [if_neg hw, ha, Int64.add_zero]
end XLK
noncomputable def x_likely (s : x_S) (N : x_N) (sz ca n w q : Int) : Int64 := if 0 ≤ n ∧ n ≤ sz ∧ 0 ≤ w ∧ w < s.2.2.1 ∧ 0 ≤ q ∧ q ≤ 1 then (if q = 1 then x_ways (x_row s 4 (x_row s 7 w) - x_row s 3 (x_row s 7 w) + 1) (x_row s 5 (x_row s 7 w)) else x_lk9 s (x_kn s N n.toNat) w (x_row s 7 w) (x_row s 5 (x_row s 7 w)) ca.toNat 0 0) else -1
section XLI
variable {s : x_S} {N : x_N} {sz ca n w q : Int} {l : Int64}
theorem x_likely_n (h : ¬ (0 ≤ n ∧ n ≤ sz ∧ 0 ≤ w ∧ w < s.2.2.1 ∧ 0 ≤ q ∧ q ≤ 1)) : (-1 : Int64) = x_likely s N sz ca n w q := by
  unfold x_likely
  rw [if_neg h]
theorem x_likely_1 {a k : Int} (h : 0 ≤ n ∧ n ≤ sz ∧ 0 ≤ w ∧ w < s.2.2.1 ∧ 0 ≤ q ∧ q ≤ 1) (hq : q = 1) (e : l = x_ways a k) (ha : a = x_row s 4 (x_row s 7 w) - x_row s 3 (x_row s 7 w) + 1) (hk : k = x_row s 5 (x_row s 7 w)) : l = x_likely s N sz ca n w q := by
  unfold x_likely
  rw [if_pos h, if_pos hq, e, ha, hk]
theorem x_likely_0 {f k : Int} (h : 0 ≤ n ∧ n ≤ sz ∧ 0 ≤ w ∧ w < s.2.2.1 ∧ 0 ≤ q ∧ q ≤ 1) (hq : ¬ q = 1) (e : l = x_lk9 s (x_kn s N n.toNat) w f k ca.toNat 0 0) (hf : f = x_row s 7 w) (hk : k = x_row s 5 (x_row s 7 w)) : l = x_likely s N sz ca n w q := by
  unfold x_likely
  rw [if_pos h, if_neg hq, e, hf, hk]
end XLI
