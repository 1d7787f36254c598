theorem PLs_n {M : mm_M} {p : Nat} {s : x_S} {v : Int} {n : Int} (H : PLs M p s) (hn : n = s.2.1) : x_find (fun k => (M.2.1 (p + 1) k).toInt) v n.toNat 0 = x_fn s 1 v := by
  unfold x_fn
  rw [if_pos (by decide), hn]
  exact x_find_c _ 0 (fun i h1 h2 => H.2.2.2.2.1 1 i (by decide) (by decide) (by omega))
theorem PLs_w {M : mm_M} {p : Nat} {s : x_S} {v : Int} {n : Int} (H : PLs M p s) (hn : n = s.2.2.1) : x_find (fun k => (M.2.1 (p + 6) k).toInt) v n.toNat 0 = x_fn s 6 v := by
  unfold x_fn
  rw [if_neg (by decide), hn]
  exact x_find_c _ 0 (fun i h1 h2 => H.2.2.2.2.2 6 i (by decide) (by decide) (by omega))
theorem PLs_r {M : mm_M} {p : Nat} {s : x_S} {k : Int} {v : Int32} (H : PLs M p s) (r : Nat) (h1 : 1 ≤ r) (h2 : r ≤ 5) (h0 : 0 ≤ k) (hk : k < s.2.1) (hv : M.2.1 (p + r) k.toNat = v) : v.toInt = x_row s r k := by
  rw [← hv]
  exact H.2.2.2.2.1 r k.toNat h1 h2 (by omega)
theorem PLk_r {M : mm_M} {s : x_S} {k : Int} {v : Int32} (H : PLk M s) (r : Nat) (a : Nat) (ha : a = 79 + r) (h1 : 1 ≤ r) (h2 : r ≤ 5) (h0 : 0 ≤ k) (hk : k < s.2.1) (hv : M.2.1 a k.toNat = v) : v.toInt = x_row s r k := by
  rw [← hv, ha]
  exact H.2.2.2.2.1 r k.toNat h1 h2 (by omega)
theorem PLk_w {M : mm_M} {s : x_S} {k : Int} {v : Int32} (H : PLk M s) (r : Nat) (a : Nat) (ha : a = 79 + r) (h1 : 6 ≤ r) (h2 : r ≤ 7) (h0 : 0 ≤ k) (hk : k < s.2.2.1) (hv : M.2.1 a k.toNat = v) : v.toInt = x_row s r k := by
  rw [← hv, ha]
  exact H.2.2.2.2.2 r k.toNat h1 h2 (by omega)
theorem AL_u {M : mm_M} {p pz q qz : Nat} (H : AL M) (hq : g_PQ M p pz q qz) : ∃ s : x_S, PLs2 M p s ∧ PLk2 M s := by
  obtain ⟨s, ⟨p2, hp2, e2, h1⟩, hk1⟩ := H
  have ep : p2 = p := by
    have := hq.1
    rw [e2] at this
    exact Option.some.inj this
  subst ep
  exact ⟨s, h1, hk1⟩
theorem TV_e {M M1 M2 : mm_M} {z : Int32} (e : (M.2.1 17 4).toInt = (M.2.1 77 41).toInt) (h1 : M1.2.1 17 4 = M.2.1 17 4 ^^^ z) (k1 : M2.2.1 17 4 = M1.2.1 17 4) (k2 : M1.2.1 77 41 = M.2.1 77 41) (h2 : M2.2.1 77 41 = M1.2.1 77 41 ^^^ z) : (M2.2.1 17 4).toInt = (M2.2.1 77 41).toInt := by
  rw [k1, h1, h2, k2, Int32.toInt_inj.mp e]
/-! codes of values -/
noncomputable def x_cd (s : x_S) (f v : Int) : Int64 := if 0 ≤ f ∧ f < s.2.1 ∧ ¬ x_row s 2 f = 3 ∧ 0 ≤ v ∧ v < x_row s 5 f then (if x_row s 2 f = 1 ∧ v < 10 then (fr_S.getD v.toNat 0).toInt64 else if x_row s 2 f = 2 ∧ v < 10 then (fr_P.getD v.toNat 0).toInt64 else x_bit v) <<< x_sh (x_row s 3 f) else 0
noncomputable def g_W2 (X : mm_X) : Prop := ∀ j : Nat, j < 10 → (X 2).2 j = fr_S.getD j 0 ∧ (X 3).2 j = fr_P.getD j 0
noncomputable def W8 (M : mm_M) : Prop := ∀ j : Nat, j < 10 → M.2.1 88 j = fr_S.getD j 0 ∧ M.2.1 89 j = fr_P.getD j 0
theorem W8_f {M M1 : mm_M} (h : ∀ a i, 88 ≤ a ∧ a ≤ 89 → M1.2.1 a i = M.2.1 a i) (H : W8 M) : W8 M1 := fun j hj => by
  rw [h 88 j (by omega), h 89 j (by omega)]
  exact H j hj
section CD
variable {s : x_S} {f v : Int} {vf vv w : Int32}
theorem x_cd_0 (h : ¬ (0 ≤ f ∧ f < s.2.1 ∧ ¬ x_row s 2 f = 3 ∧ 0 ≤ v ∧ v < x_row s 5 f)) : (0 : Int64) = x_cd s f v := by
  unfold x_cd
  rw [if_neg h]
theorem x_cd_b (h : 0 ≤ f ∧ f < s.2.1 ∧ ¬ x_row s 2 f = 3 ∧ 0 ≤ v ∧ v < x_row s 5 f) (h1 : ¬ (x_row s 2 f = 1 ∧ v < 10)) (h2 : ¬ (x_row s 2 f = 2 ∧ v < 10)) (hf : vf.toInt = x_row s 3 f) (hv : vv.toInt = v) : ((1 : Int64) <<< (vv.toInt64 &&& 63)) <<< (vf.toInt64 &&& 63) = x_cd s f v := by
  unfold x_cd
  rw [if_pos h, if_neg h1, if_neg h2, x_sh_e hf, x_sh_e hv]
  rfl
theorem x_cd_s (h : 0 ≤ f ∧ f < s.2.1 ∧ ¬ x_row s 2 f = 3 ∧ 0 ≤ v ∧ v < x_row s 5 f) (h1 : x_row s 2 f = 1 ∧ v < 10) (hf : vf.toInt = x_row s 3 f) (hw : fr_S.getD v.toNat 0 = w) : w.toInt64 <<< (vf.toInt64 &&& 63) = x_cd s f v := by
  unfold x_cd
  rw [if_pos h, if_pos h1, x_sh_e hf, hw]
theorem x_cd_p (h : 0 ≤ f ∧ f < s.2.1 ∧ ¬ x_row s 2 f = 3 ∧ 0 ≤ v ∧ v < x_row s 5 f) (h1 : x_row s 2 f = 2 ∧ v < 10) (hf : vf.toInt = x_row s 3 f) (hw : fr_P.getD v.toNat 0 = w) : w.toInt64 <<< (vf.toInt64 &&& 63) = x_cd s f v := by
  unfold x_cd
  rw [if_pos h, if_neg (by omega), if_pos h1, x_sh_e hf, hw]
end CD
theorem PLs_v {M : mm_M} {p : Nat} {s : x_S} {k : Int} {v : Int32} (H : PLs M p s) (r : Nat) (h1 : 6 ≤ r) (h2 : r ≤ 7) (h0 : 0 ≤ k) (hk : k < s.2.2.1) (hv : M.2.1 (p + r) k.toNat = v) : v.toInt = x_row s r k := by
  rw [← hv]
  exact H.2.2.2.2.2 r k.toNat h1 h2 (by omega)
noncomputable def x_shz (b k : Int) : Int := ((Int32.ofInt b) >>> (Int32.ofInt k)).toInt
theorem x_shz_e {b w z : Int32} {k : Int} (hw : w.toInt = k) (e : b >>> w = z) : z.toInt = x_shz b.toInt k := by
  rw [← e]
  unfold x_shz
  rw [Int32.ofInt_toInt, ← hw, Int32.ofInt_toInt]
theorem x_sm32 : ∀ k : Fin 25, ((Int32.ofInt (k.val : Int)).toBitVec.smod 32).toNat = k.val := by decide +kernel
theorem x_shz_0 {b : Int32} {k : Int} (h0 : 0 ≤ b.toInt) (k0 : 0 ≤ k) (k1 : k ≤ 24) (h : x_shz b.toInt k = 0) : b.toInt ≤ 16777215 := by
  unfold x_shz at h
  rw [Int32.ofInt_toInt] at h
  have e : (b >>> Int32.ofInt k).toInt = b.toInt / (2 ^ k.toNat : Int) := by
    show (b >>> Int32.ofInt k).toBitVec.toInt = _
    rw [Int32.toBitVec_shiftRight]
    have q : ((Int32.ofInt k).toBitVec.smod 32).toNat = k.toNat := by
      have := x_sm32 ⟨k.toNat, by omega⟩
      simp only [show ((k.toNat : Nat) : Int) = k by omega] at this
      exact this
    show (b.toBitVec.sshiftRight ((Int32.ofInt k).toBitVec.smod 32).toNat).toInt = _
    rw [q, BitVec.toInt_sshiftRight, Int.shiftRight_eq_div_pow]
    push_cast
    rfl
  rw [e] at h
  have p24 : (2 ^ k.toNat : Int) ≤ 16777216 := by
    have : (2 ^ k.toNat : Nat) ≤ 2 ^ 24 := Nat.pow_le_pow_right (by decide) (by omega)
    have h2 : ((2 ^ k.toNat : Nat) : Int) ≤ ((2 ^ 24 : Nat) : Int) := Int.ofNat_le.mpr this
    have h3 : ((2 ^ k.toNat : Nat) : Int) = (2 : Int) ^ k.toNat := by push_cast; rfl
    rw [← h3]
    omega
  have pp : (0 : Int) < 2 ^ k.toNat := Int.pow_pos (by decide)
  have := Int.lt_ediv_add_one_mul_self b.toInt pp
  rw [h] at this
  omega
/-! counting bits -/
theorem n_land8 {a b m k : Nat} (hb : b < 256) (hk : k < 256) : (256 * a + b) &&& (256 * m + k) = 256 * (a &&& m) + (b &&& k) := by
  apply Nat.eq_of_testBit_eq
  intro i
  have h1 : (b &&& k) < 2 ^ 8 := Nat.lt_of_le_of_lt Nat.and_le_left hb
  rw [Nat.testBit_and, show 256 * a + b = 2 ^ 8 * a + b from rfl, show 256 * m + k = 2 ^ 8 * m + k from rfl, show 256 * (a &&& m) + (b &&& k) = 2 ^ 8 * (a &&& m) + (b &&& k) from rfl, Nat.testBit_two_pow_mul_add a hb, Nat.testBit_two_pow_mul_add m hk, Nat.testBit_two_pow_mul_add (a &&& m) h1]
  by_cases g : i < 8
  · rw [if_pos g, if_pos g, if_pos g, Nat.testBit_and]
  · rw [if_neg g, if_neg g, if_neg g, Nat.testBit_and]
noncomputable def n_f1 (b : Nat) : Nat := b - ((b / 2) &&& 0x55)
noncomputable def n_f2 (b : Nat) : Nat := (n_f1 b &&& 0x33) + ((n_f1 b / 4) &&& 0x33)
noncomputable def n_pc (b : Nat) : Nat := (n_f2 b + n_f2 b / 16) &&& 0x0f
theorem n_t1 : ∀ b : Fin 256, ∀ e : Fin 2, (e.val * 128 + b.val / 2) &&& 0x55 = (b.val / 2) &&& 0x55 ∧ ((b.val / 2) &&& 0x55) ≤ b.val ∧ (b.val / 2) &&& 0x5555 = (b.val / 2) &&& 0x55 ∧ n_f1 b.val < 256 := by decide +kernel
theorem n_t2 : ∀ b : Fin 256, ∀ e : Fin 4, (e.val * 64 + n_f1 b.val / 4) &&& 0x33 = (n_f1 b.val / 4) &&& 0x33 ∧ (n_f1 b.val / 4) &&& 0x3333 = (n_f1 b.val / 4) &&& 0x33 ∧ n_f1 b.val &&& 0x3333 = n_f1 b.val &&& 0x33 ∧ n_f2 b.val % 16 ≤ 4 ∧ n_f2 b.val / 16 ≤ 4 := by decide +kernel
theorem n_t3 : ∀ b : Fin 256, ∀ e : Fin 5, (n_f2 b.val + (e.val * 16 + n_f2 b.val / 16)) &&& 0x0f = n_pc b.val ∧ (n_f2 b.val + n_f2 b.val / 16) &&& 0x0f0f = n_pc b.val ∧ n_pc b.val ≤ 8 := by decide +kernel
theorem n_t4 : ∀ k : Fin 25, k.val &&& 63 = k.val := by decide +kernel
noncomputable def n_bc (n : Nat) : Nat :=
  ((fun c => ((fun d => (d + d / 65536) &&& 0x3f) (c + c / 256))) (((fun b => (b + b / 16) &&& 0x0f0f0f0f) ((fun a => (a &&& 0x33333333) + ((a / 4) &&& 0x33333333)) (n - ((n / 2) &&& 0x55555555))))))
theorem n_bc_e {b0 b1 b2 : Nat} (h0 : b0 < 256) (h1 : b1 < 256) (h2 : b2 < 256) : n_bc (256 * (256 * b2 + b1) + b0) = n_pc b0 + n_pc b1 + n_pc b2 := by
  have t10 := n_t1 ⟨b0, h0⟩ ⟨b1 % 2, by omega⟩
  have t11 := n_t1 ⟨b1, h1⟩ ⟨b2 % 2, by omega⟩
  have t12 := n_t1 ⟨b2, h2⟩ ⟨0, by omega⟩
  simp only at t10 t11 t12
  have e1 : (256 * (256 * b2 + b1) + b0) / 2 = 256 * (256 * (b2 / 2) + (b2 % 2 * 128 + b1 / 2)) + (b1 % 2 * 128 + b0 / 2) := by omega
  have e2 : ((256 * (256 * b2 + b1) + b0) / 2) &&& 0x55555555 = 256 * (256 * ((b2 / 2) &&& 0x55) + ((b1 / 2) &&& 0x55)) + ((b0 / 2) &&& 0x55) := by
    rw [e1, show (0x55555555 : Nat) = 256 * (256 * 0x5555 + 0x55) + 0x55 from rfl, n_land8 (by omega) (by omega), n_land8 (by omega) (by omega), t10.1, t11.1, t12.2.2.1]
  have e3 : 256 * (256 * b2 + b1) + b0 - (((256 * (256 * b2 + b1) + b0) / 2) &&& 0x55555555) = 256 * (256 * n_f1 b2 + n_f1 b1) + n_f1 b0 := by
    rw [e2]
    unfold n_f1
    omega
  have t20 := n_t2 ⟨b0, h0⟩ ⟨n_f1 b1 % 4, by omega⟩
  have t21 := n_t2 ⟨b1, h1⟩ ⟨n_f1 b2 % 4, by omega⟩
  have t22 := n_t2 ⟨b2, h2⟩ ⟨0, by omega⟩
  simp only at t20 t21 t22
  have e4 : (256 * (256 * n_f1 b2 + n_f1 b1) + n_f1 b0) &&& 0x33333333 = 256 * (256 * (n_f1 b2 &&& 0x33) + (n_f1 b1 &&& 0x33)) + (n_f1 b0 &&& 0x33) := by
    rw [show (0x33333333 : Nat) = 256 * (256 * 0x3333 + 0x33) + 0x33 from rfl, n_land8 (by omega) (by omega), n_land8 (by omega) (by omega), t22.2.2.1]
  have e5 : ((256 * (256 * n_f1 b2 + n_f1 b1) + n_f1 b0) / 4) &&& 0x33333333 = 256 * (256 * ((n_f1 b2 / 4) &&& 0x33) + ((n_f1 b1 / 4) &&& 0x33)) + ((n_f1 b0 / 4) &&& 0x33) := by
    rw [show (256 * (256 * n_f1 b2 + n_f1 b1) + n_f1 b0) / 4 = 256 * (256 * (n_f1 b2 / 4) + (n_f1 b2 % 4 * 64 + n_f1 b1 / 4)) + (n_f1 b1 % 4 * 64 + n_f1 b0 / 4) by omega, show (0x33333333 : Nat) = 256 * (256 * 0x3333 + 0x33) + 0x33 from rfl, n_land8 (by omega) (by omega), n_land8 (by omega) (by omega), t20.1, t21.1, t22.2.1]
  have e6 : ((256 * (256 * n_f1 b2 + n_f1 b1) + n_f1 b0) &&& 0x33333333) + (((256 * (256 * n_f1 b2 + n_f1 b1) + n_f1 b0) / 4) &&& 0x33333333) = 256 * (256 * n_f2 b2 + n_f2 b1) + n_f2 b0 := by
    rw [e4, e5]
    unfold n_f2
    omega
  have t30 := n_t3 ⟨b0, h0⟩ ⟨n_f2 b1 % 16, by omega⟩
  have t31 := n_t3 ⟨b1, h1⟩ ⟨n_f2 b2 % 16, by omega⟩
  have t32 := n_t3 ⟨b2, h2⟩ ⟨0, by omega⟩
  simp only at t30 t31 t32
  have e7 : (256 * (256 * n_f2 b2 + n_f2 b1) + n_f2 b0 + (256 * (256 * n_f2 b2 + n_f2 b1) + n_f2 b0) / 16) &&& 0x0f0f0f0f = 256 * (256 * n_pc b2 + n_pc b1) + n_pc b0 := by
    rw [show 256 * (256 * n_f2 b2 + n_f2 b1) + n_f2 b0 + (256 * (256 * n_f2 b2 + n_f2 b1) + n_f2 b0) / 16 = 256 * (256 * (n_f2 b2 + n_f2 b2 / 16) + (n_f2 b1 + (n_f2 b2 % 16 * 16 + n_f2 b1 / 16))) + (n_f2 b0 + (n_f2 b1 % 16 * 16 + n_f2 b0 / 16)) by omega, show (0x0f0f0f0f : Nat) = 256 * (256 * 0x0f0f + 0x0f) + 0x0f from rfl, n_land8 (by omega) (by omega), n_land8 (by omega) (by omega), t30.1, t31.1, t32.2.1]
  have t4 := n_t4 ⟨n_pc b0 + n_pc b1 + n_pc b2, by omega⟩
  simp only at t4
  unfold n_bc
  simp only [e3, e6, e7]
  rw [show 256 * (256 * n_pc b2 + n_pc b1) + n_pc b0 + (256 * (256 * n_pc b2 + n_pc b1) + n_pc b0) / 256 + (256 * (256 * n_pc b2 + n_pc b1) + n_pc b0 + (256 * (256 * n_pc b2 + n_pc b1) + n_pc b0) / 256) / 65536 = 256 * (256 * n_pc b2 + (n_pc b1 + n_pc b2)) + (n_pc b0 + n_pc b1 + n_pc b2) by omega, show (0x3f : Nat) = 256 * 0 + 0x3f from rfl, n_land8 (by omega) (by omega), Nat.and_zero, t4]
  omega
theorem i_and_n {x y : Int32} (hx : 0 ≤ x.toInt) (hy : 0 ≤ y.toInt) : (x &&& y).toInt = ((x.toInt.toNat &&& y.toInt.toNat : Nat) : Int) := by
  have mx : x.toBitVec.msb = false := by
    rw [BitVec.msb_eq_toInt]
    have : 0 ≤ x.toBitVec.toInt := hx
    simp only [decide_eq_false_iff_not]; omega
  have my : y.toBitVec.msb = false := by
    rw [BitVec.msb_eq_toInt]
    have : 0 ≤ y.toBitVec.toInt := hy
    simp only [decide_eq_false_iff_not]; omega
  have ex : x.toInt = (x.toBitVec.toNat : Int) := by
    show x.toBitVec.toInt = _
    rw [BitVec.toInt_eq_toNat_of_msb mx]
  have ey : y.toInt = (y.toBitVec.toNat : Int) := by
    show y.toBitVec.toInt = _
    rw [BitVec.toInt_eq_toNat_of_msb my]
  show (x &&& y).toBitVec.toInt = _
  rw [Int32.toBitVec_and, BitVec.toInt_eq_toNat_of_msb (by rw [BitVec.msb_and, mx]; rfl), BitVec.toNat_and, ex, ey]
  rfl
theorem i_ushr {x : Int32} {k : Nat} (hk : k < 32) (hx : 0 ≤ x.toInt) : ((x.toUInt32 >>> ((Int32.ofNat k).toUInt32 &&& Int32.toUInt32 31)).toInt32).toInt = x.toInt / (2 ^ k : Int) := by
  have mx : x.toBitVec.msb = false := by
    rw [BitVec.msb_eq_toInt]
    have : 0 ≤ x.toBitVec.toInt := hx
    simp only [decide_eq_false_iff_not]; omega
  have ex : x.toInt = (x.toBitVec.toNat : Int) := by
    show x.toBitVec.toInt = _
    rw [BitVec.toInt_eq_toNat_of_msb mx]
  have e1 : (x.toUInt32 >>> ((Int32.ofNat k).toUInt32 &&& Int32.toUInt32 31)).toNat = x.toBitVec.toNat / 2 ^ k := by
    rw [UInt32.toNat_shiftRight]
    have e2 : ((Int32.ofNat k).toUInt32 &&& Int32.toUInt32 31).toNat = k := by
      have := (show ∀ j : Fin 32, ((Int32.ofNat j.val).toUInt32 &&& Int32.toUInt32 31).toNat = j.val from by decide +kernel) ⟨k, hk⟩
      exact this
    rw [e2, Nat.mod_eq_of_lt hk, Nat.shiftRight_eq_div_pow]
    rfl
  have lt : x.toBitVec.toNat < 2147483648 := by
    have := Int32.toInt_lt x
    omega
  have e3 : ((x.toUInt32 >>> ((Int32.ofNat k).toUInt32 &&& Int32.toUInt32 31)).toInt32).toBitVec.toNat = x.toBitVec.toNat / 2 ^ k := e1
  have le : x.toBitVec.toNat / 2 ^ k ≤ x.toBitVec.toNat := Nat.div_le_self _ _
  show ((x.toUInt32 >>> ((Int32.ofNat k).toUInt32 &&& Int32.toUInt32 31)).toInt32).toBitVec.toInt = _
  rw [BitVec.toInt_eq_toNat_cond, e3, if_pos (by omega), ex]
  exact Int.natCast_ediv _ _ |>.trans (by push_cast; rfl)
theorem bc_all {x v1 v2 v3 v4 v5 v6 v7 v8 v9 v10 v11 v12 v13 v14 r : Int} (h0 : 0 ≤ x) (h1 : x < 16777216) (a1 : v1 = x / 2) (a2 : v2 = ((v1.toNat &&& 0x55555555 : Nat) : Int)) (a3 : v3 = x - v2) (a4 : v4 = ((v3.toNat &&& 0x33333333 : Nat) : Int)) (a5 : v5 = v3 / 4) (a6 : v6 = ((v5.toNat &&& 0x33333333 : Nat) : Int)) (a7 : v7 = v4 + v6) (a8 : v8 = v7 / 16) (a9 : v9 = v7 + v8) (a10 : v10 = ((v9.toNat &&& 0x0f0f0f0f : Nat) : Int)) (a11 : v11 = v10 / 256) (a12 : v12 = v10 + v11) (a13 : v13 = v12 / 65536) (a14 : v14 = v12 + v13) (a15 : r = ((v14.toNat &&& 63 : Nat) : Int)) : r = (n_bc x.toNat : Nat) := by
  have b1 : v1.toNat = x.toNat / 2 := by omega
  rw [b1] at a2
  have l2 : (x.toNat / 2 &&& 0x55555555) ≤ x.toNat / 2 := Nat.and_le_left
  have b3 : v3.toNat = x.toNat - (x.toNat / 2 &&& 0x55555555) := by omega
  rw [b3] at a4
  have b5 : v5.toNat = (x.toNat - (x.toNat / 2 &&& 0x55555555)) / 4 := by omega
  rw [b5] at a6
  have b9 : v9.toNat = ((x.toNat - (x.toNat / 2 &&& 0x55555555)) &&& 0x33333333) + ((x.toNat - (x.toNat / 2 &&& 0x55555555)) / 4 &&& 0x33333333) + (((x.toNat - (x.toNat / 2 &&& 0x55555555)) &&& 0x33333333) + ((x.toNat - (x.toNat / 2 &&& 0x55555555)) / 4 &&& 0x33333333)) / 16 := by omega
  rw [b9] at a10
  rw [a15]
  unfold n_bc
  simp only
  generalize hc : (((x.toNat - (x.toNat / 2 &&& 0x55555555)) &&& 0x33333333) + ((x.toNat - (x.toNat / 2 &&& 0x55555555)) / 4 &&& 0x33333333) + (((x.toNat - (x.toNat / 2 &&& 0x55555555)) &&& 0x33333333) + ((x.toNat - (x.toNat / 2 &&& 0x55555555)) / 4 &&& 0x33333333)) / 16 &&& 0x0f0f0f0f) = c at a10 ⊢
  have c11 : v11 = ((c / 256 : Nat) : Int) := by omega
  have c12 : v12 = ((c + c / 256 : Nat) : Int) := by omega
  have c13 : v13 = (((c + c / 256) / 65536 : Nat) : Int) := by omega
  have b14 : v14.toNat = c + c / 256 + (c + c / 256) / 65536 := by omega
  rw [b14]
/-- how many of the first k bits -/
noncomputable def x_ct (n : Nat) : Nat → Nat
  | 0 => 0
  | k + 1 => x_ct n k + n / 2 ^ k % 2
theorem n_pc_8 : ∀ b : Fin 256, n_pc b.val = x_ct b.val 8 := by decide +kernel
theorem x_ct_lo {n m : Nat} : ∀ k, (∀ i, i < k → n / 2 ^ i % 2 = m / 2 ^ i % 2) → x_ct n k = x_ct m k
  | 0, _ => rfl
  | k + 1, h => by rw [x_ct, x_ct, x_ct_lo k (fun i hi => h i (by omega)), h k (by omega)]
theorem x_ct_add {n : Nat} (j : Nat) : ∀ k, x_ct n (j + k) = x_ct n j + x_ct (n / 2 ^ j) k
  | 0 => by rw [Nat.add_zero, x_ct]; rfl
  | k + 1 => by rw [← Nat.add_assoc, x_ct, x_ct_add j k, x_ct, Nat.div_div_eq_div_mul, ← Nat.pow_add]; omega
theorem x_ct_z {n : Nat} : ∀ k, n = 0 → x_ct n k = 0
  | 0, _ => rfl
  | k + 1, h => by rw [x_ct, x_ct_z k h, h, Nat.zero_div]
theorem n_bc_ct {n : Nat} (h : n < 16777216) : n_bc n = x_ct n 62 := by
  have e : n = 256 * (256 * (n / 65536) + n / 256 % 256) + n % 256 := by omega
  have e1 : n_bc n = n_pc (n % 256) + n_pc (n / 256 % 256) + n_pc (n / 65536) := by
    conv => lhs; rw [e]
    exact n_bc_e (by omega) (by omega) (by omega)
  have p0 := n_pc_8 ⟨n % 256, by omega⟩
  have p1 := n_pc_8 ⟨n / 256 % 256, by omega⟩
  have p2 := n_pc_8 ⟨n / 65536, by omega⟩
  simp only at p0 p1 p2
  have lo : ∀ m : Nat, x_ct (m % 256) 8 = x_ct m 8 := fun m => x_ct_lo 8 (fun i hi => by
    rcases (show i = 0 ∨ i = 1 ∨ i = 2 ∨ i = 3 ∨ i = 4 ∨ i = 5 ∨ i = 6 ∨ i = 7 by omega) with rfl | rfl | rfl | rfl | rfl | rfl | rfl | rfl <;> simp only [Nat.reducePow] <;> omega)
  rw [e1, p0, p1, p2, lo, lo, show (62 : Nat) = 8 + (8 + (8 + 38)) from rfl, x_ct_add 8, x_ct_add 8, x_ct_add 8, x_ct_z 38 (by simp only [Nat.reducePow]; omega)]
  simp only [Nat.reducePow, Nat.div_div_eq_div_mul, Nat.reduceMul]
  omega
theorem x_smod_64 : ∀ h : Fin 64, (((Int32.ofInt (h.val : Int)).toInt64 &&& 63).toBitVec.smod 64).toNat = h.val := by decide +kernel
theorem x_shr_64 {bits : Int64} {h : Nat} (hh : h < 64) : (bits >>> ((Int32.ofInt (h : Int)).toInt64 &&& 63)) &&& 1 = 1 ↔ bits.toBitVec.getLsbD h = true := by
  have e : ∀ j, j < 64 → ((bits >>> ((Int32.ofInt (h : Int)).toInt64 &&& 63)) &&& 1).toBitVec.getLsbD j = (bits.toBitVec.getLsbD h && decide (j = 0)) := fun j hj => by
    rw [Int64.toBitVec_and, BitVec.getLsbD_and, Int64.toBitVec_shiftRight]
    have q : (((Int32.ofInt (h : Int)).toInt64 &&& 63).toBitVec.smod 64).toNat = h := x_smod_64 ⟨h, hh⟩
    have o : (1 : Int64).toBitVec.getLsbD j = decide (j = 0) := by
      show (1#64).getLsbD j = _
      rw [BitVec.getLsbD_one]; simp
    show ((bits.toBitVec.sshiftRight (((Int32.ofInt (h : Int)).toInt64 &&& 63).toBitVec.smod 64).toNat).getLsbD j && (1 : Int64).toBitVec.getLsbD j) = _
    rw [q, o]
    by_cases g : j = 0
    · subst g
      rw [BitVec.getLsbD_sshiftRight]
      simp
      intro z; omega
    · simp [g]
  constructor
  · intro z
    have q := e 0 (by decide)
    rw [z] at q
    simpa using q.symm
  · intro z
    apply Int64.toBitVec_inj.mp
    apply BitVec.eq_of_getLsbD_eq
    intro j hj
    rw [e j hj, z]
    show _ = (1#64).getLsbD j
    rw [BitVec.getLsbD_one]; simp
theorem x_many {b v : Int32} {h : Int} (hb : 0 ≤ b.toInt) (hv : v.toInt = h) (h0 : 0 ≤ h) (h1 : h < 62) : x_eq ((b.toInt64 >>> (v.toInt64 &&& 63)) &&& 1) 1 = 1 ↔ b.toInt.toNat / 2 ^ h.toNat % 2 = 1 := by
  have ev : v = Int32.ofInt ((h.toNat : Nat) : Int) := by rw [show ((h.toNat : Nat) : Int) = h by omega, ← hv, Int32.ofInt_toInt]
  have mb : b.toBitVec.msb = false := by
    rw [BitVec.msb_eq_toInt]
    have : 0 ≤ b.toBitVec.toInt := hb
    simp only [decide_eq_false_iff_not]; omega
  have eb : b.toInt.toNat = b.toBitVec.toNat := by
    have : b.toInt = (b.toBitVec.toNat : Int) := by
      show b.toBitVec.toInt = _
      rw [BitVec.toInt_eq_toNat_of_msb mb]
    omega
  rw [x_eq_1, ev, x_shr_64 (by omega : h.toNat < 64), Int32.toBitVec_toInt64, BitVec.getLsbD_signExtend, eb]
  by_cases g : h.toNat < 32
  · rw [if_pos g, show decide (h.toNat < 64) = true from decide_eq_true (by omega), Bool.true_and]
    show b.toBitVec.toNat.testBit h.toNat = true ↔ _
    rw [Nat.testBit_eq_decide_div_mod_eq, decide_eq_true_eq]
  · rw [if_neg g, mb, Bool.and_false]
    have lt : b.toBitVec.toNat < 2 ^ 32 := b.toBitVec.isLt
    have : b.toBitVec.toNat / 2 ^ h.toNat = 0 := Nat.div_eq_of_lt (Nat.lt_of_lt_of_le lt (Nat.pow_le_pow_right (by decide) (by omega)))
    rw [this]
    exact ⟨fun z => absurd z (by decide), fun z => absurd z (by decide)⟩
theorem x_ct_s {n : Nat} {k y c c2 : Int} (h0 : 0 ≤ k) (hc : c = ((x_ct n k.toNat : Nat) : Int)) (hy : y = k + 1) (h : n / 2 ^ k.toNat % 2 = 1 ∧ c2 = c + 1 ∨ ¬ n / 2 ^ k.toNat % 2 = 1 ∧ c2 = c) : c2 = ((x_ct n y.toNat : Nat) : Int) := by
  rw [show y.toNat = k.toNat + 1 by omega, x_ct]
  generalize n / 2 ^ k.toNat = q at h ⊢
  omega
/-! a note more: its rows -/
noncomputable def NWc (O M : mm_M) (r : Int) (k f s t : Int32) : Prop := (r < 0 → ∀ a i : Nat, 7 ≤ a ∧ a ≤ 10 → M.2.1 a i = O.2.1 a i) ∧ (0 ≤ r → (∀ a i : Nat, 7 ≤ a ∧ a ≤ 10 → ¬ i = (O.2.1 6 0).toInt.toNat → M.2.1 a i = O.2.1 a i) ∧ M.2.1 7 (O.2.1 6 0).toInt.toNat = k ∧ M.2.1 8 (O.2.1 6 0).toInt.toNat = f ∧ M.2.1 9 (O.2.1 6 0).toInt.toNat = s ∧ M.2.1 10 (O.2.1 6 0).toInt.toNat = t)
noncomputable def NWr (O M : mm_M) (r : Int) (k f s t : Int32) : Prop := (r < 0 → ∀ a i : Nat, 90 ≤ a ∧ a ≤ 93 → M.2.1 a i = O.2.1 a i) ∧ (0 ≤ r → (∀ a i : Nat, 90 ≤ a ∧ a ≤ 93 → ¬ i = (O.2.1 77 29).toInt.toNat → M.2.1 a i = O.2.1 a i) ∧ M.2.1 90 (O.2.1 77 29).toInt.toNat = k ∧ M.2.1 91 (O.2.1 77 29).toInt.toNat = f ∧ M.2.1 92 (O.2.1 77 29).toInt.toNat = s ∧ M.2.1 93 (O.2.1 77 29).toInt.toNat = t)
theorem NWc_n {M M1 : mm_M} {r : Int} {k f s t : Int32} (h : ∀ a i : Nat, 7 ≤ a ∧ a ≤ 10 → M1.2.1 a i = M.2.1 a i) (hr : r < 0) : NWc M M1 r k f s t := ⟨fun _ => h, fun z => by exfalso; omega⟩
theorem NWr_n {M M1 : mm_M} {r : Int} {k f s t : Int32} (h : ∀ a i : Nat, 90 ≤ a ∧ a ≤ 93 → M1.2.1 a i = M.2.1 a i) (hr : r < 0) : NWr M M1 r k f s t := ⟨fun _ => h, fun z => by exfalso; omega⟩
theorem NWc_y {M M1 M2 M3 M4 M5 : mm_M} {r : Int} {k f s t v : Int32} (W1 : M1 = mm_setI M 7 (M.2.1 6 0).toInt.toNat k) (W2 : M2 = mm_setI M1 8 (M.2.1 6 0).toInt.toNat f) (W3 : M3 = mm_setI M2 9 (M.2.1 6 0).toInt.toNat s) (W4 : M4 = mm_setI M3 10 (M.2.1 6 0).toInt.toNat t) (W5 : M5 = mm_setI M4 6 0 v) (hr : 0 ≤ r) : NWc M M5 r k f s t :=
  ⟨fun z => by exfalso; omega, fun _ => ⟨fun a i z z2 => W_n W5 (by omega) (W_n W4 (by omega) (W_n W3 (by omega) (W_n W2 (by omega) (W_n W1 (by omega) rfl)))), W_n W5 (by omega) (W_n W4 (by omega) (W_n W3 (by omega) (W_n W2 (by omega) (W_e W1)))), W_n W5 (by omega) (W_n W4 (by omega) (W_n W3 (by omega) (W_e W2))), W_n W5 (by omega) (W_n W4 (by omega) (W_e W3)), W_n W5 (by omega) (W_e W4)⟩⟩
theorem NWr_y {M M1 M2 M3 M4 M5 : mm_M} {r : Int} {k f s t v : Int32} (W1 : M1 = mm_setI M 90 (M.2.1 77 29).toInt.toNat k) (W2 : M2 = mm_setI M1 91 (M.2.1 77 29).toInt.toNat f) (W3 : M3 = mm_setI M2 92 (M.2.1 77 29).toInt.toNat s) (W4 : M4 = mm_setI M3 93 (M.2.1 77 29).toInt.toNat t) (W5 : M5 = mm_setI M4 77 29 v) (hr : 0 ≤ r) : NWr M M5 r k f s t :=
  ⟨fun z => by exfalso; omega, fun _ => ⟨fun a i z z2 => W_n W5 (by omega) (W_n W4 (by omega) (W_n W3 (by omega) (W_n W2 (by omega) (W_n W1 (by omega) rfl)))), W_n W5 (by omega) (W_n W4 (by omega) (W_n W3 (by omega) (W_n W2 (by omega) (W_e W1)))), W_n W5 (by omega) (W_n W4 (by omega) (W_n W3 (by omega) (W_e W2))), W_n W5 (by omega) (W_n W4 (by omega) (W_e W3)), W_n W5 (by omega) (W_e W4)⟩⟩
theorem NWr_o {O O2 M : mm_M} {r : Int} {k f s t : Int32} (h : ∀ a i : Nat, (a = 77 ∧ i = 29 ∨ 90 ≤ a ∧ a ≤ 93) → O.2.1 a i = O2.2.1 a i) (H : NWr O M r k f s t) : NWr O2 M r k f s t := by
  unfold NWr at H ⊢
  rw [h 77 29 (by omega)] at H
  exact ⟨fun z a i g => (H.1 z a i g).trans (h a i (by omega)), fun z => ⟨fun a i g g2 => ((H.2 z).1 a i g g2).trans (h a i (by omega)), (H.2 z).2⟩⟩
noncomputable def x_tk (m : Int32) : Int32 := if m.toInt = 0 then 2 else 3
theorem x_tk_0 {m : Int32} (h : m.toInt = 0) : x_tk m = 2 := if_pos h
theorem x_tk_1 {m : Int32} (h : ¬ m.toInt = 0) : x_tk m = 3 := if_neg h
theorem x_tk_b (m : Int32) : (x_tk m).toInt = 2 ∨ (x_tk m).toInt = 3 := by
  unfold x_tk
  split
  · exact Or.inl rfl
  · exact Or.inr rfl
