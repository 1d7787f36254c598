abbrev md_b6 (a i : Nat) : Prop := a = 36 ∧ 2 ≤ i ∧ i ≤ 4
abbrev md_kb (a i : Nat) : Prop := 11 ≤ a ∧ a ≤ 16 ∨ 36 ≤ a ∧ a ≤ 38
/-! bits of a long -/
noncomputable def x_on (x : Int64) (i : Nat) : Bool := x.toBitVec.getLsbD i
theorem x_on_or {x y : Int64} {i : Nat} : x_on (x ||| y) i = (x_on x i || x_on y i) := by
  unfold x_on
  rw [Int64.toBitVec_or, BitVec.getLsbD_or]
theorem x_on_and {x y : Int64} {i : Nat} : x_on (x &&& y) i = (x_on x i && x_on y i) := by
  unfold x_on
  rw [Int64.toBitVec_and, BitVec.getLsbD_and]
theorem x_on_xor {x y : Int64} {i : Nat} : x_on (x ^^^ y) i = (x_on x i ^^ x_on y i) := by
  unfold x_on
  rw [Int64.toBitVec_xor, BitVec.getLsbD_xor]
theorem x_on_0 {i : Nat} : x_on 0 i = false := by
  unfold x_on
  rw [Int64.toBitVec_zero, BitVec.getLsbD_zero]
theorem x_on_m1 {i : Nat} (h : i < 64) : x_on (-1) i = true := by
  unfold x_on
  rw [show (-1 : Int64).toBitVec = BitVec.allOnes 64 by decide, BitVec.getLsbD_allOnes]
  exact decide_eq_true h
theorem x_on_64 {x : Int64} {i : Nat} (h : 64 ≤ i) : x_on x i = false := BitVec.getLsbD_of_ge _ _ h
theorem x_on_ext {x y : Int64} (h : ∀ i : Nat, i < 64 → x_on x i = x_on y i) : x = y := Int64.toBitVec.inj (BitVec.eq_of_getLsbD_eq h)
theorem x_bit_o : ∀ h : Fin 64, (x_bit h.val).toBitVec = 1#64 <<< h.val := by decide +kernel
theorem x_on_bit {h : Int} {i : Nat} (h0 : 0 ≤ h) (h1 : h < 64) : x_on (x_bit h) i = decide ((i : Int) = h) := by
  have e := x_bit_o ⟨h.toNat, by omega⟩
  simp only [show ((h.toNat : Nat) : Int) = h by omega] at e
  unfold x_on
  rw [e, BitVec.getLsbD_shiftLeft, BitVec.getLsbD_one, Bool.eq_iff_iff]
  simp only [Bool.and_eq_true, Bool.not_eq_true', decide_eq_true_eq, decide_eq_false_iff_not]
  omega
theorem x_on_bwr : ∀ (m h : Nat) (acc : Int64) (i : Nat), h + m ≤ 64 → x_on (x_bwr m acc h) i = (x_on acc i || decide (h ≤ i ∧ i < h + m))
  | 0, h, acc, i, _ => by rw [x_bwr, decide_eq_false (by omega), Bool.or_false]
  | m + 1, h, acc, i, hm => by
    rw [x_bwr, x_on_bwr m (h + 1) _ i (by omega), x_on_or, x_on_bit (by omega) (by omega), Bool.or_assoc, ← Bool.decide_or]
    congr 1
    exact decide_eq_decide.mpr (by omega)
theorem x_on_bw {a b : Int} {i : Nat} (h0 : 0 ≤ a) (h1 : a ≤ b) (h2 : b ≤ 59) : x_on (x_bw a b) i = decide (a ≤ (i : Int) ∧ (i : Int) ≤ b) := by
  rw [← x_bw_r h0 h1 h2, x_on_bwr _ _ _ _ (by omega), x_on_0, Bool.false_or]
  exact decide_eq_decide.mpr (by omega)
theorem x_sh_o : ∀ h : Fin 64, ((x_sh h.val).toBitVec.smod 64).toNat = h.val := by decide +kernel
theorem x_on_shl {x : Int64} {h : Int} {i : Nat} (h0 : 0 ≤ h) (h1 : h < 64) : x_on (x <<< x_sh h) i = (decide (i < 64 ∧ h ≤ (i : Int)) && x_on x (i - h.toNat)) := by
  have e := x_sh_o ⟨h.toNat, by omega⟩
  simp only [show ((h.toNat : Nat) : Int) = h by omega] at e
  unfold x_on
  rw [Int64.toBitVec_shiftLeft, BitVec.getLsbD_shiftLeft', e]
  congr 1
  rw [Bool.eq_iff_iff]
  simp only [Bool.and_eq_true, Bool.not_eq_true', decide_eq_true_eq, decide_eq_false_iff_not]
  omega
theorem x_on_lt {x : Int64} {i n : Nat} (h0 : 0 ≤ x.toInt) (h1 : x.toInt < (2 ^ n : Nat)) (h : x_on x i = true) : i < n := by
  unfold x_on at h
  by_cases g : i < n
  · exact g
  · exfalso
    have e : x.toInt = (x.toBitVec.toNat : Int) := by
      have z := BitVec.toInt_eq_toNat_cond x.toBitVec
      have lt := x.toBitVec.isLt
      have h0 : 0 ≤ x.toBitVec.toInt := h0
      show x.toBitVec.toInt = _
      rw [z] at h0 ⊢
      split
      · rfl
      · rename_i q
        rw [if_neg q] at h0
        omega
    have le : 2 ^ n ≤ 2 ^ i := Nat.pow_le_pow_right (by decide) (by omega)
    rw [← BitVec.testBit_toNat, Nat.testBit_lt_two_pow (by omega)] at h
    exact Bool.false_ne_true h
/-! a question is asked: bits of cards, values of knots -/
noncomputable def x_btq (f : Nat → Bool) : Nat → Int32
  | 0 => 0
  | n + 1 => if f n = true then x_btq f n ||| ((1 : Int32) <<< Int32.ofInt (n : Int)) else x_btq f n
noncomputable def x_ib (x : Int32) (i : Nat) : Bool := x.toBitVec.getLsbD i
section XBT
variable {f g : Nat → Bool}
theorem x_ib_or {x y : Int32} {i : Nat} : x_ib (x ||| y) i = (x_ib x i || x_ib y i) := by
  unfold x_ib
  rw [Int32.toBitVec_or, BitVec.getLsbD_or]
theorem x_ib_and {x y : Int32} {i : Nat} : x_ib (x &&& y) i = (x_ib x i && x_ib y i) := by
  unfold x_ib
  rw [Int32.toBitVec_and, BitVec.getLsbD_and]
theorem x_ib_xor {x y : Int32} {i : Nat} : x_ib (x ^^^ y) i = (x_ib x i ^^ x_ib y i) := by
  unfold x_ib
  rw [Int32.toBitVec_xor, BitVec.getLsbD_xor]
theorem x_ib_0 {i : Nat} : x_ib 0 i = false := by
  show (0#32).getLsbD i = false
  rw [BitVec.getLsbD_zero]
theorem x_ib_m {i : Nat} (h : i < 32) : x_ib (-1) i = true := by
  unfold x_ib
  rw [show (-1 : Int32).toBitVec = BitVec.allOnes 32 by decide, BitVec.getLsbD_allOnes]
  exact decide_eq_true h
theorem x_ib_ext {x y : Int32} (h : ∀ i : Nat, i < 32 → x_ib x i = x_ib y i) : x = y := Int32.toBitVec.inj (BitVec.eq_of_getLsbD_eq h)
theorem x_ib_o : ∀ h : Fin 32, ((1 : Int32) <<< Int32.ofInt (h.val : Int)).toBitVec = 1#32 <<< h.val := by decide +kernel
theorem x_ib_1 {n i : Nat} (h : n < 32) (hi : i < 32) : x_ib ((1 : Int32) <<< Int32.ofInt (n : Int)) i = decide (i = n) := by
  have e := x_ib_o ⟨n, h⟩
  unfold x_ib
  rw [e, BitVec.getLsbD_shiftLeft, BitVec.getLsbD_one, Bool.eq_iff_iff]
  simp only [Bool.and_eq_true, Bool.not_eq_true', decide_eq_true_eq, decide_eq_false_iff_not]
  omega
theorem x_ib_btq : ∀ (n i : Nat), n ≤ 32 → i < 32 → x_ib (x_btq f n) i = (decide (i < n) && f i)
  | 0, i, _, _ => by
    rw [x_btq, x_ib_0, decide_eq_false (by omega)]
    rfl
  | n + 1, i, hn, hi => by
    have ih := x_ib_btq n i (by omega) hi
    rw [x_btq]
    by_cases g : f n = true
    · rw [if_pos g, x_ib_or, ih, x_ib_1 (by omega) hi]
      by_cases e : i = n
      · subst e
        rw [decide_eq_true (show i = i from rfl), g, decide_eq_true (show i < i + 1 by omega), Bool.or_true]
        rfl
      · rw [decide_eq_false e, Bool.or_false]
        congr 1
        exact decide_eq_decide.mpr (by omega)
    · rw [if_neg g, ih]
      by_cases e : i = n
      · subst e
        rw [Bool.not_eq_true] at g
        rw [g, Bool.and_false, Bool.and_false]
      · congr 1
        exact decide_eq_decide.mpr (by omega)
theorem x_btq_c : ∀ n : Nat, (∀ i : Nat, i < n → f i = g i) → x_btq f n = x_btq g n
  | 0, _ => rfl
  | n + 1, h => by rw [x_btq, x_btq, x_btq_c n (fun i hi => h i (by omega)), h n (by omega)]
theorem x_btq_no {n : Nat} (h : n ≤ 32) : x_btq (fun _ => true) n &&& (x_btq f n ^^^ (-1 : Int32)) = x_btq (fun i => !f i) n := x_ib_ext (fun i hi => by
  rw [x_ib_and, x_ib_xor, x_ib_m hi, x_ib_btq n i h hi, x_ib_btq n i h hi, x_ib_btq n i h hi]
  by_cases e : i < n
  · rw [decide_eq_true e]
    cases f i <;> rfl
  · rw [decide_eq_false e]
    rfl)
theorem x_btq_an {n : Nat} (h : n ≤ 32) : x_btq f n &&& x_btq g n = x_btq (fun i => f i && g i) n := x_ib_ext (fun i hi => by
  rw [x_ib_and, x_ib_btq n i h hi, x_ib_btq n i h hi, x_ib_btq n i h hi]
  cases decide (i < n) <;> cases f i <;> rfl)
theorem x_btq_or {n : Nat} (h : n ≤ 32) : x_btq f n ||| x_btq g n = x_btq (fun i => f i || g i) n := x_ib_ext (fun i hi => by
  rw [x_ib_or, x_ib_btq n i h hi, x_ib_btq n i h hi, x_ib_btq n i h hi]
  cases decide (i < n) <;> cases f i <;> rfl)
theorem x_btq_s {n n2 : Int} {b b2 : Int32} (H : b = x_btq f n.toNat) (h0 : 0 ≤ n) (h2 : n2 = n + 1) (e : b2 = if f n.toNat = true then b ||| ((1 : Int32) <<< Int32.ofInt (n.toNat : Int)) else b) : b2 = x_btq f n2.toNat := by
  rw [show n2.toNat = n.toNat + 1 by omega, x_btq, ← H]
  exact e
theorem x_btq_y {n : Int} {w z b b2 : Int32} (h0 : 0 ≤ n) (t : f n.toNat = true) (e1 : (1 : Int32) <<< w = z) (hw : w.toInt = n) (e2 : b ||| z = b2) : b2 = if f n.toNat = true then b ||| ((1 : Int32) <<< Int32.ofInt (n.toNat : Int)) else b := by
  rw [if_pos t, ← e2, ← e1, show ((n.toNat : Nat) : Int) = n by omega, x_i32 hw]
theorem x_btq_n {n : Int} {b b2 : Int32} (t : ¬ f n.toNat = true) (e : b2 = b) : b2 = if f n.toNat = true then b ||| ((1 : Int32) <<< Int32.ofInt (n.toNat : Int)) else b := by
  rw [if_neg t, e]
theorem x_btq_z {n : Int} {z b b2 : Int32} (t : ¬ f n.toNat = true) (hz : z = 0) (e2 : b ||| z = b2) : b2 = if f n.toNat = true then b ||| ((1 : Int32) <<< Int32.ofInt (n.toNat : Int)) else b := by
  rw [if_neg t, ← e2, hz, Int32.or_zero]
theorem x_btq_00 {n : Int} {b : Int32} (h : n = 0) (hb : b = 0) : b = x_btq f n.toNat := by
  rw [h, hb]
  rfl
end XBT
/-! sets of positions in rising order, and the least of them -/
noncomputable def x_sb (K W : Int) (x : Nat → Int) : Prop := ∀ m : Nat, (m : Int) < K → 0 ≤ x m ∧ x m < W ∧ ((m : Int) + 1 < K → x m < x (m + 1))
noncomputable def x_cx (K : Int) (y x : Nat → Int) : Prop := ∃ j : Nat, (j : Int) < K ∧ y j < x j ∧ ∀ m : Nat, j < m → (m : Int) < K → y m = x m
noncomputable def x_lx (K : Int) (y x : Nat → Int) : Prop := ∃ j : Nat, (j : Int) < K ∧ y j < x j ∧ ∀ m : Nat, m < j → y m = x m
noncomputable def x_sm (K : Int) (y x : Nat → Int) : Prop := ∀ m : Nat, (m : Int) < K → y m = x m
noncomputable def x_bb (x : Nat → Int) : Nat → Nat
  | 0 => 0
  | n + 1 => x_bb x n + 2 ^ (x n).toNat
section SBS
variable {K W : Int} {x y v a : Nat → Int}
theorem sb_ge (H : x_sb K W x) : ∀ m : Nat, (m : Int) < K → (m : Int) ≤ x m
  | 0, h => by
    have := (H 0 h).1
    omega
  | m + 1, h => by
    have ih := sb_ge H m (by omega)
    have := (H m (by omega)).2.2 (by omega)
    omega
theorem sb_le (H : x_sb K W x) : ∀ d m : Nat, (m : Int) + (d : Int) + 1 = K → x m + (d : Int) < W
  | 0, m, h => by
    have := (H m (by omega)).2.1
    omega
  | d + 1, m, h => by
    have ih := sb_le H d (m + 1) (by omega)
    have := (H m (by omega)).2.2 (by omega)
    omega
theorem sb_lt (H : x_sb K W x) : ∀ d m : Nat, (m : Int) + (d : Int) < K → x m + (d : Int) ≤ x (m + d)
  | 0, m, h => by
    show x m + 0 ≤ x m
    omega
  | d + 1, m, h => by
    have ih := sb_lt H d m (by omega)
    have := (H (m + d) (by omega)).2.2 (by omega)
    show x m + ((d + 1 : Nat) : Int) ≤ x (m + d + 1)
    omega
theorem sb_mx (H : x_sb K W x) {m : Nat} (h : (m : Int) < K) : x m ≤ W - K + (m : Int) := by
  have := sb_le H (K - 1 - (m : Int)).toNat m (by omega)
  omega
theorem sb_c (H : x_sb K W y) (e : x_sm K x y) : x_sb K W x := fun m hm => by
  have h := H m hm
  refine ⟨by rw [e m hm]; exact h.1, by rw [e m hm]; exact h.2.1, fun z => ?_⟩
  rw [e m hm, e (m + 1) (by omega)]
  exact h.2.2 z
theorem bb_u (H : x_sb K W x) : ∀ n : Nat, (n : Int) < K → x_bb x (n + 1) < 2 ^ ((x n).toNat + 1)
  | 0, h => by
    show 0 + 2 ^ (x 0).toNat < 2 ^ ((x 0).toNat + 1)
    rw [Nat.pow_succ]
    have := Nat.pow_pos (n := (x 0).toNat) (show 0 < 2 by decide)
    omega
  | n + 1, h => by
    have ih := bb_u H n (by omega)
    have o := (H n (by omega)).2.2 (by omega)
    have p := (H n (by omega)).1
    have g : 2 ^ ((x n).toNat + 1) ≤ 2 ^ (x (n + 1)).toNat := Nat.pow_le_pow_right (by decide) (by omega)
    show x_bb x (n + 1) + 2 ^ (x (n + 1)).toNat < 2 ^ ((x (n + 1)).toNat + 1)
    rw [Nat.pow_succ]
    omega
theorem bb_c : ∀ n : Nat, (∀ m : Nat, m < n → x m = y m) → x_bb x n = x_bb y n
  | 0, _ => rfl
  | n + 1, h => by rw [x_bb, x_bb, bb_c n (fun m hm => h m (by omega)), h n (by omega)]
theorem bb_cx (Hv : x_sb K W v) (Hx : x_sb K W x) (c : x_cx K v x) : x_bb v K.toNat < x_bb x K.toNat := by
  obtain ⟨j, jk, jl, je⟩ := c
  have b := bb_u Hv j jk
  have p := (Hv j jk).1
  have g : 2 ^ ((v j).toNat + 1) ≤ 2 ^ (x j).toNat := Nat.pow_le_pow_right (by decide) (by omega)
  have key : ∀ d : Nat, (j : Int) + 1 + (d : Int) ≤ K → x_bb v (j + 1 + d) < x_bb x (j + 1 + d) := fun d => by
    induction d with
    | zero =>
      intro _
      show x_bb v (j + 1) < x_bb x j + 2 ^ (x j).toNat
      omega
    | succ d ih =>
      intro h
      have i := ih (by omega)
      have e := je (j + 1 + d) (by omega) (by omega)
      show x_bb v (j + 1 + d) + 2 ^ (v (j + 1 + d)).toNat < x_bb x (j + 1 + d) + 2 ^ (x (j + 1 + d)).toNat
      rw [e]
      omega
  have z := key (K - 1 - (j : Int)).toNat (by omega)
  rw [show j + 1 + (K - 1 - (j : Int)).toNat = K.toNat by omega] at z
  exact z
theorem fd_x : ∀ n : Nat, (∀ m : Nat, m < n → x m = y m) ∨ ∃ j : Nat, j < n ∧ ¬ x j = y j ∧ ∀ m : Nat, m < j → x m = y m
  | 0 => Or.inl (fun m hm => absurd hm (Nat.not_lt_zero m))
  | n + 1 => by
    rcases fd_x n with h | ⟨j, h1, h2, h3⟩
    · by_cases e : x n = y n
      · refine Or.inl (fun m hm => ?_)
        by_cases g : m = n
        · rw [g]; exact e
        · exact h m (by omega)
      · exact Or.inr ⟨n, by omega, e, h⟩
    · exact Or.inr ⟨j, by omega, h2, h3⟩
/-- x at or before a, if it is nowhere above it -/
theorem lx_le (h : ∀ m : Nat, (m : Int) < K → x m ≤ a m) : x_sm K x a ∨ x_lx K x a := by
  rcases fd_x (x := x) (y := a) K.toNat with g | ⟨j, h1, h2, h3⟩
  · exact Or.inl (fun m hm => g m (by omega))
  · have := h j (by omega)
    exact Or.inr ⟨j, by omega, by omega, h3⟩
theorem lx_0 (H : x_sb K W x) (h : ∀ m : Nat, (m : Int) < K → a m = (m : Int)) : ¬ x_lx K x a := fun ⟨j, h1, h2, _⟩ => by
  have := sb_ge H j h1
  have := h j h1
  omega
theorem lx_e (H : x_sb K W x) (h : ∀ m : Nat, (m : Int) < K → a m = W - K + (m : Int)) : x_sm K x a ∨ x_lx K x a := lx_le (fun m hm => by
  have := sb_mx H hm
  have := h m hm
  omega)
/-- the next set -/
theorem lx_n {b : Nat → Int} {i : Nat} (H : x_sb K W x) (hi : (i : Int) < K) (h1 : ∀ m : Nat, i < m → (m : Int) < K → a m = W - K + (m : Int)) (b0 : ∀ m : Nat, m < i → b m = a m) (b1 : ∀ m : Nat, i ≤ m → (m : Int) < K → b m = a i + 1 + ((m : Int) - (i : Int))) : x_lx K x b ↔ (x_sm K x a ∨ x_lx K x a) := by
  have bi := b1 i (Nat.le_refl _) hi
  constructor
  · rintro ⟨j, j1, j2, j3⟩
    by_cases g : j < i
    · have := b0 j g
      exact Or.inr ⟨j, j1, by omega, fun m hm => (j3 m hm).trans (b0 m (by omega))⟩
    · by_cases g2 : j = i
      · subst g2
        by_cases g3 : x j < a j
        · exact Or.inr ⟨j, j1, g3, fun m hm => (j3 m hm).trans (b0 m hm)⟩
        · have e : x j = a j := by omega
          refine lx_le (fun m hm => ?_)
          by_cases g4 : m < j
          · have := (j3 m g4).trans (b0 m g4)
            omega
          · by_cases g5 : m = j
            · rw [g5]; omega
            · have := sb_mx H hm
              have := h1 m (by omega) hm
              omega
      · have e := j3 i (by omega)
        have s := sb_lt H (j - i) i (by omega)
        have bj := b1 j (by omega) j1
        rw [show i + (j - i) = j by omega] at s
        omega
  · rintro (h | ⟨j, j1, j2, j3⟩)
    · have := h i hi
      exact ⟨i, hi, by omega, fun m hm => (h m (by omega)).trans (b0 m hm).symm⟩
    · by_cases g : j < i
      · have := b0 j g
        exact ⟨j, j1, by omega, fun m hm => (j3 m hm).trans (b0 m (by omega)).symm⟩
      · refine ⟨i, hi, ?_, fun m hm => (j3 m (by omega)).trans (b0 m hm).symm⟩
        by_cases g2 : j = i
        · subst g2
          omega
        · have := j3 i (by omega)
          omega
end SBS
/-! the class's sets -/
noncomputable def x_Cb (K W c w : Int) (y x : Nat → Int) : Prop := x_sb K W x ∧ (∀ m : Nat, c ≤ (m : Int) → (m : Int) < K → x m = y m) ∧ (0 < c → x (c - 1).toNat < w)
section CBS
variable {K W c w p : Int} {x y v : Nat → Int}
theorem Cb_0 (Hy : x_sb K W y) (hc : c = 0) : x_Cb K W c w y x ↔ x_sm K x y := by
  subst hc
  exact ⟨fun h m hm => h.2.1 m (by omega) hm, fun h => ⟨sb_c Hy h, fun m _ hm => h m hm, fun z => by omega⟩⟩
theorem Cb_e (hc : 0 < c) (ck : c ≤ K) (hw : w ≤ c - 1) : ¬ x_Cb K W c w y x := fun h => by
  have a := sb_ge h.1 (c - 1).toNat (by omega)
  have b := h.2.2 hc
  omega
theorem Cb_s (hc : 0 < c) (ck : c ≤ K) : x_Cb K W c (p + 1) y x ↔ (x_Cb K W c p y x ∨ x_Cb K W (c - 1) p (x_upZ y (c - 1).toNat p) x) := by
  have uu : ∀ m : Nat, x_upZ y (c - 1).toNat p m = if m = (c - 1).toNat then p else y m := fun m => rfl
  constructor
  · rintro ⟨h1, h2, h3⟩
    have h3 := h3 hc
    by_cases g : x (c - 1).toNat < p
    · exact Or.inl ⟨h1, h2, fun _ => g⟩
    · refine Or.inr ⟨h1, fun m hm hk => ?_, fun z => ?_⟩
      · rw [uu]
        by_cases e : m = (c - 1).toNat
        · rw [if_pos e, e]; omega
        · rw [if_neg e]; exact h2 m (by omega) hk
      · have o := (h1 (c - 1 - 1).toNat (by omega)).2.2 (by omega)
        rw [show (c - 1 - 1).toNat + 1 = (c - 1).toNat by omega] at o
        omega
  · rintro (⟨h1, h2, h3⟩ | ⟨h1, h2, h3⟩)
    · exact ⟨h1, h2, fun z => by have := h3 z; omega⟩
    · refine ⟨h1, fun m hm hk => ?_, fun _ => ?_⟩
      · have z := h2 m (by omega) hk
        rw [uu, if_neg (by omega)] at z
        exact z
      · have z := h2 (c - 1).toNat (by omega) (by omega)
        rw [uu, if_pos rfl] at z
        omega
theorem Cb_o (hc : 0 < c) (ck : c ≤ K) (hv : x_Cb K W c p y v) (hx : x_Cb K W (c - 1) p (x_upZ y (c - 1).toNat p) x) : x_cx K v x := by
  have uu : ∀ m : Nat, x_upZ y (c - 1).toNat p m = if m = (c - 1).toNat then p else y m := fun m => rfl
  have z := hx.2.1 (c - 1).toNat (by omega) (by omega)
  rw [uu, if_pos rfl] at z
  have b := hv.2.2 hc
  refine ⟨(c - 1).toNat, by omega, by omega, fun m hm hk => ?_⟩
  have e := hx.2.1 m (by omega) hk
  rw [uu, if_neg (by omega)] at e
  rw [e]
  exact hv.2.1 m (by omega) hk
theorem Cb_w (h : x_Cb K W c p y x) (hw : p ≤ w) : x_Cb K W c w y x := ⟨h.1, h.2.1, fun z => by have := h.2.2 z; omega⟩
end CBS
/-! the least -/
noncomputable def x_l3 (a1 a2 a3 b1 b2 b3 : Int) : Prop := a1 < b1 ∨ a1 = b1 ∧ (a2 < b2 ∨ a2 = b2 ∧ a3 ≤ b3)
noncomputable def LSTb (D S B : (Nat → Int) → Int) (V : (Nat → Int) → Prop) (b d s : Int) : Prop := (b = -1 ∧ ∀ x, ¬ V x) ∨ ∃ x, V x ∧ b = B x ∧ d = D x ∧ s = S x ∧ ∀ y, V y → x_l3 (D x) (S x) (B x) (D y) (S y) (B y)
section LSB
variable {K : Int} {D S B : (Nat → Int) → Int} {V V2 : (Nat → Int) → Prop} {b d s b2 d2 s2 : Int} {x : Nat → Int}
theorem LSTb_0 (h : ∀ x, ¬ V x) (e : b = -1) : LSTb D S B V b d s := Or.inl ⟨e, h⟩
theorem LSTb_c (H : LSTb D S B V b d s) (h : ∀ x, V x ↔ V2 x) : LSTb D S B V2 b d s := by
  rcases H with ⟨e, g⟩ | ⟨x, h1, h2, h3, h4, h5⟩
  · exact Or.inl ⟨e, fun x hx => g x ((h x).mpr hx)⟩
  · exact Or.inr ⟨x, (h x).mp h1, h2, h3, h4, fun y hy => h5 y ((h y).mpr hy)⟩
/-- one more is weighed and taken -/
theorem LSTb_y (H : LSTb D S B V b d s) (cD : ∀ y, x_sm K y x → D y = D x) (cS : ∀ y, x_sm K y x → S y = S x) (cB : ∀ y, x_sm K y x → B y = B x) (t : b = -1 ∨ D x < d ∨ D x = d ∧ (S x < s ∨ S x = s ∧ B x < b)) (p : ∀ y, V y → 0 ≤ B y) (e1 : b2 = B x) (e2 : d2 = D x) (e3 : s2 = S x) : LSTb D S B (fun y => V y ∨ x_sm K y x) b2 d2 s2 := by
  refine Or.inr ⟨x, Or.inr (fun m _ => rfl), e1, e2, e3, fun y hy => ?_⟩
  rcases hy with hy | hy
  · rcases H with ⟨_, g⟩ | ⟨z, h1, h2, h3, h4, h5⟩
    · exact absurd hy (g y)
    · have l := h5 y hy
      have q := p z h1
      unfold x_l3 at l ⊢
      omega
  · rw [cD y hy, cS y hy, cB y hy]
    exact Or.inr ⟨rfl, Or.inr ⟨rfl, Int.le_refl _⟩⟩
/-- one more is weighed and left -/
theorem LSTb_n (H : LSTb D S B V b d s) (cD : ∀ y, x_sm K y x → D y = D x) (cS : ∀ y, x_sm K y x → S y = S x) (cB : ∀ y, x_sm K y x → B y = B x) (nb : ¬ b = -1) (t : d < D x ∨ d = D x ∧ (s < S x ∨ s = S x ∧ b ≤ B x)) : LSTb D S B (fun y => V y ∨ x_sm K y x) b d s := by
  rcases H with ⟨e, _⟩ | ⟨z, h1, h2, h3, h4, h5⟩
  · exact absurd e nb
  · refine Or.inr ⟨z, Or.inl h1, h2, h3, h4, fun y hy => ?_⟩
    rcases hy with hy | hy
    · exact h5 y hy
    · rw [cD y hy, cS y hy, cB y hy]
      unfold x_l3
      omega
/-- the least is one -/
theorem LSTb_q {D2 S2 B2 : (Nat → Int) → Int} (H : LSTb D S B V b d s) (H2 : LSTb D2 S2 B2 V b2 d2 s2) (eD : ∀ y, V y → D2 y = D y) (eS : ∀ y, V y → S2 y = S y) (eB : ∀ y, V y → B2 y = B y) : b = b2 := by
  rcases H with ⟨e, g⟩ | ⟨z, h1, h2, h3, h4, h5⟩
  · rcases H2 with ⟨e2, _⟩ | ⟨z2, k1, _⟩
    · rw [e, e2]
    · exact absurd k1 (g z2)
  · rcases H2 with ⟨_, g⟩ | ⟨z2, k1, k2, k3, k4, k5⟩
    · exact absurd h1 (g z)
    · have l := h5 z2 k1
      have l2 := k5 z h1
      rw [eD z h1, eS z h1, eB z h1, eD z2 k1, eS z2 k1, eB z2 k1] at l2
      have eb := eB z2 k1
      unfold x_l3 at l l2
      omega
end LSB
