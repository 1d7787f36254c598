/-! THE TOKENS OF A TEXT: t its bytes, n how many, a a token's place -/
noncomputable def x_run (P : Int → Bool) (t : Nat → Int) : Nat → Nat → Nat
  | 0, p => p
  | f + 1, p => bif P (t p) then x_run P t f (p + 1) else p
noncomputable def x_bl (c : Int) : Bool := decide (c = 10 ∨ c = 32)
noncomputable def x_lt (c : Int) : Bool := decide (97 ≤ c ∧ c ≤ 122)
noncomputable def x_dg (c : Int) : Bool := decide (48 ≤ c ∧ c ≤ 57)
theorem x_bl_t {c : Int} (h : c = 10 ∨ c = 32) : x_bl c = true := decide_eq_true h
theorem x_bl_f {c : Int} (h : ¬ (c = 10 ∨ c = 32)) : x_bl c = false := decide_eq_false h
theorem x_lt_t {c : Int} (h : 97 ≤ c ∧ c ≤ 122) : x_lt c = true := decide_eq_true h
theorem x_lt_f {c : Int} (h : ¬ (97 ≤ c ∧ c ≤ 122)) : x_lt c = false := decide_eq_false h
theorem x_dg_t {c : Int} (h : 48 ≤ c ∧ c ≤ 57) : x_dg c = true := decide_eq_true h
theorem x_dg_f {c : Int} (h : ¬ (48 ≤ c ∧ c ≤ 57)) : x_dg c = false := decide_eq_false h
noncomputable def x_end (P : Int → Bool) (t : Nat → Int) (n x : Int) : Int := (x_run P t (n - x).toNat x.toNat : Nat)
section XL
variable {P : Int → Bool} {t : Nat → Int} {n x : Int}
theorem x_go (h0 : 0 ≤ x) (h1 : x < n) (h : P (t x.toNat) = true) : x_end P t n x = x_end P t n (x + 1) := by
  have e1 : (n - x).toNat = (n - (x + 1)).toNat + 1 := by omega
  have e2 : (x + 1).toNat = x.toNat + 1 := by omega
  unfold x_end
  rw [e1, e2, x_run, h]
  rfl
theorem x_no (h0 : 0 ≤ x) (h : n ≤ x ∨ P (t x.toNat) = false) : x_end P t n x = x := by
  unfold x_end
  by_cases g : n ≤ x
  · have e1 : (n - x).toNat = 0 := by omega
    rw [e1, x_run]
    omega
  · have h2 : P (t x.toNat) = false := h.resolve_left g
    have e1 : (n - x).toNat = (n - (x + 1)).toNat + 1 := by omega
    rw [e1, x_run, h2]
    show ((x.toNat : Nat) : Int) = x
    omega
theorem x_run_le (P : Int → Bool) (t : Nat → Int) : ∀ f p, p ≤ x_run P t f p ∧ x_run P t f p ≤ p + f
  | 0, p => ⟨Nat.le_refl _, Nat.le_refl _⟩
  | f + 1, p => by
    have ih := x_run_le P t f (p + 1)
    rw [x_run]
    cases P (t p) with
    | true => show p ≤ x_run P t f (p + 1) ∧ _; exact ⟨by omega, by show x_run P t f (p + 1) ≤ _; omega⟩
    | false => show p ≤ p ∧ _; exact ⟨Nat.le_refl _, by show p ≤ _; omega⟩
theorem x_le (h0 : 0 ≤ x) (h1 : x ≤ n) : x ≤ x_end P t n x ∧ x_end P t n x ≤ n := by
  have := x_run_le P t (n - x).toNat x.toNat
  unfold x_end
  omega
theorem x_run_in (P : Int → Bool) (t : Nat → Int) : ∀ f p k, p ≤ k → k < x_run P t f p → P (t k) = true
  | 0, p, k, h1, h2 => by rw [x_run] at h2; omega
  | f + 1, p, k, h1, h2 => by
    rw [x_run] at h2
    cases g : P (t p) with
    | false => rw [g] at h2; have h2 : k < p := h2; omega
    | true =>
      rw [g] at h2
      have h2 : k < x_run P t f (p + 1) := h2
      by_cases e : k = p
      · rw [e]; exact g
      · exact x_run_in P t f (p + 1) k (by omega) h2
theorem x_in {k : Nat} (h0 : 0 ≤ x) (h1 : x ≤ k) (h2 : (k : Int) < x_end P t n x) : P (t k) = true := x_run_in P t (n - x).toNat x.toNat k (by omega) (by unfold x_end at h2; omega)
theorem x_run_at (P : Int → Bool) (t : Nat → Int) : ∀ f p, x_run P t f p < p + f → P (t (x_run P t f p)) = false
  | 0, p, h => by rw [x_run] at h; omega
  | f + 1, p, h => by
    rw [x_run] at h ⊢
    cases g : P (t p) with
    | false => show P (t p) = false; exact g
    | true =>
      rw [g] at h
      have h : x_run P t f (p + 1) < p + (f + 1) := h
      exact x_run_at P t f (p + 1) (by omega)
theorem x_at (h0 : 0 ≤ x) (h1 : x ≤ n) (h : x_end P t n x < n) : P (t (x_end P t n x).toNat) = false := by
  have := x_run_at P t (n - x).toNat x.toNat (by unfold x_end at h; omega)
  unfold x_end
  exact this
end XL
/-- numbers -/
noncomputable def x_nv (t : Nat → Int) : Nat → Nat → Int → Int
  | 0, _, v => v
  | f + 1, p, v => bif x_dg (t p) then x_nv t f (p + 1) (if v * 10 + t p - 48 ≤ 100 then v * 10 + t p - 48 else 100) else v
noncomputable def x_num (t : Nat → Int) (n x v : Int) : Int := x_nv t (n - x).toNat x.toNat v
section XN
variable {t : Nat → Int} {n x v w : Int}
theorem x_num_go (h0 : 0 ≤ x) (h1 : x < n) (h : 48 ≤ t x.toNat ∧ t x.toNat ≤ 57) (hw : w = if v * 10 + t x.toNat - 48 ≤ 100 then v * 10 + t x.toNat - 48 else 100) : x_num t n x v = x_num t n (x + 1) w := by
  have e1 : (n - x).toNat = (n - (x + 1)).toNat + 1 := by omega
  have e2 : (x + 1).toNat = x.toNat + 1 := by omega
  unfold x_num
  rw [e1, e2, x_nv, x_dg_t h, hw]
  rfl
theorem x_num_no (h0 : 0 ≤ x) (h : n ≤ x ∨ ¬ (48 ≤ t x.toNat ∧ t x.toNat ≤ 57)) : x_num t n x v = v := by
  unfold x_num
  by_cases g : n ≤ x
  · have e1 : (n - x).toNat = 0 := by omega
    rw [e1, x_nv]
  · have h2 := h.resolve_left g
    have e1 : (n - x).toNat = (n - (x + 1)).toNat + 1 := by omega
    rw [e1, x_nv, x_dg_f h2]
    rfl
theorem x_nv_b (t : Nat → Int) : ∀ f p v, 0 ≤ v → v ≤ 100 → 0 ≤ x_nv t f p v ∧ x_nv t f p v ≤ 100
  | 0, p, v, h0, h1 => ⟨h0, h1⟩
  | f + 1, p, v, h0, h1 => by
    rw [x_nv]
    cases g : x_dg (t p) with
    | false => exact ⟨h0, h1⟩
    | true =>
      have g2 : 48 ≤ t p ∧ t p ≤ 57 := of_decide_eq_true g
      refine x_nv_b t f (p + 1) _ ?_ ?_
      · split <;> omega
      · split <;> omega
theorem x_num_b (h0 : 0 ≤ v) (h1 : v ≤ 100) : 0 ≤ x_num t n x v ∧ x_num t n x v ≤ 100 := x_nv_b t _ _ v h0 h1
end XN
/-- letters, packed -/
noncomputable def x_pw (j : Nat) : Int := if j = 0 then 33554432 else if j = 1 then 1048576 else if j = 2 then 32768 else if j = 3 then 1024 else if j = 4 then 32 else if j = 5 then 1 else 0
noncomputable def x_pk (t : Nat → Int) (a : Nat) : Nat → Int
  | 0 => 0
  | j + 1 => x_pk t a j + (t (a + j) - 96) * x_pw j
noncomputable def x_ws : List Int := [284563040, 210940032, 788074496, 518160384, 659999744, 538233440, 404000768, 538561536, 686817280, 93323264, 351582208, 40936896, 48365568, 522190848, 486146048]
noncomputable def x_kx (v : Int) : Int := if v = 284563040 then 0 else if v = 210940032 then 1 else if v = 788074496 then 2 else if v = 518160384 then 3 else if v = 659999744 then 4 else if v = 538233440 then 5 else if v = 404000768 then 6 else if v = 538561536 then 7 else if v = 686817280 then 8 else if v = 93323264 then 9 else if v = 351582208 then 10 else if v = 40936896 then 11 else if v = 48365568 then 12 else if v = 522190848 then 13 else if v = 486146048 then 14 else -1
theorem x_kx_b {v : Int} : -1 ≤ x_kx v ∧ x_kx v ≤ 14 := by
  unfold x_kx
  repeat' split
  all_goals omega
/-- tokens -/
noncomputable def x_e (t : Nat → Int) (n a : Int) : Int := x_end x_lt t n a
noncomputable def x_lv (t : Nat → Int) (n a : Int) : Int := x_pk t a.toNat (x_e t n a - a).toNat
noncomputable def x_kind (t : Nat → Int) (n a : Int) : Int :=
  if n ≤ a then 0 else
  if 97 ≤ t a.toNat ∧ t a.toNat ≤ 122 then (if 6 < x_e t n a - a then 5 else if 0 ≤ x_kx (x_lv t n a) then 1 else 2) else
  if 48 ≤ t a.toNat ∧ t a.toNat ≤ 57 then 3 else
  if t a.toNat = 59 ∨ t a.toNat = 40 ∨ t a.toNat = 41 ∨ t a.toNat = 61 then 4 else 5
noncomputable def x_val (t : Nat → Int) (n a : Int) : Int :=
  if n ≤ a then 0 else
  if 97 ≤ t a.toNat ∧ t a.toNat ≤ 122 then x_lv t n a else
  if 48 ≤ t a.toNat ∧ t a.toNat ≤ 57 then x_num t n a 0 else t a.toNat
noncomputable def x_nx (t : Nat → Int) (n a : Int) : Int :=
  if n ≤ a then a else
  if 97 ≤ t a.toNat ∧ t a.toNat ≤ 122 then x_e t n a else
  if 48 ≤ t a.toNat ∧ t a.toNat ≤ 57 then x_end x_dg t n a else a + 1
noncomputable def x_sk (t : Nat → Int) (n a : Int) : Int := x_end x_bl t n a
noncomputable def x_ns (t : Nat → Int) (n a : Int) : Int := x_sk t n (x_nx t n a)
/-- a token as the class keeps it, and as the reference does -/
noncomputable def x_C (K V tok val : Int) : Prop := (K = 0 ∧ tok = 0 ∧ val = 0) ∨ (K = 1 ∧ tok = 4 ∧ val = V) ∨ (K = 2 ∧ tok = 3 ∧ val = V) ∨ (K = 3 ∧ tok = 2 ∧ val = V) ∨ (K = 4 ∧ tok = V ∧ val = 0 ∧ (V = 59 ∨ V = 40 ∨ V = 41 ∨ V = 61)) ∨ (K = 5 ∧ tok = 1 ∧ val = 0)
noncomputable def x_R (K V kd wh : Int) : Prop := (K = 0 ∧ kd = 0) ∨ (K = 1 ∧ kd = 1 ∧ wh = x_kx V ∧ 0 ≤ wh) ∨ (K = 2 ∧ kd = 2 ∧ wh = V) ∨ (K = 3 ∧ kd = 3 ∧ (wh = V ∧ wh ≤ 99 ∨ V = 100 ∧ 100 ≤ wh) ∧ 0 ≤ wh) ∨ (K = 4 ∧ kd = 4 ∧ wh = V ∧ (V = 59 ∨ V = 40 ∨ V = 41 ∨ V = 61)) ∨ (K = 5 ∧ kd = 5)
section XT
variable {t : Nat → Int} {n a : Int}
theorem x_t0 (h : n ≤ a) : x_kind t n a = 0 ∧ x_nx t n a = a := by
  unfold x_kind x_nx
  rw [if_pos h, if_pos h]
  exact ⟨rfl, rfl⟩
theorem x_tl (h : a < n) (hl : 97 ≤ t a.toNat ∧ t a.toNat ≤ 122) : x_kind t n a = (if 6 < x_e t n a - a then 5 else if 0 ≤ x_kx (x_lv t n a) then 1 else 2) ∧ x_val t n a = x_lv t n a ∧ x_nx t n a = x_e t n a := by
  have h1 : ¬ n ≤ a := by omega
  unfold x_kind x_nx x_val
  rw [if_neg h1, if_neg h1, if_neg h1, if_pos hl, if_pos hl, if_pos hl]
  exact ⟨rfl, rfl, rfl⟩
theorem x_td (h : a < n) (hd : 48 ≤ t a.toNat ∧ t a.toNat ≤ 57) : x_kind t n a = 3 ∧ x_val t n a = x_num t n a 0 ∧ x_nx t n a = x_end x_dg t n a := by
  have h1 : ¬ n ≤ a := by omega
  have h2 : ¬ (97 ≤ t a.toNat ∧ t a.toNat ≤ 122) := by omega
  unfold x_kind x_nx x_val
  rw [if_neg h1, if_neg h1, if_neg h1, if_neg h2, if_neg h2, if_neg h2, if_pos hd, if_pos hd, if_pos hd]
  exact ⟨rfl, rfl, rfl⟩
theorem x_ts (h : a < n) (h2 : ¬ (97 ≤ t a.toNat ∧ t a.toNat ≤ 122)) (h3 : ¬ (48 ≤ t a.toNat ∧ t a.toNat ≤ 57)) : x_kind t n a = (if t a.toNat = 59 ∨ t a.toNat = 40 ∨ t a.toNat = 41 ∨ t a.toNat = 61 then 4 else 5) ∧ x_val t n a = t a.toNat ∧ x_nx t n a = a + 1 := by
  have h1 : ¬ n ≤ a := by omega
  unfold x_kind x_nx x_val
  rw [if_neg h1, if_neg h1, if_neg h1, if_neg h2, if_neg h2, if_neg h2, if_neg h3, if_neg h3, if_neg h3]
  exact ⟨rfl, rfl, rfl⟩
theorem x_ns_n : 0 ≤ n → x_ns t n n = n := by
  intro h
  unfold x_ns x_sk
  rw [(x_t0 (Int.le_refl n)).2]
  exact x_no h (Or.inl (Int.le_refl n))
theorem x_e_b (h0 : 0 ≤ a) (h1 : a ≤ n) : a ≤ x_e t n a ∧ x_e t n a ≤ n := x_le h0 h1
theorem x_nx_b (h0 : 0 ≤ a) (h1 : a ≤ n) : a ≤ x_nx t n a ∧ x_nx t n a ≤ n ∧ (a < n → a < x_nx t n a) := by
  unfold x_nx
  by_cases g : n ≤ a
  · rw [if_pos g]; omega
  · rw [if_neg g]
    by_cases g2 : 97 ≤ t a.toNat ∧ t a.toNat ≤ 122
    · rw [if_pos g2]
      unfold x_e
      rw [x_go h0 (by omega) (x_lt_t g2)]
      have := x_le (P := x_lt) (t := t) (n := n) (x := a + 1) (by omega) (by omega)
      omega
    · rw [if_neg g2]
      by_cases g3 : 48 ≤ t a.toNat ∧ t a.toNat ≤ 57
      · rw [if_pos g3]
        rw [x_go h0 (by omega) (x_dg_t g3)]
        have := x_le (P := x_dg) (t := t) (n := n) (x := a + 1) (by omega) (by omega)
        omega
      · rw [if_neg g3]; omega
theorem x_ns_b (h0 : 0 ≤ a) (h1 : a ≤ n) : a ≤ x_ns t n a ∧ x_ns t n a ≤ n := by
  have h2 := x_nx_b (t := t) h0 h1
  have := x_le (P := x_bl) (t := t) (n := n) (x := x_nx t n a) (by omega) (by omega)
  unfold x_ns x_sk
  omega
end XT
/-! packed letters, and the words of the language -/
theorem x_or {a b : Int32} {A B : Int} {k : Nat} {q : Nat} (ea : a.toInt = A) (eb : b.toInt = B) (hA : A = 2 ^ k * (q : Int)) (h0 : 0 ≤ B) (h1 : B < 2 ^ k) (h2 : A + B < 2147483648) : (a ||| b).toInt = A + B := by
  have p0 : (0 : Int) ≤ 2 ^ k * (q : Int) := Int.mul_nonneg (Int.le_of_lt (Int.pow_pos (by decide))) (Int.natCast_nonneg q)
  have ma : a.toBitVec.msb = false := by
    rw [BitVec.msb_eq_toInt]
    have : a.toBitVec.toInt = A := ea
    simp only [this, decide_eq_false_iff_not]; omega
  have mb : b.toBitVec.msb = false := by
    rw [BitVec.msb_eq_toInt]
    have : b.toBitVec.toInt = B := eb
    simp only [this, decide_eq_false_iff_not]; omega
  have e1 : A = (a.toBitVec.toNat : Int) := by
    rw [← ea]
    show a.toBitVec.toInt = _
    rw [BitVec.toInt_eq_toNat_of_msb ma]
  have e2 : B = (b.toBitVec.toNat : Int) := by
    rw [← eb]
    show b.toBitVec.toInt = _
    rw [BitVec.toInt_eq_toNat_of_msb mb]
  have e : (a ||| b).toInt = ((a.toBitVec ||| b.toBitVec).toNat : Int) := by
    show (a ||| b).toBitVec.toInt = _
    rw [Int32.toBitVec_or, BitVec.toInt_eq_toNat_of_msb (by rw [BitVec.msb_or, ma, mb]; rfl)]
  have e3 : a.toBitVec.toNat = 2 ^ k * q := by
    have : (a.toBitVec.toNat : Int) = ((2 ^ k * q : Nat) : Int) := by rw [← e1, hA]; push_cast; rfl
    exact Int.ofNat.inj this
  have h3 : b.toBitVec.toNat < 2 ^ k := by
    have : (b.toBitVec.toNat : Int) < ((2 ^ k : Nat) : Int) := by rw [← e2]; push_cast; exact h1
    exact Int.ofNat_lt.mp this
  rw [e, BitVec.toNat_or, e3, ← Nat.two_pow_add_eq_or_of_lt h3, e2, hA]
  push_cast
  rfl
theorem x_i32 {x : Int32} {k : Int} (h : x.toInt = k) : x = Int32.ofInt k := by rw [← h, Int32.ofInt_toInt]
theorem x_26 : ∀ k : Fin 26, ∀ j : Fin 6, ((((Int32.ofInt (97 + (k.val : Int))) &&& 31) <<< (Int32.ofInt (25 - 5 * (j.val : Int)))).toInt = (1 + (k.val : Int)) * x_pw j.val) := by decide +kernel
theorem x_shl {s c : Int32} {j : Nat} (h0 : 97 ≤ s.toInt) (h1 : s.toInt ≤ 122) (hj : j < 6) (hc : c.toInt = 25 - 5 * (j : Int)) : ((s &&& 31) <<< c).toInt = (s.toInt - 96) * x_pw j := by
  have := x_26 ⟨(s.toInt - 97).toNat, by omega⟩ ⟨j, hj⟩
  have e : (97 : Int) + (((s.toInt - 97).toNat : Nat) : Int) = s.toInt := by omega
  have e2 : (1 : Int) + (((s.toInt - 97).toNat : Nat) : Int) = s.toInt - 96 := by omega
  simp only [e, e2] at this
  rw [x_i32 hc, ← this, Int32.ofInt_toInt]
section XP
variable {t : Nat → Int} {a : Nat}
/-- what the class has packed after j letters: a multiple of 32 to the power 6 - j -/
theorem x_pk_q : ∀ j, j ≤ 6 → (∀ i, i < j → 97 ≤ t (a + i) ∧ t (a + i) ≤ 122) → ∃ q : Nat, x_pk t a j = 2 ^ (30 - 5 * j) * (q : Int) ∧ (q : Int) < 2 ^ (5 * j)
  | 0, _, _ => ⟨0, by rw [x_pk]; rfl, by decide⟩
  | j + 1, hj, h => by
    obtain ⟨q, h1, h2⟩ := x_pk_q j (by omega) (fun i hi => h i (by omega))
    have hl := h j (by omega)
    refine ⟨32 * q + (t (a + j) - 96).toNat, ?_, ?_⟩
    · rw [x_pk, h1]
      generalize t (a + j) = c at hl ⊢
      have e : (((32 * q + (c - 96).toNat : Nat)) : Int) = 32 * (q : Int) + (c - 96) := by push_cast; omega
      rw [e]
      rcases (show j = 0 ∨ j = 1 ∨ j = 2 ∨ j = 3 ∨ j = 4 ∨ j = 5 by omega) with rfl | rfl | rfl | rfl | rfl | rfl <;> simp [x_pw] <;> omega
    · generalize t (a + j) = c at hl ⊢
      have e : (((32 * q + (c - 96).toNat : Nat)) : Int) = 32 * (q : Int) + (c - 96) := by push_cast; omega
      rw [e]
      rcases (show j = 0 ∨ j = 1 ∨ j = 2 ∨ j = 3 ∨ j = 4 ∨ j = 5 by omega) with rfl | rfl | rfl | rfl | rfl | rfl <;> simp at h2 ⊢ <;> omega
theorem x_pk_s {x w : Int32} {j : Nat} (hx : x.toInt = x_pk t a j) (hj : j < 6) (hl : ∀ i, i < j + 1 → 97 ≤ t (a + i) ∧ t (a + i) ≤ 122) (hw : w.toInt = (t (a + j) - 96) * x_pw j) : (x ||| w).toInt = x_pk t a (j + 1) := by
  obtain ⟨q, h1, h2⟩ := x_pk_q (t := t) (a := a) j (by omega) (fun i hi => hl i (by omega))
  have h3 := hl j (by omega)
  rw [x_pk]
  generalize t (a + j) = c at h3 hw ⊢
  rw [x_or (k := 30 - 5 * j) (q := q) hx hw (by rw [h1]) ?_ ?_ ?_]
  · rcases (show j = 0 ∨ j = 1 ∨ j = 2 ∨ j = 3 ∨ j = 4 ∨ j = 5 by omega) with rfl | rfl | rfl | rfl | rfl | rfl <;> simp [x_pw] <;> omega
  · rcases (show j = 0 ∨ j = 1 ∨ j = 2 ∨ j = 3 ∨ j = 4 ∨ j = 5 by omega) with rfl | rfl | rfl | rfl | rfl | rfl <;> simp [x_pw] <;> omega
  · rw [h1]
    rcases (show j = 0 ∨ j = 1 ∨ j = 2 ∨ j = 3 ∨ j = 4 ∨ j = 5 by omega) with rfl | rfl | rfl | rfl | rfl | rfl <;> simp [x_pw] at h2 ⊢ <;> omega
/-- the reference's packing: m letters, after j rounds -/
noncomputable def x_pr (t : Nat → Int) (a m : Nat) : Nat → Int
  | 0 => 0
  | j + 1 => 32 * x_pr t a m j + (if j < m then t (a + j) - 96 else 0)
theorem x_pr_b {m : Nat} (hl : ∀ i, i < m → 97 ≤ t (a + i) ∧ t (a + i) ≤ 122) : ∀ j, 0 ≤ x_pr t a m j ∧ x_pr t a m j < 32 ^ j
  | 0 => by rw [x_pr]; decide
  | j + 1 => by
    have ih := x_pr_b hl j
    rw [x_pr, Int.pow_succ]
    by_cases g : j < m
    · rw [if_pos g]
      have := hl j g
      omega
    · rw [if_neg g]
      omega
theorem x_pr_6 {m : Nat} (h : m ≤ 6) : x_pr t a m 6 = x_pk t a m := by
  rcases (show m = 0 ∨ m = 1 ∨ m = 2 ∨ m = 3 ∨ m = 4 ∨ m = 5 ∨ m = 6 by omega) with rfl | rfl | rfl | rfl | rfl | rfl | rfl <;> simp [x_pr, x_pk, x_pw] <;> omega
theorem x_sh5 {x : Int32} {A : Int} (h : x.toInt = A) (h0 : 0 ≤ A) (h1 : A < 33554432) : (x <<< (5 : Int32)).toInt = 32 * A := by
  have e : x <<< (5 : Int32) = x * 32 := by
    apply Int32.toBitVec_inj.mp
    rw [Int32.toBitVec_shiftLeft, Int32.toBitVec_mul]
    show x.toBitVec <<< ((5 : BitVec 32).smod 32) = x.toBitVec * 32
    rw [show ((5 : BitVec 32).smod 32) = 5#32 from by decide]
    rw [show (32 : BitVec 32) = BitVec.twoPow 32 5 from by decide, BitVec.mul_twoPow_eq_shiftLeft]
    rfl
  rw [e, Int32.toInt_mul, h, show (32 : Int32).toInt = 32 from rfl, Int.bmod_eq_of_le] <;> omega
theorem x_pr_s {x w : Int32} {m j : Nat} (hl : ∀ i, i < m → 97 ≤ t (a + i) ∧ t (a + i) ≤ 122) (hx : x.toInt = x_pr t a m j) (hj : j < 6) (hw : w.toInt = if j < m then t (a + j) - 96 else 0) : ((x <<< (5 : Int32)) ||| w).toInt = x_pr t a m (j + 1) := by
  have hb := x_pr_b (t := t) (a := a) hl j
  have hw2 : 0 ≤ w.toInt ∧ w.toInt < 32 := by
    rw [hw]
    by_cases g : j < m
    · rw [if_pos g]; have := hl j g; omega
    · rw [if_neg g]; omega
  have h32 : (32 : Int) ^ j ≤ 33554432 := by
    rcases (show j = 0 ∨ j = 1 ∨ j = 2 ∨ j = 3 ∨ j = 4 ∨ j = 5 by omega) with rfl | rfl | rfl | rfl | rfl | rfl <;> decide
  have e := x_sh5 hx hb.1 (by omega)
  rw [x_pr, ← hw]
  exact x_or (k := 5) (q := (x_pr t a m j).toNat) e rfl (by omega) (by omega) (by omega) (by omega)
end XP
/-- the reference's words, one after the other -/
noncomputable def x_w79 : List Int32 := [104, 111, 108, 101, 115, 32, 102, 105, 101, 108, 100, 32, 119, 111, 114, 100, 32, 111, 110, 101, 32, 115, 117, 109, 115, 32, 112, 97, 105, 114, 115, 32, 108, 97, 105, 100, 32, 112, 97, 115, 115, 32, 116, 111, 32, 98, 121, 32, 106, 111, 105, 110, 32, 97, 103, 97, 105, 110, 32, 97, 110, 100, 32, 111, 114, 32, 110, 111, 116, 32]
noncomputable def x_w (i : Nat) : Int := (x_w79.getD i 0).toInt
noncomputable def x_off (k : Int) : Int := if k = 0 then 0 else if k = 1 then 6 else if k = 2 then 12 else if k = 3 then 17 else if k = 4 then 21 else if k = 5 then 26 else if k = 6 then 32 else if k = 7 then 37 else if k = 8 then 42 else if k = 9 then 45 else if k = 10 then 48 else if k = 11 then 53 else if k = 12 then 59 else if k = 13 then 63 else if k = 14 then 66 else 70
noncomputable def x_len (k : Int) : Int := if k = 0 then 5 else if k = 1 then 5 else if k = 2 then 4 else if k = 3 then 3 else if k = 4 then 4 else if k = 5 then 5 else if k = 6 then 4 else if k = 7 then 4 else if k = 8 then 2 else if k = 9 then 2 else if k = 10 then 4 else if k = 11 then 5 else if k = 12 then 3 else if k = 13 then 2 else if k = 14 then 3 else 0
theorem x_off_s : ∀ k : Fin 15, x_off (k.val + 1) = x_off k.val + x_len k.val + 1 ∧ 2 ≤ x_len k.val ∧ x_len k.val ≤ 5 ∧ 0 ≤ x_off k.val ∧ x_off k.val + x_len k.val ≤ 69 ∧ x_w (x_off k.val + x_len k.val).toNat = 32 ∧ ∀ j : Fin 5, (j.val : Int) < x_len k.val → x_w (x_off k.val + (j.val : Int)).toNat ≠ 32 := by decide +kernel
/-- the letters from a to b are word k -/
noncomputable def x_m (t : Nat → Int) (a b k : Int) : Prop := x_len k = b - a ∧ ∀ j : Nat, (j : Int) < x_len k → x_w (x_off k + j).toNat = t (a + j).toNat
theorem x_m_pk {t : Nat → Int} {a b k : Int} (h0 : 0 ≤ a) (hk0 : 0 ≤ k) (hk : k ≤ 14) (h : x_m t a b k) : b - a ≤ 6 ∧ x_kx (x_pk t a.toNat (b - a).toNat) = k := by
  obtain ⟨h1, h2⟩ := h
  have key : ∀ (l : Nat), x_len k = (l : Int) → ∀ j : Nat, j < l → t (a.toNat + j) = x_w (x_off k + j).toNat := fun l hl j hj => by
    rw [h2 j (by omega)]
    congr 1
    omega
  rcases (show k = 0 ∨ k = 1 ∨ k = 2 ∨ k = 3 ∨ k = 4 ∨ k = 5 ∨ k = 6 ∨ k = 7 ∨ k = 8 ∨ k = 9 ∨ k = 10 ∨ k = 11 ∨ k = 12 ∨ k = 13 ∨ k = 14 by omega) with
    rfl | rfl | rfl | rfl | rfl | rfl | rfl | rfl | rfl | rfl | rfl | rfl | rfl | rfl | rfl
  all_goals
    first
    | (have e : b - a = 2 := by rw [← h1]; rfl
       have k0 := key 2 rfl 0 (by decide); have k1 := key 2 rfl 1 (by decide)
       refine ⟨by omega, ?_⟩
       rw [e, show (2 : Int).toNat = 2 from rfl, x_pk, x_pk, x_pk, k0, k1]; decide +kernel)
    | (have e : b - a = 3 := by rw [← h1]; rfl
       have k0 := key 3 rfl 0 (by decide); have k1 := key 3 rfl 1 (by decide); have k2 := key 3 rfl 2 (by decide)
       refine ⟨by omega, ?_⟩
       rw [e, show (3 : Int).toNat = 3 from rfl, x_pk, x_pk, x_pk, x_pk, k0, k1, k2]; decide +kernel)
    | (have e : b - a = 4 := by rw [← h1]; rfl
       have k0 := key 4 rfl 0 (by decide); have k1 := key 4 rfl 1 (by decide); have k2 := key 4 rfl 2 (by decide); have k3 := key 4 rfl 3 (by decide)
       refine ⟨by omega, ?_⟩
       rw [e, show (4 : Int).toNat = 4 from rfl, x_pk, x_pk, x_pk, x_pk, x_pk, k0, k1, k2, k3]; decide +kernel)
    | (have e : b - a = 5 := by rw [← h1]; rfl
       have k0 := key 5 rfl 0 (by decide); have k1 := key 5 rfl 1 (by decide); have k2 := key 5 rfl 2 (by decide); have k3 := key 5 rfl 3 (by decide); have k4 := key 5 rfl 4 (by decide)
       refine ⟨by omega, ?_⟩
       rw [e, show (5 : Int).toNat = 5 from rfl, x_pk, x_pk, x_pk, x_pk, x_pk, x_pk, k0, k1, k2, k3, k4]; decide +kernel)
theorem x_kx_c {v k : Int} (h : x_kx v = k) (hk : 0 ≤ k) : (k = 0 ∧ v = 284563040) ∨ (k = 1 ∧ v = 210940032) ∨ (k = 2 ∧ v = 788074496) ∨ (k = 3 ∧ v = 518160384) ∨ (k = 4 ∧ v = 659999744) ∨ (k = 5 ∧ v = 538233440) ∨ (k = 6 ∧ v = 404000768) ∨ (k = 7 ∧ v = 538561536) ∨ (k = 8 ∧ v = 686817280) ∨ (k = 9 ∧ v = 93323264) ∨ (k = 10 ∧ v = 351582208) ∨ (k = 11 ∧ v = 40936896) ∨ (k = 12 ∧ v = 48365568) ∨ (k = 13 ∧ v = 522190848) ∨ (k = 14 ∧ v = 486146048) := by
  unfold x_kx at h
  by_cases e0 : v = 284563040
  · rw [if_pos e0] at h; exact Or.inl ⟨h.symm, e0⟩
  rw [if_neg e0] at h
  by_cases e1 : v = 210940032
  · rw [if_pos e1] at h; exact Or.inr (Or.inl ⟨h.symm, e1⟩)
  rw [if_neg e1] at h
  by_cases e2 : v = 788074496
  · rw [if_pos e2] at h; exact Or.inr (Or.inr (Or.inl ⟨h.symm, e2⟩))
  rw [if_neg e2] at h
  by_cases e3 : v = 518160384
  · rw [if_pos e3] at h; exact Or.inr (Or.inr (Or.inr (Or.inl ⟨h.symm, e3⟩)))
  rw [if_neg e3] at h
  by_cases e4 : v = 659999744
  · rw [if_pos e4] at h; exact Or.inr (Or.inr (Or.inr (Or.inr (Or.inl ⟨h.symm, e4⟩))))
  rw [if_neg e4] at h
  by_cases e5 : v = 538233440
  · rw [if_pos e5] at h; exact Or.inr (Or.inr (Or.inr (Or.inr (Or.inr (Or.inl ⟨h.symm, e5⟩)))))
  rw [if_neg e5] at h
  by_cases e6 : v = 404000768
  · rw [if_pos e6] at h; exact Or.inr (Or.inr (Or.inr (Or.inr (Or.inr (Or.inr (Or.inl ⟨h.symm, e6⟩))))))
  rw [if_neg e6] at h
  by_cases e7 : v = 538561536
  · rw [if_pos e7] at h; exact Or.inr (Or.inr (Or.inr (Or.inr (Or.inr (Or.inr (Or.inr (Or.inl ⟨h.symm, e7⟩)))))))
  rw [if_neg e7] at h
  by_cases e8 : v = 686817280
  · rw [if_pos e8] at h; exact Or.inr (Or.inr (Or.inr (Or.inr (Or.inr (Or.inr (Or.inr (Or.inr (Or.inl ⟨h.symm, e8⟩))))))))
  rw [if_neg e8] at h
  by_cases e9 : v = 93323264
  · rw [if_pos e9] at h; exact Or.inr (Or.inr (Or.inr (Or.inr (Or.inr (Or.inr (Or.inr (Or.inr (Or.inr (Or.inl ⟨h.symm, e9⟩)))))))))
  rw [if_neg e9] at h
  by_cases e10 : v = 351582208
  · rw [if_pos e10] at h; exact Or.inr (Or.inr (Or.inr (Or.inr (Or.inr (Or.inr (Or.inr (Or.inr (Or.inr (Or.inr (Or.inl ⟨h.symm, e10⟩))))))))))
  rw [if_neg e10] at h
  by_cases e11 : v = 40936896
  · rw [if_pos e11] at h; exact Or.inr (Or.inr (Or.inr (Or.inr (Or.inr (Or.inr (Or.inr (Or.inr (Or.inr (Or.inr (Or.inr (Or.inl ⟨h.symm, e11⟩)))))))))))
  rw [if_neg e11] at h
  by_cases e12 : v = 48365568
  · rw [if_pos e12] at h; exact Or.inr (Or.inr (Or.inr (Or.inr (Or.inr (Or.inr (Or.inr (Or.inr (Or.inr (Or.inr (Or.inr (Or.inr (Or.inl ⟨h.symm, e12⟩))))))))))))
  rw [if_neg e12] at h
  by_cases e13 : v = 522190848
  · rw [if_pos e13] at h; exact Or.inr (Or.inr (Or.inr (Or.inr (Or.inr (Or.inr (Or.inr (Or.inr (Or.inr (Or.inr (Or.inr (Or.inr (Or.inr (Or.inl ⟨h.symm, e13⟩)))))))))))))
  rw [if_neg e13] at h
  by_cases e14 : v = 486146048
  · rw [if_pos e14] at h; exact Or.inr (Or.inr (Or.inr (Or.inr (Or.inr (Or.inr (Or.inr (Or.inr (Or.inr (Or.inr (Or.inr (Or.inr (Or.inr (Or.inr (⟨h.symm, e14⟩))))))))))))))
  rw [if_neg e14] at h
  exfalso; omega
theorem x_pk_m {t : Nat → Int} {a b : Int} (h0 : 0 ≤ a) (hab : a < b) (h6 : b - a ≤ 6) (hl : ∀ j : Nat, (j : Int) < b - a → 97 ≤ t (a.toNat + j) ∧ t (a.toNat + j) ≤ 122) (hk : 0 ≤ x_kx (x_pk t a.toNat (b - a).toNat)) : x_m t a b (x_kx (x_pk t a.toNat (b - a).toNat)) := by
  generalize hx : x_kx (x_pk t a.toNat (b - a).toNat) = k at hk ⊢
  have hc := x_kx_c hx hk
  clear hx
  have fin : ∀ (l : Nat), x_len k = (l : Int) → b - a = (l : Int) → (∀ j : Nat, j < l → x_w (x_off k + j).toNat = t (a.toNat + j)) → x_m t a b k := fun l e1 e2 h => ⟨by omega, fun j hj => by rw [h j (by omega)]; congr 1; omega⟩
  rcases (show b - a = 1 ∨ b - a = 2 ∨ b - a = 3 ∨ b - a = 4 ∨ b - a = 5 ∨ b - a = 6 by omega) with e | e | e | e | e | e
  · have l0 := hl 0 (by omega)
    rw [e, show (1 : Int).toNat = 1 from rfl, x_pk, x_pk] at hc
    generalize h90 : t (a.toNat + 0) = c0 at hc l0
    have w0 : x_pw 0 = 33554432 := rfl; have w1 : x_pw 1 = 1048576 := rfl; have w2 : x_pw 2 = 32768 := rfl; have w3 : x_pw 3 = 1024 := rfl; have w4 : x_pw 4 = 32 := rfl; have w5 : x_pw 5 = 1 := rfl
    rw [w0] at hc
    clear fin hl
    rcases hc with ⟨rfl, hv⟩ | ⟨rfl, hv⟩ | ⟨rfl, hv⟩ | ⟨rfl, hv⟩ | ⟨rfl, hv⟩ | ⟨rfl, hv⟩ | ⟨rfl, hv⟩ | ⟨rfl, hv⟩ | ⟨rfl, hv⟩ | ⟨rfl, hv⟩ | ⟨rfl, hv⟩ | ⟨rfl, hv⟩ | ⟨rfl, hv⟩ | ⟨rfl, hv⟩ | ⟨rfl, hv⟩
    · exfalso; omega
    · exfalso; omega
    · exfalso; omega
    · exfalso; omega
    · exfalso; omega
    · exfalso; omega
    · exfalso; omega
    · exfalso; omega
    · exfalso; omega
    · exfalso; omega
    · exfalso; omega
    · exfalso; omega
    · exfalso; omega
    · exfalso; omega
    · exfalso; omega
  · have l0 := hl 0 (by omega); have l1 := hl 1 (by omega)
    rw [e, show (2 : Int).toNat = 2 from rfl, x_pk, x_pk, x_pk] at hc
    generalize h90 : t (a.toNat + 0) = c0 at hc l0; generalize h91 : t (a.toNat + 1) = c1 at hc l1
    have w0 : x_pw 0 = 33554432 := rfl; have w1 : x_pw 1 = 1048576 := rfl; have w2 : x_pw 2 = 32768 := rfl; have w3 : x_pw 3 = 1024 := rfl; have w4 : x_pw 4 = 32 := rfl; have w5 : x_pw 5 = 1 := rfl
    rw [w0, w1] at hc
    clear hl
    rcases hc with ⟨rfl, hv⟩ | ⟨rfl, hv⟩ | ⟨rfl, hv⟩ | ⟨rfl, hv⟩ | ⟨rfl, hv⟩ | ⟨rfl, hv⟩ | ⟨rfl, hv⟩ | ⟨rfl, hv⟩ | ⟨rfl, hv⟩ | ⟨rfl, hv⟩ | ⟨rfl, hv⟩ | ⟨rfl, hv⟩ | ⟨rfl, hv⟩ | ⟨rfl, hv⟩ | ⟨rfl, hv⟩
    · exfalso; omega
    · exfalso; omega
    · exfalso; omega
    · exfalso; omega
    · exfalso; omega
    · exfalso; omega
    · exfalso; omega
    · exfalso; omega
    · have z0 : c0 = 116 := (by omega); have z1 : c1 = 111 := (by omega)
      refine fin 2 rfl e (fun j hj => ?_)
      rcases (show j = 0 ∨ j = 1 by omega) with rfl | rfl
      · rw [h90, z0]; decide +kernel
      · rw [h91, z1]; decide +kernel
    · have z0 : c0 = 98 := (by omega); have z1 : c1 = 121 := (by omega)
      refine fin 2 rfl e (fun j hj => ?_)
      rcases (show j = 0 ∨ j = 1 by omega) with rfl | rfl
      · rw [h90, z0]; decide +kernel
      · rw [h91, z1]; decide +kernel
    · exfalso; omega
    · exfalso; omega
    · exfalso; omega
    · have z0 : c0 = 111 := (by omega); have z1 : c1 = 114 := (by omega)
      refine fin 2 rfl e (fun j hj => ?_)
      rcases (show j = 0 ∨ j = 1 by omega) with rfl | rfl
      · rw [h90, z0]; decide +kernel
      · rw [h91, z1]; decide +kernel
    · exfalso; omega
  · have l0 := hl 0 (by omega); have l1 := hl 1 (by omega); have l2 := hl 2 (by omega)
    rw [e, show (3 : Int).toNat = 3 from rfl, x_pk, x_pk, x_pk, x_pk] at hc
    generalize h90 : t (a.toNat + 0) = c0 at hc l0; generalize h91 : t (a.toNat + 1) = c1 at hc l1; generalize h92 : t (a.toNat + 2) = c2 at hc l2
    have w0 : x_pw 0 = 33554432 := rfl; have w1 : x_pw 1 = 1048576 := rfl; have w2 : x_pw 2 = 32768 := rfl; have w3 : x_pw 3 = 1024 := rfl; have w4 : x_pw 4 = 32 := rfl; have w5 : x_pw 5 = 1 := rfl
    rw [w0, w1, w2] at hc
    clear hl
    rcases hc with ⟨rfl, hv⟩ | ⟨rfl, hv⟩ | ⟨rfl, hv⟩ | ⟨rfl, hv⟩ | ⟨rfl, hv⟩ | ⟨rfl, hv⟩ | ⟨rfl, hv⟩ | ⟨rfl, hv⟩ | ⟨rfl, hv⟩ | ⟨rfl, hv⟩ | ⟨rfl, hv⟩ | ⟨rfl, hv⟩ | ⟨rfl, hv⟩ | ⟨rfl, hv⟩ | ⟨rfl, hv⟩
    · exfalso; omega
    · exfalso; omega
    · exfalso; omega
    · have z0 : c0 = 111 := (by omega); have z1 : c1 = 110 := (by omega); have z2 : c2 = 101 := (by omega)
      refine fin 3 rfl e (fun j hj => ?_)
      rcases (show j = 0 ∨ j = 1 ∨ j = 2 by omega) with rfl | rfl | rfl
      · rw [h90, z0]; decide +kernel
      · rw [h91, z1]; decide +kernel
      · rw [h92, z2]; decide +kernel
    · exfalso; omega
    · exfalso; omega
    · exfalso; omega
    · exfalso; omega
    · exfalso; omega
    · exfalso; omega
    · exfalso; omega
    · exfalso; omega
    · have z0 : c0 = 97 := (by omega); have z1 : c1 = 110 := (by omega); have z2 : c2 = 100 := (by omega)
      refine fin 3 rfl e (fun j hj => ?_)
      rcases (show j = 0 ∨ j = 1 ∨ j = 2 by omega) with rfl | rfl | rfl
      · rw [h90, z0]; decide +kernel
      · rw [h91, z1]; decide +kernel
      · rw [h92, z2]; decide +kernel
    · exfalso; omega
    · have z0 : c0 = 110 := (by omega); have z1 : c1 = 111 := (by omega); have z2 : c2 = 116 := (by omega)
      refine fin 3 rfl e (fun j hj => ?_)
      rcases (show j = 0 ∨ j = 1 ∨ j = 2 by omega) with rfl | rfl | rfl
      · rw [h90, z0]; decide +kernel
      · rw [h91, z1]; decide +kernel
      · rw [h92, z2]; decide +kernel
  · have l0 := hl 0 (by omega); have l1 := hl 1 (by omega); have l2 := hl 2 (by omega); have l3 := hl 3 (by omega)
    rw [e, show (4 : Int).toNat = 4 from rfl, x_pk, x_pk, x_pk, x_pk, x_pk] at hc
    generalize h90 : t (a.toNat + 0) = c0 at hc l0; generalize h91 : t (a.toNat + 1) = c1 at hc l1; generalize h92 : t (a.toNat + 2) = c2 at hc l2; generalize h93 : t (a.toNat + 3) = c3 at hc l3
    have w0 : x_pw 0 = 33554432 := rfl; have w1 : x_pw 1 = 1048576 := rfl; have w2 : x_pw 2 = 32768 := rfl; have w3 : x_pw 3 = 1024 := rfl; have w4 : x_pw 4 = 32 := rfl; have w5 : x_pw 5 = 1 := rfl
    rw [w0, w1, w2, w3] at hc
    clear hl
    rcases hc with ⟨rfl, hv⟩ | ⟨rfl, hv⟩ | ⟨rfl, hv⟩ | ⟨rfl, hv⟩ | ⟨rfl, hv⟩ | ⟨rfl, hv⟩ | ⟨rfl, hv⟩ | ⟨rfl, hv⟩ | ⟨rfl, hv⟩ | ⟨rfl, hv⟩ | ⟨rfl, hv⟩ | ⟨rfl, hv⟩ | ⟨rfl, hv⟩ | ⟨rfl, hv⟩ | ⟨rfl, hv⟩
    · exfalso; omega
    · exfalso; omega
    · have z0 : c0 = 119 := (by omega); have z1 : c1 = 111 := (by omega); have z2 : c2 = 114 := (by omega); have z3 : c3 = 100 := (by omega)
      refine fin 4 rfl e (fun j hj => ?_)
      rcases (show j = 0 ∨ j = 1 ∨ j = 2 ∨ j = 3 by omega) with rfl | rfl | rfl | rfl
      · rw [h90, z0]; decide +kernel
      · rw [h91, z1]; decide +kernel
      · rw [h92, z2]; decide +kernel
      · rw [h93, z3]; decide +kernel
    · exfalso; omega
    · have z0 : c0 = 115 := (by omega); have z1 : c1 = 117 := (by omega); have z2 : c2 = 109 := (by omega); have z3 : c3 = 115 := (by omega)
      refine fin 4 rfl e (fun j hj => ?_)
      rcases (show j = 0 ∨ j = 1 ∨ j = 2 ∨ j = 3 by omega) with rfl | rfl | rfl | rfl
      · rw [h90, z0]; decide +kernel
      · rw [h91, z1]; decide +kernel
      · rw [h92, z2]; decide +kernel
      · rw [h93, z3]; decide +kernel
    · exfalso; omega
    · have z0 : c0 = 108 := (by omega); have z1 : c1 = 97 := (by omega); have z2 : c2 = 105 := (by omega); have z3 : c3 = 100 := (by omega)
      refine fin 4 rfl e (fun j hj => ?_)
      rcases (show j = 0 ∨ j = 1 ∨ j = 2 ∨ j = 3 by omega) with rfl | rfl | rfl | rfl
      · rw [h90, z0]; decide +kernel
      · rw [h91, z1]; decide +kernel
      · rw [h92, z2]; decide +kernel
      · rw [h93, z3]; decide +kernel
    · have z0 : c0 = 112 := (by omega); have z1 : c1 = 97 := (by omega); have z2 : c2 = 115 := (by omega); have z3 : c3 = 115 := (by omega)
      refine fin 4 rfl e (fun j hj => ?_)
      rcases (show j = 0 ∨ j = 1 ∨ j = 2 ∨ j = 3 by omega) with rfl | rfl | rfl | rfl
      · rw [h90, z0]; decide +kernel
      · rw [h91, z1]; decide +kernel
      · rw [h92, z2]; decide +kernel
      · rw [h93, z3]; decide +kernel
    · exfalso; omega
    · exfalso; omega
    · have z0 : c0 = 106 := (by omega); have z1 : c1 = 111 := (by omega); have z2 : c2 = 105 := (by omega); have z3 : c3 = 110 := (by omega)
      refine fin 4 rfl e (fun j hj => ?_)
      rcases (show j = 0 ∨ j = 1 ∨ j = 2 ∨ j = 3 by omega) with rfl | rfl | rfl | rfl
      · rw [h90, z0]; decide +kernel
      · rw [h91, z1]; decide +kernel
      · rw [h92, z2]; decide +kernel
      · rw [h93, z3]; decide +kernel
    · exfalso; omega
    · exfalso; omega
    · exfalso; omega
    · exfalso; omega
  · have l0 := hl 0 (by omega); have l1 := hl 1 (by omega); have l2 := hl 2 (by omega); have l3 := hl 3 (by omega); have l4 := hl 4 (by omega)
    rw [e, show (5 : Int).toNat = 5 from rfl, x_pk, x_pk, x_pk, x_pk, x_pk, x_pk] at hc
    generalize h90 : t (a.toNat + 0) = c0 at hc l0; generalize h91 : t (a.toNat + 1) = c1 at hc l1; generalize h92 : t (a.toNat + 2) = c2 at hc l2; generalize h93 : t (a.toNat + 3) = c3 at hc l3; generalize h94 : t (a.toNat + 4) = c4 at hc l4
    have w0 : x_pw 0 = 33554432 := rfl; have w1 : x_pw 1 = 1048576 := rfl; have w2 : x_pw 2 = 32768 := rfl; have w3 : x_pw 3 = 1024 := rfl; have w4 : x_pw 4 = 32 := rfl; have w5 : x_pw 5 = 1 := rfl
    rw [w0, w1, w2, w3, w4] at hc
    clear hl
    rcases hc with ⟨rfl, hv⟩ | ⟨rfl, hv⟩ | ⟨rfl, hv⟩ | ⟨rfl, hv⟩ | ⟨rfl, hv⟩ | ⟨rfl, hv⟩ | ⟨rfl, hv⟩ | ⟨rfl, hv⟩ | ⟨rfl, hv⟩ | ⟨rfl, hv⟩ | ⟨rfl, hv⟩ | ⟨rfl, hv⟩ | ⟨rfl, hv⟩ | ⟨rfl, hv⟩ | ⟨rfl, hv⟩
    · have z0 : c0 = 104 := (by omega); have z1 : c1 = 111 := (by omega); have z2 : c2 = 108 := (by omega); have z3 : c3 = 101 := (by omega); have z4 : c4 = 115 := (by omega)
      refine fin 5 rfl e (fun j hj => ?_)
      rcases (show j = 0 ∨ j = 1 ∨ j = 2 ∨ j = 3 ∨ j = 4 by omega) with rfl | rfl | rfl | rfl | rfl
      · rw [h90, z0]; decide +kernel
      · rw [h91, z1]; decide +kernel
      · rw [h92, z2]; decide +kernel
      · rw [h93, z3]; decide +kernel
      · rw [h94, z4]; decide +kernel
    · have z0 : c0 = 102 := (by omega); have z1 : c1 = 105 := (by omega); have z2 : c2 = 101 := (by omega); have z3 : c3 = 108 := (by omega); have z4 : c4 = 100 := (by omega)
      refine fin 5 rfl e (fun j hj => ?_)
      rcases (show j = 0 ∨ j = 1 ∨ j = 2 ∨ j = 3 ∨ j = 4 by omega) with rfl | rfl | rfl | rfl | rfl
      · rw [h90, z0]; decide +kernel
      · rw [h91, z1]; decide +kernel
      · rw [h92, z2]; decide +kernel
      · rw [h93, z3]; decide +kernel
      · rw [h94, z4]; decide +kernel
    · exfalso; omega
    · exfalso; omega
    · exfalso; omega
    · have z0 : c0 = 112 := (by omega); have z1 : c1 = 97 := (by omega); have z2 : c2 = 105 := (by omega); have z3 : c3 = 114 := (by omega); have z4 : c4 = 115 := (by omega)
      refine fin 5 rfl e (fun j hj => ?_)
      rcases (show j = 0 ∨ j = 1 ∨ j = 2 ∨ j = 3 ∨ j = 4 by omega) with rfl | rfl | rfl | rfl | rfl
      · rw [h90, z0]; decide +kernel
      · rw [h91, z1]; decide +kernel
      · rw [h92, z2]; decide +kernel
      · rw [h93, z3]; decide +kernel
      · rw [h94, z4]; decide +kernel
    · exfalso; omega
    · exfalso; omega
    · exfalso; omega
    · exfalso; omega
    · exfalso; omega
    · have z0 : c0 = 97 := (by omega); have z1 : c1 = 103 := (by omega); have z2 : c2 = 97 := (by omega); have z3 : c3 = 105 := (by omega); have z4 : c4 = 110 := (by omega)
      refine fin 5 rfl e (fun j hj => ?_)
      rcases (show j = 0 ∨ j = 1 ∨ j = 2 ∨ j = 3 ∨ j = 4 by omega) with rfl | rfl | rfl | rfl | rfl
      · rw [h90, z0]; decide +kernel
      · rw [h91, z1]; decide +kernel
      · rw [h92, z2]; decide +kernel
      · rw [h93, z3]; decide +kernel
      · rw [h94, z4]; decide +kernel
    · exfalso; omega
    · exfalso; omega
    · exfalso; omega
  · have l0 := hl 0 (by omega); have l1 := hl 1 (by omega); have l2 := hl 2 (by omega); have l3 := hl 3 (by omega); have l4 := hl 4 (by omega); have l5 := hl 5 (by omega)
    rw [e, show (6 : Int).toNat = 6 from rfl, x_pk, x_pk, x_pk, x_pk, x_pk, x_pk, x_pk] at hc
    generalize h90 : t (a.toNat + 0) = c0 at hc l0; generalize h91 : t (a.toNat + 1) = c1 at hc l1; generalize h92 : t (a.toNat + 2) = c2 at hc l2; generalize h93 : t (a.toNat + 3) = c3 at hc l3; generalize h94 : t (a.toNat + 4) = c4 at hc l4; generalize h95 : t (a.toNat + 5) = c5 at hc l5
    have w0 : x_pw 0 = 33554432 := rfl; have w1 : x_pw 1 = 1048576 := rfl; have w2 : x_pw 2 = 32768 := rfl; have w3 : x_pw 3 = 1024 := rfl; have w4 : x_pw 4 = 32 := rfl; have w5 : x_pw 5 = 1 := rfl
    rw [w0, w1, w2, w3, w4, w5] at hc
    clear fin hl
    rcases hc with ⟨rfl, hv⟩ | ⟨rfl, hv⟩ | ⟨rfl, hv⟩ | ⟨rfl, hv⟩ | ⟨rfl, hv⟩ | ⟨rfl, hv⟩ | ⟨rfl, hv⟩ | ⟨rfl, hv⟩ | ⟨rfl, hv⟩ | ⟨rfl, hv⟩ | ⟨rfl, hv⟩ | ⟨rfl, hv⟩ | ⟨rfl, hv⟩ | ⟨rfl, hv⟩ | ⟨rfl, hv⟩
    · exfalso; omega
    · exfalso; omega
    · exfalso; omega
    · exfalso; omega
    · exfalso; omega
    · exfalso; omega
    · exfalso; omega
    · exfalso; omega
    · exfalso; omega
    · exfalso; omega
    · exfalso; omega
    · exfalso; omega
    · exfalso; omega
    · exfalso; omega
    · exfalso; omega
/-! THE PLAN'S LINES, read from tokens -/
noncomputable def x_eq (x y : Int64) : Int := if x = y then 1 else 0
theorem x_eq_b {x y : Int64} : 0 ≤ x_eq x y ∧ x_eq x y ≤ 1 := by unfold x_eq; split <;> omega
theorem x_eq_1 {x y : Int64} : x_eq x y = 1 ↔ x = y := by
  unfold x_eq
  by_cases h : x = y
  · rw [if_pos h]; exact ⟨fun _ => h, fun _ => rfl⟩
  · rw [if_neg h]; exact ⟨fun z => by omega, fun z => absurd z h⟩
noncomputable def x_sh (h : Int) : Int64 := (Int32.ofInt h).toInt64 &&& 63
noncomputable def x_bit (h : Int) : Int64 := (1 : Int64) <<< x_sh h
noncomputable def x_bw (a b : Int) : Int64 := (((1 : Int64) <<< x_sh (b - a + 1)) - 1) <<< x_sh a
noncomputable def x_bwr : Nat → Int64 → Nat → Int64
  | 0, acc, _ => acc
  | n + 1, acc, h => x_bwr n (acc ||| x_bit h) (h + 1)
theorem x_bw_60 : ∀ a : Fin 60, ∀ b : Fin 60, a.val ≤ b.val → x_bwr (b.val + 1 - a.val) 0 a.val = x_bw a.val b.val := by decide +kernel
theorem x_sh_e {v : Int32} {h : Int} (e : v.toInt = h) : v.toInt64 &&& 63 = x_sh h := by
  unfold x_sh
  rw [← e, Int32.ofInt_toInt]
/-- a plan: holes, how many fields, how many words, holes taken, rows (1 names, 2 kinds, 3 first, 4 last holes, 5 choices; 6 words, 7 their fields) -/
abbrev x_S : Type := Int × Int × Int × Int64 × (Nat → Nat → Int)
noncomputable def x_find (g : Nat → Int) (v : Int) : Nat → Nat → Int
  | 0, _ => -1
  | n + 1, k => if g k = v then (k : Int) else x_find g v n (k + 1)
noncomputable def x_fn (s : x_S) (r : Nat) (v : Int) : Int := x_find (s.2.2.2.2 r) v (if r ≤ 5 then s.2.1 else s.2.2.1).toNat 0
noncomputable def x_row (s : x_S) (r : Nat) (k : Int) : Int := s.2.2.2.2 r k.toNat
noncomputable def x_push (s : x_S) (nm kd f l c : Int) : x_S := (s.1, s.2.1 + 1, s.2.2.1, s.2.2.2.1 ||| x_bw f l, fun r k => if r ≤ 5 ∧ (k : Int) = s.2.1 then (if r = 1 then nm else if r = 2 then kd else if r = 3 then f else if r = 4 then l else c) else s.2.2.2.2 r k)
noncomputable def x_pushw (s : x_S) (nm f b : Int) : x_S := (s.1, s.2.1, s.2.2.1 + 1, s.2.2.2.1, fun r k => if 6 ≤ r ∧ (k : Int) = s.2.2.1 then (if r = 6 then nm else if r = 7 then f else b) else s.2.2.2.2 r k)
noncomputable def x_free (s : x_S) (f l : Int) : Int := x_eq (s.2.2.2.1 &&& x_bw f l) 0
abbrev x_Res : Type := Option (Int × x_S)
abbrev x_K : Type := Int → x_S → x_Res
section XP
variable (t : Nat → Int) (nn : Int)
noncomputable def x_holes (s : x_S) (a : Int) (k : x_K) : x_Res := if x_kind t nn a = 3 ∧ 10 ≤ x_val t nn a ∧ x_val t nn a ≤ 60 then k (x_ns t nn a) (x_val t nn a, s.2) else none
noncomputable def x_fc (s : x_S) (nm f l a : Int) (k : x_K) : x_Res := if x_kind t nn a = 3 ∧ 1 ≤ x_val t nn a ∧ x_val t nn a ≤ 4 ∧ x_val t nn a ≤ l - f + 1 then k (x_ns t nn a) (x_push s nm 3 f l (x_val t nn a)) else none
noncomputable def x_fm (s : x_S) (nm kd f a : Int) (k : x_K) : x_Res := if x_kind t nn a = 3 ∧ f ≤ x_val t nn a ∧ (kd = 0 → f + 1 ≤ x_val t nn a) ∧ x_val t nn a ≤ s.1 - 1 ∧ x_val t nn a ≤ f + 23 ∧ x_free s f (x_val t nn a) = 1 then (if kd = 0 then k (x_ns t nn a) (x_push s nm 0 f (x_val t nn a) (x_val t nn a - f + 1)) else x_fc t nn s nm f (x_val t nn a) (x_ns t nn a) k) else none
noncomputable def x_fl (s : x_S) (nm kd a : Int) (k : x_K) : x_Res := if x_kind t nn a = 3 ∧ x_val t nn a ≤ s.1 - 1 ∧ x_free s (x_val t nn a) (x_val t nn a) = 1 then x_fm t nn s nm kd (x_val t nn a) (x_ns t nn a) k else none
noncomputable def x_fd (s : x_S) (nm kd a : Int) (k : x_K) : x_Res := if x_kind t nn a = 3 ∧ x_val t nn a ≤ s.1 - (kd + 3) ∧ x_free s (x_val t nn a) (x_val t nn a + (kd + 2)) = 1 then k (x_ns t nn a) (x_push s nm kd (x_val t nn a) (x_val t nn a + (kd + 2)) 10) else none
noncomputable def x_fs (s : x_S) (nm kd a : Int) (k : x_K) : x_Res := if kd = 1 ∨ kd = 2 then x_fd t nn s nm kd a k else x_fl t nn s nm kd a k
noncomputable def x_fk (s : x_S) (nm a : Int) (k : x_K) : x_Res := if x_kind t nn a = 1 ∧ 3 ≤ x_kx (x_val t nn a) ∧ x_kx (x_val t nn a) ≤ 6 then x_fs t nn s nm (x_kx (x_val t nn a) - 3) (x_ns t nn a) k else none
noncomputable def x_nw (s : x_S) (a : Int) : Prop := x_kind t nn a = 2 ∧ x_fn s 1 (x_val t nn a) = -1 ∧ x_fn s 6 (x_val t nn a) = -1
noncomputable def x_field (s : x_S) (a : Int) (k : x_K) : x_Res := if s.2.1 < 8 ∧ x_kind t nn a = 2 ∧ x_fn s 1 (x_val t nn a) = -1 ∧ x_fn s 6 (x_val t nn a) = -1 then x_fk t nn s (x_val t nn a) (x_ns t nn a) k else none
noncomputable def x_hit (bits : Int64) (h : Int) : Int := x_eq (bits &&& x_bit h) 0
noncomputable def x_rc (s : x_S) (f nm : Int) (k : x_K) : Nat → Int → Int64 → Int → x_Res
  | 0, _, _, _ => none
  | fu + 1, told, bits, a => if x_kind t nn a = 3 then (if told < x_row s 5 f ∧ x_val t nn a ≤ x_row s 4 f - x_row s 3 f ∧ x_hit bits (x_row s 3 f + x_val t nn a) = 1 then x_rc s f nm k fu (told + 1) (bits ||| x_bit (x_row s 3 f + x_val t nn a)) (x_ns t nn a) else none) else if told = x_row s 5 f then k a (x_pushw s nm f bits.toInt) else none
noncomputable def x_wn (s : x_S) (f a : Int) (k : x_K) : x_Res := if x_kind t nn a = 2 ∧ x_fn s 1 (x_val t nn a) = -1 ∧ x_fn s 6 (x_val t nn a) = -1 then x_rc t nn s f (x_val t nn a) k 6 0 0 (x_ns t nn a) else none
noncomputable def x_word (s : x_S) (a : Int) (k : x_K) : x_Res := if s.2.2.1 < 12 ∧ x_kind t nn a = 2 ∧ 0 ≤ x_fn s 1 (x_val t nn a) ∧ x_row s 2 (x_fn s 1 (x_val t nn a)) = 3 then x_wn t nn s (x_fn s 1 (x_val t nn a)) (x_ns t nn a) k else none
noncomputable def x_line (L : Int) (s : x_S) (a : Int) (k : x_K) : x_Res := if x_kind t nn a = 1 ∧ x_kx (x_val t nn a) = 0 ∧ L = 0 then x_holes t nn s (x_ns t nn a) k else if x_kind t nn a = 1 ∧ x_kx (x_val t nn a) = 1 ∧ 0 < L then x_field t nn s (x_ns t nn a) k else if x_kind t nn a = 1 ∧ x_kx (x_val t nn a) = 2 ∧ 0 < L then x_word t nn s (x_ns t nn a) k else none
noncomputable def x_plan : Nat → Int → x_S → Int → x_Res
  | 0, _, _, _ => none
  | fu + 1, L, s, a => if x_kind t nn a = 0 then some (L, s) else x_line t nn L s a (fun a2 s2 => if x_kind t nn a2 = 4 ∧ x_val t nn a2 = 59 then x_plan fu (L + 1) s2 (x_ns t nn a2) else none)
end XP
noncomputable def x_s0 : x_S := (10, 0, 0, 0, fun _ _ => 0)
/-- what holds of a plan that is read -/
noncomputable def x_G (s : x_S) : Prop := 10 ≤ s.1 ∧ s.1 ≤ 60 ∧ 0 ≤ s.2.1 ∧ s.2.1 ≤ 8 ∧ 0 ≤ s.2.2.1 ∧ s.2.2.1 ≤ 12 ∧ (∀ k : Int, 0 ≤ k → k < s.2.2.1 → 0 ≤ x_row s 7 k ∧ x_row s 7 k < s.2.1 ∧ x_row s 2 (x_row s 7 k) = 3) ∧ ∀ k : Int, 0 ≤ k → k < s.2.1 → 0 ≤ x_row s 2 k ∧ x_row s 2 k ≤ 3 ∧ 0 ≤ x_row s 3 k ∧ x_row s 3 k ≤ x_row s 4 k ∧ x_row s 4 k ≤ 59 ∧ x_row s 4 k - x_row s 3 k ≤ 23 ∧ 1 ≤ x_row s 5 k ∧ x_row s 5 k ≤ 24 ∧ (x_row s 2 k = 3 → x_row s 5 k ≤ 4)
theorem x_find_b {g : Nat → Int} {v : Int} : ∀ n k, -1 ≤ x_find g v n k ∧ (x_find g v n k < (k : Int) + n)
  | 0, k => by rw [x_find]; omega
  | n + 1, k => by
    have := x_find_b (g := g) (v := v) n (k + 1)
    rw [x_find]
    split <;> omega
theorem x_fn_b {s : x_S} {v : Int} (h : x_G s) : -1 ≤ x_fn s 1 v ∧ x_fn s 1 v < 8 ∧ (0 ≤ x_fn s 1 v → x_fn s 1 v < s.2.1) := by
  have := x_find_b (g := s.2.2.2.2 1) (v := v) (if 1 ≤ 5 then s.2.1 else s.2.2.1).toNat 0
  rw [if_pos (by decide)] at this
  have h2 := h.2.2.1
  have h3 := h.2.2.2.1
  unfold x_fn
  rw [if_pos (by decide)]
  omega
theorem x_find_go {g : Nat → Int} {v : Int} {n k : Nat} (h : g k ≠ v) : x_find g v (n + 1) k = x_find g v n (k + 1) := by rw [x_find, if_neg h]
theorem x_find_at {g : Nat → Int} {v : Int} {n k : Nat} (h : g k = v) : x_find g v (n + 1) k = (k : Int) := by rw [x_find, if_pos h]
theorem x_bw_r {a b : Int} (h0 : 0 ≤ a) (h1 : a ≤ b) (h2 : b ≤ 59) : x_bwr (b + 1 - a).toNat 0 a.toNat = x_bw a b := by
  have := x_bw_60 ⟨a.toNat, by omega⟩ ⟨b.toNat, by omega⟩ (by show a.toNat ≤ b.toNat; omega)
  have e1 : ((a.toNat : Nat) : Int) = a := by omega
  have e2 : ((b.toNat : Nat) : Int) = b := by omega
  have e3 : b.toNat + 1 - a.toNat = (b + 1 - a).toNat := by omega
  simp only [e1, e2, e3] at this
  exact this
/-- a line of a field can be read: a is its name's place -/
noncomputable def x_fC (t : Nat → Int) (nn : Int) (s : x_S) (a : Int) : Prop := s.2.1 < 8 ∧ x_kind t nn a = 2 ∧ x_fn s 1 (x_val t nn a) = -1 ∧ x_fn s 6 (x_val t nn a) = -1 ∧ x_kind t nn (x_ns t nn a) = 1 ∧ 3 ≤ x_kx (x_val t nn (x_ns t nn a)) ∧ x_kx (x_val t nn (x_ns t nn a)) ≤ 6 ∧ x_kind t nn (x_ns t nn (x_ns t nn a)) = 3 ∧ (x_kx (x_val t nn (x_ns t nn a)) = 4 ∨ x_kx (x_val t nn (x_ns t nn a)) = 5 → x_val t nn (x_ns t nn (x_ns t nn a)) ≤ s.1 - x_kx (x_val t nn (x_ns t nn a)) ∧ x_free s (x_val t nn (x_ns t nn (x_ns t nn a))) (x_val t nn (x_ns t nn (x_ns t nn a)) + (x_kx (x_val t nn (x_ns t nn a)) - 1)) = 1) ∧ (x_kx (x_val t nn (x_ns t nn a)) = 3 ∨ x_kx (x_val t nn (x_ns t nn a)) = 6 → x_val t nn (x_ns t nn (x_ns t nn a)) ≤ s.1 - 1 ∧ x_free s (x_val t nn (x_ns t nn (x_ns t nn a))) (x_val t nn (x_ns t nn (x_ns t nn a))) = 1 ∧ x_kind t nn (x_ns t nn (x_ns t nn (x_ns t nn a))) = 3 ∧ x_val t nn (x_ns t nn (x_ns t nn a)) ≤ x_val t nn (x_ns t nn (x_ns t nn (x_ns t nn a))) ∧ (x_kx (x_val t nn (x_ns t nn a)) = 3 → x_val t nn (x_ns t nn (x_ns t nn a)) + 1 ≤ x_val t nn (x_ns t nn (x_ns t nn (x_ns t nn a)))) ∧ x_val t nn (x_ns t nn (x_ns t nn (x_ns t nn a))) ≤ s.1 - 1 ∧ x_val t nn (x_ns t nn (x_ns t nn (x_ns t nn a))) ≤ x_val t nn (x_ns t nn (x_ns t nn a)) + 23 ∧ x_free s (x_val t nn (x_ns t nn (x_ns t nn a))) (x_val t nn (x_ns t nn (x_ns t nn (x_ns t nn a)))) = 1) ∧ (x_kx (x_val t nn (x_ns t nn a)) = 6 → x_kind t nn (x_ns t nn (x_ns t nn (x_ns t nn (x_ns t nn a)))) = 3 ∧ 1 ≤ x_val t nn (x_ns t nn (x_ns t nn (x_ns t nn (x_ns t nn a)))) ∧ x_val t nn (x_ns t nn (x_ns t nn (x_ns t nn (x_ns t nn a)))) ≤ 4 ∧ x_val t nn (x_ns t nn (x_ns t nn (x_ns t nn (x_ns t nn a)))) ≤ x_val t nn (x_ns t nn (x_ns t nn (x_ns t nn a))) - x_val t nn (x_ns t nn (x_ns t nn a)) + 1)
section XF
variable {t : Nat → Int} {nn a : Int} {s : x_S} {k : x_K}
theorem x_field_d (h : x_fC t nn s a) (hk : x_kx (x_val t nn (x_ns t nn a)) = 4 ∨ x_kx (x_val t nn (x_ns t nn a)) = 5) : x_field t nn s a k = k (x_ns t nn (x_ns t nn (x_ns t nn a))) (x_push s (x_val t nn a) (x_kx (x_val t nn (x_ns t nn a)) - 3) (x_val t nn (x_ns t nn (x_ns t nn a))) (x_val t nn (x_ns t nn (x_ns t nn a)) + (x_kx (x_val t nn (x_ns t nn a)) - 1)) 10) := by
  obtain ⟨h1, h2, h3, h4, h5, h6, h7, h8, h9, h10, h11⟩ := h
  have q := h9 hk
  have e : x_kx (x_val t nn (x_ns t nn a)) - 1 = x_kx (x_val t nn (x_ns t nn a)) - 3 + 2 := by omega
  rw [e] at q ⊢
  unfold x_field
  rw [if_pos ⟨h1, h2, h3, h4⟩]
  unfold x_fk
  rw [if_pos ⟨h5, h6, h7⟩]
  unfold x_fs
  rw [if_pos (by omega)]
  unfold x_fd
  rw [if_pos ⟨h8, by omega, q.2⟩]
theorem x_field_0 (h : x_fC t nn s a) (hk : x_kx (x_val t nn (x_ns t nn a)) = 3) : x_field t nn s a k = k (x_ns t nn (x_ns t nn (x_ns t nn (x_ns t nn a)))) (x_push s (x_val t nn a) 0 (x_val t nn (x_ns t nn (x_ns t nn a))) (x_val t nn (x_ns t nn (x_ns t nn (x_ns t nn a)))) (x_val t nn (x_ns t nn (x_ns t nn (x_ns t nn a))) - x_val t nn (x_ns t nn (x_ns t nn a)) + 1)) := by
  obtain ⟨h1, h2, h3, h4, h5, h6, h7, h8, h9, h10, h11⟩ := h
  obtain ⟨g1, g2, g3, g4, g5, g6, g7, g8⟩ := h10 (Or.inl hk)
  unfold x_field
  rw [if_pos ⟨h1, h2, h3, h4⟩]
  unfold x_fk
  rw [if_pos ⟨h5, h6, h7⟩]
  unfold x_fs
  rw [if_neg (by omega)]
  unfold x_fl
  rw [if_pos ⟨h8, g1, g2⟩]
  unfold x_fm
  rw [if_pos ⟨g3, g4, fun _ => g5 hk, g6, g7, g8⟩, if_pos (by omega)]
theorem x_field_3 (h : x_fC t nn s a) (hk : x_kx (x_val t nn (x_ns t nn a)) = 6) : x_field t nn s a k = k (x_ns t nn (x_ns t nn (x_ns t nn (x_ns t nn (x_ns t nn a))))) (x_push s (x_val t nn a) 3 (x_val t nn (x_ns t nn (x_ns t nn a))) (x_val t nn (x_ns t nn (x_ns t nn (x_ns t nn a)))) (x_val t nn (x_ns t nn (x_ns t nn (x_ns t nn (x_ns t nn a)))))) := by
  obtain ⟨h1, h2, h3, h4, h5, h6, h7, h8, h9, h10, h11⟩ := h
  obtain ⟨g1, g2, g3, g4, g5, g6, g7, g8⟩ := h10 (Or.inr hk)
  unfold x_field
  rw [if_pos ⟨h1, h2, h3, h4⟩]
  unfold x_fk
  rw [if_pos ⟨h5, h6, h7⟩]
  unfold x_fs
  rw [if_neg (by omega)]
  unfold x_fl
  rw [if_pos ⟨h8, g1, g2⟩]
  unfold x_fm
  rw [if_pos ⟨g3, g4, fun z => by omega, g6, g7, g8⟩, if_neg (by omega)]
  unfold x_fc
  rw [if_pos (h11 hk)]
theorem x_field_n (h : ¬ x_fC t nn s a) : x_field t nn s a k = none := by
  unfold x_field
  split
  · rename_i c1
    unfold x_fk
    split
    · rename_i c2
      unfold x_fs
      split
      · rename_i c3
        unfold x_fd
        split
        · rename_i c4
          exfalso
          apply h
          have e : x_kx (x_val t nn (x_ns t nn a)) - 1 = x_kx (x_val t nn (x_ns t nn a)) - 3 + 2 := by omega
          unfold x_fC
          rw [e]
          omega
        · rfl
      · rename_i c3
        unfold x_fl
        split
        · rename_i c4
          unfold x_fm
          split
          · rename_i c5
            split
            · rename_i c6
              exfalso
              apply h
              unfold x_fC
              omega
            · rename_i c6
              unfold x_fc
              split
              · rename_i c7
                exfalso
                apply h
                unfold x_fC
                omega
              · rfl
          · rfl
        · rfl
    · rfl
  · rfl
end XF
theorem x_free_v {s : x_S} {f l f2 l2 : Int} : f = f2 → l = l2 → x_free s f l = x_free s f2 l2 := fun h1 h2 => by rw [h1, h2]
/-- a field more -/
theorem x_G_p {s : x_S} {nm kd f l c : Int} (H : x_G s) (hF : s.2.1 ≤ 7) (h1 : 0 ≤ kd ∧ kd ≤ 3) (h2 : 0 ≤ f ∧ f ≤ l ∧ l ≤ 59 ∧ l - f ≤ 23) (h3 : 1 ≤ c ∧ c ≤ 24) (h4 : kd = 3 → c ≤ 4) : x_G (x_push s nm kd f l c) := by
  obtain ⟨a1, a2, a3, a4, a5, a6, a8, a7⟩ := H
  refine ⟨a1, a2, by show 0 ≤ s.2.1 + 1; omega, by show s.2.1 + 1 ≤ 8; omega, a5, a6, fun k k0 k1 => ?_, fun k k0 k1 => ?_⟩
  · have e : x_row (x_push s nm kd f l c) 7 k = x_row s 7 k := by
      show (if (7 : Nat) ≤ 5 ∧ ((k.toNat : Nat) : Int) = s.2.1 then (if (7 : Nat) = 1 then nm else if (7 : Nat) = 2 then kd else if (7 : Nat) = 3 then f else if (7 : Nat) = 4 then l else c) else s.2.2.2.2 7 k.toNat) = _
      rw [if_neg (fun z => absurd z.1 (by decide))]
      rfl
    have a9 := a8 k k0 k1
    have e2 : x_row (x_push s nm kd f l c) 2 (x_row s 7 k) = x_row s 2 (x_row s 7 k) := by
      show (if (2 : Nat) ≤ 5 ∧ (((x_row s 7 k).toNat : Nat) : Int) = s.2.1 then (if (2 : Nat) = 1 then nm else if (2 : Nat) = 2 then kd else if (2 : Nat) = 3 then f else if (2 : Nat) = 4 then l else c) else s.2.2.2.2 2 (x_row s 7 k).toNat) = _
      rw [if_neg (fun z => by have z2 := z.2; omega)]
      rfl
    rw [e, e2]
    exact ⟨a9.1, by show _ < s.2.1 + 1; omega, a9.2.2⟩
  have k1 : k < s.2.1 + 1 := k1
  by_cases g : k = s.2.1
  · have e : ∀ r, x_row (x_push s nm kd f l c) r k = if r ≤ 5 ∧ ((k.toNat : Nat) : Int) = s.2.1 then (if r = 1 then nm else if r = 2 then kd else if r = 3 then f else if r = 4 then l else c) else s.2.2.2.2 r k.toNat := fun r => rfl
    have gk : ((k.toNat : Nat) : Int) = s.2.1 := by omega
    have e2 : x_row (x_push s nm kd f l c) 2 k = kd := by rw [e, if_pos ⟨by decide, gk⟩]; rfl
    have e3 : x_row (x_push s nm kd f l c) 3 k = f := by rw [e, if_pos ⟨by decide, gk⟩]; rfl
    have e4 : x_row (x_push s nm kd f l c) 4 k = l := by rw [e, if_pos ⟨by decide, gk⟩]; rfl
    have e5 : x_row (x_push s nm kd f l c) 5 k = c := by rw [e, if_pos ⟨by decide, gk⟩]; rfl
    rw [e2, e3, e4, e5]
    omega
  · have e : ∀ r, x_row (x_push s nm kd f l c) r k = x_row s r k := fun r => by
      show (if r ≤ 5 ∧ ((k.toNat : Nat) : Int) = s.2.1 then _ else _) = _
      rw [if_neg (fun z => g (by omega))]
      rfl
    rw [e, e, e, e]
    exact a7 k k0 (by omega)
theorem x_G_w {s : x_S} {nm f b : Int} (H : x_G s) (hW : s.2.2.1 ≤ 11) (hf : 0 ≤ f ∧ f < s.2.1 ∧ x_row s 2 f = 3) : x_G (x_pushw s nm f b) := by
  obtain ⟨a1, a2, a3, a4, a5, a6, a8, a7⟩ := H
  refine ⟨a1, a2, a3, a4, by show 0 ≤ s.2.2.1 + 1; omega, by show s.2.2.1 + 1 ≤ 12; omega, fun k k0 k1 => ?_, fun k k0 k1 => ?_⟩
  · have k1 : k < s.2.2.1 + 1 := k1
    show 0 ≤ x_row (x_pushw s nm f b) 7 k ∧ x_row (x_pushw s nm f b) 7 k < s.2.1 ∧ x_row (x_pushw s nm f b) 2 (x_row (x_pushw s nm f b) 7 k) = 3
    have e2 : ∀ j : Int, x_row (x_pushw s nm f b) 2 j = x_row s 2 j := fun j => by
      show (if 6 ≤ (2 : Nat) ∧ ((j.toNat : Nat) : Int) = s.2.2.1 then (if (2 : Nat) = 6 then nm else if (2 : Nat) = 7 then f else b) else s.2.2.2.2 2 j.toNat) = _
      rw [if_neg (fun z => absurd z.1 (by decide))]
      rfl
    by_cases g : k = s.2.2.1
    · have e : x_row (x_pushw s nm f b) 7 k = f := by
        show (if 6 ≤ (7 : Nat) ∧ ((k.toNat : Nat) : Int) = s.2.2.1 then (if (7 : Nat) = 6 then nm else if (7 : Nat) = 7 then f else b) else s.2.2.2.2 7 k.toNat) = _
        rw [if_pos ⟨by decide, by omega⟩]
        rfl
      rw [e, e2]
      exact hf
    · have e : x_row (x_pushw s nm f b) 7 k = x_row s 7 k := by
        show (if 6 ≤ (7 : Nat) ∧ ((k.toNat : Nat) : Int) = s.2.2.1 then (if (7 : Nat) = 6 then nm else if (7 : Nat) = 7 then f else b) else s.2.2.2.2 7 k.toNat) = _
        rw [if_neg (fun z => g (by omega))]
        rfl
      rw [e, e2]
      exact a8 k k0 (by omega)
  have e : ∀ r, r ≤ 5 → x_row (x_pushw s nm f b) r k = x_row s r k := fun r hr => by
    show (if 6 ≤ r ∧ ((k.toNat : Nat) : Int) = s.2.2.1 then _ else _) = _
    rw [if_neg (fun z => by omega)]
    rfl
  rw [e 2 (by decide), e 3 (by decide), e 4 (by decide), e 5 (by decide)]
  exact a7 k k0 k1
