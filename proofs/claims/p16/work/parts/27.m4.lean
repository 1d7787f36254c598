/-! rows put in order: how many of the first k don't fall -/
noncomputable def NF (M : mm_M) (r : Int) : Nat → Int
  | 0 => 0
  | k + 1 => NF M r k + (if (M.2.1 124 (6 * (M.2.1 121 k).toInt + r).toNat).toInt = 0 then 1 else 0)
theorem NF_f {M M1 : mm_M} {r : Int} (h : ∀ a i, (a = 121 ∨ a = 124) → M1.2.1 a i = M.2.1 a i) : ∀ k : Nat, NF M1 r k = NF M r k
  | 0 => rfl
  | k + 1 => by
    show NF M1 r k + (if (M1.2.1 124 (6 * (M1.2.1 121 k).toInt + r).toNat).toInt = 0 then 1 else 0) = NF M r k + (if (M.2.1 124 (6 * (M.2.1 121 k).toInt + r).toNat).toInt = 0 then 1 else 0)
    rw [NF_f h k, h 121 k (Or.inl rfl), h 124 _ (Or.inr rfl)]
theorem NF_s {M : mm_M} {r : Int} (k : Nat) : NF M r (k + 1) = NF M r k + (if (M.2.1 124 (6 * (M.2.1 121 k).toInt + r).toNat).toInt = 0 then 1 else 0) := rfl
theorem NF_b {M : mm_M} {r : Int} : ∀ k : Nat, 0 ≤ NF M r k ∧ NF M r k ≤ (k : Int)
  | 0 => ⟨Int.le_refl 0, Int.le_refl 0⟩
  | k + 1 => by
    have h := NF_b (M := M) (r := r) k
    rw [NF_s]
    split <;> omega
theorem NF_le {M : mm_M} {r : Int} (k : Nat) : ∀ j : Nat, NF M r k ≤ NF M r (k + j) ∧ NF M r (k + j) ≤ NF M r k + (j : Int)
  | 0 => ⟨Int.le_refl _, by show NF M r k ≤ NF M r k + 0; omega⟩
  | j + 1 => by
    have h := NF_le (M := M) (r := r) k j
    show NF M r k ≤ NF M r (k + j + 1) ∧ NF M r (k + j + 1) ≤ NF M r k + ((j + 1 : Nat) : Int)
    rw [NF_s]
    split <;> omega
theorem NF_t {M : mm_M} {r : Int} {k m : Nat} (h : k ≤ m) : NF M r k ≤ NF M r m ∧ NF M r m ≤ NF M r k + ((m : Int) - (k : Int)) := by
  obtain ⟨j, rfl⟩ : ∃ j, m = k + j := ⟨m - k, by omega⟩
  have := NF_le (M := M) (r := r) k j
  omega
theorem NF_v {M : mm_M} {r I : Int} {k : Nat} {l v : Int32} (hl : M.2.1 121 k = l) (hi : I = 6 * l.toInt + r) (hv : M.2.1 124 I.toNat = v) : (v.toInt = 0 → NF M r (k + 1) = NF M r k + 1) ∧ (¬ v.toInt = 0 → NF M r (k + 1) = NF M r k) := by
  rw [NF_s, hl, ← hi, hv]
  refine ⟨fun z => by rw [if_pos z], fun z => by rw [if_neg z]; omega⟩
/-! CODES one after another: what is picked, read as a number -/
noncomputable def PV (M : mm_M) : Nat → Int
  | 0 => 0
  | k + 1 => PV M k * 64 + (M.2.1 118 k).toInt
theorem PV_f {M M1 : mm_M} : ∀ k : Nat, (∀ i, i < k → M1.2.1 118 i = M.2.1 118 i) → PV M1 k = PV M k
  | 0, _ => rfl
  | k + 1, h => by
    show PV M1 k * 64 + (M1.2.1 118 k).toInt = PV M k * 64 + (M.2.1 118 k).toInt
    rw [PV_f k (fun i hi => h i (by omega)), h k (by omega)]
theorem PV_s {M : mm_M} (k : Nat) : PV M (k + 1) = PV M k * 64 + (M.2.1 118 k).toInt := rfl
theorem g_118 {M : mm_M} (hG : g_G M) (i : Nat) : 0 ≤ (M.2.1 118 i).toInt ∧ (M.2.1 118 i).toInt ≤ 63 := g_b hG rfl rfl
/-- with noughts behind the first j, k in all -/
noncomputable def PW (M : mm_M) (j k : Nat) : Int := PV M j * (64 : Int) ^ (k - j)
theorem PW_k {M : mm_M} {k : Nat} : PW M k k = PV M k := by
  unfold PW
  rw [Nat.sub_self]
  show PV M k * 1 = _
  omega
theorem PW_s {M : mm_M} {j k : Nat} (hj : j < k) : PW M (j + 1) k = PW M j k + (M.2.1 118 j).toInt * (64 : Int) ^ (k - (j + 1)) := by
  unfold PW
  rw [PV_s, show k - j = k - (j + 1) + 1 by omega, Int.pow_succ, Int.add_mul, Int.mul_assoc, Int.mul_comm 64]
theorem pw_pos (n : Nat) : 1 ≤ (64 : Int) ^ n := by
  induction n with
  | zero => exact Int.le_refl 1
  | succ n ih => rw [Int.pow_succ]; omega
theorem PW_le {M : mm_M} (hG : g_G M) {j k : Nat} (hj : j < k) : PW M j k ≤ PW M (j + 1) k := by
  rw [PW_s hj]
  have h1 := (g_118 hG j).1
  have h2 := pw_pos (k - (j + 1))
  have h3 : 0 ≤ (M.2.1 118 j).toInt * (64 : Int) ^ (k - (j + 1)) := Int.mul_nonneg h1 (by omega)
  omega
/-- what is behind the first j is less than one more there -/
theorem PW_lt {M : mm_M} (hG : g_G M) (j : Nat) : ∀ n : Nat, PV M (j + n) + 1 ≤ (PV M j + 1) * (64 : Int) ^ n
  | 0 => by show PV M j + 1 ≤ (PV M j + 1) * 1; omega
  | n + 1 => by
    have h := PW_lt hG j n
    have h2 := g_118 hG (j + n)
    show PV M (j + n) * 64 + (M.2.1 118 (j + n)).toInt + 1 ≤ _
    rw [Int.pow_succ, ← Int.mul_assoc]
    omega
theorem PW_inc {M M1 : mm_M} (hG : g_G M) {i k : Nat} (hi : i < k) (hf : ∀ a, a < i → M1.2.1 118 a = M.2.1 118 a) (hv : (M1.2.1 118 i).toInt = (M.2.1 118 i).toInt + 1) : PV M k + 1 ≤ PW M1 (i + 1) k := by
  have h := PW_lt hG (i + 1) (k - (i + 1))
  rw [show i + 1 + (k - (i + 1)) = k by omega] at h
  have e : PV M1 (i + 1) = PV M (i + 1) + 1 := by
    rw [PV_s, PV_s, PV_f i hf, hv]; omega
  unfold PW
  rw [e]
  exact h
theorem PV_b {M : mm_M} (hG : g_G M) (k : Nat) : 0 ≤ PV M k ∧ PV M k + 1 ≤ (64 : Int) ^ k := by
  constructor
  · induction k with
    | zero => exact Int.le_refl 0
    | succ k ih =>
      have := (g_118 hG k).1
      rw [PV_s]; omega
  · have h := PW_lt hG 0 k
    rw [Nat.zero_add] at h
    have e : (PV M 0 + 1) * (64 : Int) ^ k = (64 : Int) ^ k := by
      show (0 + 1) * _ = _
      rw [Int.zero_add, Int.one_mul]
    rw [e] at h
    exact h
theorem pw_4 {k : Nat} (hk : k ≤ 4) : (64 : Int) ^ k ≤ 16777216 := by
  rcases (show k = 0 ∨ k = 1 ∨ k = 2 ∨ k = 3 ∨ k = 4 by omega) with z | z | z | z | z <;> subst z <;> decide
theorem PW_b {M : mm_M} (hG : g_G M) {j k : Nat} (hj : j ≤ k) (hk : k ≤ 4) : 0 ≤ PW M j k ∧ PW M j k ≤ 16777216 := by
  have h := PV_b hG j
  have hp := pw_pos (k - j)
  have h4 := pw_4 hk
  unfold PW
  refine ⟨Int.mul_nonneg h.1 (by omega), ?_⟩
  have h1 : PV M j * (64 : Int) ^ (k - j) ≤ (64 : Int) ^ j * (64 : Int) ^ (k - j) := Int.mul_le_mul_of_nonneg_right (by omega) (by omega)
  rw [← Int.pow_add, show j + (k - j) = k by omega] at h1
  omega
theorem PW_f {M M1 : mm_M} {j k : Nat} (h : ∀ i, i < j → M1.2.1 118 i = M.2.1 118 i) : PW M1 j k = PW M j k := by
  unfold PW
  rw [PV_f j h]
theorem WC_u {M : mm_M} {A : Int} {f : Int32} (H : WC M) (h0 : 0 ≤ A) (h1 : A < (M.2.1 77 13).toInt) (h2 : A < 12) (hf : M.2.1 86 A.toNat = f) : (M.2.1 81 f.toInt.toNat).toInt = 3 := by
  have := (H A.toNat (by omega) (by omega)).2
  rw [hf] at this
  exact this
/-! rows of HOLES one after another: a row read as a number -/
noncomputable def NV (M : mm_M) (l : Int) : Nat → Int
  | 0 => 0
  | k + 1 => l * NV M l k + (M.2.1 123 k).toInt
theorem NV_s {M : mm_M} {l : Int} (k : Nat) : NV M l (k + 1) = l * NV M l k + (M.2.1 123 k).toInt := rfl
theorem NV_f {M M1 : mm_M} {l : Int} (h : ∀ i, M1.2.1 123 i = M.2.1 123 i) : ∀ k : Nat, NV M1 l k = NV M l k
  | 0 => rfl
  | k + 1 => by rw [NV_s, NV_s, NV_f h k, h k]
theorem g_123 {M : mm_M} (hG : g_G M) (i : Nat) : 0 ≤ (M.2.1 123 i).toInt ∧ (M.2.1 123 i).toInt ≤ 5 := g_b hG rfl rfl
theorem NV_6 {M : mm_M} (hG : g_G M) {l : Int} (h0 : 0 ≤ l) (h1 : l ≤ 6) : ∀ k : Nat, 0 ≤ NV M l k ∧ NV M l k + 1 ≤ (6 : Int) ^ k
  | 0 => ⟨Int.le_refl 0, Int.le_refl 1⟩
  | k + 1 => by
    have h := NV_6 hG h0 h1 k
    have h2 := g_123 hG k
    have h3 : 0 ≤ l * NV M l k := Int.mul_nonneg h0 h.1
    have h4 : l * NV M l k ≤ 6 * NV M l k := Int.mul_le_mul_of_nonneg_right h1 h.1
    rw [NV_s, Int.pow_succ]
    omega
theorem p6 {k : Nat} (hk : k ≤ 6) : (6 : Int) ^ k ≤ 46656 := by
  rcases (show k = 0 ∨ k = 1 ∨ k = 2 ∨ k = 3 ∨ k = 4 ∨ k = 5 ∨ k = 6 by omega) with z | z | z | z | z | z | z <;> subst z <;> decide
theorem NV_b {M : mm_M} (hG : g_G M) {l : Int} (h0 : 0 ≤ l) (h1 : l ≤ 6) {k : Nat} (hk : k ≤ 6) : 0 ≤ NV M l k ∧ NV M l k ≤ 46655 := by
  have := NV_6 hG h0 h1 k
  have := p6 hk
  omega
theorem pl_b {l : Int} (h0 : 1 ≤ l) (h1 : l ≤ 6) : ∀ k : Nat, 1 ≤ l ^ k ∧ l ^ k ≤ (6 : Int) ^ k
  | 0 => by rw [Int.pow_zero, Int.pow_zero]; omega
  | k + 1 => by
    have h := pl_b h0 h1 k
    have h3 : 1 * 1 ≤ l ^ k * l := Int.mul_le_mul h.1 h0 (by omega) (by omega)
    have h4 : l ^ k * l ≤ (6 : Int) ^ k * 6 := Int.mul_le_mul h.2 h1 (by omega) (by omega)
    rw [Int.pow_succ, Int.pow_succ]
    omega
theorem pl_6 {l : Int} (h0 : 1 ≤ l) (h1 : l ≤ 6) {k : Nat} (hk : k ≤ 6) : 1 ≤ l ^ k ∧ l ^ k ≤ 46656 := by
  have := pl_b h0 h1 k
  have := p6 hk
  omega
theorem mul_r {A B a b : Int} (h1 : 0 ≤ A ∧ A ≤ a) (h2 : 0 ≤ B ∧ B ≤ b) : 0 ≤ A * B ∧ A * B ≤ a * b := ⟨Int.mul_nonneg h1.1 h2.1, Int.mul_le_mul h1.2 h2.2 h2.1 (by omega)⟩
/-- c digits from j on -/
noncomputable def DV (M : mm_M) (l : Int) : Nat → Nat → Int
  | _, 0 => 0
  | j, c + 1 => (M.2.1 123 j).toInt * l ^ c + DV M l (j + 1) c
theorem DV_f {M M1 : mm_M} {l : Int} : ∀ (c j : Nat), (∀ i, j ≤ i → M1.2.1 123 i = M.2.1 123 i) → DV M1 l j c = DV M l j c
  | 0, _, _ => rfl
  | c + 1, j, h => by
    show (M1.2.1 123 j).toInt * l ^ c + DV M1 l (j + 1) c = (M.2.1 123 j).toInt * l ^ c + DV M l (j + 1) c
    rw [h j (Nat.le_refl _), DV_f c (j + 1) (fun i hi => h i (by omega))]
theorem DV_nn {M : mm_M} (hG : g_G M) {l : Int} (h0 : 1 ≤ l) (h1 : l ≤ 6) : ∀ (c j : Nat), 0 ≤ DV M l j c
  | 0, _ => Int.le_refl 0
  | c + 1, j => by
    have h := DV_nn hG h0 h1 c (j + 1)
    have h2 := (g_123 hG j).1
    have h3 := (pl_b h0 h1 c).1
    have h4 : 0 ≤ (M.2.1 123 j).toInt * l ^ c := Int.mul_nonneg h2 (by omega)
    show 0 ≤ (M.2.1 123 j).toInt * l ^ c + DV M l (j + 1) c
    omega
theorem DV_NV {M : mm_M} {l : Int} : ∀ (c j : Nat), NV M l (j + c) = NV M l j * l ^ c + DV M l j c
  | 0, j => by
    show NV M l j = NV M l j * l ^ 0 + 0
    rw [Int.pow_zero]; omega
  | c + 1, j => by
      have h := DV_NV (M := M) (l := l) c (j + 1)
      rw [show j + 1 + c = j + (c + 1) by omega] at h
      rw [h, NV_s]
      show (l * NV M l j + (M.2.1 123 j).toInt) * l ^ c + DV M l (j + 1) c = NV M l j * l ^ (c + 1) + ((M.2.1 123 j).toInt * l ^ c + DV M l (j + 1) c)
      rw [Int.pow_succ, Int.add_mul, Int.mul_comm l, Int.mul_assoc, Int.mul_comm l]
      omega
theorem DV_step {M M1 : mm_M} {l x v q r : Int} {i c : Nat} (h : v = x * l ^ c + DV M l (i + 1) c) (hq : q = x / l) (hr : r = x % l) (hf : ∀ a, ¬ a = i → M1.2.1 123 a = M.2.1 123 a) (hi : (M1.2.1 123 i).toInt = r) : v = q * l ^ (c + 1) + DV M1 l i (c + 1) := by
  show v = q * l ^ (c + 1) + ((M1.2.1 123 i).toInt * l ^ c + DV M1 l (i + 1) c)
  rw [hi, DV_f c (i + 1) (fun a ha => hf a (by omega)), h, Int.pow_succ, Int.mul_comm (l ^ c), ← Int.mul_assoc, ← Int.add_assoc, ← Int.add_mul, hq, hr]
  rw [Int.mul_comm (x / l) l, Int.mul_ediv_add_emod]
theorem DV_end {M : mm_M} (hG : g_G M) {l x v : Int} {n : Nat} (h0 : 1 ≤ l) (h1 : l ≤ 6) (h : v = x * l ^ n + DV M l 0 n) (hx : 0 ≤ x) (hv : v < l ^ n) : NV M l n = v := by
  have e := DV_NV (M := M) (l := l) n 0
  rw [Nat.zero_add] at e
  have e2 : NV M l 0 * l ^ n = 0 := by show 0 * _ = _; omega
  have hd := DV_nn hG h0 h1 n 0
  have hp := (pl_b h0 h1 n).1
  have hx0 : x = 0 := by
    by_cases z : x = 0
    · exact z
    · have h3 : 1 * l ^ n ≤ x * l ^ n := Int.mul_le_mul_of_nonneg_right (by omega) (by omega)
      omega
  rw [hx0, Int.zero_mul] at h
  omega
noncomputable def NM (t v : Int) : Int := if t = 0 then 0 else 100000 - v
theorem NM_0 {t v : Int} (h : t = 0) : NM t v = 0 := if_pos h
theorem NM_1 {t v : Int} (h : t = 1) : NM t v = 100000 - v := by
  unfold NM
  rw [if_neg (by omega)]
