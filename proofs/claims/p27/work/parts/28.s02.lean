/-! the best code: a set of positions as bits, as cards that drop, as holes shared -/
theorem i_p : ∀ h : Fin 31, ((1 : Int32) <<< Int32.ofInt (h.val : Int)).toBitVec.toNat = 2 ^ h.val := by decide +kernel
theorem i_msb {x : Int32} (hx : 0 ≤ x.toInt) : x.toBitVec.msb = false := by
  rw [BitVec.msb_eq_toInt]
  have : 0 ≤ x.toBitVec.toInt := hx
  simp only [decide_eq_false_iff_not]; omega
theorem i_natm {x : Int32} (m : x.toBitVec.msb = false) : x.toInt = (x.toBitVec.toNat : Int) := by
  show x.toBitVec.toInt = _
  rw [BitVec.toInt_eq_toNat_of_msb m]
theorem i_nat9 {x : Int32} (hx : 0 ≤ x.toInt) : x.toInt = (x.toBitVec.toNat : Int) := i_natm (i_msb hx)
theorem i_or_p {b v : Int32} {h : Nat} (h31 : h < 31) (b0 : 0 ≤ b.toInt) (b1 : b.toInt < ((2 ^ h : Nat) : Int)) (hv : v = (1 : Int32) <<< Int32.ofInt (h : Int)) : (b ||| v).toInt = b.toInt + ((2 ^ h : Nat) : Int) := by
  have eb := i_nat9 b0
  have ev : v.toBitVec.toNat = 2 ^ h := by
    rw [hv]
    exact i_p ⟨h, h31⟩
  have lt : b.toBitVec.toNat < 2 ^ h := by omega
  have e : (b ||| v).toBitVec.toNat = 2 ^ h + b.toBitVec.toNat := by
    rw [Int32.toBitVec_or, BitVec.toNat_or, ev, Nat.or_comm]
    have z := Nat.two_pow_add_eq_or_of_lt lt 1
    rw [Nat.mul_one] at z
    exact z.symm
  have p : 2 ^ h ≤ 2 ^ 30 := Nat.pow_le_pow_right (by decide) (by omega)
  have q : (b ||| v).toInt = ((b ||| v).toBitVec.toNat : Int) := by
    show (b ||| v).toBitVec.toInt = _
    rw [BitVec.toInt_eq_toNat_cond, if_pos (by rw [e]; omega)]
  rw [q, e, eb]
  omega
theorem i_and_l {x y : Int32} (hx : 0 ≤ x.toInt) : 0 ≤ (x &&& y).toInt ∧ (x &&& y).toInt ≤ x.toInt := by
  have ex := i_nat9 hx
  have e : (x &&& y).toInt = ((x.toBitVec.toNat &&& y.toBitVec.toNat : Nat) : Int) := by
    show (x &&& y).toBitVec.toInt = _
    rw [Int32.toBitVec_and, BitVec.toInt_eq_toNat_of_msb (by rw [BitVec.msb_and, i_msb hx]; rfl), BitVec.toNat_and]
  have le : (x.toBitVec.toNat &&& y.toBitVec.toNat) ≤ x.toBitVec.toNat := Nat.and_le_left
  rw [e, ex]
  omega
theorem x_ib_32 {x : Int32} {i : Nat} (h : 32 ≤ i) : x_ib x i = false := BitVec.getLsbD_of_ge _ _ h
theorem x_ib_nn {x : Int32} (h : x_ib x 31 = false) : x.toInt = (x.toBitVec.toNat : Int) := i_natm (by rw [BitVec.msb_eq_getLsbD_last]; exact h)
theorem x_ib_le {x : Int32} {n : Nat} (hn : n ≤ 31) (h : ∀ i : Nat, n ≤ i → x_ib x i = false) : 0 ≤ x.toInt ∧ x.toInt < ((2 ^ n : Nat) : Int) := by
  have e := x_ib_nn (h 31 hn)
  have lt : x.toBitVec.toNat < 2 ^ n := Nat.lt_pow_two_of_testBit _ (fun i hi => h i hi)
  omega
/-! counting -/
noncomputable def x_cnt (f : Nat → Bool) : Nat → Nat
  | 0 => 0
  | n + 1 => x_cnt f n + (if f n = true then 1 else 0)
theorem x_cnt_c {f g : Nat → Bool} : ∀ n : Nat, (∀ i : Nat, i < n → f i = g i) → x_cnt f n = x_cnt g n
  | 0, _ => rfl
  | n + 1, h => by rw [x_cnt, x_cnt, x_cnt_c n (fun i hi => h i (by omega)), h n (by omega)]
theorem x_cnt_z {f : Nat → Bool} {m : Nat} (h : ∀ i : Nat, m ≤ i → f i = false) : ∀ d : Nat, x_cnt f (m + d) = x_cnt f m
  | 0 => rfl
  | d + 1 => by
    rw [show m + (d + 1) = (m + d) + 1 from rfl, x_cnt, x_cnt_z h d, h (m + d) (by omega)]
    rfl
theorem x_cnt_le {f : Nat → Bool} : ∀ n : Nat, x_cnt f n ≤ n
  | 0 => Nat.le_refl _
  | n + 1 => by
    have := x_cnt_le (f := f) n
    rw [x_cnt]
    split <;> omega
theorem x_ct_cnt {n : Nat} : ∀ k : Nat, x_ct n k = x_cnt (fun i => n.testBit i) k
  | 0 => rfl
  | k + 1 => by
    rw [x_ct, x_cnt, x_ct_cnt k, Nat.testBit_eq_decide_div_mod_eq]
    by_cases g : n / 2 ^ k % 2 = 1
    · rw [decide_eq_true g, if_pos rfl, g]
    · rw [decide_eq_false g, if_neg (by decide)]
      omega
/-- one bit more -/
theorem x_cnt_o {c g : Nat → Bool} {p : Nat} (hp : g p = false) : ∀ n : Nat, x_cnt (fun j => c j && (g j || decide (j = p))) n = x_cnt (fun j => c j && g j) n + (if p < n ∧ c p = true then 1 else 0)
  | 0 => by
    have a1 : (if p < 0 ∧ c p = true then 1 else 0) = 0 := if_neg (fun z => Nat.not_lt_zero _ z.1)
    rw [a1]
    rfl
  | n + 1 => by
    have ih := x_cnt_o (c := c) hp n
    rw [x_cnt, x_cnt, ih]
    by_cases e : n = p
    · have a1 : (if p < n ∧ c p = true then 1 else 0) = 0 := if_neg (fun z => absurd z.1 (by omega))
      have a2 : (c n && (g n || decide (n = p))) = c n := by rw [decide_eq_true e, Bool.or_true, Bool.and_true]
      have a3 : (c n && g n) = false := by rw [e, hp, Bool.and_false]
      have a4 : (if p < n + 1 ∧ c p = true then 1 else 0) = (if c n = true then 1 else 0) := by
        by_cases q : c n = true
        · rw [if_pos q]
          exact if_pos ⟨by omega, by rw [← e]; exact q⟩
        · rw [if_neg q]
          exact if_neg (fun z => q (by rw [e]; exact z.2))
      have a5 : (if false = true then 1 else 0) = 0 := if_neg (by decide)
      rw [a2, a3, a1, a4, a5]
    · have a1 : decide (n = p) = false := decide_eq_false e
      have a2 : (if p < n + 1 ∧ c p = true then 1 else 0) = (if p < n ∧ c p = true then 1 else 0) := by
        by_cases q : p < n ∧ c p = true
        · rw [if_pos q]
          exact if_pos ⟨by omega, q.2⟩
        · rw [if_neg q]
          exact if_neg (fun z => q ⟨by omega, z.2⟩)
      rw [a1, Bool.or_false, a2]
      omega
/-! the class's and the reference's ways through a set -/
noncomputable def x_bo (y : Nat → Int) (K : Nat) : Nat → Int32
  | 0 => 0
  | d + 1 => x_bo y K d ||| ((1 : Int32) <<< Int32.ofInt (y (K - (d + 1))))
noncomputable def x_dd (wi : Int32) (cu : Nat → Int32) (y : Nat → Int) (K : Nat) : Nat → Int32
  | 0 => wi
  | d + 1 => x_dd wi cu y K d &&& cu (y (K - (d + 1))).toNat
noncomputable def x_ss (sh : Nat → Int) (y : Nat → Int) (K : Nat) : Nat → Int
  | 0 => 0
  | d + 1 => x_ss sh y K d + sh (y (K - (d + 1))).toNat
noncomputable def x_br (y : Nat → Int) : Nat → Int32
  | 0 => 0
  | n + 1 => x_br y n ||| ((1 : Int32) <<< Int32.ofInt (y n))
section BOS
variable {K : Nat} {W : Int} {y y2 : Nat → Int}
theorem x_bo_r : ∀ d : Nat, d ≤ K → x_bo y K d ||| x_br y (K - d) = x_br y K
  | 0, _ => by
    rw [x_bo, Int32.zero_or]
    rfl
  | d + 1, h => by
    rw [← x_bo_r d (by omega), x_bo, show K - d = (K - (d + 1)) + 1 by omega, x_br, Int32.or_assoc, Int32.or_comm (x_br y (K - (d + 1)))]
theorem x_bo_K : x_bo y K K = x_br y K := by
  have h := x_bo_r (y := y) K (Nat.le_refl K)
  rw [Nat.sub_self, x_br, Int32.or_zero] at h
  exact h
theorem x_br_c : ∀ n : Nat, (∀ m : Nat, m < n → y m = y2 m) → x_br y n = x_br y2 n
  | 0, _ => rfl
  | n + 1, h => by rw [x_br, x_br, x_br_c n (fun m hm => h m (by omega)), h n (by omega)]
theorem x_bo_c : ∀ d : Nat, d ≤ K → (∀ m : Nat, K ≤ m + d → m < K → y m = y2 m) → x_bo y K d = x_bo y2 K d
  | 0, _, _ => rfl
  | d + 1, hd, h => by rw [x_bo, x_bo, x_bo_c d (by omega) (fun m hm hk => h m (by omega) hk), h (K - (d + 1)) (by omega) (by omega)]
theorem x_dd_c {wi : Int32} {cu : Nat → Int32} : ∀ d : Nat, d ≤ K → (∀ m : Nat, K ≤ m + d → m < K → y m = y2 m) → x_dd wi cu y K d = x_dd wi cu y2 K d
  | 0, _, _ => rfl
  | d + 1, hd, h => by rw [x_dd, x_dd, x_dd_c d (by omega) (fun m hm hk => h m (by omega) hk), h (K - (d + 1)) (by omega) (by omega)]
theorem x_ss_c {sh : Nat → Int} : ∀ d : Nat, d ≤ K → (∀ m : Nat, K ≤ m + d → m < K → y m = y2 m) → x_ss sh y K d = x_ss sh y2 K d
  | 0, _, _ => rfl
  | d + 1, hd, h => by rw [x_ss, x_ss, x_ss_c d (by omega) (fun m hm hk => h m (by omega) hk), h (K - (d + 1)) (by omega) (by omega)]
/-- the bits' number -/
theorem x_br_n (H : x_sb (K : Int) W y) (hW : W ≤ 31) : ∀ n : Nat, n ≤ K → (x_br y n).toInt = ((x_bb y n : Nat) : Int)
  | 0, _ => rfl
  | n + 1, h => by
    have ih := x_br_n H hW n (by omega)
    have hn := H n (by omega)
    have lt : x_bb y n < 2 ^ (y n).toNat := by
      cases n with
      | zero => exact Nat.pow_pos (by decide)
      | succ m =>
        have u := bb_u H m (by omega)
        have o := (H m (by omega)).2.2 (by omega)
        have p := (H m (by omega)).1
        exact Nat.lt_of_lt_of_le u (Nat.pow_le_pow_right (by decide) (by omega))
    rw [x_br, i_or_p (h := (y n).toNat) (by omega) (by omega) (by omega) (by rw [show (((y n).toNat : Nat) : Int) = y n by omega]), ih, x_bb]
    omega
theorem x_br_ib {i : Nat} (hi : i < 32) : ∀ n : Nat, (∀ m : Nat, m < n → 0 ≤ y m ∧ y m < 31) → (x_ib (x_br y n) i = true ↔ ∃ m : Nat, m < n ∧ y m = (i : Int))
  | 0, _ => by
    rw [x_br, x_ib_0]
    exact ⟨fun z => absurd z (by decide), fun ⟨m, hm, _⟩ => absurd hm (Nat.not_lt_zero m)⟩
  | n + 1, h => by
    have ih := x_br_ib hi n (fun m hm => h m (by omega))
    have hn := h n (by omega)
    have e : x_ib ((1 : Int32) <<< Int32.ofInt (y n)) i = decide (i = (y n).toNat) := by
      have z := x_ib_1 (n := (y n).toNat) (i := i) (by omega) hi
      rw [show (((y n).toNat : Nat) : Int) = y n by omega] at z
      exact z
    rw [x_br, x_ib_or, Bool.or_eq_true, ih, e, decide_eq_true_eq]
    constructor
    · rintro (⟨m, h1, h2⟩ | h1)
      · exact ⟨m, by omega, h2⟩
      · exact ⟨n, by omega, by omega⟩
    · rintro ⟨m, h1, h2⟩
      by_cases g : m = n
      · exact Or.inr (by rw [← g]; omega)
      · exact Or.inl ⟨m, by omega, h2⟩
theorem x_br_31 {n : Nat} (h : ∀ m : Nat, m < n → 0 ≤ y m ∧ y m < 31) : x_ib (x_br y n) 31 = false := by
  rw [Bool.eq_false_iff]
  intro z
  obtain ⟨m, h1, h2⟩ := (x_br_ib (by decide) n h).mp z
  have := h m h1
  omega
end BOS
/-! bits of a word's code: the set laid at the field's first hole -/
noncomputable def x_wd (b : Int32) (f : Int) : Int64 := b.toInt64 <<< x_sh f
theorem x_on_wd {b : Int32} {f : Int} {i : Nat} (hb : x_ib b 31 = false) (h0 : 0 ≤ f) (h1 : f < 64) : x_on (x_wd b f) i = (decide (i < 64 ∧ f ≤ (i : Int)) && x_ib b (i - f.toNat)) := by
  unfold x_wd
  rw [x_on_shl h0 h1]
  congr 1
  show b.toInt64.toBitVec.getLsbD (i - f.toNat) = _
  rw [Int32.toBitVec_toInt64, BitVec.getLsbD_signExtend]
  have m : b.toBitVec.msb = false := by rw [BitVec.msb_eq_getLsbD_last]; exact hb
  by_cases g : i - f.toNat < 32
  · rw [if_pos g]
    by_cases g2 : i - f.toNat < 64
    · rw [decide_eq_true g2, Bool.true_and]; rfl
    · omega
  · rw [if_neg g, m, Bool.and_false, x_ib_32 (by omega)]
theorem x_on_nn {x : Int64} {n : Nat} (hn : n ≤ 63) (h : ∀ i : Nat, n ≤ i → x_on x i = false) : 0 ≤ x.toInt ∧ x.toInt < ((2 ^ n : Nat) : Int) ∧ x.toInt = (x.toBitVec.toNat : Int) := by
  have e : x.toInt = (x.toBitVec.toNat : Int) := by
    show x.toBitVec.toInt = _
    rw [BitVec.toInt_eq_toNat_of_msb (by rw [BitVec.msb_eq_getLsbD_last]; exact h 63 hn)]
  have lt : x.toBitVec.toNat < 2 ^ n := Nat.lt_pow_two_of_testBit _ (fun i hi => h i hi)
  omega
theorem x_on_ct {x : Int64} {n : Nat} (hn : n ≤ 62) (h : ∀ i : Nat, n ≤ i → x_on x i = false) : x_ct x.toInt.toNat 62 = x_cnt (x_on x) 62 := by
  have e := (x_on_nn (by omega) h).2.2
  rw [x_ct_cnt, show x.toInt.toNat = x.toBitVec.toNat by omega]
  exact x_cnt_c 62 (fun i _ => rfl)
section BST
variable {K : Nat} {W f : Int} {y : Nat → Int}
theorem sb_31 (H : x_sb (K : Int) W y) (hW : W ≤ 24) : ∀ m : Nat, m < K → 0 ≤ y m ∧ y m < 31 := fun m hm => by
  have := H m (by omega)
  omega
theorem x_on_br (H : x_sb (K : Int) W y) (hW : W ≤ 24) (h0 : 0 ≤ f ∧ f ≤ 59) (h1 : f + W ≤ 60) {n : Nat} (hn : n ≤ K) {i : Nat} : x_on (x_wd (x_br y n) f) i = true ↔ ∃ m : Nat, m < n ∧ f + y m = (i : Int) := by
  have s31 := sb_31 H hW
  have b31 := x_br_31 (n := n) (fun m hm => s31 m (by omega))
  rw [x_on_wd b31 h0.1 (by omega), Bool.and_eq_true, decide_eq_true_eq]
  constructor
  · rintro ⟨h2, h3⟩
    by_cases g : i - f.toNat < 32
    · obtain ⟨m, m1, m2⟩ := (x_br_ib g n (fun m hm => s31 m (by omega))).mp h3
      exact ⟨m, m1, by omega⟩
    · rw [x_ib_32 (by omega)] at h3
      exact absurd h3 (by decide)
  · rintro ⟨m, m1, m2⟩
    have hm := H m (by omega)
    have g : i - f.toNat < 32 := by omega
    exact ⟨by omega, (x_br_ib g n (fun m hm => s31 m (by omega))).mpr ⟨m, m1, by omega⟩⟩
theorem x_wd_hi (H : x_sb (K : Int) W y) (hW : W ≤ 24) (h0 : 0 ≤ f ∧ f ≤ 59) (h1 : f + W ≤ 60) {n : Nat} (hn : n ≤ K) : ∀ i : Nat, 60 ≤ i → x_on (x_wd (x_br y n) f) i = false := fun i hi => by
  rw [Bool.eq_false_iff]
  intro z
  obtain ⟨m, m1, m2⟩ := (x_on_br H hW h0 h1 hn).mp z
  have := H m (by omega)
  omega
end BST
/-! drops alike -/
noncomputable def x_al (p : Nat → Nat → Bool) (K : Nat) : Nat → Nat → Bool
  | 0, _ => true
  | d + 1, c => x_al p K d c && p (K - (d + 1)) c
theorem x_al_i {p : Nat → Nat → Bool} {K c : Nat} : ∀ d : Nat, d ≤ K → (x_al p K d c = true ↔ ∀ m : Nat, K ≤ m + d → m < K → p m c = true)
  | 0, _ => ⟨fun _ m h1 h2 => by omega, fun _ => rfl⟩
  | d + 1, hd => by
    rw [x_al, Bool.and_eq_true, x_al_i d (by omega)]
    constructor
    · rintro ⟨h1, h2⟩ m m1 m2
      by_cases g : K ≤ m + d
      · exact h1 m g m2
      · rw [show m = K - (d + 1) by omega]
        exact h2
    · intro h
      exact ⟨fun m m1 m2 => h m (by omega) m2, h (K - (d + 1)) (by omega) (by omega)⟩
theorem btq_ct {f : Nat → Bool} {n : Nat} (h : n ≤ 31) : x_ct (x_btq f n).toInt.toNat 62 = x_cnt f n := by
  have b : ∀ i : Nat, x_ib (x_btq f n) i = (decide (i < n) && f i) := fun i => by
    by_cases g : i < 32
    · exact x_ib_btq n i (by omega) g
    · rw [x_ib_32 (by omega), decide_eq_false (by omega), Bool.false_and]
  have e := x_ib_nn (x := x_btq f n) (by rw [b, decide_eq_false (by omega), Bool.false_and])
  rw [x_ct_cnt, show (x_btq f n).toInt.toNat = (x_btq f n).toBitVec.toNat by omega]
  refine (x_cnt_c (g := fun i => decide (i < n) && f i) 62 (fun i _ => b i)).trans ?_
  rw [show (62 : Nat) = n + (62 - n) by omega, x_cnt_z (fun i hi => by rw [decide_eq_false (by omega), Bool.false_and])]
  exact x_cnt_c n (fun i hi => by rw [decide_eq_true hi, Bool.true_and])
theorem btq_le {f : Nat → Bool} {n : Nat} (h : n ≤ 30) : 0 ≤ (x_btq f n).toInt ∧ (x_btq f n).toInt < 1073741824 := x_ib_le (n := 30) (by decide) (fun i hi => by
  by_cases g : i < 32
  · rw [x_ib_btq n i (by omega) g, decide_eq_false (by omega), Bool.false_and]
  · exact x_ib_32 (by omega))
/-- cards without the word, cards cut at a hole -/
noncomputable def x_wo9 (K : x_Kn) (w : Int) (ca : Nat) : Int32 := x_btq (fun c => decide (x_hw K c w = 0)) ca
noncomputable def x_cc9 (K : x_Kn) (ca : Nat) (h : Int) : Int32 := x_btq (fun c => x_on (K.1 c) h.toNat) ca
noncomputable def x_cu9 (K : x_Kn) (w : Int) (ca : Nat) (f : Int) (i : Nat) : Int32 := x_wo9 K w ca &&& x_cc9 K ca (f + (i : Int))
noncomputable def x_D9 (Q : x_Kn) (w : Int) (ca : Nat) (f : Int) (K : Nat) (y : Nat → Int) : Int := ((x_ct (x_dd (x_wo9 Q w ca) (x_cu9 Q w ca f) y K K).toInt.toNat 62 : Nat) : Int)
theorem x_dd_b {Q : x_Kn} {w f : Int} {ca K : Nat} {y : Nat → Int} (hn : ca ≤ 32) (hy : ∀ m : Nat, m < K → 0 ≤ y m) : ∀ d : Nat, d ≤ K → x_dd (x_wo9 Q w ca) (x_cu9 Q w ca f) y K d = x_btq (fun c => decide (x_hw Q c w = 0) && x_al (fun m c => x_on (Q.1 c) (f + y m).toNat) K d c) ca
  | 0, _ => by
    rw [x_dd, x_wo9]
    exact x_btq_c ca (fun i _ => by rw [x_al, Bool.and_true])
  | d + 1, hd => by
    have h0 := hy (K - (d + 1)) (by omega)
    rw [x_dd, x_dd_b hn hy d (by omega), x_cu9, x_wo9, x_cc9, x_btq_an hn, x_btq_an hn, show f + (((y (K - (d + 1))).toNat : Nat) : Int) = f + y (K - (d + 1)) by omega]
    refine x_btq_c ca (fun i _ => ?_)
    rw [x_al]
    cases decide (x_hw Q i w = 0) <;> simp
theorem fl_cnt {Q : x_Kn} {w : Int} {h : Int64} {f : Nat → Bool} (hf : ∀ c : Nat, f c = true ↔ x_hw Q c w = 0 ∧ x_eq (Q.1 c &&& h) h = 1) : ∀ (m c : Nat) (n : Int), x_fl9 Q w h m c n + ((x_cnt f c : Nat) : Int) = n + ((x_cnt f (c + m) : Nat) : Int)
  | 0, c, n => rfl
  | m + 1, c, n => by
    have ih := fl_cnt hf m (c + 1) (if x_hw Q c w = 0 ∧ x_eq (Q.1 c &&& h) h = 1 then n + 1 else n)
    rw [x_fl9, show c + (m + 1) = c + 1 + m by omega]
    rw [x_cnt] at ih
    by_cases g : f c = true
    · rw [if_pos g, if_pos ((hf c).mp g)] at ih
      rw [if_pos ((hf c).mp g)]
      omega
    · rw [if_neg g, if_neg (fun z => g ((hf c).mpr z))] at ih
      rw [if_neg (fun z => g ((hf c).mpr z))]
      omega
theorem x_sub_on {a h : Int64} : x_eq (a &&& h) h = 1 ↔ ∀ i : Nat, x_on h i = true → x_on a i = true := by
  rw [x_eq_1]
  constructor
  · intro e i hi
    rw [← e, x_on_and, Bool.and_eq_true] at hi
    exact hi.1
  · intro H
    refine x_on_ext (fun i _ => ?_)
    rw [x_on_and]
    by_cases g : x_on h i = true
    · rw [g, H i g]; rfl
    · rw [Bool.not_eq_true] at g
      rw [g, Bool.and_false]
section BSD
variable {Q : x_Kn} {w W f : Int} {ca K : Nat} {y : Nat → Int}
theorem x_D9_e (H : x_sb (K : Int) W y) (hW : W ≤ 24) (h0 : 0 ≤ f ∧ f ≤ 59) (h1 : f + W ≤ 60) (hca : ca ≤ 30) : x_fl9 Q w (x_wd (x_br y K) f) ca 0 0 = x_D9 Q w ca f K y := by
  have z := fl_cnt (Q := Q) (w := w) (h := x_wd (x_br y K) f) (f := fun c => decide (x_hw Q c w = 0) && x_al (fun m c => x_on (Q.1 c) (f + y m).toNat) K K c) (fun c => by
    show (decide (x_hw Q c w = 0) && x_al (fun m c => x_on (Q.1 c) (f + y m).toNat) K K c) = true ↔ _
    rw [Bool.and_eq_true, decide_eq_true_eq, x_al_i K (Nat.le_refl K), x_sub_on]
    constructor
    · rintro ⟨a, b⟩
      refine ⟨a, fun i hi => ?_⟩
      obtain ⟨m, m1, m2⟩ := (x_on_br H hW h0 h1 (Nat.le_refl K)).mp hi
      have t := b m (by omega) m1
      rw [m2] at t
      exact t
    · rintro ⟨a, b⟩
      refine ⟨a, fun m _ m1 => b _ ((x_on_br H hW h0 h1 (Nat.le_refl K)).mpr ⟨m, m1, ?_⟩)⟩
      have := H m (by omega)
      omega) ca 0 0
  unfold x_D9
  rw [x_dd_b (by omega) (fun m hm => (H m (by omega)).1) K (Nat.le_refl K), btq_ct (by omega)]
  rw [Nat.zero_add] at z
  have q : x_cnt (fun c => decide (x_hw Q c w = 0) && x_al (fun m c => x_on (Q.1 c) (f + y m).toNat) K K c) 0 = 0 := rfl
  rw [q] at z
  omega
end BSD
/-! holes shared alike -/
noncomputable def x_ob (Q : x_Kn) (w h : Int) (v : Nat) : Bool := decide (¬ (v : Int) = w) && x_on (Q.2.2.2 v) h.toNat
noncomputable def x_oa9 (Q : x_Kn) (w h : Int) : Nat → Nat → Int → Int
  | 0, _, n => n
  | m + 1, v, n => x_oa9 Q w h m (v + 1) (if x_ob Q w h v = true then n + 1 else n)
theorem oa_cnt {Q : x_Kn} {w h : Int} : ∀ (m c : Nat) (n : Int), x_oa9 Q w h m c n + ((x_cnt (x_ob Q w h) c : Nat) : Int) = n + ((x_cnt (x_ob Q w h) (c + m) : Nat) : Int)
  | 0, c, n => rfl
  | m + 1, c, n => by
    have ih := oa_cnt (Q := Q) (w := w) (h := h) m (c + 1) (if x_ob Q w h c = true then n + 1 else n)
    rw [x_oa9, show c + (m + 1) = c + 1 + m by omega]
    rw [x_cnt] at ih
    by_cases g : x_ob Q w h c = true
    · rw [if_pos g, if_pos g] at ih
      rw [if_pos g]
      omega
    · rw [if_neg g, if_neg g] at ih
      rw [if_neg g]
      omega
noncomputable def x_sw (Q : x_Kn) (w : Int) (h : Int64) (v : Nat) : Int := if (v : Int) = w then 0 else ((x_ct (Q.2.2.2 v &&& h).toInt.toNat 62 : Nat) : Int)
noncomputable def x_sh9 (Q : x_Kn) (w : Int) (h : Int64) : Nat → Nat → Int → Int
  | 0, _, n => n
  | m + 1, v, n => x_sh9 Q w h m (v + 1) (n + x_sw Q w h v)
noncomputable def x_sum (g : Nat → Int) : Nat → Int
  | 0 => 0
  | n + 1 => x_sum g n + g n
theorem sh_sum {Q : x_Kn} {w : Int} {h : Int64} : ∀ (m c : Nat) (n : Int), x_sh9 Q w h m c n + x_sum (x_sw Q w h) c = n + x_sum (x_sw Q w h) (c + m)
  | 0, c, n => rfl
  | m + 1, c, n => by
    have ih := sh_sum (Q := Q) (w := w) (h := h) m (c + 1) (n + x_sw Q w h c)
    rw [x_sum] at ih
    rw [x_sh9, show c + (m + 1) = c + 1 + m by omega]
    omega
theorem x_sum_a {g k : Nat → Int} {f : Nat → Bool} : ∀ n : Nat, (∀ i : Nat, i < n → k i = g i + (if f i = true then 1 else 0)) → x_sum k n = x_sum g n + ((x_cnt f n : Nat) : Int)
  | 0, _ => rfl
  | n + 1, h => by
    have ih := x_sum_a n (fun i hi => h i (by omega))
    rw [x_sum, x_sum, x_cnt, ih, h n (by omega)]
    by_cases g : f n = true
    · rw [if_pos g, if_pos g]
      omega
    · rw [if_neg g, if_neg g]
      omega
theorem x_sum_0 {g : Nat → Int} : ∀ n : Nat, (∀ i : Nat, i < n → g i = 0) → x_sum g n = 0
  | 0, _ => rfl
  | n + 1, h => by rw [x_sum, x_sum_0 n (fun i hi => h i (by omega)), h n (by omega)]; rfl
noncomputable def x_S9 (Q : x_Kn) (w f : Int) (nw K : Nat) (y : Nat → Int) : Int := x_ss (fun i => x_oa9 Q w (f + (i : Int)) nw 0 0) y K K
section BSS
variable {Q : x_Kn} {w W f : Int} {nw K : Nat} {y : Nat → Int}
theorem x_oa_c {h : Int} : x_oa9 Q w h nw 0 0 = ((x_cnt (x_ob Q w h) nw : Nat) : Int) := by
  have z := oa_cnt (Q := Q) (w := w) (h := h) nw 0 0
  rw [Nat.zero_add] at z
  have q : x_cnt (x_ob Q w h) 0 = 0 := rfl
  rw [q] at z
  omega
theorem x_oa_b {h : Int} (hn : nw ≤ 12) : 0 ≤ x_oa9 Q w h nw 0 0 ∧ x_oa9 Q w h nw 0 0 ≤ 12 := by
  have := x_cnt_le (f := x_ob Q w h) nw
  rw [x_oa_c]
  omega
/-- one position more -/
theorem x_sw_s (H : x_sb (K : Int) W y) (hW : W ≤ 24) (h0 : 0 ≤ f ∧ f ≤ 59) (h1 : f + W ≤ 60) {n : Nat} (hn : n < K) (v : Nat) : x_sw Q w (x_wd (x_br y (n + 1)) f) v = x_sw Q w (x_wd (x_br y n) f) v + (if x_ob Q w (f + y n) v = true then 1 else 0) := by
  unfold x_sw
  by_cases g : (v : Int) = w
  · rw [if_pos g, if_pos g, x_ob, decide_eq_false (fun z => z g), Bool.false_and, if_neg (by decide)]
    rfl
  · have hh : ∀ n : Nat, n ≤ K → ∀ i : Nat, 60 ≤ i → x_on (Q.2.2.2 v &&& x_wd (x_br y n) f) i = false := fun n hn i hi => by rw [x_on_and, x_wd_hi H hW h0 h1 hn i hi, Bool.and_false]
    have hy := H n (by omega)
    rw [if_neg g, if_neg g, x_on_ct (by decide) (hh (n + 1) (by omega)), x_on_ct (by decide) (hh n (by omega))]
    have e1 : x_cnt (x_on (Q.2.2.2 v &&& x_wd (x_br y n) f)) 62 = x_cnt (fun j => x_on (Q.2.2.2 v) j && x_on (x_wd (x_br y n) f) j) 62 := x_cnt_c 62 (fun i _ => x_on_and)
    have e2 : x_cnt (x_on (Q.2.2.2 v &&& x_wd (x_br y (n + 1)) f)) 62 = x_cnt (fun j => x_on (Q.2.2.2 v) j && (x_on (x_wd (x_br y n) f) j || decide (j = (f + y n).toNat))) 62 := x_cnt_c 62 (fun i _ => by
      rw [x_on_and]
      congr 1
      rw [Bool.eq_iff_iff, Bool.or_eq_true, decide_eq_true_eq, x_on_br H hW h0 h1 (show n + 1 ≤ K by omega), x_on_br H hW h0 h1 (show n ≤ K by omega)]
      constructor
      · rintro ⟨m, m1, m2⟩
        by_cases q : m = n
        · rw [q] at m2
          exact Or.inr (by omega)
        · exact Or.inl ⟨m, by omega, m2⟩
      · rintro (⟨m, m1, m2⟩ | m1)
        · exact ⟨m, by omega, m2⟩
        · exact ⟨n, by omega, by omega⟩)
    have p : x_on (x_wd (x_br y n) f) (f + y n).toNat = false := by
      rw [Bool.eq_false_iff]
      intro z
      obtain ⟨m, m1, m2⟩ := (x_on_br H hW h0 h1 (show n ≤ K by omega)).mp z
      have l := sb_lt H (n - m) m (by omega)
      rw [show m + (n - m) = n by omega] at l
      omega
    rw [e1, e2, x_cnt_o p, x_ob, decide_eq_true g, Bool.true_and]
    by_cases q : x_on (Q.2.2.2 v) (f + y n).toNat = true
    · have a1 : (if (f + y n).toNat < 62 ∧ x_on (Q.2.2.2 v) (f + y n).toNat = true then 1 else 0) = 1 := if_pos ⟨by omega, q⟩
      rw [a1, if_pos q]
      omega
    · have a1 : (if (f + y n).toNat < 62 ∧ x_on (Q.2.2.2 v) (f + y n).toNat = true then 1 else 0) = 0 := if_neg (fun z => q z.2)
      rw [a1, if_neg q]
      omega
noncomputable def x_low (g : Nat → Int) (y : Nat → Int) : Nat → Int
  | 0 => 0
  | n + 1 => x_low g y n + g (y n).toNat
theorem x_ss_low {g : Nat → Int} : ∀ d : Nat, d ≤ K → x_ss g y K d + x_low g y (K - d) = x_low g y K
  | 0, _ => by
    rw [x_ss, Int.zero_add]
    rfl
  | d + 1, h => by
    have ih := x_ss_low (g := g) d (by omega)
    rw [show K - d = (K - (d + 1)) + 1 by omega, x_low] at ih
    rw [x_ss]
    omega
theorem x_S9_s (H : x_sb (K : Int) W y) (hW : W ≤ 24) (h0 : 0 ≤ f ∧ f ≤ 59) (h1 : f + W ≤ 60) : ∀ n : Nat, n ≤ K → x_sum (x_sw Q w (x_wd (x_br y n) f)) nw = x_low (fun i => x_oa9 Q w (f + (i : Int)) nw 0 0) y n
  | 0, _ => x_sum_0 nw (fun v _ => by
    have hz : ∀ i : Nat, 0 ≤ i → x_on (Q.2.2.2 v &&& x_wd (x_br y 0) f) i = false := fun i _ => by
      have q : x_on (x_wd (x_br y 0) f) i = false := by
        rw [Bool.eq_false_iff]
        intro z
        obtain ⟨m, m1, _⟩ := (x_on_br H hW h0 h1 (Nat.zero_le K)).mp z
        exact absurd m1 (Nat.not_lt_zero m)
      rw [x_on_and, q, Bool.and_false]
    have h9 : x_cnt (x_on (Q.2.2.2 v &&& x_wd (x_br y 0) f)) 62 = 0 := x_cnt_z (m := 0) hz 62
    unfold x_sw
    by_cases g : (v : Int) = w
    · exact if_pos g
    · rw [if_neg g, x_on_ct (by decide) hz, h9]
      rfl)
  | n + 1, hn => by
    have hy := H n (by omega)
    rw [x_low, ← x_S9_s H hW h0 h1 n (by omega), x_oa_c, show f + (((y n).toNat : Nat) : Int) = f + y n by omega]
    exact x_sum_a nw (fun v _ => x_sw_s H hW h0 h1 (by omega) v)
theorem x_S9_e (H : x_sb (K : Int) W y) (hW : W ≤ 24) (h0 : 0 ≤ f ∧ f ≤ 59) (h1 : f + W ≤ 60) : x_sh9 Q w (x_wd (x_br y K) f) nw 0 0 = x_S9 Q w f nw K y := by
  have z := sh_sum (Q := Q) (w := w) (h := x_wd (x_br y K) f) nw 0 0
  have l := x_ss_low (K := K) (y := y) (g := fun i => x_oa9 Q w (f + (i : Int)) nw 0 0) K (Nat.le_refl K)
  rw [Nat.zero_add, x_S9_s (nw := nw) H hW h0 h1 K (Nat.le_refl K)] at z
  rw [Nat.sub_self] at l
  have q : x_sum (x_sw Q w (x_wd (x_br y K) f)) 0 = 0 := rfl
  have q2 : x_low (fun i => x_oa9 Q w (f + (i : Int)) nw 0 0) y 0 = 0 := rfl
  unfold x_S9
  rw [q] at z
  rw [q2] at l
  omega
end BSS
