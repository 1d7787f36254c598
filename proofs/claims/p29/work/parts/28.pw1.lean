abbrev md_w30 (a i : Nat) : Prop := a = 1 ∧ 6 ≤ i ∧ i ≤ 11 ∨ a = 30
abbrev md_w31 (a i : Nat) : Prop := a = 1 ∧ 6 ≤ i ∧ i ≤ 11 ∨ a = 31
abbrev md_w32 (a i : Nat) : Prop := a = 1 ∧ 6 ≤ i ∧ i ≤ 11 ∨ a = 32
abbrev md_w103 (a i : Nat) : Prop := a = 1 ∧ 6 ≤ i ∧ i ≤ 11 ∨ a = 33
abbrev md_w101 (a i : Nat) : Prop := a = 1 ∧ 6 ≤ i ∧ i ≤ 11 ∨ 30 ≤ a ∧ a ≤ 33
abbrev md_w100 (a i : Nat) : Prop := a = 1 ∧ 6 ≤ i ∧ i ≤ 11 ∨ 28 ≤ a ∧ a ≤ 35
abbrev md_p8 (a i : Nat) : Prop := 19 ≤ a ∧ a ≤ 25
abbrev md_p6 (a i : Nat) : Prop := 19 ≤ a ∧ a ≤ 26
abbrev md_wd (a i : Nat) : Prop := a = 28 ∧ 8 ≤ i ∧ i ≤ 10 ∨ 19 ≤ a ∧ a ≤ 26
abbrev md_p45 (a i : Nat) : Prop := a = 45
abbrev md_p42 (a i : Nat) : Prop := 42 ≤ a ∧ a ≤ 44
/-! bits of a long -/
noncomputable def x_on (x : Int64) (i : Nat) : Bool := x.toBitVec.getLsbD i
theorem x_on_or {x y : Int64} {i : Nat} : x_on (x ||| y) i = (x_on x i || x_on y i) := by
  unfold x_on
  rw [Int64.toBitVec_or, BitVec.getLsbD_or]
theorem x_on_and {x y : Int64} {i : Nat} : x_on (x &&& y) i = (x_on x i && x_on y i) := by
  unfold x_on
  rw [Int64.toBitVec_and, BitVec.getLsbD_and]
theorem x_on_xor {x y : Int64} {i : Nat} : x_on (x ^^^ y) i = (x_on x i ^^ x_on y i) := by
  unfold x_on
  rw [Int64.toBitVec_xor, BitVec.getLsbD_xor]
theorem x_on_0 {i : Nat} : x_on 0 i = false := by
  unfold x_on
  rw [Int64.toBitVec_zero, BitVec.getLsbD_zero]
theorem x_on_m1 {i : Nat} (h : i < 64) : x_on (-1) i = true := by
  unfold x_on
  rw [show (-1 : Int64).toBitVec = BitVec.allOnes 64 by decide, BitVec.getLsbD_allOnes]
  exact decide_eq_true h
theorem x_on_64 {x : Int64} {i : Nat} (h : 64 ≤ i) : x_on x i = false := BitVec.getLsbD_of_ge _ _ h
theorem x_on_ext {x y : Int64} (h : ∀ i : Nat, i < 64 → x_on x i = x_on y i) : x = y := Int64.toBitVec.inj (BitVec.eq_of_getLsbD_eq h)
theorem x_bit_o : ∀ h : Fin 64, (x_bit h.val).toBitVec = 1#64 <<< h.val := by decide +kernel
theorem x_on_bit {h : Int} {i : Nat} (h0 : 0 ≤ h) (h1 : h < 64) : x_on (x_bit h) i = decide ((i : Int) = h) := by
  have e := x_bit_o ⟨h.toNat, by omega⟩
  simp only [show ((h.toNat : Nat) : Int) = h by omega] at e
  unfold x_on
  rw [e, BitVec.getLsbD_shiftLeft, BitVec.getLsbD_one, Bool.eq_iff_iff]
  simp only [Bool.and_eq_true, Bool.not_eq_true', decide_eq_true_eq, decide_eq_false_iff_not]
  omega
theorem x_on_bwr : ∀ (m h : Nat) (acc : Int64) (i : Nat), h + m ≤ 64 → x_on (x_bwr m acc h) i = (x_on acc i || decide (h ≤ i ∧ i < h + m))
  | 0, h, acc, i, _ => by rw [x_bwr, decide_eq_false (by omega), Bool.or_false]
  | m + 1, h, acc, i, hm => by
    rw [x_bwr, x_on_bwr m (h + 1) _ i (by omega), x_on_or, x_on_bit (by omega) (by omega), Bool.or_assoc, ← Bool.decide_or]
    congr 1
    exact decide_eq_decide.mpr (by omega)
theorem x_on_bw {a b : Int} {i : Nat} (h0 : 0 ≤ a) (h1 : a ≤ b) (h2 : b ≤ 59) : x_on (x_bw a b) i = decide (a ≤ (i : Int) ∧ (i : Int) ≤ b) := by
  rw [← x_bw_r h0 h1 h2, x_on_bwr _ _ _ _ (by omega), x_on_0, Bool.false_or]
  exact decide_eq_decide.mpr (by omega)
theorem x_sh_o : ∀ h : Fin 64, ((x_sh h.val).toBitVec.smod 64).toNat = h.val := by decide +kernel
theorem x_on_shl {x : Int64} {h : Int} {i : Nat} (h0 : 0 ≤ h) (h1 : h < 64) : x_on (x <<< x_sh h) i = (decide (i < 64 ∧ h ≤ (i : Int)) && x_on x (i - h.toNat)) := by
  have e := x_sh_o ⟨h.toNat, by omega⟩
  simp only [show ((h.toNat : Nat) : Int) = h by omega] at e
  unfold x_on
  rw [Int64.toBitVec_shiftLeft, BitVec.getLsbD_shiftLeft', e]
  congr 1
  rw [Bool.eq_iff_iff]
  simp only [Bool.and_eq_true, Bool.not_eq_true', decide_eq_true_eq, decide_eq_false_iff_not]
  omega
theorem x_on_lt {x : Int64} {i n : Nat} (h0 : 0 ≤ x.toInt) (h1 : x.toInt < (2 ^ n : Nat)) (h : x_on x i = true) : i < n := by
  unfold x_on at h
  by_cases g : i < n
  · exact g
  · exfalso
    have e : x.toInt = (x.toBitVec.toNat : Int) := by
      have z := BitVec.toInt_eq_toNat_cond x.toBitVec
      have lt := x.toBitVec.isLt
      have h0 : 0 ≤ x.toBitVec.toInt := h0
      show x.toBitVec.toInt = _
      rw [z] at h0 ⊢
      split
      · rfl
      · rename_i q
        rw [if_neg q] at h0
        omega
    have le : 2 ^ n ≤ 2 ^ i := Nat.pow_le_pow_right (by decide) (by omega)
    rw [← BitVec.testBit_toNat, Nat.testBit_lt_two_pow (by omega)] at h
    exact Bool.false_ne_true h
/-! a plan that is read has its words' codes within their fields, its fields within its holes -/
noncomputable def x_G8 (s : x_S) : Prop := (∀ k : Int, 0 ≤ k → k < s.2.1 → x_row s 4 k ≤ s.1 - 1) ∧ ∀ w : Int, 0 ≤ w → w < s.2.2.1 → ∀ i : Nat, x_on (Int64.ofInt (x_row s 8 w)) i = true → x_row s 3 (x_row s 7 w) ≤ (i : Int) ∧ (i : Int) ≤ x_row s 4 (x_row s 7 w)
section XG8
variable {s : x_S} {nm kd f l c k : Int} {r : Nat}
theorem x_push_r (h : ¬ k = s.2.1 ∨ 6 ≤ r) (k0 : 0 ≤ k) : x_row (x_push s nm kd f l c) r k = x_row s r k := by
  show (if r ≤ 5 ∧ ((k.toNat : Nat) : Int) = s.2.1 then _ else _) = _
  rw [if_neg (fun z => by omega)]
  rfl
theorem x_push_4 (k0 : 0 ≤ s.2.1) : x_row (x_push s nm kd f l c) 4 s.2.1 = l := by
  show (if (4 : Nat) ≤ 5 ∧ ((s.2.1.toNat : Nat) : Int) = s.2.1 then _ else _) = _
  rw [if_pos ⟨by decide, by omega⟩]
  rfl
theorem x_pushw_r {b : Int} (h : ¬ k = s.2.2.1 ∨ r ≤ 5) (k0 : 0 ≤ k) : x_row (x_pushw s nm f b) r k = x_row s r k := by
  show (if 6 ≤ r ∧ ((k.toNat : Nat) : Int) = s.2.2.1 then _ else _) = _
  rw [if_neg (fun z => by omega)]
  rfl
theorem x_pushw_7 {b : Int} (k0 : 0 ≤ s.2.2.1) : x_row (x_pushw s nm f b) 7 s.2.2.1 = f := by
  show (if 6 ≤ (7 : Nat) ∧ ((s.2.2.1.toNat : Nat) : Int) = s.2.2.1 then _ else _) = _
  rw [if_pos ⟨by decide, by omega⟩]
  rfl
theorem x_pushw_8 {b : Int} (k0 : 0 ≤ s.2.2.1) : x_row (x_pushw s nm f b) 8 s.2.2.1 = b := by
  show (if 6 ≤ (8 : Nat) ∧ ((s.2.2.1.toNat : Nat) : Int) = s.2.2.1 then _ else _) = _
  rw [if_pos ⟨by decide, by omega⟩]
  rfl
theorem x_G8_p (H : x_G s) (G : x_G8 s) (hl : l ≤ s.1 - 1) : x_G8 (x_push s nm kd f l c) := by
  have a3 := H.2.2.1
  refine ⟨fun k k0 k1 => ?_, fun w w0 w1 i hi => ?_⟩
  · have k1 : k < s.2.1 + 1 := k1
    show x_row (x_push s nm kd f l c) 4 k ≤ s.1 - 1
    by_cases g : k = s.2.1
    · rw [g, x_push_4 a3]
      exact hl
    · rw [x_push_r (Or.inl g) k0]
      exact G.1 k k0 (by omega)
  · have w1 : w < s.2.2.1 := w1
    have a9 := H.2.2.2.2.2.2.1 w w0 w1
    rw [x_push_r (Or.inr (by decide)) w0] at hi ⊢
    have z := G.2 w w0 w1 i hi
    rw [x_push_r (r := 3) (Or.inl (by omega)) a9.1, x_push_r (r := 4) (Or.inl (by omega)) a9.1]
    exact z
theorem x_G8_w {b : Int64} (H : x_G s) (G : x_G8 s) (hf : 0 ≤ f) (hb : ∀ i : Nat, x_on b i = true → x_row s 3 f ≤ (i : Int) ∧ (i : Int) ≤ x_row s 4 f) : x_G8 (x_pushw s nm f b.toInt) := by
  have a5 := H.2.2.2.2.1
  refine ⟨fun k k0 k1 => ?_, fun w w0 w1 i hi => ?_⟩
  · rw [x_pushw_r (Or.inr (by decide)) k0]
    exact G.1 k k0 k1
  · have w1 : w < s.2.2.1 + 1 := w1
    by_cases g : w = s.2.2.1
    · rw [g, x_pushw_8 a5, Int64.ofInt_toInt] at hi
      rw [g, x_pushw_7 a5, x_pushw_r (Or.inr (by decide)) hf, x_pushw_r (Or.inr (by decide)) hf]
      exact hb i hi
    · have a9 := H.2.2.2.2.2.2.1 w w0 (by omega)
      rw [x_pushw_r (Or.inl g) w0] at hi ⊢
      rw [x_pushw_r (Or.inr (by decide)) a9.1, x_pushw_r (Or.inr (by decide)) a9.1]
      exact G.2 w w0 (by omega) i hi
end XG8
section G8P
variable {t : Nat → Int} {nn : Int} {s : x_S} {nm kd f l a : Int} {k : x_K} {R : Int × x_S} {Q : Prop}
theorem g8_fc (H : x_G s) (G : x_G8 s) (hF : s.2.1 ≤ 7) (h2 : 0 ≤ f ∧ f ≤ l ∧ l ≤ 59 ∧ l - f ≤ 23) (hl : l ≤ s.1 - 1) (hk : ∀ (a2 : Int) (s2 : x_S), x_G s2 → x_G8 s2 → k a2 s2 = some R → Q) (h : x_fc t nn s nm f l a k = some R) : Q := by
  unfold x_fc at h
  split at h
  · rename_i z
    exact hk _ _ (x_G_p H hF ⟨by decide, by decide⟩ h2 ⟨z.2.1, by omega⟩ (fun _ => z.2.2.1)) (x_G8_p H G hl) h
  · cases h
theorem g8_fm (H : x_G s) (G : x_G8 s) (hF : s.2.1 ≤ 7) (h0 : 0 ≤ f) (hk : ∀ (a2 : Int) (s2 : x_S), x_G s2 → x_G8 s2 → k a2 s2 = some R → Q) (h : x_fm t nn s nm kd f a k = some R) : Q := by
  have h60 := H.2.1
  unfold x_fm at h
  split at h
  · rename_i z
    obtain ⟨z1, z2, z3, z4, z5, -⟩ := z
    split at h
    · rename_i q
      have z3 := z3 q
      exact hk _ _ (x_G_p H hF ⟨by decide, by decide⟩ ⟨h0, z2, by omega, by omega⟩ ⟨by omega, by omega⟩ (fun q2 => absurd q2 (by decide))) (x_G8_p H G z4) h
    · exact g8_fc H G hF ⟨h0, z2, by omega, by omega⟩ z4 hk h
  · cases h
theorem g8_fl (H : x_G s) (G : x_G8 s) (hF : s.2.1 ≤ 7) (hk : ∀ (a2 : Int) (s2 : x_S), x_G s2 → x_G8 s2 → k a2 s2 = some R → Q) (h : x_fl t nn s nm kd a k = some R) : Q := by
  unfold x_fl at h
  split at h
  · rename_i z
    exact g8_fm H G hF (x_val_b z.1).1 hk h
  · cases h
theorem g8_fd (H : x_G s) (G : x_G8 s) (hF : s.2.1 ≤ 7) (hd : kd = 1 ∨ kd = 2) (hk : ∀ (a2 : Int) (s2 : x_S), x_G s2 → x_G8 s2 → k a2 s2 = some R → Q) (h : x_fd t nn s nm kd a k = some R) : Q := by
  have h60 := H.2.1
  unfold x_fd at h
  split at h
  · rename_i z
    have v := (x_val_b z.1).1
    have z2 := z.2.1
    exact hk _ _ (x_G_p H hF ⟨by omega, by omega⟩ ⟨v, by omega, by omega, by omega⟩ ⟨by decide, by decide⟩ (fun q => by omega)) (x_G8_p H G (by omega)) h
  · cases h
theorem g8_field (H : x_G s) (G : x_G8 s) (hk : ∀ (a2 : Int) (s2 : x_S), x_G s2 → x_G8 s2 → k a2 s2 = some R → Q) (h : x_field t nn s a k = some R) : Q := by
  unfold x_field at h
  split at h
  · rename_i z
    have hF : s.2.1 ≤ 7 := by have := z.1; omega
    unfold x_fk at h
    split at h
    · unfold x_fs at h
      split at h
      · rename_i q
        exact g8_fd H G hF q hk h
      · exact g8_fl H G hF hk h
    · cases h
  · cases h
theorem g8_rc (H : x_G s) (G : x_G8 s) (hW : s.2.2.1 ≤ 11) (hf : 0 ≤ f ∧ f < s.2.1 ∧ x_row s 2 f = 3) (hk : ∀ (a2 : Int) (s2 : x_S), x_G s2 → x_G8 s2 → k a2 s2 = some R → Q) : ∀ (fu : Nat) (told : Int) (bits : Int64) (a : Int), (∀ i : Nat, x_on bits i = true → x_row s 3 f ≤ (i : Int) ∧ (i : Int) ≤ x_row s 4 f) → x_rc t nn s f nm k fu told bits a = some R → Q
  | 0, told, bits, a, _, h => by
    rw [x_rc] at h
    cases h
  | fu + 1, told, bits, a, hb, h => by
    rw [x_rc] at h
    split at h
    · rename_i z
      have v := x_val_b z
      split at h
      · rename_i q
        have r := H.2.2.2.2.2.2.2 f hf.1 hf.2.1
        refine g8_rc H G hW hf hk fu _ _ _ (fun i hi => ?_) h
        rw [x_on_or, Bool.or_eq_true] at hi
        rcases hi with hi | hi
        · exact hb i hi
        · rw [x_on_bit (by omega) (by omega), decide_eq_true_eq] at hi
          omega
      · cases h
    · split at h
      · exact hk _ _ (x_G_w H hW hf) (x_G8_w H G hf.1 hb) h
      · cases h
theorem g8_word (H : x_G s) (G : x_G8 s) (hk : ∀ (a2 : Int) (s2 : x_S), x_G s2 → x_G8 s2 → k a2 s2 = some R → Q) (h : x_word t nn s a k = some R) : Q := by
  unfold x_word at h
  split at h
  · rename_i z
    unfold x_wn at h
    split at h
    · exact g8_rc H G (by have := z.1; omega) ⟨z.2.2.1, (x_fn_b H).2.2 z.2.2.1, z.2.2.2⟩ hk 6 0 0 _ (fun i hi => by rw [x_on_0] at hi; exact absurd hi (by decide)) h
    · cases h
  · cases h
theorem g8_line {L : Int} (H : x_G s) (G : x_G8 s) (hL : L = 0 → s.2.1 = 0) (hk : ∀ (a2 : Int) (s2 : x_S), x_G s2 → x_G8 s2 → k a2 s2 = some R → Q) (h : x_line t nn L s a k = some R) : Q := by
  unfold x_line at h
  split at h
  · rename_i z
    unfold x_holes at h
    split at h
    · rename_i q
      have e := hL z.2.2
      refine hk _ _ (x_G_h H q.2) ⟨fun k k0 k1 => ?_, fun w w0 w1 i hi => G.2 w w0 w1 i hi⟩ h
      have k1 : k < s.2.1 := k1
      exfalso
      omega
    · cases h
  · split at h
    · exact g8_field H G hk h
    · split at h
      · exact g8_word H G hk h
      · cases h
theorem g8_plan : ∀ (fu : Nat) (L : Int) (s : x_S) (a : Int), 0 ≤ L → (L = 0 → s.2.1 = 0) → x_G s → x_G8 s → x_plan t nn fu L s a = some R → x_G8 R.2
  | 0, L, s, a, _, _, _, _, h => by
    rw [x_plan] at h
    cases h
  | fu + 1, L, s, a, h0, hL, H, G, h => by
    rw [x_plan] at h
    split at h
    · have e := Option.some.inj h
      rw [← e]
      exact G
    · refine g8_line H G hL (fun a2 s2 H2 G2 h2 => ?_) h
      split at h2
      · exact g8_plan fu (L + 1) s2 _ (by omega) (fun z => by omega) H2 G2 h2
      · cases h2
theorem x_G8_0 : x_G8 x_s0 := ⟨fun k h0 h1 => by have h1 : k < 0 := h1; omega, fun k h0 h1 => by have h1 : k < 0 := h1; omega⟩
end G8P
/-! codes told by notes lie within their fields -/
noncomputable def x_v8 (s : x_S) (N : x_N) (n : Int) : Prop := ∀ k : Nat, (k : Int) < n → (N.1 k).toInt = 4 → 0 ≤ (N.2.2.1 k).toInt ∧ x_shz (N.2.2.1 k).toInt (x_row s 4 (x_row s 7 (N.2.1 k).toInt) - x_row s 3 (x_row s 7 (N.2.1 k).toInt) + 1) = 0
noncomputable def x_cb (s : x_S) (C : Nat → Int64) : Prop := ∀ w : Nat, (w : Int) < s.2.2.1 → ∀ i : Nat, x_on (C w) i = true → x_row s 3 (x_row s 7 w) ≤ (i : Int) ∧ (i : Int) ≤ x_row s 4 (x_row s 7 w)
theorem x_shz_24 : ∀ k : Fin 25, ∀ b : Fin 31, 2 ^ k.val ≤ 2 ^ b.val → k.val ≤ b.val := by decide +kernel
theorem x_shz_lt {b k : Int} (h0 : 0 ≤ b) (h1 : b < 2147483648) (k0 : 0 ≤ k) (k1 : k ≤ 24) (h : x_shz b k = 0) : b < (2 ^ k.toNat : Nat) := by
  unfold x_shz at h
  have eb : (Int32.ofInt b).toInt = b := by
    rw [Int32.toInt_ofInt]
    rw [show Int32.size = 4294967296 from rfl]
    exact Int.bmod_eq_of_le (by omega) (by omega)
  have ek := (show ∀ j : Fin 25, ((Int32.ofInt (j.val : Int)).toBitVec.smod 32).toNat = j.val from by decide +kernel) ⟨k.toNat, by omega⟩
  simp only [show ((k.toNat : Nat) : Int) = k by omega] at ek
  have e : ((Int32.ofInt b) >>> (Int32.ofInt k)).toInt = b / (2 ^ k.toNat : Nat) := by
    show ((Int32.ofInt b) >>> (Int32.ofInt k)).toBitVec.toInt = _
    rw [Int32.toBitVec_shiftRight]
    show ((Int32.ofInt b).toBitVec.sshiftRight ((Int32.ofInt k).toBitVec.smod 32).toNat).toInt = _
    rw [ek, BitVec.toInt_sshiftRight, Int.shiftRight_eq_div_pow]
    show (Int32.ofInt b).toInt / _ = _
    rw [eb]
  rw [e] at h
  have hp : (0 : Int) < (2 ^ k.toNat : Nat) := by
    have : 0 < 2 ^ k.toNat := Nat.two_pow_pos _
    omega
  by_cases g : b < ((2 ^ k.toNat : Nat) : Int)
  · exact g
  · exfalso
    have q := Int.le_ediv_of_mul_le (a := 1) (b := b) hp (by rw [Int.one_mul]; omega)
    omega
theorem x_cb_0 {s : x_S} (G : x_G8 s) : x_cb s (x_k0 s).2.2.2 := fun w hw i hi => by
  have z := G.2 (w : Int) (by omega) hw i
  exact z hi
theorem x_cb_ap {s : x_S} {ca n : Int} {N : x_N} {k : Nat} {K : x_Kn} (H : x_G s) (V : x_vn s ca N n) (V8 : x_v8 s N n) (hk : (k : Int) < n) (C : x_cb s K.2.2.2) : x_cb s (x_ap s N k K).2.2.2 := by
  unfold x_ap
  split
  · exact C
  · split
    · exact C
    · split
      · exact C
      · split
        · exact C
        · split
          · rename_i q
            intro w hw i hi
            have hi : x_on (if w = (N.2.1 k).toInt.toNat then (N.2.2.1 k).toInt64 <<< x_sh (x_row s 3 (x_row s 7 (N.2.1 k).toInt)) else K.2.2.2 w) i = true := hi
            by_cases g : w = (N.2.1 k).toInt.toNat
            · rw [if_pos g] at hi
              have v := (V k hk).2.2.2.2 q
              have v8 := V8 k hk q
              have ew : (w : Int) = (N.2.1 k).toInt := by omega
              rw [ew]
              have a9 := H.2.2.2.2.2.2.1 (N.2.1 k).toInt v.1 v.2
              have r := H.2.2.2.2.2.2.2 _ a9.1 a9.2.1
              rw [x_on_shl (by omega) (by omega), Bool.and_eq_true, decide_eq_true_eq] at hi
              have b31 : (N.2.2.1 k).toInt < 2147483648 := by
                have := Int32.toInt_lt (N.2.2.1 k)
                omega
              have lt := x_shz_lt v8.1 b31 (by omega) (by omega) v8.2
              have e64 : ((N.2.2.1 k).toInt64).toInt = (N.2.2.1 k).toInt := Int32.toInt_toInt64 _
              have z := x_on_lt (x := (N.2.2.1 k).toInt64) (by omega) (by rw [e64]; exact lt) hi.2
              omega
            · rw [if_neg g] at hi
              exact C w hw i hi
          · exact C
theorem x_cb_rp {s : x_S} {ca n : Int} {N : x_N} {S : Nat → Int} (H : x_G s) (V : x_vn s ca N n) (V8 : x_v8 s N n) : ∀ (m k : Nat) (K : x_Kn), (k : Int) + m ≤ n → x_cb s K.2.2.2 → x_cb s (x_rp s N S m k K).2.2.2
  | 0, k, K, _, C => C
  | m + 1, k, K, hk, C => by
    rw [x_rp]
    refine x_cb_rp H V V8 m (k + 1) _ (by omega) ?_
    split
    · exact x_cb_ap H V V8 (by omega) C
    · exact C
theorem x_cb_kn {s : x_S} {ca nz n : Int} {N : x_N} (H : x_G s) (G : x_G8 s) (V : x_vn s ca N nz) (V8 : x_v8 s N nz) (h0 : 0 ≤ n) (hn : n ≤ nz) : x_cb s (x_kn s N n.toNat).2.2.2 := by
  unfold x_kn
  exact x_cb_rp H V V8 _ _ _ (by omega) (x_cb_0 G)
/-! a question: one reader. tu 0: a part is wanted, 1: a sign; br brackets open, cn knots so far -/
abbrev x_QR := (Int × Int) ⊕ Int
section XQ
variable (t : Nat → Int) (nn : Int) (s : x_S)
noncomputable def x_qv (a b : Int) (k : x_QR) : x_QR := if x_kind t nn b = 3 then (if x_val t nn b ≤ x_row s 5 (x_fn s 1 (x_val t nn a)) - 1 then k else .inl (2, b)) else .inl (1, b)
noncomputable def x_qn (a : Int) (k1 k2 : x_QR) : x_QR :=
  if x_kind t nn (x_ns t nn a) = 4 ∧ x_val t nn (x_ns t nn a) = 61 then (if 0 ≤ x_fn s 1 (x_val t nn a) ∧ ¬ x_row s 2 (x_fn s 1 (x_val t nn a)) = 3 then x_qv t nn s a (x_ns t nn (x_ns t nn a)) k1 else .inl (4, a))
  else (if 0 ≤ x_fn s 6 (x_val t nn a) then k2 else .inl (4, a))
noncomputable def x_q0 (br cn a : Int) (f : Int → Int → Int → Int → x_QR) : x_QR :=
  if x_kind t nn a = 4 ∧ x_val t nn a = 40 then (if br = 8 then .inl (2, a) else f 0 (br + 1) cn (x_ns t nn a))
  else if x_kind t nn a = 1 ∧ x_kx (x_val t nn a) = 14 then (if cn = 40 then .inl (2, a) else f 0 br (cn + 1) (x_ns t nn a))
  else if x_kind t nn a = 2 then (if cn = 40 then .inl (2, a) else x_qn t nn s a (f 1 br (cn + 1) (x_ns t nn (x_ns t nn (x_ns t nn a)))) (f 1 br (cn + 1) (x_ns t nn a)))
  else .inl (1, a)
noncomputable def x_q1 (br cn a : Int) (f : Int → Int → Int → Int → x_QR) : x_QR :=
  if x_kind t nn a = 0 ∧ br = 0 then .inr cn
  else if x_kind t nn a = 1 ∧ (x_kx (x_val t nn a) = 12 ∨ x_kx (x_val t nn a) = 13) then (if cn = 40 then .inl (2, a) else f 0 br (cn + 1) (x_ns t nn a))
  else if x_kind t nn a = 4 ∧ x_val t nn a = 41 ∧ 0 < br then f 1 (br - 1) cn (x_ns t nn a)
  else .inl (1, a)
noncomputable def x_q : Nat → Int → Int → Int → Int → x_QR
  | 0, _, _, _, _ => .inl (0, 0)
  | fu + 1, tu, br, cn, a => if tu = 0 then x_q0 t nn s br cn a (x_q fu) else x_q1 t nn br cn a (x_q fu)
noncomputable def x_qq (tu br cn a : Int) : x_QR := x_q t nn s (nn + 1 - a).toNat tu br cn a
end XQ
section XQL
variable {t : Nat → Int} {nn : Int} {s : x_S}
theorem x_ns_lt {a : Int} (h0 : 0 ≤ a) (h1 : a < nn) : a < x_ns t nn a ∧ x_ns t nn a ≤ nn := by
  have h2 := x_nx_b (t := t) (n := nn) (a := a) h0 (by omega)
  have h3 := x_le (P := x_bl) (t := t) (n := nn) (x := x_nx t nn a) (by omega) (by omega)
  unfold x_ns x_sk
  omega
theorem x_q0_c {br cn a : Int} {f g : Int → Int → Int → Int → x_QR} (h : ∀ tu br cn b : Int, a < b → b ≤ nn → f tu br cn b = g tu br cn b) (h0 : 0 ≤ a) (h1 : a ≤ nn) : x_q0 t nn s br cn a f = x_q0 t nn s br cn a g := by
  by_cases e : a < nn
  · have b1 := x_ns_lt (t := t) h0 e
    have b2 := x_ns_b (t := t) (n := nn) (a := x_ns t nn a) (by omega) (by omega)
    have b3 := x_ns_b (t := t) (n := nn) (a := x_ns t nn (x_ns t nn a)) (by omega) (by omega)
    unfold x_q0
    rw [h 0 (br + 1) cn (x_ns t nn a) (by omega) (by omega), h 0 br (cn + 1) (x_ns t nn a) (by omega) (by omega), h 1 br (cn + 1) (x_ns t nn a) (by omega) (by omega), h 1 br (cn + 1) (x_ns t nn (x_ns t nn (x_ns t nn a))) (by omega) (by omega)]
  · have k := (x_t0 (t := t) (n := nn) (a := a) (by omega)).1
    unfold x_q0
    rw [if_neg (by omega), if_neg (by omega), if_neg (by omega), if_neg (by omega), if_neg (by omega), if_neg (by omega)]
theorem x_q1_c {br cn a : Int} {f g : Int → Int → Int → Int → x_QR} (h : ∀ tu br cn b : Int, a < b → b ≤ nn → f tu br cn b = g tu br cn b) (h0 : 0 ≤ a) (h1 : a ≤ nn) : x_q1 t nn br cn a f = x_q1 t nn br cn a g := by
  by_cases e : a < nn
  · have b1 := x_ns_lt (t := t) h0 e
    unfold x_q1
    rw [h 0 br (cn + 1) (x_ns t nn a) (by omega) (by omega), h 1 (br - 1) cn (x_ns t nn a) (by omega) (by omega)]
  · have k := (x_t0 (t := t) (n := nn) (a := a) (by omega)).1
    unfold x_q1
    by_cases g0 : x_kind t nn a = 0 ∧ br = 0
    · rw [if_pos g0, if_pos g0]
    · rw [if_neg g0, if_neg g0, if_neg (by omega), if_neg (by omega), if_neg (by omega), if_neg (by omega)]
theorem x_q_f : ∀ (f1 f2 : Nat) (tu br cn a : Int), 0 ≤ a → a ≤ nn → (nn + 1 - a).toNat ≤ f1 → (nn + 1 - a).toNat ≤ f2 → x_q t nn s f1 tu br cn a = x_q t nn s f2 tu br cn a
  | 0, _, _, _, _, a, h0, h1, h2, _ => by omega
  | _ + 1, 0, _, _, _, a, h0, h1, _, h3 => by omega
  | f1 + 1, f2 + 1, tu, br, cn, a, h0, h1, h2, h3 => by
    have ih : ∀ tu br cn b : Int, a < b → b ≤ nn → x_q t nn s f1 tu br cn b = x_q t nn s f2 tu br cn b := fun tu br cn b hb hn => x_q_f f1 f2 tu br cn b (by omega) hn (by omega) (by omega)
    rw [x_q, x_q, x_q0_c ih h0 h1, x_q1_c ih h0 h1]
theorem x_qq_0 {br cn a : Int} (h0 : 0 ≤ a) (h1 : a ≤ nn) : x_qq t nn s 0 br cn a = x_q0 t nn s br cn a (x_qq t nn s) := by
  unfold x_qq
  rw [show (nn + 1 - a).toNat = (nn - a).toNat + 1 by omega, x_q, if_pos rfl]
  exact x_q0_c (fun tu br cn b hb hn => x_q_f _ _ tu br cn b (by omega) hn (by omega) (Nat.le_refl _)) h0 h1
theorem x_qq_1 {br cn a : Int} (h0 : 0 ≤ a) (h1 : a ≤ nn) : x_qq t nn s 1 br cn a = x_q1 t nn br cn a (x_qq t nn s) := by
  unfold x_qq
  rw [show (nn + 1 - a).toNat = (nn - a).toNat + 1 by omega, x_q, if_neg (by decide)]
  exact x_q1_c (fun tu br cn b hb hn => x_q_f _ _ tu br cn b (by omega) hn (by omega) (Nat.le_refl _)) h0 h1
section STEPS
variable {br cn a : Int}
theorem q_lp (h0 : 0 ≤ a) (h1 : a ≤ nn) (h : x_kind t nn a = 4 ∧ x_val t nn a = 40) (hb : ¬ br = 8) : x_qq t nn s 0 br cn a = x_qq t nn s 0 (br + 1) cn (x_ns t nn a) := by
  rw [x_qq_0 h0 h1]; unfold x_q0; rw [if_pos h, if_neg hb]
theorem q_lpx (h0 : 0 ≤ a) (h1 : a ≤ nn) (h : x_kind t nn a = 4 ∧ x_val t nn a = 40) (hb : br = 8) : x_qq t nn s 0 br cn a = .inl (2, a) := by
  rw [x_qq_0 h0 h1]; unfold x_q0; rw [if_pos h, if_pos hb]
theorem q_no (h0 : 0 ≤ a) (h1 : a ≤ nn) (h : x_kind t nn a = 1 ∧ x_kx (x_val t nn a) = 14) (hc : ¬ cn = 40) : x_qq t nn s 0 br cn a = x_qq t nn s 0 br (cn + 1) (x_ns t nn a) := by
  rw [x_qq_0 h0 h1]; unfold x_q0; rw [if_neg (by omega), if_pos h, if_neg hc]
theorem q_nox (h0 : 0 ≤ a) (h1 : a ≤ nn) (h : x_kind t nn a = 1 ∧ x_kx (x_val t nn a) = 14) (hc : cn = 40) : x_qq t nn s 0 br cn a = .inl (2, a) := by
  rw [x_qq_0 h0 h1]; unfold x_q0; rw [if_neg (by omega), if_pos h, if_pos hc]
theorem q_nm (h0 : 0 ≤ a) (h1 : a ≤ nn) (h : x_kind t nn a = 2) (hc : ¬ cn = 40) : x_qq t nn s 0 br cn a = x_qn t nn s a (x_qq t nn s 1 br (cn + 1) (x_ns t nn (x_ns t nn (x_ns t nn a)))) (x_qq t nn s 1 br (cn + 1) (x_ns t nn a)) := by
  rw [x_qq_0 h0 h1]; unfold x_q0; rw [if_neg (by omega), if_neg (by omega), if_pos h, if_neg hc]
theorem q_nmx (h0 : 0 ≤ a) (h1 : a ≤ nn) (h : x_kind t nn a = 2) (hc : cn = 40) : x_qq t nn s 0 br cn a = .inl (2, a) := by
  rw [x_qq_0 h0 h1]; unfold x_q0; rw [if_neg (by omega), if_neg (by omega), if_pos h, if_pos hc]
theorem q_0x (h0 : 0 ≤ a) (h1 : a ≤ nn) (h : ¬ (x_kind t nn a = 4 ∧ x_val t nn a = 40)) (h2 : ¬ (x_kind t nn a = 1 ∧ x_kx (x_val t nn a) = 14)) (h3 : ¬ x_kind t nn a = 2) : x_qq t nn s 0 br cn a = .inl (1, a) := by
  rw [x_qq_0 h0 h1]; unfold x_q0; rw [if_neg h, if_neg h2, if_neg h3]
theorem q_end (h0 : 0 ≤ a) (h1 : a ≤ nn) (h : x_kind t nn a = 0) (hb : br = 0) : x_qq t nn s 1 br cn a = .inr cn := by
  rw [x_qq_1 h0 h1]; unfold x_q1; rw [if_pos ⟨h, hb⟩]
theorem q_ao (h0 : 0 ≤ a) (h1 : a ≤ nn) (h : x_kind t nn a = 1) (h2 : x_kx (x_val t nn a) = 12 ∨ x_kx (x_val t nn a) = 13) (hc : ¬ cn = 40) : x_qq t nn s 1 br cn a = x_qq t nn s 0 br (cn + 1) (x_ns t nn a) := by
  rw [x_qq_1 h0 h1]; unfold x_q1; rw [if_neg (by omega), if_pos ⟨h, h2⟩, if_neg hc]
theorem q_aox (h0 : 0 ≤ a) (h1 : a ≤ nn) (h : x_kind t nn a = 1) (h2 : x_kx (x_val t nn a) = 12 ∨ x_kx (x_val t nn a) = 13) (hc : cn = 40) : x_qq t nn s 1 br cn a = .inl (2, a) := by
  rw [x_qq_1 h0 h1]; unfold x_q1; rw [if_neg (by omega), if_pos ⟨h, h2⟩, if_pos hc]
theorem q_rp (h0 : 0 ≤ a) (h1 : a ≤ nn) (h : x_kind t nn a = 4 ∧ x_val t nn a = 41) (hb : 0 < br) : x_qq t nn s 1 br cn a = x_qq t nn s 1 (br - 1) cn (x_ns t nn a) := by
  rw [x_qq_1 h0 h1]; unfold x_q1; rw [if_neg (by omega), if_neg (by omega), if_pos ⟨h.1, h.2, hb⟩]
theorem q_1x (h0 : 0 ≤ a) (h1 : a ≤ nn) (h : ¬ (x_kind t nn a = 0 ∧ br = 0)) (h2 : ¬ (x_kind t nn a = 1 ∧ (x_kx (x_val t nn a) = 12 ∨ x_kx (x_val t nn a) = 13))) (h3 : ¬ (x_kind t nn a = 4 ∧ x_val t nn a = 41 ∧ 0 < br)) : x_qq t nn s 1 br cn a = .inl (1, a) := by
  rw [x_qq_1 h0 h1]; unfold x_q1; rw [if_neg h, if_neg h2, if_neg h3]
variable {k1 k2 : x_QR}
theorem qn_w (h : ¬ (x_kind t nn (x_ns t nn a) = 4 ∧ x_val t nn (x_ns t nn a) = 61)) (h2 : 0 ≤ x_fn s 6 (x_val t nn a)) : x_qn t nn s a k1 k2 = k2 := by
  unfold x_qn; rw [if_neg h, if_pos h2]
theorem qn_wx (h : ¬ (x_kind t nn (x_ns t nn a) = 4 ∧ x_val t nn (x_ns t nn a) = 61)) (h2 : ¬ 0 ≤ x_fn s 6 (x_val t nn a)) : x_qn t nn s a k1 k2 = .inl (4, a) := by
  unfold x_qn; rw [if_neg h, if_neg h2]
theorem qn_vx (h : x_kind t nn (x_ns t nn a) = 4 ∧ x_val t nn (x_ns t nn a) = 61) (h2 : ¬ (0 ≤ x_fn s 1 (x_val t nn a) ∧ ¬ x_row s 2 (x_fn s 1 (x_val t nn a)) = 3)) : x_qn t nn s a k1 k2 = .inl (4, a) := by
  unfold x_qn; rw [if_pos h, if_neg h2]
theorem qn_v (h : x_kind t nn (x_ns t nn a) = 4 ∧ x_val t nn (x_ns t nn a) = 61) (h2 : 0 ≤ x_fn s 1 (x_val t nn a) ∧ ¬ x_row s 2 (x_fn s 1 (x_val t nn a)) = 3) (h3 : x_kind t nn (x_ns t nn (x_ns t nn a)) = 3) (h4 : x_val t nn (x_ns t nn (x_ns t nn a)) ≤ x_row s 5 (x_fn s 1 (x_val t nn a)) - 1) : x_qn t nn s a k1 k2 = k1 := by
  unfold x_qn; rw [if_pos h, if_pos h2]; unfold x_qv; rw [if_pos h3, if_pos h4]
theorem qn_v2 (h : x_kind t nn (x_ns t nn a) = 4 ∧ x_val t nn (x_ns t nn a) = 61) (h2 : 0 ≤ x_fn s 1 (x_val t nn a) ∧ ¬ x_row s 2 (x_fn s 1 (x_val t nn a)) = 3) (h3 : x_kind t nn (x_ns t nn (x_ns t nn a)) = 3) (h4 : ¬ x_val t nn (x_ns t nn (x_ns t nn a)) ≤ x_row s 5 (x_fn s 1 (x_val t nn a)) - 1) : x_qn t nn s a k1 k2 = .inl (2, x_ns t nn (x_ns t nn a)) := by
  unfold x_qn; rw [if_pos h, if_pos h2]; unfold x_qv; rw [if_pos h3, if_neg h4]
theorem qn_v1 (h : x_kind t nn (x_ns t nn a) = 4 ∧ x_val t nn (x_ns t nn a) = 61) (h2 : 0 ≤ x_fn s 1 (x_val t nn a) ∧ ¬ x_row s 2 (x_fn s 1 (x_val t nn a)) = 3) (h3 : ¬ x_kind t nn (x_ns t nn (x_ns t nn a)) = 3) : x_qn t nn s a k1 k2 = .inl (1, x_ns t nn (x_ns t nn a)) := by
  unfold x_qn; rw [if_pos h, if_pos h2]; unfold x_qv; rw [if_neg h3]
end STEPS
end XQL
theorem inl_e {R : x_QR} {x y x2 y2 : Int} (h1 : x = x2) (h2 : y = y2) (H : R = .inl (x2, y2)) : R = .inl (x, y) := by rw [h1, h2]; exact H
theorem q_v {t : Nat → Int} {nn : Int} {s : x_S} {tu br cn a br2 cn2 a2 : Int} (h0 : br = br2) (h1 : cn = cn2) (h2 : a = a2) : x_qq t nn s tu br cn a = x_qq t nn s tu br2 cn2 a2 := by rw [h0, h1, h2]
theorem x_kx_q (v : Int) : (x_kx v = 12 ↔ v = 48365568) ∧ (x_kx v = 13 ↔ v = 522190848) ∧ (x_kx v = 14 ↔ v = 486146048) := by
  refine ⟨⟨fun h => ?_, fun h => by rw [h]; rfl⟩, ⟨fun h => ?_, fun h => by rw [h]; rfl⟩, ⟨fun h => ?_, fun h => by rw [h]; rfl⟩⟩
  · rcases x_kx_c h (by decide) with z | z | z | z | z | z | z | z | z | z | z | z | z | z | z <;> omega
  · rcases x_kx_c h (by decide) with z | z | z | z | z | z | z | z | z | z | z | z | z | z | z <;> omega
  · rcases x_kx_c h (by decide) with z | z | z | z | z | z | z | z | z | z | z | z | z | z | z <;> omega
