/-! THE QUESTION is read: what waits, what is held -/
noncomputable def Wo (M : mm_M) : Nat → Int
  | 0 => 0
  | k + 1 => Wo M k + (if (M.2.1 115 k).toInt = 0 then 0 else 1)
noncomputable def Wz (M : mm_M) : Nat → Int
  | 0 => 0
  | k + 1 => Wz M k + (if (M.2.1 115 k).toInt = 0 then 1 else 0)
noncomputable def Wb (M : mm_M) : Nat → Int
  | 0 => 0
  | k + 1 => Wb M k + (if (M.2.1 115 k).toInt = 3 ∨ (M.2.1 115 k).toInt = 4 then 1 else 0)
theorem Wx_f {M M1 : mm_M} : ∀ k : Nat, (∀ i, i < k → M1.2.1 115 i = M.2.1 115 i) → Wo M1 k = Wo M k ∧ Wz M1 k = Wz M k ∧ Wb M1 k = Wb M k
  | 0, _ => ⟨rfl, rfl, rfl⟩
  | k + 1, h => by
    obtain ⟨g1, g2, g3⟩ := Wx_f k (fun i hi => h i (by omega))
    refine ⟨?_, ?_, ?_⟩
    · show Wo M1 k + (if (M1.2.1 115 k).toInt = 0 then 0 else 1) = _
      rw [g1, h k (by omega)]; rfl
    · show Wz M1 k + (if (M1.2.1 115 k).toInt = 0 then 1 else 0) = _
      rw [g2, h k (by omega)]; rfl
    · show Wb M1 k + (if (M1.2.1 115 k).toInt = 3 ∨ (M1.2.1 115 k).toInt = 4 then 1 else 0) = _
      rw [g3, h k (by omega)]; rfl
theorem Wx_s (M : mm_M) (k : Nat) : ((M.2.1 115 k).toInt = 0 → Wo M (k + 1) = Wo M k ∧ Wz M (k + 1) = Wz M k + 1 ∧ Wb M (k + 1) = Wb M k) ∧ ((M.2.1 115 k).toInt = 2 → Wo M (k + 1) = Wo M k + 1 ∧ Wz M (k + 1) = Wz M k ∧ Wb M (k + 1) = Wb M k) ∧ (((M.2.1 115 k).toInt = 3 ∨ (M.2.1 115 k).toInt = 4) → Wo M (k + 1) = Wo M k + 1 ∧ Wz M (k + 1) = Wz M k ∧ Wb M (k + 1) = Wb M k + 1) := by
  have e1 : Wo M (k + 1) = Wo M k + (if (M.2.1 115 k).toInt = 0 then 0 else 1) := rfl
  have e2 : Wz M (k + 1) = Wz M k + (if (M.2.1 115 k).toInt = 0 then 1 else 0) := rfl
  have e3 : Wb M (k + 1) = Wb M k + (if (M.2.1 115 k).toInt = 3 ∨ (M.2.1 115 k).toInt = 4 then 1 else 0) := rfl
  rw [e1, e2, e3]
  refine ⟨fun z => ?_, fun z => ?_, fun z => ?_⟩
  · rw [z]; simp
  · rw [z]; simp
  · have hn : ¬ (M.2.1 115 k).toInt = 0 := by omega
    rw [if_neg hn, if_neg hn, if_pos z]
    exact ⟨rfl, by omega, rfl⟩
theorem Wx_b (M : mm_M) : ∀ k : Nat, 0 ≤ Wo M k ∧ 0 ≤ Wz M k ∧ 0 ≤ Wb M k ∧ Wb M k ≤ Wo M k ∧ Wo M k + Wz M k = (k : Int)
  | 0 => ⟨Int.le_refl 0, Int.le_refl 0, Int.le_refl 0, Int.le_refl 0, rfl⟩
  | k + 1 => by
    have h := Wx_b M k
    have e1 : Wo M (k + 1) = Wo M k + (if (M.2.1 115 k).toInt = 0 then 0 else 1) := rfl
    have e2 : Wz M (k + 1) = Wz M k + (if (M.2.1 115 k).toInt = 0 then 1 else 0) := rfl
    have e3 : Wb M (k + 1) = Wb M k + (if (M.2.1 115 k).toInt = 3 ∨ (M.2.1 115 k).toInt = 4 then 1 else 0) := rfl
    rw [e1, e2, e3]
    by_cases z : (M.2.1 115 k).toInt = 0
    · rw [if_pos z, if_pos z, if_neg (by omega)]
      omega
    · rw [if_neg z, if_neg z]
      by_cases z2 : (M.2.1 115 k).toInt = 3 ∨ (M.2.1 115 k).toInt = 4
      · rw [if_pos z2]
        omega
      · rw [if_neg z2]
        omega
abbrev QK_c (M : mm_M) (n b w c hl t : Int) : Prop := Wz M w.toNat = b ∧ n + Wo M w.toNat ≤ c ∧ hl = Wb M w.toNat + t ∧ hl ≤ n
noncomputable def QK (M : mm_M) : Prop := QK_c M (M.2.1 77 59).toInt (M.2.1 77 67).toInt (M.2.1 77 65).toInt (M.2.1 77 69).toInt (M.2.1 77 66).toInt (M.2.1 77 68).toInt ∧ (∀ i : Nat, (i : Int) < (M.2.1 77 65).toInt → ¬ (M.2.1 115 i).toInt = 1) ∧ KN M 40 (M.2.1 77 59).toInt.toNat
abbrev QK_r (a i : Nat) : Prop := a = 77 ∧ (i = 59 ∨ 65 ≤ i ∧ i ≤ 69) ∨ a = 115 ∨ 112 ≤ a ∧ a ≤ 114 ∧ 40 ≤ i ∧ i < 80 ∨ a = 81 ∧ i < 8
theorem QK_f {M M1 : mm_M} (h : ∀ a i, QK_r a i → M1.2.1 a i = M.2.1 a i) (H : QK M) : QK M1 := by
  obtain ⟨H1, H2, H3⟩ := H
  have hw := Wx_f (M := M) (M1 := M1) (M.2.1 77 65).toInt.toNat (fun i _ => h 115 i (by omega))
  unfold QK QK_c
  rw [h 77 59 (by omega), h 77 65 (by omega), h 77 66 (by omega), h 77 67 (by omega), h 77 68 (by omega), h 77 69 (by omega), hw.1, hw.2.1, hw.2.2]
  refine ⟨H1, fun i hi => ?_, KN_f (fun a i z => h a i (by omega)) H3⟩
  rw [h 115 i (by omega)]
  exact H2 i hi
theorem QK_0 {M : mm_M} (h1 : (M.2.1 77 59).toInt = 0) (h2 : (M.2.1 77 67).toInt = 0) (h3 : (M.2.1 77 65).toInt = 0) (h4 : 0 ≤ (M.2.1 77 69).toInt) (h5 : (M.2.1 77 66).toInt = 0) (h6 : (M.2.1 77 68).toInt = 0) : QK M := by
  unfold QK QK_c
  rw [h1, h2, h3, h5, h6]
  refine ⟨⟨rfl, h4, rfl, Int.le_refl 0⟩, fun i hi => absurd hi (by omega), fun k _ hl => absurd hl (by simp)⟩
theorem KN_k {M M1 : mm_M} {n : Nat} {k p o : Int32} (H : KN M 40 n) (hf : ∀ a i, (112 ≤ a ∧ a ≤ 114 ∧ ¬ i = 40 + n ∨ a = 81) → M1.2.1 a i = M.2.1 a i) (e0 : M1.2.1 112 (40 + n) = k) (e1 : M1.2.1 113 (40 + n) = p) (e2 : M1.2.1 114 (40 + n) = o) (c0 : k.toInt = 0 → (0 ≤ p.toInt ∧ p.toInt ≤ 7) ∧ 0 ≤ o.toInt ∧ ((M.2.1 81 p.toInt.toNat).toInt = 0 ∨ o.toInt ≤ 9)) (c1 : k.toInt = 1 → 0 ≤ p.toInt ∧ p.toInt ≤ 11) (c3 : k.toInt = 3 → 0 ≤ o.toInt ∧ o.toInt ≤ 39) (c4 : k.toInt = 4 → 0 ≤ o.toInt ∧ o.toInt ≤ 39) : KN M1 40 (n + 1) := fun j hj hl => by
  by_cases e : j = n
  · subst e
    rw [e0, e1, e2, hf 81 _ (Or.inr rfl)]
    exact ⟨c0, c1, c3, c4⟩
  · rw [hf 112 _ (by omega), hf 113 _ (by omega), hf 114 _ (by omega), hf 81 _ (Or.inr rfl)]
    exact H j hj (by omega)
theorem KN_u {M : mm_M} {z n : Nat} {A : Int} (H : KN M z n) (h0 : 0 ≤ A) (h1 : A < (n : Int)) (h2 : A < 40) :
  ((M.2.1 112 (z + A.toNat)).toInt = 0 → (0 ≤ (M.2.1 113 (z + A.toNat)).toInt ∧ (M.2.1 113 (z + A.toNat)).toInt ≤ 7) ∧ 0 ≤ (M.2.1 114 (z + A.toNat)).toInt ∧ ((M.2.1 81 (M.2.1 113 (z + A.toNat)).toInt.toNat).toInt = 0 ∨ (M.2.1 114 (z + A.toNat)).toInt ≤ 9)) ∧
  ((M.2.1 112 (z + A.toNat)).toInt = 1 → 0 ≤ (M.2.1 113 (z + A.toNat)).toInt ∧ (M.2.1 113 (z + A.toNat)).toInt ≤ 11) ∧ ((M.2.1 112 (z + A.toNat)).toInt = 3 → 0 ≤ (M.2.1 114 (z + A.toNat)).toInt ∧ (M.2.1 114 (z + A.toNat)).toInt ≤ 39) ∧ ((M.2.1 112 (z + A.toNat)).toInt = 4 → 0 ≤ (M.2.1 114 (z + A.toNat)).toInt ∧ (M.2.1 114 (z + A.toNat)).toInt ≤ 39) := H A.toNat (by omega) (by omega)
theorem KN_c {M : mm_M} {n : Nat} (H : KN M 40 n) (h : ∀ a j : Nat, (112 ≤ a ∧ a ≤ 114) → j < n → M.2.1 a j = M.2.1 a (40 + j)) : KN M 0 n := fun k hk hl => by
  rw [show 0 + k = k by omega, h 112 k (by omega) hl, h 113 k (by omega) hl, h 114 k (by omega) hl]
  exact H k hk hl
theorem QK_i {M : mm_M} (h1 : QK_c M (M.2.1 77 59).toInt (M.2.1 77 67).toInt (M.2.1 77 65).toInt (M.2.1 77 69).toInt (M.2.1 77 66).toInt (M.2.1 77 68).toInt) (h2 : ∀ i : Nat, (i : Int) < (M.2.1 77 65).toInt → ¬ (M.2.1 115 i).toInt = 1) (h3 : KN M 40 (M.2.1 77 59).toInt.toNat) : QK M := ⟨h1, h2, h3⟩
theorem QK_e {M : mm_M} (H : QK M) : QK_c M (M.2.1 77 59).toInt (M.2.1 77 67).toInt (M.2.1 77 65).toInt (M.2.1 77 69).toInt (M.2.1 77 66).toInt (M.2.1 77 68).toInt := H.1
theorem KQ_u {M : mm_M} {A : Int} (H : KQ M) (h0 : 0 ≤ A) (h1 : A < (M.2.1 77 58).toInt) (h2 : A < 40) :
  ((M.2.1 112 A.toNat).toInt = 0 → (0 ≤ (M.2.1 113 A.toNat).toInt ∧ (M.2.1 113 A.toNat).toInt ≤ 7) ∧ 0 ≤ (M.2.1 114 A.toNat).toInt ∧ ((M.2.1 81 (M.2.1 113 A.toNat).toInt.toNat).toInt = 0 ∨ (M.2.1 114 A.toNat).toInt ≤ 9)) ∧
  ((M.2.1 112 A.toNat).toInt = 1 → 0 ≤ (M.2.1 113 A.toNat).toInt ∧ (M.2.1 113 A.toNat).toInt ≤ 11) ∧ ((M.2.1 112 A.toNat).toInt = 3 → 0 ≤ (M.2.1 114 A.toNat).toInt ∧ (M.2.1 114 A.toNat).toInt ≤ 39) ∧ ((M.2.1 112 A.toNat).toInt = 4 → 0 ≤ (M.2.1 114 A.toNat).toInt ∧ (M.2.1 114 A.toNat).toInt ≤ 39) := by
  have h := H.1 A.toNat (by omega) (by omega)
  rw [show 0 + A.toNat = A.toNat by omega] at h
  exact h
theorem KQ_h {M : mm_M} (H : KQ M) : (M.2.1 77 57).toInt = 1 → 1 ≤ (M.2.1 77 58).toInt := H.2
theorem i_shl12 {y : Int32} {B : Int} (ey : y.toInt = B) (h : 0 ≤ B ∧ B ≤ 12) : 1 ≤ ((1 : Int32) <<< y).toInt ∧ ((1 : Int32) <<< y).toInt ≤ 4096 := by
  by_cases h6 : B ≤ 6
  · have := i_shl1 ey ⟨h.1, h6⟩
    omega
  · rcases (show B = 7 ∨ B = 8 ∨ B = 9 ∨ B = 10 ∨ B = 11 ∨ B = 12 by omega) with z | z | z | z | z | z <;> subst z
    · rw [(i_eq ey (rfl : (7 : Int32).toInt = 7)).mpr rfl]; decide
    · rw [(i_eq ey (rfl : (8 : Int32).toInt = 8)).mpr rfl]; decide
    · rw [(i_eq ey (rfl : (9 : Int32).toInt = 9)).mpr rfl]; decide
    · rw [(i_eq ey (rfl : (10 : Int32).toInt = 10)).mpr rfl]; decide
    · rw [(i_eq ey (rfl : (11 : Int32).toInt = 11)).mpr rfl]; decide
    · rw [(i_eq ey (rfl : (12 : Int32).toInt = 12)).mpr rfl]; decide
theorem s_shl12 {X : mm_X} {d mi pc : Nat} {ls st : List Value} {M : mm_M} {Q : Option Value → mm_M → Prop} {len a b : Nat} {ps : List Nat} {y : Int32} {B : Int} (hc : mm_code mi pc = some (.ishl, len, a, b, ps)) (ey : y.toInt = B) (hr : 0 ≤ B ∧ B ≤ 12) (h : ∀ v : Int32, 1 ≤ v.toInt → v.toInt ≤ 4096 → mm_T X d mi (pc + len) ls (.int v :: st) M Q) : mm_T X d mi pc ls (.int y :: .int (1 : Int32) :: st) M Q := tt_1 hc (h ((1 : Int32) <<< y) (i_shl12 ey hr).1 (i_shl12 ey hr).2)
