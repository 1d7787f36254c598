/-! an order of a pack: the longest row that is in order already -/
noncomputable def x_bj (V L : Nat → Int) (n : Nat) : Nat → Nat → Int → Int
  | 0, _, l => l
  | m + 1, j, l => x_bj V L n m (j + 1) (if V j ≤ V n ∧ l ≤ L j + 1 then L j + 1 else l)
noncomputable def x_bL (V : Nat → Int) : Nat → Nat → Int
  | 0 => fun _ => 0
  | n + 1 => x_upZ (x_bL V n) n (x_bj V (x_bL V n) n n 0 1)
noncomputable def x_bM (V : Nat → Int) : Nat → Int
  | 0 => 0
  | n + 1 => if x_bM V n ≤ x_bL V (n + 1) n then x_bL V (n + 1) n else x_bM V n
noncomputable def x_bv (K : x_Kn) (R : Nat → Int) (f : Int) (i : Nat) : Int := (K.2.2.1 (8 * (R i).toNat + f.toNat)).toInt
noncomputable def x_behind (s : x_S) (P : x_P) (K : x_Kn) (p f : Int) : Int := if (0 ≤ p ∧ p ≤ 5) ∧ 0 ≤ f ∧ f < s.2.1 ∧ ¬ x_row s 2 f = 3 then P.2 p - x_bM (x_bv K (P.1 p) f) (P.2 p).toNat else -1
section BHS
variable {V L : Nat → Int} {i i2 j j2 l l2 E : Int}
theorem x_bj_b {n : Nat} (hL : ∀ k : Nat, 0 ≤ L k ∧ L k ≤ (n : Int)) : ∀ (m j : Nat) (l : Int), 0 ≤ l → l ≤ (n : Int) + 1 → 0 ≤ x_bj V L n m j l ∧ x_bj V L n m j l ≤ (n : Int) + 1
  | 0, _, _, h0, h1 => ⟨h0, h1⟩
  | m + 1, j, l, h0, h1 => by
    rw [x_bj]
    have z := hL j
    refine x_bj_b hL m (j + 1) _ ?_ ?_ <;> split <;> omega
theorem x_bL_b : ∀ (n k : Nat), 0 ≤ x_bL V n k ∧ x_bL V n k ≤ (n : Int)
  | 0, _ => ⟨Int.le_refl _, Int.le_refl _⟩
  | n + 1, k => by
    have ih := x_bL_b n
    show 0 ≤ (if k = n then x_bj V (x_bL V n) n n 0 1 else x_bL V n k) ∧ (if k = n then x_bj V (x_bL V n) n n 0 1 else x_bL V n k) ≤ ((n + 1 : Nat) : Int)
    have b := x_bj_b (V := V) ih n 0 1 (by omega) (by omega)
    have c := ih k
    split <;> omega
theorem x_bM_b : ∀ n : Nat, 0 ≤ x_bM V n ∧ x_bM V n ≤ (n : Int)
  | 0 => ⟨Int.le_refl _, Int.le_refl _⟩
  | n + 1 => by
    have ih := x_bM_b n
    have b := x_bL_b (V := V) (n + 1) n
    rw [x_bM]
    split <;> omega
theorem bj_0 {n : Nat} (hj : j = 0) (e : l = 1) (hn : (n : Int) = i) : x_bj V L n (i - j).toNat j.toNat l = x_bj V L n n 0 1 := by
  rw [hj, e, show (i - 0).toNat = n by omega]
  rfl
theorem bj_s {n : Nat} (H : x_bj V L n (i - j).toNat j.toNat l = E) (h0 : 0 ≤ j) (hj : j < i) (h2 : j2 = j + 1) (e : l2 = if V j.toNat ≤ V n ∧ l ≤ L j.toNat + 1 then L j.toNat + 1 else l) : x_bj V L n (i - j2).toNat j2.toNat l2 = E := by
  rw [← H, show (i - j).toNat = (i - j2).toNat + 1 by omega, x_bj, show j2.toNat = j.toNat + 1 by omega, e]
theorem bj_m {x y b : Int} (a : x ≤ y) (h1 : l ≤ l2) (h2 : b ≤ l2) (h3 : l2 = l ∨ l2 = b) : l2 = if x ≤ y ∧ l ≤ b then b else l := by
  split <;> omega
theorem bj_n {x y b : Int} (a : ¬ x ≤ y) (h : l2 = l) : l2 = if x ≤ y ∧ l ≤ b then b else l := by
  rw [if_neg (fun z => a z.1)]
  exact h
section BHM
variable {M M1 : mm_M} {r : Nat}
theorem bl_0 (h : i = 0) : ∀ k : Nat, (k : Int) < i → (M.2.1 r k).toInt = x_bL V i.toNat k := fun k hk => by omega
theorem bl_s (ln : ∀ k : Nat, (k : Int) < i → (M.2.1 r k).toInt = x_bL V i.toNat k) (lb : x_bj V (x_bL V i.toNat) i.toNat (i - j).toNat j.toNat (M.2.1 r i.toNat).toInt = x_bj V (x_bL V i.toNat) i.toNat i.toNat 0 1) (h0 : 0 ≤ i) (hj : i ≤ j) (h2 : i2 = i + 1) : ∀ k : Nat, (k : Int) < i2 → (M.2.1 r k).toInt = x_bL V i2.toNat k := fun k hk => by
  rw [show i2.toNat = i.toNat + 1 by omega]
  show _ = if k = i.toNat then x_bj V (x_bL V i.toNat) i.toNat i.toNat 0 1 else x_bL V i.toNat k
  rw [show (i - j).toNat = 0 by omega] at lb
  by_cases g : k = i.toNat
  · rw [if_pos g, g, ← lb]
    rfl
  · rw [if_neg g]
    exact ln k (by omega)
theorem bm_s {a b : Int} (ln : ∀ k : Nat, (k : Int) < i2 → (M.2.1 r k).toInt = x_bL V i2.toNat k) (h0 : 0 ≤ i) (h2 : i2 = i + 1) (ha : a = x_bM V i.toNat) (h3 : a ≤ b) (h4 : (M.2.1 r i.toNat).toInt ≤ b) (h5 : b = a ∨ b = (M.2.1 r i.toNat).toInt) : b = x_bM V i2.toNat := by
  have z := ln i.toNat (by omega)
  rw [show i2.toNat = i.toNat + 1 by omega] at z ⊢
  rw [x_bM, ← z, ← ha]
  split <;> omega
theorem bm_0 {a : Int} (h : i = 0) (ha : a = 0) : a = x_bM V i.toNat := by
  rw [h, ha]
  rfl
theorem bm_x {a s : Int} (ha : a = x_bM V i.toNat) (h : i = s) : a = x_bM V s.toNat := by
  rw [← h]
  exact ha
theorem bv_s {j : Nat} {v : Int32} (H : ∀ k : Nat, (k : Int) < i → (M.2.1 r k).toInt = V k) (h0 : 0 ≤ i) (W : M1 = mm_setI M r j v) (hj : j = i.toNat) (hv : v.toInt = V i.toNat) (h2 : i2 = i + 1) : ∀ k : Nat, (k : Int) < i2 → (M1.2.1 r k).toInt = V k := fun k hk => by
  by_cases g : k = j
  · rw [g, W_e W, hv, hj]
  · rw [show M1.2.1 r k = M.2.1 r k from W_n W (by omega) rfl]
    exact H k (by omega)
end BHM
theorem bv_e {K : x_Kn} {R : Nat → Int} {f c : Int} {v : Int32} {k : Nat} (z : v = K.2.2.1 (8 * c.toNat + f.toNat)) (h : c = R k) : v.toInt = x_bv K R f k := by
  rw [z, h]
  rfl
theorem x_behind_y {s : x_S} {P : x_P} {K : x_Kn} {p f r : Int} (h : (0 ≤ p ∧ p ≤ 5) ∧ 0 ≤ f ∧ f < s.2.1 ∧ ¬ x_row s 2 f = 3) (e : r = P.2 p - x_bM (x_bv K (P.1 p) f) (P.2 p).toNat) : r = x_behind s P K p f := by
  rw [e]
  unfold x_behind
  rw [if_pos h]
theorem x_behind_n {s : x_S} {P : x_P} {K : x_Kn} {p f r : Int} (h : ¬ ((0 ≤ p ∧ p ≤ 5) ∧ 0 ≤ f ∧ f < s.2.1 ∧ ¬ x_row s 2 f = 3)) (e : r = -1) : r = x_behind s P K p f := by
  rw [e]
  unfold x_behind
  rw [if_neg h]
end BHS
