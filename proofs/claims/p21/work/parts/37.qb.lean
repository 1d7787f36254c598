/-! the class's knots -/
noncomputable def LQc (M : mm_M) (q : Nat) (P : x_GP) : Prop := 0 ≤ P.2 ∧ (M.2.1 q 5).toInt = P.2 ∧ ∀ i : Nat, (i : Int) < P.2 → (M.2.1 (q + 1) i).toInt = P.1.1 i ∧ (M.2.1 (q + 2) i).toInt = P.1.2.1 i ∧ (M.2.1 (q + 3) i).toInt = P.1.2.2 i
noncomputable def x_wc : List Int → Int
  | [] => 0
  | w :: ws => (if w = 0 then 0 else 1) + x_wc ws
noncomputable def x_2s : Nat → List Int → List Int
  | 0, W => W
  | n + 1, W => 2 :: x_2s n W
noncomputable def x_P0 : x_GP := (x_A0, 0)
section LQS
variable {M M1 M2 M3 M4 : mm_M} {q : Nat} {P : x_GP} {W : List Int}
theorem x_wc_b : ∀ W : List Int, 0 ≤ x_wc W
  | [] => Int.le_refl _
  | w :: ws => by
    have ih := x_wc_b ws
    rw [x_wc]
    split <;> omega
theorem x_wc_1 {w : Int} (h : ¬ w = 0) : x_wc (w :: W) = 1 + x_wc W := by rw [x_wc, if_neg h]
theorem x_wc_0 : x_wc (0 :: W) = x_wc W := by rw [x_wc, if_pos rfl, Int.zero_add]
theorem x_wc_2 : ∀ n : Nat, x_wc (x_2s n W) = (n : Int) + x_wc W
  | 0 => by rw [x_2s]; omega
  | n + 1 => by
    rw [x_2s, x_wc_1 (by decide), x_wc_2 n]
    omega
theorem x_wc_2i {n : Int} (h : 0 ≤ n) : x_wc (x_2s n.toNat W) = n + x_wc W := by
  rw [x_wc_2]
  omega
theorem x_2s_s {n n2 : Int} (h0 : 0 ≤ n) (h : n2 = n + 1) : 2 :: x_2s n.toNat W = x_2s n2.toNat W := by
  rw [show n2.toNat = n.toNat + 1 by omega]
  rfl
theorem x_2s_0 {n : Int} (h : n ≤ 0) : x_2s n.toNat W = W := by
  rw [show n.toNat = 0 by omega]
  rfl
theorem LQc_f (h : ∀ a i : Nat, (a = q ∧ i = 5 ∨ q + 1 ≤ a ∧ a ≤ q + 3) → M1.2.1 a i = M.2.1 a i) (H : LQc M q P) : LQc M1 q P := by
  refine ⟨H.1, by rw [h q 5 (by omega)]; exact H.2.1, fun i hi => ?_⟩
  rw [h (q + 1) i (by omega), h (q + 2) i (by omega), h (q + 3) i (by omega)]
  exact H.2.2 i hi
theorem LQc_0 (h : (M.2.1 q 5).toInt = 0) : LQc M q x_P0 := ⟨Int.le_refl _, h, fun i hi => by
  have hi : (i : Int) < 0 := hi
  omega⟩
theorem LQc_k {k f s v : Int32} {j1 j2 j3 : Nat} (H : LQc M q P) (W1 : M1 = mm_setI M (q + 1) j1 k) (W2 : M2 = mm_setI M1 (q + 2) j2 f) (W3 : M3 = mm_setI M2 (q + 3) j3 s) (W4 : M4 = mm_setI M3 q 5 v) (h1 : (j1 : Int) = P.2) (h2 : (j2 : Int) = P.2) (h3 : (j3 : Int) = P.2) (hv : v.toInt = P.2 + 1) : LQc M4 q (x_kn1 P k.toInt f.toInt s.toInt) := by
  have h0 := H.1
  refine ⟨?_, ?_, fun i hi => ?_⟩
  · show 0 ≤ P.2 + 1
    omega
  · rw [W_e W4]
    exact hv
  · have hi : (i : Int) < P.2 + 1 := hi
    rw [show M4.2.1 (q + 1) i = M1.2.1 (q + 1) i from W_n W4 (by omega) (W_n W3 (by omega) (W_n W2 (by omega) rfl)), show M4.2.1 (q + 2) i = M2.2.1 (q + 2) i from W_n W4 (by omega) (W_n W3 (by omega) rfl), show M4.2.1 (q + 3) i = M3.2.1 (q + 3) i from W_n W4 (by omega) rfl]
    show _ = (if i = P.2.toNat then k.toInt else P.1.1 i) ∧ _ = (if i = P.2.toNat then f.toInt else P.1.2.1 i) ∧ _ = (if i = P.2.toNat then s.toInt else P.1.2.2 i)
    by_cases g : i = P.2.toNat
    · rw [if_pos g, if_pos g, if_pos g]
      refine ⟨?_, ?_, ?_⟩
      · rw [show i = j1 by omega, W_e W1]
      · rw [show i = j2 by omega, W_e W2]
      · rw [show i = j3 by omega, W_e W3]
    · have z := H.2.2 i (by omega)
      rw [if_neg g, if_neg g, if_neg g]
      refine ⟨?_, ?_, ?_⟩
      · rw [show M1.2.1 (q + 1) i = M.2.1 (q + 1) i from W_n W1 (by omega) rfl]
        exact z.1
      · rw [show M2.2.1 (q + 2) i = M.2.1 (q + 2) i from W_n W2 (by omega) (W_n W1 (by omega) rfl)]
        exact z.2.1
      · rw [show M3.2.1 (q + 3) i = M.2.1 (q + 3) i from W_n W3 (by omega) (W_n W2 (by omega) (W_n W1 (by omega) rfl))]
        exact z.2.2
theorem LQc_v {k f s k2 f2 s2 : Int} (h1 : k = k2) (h2 : f = f2) (h3 : s = s2) (H : LQc M q (x_kn1 P k f s)) : LQc M q (x_kn1 P k2 f2 s2) := by
  subst h1; subst h2; subst h3
  exact H
theorem x_kn1_2 {k a b : Int} : (x_kn1 P k a b).2 = P.2 + 1 := rfl
theorem bd_0 {l : Int} (h : 1 ≤ l) : x_bd l (0 :: W) P = (0 :: W, P) := by
  rw [x_bd, if_neg]
  show ¬ l ≤ 0
  omega
theorem bd_4 : x_bd 2 (4 :: W) P = (4 :: W, P) := by
  rw [x_bd, if_neg (by decide)]
end LQS
theorem g_v {t : Nat → Int} {nn : Int} {s : x_S} {tu tu2 br br2 cn cn2 a a2 : Int} {W W2 : List Int} {P : x_GP} (h : tu = tu2) (h1 : br = br2) (h2 : cn = cn2) (h3 : W = W2) (h4 : a = a2) : x_gg t nn s tu br cn W P a = x_gg t nn s tu2 br2 cn2 W2 P a2 := by rw [h, h1, h2, h3, h4]
theorem ginl {R : x_GR} {x y x2 y2 : Int} (h1 : x = x2) (h2 : y = y2) (H : R = .inl (x2, y2)) : R = .inl (x, y) := by rw [h1, h2]; exact H
