/-! a question is asked: the reference's side -/
section QFS
variable {M M1 : mm_M} {P : x_GP} {k : Nat → Int} {V : Nat → Bool} {n : Nat} {i u v w m : Int}
theorem LQK_u {j : Nat} (L : LQK 0 M P) (h : (j : Int) < P.2) : (M.2.1 112 j).toInt = P.1.1 j ∧ x_pt (x_hd P.1.1 j) (P.1.1 j) (M.2.1 113 j).toInt (M.2.1 114 j).toInt (P.1.2.1 j) (P.1.2.2 j) := by
  have z := L.2 j h
  rw [Nat.zero_add] at z
  exact z
theorem hd_u {s : x_S} {j : Nat} (H : GK s P j) : (P.1.1 j = 2 → 0 ≤ x_h1 (x_hd P.1.1 j) ∧ x_h1 (x_hd P.1.1 j) < (j : Int)) ∧ ((P.1.1 j = 3 ∨ P.1.1 j = 4) → (0 ≤ x_h1 (x_hd P.1.1 j) ∧ x_h1 (x_hd P.1.1 j) < (j : Int)) ∧ 0 ≤ x_h2 (x_hd P.1.1 j) ∧ x_h2 (x_hd P.1.1 j) < (j : Int)) := by
  unfold GK at H
  exact ⟨fun z => x_h1_b (by omega), fun z => ⟨x_h1_b (by omega), x_h2_b (by omega)⟩⟩
theorem hv_u {jj : Nat} {x : Int32} {y o : Int} (H : ∀ j : Nat, (j : Int) < i → ((M.2.1 117 j).toInt = 1 ↔ x_ev k V i.toNat j = true)) (W : M.2.1 117 jj = x) (hj : jj = y.toNat) (h0 : 0 ≤ y) (h : y < i) (ho : o = y) : x.toInt = 1 ↔ x_ev k V i.toNat o.toNat = true := by
  subst ho
  rw [← hj, ← W]
  exact H jj (by omega)
theorem hv_e {jj : Nat} {x : Int32} (H : ∀ j : Nat, (j : Int) < i → ((M.2.1 117 j).toInt = 1 ↔ x_ev k V i.toNat j = true)) (W : M.2.1 117 jj = x) (hi : i = m) (hj : (jj : Int) = m - 1) : x.toInt = 1 ↔ x_ev k V m.toNat (m.toNat - 1) = true := by
  subst hi
  rw [show i.toNat - 1 = jj by omega, ← W]
  exact H jj (by omega)
theorem hv_f (h : ∀ j : Nat, M1.2.1 117 j = M.2.1 117 j) (H : ∀ j : Nat, (j : Int) < i → ((M.2.1 117 j).toInt = 1 ↔ x_ev k V i.toNat j = true)) : ∀ j : Nat, (j : Int) < i → ((M1.2.1 117 j).toInt = 1 ↔ x_ev k V i.toNat j = true) := fun j hj => by
  rw [h j]
  exact H j hj
theorem el_y (hk : k n = 0 ∨ k n = 1) (h : V n = true) : (1 : Int32).toInt = 1 ↔ x_ev k V (n + 1) n = true := by
  rw [x_ev_l hk]
  exact iff_of_true rfl h
theorem el_n (hk : k n = 0 ∨ k n = 1) (h : ¬ V n = true) : (0 : Int32).toInt = 1 ↔ x_ev k V (n + 1) n = true := by
  rw [x_ev_l hk]
  exact iff_of_false (by decide) h
theorem e2_y (hk : k n = 2) (H : u = 1 ↔ x_ev k V n (x_h1 (x_hd k n)).toNat = true) (h : ¬ u = 1) : (1 : Int32).toInt = 1 ↔ x_ev k V (n + 1) n = true := iff_of_true rfl ((ev_2 (v := 1) hk H ⟨fun _ => h, fun _ => rfl⟩).mp rfl)
theorem e2_n (hk : k n = 2) (H : u = 1 ↔ x_ev k V n (x_h1 (x_hd k n)).toNat = true) (h : u = 1) : (0 : Int32).toInt = 1 ↔ x_ev k V (n + 1) n = true := iff_of_false (by decide) (fun z => absurd ((ev_2 (v := 0) hk H ⟨fun y => absurd y (by decide), fun y => absurd h y⟩).mpr z) (by decide))
theorem e3_1 (hk : k n = 3) (H1 : u = 1 ↔ x_ev k V n (x_h2 (x_hd k n)).toNat = true) (h : ¬ u = 1) : (0 : Int32).toInt = 1 ↔ x_ev k V (n + 1) n = true := by
  refine iff_of_false (by decide) (fun z => ?_)
  rw [x_ev_3 hk, Bool.and_eq_true] at z
  exact h (H1.mpr z.1)
theorem e3_2 (hk : k n = 3) (H2 : w = 1 ↔ x_ev k V n (x_h1 (x_hd k n)).toNat = true) (h : ¬ w = 1) : (0 : Int32).toInt = 1 ↔ x_ev k V (n + 1) n = true := by
  refine iff_of_false (by decide) (fun z => ?_)
  rw [x_ev_3 hk, Bool.and_eq_true] at z
  exact h (H2.mpr z.2)
theorem e3_y (hk : k n = 3) (H1 : u = 1 ↔ x_ev k V n (x_h2 (x_hd k n)).toNat = true) (H2 : w = 1 ↔ x_ev k V n (x_h1 (x_hd k n)).toNat = true) (h1 : u = 1) (h2 : w = 1) : (1 : Int32).toInt = 1 ↔ x_ev k V (n + 1) n = true := by
  refine iff_of_true rfl ?_
  rw [x_ev_3 hk, Bool.and_eq_true]
  exact ⟨H1.mp h1, H2.mp h2⟩
theorem e4_1 (hk : k n = 4) (H1 : u = 1 ↔ x_ev k V n (x_h2 (x_hd k n)).toNat = true) (h : u = 1) : (1 : Int32).toInt = 1 ↔ x_ev k V (n + 1) n = true := by
  refine iff_of_true rfl ?_
  rw [x_ev_4 hk, Bool.or_eq_true]
  exact Or.inl (H1.mp h)
theorem e4_2 (hk : k n = 4) (H2 : w = 1 ↔ x_ev k V n (x_h1 (x_hd k n)).toNat = true) (h : w = 1) : (1 : Int32).toInt = 1 ↔ x_ev k V (n + 1) n = true := by
  refine iff_of_true rfl ?_
  rw [x_ev_4 hk, Bool.or_eq_true]
  exact Or.inr (H2.mp h)
theorem e4_n (hk : k n = 4) (H1 : u = 1 ↔ x_ev k V n (x_h2 (x_hd k n)).toNat = true) (H2 : w = 1 ↔ x_ev k V n (x_h1 (x_hd k n)).toNat = true) (h1 : ¬ u = 1) (h2 : ¬ w = 1) : (0 : Int32).toInt = 1 ↔ x_ev k V (n + 1) n = true := by
  refine iff_of_false (by decide) (fun z => ?_)
  rw [x_ev_4 hk, Bool.or_eq_true] at z
  rcases z with z | z
  · exact h1 (H1.mpr z)
  · exact h2 (H2.mpr z)
end QFS
