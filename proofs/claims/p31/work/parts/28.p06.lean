/-! as many knots on both sides -/
noncomputable def KNA (M : mm_M) : Prop := ∃ q qz : Nat, M.2.2.2 0 10 = some q ∧ M.2.2.2 0 11 = some qz ∧ q ≠ qz ∧ (q = 67 ∨ q = 72) ∧ (qz = 67 ∨ qz = 72) ∧ (M.2.1 q 4).toInt = (M.2.1 77 58).toInt
theorem KNA_u {M : mm_M} {p pz q qz : Nat} (hpq : g_PQ M p pz q qz) (H : KNA M) : q ≠ qz ∧ (M.2.1 q 4).toInt = (M.2.1 77 58).toInt := by
  obtain ⟨q2, z2, h1, h2, h3, h4, h5, h6⟩ := H
  have e1 : q2 = q := Option.some.inj (h1.symm.trans hpq.2.2.1)
  have e2 : z2 = qz := Option.some.inj (h2.symm.trans hpq.2.2.2)
  subst e1
  subst e2
  exact ⟨h3, h6⟩
theorem KNA_i {M : mm_M} {p pz q qz : Nat} (hpq : g_PQ M p pz q qz) (hq : q = 67 ∨ q = 72) (hqz : qz = 67 ∨ qz = 72) (n : q ≠ qz) (e : (M.2.1 q 4).toInt = (M.2.1 77 58).toInt) : KNA M := ⟨q, qz, hpq.2.2.1, hpq.2.2.2, n, hq, hqz, e⟩
theorem KNA_P {M : mm_M} {p pz q qz : Nat} (hpq : g_PP M p pz q qz) (hq : q = 67 ∨ q = 72) (hqz : qz = 67 ∨ qz = 72) (n : q ≠ qz) (e : (M.2.1 q 4).toInt = (M.2.1 77 58).toInt) : KNA M := by
  rcases hpq with h | h
  · exact KNA_i h hq hqz n e
  · exact KNA_i h hq hqz n e
theorem KNA_F {M M1 : mm_M} {P : Nat → Nat → Prop} (F : FR P M M1) (h : ∀ a i : Nat, ((a = 67 ∨ a = 72) ∧ i = 4 ∨ a = 77 ∧ i = 58) → ¬ P a i) (H : KNA M) : KNA M1 := by
  obtain ⟨q, qz, h1, h2, h3, h4, h5, h6⟩ := H
  refine ⟨q, qz, by rw [F.2.1]; exact h1, by rw [F.2.1]; exact h2, h3, h4, h5, ?_⟩
  rw [(F.2.2 q 4 (h q 4 (Or.inl ⟨h4, rfl⟩))).1, (F.2.2 77 58 (h 77 58 (Or.inr ⟨rfl, rfl⟩))).1]
  exact h6
theorem KNA_K {M M1 : mm_M} (K : M1.2.1 = M.2.1) (kr : M1.2.2.2 = M.2.2.2) (_ : ∀ a i : Nat, a ≠ 125 → M1.2.2.1 a i = M.2.2.1 a i) (H : KNA M) : KNA M1 := by
  unfold KNA at H ⊢
  rw [K, kr]
  exact H
/-- the class's question was read: answers of both, and the knots on both sides behind it -/
theorem KNA_q {M M1 M2 : mm_M} {p pz q qz : Nat} {r r2 : Int} {P2 : Nat → Nat → Prop} (hq : q = 67 ∨ q = 72) (hqz : qz = 67 ∨ qz = 72) (u : q ≠ qz ∧ (M.2.1 q 4).toInt = (M.2.1 77 58).toInt) (e : r = r2) (a : (r < 0 → g_PQ M1 p pz q qz ∧ (M1.2.1 q 4).toInt = (M.2.1 q 4).toInt) ∧ (0 ≤ r → g_PQ M1 p pz qz q ∧ (M1.2.1 qz 4).toInt = r)) (k1 : (M1.2.1 77 58).toInt = (M.2.1 77 58).toInt) (F : FR P2 M1 M2) (h2 : ∀ a i : Nat, (a = 67 ∨ a = 72) → ¬ P2 a i) (b1 : r2 < 0 → (M2.2.1 77 58).toInt = (M1.2.1 77 58).toInt) (b2 : 0 ≤ r2 → (M2.2.1 77 58).toInt = r2) : KNA M2 := by
  by_cases g : r < 0
  · obtain ⟨g1, g2⟩ := a.1 g
    have f := (F.2.2 q 4 (h2 q 4 hq)).1
    refine ⟨q, qz, by rw [F.2.1]; exact g1.2.2.1, by rw [F.2.1]; exact g1.2.2.2, u.1, hq, hqz, ?_⟩
    rw [f, g2, u.2, b1 (by omega), k1]
  · obtain ⟨g1, g2⟩ := a.2 (by omega)
    have f := (F.2.2 qz 4 (h2 qz 4 hqz)).1
    refine ⟨qz, q, by rw [F.2.1]; exact g1.2.2.1, by rw [F.2.1]; exact g1.2.2.2, fun z => u.1 z.symm, hqz, hq, ?_⟩
    rw [f, g2, b2 (by omega), e]
/-- the plan was read -/
theorem KNA_n {M M1 M2 : mm_M} {p pz q qz : Nat} {r r2 : Int} {P2 : Nat → Nat → Prop} (hq : q = 67 ∨ q = 72) (hqz : qz = 67 ∨ qz = 72) (u : q ≠ qz ∧ (M.2.1 q 4).toInt = (M.2.1 77 58).toInt) (e : r = r2) (hp : g_PP M1 p pz q qz) (a : (r < 0 → (M1.2.1 q 4).toInt = (M.2.1 q 4).toInt) ∧ (0 ≤ r → (M1.2.1 q 4).toInt = 0)) (k1 : (M1.2.1 77 58).toInt = (M.2.1 77 58).toInt) (F : FR P2 M1 M2) (h2 : ∀ a i : Nat, (a = 67 ∨ a = 72) → ¬ P2 a i) (b1 : r2 < 0 → (M2.2.1 77 58).toInt = (M1.2.1 77 58).toInt) (b2 : 0 ≤ r2 → (M2.2.1 77 58).toInt = 0) : KNA M2 := by
  have f := (F.2.2 q 4 (h2 q 4 hq)).1
  have r10 : M1.2.2.2 0 10 = some q ∧ M1.2.2.2 0 11 = some qz := by
    rcases hp with h | h
    · exact ⟨h.2.2.1, h.2.2.2⟩
    · exact ⟨h.2.2.1, h.2.2.2⟩
  refine ⟨q, qz, by rw [F.2.1]; exact r10.1, by rw [F.2.1]; exact r10.2, u.1, hq, hqz, ?_⟩
  rw [f]
  by_cases g : r < 0
  · rw [a.1 g, u.2, b1 (by omega), k1]
  · rw [a.2 (by omega), b2 (by omega)]
/-! count -/
noncomputable def x_cnt (w a b c d e f g h : Int) : Int := if w = 0 then a else if w = 1 then b else if w = 2 then c else if w = 3 then d else if w = 4 then e else if w = 5 then f else if w = 6 then g else if w = 7 then h else -1
section XCT
variable {w a b c d e f g h r : Int}
theorem x_cnt_0 (z : w = 0) (y : r = a) : r = x_cnt w a b c d e f g h := by unfold x_cnt; rw [if_pos z]; exact y
theorem x_cnt_1 (z : w = 1) (y : r = b) : r = x_cnt w a b c d e f g h := by unfold x_cnt; rw [if_neg (by omega), if_pos z]; exact y
theorem x_cnt_2 (z : w = 2) (y : r = c) : r = x_cnt w a b c d e f g h := by unfold x_cnt; rw [if_neg (by omega), if_neg (by omega), if_pos z]; exact y
theorem x_cnt_3 (z : w = 3) (y : r = d) : r = x_cnt w a b c d e f g h := by unfold x_cnt; rw [if_neg (by omega), if_neg (by omega), if_neg (by omega), if_pos z]; exact y
theorem x_cnt_4 (z : w = 4) (y : r = e) : r = x_cnt w a b c d e f g h := by unfold x_cnt; rw [if_neg (by omega), if_neg (by omega), if_neg (by omega), if_neg (by omega), if_pos z]; exact y
theorem x_cnt_5 (z : w = 5) (y : r = f) : r = x_cnt w a b c d e f g h := by unfold x_cnt; rw [if_neg (by omega), if_neg (by omega), if_neg (by omega), if_neg (by omega), if_neg (by omega), if_pos z]; exact y
theorem x_cnt_6 (z : w = 6) (y : r = g) : r = x_cnt w a b c d e f g h := by unfold x_cnt; rw [if_neg (by omega), if_neg (by omega), if_neg (by omega), if_neg (by omega), if_neg (by omega), if_neg (by omega), if_pos z]; exact y
theorem x_cnt_7 (z : w = 7) (y : r = h) : r = x_cnt w a b c d e f g h := by unfold x_cnt; rw [if_neg (by omega), if_neg (by omega), if_neg (by omega), if_neg (by omega), if_neg (by omega), if_neg (by omega), if_neg (by omega), if_pos z]; exact y
theorem x_cnt_n (z : w < 0 ∨ 7 < w) (y : r = -1) : r = x_cnt w a b c d e f g h := by unfold x_cnt; rw [if_neg (by omega), if_neg (by omega), if_neg (by omega), if_neg (by omega), if_neg (by omega), if_neg (by omega), if_neg (by omega), if_neg (by omega)]; exact y
theorem x_cnt_q {a3 b3 c3 d3 e3 f3 g3 h3 r3 : Int} (z : r = x_cnt w a b c d e f g h) (z3 : r3 = x_cnt w a3 b3 c3 d3 e3 f3 g3 h3) (y1 : a = a3) (y2 : b = b3) (y3 : c = c3) (y4 : d = d3) (y5 : e = e3) (y6 : f = f3) (y7 : g = g3) (y8 : h = h3) : r = r3 := by
  subst y1; subst y2; subst y3; subst y4; subst y5; subst y6; subst y7; subst y8
  exact z.trans z3.symm
end XCT
