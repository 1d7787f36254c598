/-! THE LAW: what holds between its calls -/
noncomputable def PQE (M : mm_M) : Prop := ∃ p pz q qz : Nat, (p = 49 ∨ p = 58) ∧ (pz = 49 ∨ pz = 58) ∧ (q = 67 ∨ q = 72) ∧ (qz = 67 ∨ qz = 72) ∧ g_PQ M p pz q qz
theorem PQE_r {M M1 : mm_M} (h : M1.2.2.2 = M.2.2.2) (H : PQE M) : PQE M1 := by
  obtain ⟨p, pz, q, qz, h1, h2, h3, h4, h5⟩ := H
  refine ⟨p, pz, q, qz, h1, h2, h3, h4, ?_⟩
  unfold g_PQ at h5 ⊢
  rw [h]
  exact h5
theorem PQE_pp {M : mm_M} {p pz q qz : Nat} (h1 : p = 49 ∨ p = 58) (h2 : pz = 49 ∨ pz = 58) (h3 : q = 67 ∨ q = 72) (h4 : qz = 67 ∨ qz = 72) (h : g_PP M p pz q qz) : PQE M := by
  rcases h with h | h
  · exact ⟨p, pz, q, qz, h1, h2, h3, h4, h⟩
  · exact ⟨pz, p, q, qz, h2, h1, h3, h4, h⟩
theorem PQE_qq {M : mm_M} {p pz q qz : Nat} (h1 : p = 49 ∨ p = 58) (h2 : pz = 49 ∨ pz = 58) (h3 : q = 67 ∨ q = 72) (h4 : qz = 67 ∨ qz = 72) (h : g_QQ M p pz q qz) : PQE M := by
  rcases h with h | h
  · exact ⟨p, pz, q, qz, h1, h2, h3, h4, h⟩
  · exact ⟨p, pz, qz, q, h1, h2, h4, h3, h⟩
theorem Fx_n {M M1 : mm_M} {P : Nat → Nat → Prop} {a i : Nat} {w : Int32} (F : FRX P M M1) (hn : ¬ P a i) (h : M.2.1 a i = w) : M1.2.1 a i = w := (F.2 a i hn).1.trans h
theorem K_n {M M1 : mm_M} {a i : Nat} {w : Int32} (K : M1.2.1 = M.2.1) (h : M.2.1 a i = w) : M1.2.1 a i = w := by rw [K]; exact h
noncomputable def LI (M : mm_M) : Prop := g_G M ∧ (PI M ∧ NI M ∧ QI M ∧ PQE M) ∧ (FA M ∧ WC M ∧ NJ M ∧ PS M ∧ KQ M) ∧ (M.2.1 77 7).toInt ≤ (M.2.1 77 6).toInt ∧ (M.2.1 1 1).toInt = (M.2.1 77 1).toInt
theorem g_mk {M : mm_M} (hG : g_G M) : g_G (mm_mark M) := hG
section S5
variable {X : mm_X} {d mi pc : Nat} {ls st : List Value} {M : mm_M} {Q : Option Value → mm_M → Prop} {len a b : Nat} {ps : List Nat} {x : Int32} {A : Int} {L : Nat}
theorem s_x0 (hc : mm_code mi pc = some (.iaload, len, a, b, ps)) (hL : (X 0).1 = L) (ex : x.toInt = A) (h0 : 0 ≤ A) (h1 : A < (L : Int)) (h : ∀ v : Int32, (X 0).2 A.toNat = v → mm_T X d mi (pc + len) ls (.int v :: st) M Q) : mm_T X d mi pc ls (.int x :: .ref mm_ext :: st) M Q := tt_xal (e := 0) hc (by rw [hL]; exact i_ix ex h0 h1) rfl (h _ (by rw [show x.toNatClampNeg = A.toNat by rw [← ex]; rfl]))
theorem s_x0k {v : Int32} (hc : mm_code mi pc = some (.iaload, len, a, b, ps)) (hL : (X 0).1 = L) (ex : x.toInt = A) (h0 : 0 ≤ A) (h1 : A < (L : Int)) (hv : (X 0).2 A.toNat = v) (h : mm_T X d mi (pc + len) ls (.int v :: st) M Q) : mm_T X d mi pc ls (.int x :: .ref mm_ext :: st) M Q := tt_xal (e := 0) hc (by rw [hL]; exact i_ix ex h0 h1) (by rw [show x.toNatClampNeg = A.toNat by rw [← ex]; rfl]; exact hv) h
theorem i_nat {n : Nat} (h : n ≤ 3072) : (Int32.ofNat n).toInt = (n : Int) := by
  rw [Int32.toInt_ofNat']
  exact i_bm (by omega)
theorem s_xlen0 (hc : mm_code mi pc = some (.arraylength, len, a, b, ps)) (hL : (X 0).1 = L) (h3 : L ≤ 3072) (h : ∀ v : Int32, v.toInt = (L : Int) → mm_T X d mi (pc + len) ls (.int v :: st) M Q) : mm_T X d mi pc ls (.ref mm_ext :: st) M Q := to_xlen (e := 0) hc (by rw [hL]) (h _ (i_nat h3))
theorem s_lk {k : Nat} {f w : Int32} {rest : List Value} (hc : mm_code mi pc = some (.invokestatic k, len, 998, 4, ps)) (hd : 1 ≤ d) (h8 : Nat.ble (mm_w8 rest) 8 = true) (hG : g_G M) (hpq : PQE M) (h : ∀ (r : Int32) (M1 : mm_M), g_G M1 → M1.2.1 = M.2.1 → M1.2.2.2 = M.2.2.2 → M1.1.2.1 = M.1.2.1 + 1 → M1.1.2.2.1 = M.1.2.2.1 + 6 → mm_T X d mi (pc + 3) ls (.int r :: rest) M1 Q) : mm_T X d mi pc ls (.ref 125 :: .int w :: .int f :: .ref 0 :: rest) M Q := by
  obtain ⟨e, rfl⟩ : ∃ e, d = e + 1 := ⟨d - 1, by omega⟩
  obtain ⟨p, pz, q, qz, hp, -, -, -, h5, -, -, -⟩ := hpq
  have key : ∃ (r : Int32) (M1 : mm_M), mm_look M [.ref 0, .int f, .int w, .ref 125] = some (some (.int r), M1) ∧ g_G M1 ∧ M1.2.1 = M.2.1 ∧ M1.2.2.2 = M.2.2.2 ∧ M1.1.2.1 = M.1.2.1 + 1 ∧ M1.1.2.2.1 = M.1.2.2.1 + 6 := by
    have e9 : (mm_isObj M 0 10 && mm_isObj M 125 101 && Nat.beq (M.1.1.2.2 125) 1) = true := by
      rw [g_o hG rfl, g_o hG rfl, g_l (n := 1) hG rfl rfl]; rfl
    have hp5 : mm_isObj M p 5 = true := g_o hG (by rcases hp with rfl | rfl <;> rfl)
    simp only [mm_look, e9, h5, hp5, cond_true]
    by_cases g1 : f < 0
    · rw [if_pos g1]; exact ⟨1, _, rfl, hG, rfl, rfl, rfl, rfl⟩
    · rw [if_neg g1]
      by_cases g2 : M.2.1 p 2 ≤ f
      · rw [if_pos g2]; exact ⟨1, _, rfl, hG, rfl, rfl, rfl, rfl⟩
      · rw [if_neg g2]
        by_cases g3 : w = 0 ∨ w = 1 ∨ w = 2 ∨ w = 3
        · rw [if_pos g3]
          have hb : (M.2.1 p 2).toInt ≤ 8 := (g_b (lo := 0) (hi := 8) hG (by rcases hp with rfl | rfl <;> rfl) (by rcases hp with rfl | rfl <;> rfl)).2
          have f0 : ¬ f.toInt < 0 := fun z => g1 (Int32.lt_iff_toInt_lt.mpr z)
          have f1 : ¬ (M.2.1 p 2).toInt ≤ f.toInt := fun z => g2 (Int32.le_iff_toInt_le.mpr z)
          obtain ⟨r, hr, ho, hn⟩ : ∃ r : Nat, M.2.2.2 p (6 + w.toNatClampNeg) = some r ∧ mm_isObj M r 100 = true ∧ M.1.1.2.2 r = 8 := by
            rcases g3 with rfl | rfl | rfl | rfl
            · exact ⟨p + 2, g_r hG (by rcases hp with rfl | rfl <;> rfl), g_o hG (by rcases hp with rfl | rfl <;> rfl), g_l hG (by rcases hp with rfl | rfl <;> rfl) (by rcases hp with rfl | rfl <;> rfl)⟩
            · exact ⟨p + 3, g_r hG (by rcases hp with rfl | rfl <;> rfl), g_o hG (by rcases hp with rfl | rfl <;> rfl), g_l hG (by rcases hp with rfl | rfl <;> rfl) (by rcases hp with rfl | rfl <;> rfl)⟩
            · exact ⟨p + 4, g_r hG (by rcases hp with rfl | rfl <;> rfl), g_o hG (by rcases hp with rfl | rfl <;> rfl), g_l hG (by rcases hp with rfl | rfl <;> rfl) (by rcases hp with rfl | rfl <;> rfl)⟩
            · exact ⟨p + 5, g_r hG (by rcases hp with rfl | rfl <;> rfl), g_o hG (by rcases hp with rfl | rfl <;> rfl), g_l hG (by rcases hp with rfl | rfl <;> rfl) (by rcases hp with rfl | rfl <;> rfl)⟩
          have hlt : Nat.blt f.toNatClampNeg 8 = true := by
            have e2 : f.toNatClampNeg = f.toInt.toNat := rfl
            rw [e2]
            exact Nat.ble_eq_true_of_le (by omega)
          simp only [hr]
          rw [ho, hn, hlt]
          exact ⟨0, _, rfl, hG, rfl, rfl, rfl, rfl⟩
        · rw [if_neg g3]; exact ⟨2, _, rfl, hG, rfl, rfl, rfl, rfl⟩
  obtain ⟨r, M1, hl, k1, k2, k3, k4, k5⟩ := key
  exact tt_1 hc (tt_look (Nat.le_of_ble_eq_true h8) hl (h r M1 k1 k2 k3 k4 k5))
end S5
noncomputable def LI3 (M : mm_M) : Prop := LI M ∧ TP M ∧ W9 M
noncomputable def LI4 (M : mm_M) : Prop := LI3 M ∧ NE M ∧ (M.2.1 0 12).toInt = (M.2.1 77 28).toInt
noncomputable def LI5 (M : mm_M) : Prop := LI4 M ∧ AL M
noncomputable def LI6 (M : mm_M) : Prop := LI5 M ∧ (M.2.1 17 4).toInt = (M.2.1 77 41).toInt
noncomputable def LI7 (M : mm_M) : Prop := LI6 M ∧ W8 M
noncomputable def LI8 (M : mm_M) : Prop := LI7 M ∧ (M.2.1 6 0).toInt = (M.2.1 77 29).toInt
noncomputable def LI9 (M : mm_M) : Prop := LI8 M ∧ AN M
