theorem D_113 {X : mm_X} {d : Nat} {M : mm_M} {Q : Option Value → mm_M → Prop} {n : Int32} {p : Nat} {pz : Nat} {q : Nat} {qz : Nat} {t : Nat → Int} {nn : Int} {sg : x_S} (hX : g_X X) (hd : 39 ≤ d) (hG : g_G M) (hp : p = 49 ∨ p = 58) (hpz : pz = 49 ∨ pz = 58) (hq : q = 67 ∨ q = 72) (hqz : qz = 67 ∨ qz = 72) (q1 : g_PQ M p pz q qz) (q2 : QI M) (q3 : PI M) (q4 : NI M) (q5 : 0 ≤ n.toInt ∧ n.toInt ≤ (M.2.1 1 1).toInt → n.toInt = nn) (q6 : TT M t nn) (q7 : g_W X) (q8 : PLs M p sg) (q9 : q ≠ qz) (h : ∀ (r : Int32) (M1 : mm_M), g_G M1 → FRX md_X3 M M1 → (n.toInt < 0 ∨ (M.2.1 1 1).toInt < n.toInt → (M1.2.1 1 1).toInt = (M.2.1 1 1).toInt) → (0 ≤ n.toInt ∧ n.toInt ≤ (M.2.1 1 1).toInt → (M1.2.1 1 1).toInt = 0) → QI M1 → g_QQ M1 p pz q qz → PI M1 → NI M1 → (n.toInt < 0 ∨ (M.2.1 1 1).toInt < n.toInt → r.toInt = -2) → ((0 ≤ n.toInt ∧ n.toInt ≤ (M.2.1 1 1).toInt → QAN (x_qq t nn sg 0 0 0 (x_sk t nn 0)) r.toInt)) → (((r.toInt < 0 → g_PQ M1 p pz q qz ∧ (M1.2.1 q 4).toInt = (M.2.1 q 4).toInt) ∧ (0 ≤ r.toInt → g_PQ M1 p pz qz q ∧ (M1.2.1 qz 4).toInt = r.toInt))) → Q (some (.int r)) M1) : mm_T X d 113 0 [.ref 0, .int n, .null] [] M Q := by
  refine T_im (T_and (C_113 hX (by omega) hG hp hpz hq hqz q1 q2 q3 q4 (p := p) (pz := pz) (q := q) (qz := qz) (n := n) (Q := (fun v M1 => ∃ r : Int32, v = some (.int r) ∧ g_G M1 ∧ FRX md_X3 M M1 ∧ (n.toInt < 0 ∨ (M.2.1 1 1).toInt < n.toInt → (M1.2.1 1 1).toInt = (M.2.1 1 1).toInt) ∧ (0 ≤ n.toInt ∧ n.toInt ≤ (M.2.1 1 1).toInt → (M1.2.1 1 1).toInt = 0) ∧ QI M1 ∧ g_QQ M1 p pz q qz ∧ PI M1 ∧ NI M1)) (fun r M1 a0 a1 a2 a3 a4 a5 a6 a7 => ⟨r, rfl, a0, a1, a2, a3, a4, a5, a6, a7⟩)) (E_113 hX (by omega) hG hp hpz hq hqz q1 q2 q5 q6 q7 q8 q9 (p := p) (pz := pz) (q := q) (qz := qz) (t := t) (nn := nn) (sg := sg) (n := n) (Q := (fun v M1 => ∃ r : Int32, v = some (.int r) ∧ (n.toInt < 0 ∨ (M.2.1 1 1).toInt < n.toInt → r.toInt = -2) ∧ ((0 ≤ n.toInt ∧ n.toInt ≤ (M.2.1 1 1).toInt → QAN (x_qq t nn sg 0 0 0 (x_sk t nn 0)) r.toInt)) ∧ (((r.toInt < 0 → g_PQ M1 p pz q qz ∧ (M1.2.1 q 4).toInt = (M.2.1 q 4).toInt) ∧ (0 ≤ r.toInt → g_PQ M1 p pz qz q ∧ (M1.2.1 qz 4).toInt = r.toInt))))) (fun r M1 _ _ b0 b1 b2 => ⟨r, rfl, b0, b1, b2⟩))) ?_
  intro v M1 hh
  obtain ⟨⟨r, hv, a0, a1, a2, a3, a4, a5, a6, a7⟩, ⟨r2, hv2, b0, b1, b2⟩⟩ := hh
  have e : r2 = r := by
    rw [hv] at hv2
    injection hv2 with z
    injection z with z
    exact z.symm
  subst e
  subst hv
  exact h _ M1 a0 a1 a2 a3 a4 a5 a6 a7 b0 b1 b2
theorem D_227 {X : mm_X} {d : Nat} {M : mm_M} {Q : Option Value → mm_M → Prop} {n : Int32} {t : Nat → Int} {nn : Int} {sg : x_S} (hX : g_X X) (hd : 3 ≤ d) (hG : g_G M) (q1 : (M.2.1 77 7).toInt ≤ (M.2.1 77 6).toInt) (q2 : FA M) (q3 : WC M) (q4 : NJ M) (q5 : PS M) (q6 : KQ M) (q7 : 0 ≤ n.toInt ∧ n.toInt ≤ (M.2.1 77 1).toInt → n.toInt = nn) (q8 : TR M t nn) (q9 : W9 M) (q10 : PLk M sg) (h : ∀ (r : Int32) (M1 : mm_M), g_G M1 → FR md_qu M M1 → ((M1.2.1 77 7).toInt ≤ (M1.2.1 77 6).toInt) → FA M1 → WC M1 → NJ M1 → PS M1 → KQ M1 → (n.toInt < 0 ∨ (M.2.1 77 1).toInt < n.toInt → (M1.2.1 77 1).toInt = (M.2.1 77 1).toInt) → (0 ≤ n.toInt ∧ n.toInt ≤ (M.2.1 77 1).toInt → (M1.2.1 77 1).toInt = 0) → (n.toInt < 0 ∨ (M.2.1 77 1).toInt < n.toInt → r.toInt = -2) → ((0 ≤ n.toInt ∧ n.toInt ≤ (M.2.1 77 1).toInt → QAN (x_qq t nn sg 0 0 0 (x_sk t nn 0)) r.toInt)) → (r.toInt < 0 → (M1.2.1 77 58).toInt = (M.2.1 77 58).toInt) → (0 ≤ r.toInt → (M1.2.1 77 58).toInt = r.toInt) → Q (some (.int r)) M1) : mm_T X d 226 0 [.ref 77, .int n, .null] [] M Q := by
  refine T_im (T_and (C_227 hX (by omega) hG q1 q2 q3 q4 q5 q6 (n := n) (Q := (fun v M1 => ∃ r : Int32, v = some (.int r) ∧ g_G M1 ∧ FR md_qu M M1 ∧ ((M1.2.1 77 7).toInt ≤ (M1.2.1 77 6).toInt) ∧ FA M1 ∧ WC M1 ∧ NJ M1 ∧ PS M1 ∧ KQ M1 ∧ (n.toInt < 0 ∨ (M.2.1 77 1).toInt < n.toInt → (M1.2.1 77 1).toInt = (M.2.1 77 1).toInt) ∧ (0 ≤ n.toInt ∧ n.toInt ≤ (M.2.1 77 1).toInt → (M1.2.1 77 1).toInt = 0))) (fun r M1 a0 a1 a2 a3 a4 a5 a6 a7 a8 a9 => ⟨r, rfl, a0, a1, a2, a3, a4, a5, a6, a7, a8, a9⟩)) (E_227 hX (by omega) hG q1 q2 q7 q8 q9 q10 (t := t) (nn := nn) (sg := sg) (n := n) (Q := (fun v M1 => ∃ r : Int32, v = some (.int r) ∧ (n.toInt < 0 ∨ (M.2.1 77 1).toInt < n.toInt → r.toInt = -2) ∧ ((0 ≤ n.toInt ∧ n.toInt ≤ (M.2.1 77 1).toInt → QAN (x_qq t nn sg 0 0 0 (x_sk t nn 0)) r.toInt)) ∧ (r.toInt < 0 → (M1.2.1 77 58).toInt = (M.2.1 77 58).toInt) ∧ (0 ≤ r.toInt → (M1.2.1 77 58).toInt = r.toInt))) (fun r M1 _ _ b0 b1 b2 b3 => ⟨r, rfl, b0, b1, b2, b3⟩))) ?_
  intro v M1 hh
  obtain ⟨⟨r, hv, a0, a1, a2, a3, a4, a5, a6, a7, a8, a9⟩, ⟨r2, hv2, b0, b1, b2, b3⟩⟩ := hh
  have e : r2 = r := by
    rw [hv] at hv2
    injection hv2 with z
    injection z with z
    exact z.symm
  subst e
  subst hv
  exact h _ M1 a0 a1 a2 a3 a4 a5 a6 a7 a8 a9 b0 b1 b2 b3
