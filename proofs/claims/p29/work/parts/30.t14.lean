theorem D_215 {X : mm_X} {d : Nat} {M : mm_M} {Q : Option Value → mm_M → Prop} {t : Nat → Int} {nn : Int} {a : Int} {sg : x_S} {C9 : Nat → Int64} {n9 : Int} {op : List Int} {A9 : x_A} (hX : g_X X) (hd : 4 ≤ d) (hG : g_G M) (q1 : (M.2.1 77 7).toInt ≤ (M.2.1 77 6).toInt) (q2 : AB M) (q3 : ST M) (q4 : RS M t nn) (q5 : (M.2.1 77 10).toInt = a) (q6 : 0 ≤ nn) (q7 : nn ≤ 500) (q8 : TR M t nn) (q9 : W9 M) (q10 : PLk M sg) (q11 : (M.2.1 77 44).toInt = n9) (q12 : 0 ≤ n9) (q13 : ¬ (x_kind t nn a = 0 ∧ (M.2.1 77 52).toInt = 0)) (q14 : WKr (x_DD t nn sg C9, C9, sg.2.2.1) M A9 n9 op) (q15 : OPR (orow M) op) (q16 : (op.length : Int) = (M.2.1 77 52).toInt) (q17 : ∀ m ∈ op, 0 ≤ m ∧ m < n9) (h : ∀ (r : Int32) (M1 : mm_M), g_G M1 → FR md_ac M M1 → (0 ≤ r.toInt) → (r.toInt ≤ 1) → ((M1.2.1 77 7).toInt ≤ (M1.2.1 77 6).toInt) → ((M.2.1 77 7).toInt ≤ (M1.2.1 77 7).toInt) → (r.toInt = 1 → (M1.2.1 77 8).toInt = 0 ∨ (M.2.1 77 7).toInt < (M1.2.1 77 7).toInt) → (r.toInt = 1 → ¬ (M.2.1 77 8).toInt = 0) → (r.toInt = 1 → AB M1) → (r.toInt = 1 → ST M1) → ((r.toInt = 1 → RS M1 t nn)) → ((r.toInt = 1 → WS (x_DD t nn sg C9, C9, sg.2.2.1) t nn sg (x_ww t nn sg 0 n9 op A9 a) M1)) → ((r.toInt = 0 → x_ww t nn sg 0 n9 op A9 a = Sum.inl ((M1.2.1 77 4).toInt, (M1.2.1 77 5).toInt))) → Q (some (.int r)) M1) : mm_T X d 214 0 [.ref 77, .null] [] M Q := by
  refine T_im (T_and (C_215 hX (by omega) hG q1 q2 q3  (Q := (fun v M1 => ∃ r : Int32, v = some (.int r) ∧ g_G M1 ∧ FR md_ac M M1 ∧ (0 ≤ r.toInt) ∧ (r.toInt ≤ 1) ∧ ((M1.2.1 77 7).toInt ≤ (M1.2.1 77 6).toInt) ∧ ((M.2.1 77 7).toInt ≤ (M1.2.1 77 7).toInt) ∧ (r.toInt = 1 → (M1.2.1 77 8).toInt = 0 ∨ (M.2.1 77 7).toInt < (M1.2.1 77 7).toInt) ∧ (r.toInt = 1 → ¬ (M.2.1 77 8).toInt = 0) ∧ (r.toInt = 1 → AB M1) ∧ (r.toInt = 1 → ST M1))) (fun r M1 a0 a1 a2 a3 a4 a5 a6 a7 a8 a9 => ⟨r, rfl, a0, a1, a2, a3, a4, a5, a6, a7, a8, a9⟩)) (E_215 hX (by omega) hG q4 q5 q6 q7 q8 q9 q10 q11 q12 q13 q14 q15 q16 q17 (t := t) (nn := nn) (a := a) (sg := sg) (C9 := C9) (n9 := n9) (op := op) (A9 := A9) (Q := (fun v M1 => ∃ r : Int32, v = some (.int r) ∧ (0 ≤ r.toInt) ∧ (r.toInt ≤ 1) ∧ ((r.toInt = 1 → RS M1 t nn)) ∧ ((r.toInt = 1 → WS (x_DD t nn sg C9, C9, sg.2.2.1) t nn sg (x_ww t nn sg 0 n9 op A9 a) M1)) ∧ ((r.toInt = 0 → x_ww t nn sg 0 n9 op A9 a = Sum.inl ((M1.2.1 77 4).toInt, (M1.2.1 77 5).toInt))))) (fun r M1 _ _ b0 b1 b2 b3 b4 => ⟨r, rfl, b0, b1, b2, b3, b4⟩))) ?_
  intro v M1 hh
  obtain ⟨⟨r, hv, a0, a1, a2, a3, a4, a5, a6, a7, a8, a9⟩, ⟨r2, hv2, b0, b1, b2, b3, b4⟩⟩ := hh
  have e : r2 = r := by
    rw [hv] at hv2
    injection hv2 with z
    injection z with z
    exact z.symm
  subst e
  subst hv
  exact h _ M1 a0 a1 a2 a3 a4 a5 a6 a7 a8 a9 b2 b3 b4
theorem D_218 {X : mm_X} {d : Nat} {M : mm_M} {Q : Option Value → mm_M → Prop} {sg : x_S} {NN : x_N} {nz : Int} {ca : Int} {D8 : Int → x_D} {A9 : x_A} {n9 : Int} {P9 : x_P} {ov : Int32} (hX : g_X X) (hd : 3 ≤ d) (hG : g_G M) (q1 : NJ M) (q2 : PS M) (q3 : AB M) (q4 : ST M) (q5 : (M.2.1 77 52).toInt ≤ 0) (q6 : (M.2.1 77 44).toInt = n9) (q7 : (M.2.1 77 11).toInt = sg.1) (q8 : WKr (D8, (x_kn sg NN nz.toNat).2.2.2, sg.2.2.1) M A9 n9 []) (q9 : GDA D8 sg.1 A9 n9) (q10 : M.2.1 77 41 = ov) (q11 : PKr M P9) (q12 : x_pg P9 ca ca) (q13 : x_vn sg ca NN nz) (q14 : ca ≤ 30) (q15 : (M.2.1 77 29).toInt = nz) (q16 : (M.2.1 77 28).toInt = ca) (q17 : CWk M sg) (q18 : FA M) (q19 : PLk M sg) (q20 : W8 M) (q21 : NTr M NN nz) (h : ∀ (r : Int32) (M1 : mm_M), g_G M1 → FR md_do M M1 → PS M1 → (0 ≤ r.toInt) → (r.toInt ≤ 1) → (∃ P1 : x_P, PKr M1 P1 ∧ x_pg P1 ca ca ∧ RUN A9 (x_U D8 (x_dt (x_kn sg NN nz.toNat) ov sg.1) A9) n9 (0, [], 0, (0, P9)) (r.toInt, (M1.2.1 77 43).toInt, ((M1.2.1 77 42).toInt, P1))) → Q (some (.int r)) M1) : mm_T X d 217 0 [.ref 77, .null, .null] [] M Q := by
  refine T_im (T_and (C_218 hX (by omega) hG q1 q2 q3 q4 q5  (Q := (fun v M1 => ∃ r : Int32, v = some (.int r) ∧ g_G M1 ∧ FR md_do M M1 ∧ PS M1)) (fun r M1 a0 a1 a2 => ⟨r, rfl, a0, a1, a2⟩)) (E_218 hX (by omega) hG q3 q4 q5 q6 q7 q8 q9 q10 q11 q12 q13 q14 q15 q16 q17 q18 q19 q20 q21 (sg := sg) (NN := NN) (nz := nz) (ca := ca) (D8 := D8) (A9 := A9) (n9 := n9) (P9 := P9) (ov := ov) (Q := (fun v M1 => ∃ r : Int32, v = some (.int r) ∧ (0 ≤ r.toInt) ∧ (r.toInt ≤ 1) ∧ (∃ P1 : x_P, PKr M1 P1 ∧ x_pg P1 ca ca ∧ RUN A9 (x_U D8 (x_dt (x_kn sg NN nz.toNat) ov sg.1) A9) n9 (0, [], 0, (0, P9)) (r.toInt, (M1.2.1 77 43).toInt, ((M1.2.1 77 42).toInt, P1))))) (fun r M1 _ _ b0 b1 b2 => ⟨r, rfl, b0, b1, b2⟩))) ?_
  intro v M1 hh
  obtain ⟨⟨r, hv, a0, a1, a2⟩, ⟨r2, hv2, b0, b1, b2⟩⟩ := hh
  have e : r2 = r := by
    rw [hv] at hv2
    injection hv2 with z
    injection z with z
    exact z.symm
  subst e
  subst hv
  exact h _ M1 a0 a1 a2 b0 b1 b2
