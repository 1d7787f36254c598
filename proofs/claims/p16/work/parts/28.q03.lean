set_option maxRecDepth 4000 in
set_option maxHeartbeats 0 in
theorem U_153_0 {X : mm_X} {d : Nat} {M : mm_M} {Q : Option Value → mm_M → Prop} {a : Int32} {b : Int32} {t : Nat → Int} {nn : Int} (hX : g_X X) (hd : 0 ≤ d) (q1 : 0 ≤ a.toInt) (q2 : a.toInt ≤ 500) (q3 : 0 ≤ b.toInt) (q4 : b.toInt ≤ 500) (q5 : a.toInt ≤ b.toInt) (q6 : b.toInt ≤ nn) (q7 : nn ≤ 500) (q8 : TR M t nn) (q9 : W9 M) (h : ∀ (r : Int32) (M1 : mm_M), g_G M1 → FR md_0 M M1 → (-1 ≤ r.toInt) → (r.toInt ≤ 14) → ((r.toInt = -1 → ∀ k : Int, 0 ≤ k → k < 15 → ¬ x_m t a.toInt b.toInt k) ∧ (0 ≤ r.toInt → x_m t a.toInt b.toInt r.toInt)) → Q (some (.int r)) M1) : ∀ nn9 : Nat, (∀ (N : mm_M) (x3 : Int32) (x4 : Int32) (u5 : Value) (u6 : Value) (u7 : Value), g_G N → FR md_0 M N → (0 ≤ x3.toInt) → (x3.toInt ≤ 15) → (0 ≤ x4.toInt) → (x4.toInt ≤ 70) → (x4.toInt = x_off x3.toInt) → (x3.toInt < 15 ∨ x4.toInt = 70) → (∀ k : Int, 0 ≤ k → k < x3.toInt → ¬ x_m t a.toInt b.toInt k) → (TR N t nn) → (W9 N) → (15 - x3.toInt) * 1000 + 900 < (nn9 : Int) → mm_T X d 152 5 [.ref 77, .int a, .int b, .int x3, .int x4, u5, u6, u7] [] N Q) ∧ (∀ (N : mm_M) (x3 : Int32) (x4 : Int32) (x5 : Int32) (u6 : Value) (u7 : Value), g_G N → FR md_0 M N → (0 ≤ x3.toInt) → (x3.toInt ≤ 14) → (0 ≤ x4.toInt) → (x4.toInt ≤ 69) → (x4.toInt = x_off x3.toInt) → (0 ≤ x5.toInt) → (x5.toInt ≤ 5) → (x5.toInt ≤ x_len x3.toInt) → (∀ k : Int, 0 ≤ k → k < x3.toInt → ¬ x_m t a.toInt b.toInt k) → (TR N t nn) → (W9 N) → (15 - x3.toInt) * 1000 + 300 - x5.toInt < (nn9 : Int) → mm_T X d 152 18 [.ref 77, .int a, .int b, .int x3, .int x4, .int x5, u6, u7] [] N Q) ∧ (∀ (N : mm_M) (x3 : Int32) (x4 : Int32) (x5 : Int32) (x6 : Int32) (x7 : Int32), g_G N → FR md_0 M N → (0 ≤ x3.toInt) → (x3.toInt ≤ 14) → (0 ≤ x4.toInt) → (x4.toInt ≤ 69) → (x4.toInt = x_off x3.toInt) → (0 ≤ x5.toInt) → (x5.toInt ≤ 5) → (x5.toInt = x_len x3.toInt) → (0 ≤ x7.toInt) → (x7.toInt ≤ 5) → (x7.toInt ≤ x5.toInt) → (0 ≤ x6.toInt) → (x6.toInt ≤ 1) → ((x6.toInt) = 1 → x_len x3.toInt = b.toInt - a.toInt ∧ ∀ j : Nat, (j : Int) < x7.toInt → x_w (x_off x3.toInt + j).toNat = t (a.toInt + j).toNat) → ((x6.toInt) = 0 → ¬ x_m t a.toInt b.toInt x3.toInt) → (x6.toInt = 1 → x5.toInt = b.toInt - a.toInt) → (∀ k : Int, 0 ≤ k → k < x3.toInt → ¬ x_m t a.toInt b.toInt k) → (TR N t nn) → (W9 N) → (15 - x3.toInt) * 1000 + 100 - x7.toInt < (nn9 : Int) → mm_T X d 152 57 [.ref 77, .int a, .int b, .int x3, .int x4, .int x5, .int x6, .int x7] [] N Q) := by
  intro nn9
  induction nn9 with
  | zero =>
    refine ⟨?_, ?_, ?_⟩
    · intro N x3 x4 u5 u6 u7 hG F0 g1 g2 g3 g4 g5 g6 g7 g8 g9 hm
      exfalso; omega
    · intro N x3 x4 x5 u6 u7 hG F0 g1 g2 g3 g4 g5 g6 g7 g8 g9 g10 g11 hm
      exfalso; omega
    · intro N x3 x4 x5 x6 x7 hG F0 g1 g2 g3 g4 g5 g6 g7 g8 g9 g10 g11 g12 g13 g14 g15 g16 g17 g18 g19 hm
      exfalso; omega
  | succ nn9 ih =>
    refine ⟨?_, ?_, ?_⟩
    · intro N x3 x4 u5 u6 u7 hG F0 g1 g2 g3 g4 g5 g6 g7 g8 g9 hm
      have o_15 := x_off_15 (k := x3.toInt)
      have o_1 := fun (z : x3.toInt ≤ 14) => x_off_u (k := x3.toInt) (by omega) z
      refine to_i (pc := 5) rw_153_5 rfl (to_an (pc := 7) rw_153_7 rfl (s_gR (pc := 8) rw_153_8 hG rfl (v := 79) rfl (s_len (pc := 11) rw_153_11 hG rfl rfl (n := 70) rfl (v := (70 : Int32)) rfl (b_cge (pc := 12) rw_153_12 (A := x4.toInt) (B := 70) rfl rfl (fun h1 => ?_) (fun h1 => ?_)))))
      · refine to_c (pc := 126) rw_153_126 (x := (-1 : Int32)) rfl rfl (to_r0 (pc := 127) rw_153_127 ?_)
        have k_2 : (-1 : Int32).toInt = -1 := rfl
        exact h (-1 : Int32) N hG F0 (by omega) (by omega) ⟨fun _ k h0 h1 => g7 k h0 (by omega), fun z => absurd z (by decide)⟩
      · refine to_c (pc := 15) rw_153_15 (x := (0 : Int32)) rfl rfl (to_is (pc := 16) rw_153_16 (ls2 := [.ref 77, .int a, .int b, .int x3, .int x4, .int (0 : Int32), u6, u7]) rfl rfl ?_)
        have k_3 : (0 : Int32).toInt = 0 := rfl
        exact ih.2.1 N x3 x4 (0 : Int32) (u6) (u7) hG F0 (by omega) (by omega) (by omega) (by omega) (by omega) (by omega) (by omega) (by omega) g7 g8 g9 (by omega)
    · intro N x3 x4 x5 u6 u7 hG F0 g1 g2 g3 g4 g5 g6 g7 g8 g9 g10 g11 hm
      have o_1 := x_off_u (k := x3.toInt) (by omega) (by omega)
      refine to_an (pc := 18) rw_153_18 rfl (s_gR (pc := 19) rw_153_19 hG rfl (v := 79) rfl (to_i (pc := 22) rw_153_22 rfl (to_i (pc := 24) rw_153_24 rfl (s_add (pc := 26) rw_153_26 (A := x4.toInt) (B := x5.toInt) rfl rfl (by omega) (fun v4 e5 => s_ial (pc := 27) rw_153_27 hG rfl (n := 70) rfl rfl (A := v4.toInt) rfl (by omega) (by omega) (lo := -2147483648) (hi := 2147483647) rfl rfl (fun v6 w_7 _ _ => ?_))))))
      have z_8 := W9_u g11 (A := v4.toInt) (B := x_off x3.toInt + x5.toInt) (by omega) (by omega) w_7 (by omega)
      have z_9 := x_off_w (by omega) (by omega) (n := x5.toInt) (by omega) z_8
      refine to_c (pc := 28) rw_153_28 (x := (32 : Int32)) rfl rfl (b_ceq (pc := 30) rw_153_30 (A := v6.toInt) (B := 32) rfl rfl (fun h10 => ?_) (fun h10 => ?_))
      · refine to_i (pc := 39) rw_153_39 rfl (to_in (pc := 41) rw_153_41 rfl (to_in (pc := 42) rw_153_42 rfl (s_sub (pc := 43) rw_153_43 (A := b.toInt) (B := a.toInt) rfl rfl (by omega) (fun v11 e12 => b_cne (pc := 44) rw_153_44 (A := x5.toInt) (B := v11.toInt) rfl rfl (fun h13 => ?_) (fun h13 => ?_)))))
        · refine to_c (pc := 51) rw_153_51 (x := (0 : Int32)) rfl rfl (to_is (pc := 52) rw_153_52 (ls2 := [.ref 77, .int a, .int b, .int x3, .int x4, .int x5, .int (0 : Int32), u7]) rfl rfl (to_c (pc := 54) rw_153_54 (x := (0 : Int32)) rfl rfl (to_is (pc := 55) rw_153_55 (ls2 := [.ref 77, .int a, .int b, .int x3, .int x4, .int x5, .int (0 : Int32), .int (0 : Int32)]) rfl rfl ?_)))
          have k_14 : (0 : Int32).toInt = 0 := rfl
          exact ih.2.2 N x3 x4 x5 (0 : Int32) (0 : Int32) hG F0 (by omega) (by omega) (by omega) (by omega) (by omega) (by omega) (by omega) (by omega) (by omega) (by omega) (by omega) (by omega) (by omega) (x_sa_0 (by omega)) (x_sb_0 (by omega)) (by omega) g9 g10 g11 (by omega)
        · refine to_c (pc := 47) rw_153_47 (x := (1 : Int32)) rfl rfl (to_go (pc := 48) rw_153_48 (to_is (pc := 52) rw_153_52 (ls2 := [.ref 77, .int a, .int b, .int x3, .int x4, .int x5, .int (1 : Int32), u7]) rfl rfl (to_c (pc := 54) rw_153_54 (x := (0 : Int32)) rfl rfl (to_is (pc := 55) rw_153_55 (ls2 := [.ref 77, .int a, .int b, .int x3, .int x4, .int x5, .int (1 : Int32), .int (0 : Int32)]) rfl rfl ?_))))
          have k_15 : (1 : Int32).toInt = 1 := rfl
          have k_16 : (0 : Int32).toInt = 0 := rfl
          exact ih.2.2 N x3 x4 x5 (1 : Int32) (0 : Int32) hG F0 (by omega) (by omega) (by omega) (by omega) (by omega) (by omega) (by omega) (by omega) (by omega) (by omega) (by omega) (by omega) (by omega) (x_sa_0 (by omega)) (x_sb_0 (by omega)) (by omega) g9 g10 g11 (by omega)
      · refine s_inc (pc := 33) rw_153_33 (ls2 := fun v => [.ref 77, .int a, .int b, .int x3, .int x4, .int v, u6, u7]) rfl rfl (fun _ => rfl) (A := x5.toInt) (B := 1) rfl rfl (by omega) (fun v17 e18 => to_go (pc := 36) rw_153_36 ?_)
        exact ih.2.1 N x3 x4 v17 (u6) (u7) hG F0 (by omega) (by omega) (by omega) (by omega) (by omega) (by omega) (by omega) (by omega) g9 g10 g11 (by omega)
    · intro N x3 x4 x5 x6 x7 hG F0 g1 g2 g3 g4 g5 g6 g7 g8 g9 g10 g11 g12 g13 g14 g15 g16 g17 g18 g19 hm
      have o_1 := x_off_u (k := x3.toInt) (by omega) (by omega)
      refine to_i (pc := 57) rw_153_57 rfl (to_i (pc := 59) rw_153_59 rfl (b_cge (pc := 61) rw_153_61 (A := x7.toInt) (B := x5.toInt) rfl rfl (fun h19 => ?_) (fun h19 => ?_)))
      · refine to_i (pc := 104) rw_153_104 rfl (b_ieq (pc := 106) rw_153_106 (A := x6.toInt) rfl (fun h20 => ?_) (fun h20 => ?_))
        · refine to_i (pc := 111) rw_153_111 rfl (to_i (pc := 113) rw_153_113 rfl (to_c (pc := 115) rw_153_115 (x := (1 : Int32)) rfl rfl (s_add (pc := 116) rw_153_116 (A := x5.toInt) (B := 1) rfl rfl (by omega) (fun v21 e22 => s_add (pc := 117) rw_153_117 (A := x4.toInt) (B := v21.toInt) rfl rfl (by omega) (fun v23 e24 => to_is (pc := 118) rw_153_118 (ls2 := [.ref 77, .int a, .int b, .int x3, .int v23, .int x5, .int x6, .int x7]) rfl rfl (s_inc (pc := 120) rw_153_120 (ls2 := fun v => [.ref 77, .int a, .int b, .int v, .int v23, .int x5, .int x6, .int x7]) rfl rfl (fun _ => rfl) (A := x3.toInt) (B := 1) rfl rfl (by omega) (fun v25 e26 => to_go (pc := 123) rw_153_123 ?_)))))))
          have z_27 : x_off v25.toInt = x_off (x3.toInt + 1) := by rw [show v25.toInt = x3.toInt + 1 by omega]
          have z_28 := x_off_15 (k := v25.toInt)
          exact ih.1 N v25 v23 (.int x5) (.int x6) (.int x7) hG F0 (by omega) (by omega) (by omega) (by omega) (by omega) (by omega) (x_no_s g17 (g15 (by omega)) (by omega)) g18 g19 (by omega)
        · refine to_in (pc := 109) rw_153_109 rfl (to_r0 (pc := 110) rw_153_110 ?_)
          have z_29 := g14 (by omega)
          exact h x3 N hG F0 (by omega) (by omega) ⟨fun z => by exfalso; omega, fun _ => ⟨z_29.1, fun j hj => z_29.2 j (by omega)⟩⟩
      · refine to_i (pc := 64) rw_153_64 rfl (b_ieq (pc := 66) rw_153_66 (A := x6.toInt) rfl (fun h30 => ?_) (fun h30 => ?_))
        · refine to_i (pc := 104) rw_153_104 rfl (b_ieq_t (pc := 106) rw_153_106 (A := x6.toInt) rfl (by omega) (to_i (pc := 111) rw_153_111 rfl (to_i (pc := 113) rw_153_113 rfl (to_c (pc := 115) rw_153_115 (x := (1 : Int32)) rfl rfl (s_add (pc := 116) rw_153_116 (A := x5.toInt) (B := 1) rfl rfl (by omega) (fun v31 e32 => s_add (pc := 117) rw_153_117 (A := x4.toInt) (B := v31.toInt) rfl rfl (by omega) (fun v33 e34 => to_is (pc := 118) rw_153_118 (ls2 := [.ref 77, .int a, .int b, .int x3, .int v33, .int x5, .int x6, .int x7]) rfl rfl (s_inc (pc := 120) rw_153_120 (ls2 := fun v => [.ref 77, .int a, .int b, .int v, .int v33, .int x5, .int x6, .int x7]) rfl rfl (fun _ => rfl) (A := x3.toInt) (B := 1) rfl rfl (by omega) (fun v35 e36 => to_go (pc := 123) rw_153_123 ?_)))))))))
          have z_37 : x_off v35.toInt = x_off (x3.toInt + 1) := by rw [show v35.toInt = x3.toInt + 1 by omega]
          have z_38 := x_off_15 (k := v35.toInt)
          exact ih.1 N v35 v33 (.int x5) (.int x6) (.int x7) hG F0 (by omega) (by omega) (by omega) (by omega) (by omega) (by omega) (x_no_s g17 (g15 (by omega)) (by omega)) g18 g19 (by omega)
        · refine to_an (pc := 69) rw_153_69 rfl (s_gR (pc := 70) rw_153_70 hG rfl (v := 79) rfl (to_i (pc := 73) rw_153_73 rfl (to_i (pc := 75) rw_153_75 rfl (s_add (pc := 77) rw_153_77 (A := x4.toInt) (B := x7.toInt) rfl rfl (by omega) (fun v39 e40 => s_ial (pc := 78) rw_153_78 hG rfl (n := 70) rfl rfl (A := v39.toInt) rfl (by omega) (by omega) (lo := -2147483648) (hi := 2147483647) rfl rfl (fun v41 w_42 _ _ => ?_))))))
          have z_43 := W9_u g19 (A := v39.toInt) (B := x_off x3.toInt + x7.toInt) (by omega) (by omega) w_42 (by omega)
          refine to_an (pc := 79) rw_153_79 rfl (s_gR (pc := 80) rw_153_80 hG rfl (v := 78) rfl (to_in (pc := 83) rw_153_83 rfl (to_i (pc := 84) rw_153_84 rfl (s_add (pc := 86) rw_153_86 (A := a.toInt) (B := x7.toInt) rfl rfl (by omega) (fun v44 e45 => s_ial (pc := 87) rw_153_87 hG rfl (n := 500) rfl rfl (A := v44.toInt) rfl (by omega) (by omega) (lo := 0) (hi := 255) rfl rfl (fun v46 w_47 _ _ => ?_))))))
          have z_48 := TR_u g18 (A := v44.toInt) (B := a.toInt + x7.toInt) (by omega) (by omega) w_47 (by omega)
          refine b_cne (pc := 88) rw_153_88 (A := v41.toInt) (B := v46.toInt) rfl rfl (fun h49 => ?_) (fun h49 => ?_)
          · refine to_c (pc := 95) rw_153_95 (x := (0 : Int32)) rfl rfl (to_is (pc := 96) rw_153_96 (ls2 := [.ref 77, .int a, .int b, .int x3, .int x4, .int x5, .int (0 : Int32), .int x7]) rfl rfl (s_inc (pc := 98) rw_153_98 (ls2 := fun v => [.ref 77, .int a, .int b, .int x3, .int x4, .int x5, .int (0 : Int32), .int v]) rfl rfl (fun _ => rfl) (A := x7.toInt) (B := 1) rfl rfl (by omega) (fun v50 e51 => to_go (pc := 101) rw_153_101 ?_)))
            have k_52 : (0 : Int32).toInt = 0 := rfl
            exact ih.2.2 N x3 x4 x5 (0 : Int32) v50 hG F0 (by omega) (by omega) (by omega) (by omega) (by omega) (by omega) (by omega) (by omega) (by omega) (by omega) (by omega) (by omega) (by omega) (x_sa_s g14 (by omega) (by omega) (by omega) (by omega)) (x_sb_s (i := x7.toInt) (by omega) (by omega) (by omega)) (by omega) g17 g18 g19 (by omega)
          · refine to_c (pc := 91) rw_153_91 (x := (1 : Int32)) rfl rfl (to_go (pc := 92) rw_153_92 (to_is (pc := 96) rw_153_96 (ls2 := [.ref 77, .int a, .int b, .int x3, .int x4, .int x5, .int (1 : Int32), .int x7]) rfl rfl (s_inc (pc := 98) rw_153_98 (ls2 := fun v => [.ref 77, .int a, .int b, .int x3, .int x4, .int x5, .int (1 : Int32), .int v]) rfl rfl (fun _ => rfl) (A := x7.toInt) (B := 1) rfl rfl (by omega) (fun v53 e54 => to_go (pc := 101) rw_153_101 ?_))))
            have k_55 : (1 : Int32).toInt = 1 := rfl
            exact ih.2.2 N x3 x4 x5 (1 : Int32) v53 hG F0 (by omega) (by omega) (by omega) (by omega) (by omega) (by omega) (by omega) (by omega) (by omega) (by omega) (by omega) (by omega) (by omega) (x_sa_s g14 (by omega) (by omega) (by omega) (by omega)) (x_sb_s (i := x7.toInt) (by omega) (by omega) (by omega)) (by omega) g17 g18 g19 (by omega)
set_option maxRecDepth 4000 in
set_option maxHeartbeats 0 in
theorem E_153 {X : mm_X} {d : Nat} {M : mm_M} {Q : Option Value → mm_M → Prop} {a : Int32} {b : Int32} {t : Nat → Int} {nn : Int} (hX : g_X X) (hd : 0 ≤ d) (hG : g_G M) (q1 : 0 ≤ a.toInt) (q2 : a.toInt ≤ 500) (q3 : 0 ≤ b.toInt) (q4 : b.toInt ≤ 500) (q5 : a.toInt ≤ b.toInt) (q6 : b.toInt ≤ nn) (q7 : nn ≤ 500) (q8 : TR M t nn) (q9 : W9 M) (h : ∀ (r : Int32) (M1 : mm_M), g_G M1 → FR md_0 M M1 → (-1 ≤ r.toInt) → (r.toInt ≤ 14) → ((r.toInt = -1 → ∀ k : Int, 0 ≤ k → k < 15 → ¬ x_m t a.toInt b.toInt k) ∧ (0 ≤ r.toInt → x_m t a.toInt b.toInt r.toInt)) → Q (some (.int r)) M1) : mm_T X d 152 0 [.ref 77, .int a, .int b, .null, .null, .null, .null, .null] [] M Q := by
  have F0 : FR md_0 M M := FR.rf
  refine to_c (pc := 0) rw_153_0 (x := (0 : Int32)) rfl rfl (to_isn (pc := 1) rw_153_1 (ls2 := [.ref 77, .int a, .int b, .int (0 : Int32), .null, .null, .null, .null]) rfl rfl (to_c (pc := 2) rw_153_2 (x := (0 : Int32)) rfl rfl (to_is (pc := 3) rw_153_3 (ls2 := [.ref 77, .int a, .int b, .int (0 : Int32), .int (0 : Int32), .null, .null, .null]) rfl rfl ?_)))
  have k_56 : (0 : Int32).toInt = 0 := rfl
  have z_57 : x_off (0 : Int32).toInt = 0 := rfl
  exact (U_153_0 (a := a) (b := b) (t := t) (nn := nn) hX hd q1 q2 q3 q4 q5 q6 q7 q8 q9 h (((15 - (0 : Int32).toInt) * 1000 + 900).toNat + 1)).1 M (0 : Int32) (0 : Int32) (.null) (.null) (.null) hG F0 (by omega) (by omega) (by omega) (by omega) (by omega) (by omega) (fun k h0 h1 => by exfalso; rw [show (0 : Int32).toInt = 0 from rfl] at h1; omega) q8 q9 (by omega)
set_option maxRecDepth 4000 in
set_option maxHeartbeats 0 in
theorem U_157_0 {X : mm_X} {d : Nat} {M : mm_M} {Q : Option Value → mm_M → Prop} {a : Int32} {b : Int32} {t : Nat → Int} {nn : Int} (hX : g_X X) (hd : 0 ≤ d) (q1 : 0 ≤ a.toInt) (q2 : a.toInt ≤ 500) (q3 : 0 ≤ b.toInt) (q4 : b.toInt ≤ 500) (q5 : b.toInt ≤ nn) (q6 : nn ≤ 500) (q7 : b.toInt - a.toInt ≤ 6) (q8 : TR M t nn) (q9 : ∀ i : Nat, i < (b.toInt - a.toInt).toNat → 97 ≤ t ((a.toInt).toNat + i) ∧ t ((a.toInt).toNat + i) ≤ 122) (h : ∀ (r : Int32) (M1 : mm_M), g_G M1 → FR md_0 M M1 → (r.toInt = x_pk t (a.toInt).toNat (b.toInt - a.toInt).toNat) → Q (some (.int r)) M1) : ∀ nn9 : Nat, (∀ (N : mm_M) (x3 : Int32) (x4 : Int32), g_G N → FR md_0 M N → (0 ≤ x4.toInt) → (x4.toInt ≤ 506) → (a.toInt ≤ x4.toInt) → (x4.toInt ≤ a.toInt + 6) → ((x3.toInt) = x_pr t (a.toInt).toNat (b.toInt - a.toInt).toNat (x4.toInt - a.toInt).toNat) → (TR N t nn) → a.toInt + 6 - x4.toInt < (nn9 : Int) → mm_T X d 156 5 [.ref 77, .int a, .int b, .int x3, .int x4] [] N Q) := by
  intro nn9
  induction nn9 with
  | zero =>
    intro N x3 x4 hG F0 g1 g2 g3 g4 g5 g6 hm
    exfalso; omega
  | succ nn9 ih =>
    intro N x3 x4 hG F0 g1 g2 g3 g4 g5 g6 hm
    refine to_i (pc := 5) rw_157_5 rfl (to_in (pc := 7) rw_157_7 rfl (to_c (pc := 8) rw_157_8 (x := (6 : Int32)) rfl rfl (s_add (pc := 10) rw_157_10 (A := a.toInt) (B := 6) rfl rfl (by omega) (fun v1 e2 => b_cge (pc := 11) rw_157_11 (A := x4.toInt) (B := v1.toInt) rfl rfl (fun h3 => ?_) (fun h3 => ?_)))))
    · refine to_in (pc := 45) rw_157_45 rfl (to_r0 (pc := 46) rw_157_46 ?_)
      have z_4 := x_pr_x g5 (by omega) (by omega)
      exact h x3 N hG F0 (by omega)
    · refine to_in (pc := 14) rw_157_14 rfl (to_c (pc := 15) rw_157_15 (x := (5 : Int32)) rfl rfl (s_opE (pc := 16) rw_157_16 (w := x3 <<< (5 : Int32)) rfl (fun v5 e6 => to_i (pc := 17) rw_157_17 rfl (to_in (pc := 19) rw_157_19 rfl (b_cge (pc := 20) rw_157_20 (A := x4.toInt) (B := b.toInt) rfl rfl (fun h7 => ?_) (fun h7 => ?_))))))
      · refine to_c (pc := 36) rw_157_36 (x := (0 : Int32)) rfl rfl (s_opE (pc := 37) rw_157_37 (w := v5 ||| (0 : Int32)) rfl (fun v8 e9 => to_isn (pc := 38) rw_157_38 (ls2 := [.ref 77, .int a, .int b, .int v8, .int x4]) rfl rfl (s_inc (pc := 39) rw_157_39 (ls2 := fun v => [.ref 77, .int a, .int b, .int v8, .int v]) rfl rfl (fun _ => rfl) (A := x4.toInt) (B := 1) rfl rfl (by omega) (fun v10 e11 => to_go (pc := 42) rw_157_42 ?_))))
        have k_12 : (0 : Int32).toInt = 0 := rfl
        exact ih N v8 v10 hG F0 (by omega) (by omega) (by omega) (by omega) (x_pr_e (by omega) (x4 := x4.toInt) (by omega) (by omega) q9 g5 (w := (0 : Int32)) (by omega) e6 e9 (by omega)) g6 (by omega)
      · refine to_an (pc := 23) rw_157_23 rfl (s_gR (pc := 24) rw_157_24 hG rfl (v := 78) rfl (to_i (pc := 27) rw_157_27 rfl (s_ial (pc := 29) rw_157_29 hG rfl (n := 500) rfl rfl (A := x4.toInt) rfl (by omega) (by omega) (lo := 0) (hi := 255) rfl rfl (fun v13 w_14 _ _ => ?_))))
        have z_15 := TR_u g6 (A := x4.toInt) (B := x4.toInt) (by omega) (by omega) w_14 (by omega)
        refine to_c (pc := 30) rw_157_30 (x := (96 : Int32)) rfl rfl (s_sub (pc := 32) rw_157_32 (A := v13.toInt) (B := 96) rfl rfl (by omega) (fun v16 e17 => to_go (pc := 33) rw_157_33 (s_opE (pc := 37) rw_157_37 (w := v5 ||| v16) rfl (fun v18 e19 => to_isn (pc := 38) rw_157_38 (ls2 := [.ref 77, .int a, .int b, .int v18, .int x4]) rfl rfl (s_inc (pc := 39) rw_157_39 (ls2 := fun v => [.ref 77, .int a, .int b, .int v18, .int v]) rfl rfl (fun _ => rfl) (A := x4.toInt) (B := 1) rfl rfl (by omega) (fun v20 e21 => to_go (pc := 42) rw_157_42 ?_))))))
        exact ih N v18 v20 hG F0 (by omega) (by omega) (by omega) (by omega) (x_pr_e (by omega) (x4 := x4.toInt) (by omega) (by omega) q9 g5 (w := v16) (by omega) e6 e19 (by omega)) g6 (by omega)
set_option maxRecDepth 4000 in
set_option maxHeartbeats 0 in
theorem E_157 {X : mm_X} {d : Nat} {M : mm_M} {Q : Option Value → mm_M → Prop} {a : Int32} {b : Int32} {t : Nat → Int} {nn : Int} (hX : g_X X) (hd : 0 ≤ d) (hG : g_G M) (q1 : 0 ≤ a.toInt) (q2 : a.toInt ≤ 500) (q3 : 0 ≤ b.toInt) (q4 : b.toInt ≤ 500) (q5 : b.toInt ≤ nn) (q6 : nn ≤ 500) (q7 : b.toInt - a.toInt ≤ 6) (q8 : TR M t nn) (q9 : ∀ i : Nat, i < (b.toInt - a.toInt).toNat → 97 ≤ t ((a.toInt).toNat + i) ∧ t ((a.toInt).toNat + i) ≤ 122) (h : ∀ (r : Int32) (M1 : mm_M), g_G M1 → FR md_0 M M1 → (r.toInt = x_pk t (a.toInt).toNat (b.toInt - a.toInt).toNat) → Q (some (.int r)) M1) : mm_T X d 156 0 [.ref 77, .int a, .int b, .null, .null] [] M Q := by
  have F0 : FR md_0 M M := FR.rf
  refine to_c (pc := 0) rw_157_0 (x := (0 : Int32)) rfl rfl (to_isn (pc := 1) rw_157_1 (ls2 := [.ref 77, .int a, .int b, .int (0 : Int32), .null]) rfl rfl (to_in (pc := 2) rw_157_2 rfl (to_is (pc := 3) rw_157_3 (ls2 := [.ref 77, .int a, .int b, .int (0 : Int32), .int a]) rfl rfl ?_)))
  have k_22 : (0 : Int32).toInt = 0 := rfl
  exact (U_157_0 (a := a) (b := b) (t := t) (nn := nn) hX hd q1 q2 q3 q4 q5 q6 q7 q8 q9 h ((a.toInt + 6 - a.toInt).toNat + 1)) M (0 : Int32) a hG F0 (by omega) (by omega) (by omega) (by omega) (by rw [show (a.toInt - a.toInt).toNat = 0 by omega]; rfl) q8 (by omega)
