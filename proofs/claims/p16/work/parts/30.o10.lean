set_option maxRecDepth 4000 in
set_option maxHeartbeats 0 in
theorem T_153_0 {X : mm_X} {d : Nat} {M : mm_M} {Q : Option Value → mm_M → Prop} {a : Int32} {b : Int32} (hX : g_X X) (hd : 0 ≤ d) (q1 : 0 ≤ a.toInt) (q2 : a.toInt ≤ 500) (q3 : 0 ≤ b.toInt) (q4 : b.toInt ≤ 500) (q5 : a.toInt ≤ b.toInt) (h : ∀ (r : Int32) (M1 : mm_M), g_G M1 → FR md_0 M M1 → Q (some (.int r)) M1) : ∀ nn9 : Nat, (∀ (N : mm_M) (x3 : Int32) (x4 : Int32) (u5 : Value) (u6 : Value) (u7 : Value), g_G N → FR md_0 M N → (0 ≤ x4.toInt) → (x4.toInt ≤ 70) → (71 - x4.toInt) * 1000 + 900 < (nn9 : Int) → mm_T X d 152 5 [.ref 77, .int a, .int b, .int x3, .int x4, u5, u6, u7] [] N Q) ∧ (∀ (N : mm_M) (x3 : Int32) (x4 : Int32) (x5 : Int32) (u6 : Value) (u7 : Value), g_G N → FR md_0 M N → (0 ≤ x4.toInt) → (x4.toInt ≤ 69) → (0 ≤ x5.toInt) → (x5.toInt ≤ 69) → (x4.toInt + x5.toInt ≤ 69) → (71 - x4.toInt) * 1000 + 300 - x5.toInt < (nn9 : Int) → mm_T X d 152 18 [.ref 77, .int a, .int b, .int x3, .int x4, .int x5, u6, u7] [] N Q) ∧ (∀ (N : mm_M) (x3 : Int32) (x4 : Int32) (x5 : Int32) (x6 : Int32) (x7 : Int32), g_G N → FR md_0 M N → (0 ≤ x4.toInt) → (x4.toInt ≤ 69) → (0 ≤ x5.toInt) → (x5.toInt ≤ 69) → (x4.toInt + x5.toInt ≤ 69) → (0 ≤ x7.toInt) → (x7.toInt ≤ 69) → (x7.toInt ≤ x5.toInt) → (0 ≤ x6.toInt) → (x6.toInt ≤ 1) → (x6.toInt = 1 → x5.toInt = b.toInt - a.toInt) → (71 - x4.toInt) * 1000 + 100 - x7.toInt < (nn9 : Int) → mm_T X d 152 57 [.ref 77, .int a, .int b, .int x3, .int x4, .int x5, .int x6, .int x7] [] N Q) := by
  intro nn9
  induction nn9 with
  | zero =>
    refine ⟨?_, ?_, ?_⟩
    · intro N x3 x4 u5 u6 u7 hG F0 g1 g2 hm
      exfalso; omega
    · intro N x3 x4 x5 u6 u7 hG F0 g1 g2 g3 g4 g5 hm
      exfalso; omega
    · intro N x3 x4 x5 x6 x7 hG F0 g1 g2 g3 g4 g5 g6 g7 g8 g9 g10 g11 hm
      exfalso; omega
  | succ nn9 ih =>
    refine ⟨?_, ?_, ?_⟩
    · intro N x3 x4 u5 u6 u7 hG F0 g1 g2 hm
      refine to_i (pc := 5) rw_153_5 rfl (to_an (pc := 7) rw_153_7 rfl (s_gR (pc := 8) rw_153_8 hG rfl (v := 79) rfl (s_len (pc := 11) rw_153_11 hG rfl rfl (n := 70) rfl (v := (70 : Int32)) rfl (b_cge (pc := 12) rw_153_12 (A := x4.toInt) (B := 70) rfl rfl (fun h1 => ?_) (fun h1 => ?_)))))
      · refine to_c (pc := 126) rw_153_126 (x := (-1 : Int32)) rfl rfl (to_r0 (pc := 127) rw_153_127 ?_)
        have k_2 : (-1 : Int32).toInt = -1 := rfl
        exact h (-1 : Int32) N hG F0 
      · refine to_c (pc := 15) rw_153_15 (x := (0 : Int32)) rfl rfl (to_is (pc := 16) rw_153_16 (ls2 := [.ref 77, .int a, .int b, .int x3, .int x4, .int (0 : Int32), u6, u7]) rfl rfl ?_)
        have k_3 : (0 : Int32).toInt = 0 := rfl
        exact ih.2.1 N x3 x4 (0 : Int32) (u6) (u7) hG F0 (by omega) (by omega) (by omega) (by omega) (by omega) (by omega)
    · intro N x3 x4 x5 u6 u7 hG F0 g1 g2 g3 g4 g5 hm
      refine to_an (pc := 18) rw_153_18 rfl (s_gR (pc := 19) rw_153_19 hG rfl (v := 79) rfl (to_i (pc := 22) rw_153_22 rfl (to_i (pc := 24) rw_153_24 rfl (s_add (pc := 26) rw_153_26 (A := x4.toInt) (B := x5.toInt) rfl rfl (by omega) (fun v4 e5 => s_ial (pc := 27) rw_153_27 hG rfl (n := 70) rfl rfl (A := v4.toInt) rfl (by omega) (by omega) (lo := -2147483648) (hi := 2147483647) rfl rfl (fun v6 w_7 _ _ => ?_))))))
      have j_8 := g_79 hG w_7
      refine to_c (pc := 28) rw_153_28 (x := (32 : Int32)) rfl rfl (b_ceq (pc := 30) rw_153_30 (A := v6.toInt) (B := 32) rfl rfl (fun h9 => ?_) (fun h9 => ?_))
      · refine to_i (pc := 39) rw_153_39 rfl (to_in (pc := 41) rw_153_41 rfl (to_in (pc := 42) rw_153_42 rfl (s_sub (pc := 43) rw_153_43 (A := b.toInt) (B := a.toInt) rfl rfl (by omega) (fun v10 e11 => b_cne (pc := 44) rw_153_44 (A := x5.toInt) (B := v10.toInt) rfl rfl (fun h12 => ?_) (fun h12 => ?_)))))
        · refine to_c (pc := 51) rw_153_51 (x := (0 : Int32)) rfl rfl (to_is (pc := 52) rw_153_52 (ls2 := [.ref 77, .int a, .int b, .int x3, .int x4, .int x5, .int (0 : Int32), u7]) rfl rfl (to_c (pc := 54) rw_153_54 (x := (0 : Int32)) rfl rfl (to_is (pc := 55) rw_153_55 (ls2 := [.ref 77, .int a, .int b, .int x3, .int x4, .int x5, .int (0 : Int32), .int (0 : Int32)]) rfl rfl ?_)))
          have k_13 : (0 : Int32).toInt = 0 := rfl
          exact ih.2.2 N x3 x4 x5 (0 : Int32) (0 : Int32) hG F0 (by omega) (by omega) (by omega) (by omega) (by omega) (by omega) (by omega) (by omega) (by omega) (by omega) (by omega) (by omega)
        · refine to_c (pc := 47) rw_153_47 (x := (1 : Int32)) rfl rfl (to_go (pc := 48) rw_153_48 (to_is (pc := 52) rw_153_52 (ls2 := [.ref 77, .int a, .int b, .int x3, .int x4, .int x5, .int (1 : Int32), u7]) rfl rfl (to_c (pc := 54) rw_153_54 (x := (0 : Int32)) rfl rfl (to_is (pc := 55) rw_153_55 (ls2 := [.ref 77, .int a, .int b, .int x3, .int x4, .int x5, .int (1 : Int32), .int (0 : Int32)]) rfl rfl ?_))))
          have k_14 : (1 : Int32).toInt = 1 := rfl
          have k_15 : (0 : Int32).toInt = 0 := rfl
          exact ih.2.2 N x3 x4 x5 (1 : Int32) (0 : Int32) hG F0 (by omega) (by omega) (by omega) (by omega) (by omega) (by omega) (by omega) (by omega) (by omega) (by omega) (by omega) (by omega)
      · refine s_inc (pc := 33) rw_153_33 (ls2 := fun v => [.ref 77, .int a, .int b, .int x3, .int x4, .int v, u6, u7]) rfl rfl (fun _ => rfl) (A := x5.toInt) (B := 1) rfl rfl (by omega) (fun v16 e17 => to_go (pc := 36) rw_153_36 ?_)
        exact ih.2.1 N x3 x4 v16 (u6) (u7) hG F0 (by omega) (by omega) (by omega) (by omega) (by omega) (by omega)
    · intro N x3 x4 x5 x6 x7 hG F0 g1 g2 g3 g4 g5 g6 g7 g8 g9 g10 g11 hm
      refine to_i (pc := 57) rw_153_57 rfl (to_i (pc := 59) rw_153_59 rfl (b_cge (pc := 61) rw_153_61 (A := x7.toInt) (B := x5.toInt) rfl rfl (fun h18 => ?_) (fun h18 => ?_)))
      · refine to_i (pc := 104) rw_153_104 rfl (b_ieq (pc := 106) rw_153_106 (A := x6.toInt) rfl (fun h19 => ?_) (fun h19 => ?_))
        · refine to_i (pc := 111) rw_153_111 rfl (to_i (pc := 113) rw_153_113 rfl (to_c (pc := 115) rw_153_115 (x := (1 : Int32)) rfl rfl (s_add (pc := 116) rw_153_116 (A := x5.toInt) (B := 1) rfl rfl (by omega) (fun v20 e21 => s_add (pc := 117) rw_153_117 (A := x4.toInt) (B := v20.toInt) rfl rfl (by omega) (fun v22 e23 => to_is (pc := 118) rw_153_118 (ls2 := [.ref 77, .int a, .int b, .int x3, .int v22, .int x5, .int x6, .int x7]) rfl rfl (s_incx (pc := 120) rw_153_120 (ls2 := fun v => [.ref 77, .int a, .int b, .int v, .int v22, .int x5, .int x6, .int x7]) rfl rfl (fun _ => rfl) (fun v24 => to_go (pc := 123) rw_153_123 ?_)))))))
          exact ih.1 N v24 v22 (.int x5) (.int x6) (.int x7) hG F0 (by omega) (by omega) (by omega)
        · refine to_in (pc := 109) rw_153_109 rfl (to_r0 (pc := 110) rw_153_110 ?_)
          exact h x3 N hG F0 
      · refine to_i (pc := 64) rw_153_64 rfl (b_ieq (pc := 66) rw_153_66 (A := x6.toInt) rfl (fun h26 => ?_) (fun h26 => ?_))
        · refine to_i (pc := 104) rw_153_104 rfl (b_ieq_t (pc := 106) rw_153_106 (A := x6.toInt) rfl (by omega) (to_i (pc := 111) rw_153_111 rfl (to_i (pc := 113) rw_153_113 rfl (to_c (pc := 115) rw_153_115 (x := (1 : Int32)) rfl rfl (s_add (pc := 116) rw_153_116 (A := x5.toInt) (B := 1) rfl rfl (by omega) (fun v27 e28 => s_add (pc := 117) rw_153_117 (A := x4.toInt) (B := v27.toInt) rfl rfl (by omega) (fun v29 e30 => to_is (pc := 118) rw_153_118 (ls2 := [.ref 77, .int a, .int b, .int x3, .int v29, .int x5, .int x6, .int x7]) rfl rfl (s_incx (pc := 120) rw_153_120 (ls2 := fun v => [.ref 77, .int a, .int b, .int v, .int v29, .int x5, .int x6, .int x7]) rfl rfl (fun _ => rfl) (fun v31 => to_go (pc := 123) rw_153_123 ?_)))))))))
          exact ih.1 N v31 v29 (.int x5) (.int x6) (.int x7) hG F0 (by omega) (by omega) (by omega)
        · refine to_an (pc := 69) rw_153_69 rfl (s_gR (pc := 70) rw_153_70 hG rfl (v := 79) rfl (to_i (pc := 73) rw_153_73 rfl (to_i (pc := 75) rw_153_75 rfl (s_add (pc := 77) rw_153_77 (A := x4.toInt) (B := x7.toInt) rfl rfl (by omega) (fun v33 e34 => s_ial (pc := 78) rw_153_78 hG rfl (n := 70) rfl rfl (A := v33.toInt) rfl (by omega) (by omega) (lo := -2147483648) (hi := 2147483647) rfl rfl (fun v35 w_36 _ _ => ?_))))))
          have j_37 := g_79 hG w_36
          refine to_an (pc := 79) rw_153_79 rfl (s_gR (pc := 80) rw_153_80 hG rfl (v := 78) rfl (to_in (pc := 83) rw_153_83 rfl (to_i (pc := 84) rw_153_84 rfl (s_add (pc := 86) rw_153_86 (A := a.toInt) (B := x7.toInt) rfl rfl (by omega) (fun v38 e39 => s_ial (pc := 87) rw_153_87 hG rfl (n := 500) rfl rfl (A := v38.toInt) rfl (by omega) (by omega) (lo := 0) (hi := 255) rfl rfl (fun v40 w_41 _ _ => b_cne (pc := 88) rw_153_88 (A := v35.toInt) (B := v40.toInt) rfl rfl (fun h42 => ?_) (fun h42 => ?_)))))))
          · refine to_c (pc := 95) rw_153_95 (x := (0 : Int32)) rfl rfl (to_is (pc := 96) rw_153_96 (ls2 := [.ref 77, .int a, .int b, .int x3, .int x4, .int x5, .int (0 : Int32), .int x7]) rfl rfl (s_inc (pc := 98) rw_153_98 (ls2 := fun v => [.ref 77, .int a, .int b, .int x3, .int x4, .int x5, .int (0 : Int32), .int v]) rfl rfl (fun _ => rfl) (A := x7.toInt) (B := 1) rfl rfl (by omega) (fun v43 e44 => to_go (pc := 101) rw_153_101 ?_)))
            have k_45 : (0 : Int32).toInt = 0 := rfl
            exact ih.2.2 N x3 x4 x5 (0 : Int32) v43 hG F0 (by omega) (by omega) (by omega) (by omega) (by omega) (by omega) (by omega) (by omega) (by omega) (by omega) (by omega) (by omega)
          · refine to_c (pc := 91) rw_153_91 (x := (1 : Int32)) rfl rfl (to_go (pc := 92) rw_153_92 (to_is (pc := 96) rw_153_96 (ls2 := [.ref 77, .int a, .int b, .int x3, .int x4, .int x5, .int (1 : Int32), .int x7]) rfl rfl (s_inc (pc := 98) rw_153_98 (ls2 := fun v => [.ref 77, .int a, .int b, .int x3, .int x4, .int x5, .int (1 : Int32), .int v]) rfl rfl (fun _ => rfl) (A := x7.toInt) (B := 1) rfl rfl (by omega) (fun v46 e47 => to_go (pc := 101) rw_153_101 ?_))))
            have k_48 : (1 : Int32).toInt = 1 := rfl
            exact ih.2.2 N x3 x4 x5 (1 : Int32) v46 hG F0 (by omega) (by omega) (by omega) (by omega) (by omega) (by omega) (by omega) (by omega) (by omega) (by omega) (by omega) (by omega)
set_option maxRecDepth 4000 in
set_option maxHeartbeats 0 in
theorem C_153 {X : mm_X} {d : Nat} {M : mm_M} {Q : Option Value → mm_M → Prop} {a : Int32} {b : Int32} (hX : g_X X) (hd : 0 ≤ d) (hG : g_G M) (q1 : 0 ≤ a.toInt) (q2 : a.toInt ≤ 500) (q3 : 0 ≤ b.toInt) (q4 : b.toInt ≤ 500) (q5 : a.toInt ≤ b.toInt) (h : ∀ (r : Int32) (M1 : mm_M), g_G M1 → FR md_0 M M1 → Q (some (.int r)) M1) : mm_T X d 152 0 [.ref 77, .int a, .int b, .null, .null, .null, .null, .null] [] M Q := by
  have F0 : FR md_0 M M := FR.rf
  refine to_c (pc := 0) rw_153_0 (x := (0 : Int32)) rfl rfl (to_isn (pc := 1) rw_153_1 (ls2 := [.ref 77, .int a, .int b, .int (0 : Int32), .null, .null, .null, .null]) rfl rfl (to_c (pc := 2) rw_153_2 (x := (0 : Int32)) rfl rfl (to_is (pc := 3) rw_153_3 (ls2 := [.ref 77, .int a, .int b, .int (0 : Int32), .int (0 : Int32), .null, .null, .null]) rfl rfl ?_)))
  have k_49 : (0 : Int32).toInt = 0 := rfl
  exact (T_153_0 (a := a) (b := b) hX hd q1 q2 q3 q4 q5 h (((71 - (0 : Int32).toInt) * 1000 + 900).toNat + 1)).1 M (0 : Int32) (0 : Int32) (.null) (.null) (.null) hG F0 (by omega) (by omega) (by omega)
set_option maxRecDepth 4000 in
set_option maxHeartbeats 0 in
theorem T_157_0 {X : mm_X} {d : Nat} {M : mm_M} {Q : Option Value → mm_M → Prop} {a : Int32} {b : Int32} (hX : g_X X) (hd : 0 ≤ d) (q1 : 0 ≤ a.toInt) (q2 : a.toInt ≤ 500) (q3 : b.toInt ≤ 500) (h : ∀ (r : Int32) (M1 : mm_M), g_G M1 → FR md_0 M M1 → Q (some (.int r)) M1) : ∀ nn9 : Nat, (∀ (N : mm_M) (x3 : Int32) (x4 : Int32), g_G N → FR md_0 M N → (0 ≤ x4.toInt) → (x4.toInt ≤ 506) → (a.toInt ≤ x4.toInt) → (x4.toInt ≤ a.toInt + 6) → a.toInt + 6 - x4.toInt < (nn9 : Int) → mm_T X d 156 5 [.ref 77, .int a, .int b, .int x3, .int x4] [] N Q) := by
  intro nn9
  induction nn9 with
  | zero =>
    intro N x3 x4 hG F0 g1 g2 g3 g4 hm
    exfalso; omega
  | succ nn9 ih =>
    intro N x3 x4 hG F0 g1 g2 g3 g4 hm
    refine to_i (pc := 5) rw_157_5 rfl (to_in (pc := 7) rw_157_7 rfl (to_c (pc := 8) rw_157_8 (x := (6 : Int32)) rfl rfl (s_add (pc := 10) rw_157_10 (A := a.toInt) (B := 6) rfl rfl (by omega) (fun v1 e2 => b_cge (pc := 11) rw_157_11 (A := x4.toInt) (B := v1.toInt) rfl rfl (fun h3 => ?_) (fun h3 => ?_)))))
    · refine to_in (pc := 45) rw_157_45 rfl (to_r0 (pc := 46) rw_157_46 ?_)
      exact h x3 N hG F0 
    · refine to_in (pc := 14) rw_157_14 rfl (to_c (pc := 15) rw_157_15 (x := (5 : Int32)) rfl rfl (s_any (pc := 16) rw_157_16 (fun _ _ => rfl) (fun v4 => to_i (pc := 17) rw_157_17 rfl (to_in (pc := 19) rw_157_19 rfl (b_cge (pc := 20) rw_157_20 (A := x4.toInt) (B := b.toInt) rfl rfl (fun h5 => ?_) (fun h5 => ?_))))))
      · refine to_c (pc := 36) rw_157_36 (x := (0 : Int32)) rfl rfl (s_any (pc := 37) rw_157_37 (fun _ _ => rfl) (fun v6 => to_isn (pc := 38) rw_157_38 (ls2 := [.ref 77, .int a, .int b, .int v6, .int x4]) rfl rfl (s_inc (pc := 39) rw_157_39 (ls2 := fun v => [.ref 77, .int a, .int b, .int v6, .int v]) rfl rfl (fun _ => rfl) (A := x4.toInt) (B := 1) rfl rfl (by omega) (fun v7 e8 => to_go (pc := 42) rw_157_42 ?_))))
        exact ih N v6 v7 hG F0 (by omega) (by omega) (by omega) (by omega) (by omega)
      · refine to_an (pc := 23) rw_157_23 rfl (s_gR (pc := 24) rw_157_24 hG rfl (v := 78) rfl (to_i (pc := 27) rw_157_27 rfl (s_ial (pc := 29) rw_157_29 hG rfl (n := 500) rfl rfl (A := x4.toInt) rfl (by omega) (by omega) (lo := 0) (hi := 255) rfl rfl (fun v9 w_10 _ _ => to_c (pc := 30) rw_157_30 (x := (96 : Int32)) rfl rfl (s_sub (pc := 32) rw_157_32 (A := v9.toInt) (B := 96) rfl rfl (by omega) (fun v11 e12 => to_go (pc := 33) rw_157_33 (s_any (pc := 37) rw_157_37 (fun _ _ => rfl) (fun v13 => to_isn (pc := 38) rw_157_38 (ls2 := [.ref 77, .int a, .int b, .int v13, .int x4]) rfl rfl (s_inc (pc := 39) rw_157_39 (ls2 := fun v => [.ref 77, .int a, .int b, .int v13, .int v]) rfl rfl (fun _ => rfl) (A := x4.toInt) (B := 1) rfl rfl (by omega) (fun v14 e15 => to_go (pc := 42) rw_157_42 ?_))))))))))
        exact ih N v13 v14 hG F0 (by omega) (by omega) (by omega) (by omega) (by omega)
set_option maxRecDepth 4000 in
set_option maxHeartbeats 0 in
theorem C_157 {X : mm_X} {d : Nat} {M : mm_M} {Q : Option Value → mm_M → Prop} {a : Int32} {b : Int32} (hX : g_X X) (hd : 0 ≤ d) (hG : g_G M) (q1 : 0 ≤ a.toInt) (q2 : a.toInt ≤ 500) (q3 : b.toInt ≤ 500) (h : ∀ (r : Int32) (M1 : mm_M), g_G M1 → FR md_0 M M1 → Q (some (.int r)) M1) : mm_T X d 156 0 [.ref 77, .int a, .int b, .null, .null] [] M Q := by
  have F0 : FR md_0 M M := FR.rf
  refine to_c (pc := 0) rw_157_0 (x := (0 : Int32)) rfl rfl (to_isn (pc := 1) rw_157_1 (ls2 := [.ref 77, .int a, .int b, .int (0 : Int32), .null]) rfl rfl (to_in (pc := 2) rw_157_2 rfl (to_is (pc := 3) rw_157_3 (ls2 := [.ref 77, .int a, .int b, .int (0 : Int32), .int a]) rfl rfl ?_)))
  have k_16 : (0 : Int32).toInt = 0 := rfl
  exact (T_157_0 (a := a) (b := b) hX hd q1 q2 q3 h ((a.toInt + 6 - a.toInt).toNat + 1)) M (0 : Int32) a hG F0 (by omega) (by omega) (by omega) (by omega) (by omega)
set_option maxRecDepth 4000 in
set_option maxHeartbeats 0 in
theorem T_156_0 {X : mm_X} {d : Nat} {M : mm_M} {Q : Option Value → mm_M → Prop} (hX : g_X X) (hd : 1 ≤ d) (q1 : (M.2.1 77 7).toInt ≤ (M.2.1 77 6).toInt) (h : ∀ (M1 : mm_M), g_G M1 → FR md_tk M M1 → ((M1.2.1 77 7).toInt ≤ (M1.2.1 77 6).toInt) → ((M.2.1 77 7).toInt ≤ (M1.2.1 77 7).toInt) → ((M1.2.1 77 8).toInt = 0 ∨ (M.2.1 77 7).toInt < (M1.2.1 77 7).toInt) → Q (none) M1) : ∀ nn9 : Nat, (∀ (N : mm_M), g_G N → FR md_tk M N → ((N.2.1 77 7).toInt < (N.2.1 77 6).toInt) → ((N.2.1 77 10).toInt ≤ (N.2.1 77 7).toInt) → ((M.2.1 77 7).toInt ≤ (N.2.1 77 10).toInt) → 500 - (N.2.1 77 7).toInt < (nn9 : Int) → mm_T X d 155 223 [.ref 77] [] N Q) := by
  intro nn9
  induction nn9 with
  | zero =>
    intro N hG F0 g1 g2 g3 hm
    have b_1 := g_b hG (a := 77) (i := 7) (lo := 0) (hi := 500) rfl rfl
    have b_2 := g_b hG (a := 77) (i := 6) (lo := 0) (hi := 500) rfl rfl
    have b_3 := g_b hG (a := 77) (i := 10) (lo := 0) (hi := 500) rfl rfl
    exfalso; omega
  | succ nn9 ih =>
    intro N hG F0 g1 g2 g3 hm
    have b_4 := g_b hG (a := 77) (i := 7) (lo := 0) (hi := 500) rfl rfl
    have b_5 := g_b hG (a := 77) (i := 6) (lo := 0) (hi := 500) rfl rfl
    have b_6 := g_b hG (a := 77) (i := 10) (lo := 0) (hi := 500) rfl rfl
    refine to_an (pc := 223) rw_156_223 rfl (to_an (pc := 224) rw_156_224 rfl (tt_gI (pc := 225) rw_156_225 (g_o hG rfl) (v := (N.2.1 77 9)) rfl (to_c (pc := 228) rw_156_228 (x := (99 : Int32)) rfl rfl (b_cle (pc := 230) rw_156_230 (A := (N.2.1 77 9).toInt) (B := 99) rfl rfl (fun h7 => ?_) (fun h7 => ?_)))))
    · refine to_c (pc := 240) rw_156_240 (x := (10 : Int32)) rfl rfl (to_an (pc := 242) rw_156_242 rfl (tt_gI (pc := 243) rw_156_243 (g_o hG rfl) (v := (N.2.1 77 9)) rfl (s_any (pc := 246) rw_156_246 (fun _ _ => rfl) (fun v8 => to_an (pc := 247) rw_156_247 rfl (s_gR (pc := 248) rw_156_248 hG rfl (v := 78) rfl (to_an (pc := 251) rw_156_251 rfl (tt_gI (pc := 252) rw_156_252 (g_o hG rfl) (v := (N.2.1 77 7)) rfl (s_ial (pc := 255) rw_156_255 hG rfl (n := 500) rfl rfl (A := (N.2.1 77 7).toInt) rfl (by omega) (by omega) (lo := 0) (hi := 255) rfl rfl (fun v9 w_10 _ _ => s_any (pc := 256) rw_156_256 (fun _ _ => rfl) (fun v11 => to_c (pc := 257) rw_156_257 (x := (48 : Int32)) rfl rfl (s_any (pc := 259) rw_156_259 (fun _ _ => rfl) (fun v12 => ?_))))))))))))
      refine s_pI (pc := 260) rw_156_260 hG rfl (fun M14 W13 => ?_)
      have hG15 := g_wf hG W13 rfl rfl (by decide)
      have F16 := FR.w F0 W13 (show 77 = 77 ∧ 7 ≤ 9 ∧ 9 ≤ 10 by decide)
      refine to_an (pc := 263) rw_156_263 rfl (to_dupr (pc := 264) rw_156_264 ?_)
      have c_17 : M14.2.1 77 7 = (N.2.1 77 7) := (W_n W13 (by decide) rfl)
      refine tt_gI (pc := 265) rw_156_265 (g_o hG15 rfl) (v := (N.2.1 77 7)) c_17 (to_c (pc := 268) rw_156_268 (x := (1 : Int32)) rfl rfl (s_add (pc := 269) rw_156_269 (A := (N.2.1 77 7).toInt) (B := 1) rfl rfl (by omega) (fun v18 e19 => s_pI (pc := 270) rw_156_270 hG15 rfl (fun M21 W20 => ?_))))
      have hG22 := g_w hG15 W20 (A := v18.toInt) rfl (lo := 0) (hi := 500) rfl rfl (by omega) (by decide)
      have F23 := FR.w F16 W20 (show 77 = 77 ∧ 7 ≤ 7 ∧ 7 ≤ 10 by decide)
      refine to_go (pc := 273) rw_156_273 (to_an (pc := 212) rw_156_212 rfl (to_an (pc := 213) rw_156_213 rfl ?_))
      have c_24 : M21.2.1 77 7 = v18 := (W_e W20)
      refine tt_gI (pc := 214) rw_156_214 (g_o hG22 rfl) (v := v18) c_24 (s_v (pc := 217) rw_156_217 (dp0 hd (by decide)) (ls0 := [.ref 77, .int v18]) rfl (Nat.le_of_ble_eq_true rfl) (Nat.le_of_ble_eq_true rfl) rfl (to_rc rfl rfl rfl (g_o hG22 rfl)) rfl (to_in (pc := 0) rw_155_0 rfl (to_an (pc := 1) rw_155_1 rfl ?_)))
      have c_25 : M21.2.1 77 6 = (N.2.1 77 6) := (W_n W20 (by decide) (W_n W13 (by decide) rfl))
      refine tt_gI (pc := 2) rw_155_2 (g_o hG22 rfl) (v := (N.2.1 77 6)) c_25 (b_cge (pc := 5) rw_155_5 (A := v18.toInt) (B := (N.2.1 77 6).toInt) rfl rfl (fun h26 => ?_) (fun h26 => ?_))
      · refine to_c (pc := 34) rw_155_34 (x := (0 : Int32)) rfl rfl (s_r1 (pc := 35) rw_155_35 (A := 0) rfl (by decide) (b_ieq_t (pc := 220) rw_156_220 (A := 0) rfl (by decide) (to_rv (pc := 344) rw_156_344 ?_)))
        have t_27 : (M21.2.1 77 7).toInt = v18.toInt := congrArg Int32.toInt c_24
        have t_28 : (M21.2.1 77 6).toInt = (N.2.1 77 6).toInt := congrArg Int32.toInt c_25
        have c_29 : M21.2.1 77 8 = (N.2.1 77 8) := (W_n W20 (by decide) (W_n W13 (by decide) rfl))
        have b_30 := g_b hG (a := 77) (i := 8) (lo := 0) (hi := 5) rfl rfl
        have t_31 : (M21.2.1 77 8).toInt = (N.2.1 77 8).toInt := congrArg Int32.toInt c_29
        exact h M21 hG22 F23 (by omega) (by omega) (by omega)
      · refine to_an (pc := 8) rw_155_8 rfl (s_gR (pc := 9) rw_155_9 hG22 rfl (v := 78) rfl (to_in (pc := 12) rw_155_12 rfl (s_ial (pc := 13) rw_155_13 hG22 rfl (n := 500) rfl rfl (A := v18.toInt) rfl (by omega) (by omega) (lo := 0) (hi := 255) rfl rfl (fun v32 w_33 _ _ => to_c (pc := 14) rw_155_14 (x := (48 : Int32)) rfl rfl (b_clt (pc := 16) rw_155_16 (A := v32.toInt) (B := 48) rfl rfl (fun h34 => ?_) (fun h34 => ?_))))))
        · refine to_c (pc := 34) rw_155_34 (x := (0 : Int32)) rfl rfl (s_r1 (pc := 35) rw_155_35 (A := 0) rfl (by decide) (b_ieq_t (pc := 220) rw_156_220 (A := 0) rfl (by decide) (to_rv (pc := 344) rw_156_344 ?_)))
          have t_35 : (M21.2.1 77 7).toInt = v18.toInt := congrArg Int32.toInt c_24
          have t_36 : (M21.2.1 77 6).toInt = (N.2.1 77 6).toInt := congrArg Int32.toInt c_25
          have c_37 : M21.2.1 77 8 = (N.2.1 77 8) := (W_n W20 (by decide) (W_n W13 (by decide) rfl))
          have b_38 := g_b hG (a := 77) (i := 8) (lo := 0) (hi := 5) rfl rfl
          have t_39 : (M21.2.1 77 8).toInt = (N.2.1 77 8).toInt := congrArg Int32.toInt c_37
          exact h M21 hG22 F23 (by omega) (by omega) (by omega)
        · refine to_an (pc := 19) rw_155_19 rfl (s_gR (pc := 20) rw_155_20 hG22 rfl (v := 78) rfl (to_in (pc := 23) rw_155_23 rfl (s_ialk (pc := 24) rw_155_24 hG22 rfl (n := 500) rfl rfl (A := v18.toInt) rfl (by omega) (by omega) (v := v32) w_33 (to_c (pc := 25) rw_155_25 (x := (57 : Int32)) rfl rfl (b_cgt (pc := 27) rw_155_27 (A := v32.toInt) (B := 57) rfl rfl (fun h42 => ?_) (fun h42 => ?_))))))
          · refine to_c (pc := 34) rw_155_34 (x := (0 : Int32)) rfl rfl (s_r1 (pc := 35) rw_155_35 (A := 0) rfl (by decide) (b_ieq_t (pc := 220) rw_156_220 (A := 0) rfl (by decide) (to_rv (pc := 344) rw_156_344 ?_)))
            have t_43 : (M21.2.1 77 7).toInt = v18.toInt := congrArg Int32.toInt c_24
            have t_44 : (M21.2.1 77 6).toInt = (N.2.1 77 6).toInt := congrArg Int32.toInt c_25
            have c_45 : M21.2.1 77 8 = (N.2.1 77 8) := (W_n W20 (by decide) (W_n W13 (by decide) rfl))
            have b_46 := g_b hG (a := 77) (i := 8) (lo := 0) (hi := 5) rfl rfl
            have t_47 : (M21.2.1 77 8).toInt = (N.2.1 77 8).toInt := congrArg Int32.toInt c_45
            exact h M21 hG22 F23 (by omega) (by omega) (by omega)
          · refine to_c (pc := 30) rw_155_30 (x := (1 : Int32)) rfl rfl (to_go (pc := 31) rw_155_31 (s_r1 (pc := 35) rw_155_35 (A := 1) rfl (by decide) (b_ieq_f (pc := 220) rw_156_220 (A := 1) rfl (by decide) ?_)))
            have t_48 : (M21.2.1 77 7).toInt = v18.toInt := congrArg Int32.toInt c_24
            have t_49 : (M21.2.1 77 6).toInt = (N.2.1 77 6).toInt := congrArg Int32.toInt c_25
            have c_50 : M21.2.1 77 10 = (N.2.1 77 10) := (W_n W20 (by decide) (W_n W13 (by decide) rfl))
            have t_51 : (M21.2.1 77 10).toInt = (N.2.1 77 10).toInt := congrArg Int32.toInt c_50
            exact ih M21  hG22 F23 (by omega) (by omega) (by omega) (by omega)
    · refine to_an (pc := 233) rw_156_233 rfl (tt_gI (pc := 234) rw_156_234 (g_o hG rfl) (v := (N.2.1 77 9)) rfl (to_go (pc := 237) rw_156_237 (s_pI (pc := 260) rw_156_260 hG rfl (fun M53 W52 => ?_))))
      have hG54 := g_wf hG W52 rfl rfl (by decide)
      have F55 := FR.w F0 W52 (show 77 = 77 ∧ 7 ≤ 9 ∧ 9 ≤ 10 by decide)
      refine to_an (pc := 263) rw_156_263 rfl (to_dupr (pc := 264) rw_156_264 ?_)
      have c_56 : M53.2.1 77 7 = (N.2.1 77 7) := (W_n W52 (by decide) rfl)
      refine tt_gI (pc := 265) rw_156_265 (g_o hG54 rfl) (v := (N.2.1 77 7)) c_56 (to_c (pc := 268) rw_156_268 (x := (1 : Int32)) rfl rfl (s_add (pc := 269) rw_156_269 (A := (N.2.1 77 7).toInt) (B := 1) rfl rfl (by omega) (fun v57 e58 => s_pI (pc := 270) rw_156_270 hG54 rfl (fun M60 W59 => ?_))))
      have hG61 := g_w hG54 W59 (A := v57.toInt) rfl (lo := 0) (hi := 500) rfl rfl (by omega) (by decide)
      have F62 := FR.w F55 W59 (show 77 = 77 ∧ 7 ≤ 7 ∧ 7 ≤ 10 by decide)
      refine to_go (pc := 273) rw_156_273 (to_an (pc := 212) rw_156_212 rfl (to_an (pc := 213) rw_156_213 rfl ?_))
      have c_63 : M60.2.1 77 7 = v57 := (W_e W59)
      refine tt_gI (pc := 214) rw_156_214 (g_o hG61 rfl) (v := v57) c_63 (s_v (pc := 217) rw_156_217 (dp0 hd (by decide)) (ls0 := [.ref 77, .int v57]) rfl (Nat.le_of_ble_eq_true rfl) (Nat.le_of_ble_eq_true rfl) rfl (to_rc rfl rfl rfl (g_o hG61 rfl)) rfl (to_in (pc := 0) rw_155_0 rfl (to_an (pc := 1) rw_155_1 rfl ?_)))
      have c_64 : M60.2.1 77 6 = (N.2.1 77 6) := (W_n W59 (by decide) (W_n W52 (by decide) rfl))
      refine tt_gI (pc := 2) rw_155_2 (g_o hG61 rfl) (v := (N.2.1 77 6)) c_64 (b_cge (pc := 5) rw_155_5 (A := v57.toInt) (B := (N.2.1 77 6).toInt) rfl rfl (fun h65 => ?_) (fun h65 => ?_))
      · refine to_c (pc := 34) rw_155_34 (x := (0 : Int32)) rfl rfl (s_r1 (pc := 35) rw_155_35 (A := 0) rfl (by decide) (b_ieq_t (pc := 220) rw_156_220 (A := 0) rfl (by decide) (to_rv (pc := 344) rw_156_344 ?_)))
        have t_66 : (M60.2.1 77 7).toInt = v57.toInt := congrArg Int32.toInt c_63
        have t_67 : (M60.2.1 77 6).toInt = (N.2.1 77 6).toInt := congrArg Int32.toInt c_64
        have c_68 : M60.2.1 77 8 = (N.2.1 77 8) := (W_n W59 (by decide) (W_n W52 (by decide) rfl))
        have b_69 := g_b hG (a := 77) (i := 8) (lo := 0) (hi := 5) rfl rfl
        have t_70 : (M60.2.1 77 8).toInt = (N.2.1 77 8).toInt := congrArg Int32.toInt c_68
        exact h M60 hG61 F62 (by omega) (by omega) (by omega)
      · refine to_an (pc := 8) rw_155_8 rfl (s_gR (pc := 9) rw_155_9 hG61 rfl (v := 78) rfl (to_in (pc := 12) rw_155_12 rfl (s_ial (pc := 13) rw_155_13 hG61 rfl (n := 500) rfl rfl (A := v57.toInt) rfl (by omega) (by omega) (lo := 0) (hi := 255) rfl rfl (fun v71 w_72 _ _ => to_c (pc := 14) rw_155_14 (x := (48 : Int32)) rfl rfl (b_clt (pc := 16) rw_155_16 (A := v71.toInt) (B := 48) rfl rfl (fun h73 => ?_) (fun h73 => ?_))))))
        · refine to_c (pc := 34) rw_155_34 (x := (0 : Int32)) rfl rfl (s_r1 (pc := 35) rw_155_35 (A := 0) rfl (by decide) (b_ieq_t (pc := 220) rw_156_220 (A := 0) rfl (by decide) (to_rv (pc := 344) rw_156_344 ?_)))
          have t_74 : (M60.2.1 77 7).toInt = v57.toInt := congrArg Int32.toInt c_63
          have t_75 : (M60.2.1 77 6).toInt = (N.2.1 77 6).toInt := congrArg Int32.toInt c_64
          have c_76 : M60.2.1 77 8 = (N.2.1 77 8) := (W_n W59 (by decide) (W_n W52 (by decide) rfl))
          have b_77 := g_b hG (a := 77) (i := 8) (lo := 0) (hi := 5) rfl rfl
          have t_78 : (M60.2.1 77 8).toInt = (N.2.1 77 8).toInt := congrArg Int32.toInt c_76
          exact h M60 hG61 F62 (by omega) (by omega) (by omega)
        · refine to_an (pc := 19) rw_155_19 rfl (s_gR (pc := 20) rw_155_20 hG61 rfl (v := 78) rfl (to_in (pc := 23) rw_155_23 rfl (s_ialk (pc := 24) rw_155_24 hG61 rfl (n := 500) rfl rfl (A := v57.toInt) rfl (by omega) (by omega) (v := v71) w_72 (to_c (pc := 25) rw_155_25 (x := (57 : Int32)) rfl rfl (b_cgt (pc := 27) rw_155_27 (A := v71.toInt) (B := 57) rfl rfl (fun h81 => ?_) (fun h81 => ?_))))))
          · refine to_c (pc := 34) rw_155_34 (x := (0 : Int32)) rfl rfl (s_r1 (pc := 35) rw_155_35 (A := 0) rfl (by decide) (b_ieq_t (pc := 220) rw_156_220 (A := 0) rfl (by decide) (to_rv (pc := 344) rw_156_344 ?_)))
            have t_82 : (M60.2.1 77 7).toInt = v57.toInt := congrArg Int32.toInt c_63
            have t_83 : (M60.2.1 77 6).toInt = (N.2.1 77 6).toInt := congrArg Int32.toInt c_64
            have c_84 : M60.2.1 77 8 = (N.2.1 77 8) := (W_n W59 (by decide) (W_n W52 (by decide) rfl))
            have b_85 := g_b hG (a := 77) (i := 8) (lo := 0) (hi := 5) rfl rfl
            have t_86 : (M60.2.1 77 8).toInt = (N.2.1 77 8).toInt := congrArg Int32.toInt c_84
            exact h M60 hG61 F62 (by omega) (by omega) (by omega)
          · refine to_c (pc := 30) rw_155_30 (x := (1 : Int32)) rfl rfl (to_go (pc := 31) rw_155_31 (s_r1 (pc := 35) rw_155_35 (A := 1) rfl (by decide) (b_ieq_f (pc := 220) rw_156_220 (A := 1) rfl (by decide) ?_)))
            have t_87 : (M60.2.1 77 7).toInt = v57.toInt := congrArg Int32.toInt c_63
            have t_88 : (M60.2.1 77 6).toInt = (N.2.1 77 6).toInt := congrArg Int32.toInt c_64
            have c_89 : M60.2.1 77 10 = (N.2.1 77 10) := (W_n W59 (by decide) (W_n W52 (by decide) rfl))
            have t_90 : (M60.2.1 77 10).toInt = (N.2.1 77 10).toInt := congrArg Int32.toInt c_89
            exact ih M60  hG61 F62 (by omega) (by omega) (by omega) (by omega)
set_option maxRecDepth 4000 in
set_option maxHeartbeats 0 in
theorem T_156_1 {X : mm_X} {d : Nat} {M : mm_M} {Q : Option Value → mm_M → Prop} (hX : g_X X) (hd : 1 ≤ d) (q1 : (M.2.1 77 7).toInt ≤ (M.2.1 77 6).toInt) (h : ∀ (M1 : mm_M), g_G M1 → FR md_tk M M1 → ((M1.2.1 77 7).toInt ≤ (M1.2.1 77 6).toInt) → ((M.2.1 77 7).toInt ≤ (M1.2.1 77 7).toInt) → ((M1.2.1 77 8).toInt = 0 ∨ (M.2.1 77 7).toInt < (M1.2.1 77 7).toInt) → Q (none) M1) : ∀ nn9 : Nat, (∀ (N : mm_M), g_G N → FR md_tk M N → ((N.2.1 77 7).toInt < (N.2.1 77 6).toInt) → ((N.2.1 77 10).toInt ≤ (N.2.1 77 7).toInt) → ((M.2.1 77 7).toInt ≤ (N.2.1 77 10).toInt) → 500 - (N.2.1 77 7).toInt < (nn9 : Int) → mm_T X d 155 101 [.ref 77] [] N Q) := by
  intro nn9
  induction nn9 with
  | zero =>
    intro N hG F0 g1 g2 g3 hm
    have b_91 := g_b hG (a := 77) (i := 7) (lo := 0) (hi := 500) rfl rfl
    have b_92 := g_b hG (a := 77) (i := 6) (lo := 0) (hi := 500) rfl rfl
    have b_93 := g_b hG (a := 77) (i := 10) (lo := 0) (hi := 500) rfl rfl
    exfalso; omega
  | succ nn9 ih =>
    intro N hG F0 g1 g2 g3 hm
    have b_94 := g_b hG (a := 77) (i := 7) (lo := 0) (hi := 500) rfl rfl
    have b_95 := g_b hG (a := 77) (i := 6) (lo := 0) (hi := 500) rfl rfl
    have b_96 := g_b hG (a := 77) (i := 10) (lo := 0) (hi := 500) rfl rfl
    refine to_an (pc := 101) rw_156_101 rfl (to_dupr (pc := 102) rw_156_102 (tt_gI (pc := 103) rw_156_103 (g_o hG rfl) (v := (N.2.1 77 7)) rfl (to_c (pc := 106) rw_156_106 (x := (1 : Int32)) rfl rfl (s_add (pc := 107) rw_156_107 (A := (N.2.1 77 7).toInt) (B := 1) rfl rfl (by omega) (fun v97 e98 => s_pI (pc := 108) rw_156_108 hG rfl (fun M100 W99 => ?_))))))
    have hG101 := g_w hG W99 (A := v97.toInt) rfl (lo := 0) (hi := 500) rfl rfl (by omega) (by decide)
    have F102 := FR.w F0 W99 (show 77 = 77 ∧ 7 ≤ 7 ∧ 7 ≤ 10 by decide)
    refine to_go (pc := 111) rw_156_111 (to_an (pc := 90) rw_156_90 rfl (to_an (pc := 91) rw_156_91 rfl ?_))
    have c_103 : M100.2.1 77 7 = v97 := (W_e W99)
    refine tt_gI (pc := 92) rw_156_92 (g_o hG101 rfl) (v := v97) c_103 (s_v (pc := 95) rw_156_95 (dp0 hd (by decide)) (ls0 := [.ref 77, .int v97]) rfl (Nat.le_of_ble_eq_true rfl) (Nat.le_of_ble_eq_true rfl) rfl (to_rc rfl rfl rfl (g_o hG101 rfl)) rfl (to_in (pc := 0) rw_154_0 rfl (to_an (pc := 1) rw_154_1 rfl ?_)))
    have c_104 : M100.2.1 77 6 = (N.2.1 77 6) := (W_n W99 (by decide) rfl)
    refine tt_gI (pc := 2) rw_154_2 (g_o hG101 rfl) (v := (N.2.1 77 6)) c_104 (b_cge (pc := 5) rw_154_5 (A := v97.toInt) (B := (N.2.1 77 6).toInt) rfl rfl (fun h105 => ?_) (fun h105 => ?_))
    · refine to_c (pc := 34) rw_154_34 (x := (0 : Int32)) rfl rfl (s_r1 (pc := 35) rw_154_35 (A := 0) rfl (by decide) (b_ieq_t (pc := 98) rw_156_98 (A := 0) rfl (by decide) (to_an (pc := 114) rw_156_114 rfl (to_an (pc := 115) rw_156_115 rfl (to_an (pc := 116) rw_156_116 rfl ?_)))))
      have c_106 : M100.2.1 77 10 = (N.2.1 77 10) := (W_n W99 (by decide) rfl)
      refine tt_gI (pc := 117) rw_156_117 (g_o hG101 rfl) (v := (N.2.1 77 10)) c_106 (to_an (pc := 120) rw_156_120 rfl (tt_gI (pc := 121) rw_156_121 (g_o hG101 rfl) (v := v97) c_103 (s_v (pc := 124) rw_156_124 (dp0 hd (by decide)) (ls0 := [.ref 77, .int (N.2.1 77 10), .int v97, .null, .null, .null, .null, .null]) rfl (Nat.le_of_ble_eq_true rfl) (Nat.le_of_ble_eq_true rfl) rfl (to_rc rfl rfl rfl (g_o hG101 rfl)) rfl (C_153 hX (dp1 hd (by decide)) hG101 (by omega) (by omega) (by omega) (by omega) (by omega) (a := (N.2.1 77 10)) (b := v97) (fun r107 M110 hG109 F108 => ?_)))))
      have F111 := FR.c F102 F108 tg_10
      refine s_pI (pc := 127) rw_156_127 hG109 rfl (fun M113 W112 => ?_)
      have hG114 := g_wf hG109 W112 rfl rfl (by decide)
      have F115 := FR.w F111 W112 (show 77 = 77 ∧ 7 ≤ 9 ∧ 9 ≤ 10 by decide)
      refine to_an (pc := 130) rw_156_130 rfl (to_an (pc := 131) rw_156_131 rfl ?_)
      have c_116 : M113.2.1 77 9 = r107 := (W_e W112)
      refine tt_gI (pc := 132) rw_156_132 (g_o hG114 rfl) (v := r107) c_116 (b_ilt (pc := 135) rw_156_135 (A := r107.toInt) rfl (fun h117 => ?_) (fun h117 => ?_))
      · refine to_an (pc := 142) rw_156_142 rfl ?_
        have c_118 : M113.2.1 77 7 = v97 := (W_n W112 (by decide) (F_n F108 (show ¬ (77 < 0) by decide) c_103))
        refine tt_gI (pc := 143) rw_156_143 (g_o hG114 rfl) (v := v97) c_118 (to_an (pc := 146) rw_156_146 rfl ?_)
        have c_119 : M113.2.1 77 10 = (N.2.1 77 10) := (W_n W112 (by decide) (F_n F108 (show ¬ (77 < 0) by decide) c_106))
        refine tt_gI (pc := 147) rw_156_147 (g_o hG114 rfl) (v := (N.2.1 77 10)) c_119 (s_sub (pc := 150) rw_156_150 (A := v97.toInt) (B := (N.2.1 77 10).toInt) rfl rfl (by omega) (fun v120 e121 => to_c (pc := 151) rw_156_151 (x := (6 : Int32)) rfl rfl (b_cle (pc := 153) rw_156_153 (A := v120.toInt) (B := 6) rfl rfl (fun h122 => ?_) (fun h122 => ?_))))
        · refine to_c (pc := 160) rw_156_160 (x := (2 : Int32)) rfl rfl (s_pI (pc := 161) rw_156_161 hG114 rfl (fun M124 W123 => ?_))
          have hG125 := g_w hG114 W123 (A := 2) rfl (lo := 0) (hi := 5) rfl rfl (by omega) (by decide)
          have F126 := FR.w F115 W123 (show 77 = 77 ∧ 7 ≤ 8 ∧ 8 ≤ 10 by decide)
          refine to_an (pc := 164) rw_156_164 rfl ?_
          have c_127 : M124.2.1 77 8 = (2 : Int32) := (W_e W123)
          refine tt_gI (pc := 165) rw_156_165 (g_o hG125 rfl) (v := (2 : Int32)) c_127 (to_c (pc := 168) rw_156_168 (x := (2 : Int32)) rfl rfl (b_cne_f (pc := 169) rw_156_169 (A := 2) (B := 2) rfl rfl (by decide) (to_an (pc := 172) rw_156_172 rfl (to_an (pc := 173) rw_156_173 rfl (to_an (pc := 174) rw_156_174 rfl ?_)))))
          have c_128 : M124.2.1 77 10 = (N.2.1 77 10) := (W_n W123 (by decide) c_119)
          refine tt_gI (pc := 175) rw_156_175 (g_o hG125 rfl) (v := (N.2.1 77 10)) c_128 (to_an (pc := 178) rw_156_178 rfl ?_)
          have c_129 : M124.2.1 77 7 = v97 := (W_n W123 (by decide) c_118)
          refine tt_gI (pc := 179) rw_156_179 (g_o hG125 rfl) (v := v97) c_129 (s_v (pc := 182) rw_156_182 (dp0 hd (by decide)) (ls0 := [.ref 77, .int (N.2.1 77 10), .int v97, .null, .null]) rfl (Nat.le_of_ble_eq_true rfl) (Nat.le_of_ble_eq_true rfl) rfl (to_rc rfl rfl rfl (g_o hG125 rfl)) rfl (C_157 hX (dp1 hd (by decide)) hG125 (by omega) (by omega) (by omega) (a := (N.2.1 77 10)) (b := v97) (fun r130 M133 hG132 F131 => ?_)))
          have F134 := FR.c F126 F131 tg_10
          refine s_pI (pc := 185) rw_156_185 hG132 rfl (fun M136 W135 => ?_)
          have hG137 := g_wf hG132 W135 rfl rfl (by decide)
          have F138 := FR.w F134 W135 (show 77 = 77 ∧ 7 ≤ 9 ∧ 9 ≤ 10 by decide)
          refine to_go (pc := 188) rw_156_188 (to_rv (pc := 344) rw_156_344 ?_)
          have c_139 : M136.2.1 77 7 = v97 := (W_n W135 (by decide) (F_n F131 (show ¬ (77 < 0) by decide) c_129))
          have t_140 : (M136.2.1 77 7).toInt = v97.toInt := congrArg Int32.toInt c_139
          have c_141 : M136.2.1 77 6 = (N.2.1 77 6) := (W_n W135 (by decide) (F_n F131 (show ¬ (77 < 0) by decide) (W_n W123 (by decide) (W_n W112 (by decide) (F_n F108 (show ¬ (77 < 0) by decide) c_104)))))
          have t_142 : (M136.2.1 77 6).toInt = (N.2.1 77 6).toInt := congrArg Int32.toInt c_141
          have c_143 : M136.2.1 77 8 = (2 : Int32) := (W_n W135 (by decide) (F_n F131 (show ¬ (77 < 0) by decide) c_127))
          have k_144 : (2 : Int32).toInt = 2 := rfl
          have t_145 : (M136.2.1 77 8).toInt = (2 : Int32).toInt := congrArg Int32.toInt c_143
          exact h M136 hG137 F138 (by omega) (by omega) (by omega)
        · refine to_c (pc := 156) rw_156_156 (x := (5 : Int32)) rfl rfl (to_go (pc := 157) rw_156_157 (s_pI (pc := 161) rw_156_161 hG114 rfl (fun M147 W146 => ?_)))
          have hG148 := g_w hG114 W146 (A := 5) rfl (lo := 0) (hi := 5) rfl rfl (by omega) (by decide)
          have F149 := FR.w F115 W146 (show 77 = 77 ∧ 7 ≤ 8 ∧ 8 ≤ 10 by decide)
          refine to_an (pc := 164) rw_156_164 rfl ?_
          have c_150 : M147.2.1 77 8 = (5 : Int32) := (W_e W146)
          refine tt_gI (pc := 165) rw_156_165 (g_o hG148 rfl) (v := (5 : Int32)) c_150 (to_c (pc := 168) rw_156_168 (x := (2 : Int32)) rfl rfl (b_cne_t (pc := 169) rw_156_169 (A := 5) (B := 2) rfl rfl (by decide) (to_rv (pc := 344) rw_156_344 ?_)))
          have c_151 : M147.2.1 77 7 = v97 := (W_n W146 (by decide) c_118)
          have t_152 : (M147.2.1 77 7).toInt = v97.toInt := congrArg Int32.toInt c_151
          have c_153 : M147.2.1 77 6 = (N.2.1 77 6) := (W_n W146 (by decide) (W_n W112 (by decide) (F_n F108 (show ¬ (77 < 0) by decide) c_104)))
          have t_154 : (M147.2.1 77 6).toInt = (N.2.1 77 6).toInt := congrArg Int32.toInt c_153
          have k_155 : (5 : Int32).toInt = 5 := rfl
          have t_156 : (M147.2.1 77 8).toInt = (5 : Int32).toInt := congrArg Int32.toInt c_150
          exact h M147 hG148 F149 (by omega) (by omega) (by omega)
      · refine to_c (pc := 138) rw_156_138 (x := (1 : Int32)) rfl rfl (to_go (pc := 139) rw_156_139 (s_pI (pc := 161) rw_156_161 hG114 rfl (fun M158 W157 => ?_)))
        have hG159 := g_w hG114 W157 (A := 1) rfl (lo := 0) (hi := 5) rfl rfl (by omega) (by decide)
        have F160 := FR.w F115 W157 (show 77 = 77 ∧ 7 ≤ 8 ∧ 8 ≤ 10 by decide)
        refine to_an (pc := 164) rw_156_164 rfl ?_
        have c_161 : M158.2.1 77 8 = (1 : Int32) := (W_e W157)
        refine tt_gI (pc := 165) rw_156_165 (g_o hG159 rfl) (v := (1 : Int32)) c_161 (to_c (pc := 168) rw_156_168 (x := (2 : Int32)) rfl rfl (b_cne_t (pc := 169) rw_156_169 (A := 1) (B := 2) rfl rfl (by decide) (to_rv (pc := 344) rw_156_344 ?_)))
        have c_162 : M158.2.1 77 7 = v97 := (W_n W157 (by decide) (W_n W112 (by decide) (F_n F108 (show ¬ (77 < 0) by decide) c_103)))
        have t_163 : (M158.2.1 77 7).toInt = v97.toInt := congrArg Int32.toInt c_162
        have c_164 : M158.2.1 77 6 = (N.2.1 77 6) := (W_n W157 (by decide) (W_n W112 (by decide) (F_n F108 (show ¬ (77 < 0) by decide) c_104)))
        have t_165 : (M158.2.1 77 6).toInt = (N.2.1 77 6).toInt := congrArg Int32.toInt c_164
        have k_166 : (1 : Int32).toInt = 1 := rfl
        have t_167 : (M158.2.1 77 8).toInt = (1 : Int32).toInt := congrArg Int32.toInt c_161
        exact h M158 hG159 F160 (by omega) (by omega) (by omega)
    · refine to_an (pc := 8) rw_154_8 rfl (s_gR (pc := 9) rw_154_9 hG101 rfl (v := 78) rfl (to_in (pc := 12) rw_154_12 rfl (s_ial (pc := 13) rw_154_13 hG101 rfl (n := 500) rfl rfl (A := v97.toInt) rfl (by omega) (by omega) (lo := 0) (hi := 255) rfl rfl (fun v168 w_169 _ _ => to_c (pc := 14) rw_154_14 (x := (97 : Int32)) rfl rfl (b_clt (pc := 16) rw_154_16 (A := v168.toInt) (B := 97) rfl rfl (fun h170 => ?_) (fun h170 => ?_))))))
      · refine to_c (pc := 34) rw_154_34 (x := (0 : Int32)) rfl rfl (s_r1 (pc := 35) rw_154_35 (A := 0) rfl (by decide) (b_ieq_t (pc := 98) rw_156_98 (A := 0) rfl (by decide) (to_an (pc := 114) rw_156_114 rfl (to_an (pc := 115) rw_156_115 rfl (to_an (pc := 116) rw_156_116 rfl ?_)))))
        have c_171 : M100.2.1 77 10 = (N.2.1 77 10) := (W_n W99 (by decide) rfl)
        refine tt_gI (pc := 117) rw_156_117 (g_o hG101 rfl) (v := (N.2.1 77 10)) c_171 (to_an (pc := 120) rw_156_120 rfl (tt_gI (pc := 121) rw_156_121 (g_o hG101 rfl) (v := v97) c_103 (s_v (pc := 124) rw_156_124 (dp0 hd (by decide)) (ls0 := [.ref 77, .int (N.2.1 77 10), .int v97, .null, .null, .null, .null, .null]) rfl (Nat.le_of_ble_eq_true rfl) (Nat.le_of_ble_eq_true rfl) rfl (to_rc rfl rfl rfl (g_o hG101 rfl)) rfl (C_153 hX (dp1 hd (by decide)) hG101 (by omega) (by omega) (by omega) (by omega) (by omega) (a := (N.2.1 77 10)) (b := v97) (fun r172 M175 hG174 F173 => ?_)))))
        have F176 := FR.c F102 F173 tg_10
        refine s_pI (pc := 127) rw_156_127 hG174 rfl (fun M178 W177 => ?_)
        have hG179 := g_wf hG174 W177 rfl rfl (by decide)
        have F180 := FR.w F176 W177 (show 77 = 77 ∧ 7 ≤ 9 ∧ 9 ≤ 10 by decide)
        refine to_an (pc := 130) rw_156_130 rfl (to_an (pc := 131) rw_156_131 rfl ?_)
        have c_181 : M178.2.1 77 9 = r172 := (W_e W177)
        refine tt_gI (pc := 132) rw_156_132 (g_o hG179 rfl) (v := r172) c_181 (b_ilt (pc := 135) rw_156_135 (A := r172.toInt) rfl (fun h182 => ?_) (fun h182 => ?_))
        · refine to_an (pc := 142) rw_156_142 rfl ?_
          have c_183 : M178.2.1 77 7 = v97 := (W_n W177 (by decide) (F_n F173 (show ¬ (77 < 0) by decide) c_103))
          refine tt_gI (pc := 143) rw_156_143 (g_o hG179 rfl) (v := v97) c_183 (to_an (pc := 146) rw_156_146 rfl ?_)
          have c_184 : M178.2.1 77 10 = (N.2.1 77 10) := (W_n W177 (by decide) (F_n F173 (show ¬ (77 < 0) by decide) c_171))
          refine tt_gI (pc := 147) rw_156_147 (g_o hG179 rfl) (v := (N.2.1 77 10)) c_184 (s_sub (pc := 150) rw_156_150 (A := v97.toInt) (B := (N.2.1 77 10).toInt) rfl rfl (by omega) (fun v185 e186 => to_c (pc := 151) rw_156_151 (x := (6 : Int32)) rfl rfl (b_cle (pc := 153) rw_156_153 (A := v185.toInt) (B := 6) rfl rfl (fun h187 => ?_) (fun h187 => ?_))))
          · refine to_c (pc := 160) rw_156_160 (x := (2 : Int32)) rfl rfl (s_pI (pc := 161) rw_156_161 hG179 rfl (fun M189 W188 => ?_))
            have hG190 := g_w hG179 W188 (A := 2) rfl (lo := 0) (hi := 5) rfl rfl (by omega) (by decide)
            have F191 := FR.w F180 W188 (show 77 = 77 ∧ 7 ≤ 8 ∧ 8 ≤ 10 by decide)
            refine to_an (pc := 164) rw_156_164 rfl ?_
            have c_192 : M189.2.1 77 8 = (2 : Int32) := (W_e W188)
            refine tt_gI (pc := 165) rw_156_165 (g_o hG190 rfl) (v := (2 : Int32)) c_192 (to_c (pc := 168) rw_156_168 (x := (2 : Int32)) rfl rfl (b_cne_f (pc := 169) rw_156_169 (A := 2) (B := 2) rfl rfl (by decide) (to_an (pc := 172) rw_156_172 rfl (to_an (pc := 173) rw_156_173 rfl (to_an (pc := 174) rw_156_174 rfl ?_)))))
            have c_193 : M189.2.1 77 10 = (N.2.1 77 10) := (W_n W188 (by decide) c_184)
            refine tt_gI (pc := 175) rw_156_175 (g_o hG190 rfl) (v := (N.2.1 77 10)) c_193 (to_an (pc := 178) rw_156_178 rfl ?_)
            have c_194 : M189.2.1 77 7 = v97 := (W_n W188 (by decide) c_183)
            refine tt_gI (pc := 179) rw_156_179 (g_o hG190 rfl) (v := v97) c_194 (s_v (pc := 182) rw_156_182 (dp0 hd (by decide)) (ls0 := [.ref 77, .int (N.2.1 77 10), .int v97, .null, .null]) rfl (Nat.le_of_ble_eq_true rfl) (Nat.le_of_ble_eq_true rfl) rfl (to_rc rfl rfl rfl (g_o hG190 rfl)) rfl (C_157 hX (dp1 hd (by decide)) hG190 (by omega) (by omega) (by omega) (a := (N.2.1 77 10)) (b := v97) (fun r195 M198 hG197 F196 => ?_)))
            have F199 := FR.c F191 F196 tg_10
            refine s_pI (pc := 185) rw_156_185 hG197 rfl (fun M201 W200 => ?_)
            have hG202 := g_wf hG197 W200 rfl rfl (by decide)
            have F203 := FR.w F199 W200 (show 77 = 77 ∧ 7 ≤ 9 ∧ 9 ≤ 10 by decide)
            refine to_go (pc := 188) rw_156_188 (to_rv (pc := 344) rw_156_344 ?_)
            have c_204 : M201.2.1 77 7 = v97 := (W_n W200 (by decide) (F_n F196 (show ¬ (77 < 0) by decide) c_194))
            have t_205 : (M201.2.1 77 7).toInt = v97.toInt := congrArg Int32.toInt c_204
            have c_206 : M201.2.1 77 6 = (N.2.1 77 6) := (W_n W200 (by decide) (F_n F196 (show ¬ (77 < 0) by decide) (W_n W188 (by decide) (W_n W177 (by decide) (F_n F173 (show ¬ (77 < 0) by decide) c_104)))))
            have t_207 : (M201.2.1 77 6).toInt = (N.2.1 77 6).toInt := congrArg Int32.toInt c_206
            have c_208 : M201.2.1 77 8 = (2 : Int32) := (W_n W200 (by decide) (F_n F196 (show ¬ (77 < 0) by decide) c_192))
            have k_209 : (2 : Int32).toInt = 2 := rfl
            have t_210 : (M201.2.1 77 8).toInt = (2 : Int32).toInt := congrArg Int32.toInt c_208
            exact h M201 hG202 F203 (by omega) (by omega) (by omega)
          · refine to_c (pc := 156) rw_156_156 (x := (5 : Int32)) rfl rfl (to_go (pc := 157) rw_156_157 (s_pI (pc := 161) rw_156_161 hG179 rfl (fun M212 W211 => ?_)))
            have hG213 := g_w hG179 W211 (A := 5) rfl (lo := 0) (hi := 5) rfl rfl (by omega) (by decide)
            have F214 := FR.w F180 W211 (show 77 = 77 ∧ 7 ≤ 8 ∧ 8 ≤ 10 by decide)
            refine to_an (pc := 164) rw_156_164 rfl ?_
            have c_215 : M212.2.1 77 8 = (5 : Int32) := (W_e W211)
            refine tt_gI (pc := 165) rw_156_165 (g_o hG213 rfl) (v := (5 : Int32)) c_215 (to_c (pc := 168) rw_156_168 (x := (2 : Int32)) rfl rfl (b_cne_t (pc := 169) rw_156_169 (A := 5) (B := 2) rfl rfl (by decide) (to_rv (pc := 344) rw_156_344 ?_)))
            have c_216 : M212.2.1 77 7 = v97 := (W_n W211 (by decide) c_183)
            have t_217 : (M212.2.1 77 7).toInt = v97.toInt := congrArg Int32.toInt c_216
            have c_218 : M212.2.1 77 6 = (N.2.1 77 6) := (W_n W211 (by decide) (W_n W177 (by decide) (F_n F173 (show ¬ (77 < 0) by decide) c_104)))
            have t_219 : (M212.2.1 77 6).toInt = (N.2.1 77 6).toInt := congrArg Int32.toInt c_218
            have k_220 : (5 : Int32).toInt = 5 := rfl
            have t_221 : (M212.2.1 77 8).toInt = (5 : Int32).toInt := congrArg Int32.toInt c_215
            exact h M212 hG213 F214 (by omega) (by omega) (by omega)
        · refine to_c (pc := 138) rw_156_138 (x := (1 : Int32)) rfl rfl (to_go (pc := 139) rw_156_139 (s_pI (pc := 161) rw_156_161 hG179 rfl (fun M223 W222 => ?_)))
          have hG224 := g_w hG179 W222 (A := 1) rfl (lo := 0) (hi := 5) rfl rfl (by omega) (by decide)
          have F225 := FR.w F180 W222 (show 77 = 77 ∧ 7 ≤ 8 ∧ 8 ≤ 10 by decide)
          refine to_an (pc := 164) rw_156_164 rfl ?_
          have c_226 : M223.2.1 77 8 = (1 : Int32) := (W_e W222)
          refine tt_gI (pc := 165) rw_156_165 (g_o hG224 rfl) (v := (1 : Int32)) c_226 (to_c (pc := 168) rw_156_168 (x := (2 : Int32)) rfl rfl (b_cne_t (pc := 169) rw_156_169 (A := 1) (B := 2) rfl rfl (by decide) (to_rv (pc := 344) rw_156_344 ?_)))
          have c_227 : M223.2.1 77 7 = v97 := (W_n W222 (by decide) (W_n W177 (by decide) (F_n F173 (show ¬ (77 < 0) by decide) c_103)))
          have t_228 : (M223.2.1 77 7).toInt = v97.toInt := congrArg Int32.toInt c_227
          have c_229 : M223.2.1 77 6 = (N.2.1 77 6) := (W_n W222 (by decide) (W_n W177 (by decide) (F_n F173 (show ¬ (77 < 0) by decide) c_104)))
          have t_230 : (M223.2.1 77 6).toInt = (N.2.1 77 6).toInt := congrArg Int32.toInt c_229
          have k_231 : (1 : Int32).toInt = 1 := rfl
          have t_232 : (M223.2.1 77 8).toInt = (1 : Int32).toInt := congrArg Int32.toInt c_226
          exact h M223 hG224 F225 (by omega) (by omega) (by omega)
      · refine to_an (pc := 19) rw_154_19 rfl (s_gR (pc := 20) rw_154_20 hG101 rfl (v := 78) rfl (to_in (pc := 23) rw_154_23 rfl (s_ialk (pc := 24) rw_154_24 hG101 rfl (n := 500) rfl rfl (A := v97.toInt) rfl (by omega) (by omega) (v := v168) w_169 (to_c (pc := 25) rw_154_25 (x := (122 : Int32)) rfl rfl (b_cgt (pc := 27) rw_154_27 (A := v168.toInt) (B := 122) rfl rfl (fun h235 => ?_) (fun h235 => ?_))))))
        · refine to_c (pc := 34) rw_154_34 (x := (0 : Int32)) rfl rfl (s_r1 (pc := 35) rw_154_35 (A := 0) rfl (by decide) (b_ieq_t (pc := 98) rw_156_98 (A := 0) rfl (by decide) (to_an (pc := 114) rw_156_114 rfl (to_an (pc := 115) rw_156_115 rfl (to_an (pc := 116) rw_156_116 rfl ?_)))))
          have c_236 : M100.2.1 77 10 = (N.2.1 77 10) := (W_n W99 (by decide) rfl)
          refine tt_gI (pc := 117) rw_156_117 (g_o hG101 rfl) (v := (N.2.1 77 10)) c_236 (to_an (pc := 120) rw_156_120 rfl (tt_gI (pc := 121) rw_156_121 (g_o hG101 rfl) (v := v97) c_103 (s_v (pc := 124) rw_156_124 (dp0 hd (by decide)) (ls0 := [.ref 77, .int (N.2.1 77 10), .int v97, .null, .null, .null, .null, .null]) rfl (Nat.le_of_ble_eq_true rfl) (Nat.le_of_ble_eq_true rfl) rfl (to_rc rfl rfl rfl (g_o hG101 rfl)) rfl (C_153 hX (dp1 hd (by decide)) hG101 (by omega) (by omega) (by omega) (by omega) (by omega) (a := (N.2.1 77 10)) (b := v97) (fun r237 M240 hG239 F238 => ?_)))))
          have F241 := FR.c F102 F238 tg_10
          refine s_pI (pc := 127) rw_156_127 hG239 rfl (fun M243 W242 => ?_)
          have hG244 := g_wf hG239 W242 rfl rfl (by decide)
          have F245 := FR.w F241 W242 (show 77 = 77 ∧ 7 ≤ 9 ∧ 9 ≤ 10 by decide)
          refine to_an (pc := 130) rw_156_130 rfl (to_an (pc := 131) rw_156_131 rfl ?_)
          have c_246 : M243.2.1 77 9 = r237 := (W_e W242)
          refine tt_gI (pc := 132) rw_156_132 (g_o hG244 rfl) (v := r237) c_246 (b_ilt (pc := 135) rw_156_135 (A := r237.toInt) rfl (fun h247 => ?_) (fun h247 => ?_))
          · refine to_an (pc := 142) rw_156_142 rfl ?_
            have c_248 : M243.2.1 77 7 = v97 := (W_n W242 (by decide) (F_n F238 (show ¬ (77 < 0) by decide) c_103))
            refine tt_gI (pc := 143) rw_156_143 (g_o hG244 rfl) (v := v97) c_248 (to_an (pc := 146) rw_156_146 rfl ?_)
            have c_249 : M243.2.1 77 10 = (N.2.1 77 10) := (W_n W242 (by decide) (F_n F238 (show ¬ (77 < 0) by decide) c_236))
            refine tt_gI (pc := 147) rw_156_147 (g_o hG244 rfl) (v := (N.2.1 77 10)) c_249 (s_sub (pc := 150) rw_156_150 (A := v97.toInt) (B := (N.2.1 77 10).toInt) rfl rfl (by omega) (fun v250 e251 => to_c (pc := 151) rw_156_151 (x := (6 : Int32)) rfl rfl (b_cle (pc := 153) rw_156_153 (A := v250.toInt) (B := 6) rfl rfl (fun h252 => ?_) (fun h252 => ?_))))
            · refine to_c (pc := 160) rw_156_160 (x := (2 : Int32)) rfl rfl (s_pI (pc := 161) rw_156_161 hG244 rfl (fun M254 W253 => ?_))
              have hG255 := g_w hG244 W253 (A := 2) rfl (lo := 0) (hi := 5) rfl rfl (by omega) (by decide)
              have F256 := FR.w F245 W253 (show 77 = 77 ∧ 7 ≤ 8 ∧ 8 ≤ 10 by decide)
              refine to_an (pc := 164) rw_156_164 rfl ?_
              have c_257 : M254.2.1 77 8 = (2 : Int32) := (W_e W253)
              refine tt_gI (pc := 165) rw_156_165 (g_o hG255 rfl) (v := (2 : Int32)) c_257 (to_c (pc := 168) rw_156_168 (x := (2 : Int32)) rfl rfl (b_cne_f (pc := 169) rw_156_169 (A := 2) (B := 2) rfl rfl (by decide) (to_an (pc := 172) rw_156_172 rfl (to_an (pc := 173) rw_156_173 rfl (to_an (pc := 174) rw_156_174 rfl ?_)))))
              have c_258 : M254.2.1 77 10 = (N.2.1 77 10) := (W_n W253 (by decide) c_249)
              refine tt_gI (pc := 175) rw_156_175 (g_o hG255 rfl) (v := (N.2.1 77 10)) c_258 (to_an (pc := 178) rw_156_178 rfl ?_)
              have c_259 : M254.2.1 77 7 = v97 := (W_n W253 (by decide) c_248)
              refine tt_gI (pc := 179) rw_156_179 (g_o hG255 rfl) (v := v97) c_259 (s_v (pc := 182) rw_156_182 (dp0 hd (by decide)) (ls0 := [.ref 77, .int (N.2.1 77 10), .int v97, .null, .null]) rfl (Nat.le_of_ble_eq_true rfl) (Nat.le_of_ble_eq_true rfl) rfl (to_rc rfl rfl rfl (g_o hG255 rfl)) rfl (C_157 hX (dp1 hd (by decide)) hG255 (by omega) (by omega) (by omega) (a := (N.2.1 77 10)) (b := v97) (fun r260 M263 hG262 F261 => ?_)))
              have F264 := FR.c F256 F261 tg_10
              refine s_pI (pc := 185) rw_156_185 hG262 rfl (fun M266 W265 => ?_)
              have hG267 := g_wf hG262 W265 rfl rfl (by decide)
              have F268 := FR.w F264 W265 (show 77 = 77 ∧ 7 ≤ 9 ∧ 9 ≤ 10 by decide)
              refine to_go (pc := 188) rw_156_188 (to_rv (pc := 344) rw_156_344 ?_)
              have c_269 : M266.2.1 77 7 = v97 := (W_n W265 (by decide) (F_n F261 (show ¬ (77 < 0) by decide) c_259))
              have t_270 : (M266.2.1 77 7).toInt = v97.toInt := congrArg Int32.toInt c_269
              have c_271 : M266.2.1 77 6 = (N.2.1 77 6) := (W_n W265 (by decide) (F_n F261 (show ¬ (77 < 0) by decide) (W_n W253 (by decide) (W_n W242 (by decide) (F_n F238 (show ¬ (77 < 0) by decide) c_104)))))
              have t_272 : (M266.2.1 77 6).toInt = (N.2.1 77 6).toInt := congrArg Int32.toInt c_271
              have c_273 : M266.2.1 77 8 = (2 : Int32) := (W_n W265 (by decide) (F_n F261 (show ¬ (77 < 0) by decide) c_257))
              have k_274 : (2 : Int32).toInt = 2 := rfl
              have t_275 : (M266.2.1 77 8).toInt = (2 : Int32).toInt := congrArg Int32.toInt c_273
              exact h M266 hG267 F268 (by omega) (by omega) (by omega)
            · refine to_c (pc := 156) rw_156_156 (x := (5 : Int32)) rfl rfl (to_go (pc := 157) rw_156_157 (s_pI (pc := 161) rw_156_161 hG244 rfl (fun M277 W276 => ?_)))
              have hG278 := g_w hG244 W276 (A := 5) rfl (lo := 0) (hi := 5) rfl rfl (by omega) (by decide)
              have F279 := FR.w F245 W276 (show 77 = 77 ∧ 7 ≤ 8 ∧ 8 ≤ 10 by decide)
              refine to_an (pc := 164) rw_156_164 rfl ?_
              have c_280 : M277.2.1 77 8 = (5 : Int32) := (W_e W276)
              refine tt_gI (pc := 165) rw_156_165 (g_o hG278 rfl) (v := (5 : Int32)) c_280 (to_c (pc := 168) rw_156_168 (x := (2 : Int32)) rfl rfl (b_cne_t (pc := 169) rw_156_169 (A := 5) (B := 2) rfl rfl (by decide) (to_rv (pc := 344) rw_156_344 ?_)))
              have c_281 : M277.2.1 77 7 = v97 := (W_n W276 (by decide) c_248)
              have t_282 : (M277.2.1 77 7).toInt = v97.toInt := congrArg Int32.toInt c_281
              have c_283 : M277.2.1 77 6 = (N.2.1 77 6) := (W_n W276 (by decide) (W_n W242 (by decide) (F_n F238 (show ¬ (77 < 0) by decide) c_104)))
              have t_284 : (M277.2.1 77 6).toInt = (N.2.1 77 6).toInt := congrArg Int32.toInt c_283
              have k_285 : (5 : Int32).toInt = 5 := rfl
              have t_286 : (M277.2.1 77 8).toInt = (5 : Int32).toInt := congrArg Int32.toInt c_280
              exact h M277 hG278 F279 (by omega) (by omega) (by omega)
          · refine to_c (pc := 138) rw_156_138 (x := (1 : Int32)) rfl rfl (to_go (pc := 139) rw_156_139 (s_pI (pc := 161) rw_156_161 hG244 rfl (fun M288 W287 => ?_)))
            have hG289 := g_w hG244 W287 (A := 1) rfl (lo := 0) (hi := 5) rfl rfl (by omega) (by decide)
            have F290 := FR.w F245 W287 (show 77 = 77 ∧ 7 ≤ 8 ∧ 8 ≤ 10 by decide)
            refine to_an (pc := 164) rw_156_164 rfl ?_
            have c_291 : M288.2.1 77 8 = (1 : Int32) := (W_e W287)
            refine tt_gI (pc := 165) rw_156_165 (g_o hG289 rfl) (v := (1 : Int32)) c_291 (to_c (pc := 168) rw_156_168 (x := (2 : Int32)) rfl rfl (b_cne_t (pc := 169) rw_156_169 (A := 1) (B := 2) rfl rfl (by decide) (to_rv (pc := 344) rw_156_344 ?_)))
            have c_292 : M288.2.1 77 7 = v97 := (W_n W287 (by decide) (W_n W242 (by decide) (F_n F238 (show ¬ (77 < 0) by decide) c_103)))
            have t_293 : (M288.2.1 77 7).toInt = v97.toInt := congrArg Int32.toInt c_292
            have c_294 : M288.2.1 77 6 = (N.2.1 77 6) := (W_n W287 (by decide) (W_n W242 (by decide) (F_n F238 (show ¬ (77 < 0) by decide) c_104)))
            have t_295 : (M288.2.1 77 6).toInt = (N.2.1 77 6).toInt := congrArg Int32.toInt c_294
            have k_296 : (1 : Int32).toInt = 1 := rfl
            have t_297 : (M288.2.1 77 8).toInt = (1 : Int32).toInt := congrArg Int32.toInt c_291
            exact h M288 hG289 F290 (by omega) (by omega) (by omega)
        · refine to_c (pc := 30) rw_154_30 (x := (1 : Int32)) rfl rfl (to_go (pc := 31) rw_154_31 (s_r1 (pc := 35) rw_154_35 (A := 1) rfl (by decide) (b_ieq_f (pc := 98) rw_156_98 (A := 1) rfl (by decide) ?_)))
          have t_298 : (M100.2.1 77 7).toInt = v97.toInt := congrArg Int32.toInt c_103
          have t_299 : (M100.2.1 77 6).toInt = (N.2.1 77 6).toInt := congrArg Int32.toInt c_104
          have c_300 : M100.2.1 77 10 = (N.2.1 77 10) := (W_n W99 (by decide) rfl)
          have t_301 : (M100.2.1 77 10).toInt = (N.2.1 77 10).toInt := congrArg Int32.toInt c_300
          exact ih M100  hG101 F102 (by omega) (by omega) (by omega) (by omega)
set_option maxRecDepth 4000 in
set_option maxHeartbeats 0 in
theorem T_156_2 {X : mm_X} {d : Nat} {M : mm_M} {Q : Option Value → mm_M → Prop} (hX : g_X X) (hd : 1 ≤ d) (q1 : (M.2.1 77 7).toInt ≤ (M.2.1 77 6).toInt) (h : ∀ (M1 : mm_M), g_G M1 → FR md_tk M M1 → ((M1.2.1 77 7).toInt ≤ (M1.2.1 77 6).toInt) → ((M.2.1 77 7).toInt ≤ (M1.2.1 77 7).toInt) → ((M1.2.1 77 8).toInt = 0 ∨ (M.2.1 77 7).toInt < (M1.2.1 77 7).toInt) → Q (none) M1) : ∀ nn9 : Nat, (∀ (N : mm_M), g_G N → FR md_tk M N → ((N.2.1 77 7).toInt ≤ (N.2.1 77 6).toInt) → ((M.2.1 77 7).toInt ≤ (N.2.1 77 7).toInt) → 500 - (N.2.1 77 7).toInt < (nn9 : Int) → mm_T X d 155 0 [.ref 77] [] N Q) := by
  intro nn9
  induction nn9 with
  | zero =>
    intro N hG F0 g1 g2 hm
    have b_302 := g_b hG (a := 77) (i := 7) (lo := 0) (hi := 500) rfl rfl
    have b_303 := g_b hG (a := 77) (i := 6) (lo := 0) (hi := 500) rfl rfl
    exfalso; omega
  | succ nn9 ih =>
    intro N hG F0 g1 g2 hm
    have b_304 := g_b hG (a := 77) (i := 7) (lo := 0) (hi := 500) rfl rfl
    have b_305 := g_b hG (a := 77) (i := 6) (lo := 0) (hi := 500) rfl rfl
    refine to_an (pc := 0) rw_156_0 rfl (tt_gI (pc := 1) rw_156_1 (g_o hG rfl) (v := (N.2.1 77 7)) rfl (to_an (pc := 4) rw_156_4 rfl (tt_gI (pc := 5) rw_156_5 (g_o hG rfl) (v := (N.2.1 77 6)) rfl (b_cge (pc := 8) rw_156_8 (A := (N.2.1 77 7).toInt) (B := (N.2.1 77 6).toInt) rfl rfl (fun h306 => ?_) (fun h306 => ?_)))))
    · refine to_an (pc := 52) rw_156_52 rfl (to_an (pc := 53) rw_156_53 rfl (tt_gI (pc := 54) rw_156_54 (g_o hG rfl) (v := (N.2.1 77 7)) rfl (s_pI (pc := 57) rw_156_57 hG rfl (fun M308 W307 => ?_))))
      have hG309 := g_w hG W307 (A := (N.2.1 77 7).toInt) rfl (lo := 0) (hi := 500) rfl rfl (by omega) (by decide)
      have F310 := FR.w F0 W307 (show 77 = 77 ∧ 7 ≤ 10 ∧ 10 ≤ 10 by decide)
      refine to_an (pc := 60) rw_156_60 rfl ?_
      have c_311 : M308.2.1 77 7 = (N.2.1 77 7) := (W_n W307 (by decide) rfl)
      refine tt_gI (pc := 61) rw_156_61 (g_o hG309 rfl) (v := (N.2.1 77 7)) c_311 (to_an (pc := 64) rw_156_64 rfl ?_)
      have c_312 : M308.2.1 77 6 = (N.2.1 77 6) := (W_n W307 (by decide) rfl)
      refine tt_gI (pc := 65) rw_156_65 (g_o hG309 rfl) (v := (N.2.1 77 6)) c_312 (b_cne (pc := 68) rw_156_68 (A := (N.2.1 77 7).toInt) (B := (N.2.1 77 6).toInt) rfl rfl (fun h313 => ?_) (fun h313 => ?_))
      · refine to_an (pc := 79) rw_156_79 rfl (to_an (pc := 80) rw_156_80 rfl (tt_gI (pc := 81) rw_156_81 (g_o hG309 rfl) (v := (N.2.1 77 7)) c_311 (s_v (pc := 84) rw_156_84 (dp0 hd (by decide)) (ls0 := [.ref 77, .int (N.2.1 77 7)]) rfl (Nat.le_of_ble_eq_true rfl) (Nat.le_of_ble_eq_true rfl) rfl (to_rc rfl rfl rfl (g_o hG309 rfl)) rfl (to_in (pc := 0) rw_154_0 rfl (to_an (pc := 1) rw_154_1 rfl (tt_gI (pc := 2) rw_154_2 (g_o hG309 rfl) (v := (N.2.1 77 6)) c_312 (b_cge (pc := 5) rw_154_5 (A := (N.2.1 77 7).toInt) (B := (N.2.1 77 6).toInt) rfl rfl (fun h314 => ?_) (fun h314 => ?_))))))))
        · refine to_c (pc := 34) rw_154_34 (x := (0 : Int32)) rfl rfl (s_r1 (pc := 35) rw_154_35 (A := 0) rfl (by decide) (b_ieq_t (pc := 87) rw_156_87 (A := 0) rfl (by decide) (to_an (pc := 191) rw_156_191 rfl (to_an (pc := 192) rw_156_192 rfl (tt_gI (pc := 193) rw_156_193 (g_o hG309 rfl) (v := (N.2.1 77 7)) c_311 (s_v (pc := 196) rw_156_196 (dp0 hd (by decide)) (ls0 := [.ref 77, .int (N.2.1 77 7)]) rfl (Nat.le_of_ble_eq_true rfl) (Nat.le_of_ble_eq_true rfl) rfl (to_rc rfl rfl rfl (g_o hG309 rfl)) rfl (to_in (pc := 0) rw_155_0 rfl (to_an (pc := 1) rw_155_1 rfl (tt_gI (pc := 2) rw_155_2 (g_o hG309 rfl) (v := (N.2.1 77 6)) c_312 (b_cge (pc := 5) rw_155_5 (A := (N.2.1 77 7).toInt) (B := (N.2.1 77 6).toInt) rfl rfl (fun h315 => ?_) (fun h315 => ?_)))))))))))
          · refine to_c (pc := 34) rw_155_34 (x := (0 : Int32)) rfl rfl (s_r1 (pc := 35) rw_155_35 (A := 0) rfl (by decide) (b_ieq_t (pc := 199) rw_156_199 (A := 0) rfl (by decide) (to_an (pc := 276) rw_156_276 rfl (to_an (pc := 277) rw_156_277 rfl (s_gR (pc := 278) rw_156_278 hG309 rfl (v := 78) rfl (to_an (pc := 281) rw_156_281 rfl (tt_gI (pc := 282) rw_156_282 (g_o hG309 rfl) (v := (N.2.1 77 7)) c_311 (s_ial (pc := 285) rw_156_285 hG309 rfl (n := 500) rfl rfl (A := (N.2.1 77 7).toInt) rfl (by omega) (by omega) (lo := 0) (hi := 255) rfl rfl (fun v316 w_317 _ _ => s_pI (pc := 286) rw_156_286 hG309 rfl (fun M319 W318 => ?_))))))))))
            have hG320 := g_wf hG309 W318 rfl rfl (by decide)
            have F321 := FR.w F310 W318 (show 77 = 77 ∧ 7 ≤ 9 ∧ 9 ≤ 10 by decide)
            refine to_an (pc := 289) rw_156_289 rfl (to_an (pc := 290) rw_156_290 rfl ?_)
            have c_322 : M319.2.1 77 9 = v316 := (W_e W318)
            refine tt_gI (pc := 291) rw_156_291 (g_o hG320 rfl) (v := v316) c_322 (to_c (pc := 294) rw_156_294 (x := (59 : Int32)) rfl rfl (b_ceq (pc := 296) rw_156_296 (A := v316.toInt) (B := 59) rfl rfl (fun h323 => ?_) (fun h323 => ?_)))
            · refine to_c (pc := 326) rw_156_326 (x := (4 : Int32)) rfl rfl (to_go (pc := 327) rw_156_327 (s_pI (pc := 331) rw_156_331 hG320 rfl (fun M325 W324 => ?_)))
              have hG326 := g_w hG320 W324 (A := 4) rfl (lo := 0) (hi := 5) rfl rfl (by omega) (by decide)
              have F327 := FR.w F321 W324 (show 77 = 77 ∧ 7 ≤ 8 ∧ 8 ≤ 10 by decide)
              refine to_an (pc := 334) rw_156_334 rfl (to_dupr (pc := 335) rw_156_335 ?_)
              have c_328 : M325.2.1 77 7 = (N.2.1 77 7) := (W_n W324 (by decide) (W_n W318 (by decide) c_311))
              refine tt_gI (pc := 336) rw_156_336 (g_o hG326 rfl) (v := (N.2.1 77 7)) c_328 (to_c (pc := 339) rw_156_339 (x := (1 : Int32)) rfl rfl (s_add (pc := 340) rw_156_340 (A := (N.2.1 77 7).toInt) (B := 1) rfl rfl (by omega) (fun v329 e330 => s_pI (pc := 341) rw_156_341 hG326 rfl (fun M332 W331 => ?_))))
              have hG333 := g_w hG326 W331 (A := v329.toInt) rfl (lo := 0) (hi := 500) rfl rfl (by omega) (by decide)
              have F334 := FR.w F327 W331 (show 77 = 77 ∧ 7 ≤ 7 ∧ 7 ≤ 10 by decide)
              refine to_rv (pc := 344) rw_156_344 ?_
              have c_335 : M332.2.1 77 7 = v329 := (W_e W331)
              have t_336 : (M332.2.1 77 7).toInt = v329.toInt := congrArg Int32.toInt c_335
              have c_337 : M332.2.1 77 6 = (N.2.1 77 6) := (W_n W331 (by decide) (W_n W324 (by decide) (W_n W318 (by decide) c_312)))
              have t_338 : (M332.2.1 77 6).toInt = (N.2.1 77 6).toInt := congrArg Int32.toInt c_337
              have c_339 : M332.2.1 77 8 = (4 : Int32) := (W_n W331 (by decide) (W_e W324))
              have k_340 : (4 : Int32).toInt = 4 := rfl
              have t_341 : (M332.2.1 77 8).toInt = (4 : Int32).toInt := congrArg Int32.toInt c_339
              exact h M332 hG333 F334 (by omega) (by omega) (by omega)
            · refine to_an (pc := 299) rw_156_299 rfl (tt_gI (pc := 300) rw_156_300 (g_o hG320 rfl) (v := v316) c_322 (to_c (pc := 303) rw_156_303 (x := (40 : Int32)) rfl rfl (b_ceq (pc := 305) rw_156_305 (A := v316.toInt) (B := 40) rfl rfl (fun h342 => ?_) (fun h342 => ?_))))
              · refine to_c (pc := 326) rw_156_326 (x := (4 : Int32)) rfl rfl (to_go (pc := 327) rw_156_327 (s_pI (pc := 331) rw_156_331 hG320 rfl (fun M344 W343 => ?_)))
                have hG345 := g_w hG320 W343 (A := 4) rfl (lo := 0) (hi := 5) rfl rfl (by omega) (by decide)
                have F346 := FR.w F321 W343 (show 77 = 77 ∧ 7 ≤ 8 ∧ 8 ≤ 10 by decide)
                refine to_an (pc := 334) rw_156_334 rfl (to_dupr (pc := 335) rw_156_335 ?_)
                have c_347 : M344.2.1 77 7 = (N.2.1 77 7) := (W_n W343 (by decide) (W_n W318 (by decide) c_311))
                refine tt_gI (pc := 336) rw_156_336 (g_o hG345 rfl) (v := (N.2.1 77 7)) c_347 (to_c (pc := 339) rw_156_339 (x := (1 : Int32)) rfl rfl (s_add (pc := 340) rw_156_340 (A := (N.2.1 77 7).toInt) (B := 1) rfl rfl (by omega) (fun v348 e349 => s_pI (pc := 341) rw_156_341 hG345 rfl (fun M351 W350 => ?_))))
                have hG352 := g_w hG345 W350 (A := v348.toInt) rfl (lo := 0) (hi := 500) rfl rfl (by omega) (by decide)
                have F353 := FR.w F346 W350 (show 77 = 77 ∧ 7 ≤ 7 ∧ 7 ≤ 10 by decide)
                refine to_rv (pc := 344) rw_156_344 ?_
                have c_354 : M351.2.1 77 7 = v348 := (W_e W350)
                have t_355 : (M351.2.1 77 7).toInt = v348.toInt := congrArg Int32.toInt c_354
                have c_356 : M351.2.1 77 6 = (N.2.1 77 6) := (W_n W350 (by decide) (W_n W343 (by decide) (W_n W318 (by decide) c_312)))
                have t_357 : (M351.2.1 77 6).toInt = (N.2.1 77 6).toInt := congrArg Int32.toInt c_356
                have c_358 : M351.2.1 77 8 = (4 : Int32) := (W_n W350 (by decide) (W_e W343))
                have k_359 : (4 : Int32).toInt = 4 := rfl
                have t_360 : (M351.2.1 77 8).toInt = (4 : Int32).toInt := congrArg Int32.toInt c_358
                exact h M351 hG352 F353 (by omega) (by omega) (by omega)
              · refine to_an (pc := 308) rw_156_308 rfl (tt_gI (pc := 309) rw_156_309 (g_o hG320 rfl) (v := v316) c_322 (to_c (pc := 312) rw_156_312 (x := (41 : Int32)) rfl rfl (b_ceq (pc := 314) rw_156_314 (A := v316.toInt) (B := 41) rfl rfl (fun h361 => ?_) (fun h361 => ?_))))
                · refine to_c (pc := 326) rw_156_326 (x := (4 : Int32)) rfl rfl (to_go (pc := 327) rw_156_327 (s_pI (pc := 331) rw_156_331 hG320 rfl (fun M363 W362 => ?_)))
                  have hG364 := g_w hG320 W362 (A := 4) rfl (lo := 0) (hi := 5) rfl rfl (by omega) (by decide)
                  have F365 := FR.w F321 W362 (show 77 = 77 ∧ 7 ≤ 8 ∧ 8 ≤ 10 by decide)
                  refine to_an (pc := 334) rw_156_334 rfl (to_dupr (pc := 335) rw_156_335 ?_)
                  have c_366 : M363.2.1 77 7 = (N.2.1 77 7) := (W_n W362 (by decide) (W_n W318 (by decide) c_311))
                  refine tt_gI (pc := 336) rw_156_336 (g_o hG364 rfl) (v := (N.2.1 77 7)) c_366 (to_c (pc := 339) rw_156_339 (x := (1 : Int32)) rfl rfl (s_add (pc := 340) rw_156_340 (A := (N.2.1 77 7).toInt) (B := 1) rfl rfl (by omega) (fun v367 e368 => s_pI (pc := 341) rw_156_341 hG364 rfl (fun M370 W369 => ?_))))
                  have hG371 := g_w hG364 W369 (A := v367.toInt) rfl (lo := 0) (hi := 500) rfl rfl (by omega) (by decide)
                  have F372 := FR.w F365 W369 (show 77 = 77 ∧ 7 ≤ 7 ∧ 7 ≤ 10 by decide)
                  refine to_rv (pc := 344) rw_156_344 ?_
                  have c_373 : M370.2.1 77 7 = v367 := (W_e W369)
                  have t_374 : (M370.2.1 77 7).toInt = v367.toInt := congrArg Int32.toInt c_373
                  have c_375 : M370.2.1 77 6 = (N.2.1 77 6) := (W_n W369 (by decide) (W_n W362 (by decide) (W_n W318 (by decide) c_312)))
                  have t_376 : (M370.2.1 77 6).toInt = (N.2.1 77 6).toInt := congrArg Int32.toInt c_375
                  have c_377 : M370.2.1 77 8 = (4 : Int32) := (W_n W369 (by decide) (W_e W362))
                  have k_378 : (4 : Int32).toInt = 4 := rfl
                  have t_379 : (M370.2.1 77 8).toInt = (4 : Int32).toInt := congrArg Int32.toInt c_377
                  exact h M370 hG371 F372 (by omega) (by omega) (by omega)
                · refine to_an (pc := 317) rw_156_317 rfl (tt_gI (pc := 318) rw_156_318 (g_o hG320 rfl) (v := v316) c_322 (to_c (pc := 321) rw_156_321 (x := (61 : Int32)) rfl rfl (b_cne (pc := 323) rw_156_323 (A := v316.toInt) (B := 61) rfl rfl (fun h380 => ?_) (fun h380 => ?_))))
                  · refine to_c (pc := 330) rw_156_330 (x := (5 : Int32)) rfl rfl (s_pI (pc := 331) rw_156_331 hG320 rfl (fun M382 W381 => ?_))
                    have hG383 := g_w hG320 W381 (A := 5) rfl (lo := 0) (hi := 5) rfl rfl (by omega) (by decide)
                    have F384 := FR.w F321 W381 (show 77 = 77 ∧ 7 ≤ 8 ∧ 8 ≤ 10 by decide)
                    refine to_an (pc := 334) rw_156_334 rfl (to_dupr (pc := 335) rw_156_335 ?_)
                    have c_385 : M382.2.1 77 7 = (N.2.1 77 7) := (W_n W381 (by decide) (W_n W318 (by decide) c_311))
                    refine tt_gI (pc := 336) rw_156_336 (g_o hG383 rfl) (v := (N.2.1 77 7)) c_385 (to_c (pc := 339) rw_156_339 (x := (1 : Int32)) rfl rfl (s_add (pc := 340) rw_156_340 (A := (N.2.1 77 7).toInt) (B := 1) rfl rfl (by omega) (fun v386 e387 => s_pI (pc := 341) rw_156_341 hG383 rfl (fun M389 W388 => ?_))))
                    have hG390 := g_w hG383 W388 (A := v386.toInt) rfl (lo := 0) (hi := 500) rfl rfl (by omega) (by decide)
                    have F391 := FR.w F384 W388 (show 77 = 77 ∧ 7 ≤ 7 ∧ 7 ≤ 10 by decide)
                    refine to_rv (pc := 344) rw_156_344 ?_
                    have c_392 : M389.2.1 77 7 = v386 := (W_e W388)
                    have t_393 : (M389.2.1 77 7).toInt = v386.toInt := congrArg Int32.toInt c_392
                    have c_394 : M389.2.1 77 6 = (N.2.1 77 6) := (W_n W388 (by decide) (W_n W381 (by decide) (W_n W318 (by decide) c_312)))
                    have t_395 : (M389.2.1 77 6).toInt = (N.2.1 77 6).toInt := congrArg Int32.toInt c_394
                    have c_396 : M389.2.1 77 8 = (5 : Int32) := (W_n W388 (by decide) (W_e W381))
                    have k_397 : (5 : Int32).toInt = 5 := rfl
                    have t_398 : (M389.2.1 77 8).toInt = (5 : Int32).toInt := congrArg Int32.toInt c_396
                    exact h M389 hG390 F391 (by omega) (by omega) (by omega)
                  · refine to_c (pc := 326) rw_156_326 (x := (4 : Int32)) rfl rfl (to_go (pc := 327) rw_156_327 (s_pI (pc := 331) rw_156_331 hG320 rfl (fun M400 W399 => ?_)))
                    have hG401 := g_w hG320 W399 (A := 4) rfl (lo := 0) (hi := 5) rfl rfl (by omega) (by decide)
                    have F402 := FR.w F321 W399 (show 77 = 77 ∧ 7 ≤ 8 ∧ 8 ≤ 10 by decide)
                    refine to_an (pc := 334) rw_156_334 rfl (to_dupr (pc := 335) rw_156_335 ?_)
                    have c_403 : M400.2.1 77 7 = (N.2.1 77 7) := (W_n W399 (by decide) (W_n W318 (by decide) c_311))
                    refine tt_gI (pc := 336) rw_156_336 (g_o hG401 rfl) (v := (N.2.1 77 7)) c_403 (to_c (pc := 339) rw_156_339 (x := (1 : Int32)) rfl rfl (s_add (pc := 340) rw_156_340 (A := (N.2.1 77 7).toInt) (B := 1) rfl rfl (by omega) (fun v404 e405 => s_pI (pc := 341) rw_156_341 hG401 rfl (fun M407 W406 => ?_))))
                    have hG408 := g_w hG401 W406 (A := v404.toInt) rfl (lo := 0) (hi := 500) rfl rfl (by omega) (by decide)
                    have F409 := FR.w F402 W406 (show 77 = 77 ∧ 7 ≤ 7 ∧ 7 ≤ 10 by decide)
                    refine to_rv (pc := 344) rw_156_344 ?_
                    have c_410 : M407.2.1 77 7 = v404 := (W_e W406)
                    have t_411 : (M407.2.1 77 7).toInt = v404.toInt := congrArg Int32.toInt c_410
                    have c_412 : M407.2.1 77 6 = (N.2.1 77 6) := (W_n W406 (by decide) (W_n W399 (by decide) (W_n W318 (by decide) c_312)))
                    have t_413 : (M407.2.1 77 6).toInt = (N.2.1 77 6).toInt := congrArg Int32.toInt c_412
                    have c_414 : M407.2.1 77 8 = (4 : Int32) := (W_n W406 (by decide) (W_e W399))
                    have k_415 : (4 : Int32).toInt = 4 := rfl
                    have t_416 : (M407.2.1 77 8).toInt = (4 : Int32).toInt := congrArg Int32.toInt c_414
                    exact h M407 hG408 F409 (by omega) (by omega) (by omega)
          · refine to_an (pc := 8) rw_155_8 rfl (s_gR (pc := 9) rw_155_9 hG309 rfl (v := 78) rfl (to_in (pc := 12) rw_155_12 rfl (s_ial (pc := 13) rw_155_13 hG309 rfl (n := 500) rfl rfl (A := (N.2.1 77 7).toInt) rfl (by omega) (by omega) (lo := 0) (hi := 255) rfl rfl (fun v417 w_418 _ _ => to_c (pc := 14) rw_155_14 (x := (48 : Int32)) rfl rfl (b_clt (pc := 16) rw_155_16 (A := v417.toInt) (B := 48) rfl rfl (fun h419 => ?_) (fun h419 => ?_))))))
            · refine to_c (pc := 34) rw_155_34 (x := (0 : Int32)) rfl rfl (s_r1 (pc := 35) rw_155_35 (A := 0) rfl (by decide) (b_ieq_t (pc := 199) rw_156_199 (A := 0) rfl (by decide) (to_an (pc := 276) rw_156_276 rfl (to_an (pc := 277) rw_156_277 rfl (s_gR (pc := 278) rw_156_278 hG309 rfl (v := 78) rfl (to_an (pc := 281) rw_156_281 rfl (tt_gI (pc := 282) rw_156_282 (g_o hG309 rfl) (v := (N.2.1 77 7)) c_311 (s_ialk (pc := 285) rw_156_285 hG309 rfl (n := 500) rfl rfl (A := (N.2.1 77 7).toInt) rfl (by omega) (by omega) (v := v417) w_418 (s_pI (pc := 286) rw_156_286 hG309 rfl (fun M423 W422 => ?_))))))))))
              have hG424 := g_wf hG309 W422 rfl rfl (by decide)
              have F425 := FR.w F310 W422 (show 77 = 77 ∧ 7 ≤ 9 ∧ 9 ≤ 10 by decide)
              refine to_an (pc := 289) rw_156_289 rfl (to_an (pc := 290) rw_156_290 rfl ?_)
              have c_426 : M423.2.1 77 9 = v417 := (W_e W422)
              refine tt_gI (pc := 291) rw_156_291 (g_o hG424 rfl) (v := v417) c_426 (to_c (pc := 294) rw_156_294 (x := (59 : Int32)) rfl rfl (b_ceq_f (pc := 296) rw_156_296 (A := v417.toInt) (B := 59) rfl rfl (by omega) (to_an (pc := 299) rw_156_299 rfl (tt_gI (pc := 300) rw_156_300 (g_o hG424 rfl) (v := v417) c_426 (to_c (pc := 303) rw_156_303 (x := (40 : Int32)) rfl rfl (b_ceq (pc := 305) rw_156_305 (A := v417.toInt) (B := 40) rfl rfl (fun h427 => ?_) (fun h427 => ?_)))))))
              · refine to_c (pc := 326) rw_156_326 (x := (4 : Int32)) rfl rfl (to_go (pc := 327) rw_156_327 (s_pI (pc := 331) rw_156_331 hG424 rfl (fun M429 W428 => ?_)))
                have hG430 := g_w hG424 W428 (A := 4) rfl (lo := 0) (hi := 5) rfl rfl (by omega) (by decide)
                have F431 := FR.w F425 W428 (show 77 = 77 ∧ 7 ≤ 8 ∧ 8 ≤ 10 by decide)
                refine to_an (pc := 334) rw_156_334 rfl (to_dupr (pc := 335) rw_156_335 ?_)
                have c_432 : M429.2.1 77 7 = (N.2.1 77 7) := (W_n W428 (by decide) (W_n W422 (by decide) c_311))
                refine tt_gI (pc := 336) rw_156_336 (g_o hG430 rfl) (v := (N.2.1 77 7)) c_432 (to_c (pc := 339) rw_156_339 (x := (1 : Int32)) rfl rfl (s_add (pc := 340) rw_156_340 (A := (N.2.1 77 7).toInt) (B := 1) rfl rfl (by omega) (fun v433 e434 => s_pI (pc := 341) rw_156_341 hG430 rfl (fun M436 W435 => ?_))))
                have hG437 := g_w hG430 W435 (A := v433.toInt) rfl (lo := 0) (hi := 500) rfl rfl (by omega) (by decide)
                have F438 := FR.w F431 W435 (show 77 = 77 ∧ 7 ≤ 7 ∧ 7 ≤ 10 by decide)
                refine to_rv (pc := 344) rw_156_344 ?_
                have c_439 : M436.2.1 77 7 = v433 := (W_e W435)
                have t_440 : (M436.2.1 77 7).toInt = v433.toInt := congrArg Int32.toInt c_439
                have c_441 : M436.2.1 77 6 = (N.2.1 77 6) := (W_n W435 (by decide) (W_n W428 (by decide) (W_n W422 (by decide) c_312)))
                have t_442 : (M436.2.1 77 6).toInt = (N.2.1 77 6).toInt := congrArg Int32.toInt c_441
                have c_443 : M436.2.1 77 8 = (4 : Int32) := (W_n W435 (by decide) (W_e W428))
                have k_444 : (4 : Int32).toInt = 4 := rfl
                have t_445 : (M436.2.1 77 8).toInt = (4 : Int32).toInt := congrArg Int32.toInt c_443
                exact h M436 hG437 F438 (by omega) (by omega) (by omega)
              · refine to_an (pc := 308) rw_156_308 rfl (tt_gI (pc := 309) rw_156_309 (g_o hG424 rfl) (v := v417) c_426 (to_c (pc := 312) rw_156_312 (x := (41 : Int32)) rfl rfl (b_ceq (pc := 314) rw_156_314 (A := v417.toInt) (B := 41) rfl rfl (fun h446 => ?_) (fun h446 => ?_))))
                · refine to_c (pc := 326) rw_156_326 (x := (4 : Int32)) rfl rfl (to_go (pc := 327) rw_156_327 (s_pI (pc := 331) rw_156_331 hG424 rfl (fun M448 W447 => ?_)))
                  have hG449 := g_w hG424 W447 (A := 4) rfl (lo := 0) (hi := 5) rfl rfl (by omega) (by decide)
                  have F450 := FR.w F425 W447 (show 77 = 77 ∧ 7 ≤ 8 ∧ 8 ≤ 10 by decide)
                  refine to_an (pc := 334) rw_156_334 rfl (to_dupr (pc := 335) rw_156_335 ?_)
                  have c_451 : M448.2.1 77 7 = (N.2.1 77 7) := (W_n W447 (by decide) (W_n W422 (by decide) c_311))
                  refine tt_gI (pc := 336) rw_156_336 (g_o hG449 rfl) (v := (N.2.1 77 7)) c_451 (to_c (pc := 339) rw_156_339 (x := (1 : Int32)) rfl rfl (s_add (pc := 340) rw_156_340 (A := (N.2.1 77 7).toInt) (B := 1) rfl rfl (by omega) (fun v452 e453 => s_pI (pc := 341) rw_156_341 hG449 rfl (fun M455 W454 => ?_))))
                  have hG456 := g_w hG449 W454 (A := v452.toInt) rfl (lo := 0) (hi := 500) rfl rfl (by omega) (by decide)
                  have F457 := FR.w F450 W454 (show 77 = 77 ∧ 7 ≤ 7 ∧ 7 ≤ 10 by decide)
                  refine to_rv (pc := 344) rw_156_344 ?_
                  have c_458 : M455.2.1 77 7 = v452 := (W_e W454)
                  have t_459 : (M455.2.1 77 7).toInt = v452.toInt := congrArg Int32.toInt c_458
                  have c_460 : M455.2.1 77 6 = (N.2.1 77 6) := (W_n W454 (by decide) (W_n W447 (by decide) (W_n W422 (by decide) c_312)))
                  have t_461 : (M455.2.1 77 6).toInt = (N.2.1 77 6).toInt := congrArg Int32.toInt c_460
                  have c_462 : M455.2.1 77 8 = (4 : Int32) := (W_n W454 (by decide) (W_e W447))
                  have k_463 : (4 : Int32).toInt = 4 := rfl
                  have t_464 : (M455.2.1 77 8).toInt = (4 : Int32).toInt := congrArg Int32.toInt c_462
                  exact h M455 hG456 F457 (by omega) (by omega) (by omega)
                · refine to_an (pc := 317) rw_156_317 rfl (tt_gI (pc := 318) rw_156_318 (g_o hG424 rfl) (v := v417) c_426 (to_c (pc := 321) rw_156_321 (x := (61 : Int32)) rfl rfl (b_cne_t (pc := 323) rw_156_323 (A := v417.toInt) (B := 61) rfl rfl (by omega) (to_c (pc := 330) rw_156_330 (x := (5 : Int32)) rfl rfl (s_pI (pc := 331) rw_156_331 hG424 rfl (fun M466 W465 => ?_))))))
                  have hG467 := g_w hG424 W465 (A := 5) rfl (lo := 0) (hi := 5) rfl rfl (by omega) (by decide)
                  have F468 := FR.w F425 W465 (show 77 = 77 ∧ 7 ≤ 8 ∧ 8 ≤ 10 by decide)
                  refine to_an (pc := 334) rw_156_334 rfl (to_dupr (pc := 335) rw_156_335 ?_)
                  have c_469 : M466.2.1 77 7 = (N.2.1 77 7) := (W_n W465 (by decide) (W_n W422 (by decide) c_311))
                  refine tt_gI (pc := 336) rw_156_336 (g_o hG467 rfl) (v := (N.2.1 77 7)) c_469 (to_c (pc := 339) rw_156_339 (x := (1 : Int32)) rfl rfl (s_add (pc := 340) rw_156_340 (A := (N.2.1 77 7).toInt) (B := 1) rfl rfl (by omega) (fun v470 e471 => s_pI (pc := 341) rw_156_341 hG467 rfl (fun M473 W472 => ?_))))
                  have hG474 := g_w hG467 W472 (A := v470.toInt) rfl (lo := 0) (hi := 500) rfl rfl (by omega) (by decide)
                  have F475 := FR.w F468 W472 (show 77 = 77 ∧ 7 ≤ 7 ∧ 7 ≤ 10 by decide)
                  refine to_rv (pc := 344) rw_156_344 ?_
                  have c_476 : M473.2.1 77 7 = v470 := (W_e W472)
                  have t_477 : (M473.2.1 77 7).toInt = v470.toInt := congrArg Int32.toInt c_476
                  have c_478 : M473.2.1 77 6 = (N.2.1 77 6) := (W_n W472 (by decide) (W_n W465 (by decide) (W_n W422 (by decide) c_312)))
                  have t_479 : (M473.2.1 77 6).toInt = (N.2.1 77 6).toInt := congrArg Int32.toInt c_478
                  have c_480 : M473.2.1 77 8 = (5 : Int32) := (W_n W472 (by decide) (W_e W465))
                  have k_481 : (5 : Int32).toInt = 5 := rfl
                  have t_482 : (M473.2.1 77 8).toInt = (5 : Int32).toInt := congrArg Int32.toInt c_480
                  exact h M473 hG474 F475 (by omega) (by omega) (by omega)
            · refine to_an (pc := 19) rw_155_19 rfl (s_gR (pc := 20) rw_155_20 hG309 rfl (v := 78) rfl (to_in (pc := 23) rw_155_23 rfl (s_ialk (pc := 24) rw_155_24 hG309 rfl (n := 500) rfl rfl (A := (N.2.1 77 7).toInt) rfl (by omega) (by omega) (v := v417) w_418 (to_c (pc := 25) rw_155_25 (x := (57 : Int32)) rfl rfl (b_cgt (pc := 27) rw_155_27 (A := v417.toInt) (B := 57) rfl rfl (fun h485 => ?_) (fun h485 => ?_))))))
              · refine to_c (pc := 34) rw_155_34 (x := (0 : Int32)) rfl rfl (s_r1 (pc := 35) rw_155_35 (A := 0) rfl (by decide) (b_ieq_t (pc := 199) rw_156_199 (A := 0) rfl (by decide) (to_an (pc := 276) rw_156_276 rfl (to_an (pc := 277) rw_156_277 rfl (s_gR (pc := 278) rw_156_278 hG309 rfl (v := 78) rfl (to_an (pc := 281) rw_156_281 rfl (tt_gI (pc := 282) rw_156_282 (g_o hG309 rfl) (v := (N.2.1 77 7)) c_311 (s_ialk (pc := 285) rw_156_285 hG309 rfl (n := 500) rfl rfl (A := (N.2.1 77 7).toInt) rfl (by omega) (by omega) (v := v417) w_418 (s_pI (pc := 286) rw_156_286 hG309 rfl (fun M489 W488 => ?_))))))))))
                have hG490 := g_wf hG309 W488 rfl rfl (by decide)
                have F491 := FR.w F310 W488 (show 77 = 77 ∧ 7 ≤ 9 ∧ 9 ≤ 10 by decide)
                refine to_an (pc := 289) rw_156_289 rfl (to_an (pc := 290) rw_156_290 rfl ?_)
                have c_492 : M489.2.1 77 9 = v417 := (W_e W488)
                refine tt_gI (pc := 291) rw_156_291 (g_o hG490 rfl) (v := v417) c_492 (to_c (pc := 294) rw_156_294 (x := (59 : Int32)) rfl rfl (b_ceq (pc := 296) rw_156_296 (A := v417.toInt) (B := 59) rfl rfl (fun h493 => ?_) (fun h493 => ?_)))
                · refine to_c (pc := 326) rw_156_326 (x := (4 : Int32)) rfl rfl (to_go (pc := 327) rw_156_327 (s_pI (pc := 331) rw_156_331 hG490 rfl (fun M495 W494 => ?_)))
                  have hG496 := g_w hG490 W494 (A := 4) rfl (lo := 0) (hi := 5) rfl rfl (by omega) (by decide)
                  have F497 := FR.w F491 W494 (show 77 = 77 ∧ 7 ≤ 8 ∧ 8 ≤ 10 by decide)
                  refine to_an (pc := 334) rw_156_334 rfl (to_dupr (pc := 335) rw_156_335 ?_)
                  have c_498 : M495.2.1 77 7 = (N.2.1 77 7) := (W_n W494 (by decide) (W_n W488 (by decide) c_311))
                  refine tt_gI (pc := 336) rw_156_336 (g_o hG496 rfl) (v := (N.2.1 77 7)) c_498 (to_c (pc := 339) rw_156_339 (x := (1 : Int32)) rfl rfl (s_add (pc := 340) rw_156_340 (A := (N.2.1 77 7).toInt) (B := 1) rfl rfl (by omega) (fun v499 e500 => s_pI (pc := 341) rw_156_341 hG496 rfl (fun M502 W501 => ?_))))
                  have hG503 := g_w hG496 W501 (A := v499.toInt) rfl (lo := 0) (hi := 500) rfl rfl (by omega) (by decide)
                  have F504 := FR.w F497 W501 (show 77 = 77 ∧ 7 ≤ 7 ∧ 7 ≤ 10 by decide)
                  refine to_rv (pc := 344) rw_156_344 ?_
                  have c_505 : M502.2.1 77 7 = v499 := (W_e W501)
                  have t_506 : (M502.2.1 77 7).toInt = v499.toInt := congrArg Int32.toInt c_505
                  have c_507 : M502.2.1 77 6 = (N.2.1 77 6) := (W_n W501 (by decide) (W_n W494 (by decide) (W_n W488 (by decide) c_312)))
                  have t_508 : (M502.2.1 77 6).toInt = (N.2.1 77 6).toInt := congrArg Int32.toInt c_507
                  have c_509 : M502.2.1 77 8 = (4 : Int32) := (W_n W501 (by decide) (W_e W494))
                  have k_510 : (4 : Int32).toInt = 4 := rfl
                  have t_511 : (M502.2.1 77 8).toInt = (4 : Int32).toInt := congrArg Int32.toInt c_509
                  exact h M502 hG503 F504 (by omega) (by omega) (by omega)
                · refine to_an (pc := 299) rw_156_299 rfl (tt_gI (pc := 300) rw_156_300 (g_o hG490 rfl) (v := v417) c_492 (to_c (pc := 303) rw_156_303 (x := (40 : Int32)) rfl rfl (b_ceq_f (pc := 305) rw_156_305 (A := v417.toInt) (B := 40) rfl rfl (by omega) (to_an (pc := 308) rw_156_308 rfl (tt_gI (pc := 309) rw_156_309 (g_o hG490 rfl) (v := v417) c_492 (to_c (pc := 312) rw_156_312 (x := (41 : Int32)) rfl rfl (b_ceq_f (pc := 314) rw_156_314 (A := v417.toInt) (B := 41) rfl rfl (by omega) (to_an (pc := 317) rw_156_317 rfl (tt_gI (pc := 318) rw_156_318 (g_o hG490 rfl) (v := v417) c_492 (to_c (pc := 321) rw_156_321 (x := (61 : Int32)) rfl rfl (b_cne (pc := 323) rw_156_323 (A := v417.toInt) (B := 61) rfl rfl (fun h512 => ?_) (fun h512 => ?_))))))))))))
                  · refine to_c (pc := 330) rw_156_330 (x := (5 : Int32)) rfl rfl (s_pI (pc := 331) rw_156_331 hG490 rfl (fun M514 W513 => ?_))
                    have hG515 := g_w hG490 W513 (A := 5) rfl (lo := 0) (hi := 5) rfl rfl (by omega) (by decide)
                    have F516 := FR.w F491 W513 (show 77 = 77 ∧ 7 ≤ 8 ∧ 8 ≤ 10 by decide)
                    refine to_an (pc := 334) rw_156_334 rfl (to_dupr (pc := 335) rw_156_335 ?_)
                    have c_517 : M514.2.1 77 7 = (N.2.1 77 7) := (W_n W513 (by decide) (W_n W488 (by decide) c_311))
                    refine tt_gI (pc := 336) rw_156_336 (g_o hG515 rfl) (v := (N.2.1 77 7)) c_517 (to_c (pc := 339) rw_156_339 (x := (1 : Int32)) rfl rfl (s_add (pc := 340) rw_156_340 (A := (N.2.1 77 7).toInt) (B := 1) rfl rfl (by omega) (fun v518 e519 => s_pI (pc := 341) rw_156_341 hG515 rfl (fun M521 W520 => ?_))))
                    have hG522 := g_w hG515 W520 (A := v518.toInt) rfl (lo := 0) (hi := 500) rfl rfl (by omega) (by decide)
                    have F523 := FR.w F516 W520 (show 77 = 77 ∧ 7 ≤ 7 ∧ 7 ≤ 10 by decide)
                    refine to_rv (pc := 344) rw_156_344 ?_
                    have c_524 : M521.2.1 77 7 = v518 := (W_e W520)
                    have t_525 : (M521.2.1 77 7).toInt = v518.toInt := congrArg Int32.toInt c_524
                    have c_526 : M521.2.1 77 6 = (N.2.1 77 6) := (W_n W520 (by decide) (W_n W513 (by decide) (W_n W488 (by decide) c_312)))
                    have t_527 : (M521.2.1 77 6).toInt = (N.2.1 77 6).toInt := congrArg Int32.toInt c_526
                    have c_528 : M521.2.1 77 8 = (5 : Int32) := (W_n W520 (by decide) (W_e W513))
                    have k_529 : (5 : Int32).toInt = 5 := rfl
                    have t_530 : (M521.2.1 77 8).toInt = (5 : Int32).toInt := congrArg Int32.toInt c_528
                    exact h M521 hG522 F523 (by omega) (by omega) (by omega)
                  · refine to_c (pc := 326) rw_156_326 (x := (4 : Int32)) rfl rfl (to_go (pc := 327) rw_156_327 (s_pI (pc := 331) rw_156_331 hG490 rfl (fun M532 W531 => ?_)))
                    have hG533 := g_w hG490 W531 (A := 4) rfl (lo := 0) (hi := 5) rfl rfl (by omega) (by decide)
                    have F534 := FR.w F491 W531 (show 77 = 77 ∧ 7 ≤ 8 ∧ 8 ≤ 10 by decide)
                    refine to_an (pc := 334) rw_156_334 rfl (to_dupr (pc := 335) rw_156_335 ?_)
                    have c_535 : M532.2.1 77 7 = (N.2.1 77 7) := (W_n W531 (by decide) (W_n W488 (by decide) c_311))
                    refine tt_gI (pc := 336) rw_156_336 (g_o hG533 rfl) (v := (N.2.1 77 7)) c_535 (to_c (pc := 339) rw_156_339 (x := (1 : Int32)) rfl rfl (s_add (pc := 340) rw_156_340 (A := (N.2.1 77 7).toInt) (B := 1) rfl rfl (by omega) (fun v536 e537 => s_pI (pc := 341) rw_156_341 hG533 rfl (fun M539 W538 => ?_))))
                    have hG540 := g_w hG533 W538 (A := v536.toInt) rfl (lo := 0) (hi := 500) rfl rfl (by omega) (by decide)
                    have F541 := FR.w F534 W538 (show 77 = 77 ∧ 7 ≤ 7 ∧ 7 ≤ 10 by decide)
                    refine to_rv (pc := 344) rw_156_344 ?_
                    have c_542 : M539.2.1 77 7 = v536 := (W_e W538)
                    have t_543 : (M539.2.1 77 7).toInt = v536.toInt := congrArg Int32.toInt c_542
                    have c_544 : M539.2.1 77 6 = (N.2.1 77 6) := (W_n W538 (by decide) (W_n W531 (by decide) (W_n W488 (by decide) c_312)))
                    have t_545 : (M539.2.1 77 6).toInt = (N.2.1 77 6).toInt := congrArg Int32.toInt c_544
                    have c_546 : M539.2.1 77 8 = (4 : Int32) := (W_n W538 (by decide) (W_e W531))
                    have k_547 : (4 : Int32).toInt = 4 := rfl
                    have t_548 : (M539.2.1 77 8).toInt = (4 : Int32).toInt := congrArg Int32.toInt c_546
                    exact h M539 hG540 F541 (by omega) (by omega) (by omega)
              · refine to_c (pc := 30) rw_155_30 (x := (1 : Int32)) rfl rfl (to_go (pc := 31) rw_155_31 (s_r1 (pc := 35) rw_155_35 (A := 1) rfl (by decide) (b_ieq_f (pc := 199) rw_156_199 (A := 1) rfl (by decide) (to_an (pc := 202) rw_156_202 rfl (to_c (pc := 203) rw_156_203 (x := (3 : Int32)) rfl rfl (s_pI (pc := 204) rw_156_204 hG309 rfl (fun M550 W549 => ?_)))))))
                have hG551 := g_w hG309 W549 (A := 3) rfl (lo := 0) (hi := 5) rfl rfl (by omega) (by decide)
                have F552 := FR.w F310 W549 (show 77 = 77 ∧ 7 ≤ 8 ∧ 8 ≤ 10 by decide)
                refine to_an (pc := 207) rw_156_207 rfl (to_c (pc := 208) rw_156_208 (x := (0 : Int32)) rfl rfl (s_pI (pc := 209) rw_156_209 hG551 rfl (fun M554 W553 => ?_)))
                have hG555 := g_wf hG551 W553 rfl rfl (by decide)
                have F556 := FR.w F552 W553 (show 77 = 77 ∧ 7 ≤ 9 ∧ 9 ≤ 10 by decide)
                refine to_an (pc := 212) rw_156_212 rfl (to_an (pc := 213) rw_156_213 rfl ?_)
                have c_557 : M554.2.1 77 7 = (N.2.1 77 7) := (W_n W553 (by decide) (W_n W549 (by decide) c_311))
                refine tt_gI (pc := 214) rw_156_214 (g_o hG555 rfl) (v := (N.2.1 77 7)) c_557 (s_v (pc := 217) rw_156_217 (dp0 hd (by decide)) (ls0 := [.ref 77, .int (N.2.1 77 7)]) rfl (Nat.le_of_ble_eq_true rfl) (Nat.le_of_ble_eq_true rfl) rfl (to_rc rfl rfl rfl (g_o hG555 rfl)) rfl (to_in (pc := 0) rw_155_0 rfl (to_an (pc := 1) rw_155_1 rfl ?_)))
                have c_558 : M554.2.1 77 6 = (N.2.1 77 6) := (W_n W553 (by decide) (W_n W549 (by decide) c_312))
                refine tt_gI (pc := 2) rw_155_2 (g_o hG555 rfl) (v := (N.2.1 77 6)) c_558 (b_cge (pc := 5) rw_155_5 (A := (N.2.1 77 7).toInt) (B := (N.2.1 77 6).toInt) rfl rfl (fun h559 => ?_) (fun h559 => ?_))
                · refine to_c (pc := 34) rw_155_34 (x := (0 : Int32)) rfl rfl (s_r1 (pc := 35) rw_155_35 (A := 0) rfl (by decide) (b_ieq_t (pc := 220) rw_156_220 (A := 0) rfl (by decide) (to_rv (pc := 344) rw_156_344 ?_)))
                  have t_560 : (M554.2.1 77 7).toInt = (N.2.1 77 7).toInt := congrArg Int32.toInt c_557
                  have t_561 : (M554.2.1 77 6).toInt = (N.2.1 77 6).toInt := congrArg Int32.toInt c_558
                  have c_562 : M554.2.1 77 8 = (3 : Int32) := (W_n W553 (by decide) (W_e W549))
                  have k_563 : (3 : Int32).toInt = 3 := rfl
                  have t_564 : (M554.2.1 77 8).toInt = (3 : Int32).toInt := congrArg Int32.toInt c_562
                  exact h M554 hG555 F556 (by omega) (by omega) (by omega)
                · refine to_an (pc := 8) rw_155_8 rfl (s_gR (pc := 9) rw_155_9 hG555 rfl (v := 78) rfl (to_in (pc := 12) rw_155_12 rfl (s_ialk (pc := 13) rw_155_13 hG555 rfl (n := 500) rfl rfl (A := (N.2.1 77 7).toInt) rfl (by omega) (by omega) (v := v417) (W_n W553 (by omega) (W_n W549 (by omega) w_418)) (to_c (pc := 14) rw_155_14 (x := (48 : Int32)) rfl rfl (b_clt_f (pc := 16) rw_155_16 (A := v417.toInt) (B := 48) rfl rfl (by omega) (to_an (pc := 19) rw_155_19 rfl (s_gR (pc := 20) rw_155_20 hG555 rfl (v := 78) rfl (to_in (pc := 23) rw_155_23 rfl (s_ialk (pc := 24) rw_155_24 hG555 rfl (n := 500) rfl rfl (A := (N.2.1 77 7).toInt) rfl (by omega) (by omega) (v := v417) (W_n W553 (by omega) (W_n W549 (by omega) w_418)) (to_c (pc := 25) rw_155_25 (x := (57 : Int32)) rfl rfl (b_cgt_f (pc := 27) rw_155_27 (A := v417.toInt) (B := 57) rfl rfl (by omega) ?_)))))))))))
                  refine to_c (pc := 30) rw_155_30 (x := (1 : Int32)) rfl rfl (to_go (pc := 31) rw_155_31 (s_r1 (pc := 35) rw_155_35 (A := 1) rfl (by decide) (b_ieq_f (pc := 220) rw_156_220 (A := 1) rfl (by decide) ?_)))
                  have t_569 : (M554.2.1 77 7).toInt = (N.2.1 77 7).toInt := congrArg Int32.toInt c_557
                  have t_570 : (M554.2.1 77 6).toInt = (N.2.1 77 6).toInt := congrArg Int32.toInt c_558
                  have c_571 : M554.2.1 77 10 = (N.2.1 77 7) := (W_n W553 (by decide) (W_n W549 (by decide) (W_e W307)))
                  have t_572 : (M554.2.1 77 10).toInt = (N.2.1 77 7).toInt := congrArg Int32.toInt c_571
                  exact (T_156_0 hX hd q1 h ((500 - (M554.2.1 77 7).toInt).toNat + 1)) M554  hG555 F556 (by omega) (by omega) (by omega) (by omega)
        · refine to_an (pc := 8) rw_154_8 rfl (s_gR (pc := 9) rw_154_9 hG309 rfl (v := 78) rfl (to_in (pc := 12) rw_154_12 rfl (s_ial (pc := 13) rw_154_13 hG309 rfl (n := 500) rfl rfl (A := (N.2.1 77 7).toInt) rfl (by omega) (by omega) (lo := 0) (hi := 255) rfl rfl (fun v573 w_574 _ _ => to_c (pc := 14) rw_154_14 (x := (97 : Int32)) rfl rfl (b_clt (pc := 16) rw_154_16 (A := v573.toInt) (B := 97) rfl rfl (fun h575 => ?_) (fun h575 => ?_))))))
          · refine to_c (pc := 34) rw_154_34 (x := (0 : Int32)) rfl rfl (s_r1 (pc := 35) rw_154_35 (A := 0) rfl (by decide) (b_ieq_t (pc := 87) rw_156_87 (A := 0) rfl (by decide) (to_an (pc := 191) rw_156_191 rfl (to_an (pc := 192) rw_156_192 rfl (tt_gI (pc := 193) rw_156_193 (g_o hG309 rfl) (v := (N.2.1 77 7)) c_311 (s_v (pc := 196) rw_156_196 (dp0 hd (by decide)) (ls0 := [.ref 77, .int (N.2.1 77 7)]) rfl (Nat.le_of_ble_eq_true rfl) (Nat.le_of_ble_eq_true rfl) rfl (to_rc rfl rfl rfl (g_o hG309 rfl)) rfl (to_in (pc := 0) rw_155_0 rfl (to_an (pc := 1) rw_155_1 rfl (tt_gI (pc := 2) rw_155_2 (g_o hG309 rfl) (v := (N.2.1 77 6)) c_312 (b_cge (pc := 5) rw_155_5 (A := (N.2.1 77 7).toInt) (B := (N.2.1 77 6).toInt) rfl rfl (fun h576 => ?_) (fun h576 => ?_)))))))))))
            · refine to_c (pc := 34) rw_155_34 (x := (0 : Int32)) rfl rfl (s_r1 (pc := 35) rw_155_35 (A := 0) rfl (by decide) (b_ieq_t (pc := 199) rw_156_199 (A := 0) rfl (by decide) (to_an (pc := 276) rw_156_276 rfl (to_an (pc := 277) rw_156_277 rfl (s_gR (pc := 278) rw_156_278 hG309 rfl (v := 78) rfl (to_an (pc := 281) rw_156_281 rfl (tt_gI (pc := 282) rw_156_282 (g_o hG309 rfl) (v := (N.2.1 77 7)) c_311 (s_ialk (pc := 285) rw_156_285 hG309 rfl (n := 500) rfl rfl (A := (N.2.1 77 7).toInt) rfl (by omega) (by omega) (v := v573) w_574 (s_pI (pc := 286) rw_156_286 hG309 rfl (fun M580 W579 => ?_))))))))))
              have hG581 := g_wf hG309 W579 rfl rfl (by decide)
              have F582 := FR.w F310 W579 (show 77 = 77 ∧ 7 ≤ 9 ∧ 9 ≤ 10 by decide)
              refine to_an (pc := 289) rw_156_289 rfl (to_an (pc := 290) rw_156_290 rfl ?_)
              have c_583 : M580.2.1 77 9 = v573 := (W_e W579)
              refine tt_gI (pc := 291) rw_156_291 (g_o hG581 rfl) (v := v573) c_583 (to_c (pc := 294) rw_156_294 (x := (59 : Int32)) rfl rfl (b_ceq (pc := 296) rw_156_296 (A := v573.toInt) (B := 59) rfl rfl (fun h584 => ?_) (fun h584 => ?_)))
              · refine to_c (pc := 326) rw_156_326 (x := (4 : Int32)) rfl rfl (to_go (pc := 327) rw_156_327 (s_pI (pc := 331) rw_156_331 hG581 rfl (fun M586 W585 => ?_)))
                have hG587 := g_w hG581 W585 (A := 4) rfl (lo := 0) (hi := 5) rfl rfl (by omega) (by decide)
                have F588 := FR.w F582 W585 (show 77 = 77 ∧ 7 ≤ 8 ∧ 8 ≤ 10 by decide)
                refine to_an (pc := 334) rw_156_334 rfl (to_dupr (pc := 335) rw_156_335 ?_)
                have c_589 : M586.2.1 77 7 = (N.2.1 77 7) := (W_n W585 (by decide) (W_n W579 (by decide) c_311))
                refine tt_gI (pc := 336) rw_156_336 (g_o hG587 rfl) (v := (N.2.1 77 7)) c_589 (to_c (pc := 339) rw_156_339 (x := (1 : Int32)) rfl rfl (s_add (pc := 340) rw_156_340 (A := (N.2.1 77 7).toInt) (B := 1) rfl rfl (by omega) (fun v590 e591 => s_pI (pc := 341) rw_156_341 hG587 rfl (fun M593 W592 => ?_))))
                have hG594 := g_w hG587 W592 (A := v590.toInt) rfl (lo := 0) (hi := 500) rfl rfl (by omega) (by decide)
                have F595 := FR.w F588 W592 (show 77 = 77 ∧ 7 ≤ 7 ∧ 7 ≤ 10 by decide)
                refine to_rv (pc := 344) rw_156_344 ?_
                have c_596 : M593.2.1 77 7 = v590 := (W_e W592)
                have t_597 : (M593.2.1 77 7).toInt = v590.toInt := congrArg Int32.toInt c_596
                have c_598 : M593.2.1 77 6 = (N.2.1 77 6) := (W_n W592 (by decide) (W_n W585 (by decide) (W_n W579 (by decide) c_312)))
                have t_599 : (M593.2.1 77 6).toInt = (N.2.1 77 6).toInt := congrArg Int32.toInt c_598
                have c_600 : M593.2.1 77 8 = (4 : Int32) := (W_n W592 (by decide) (W_e W585))
                have k_601 : (4 : Int32).toInt = 4 := rfl
                have t_602 : (M593.2.1 77 8).toInt = (4 : Int32).toInt := congrArg Int32.toInt c_600
                exact h M593 hG594 F595 (by omega) (by omega) (by omega)
              · refine to_an (pc := 299) rw_156_299 rfl (tt_gI (pc := 300) rw_156_300 (g_o hG581 rfl) (v := v573) c_583 (to_c (pc := 303) rw_156_303 (x := (40 : Int32)) rfl rfl (b_ceq (pc := 305) rw_156_305 (A := v573.toInt) (B := 40) rfl rfl (fun h603 => ?_) (fun h603 => ?_))))
                · refine to_c (pc := 326) rw_156_326 (x := (4 : Int32)) rfl rfl (to_go (pc := 327) rw_156_327 (s_pI (pc := 331) rw_156_331 hG581 rfl (fun M605 W604 => ?_)))
                  have hG606 := g_w hG581 W604 (A := 4) rfl (lo := 0) (hi := 5) rfl rfl (by omega) (by decide)
                  have F607 := FR.w F582 W604 (show 77 = 77 ∧ 7 ≤ 8 ∧ 8 ≤ 10 by decide)
                  refine to_an (pc := 334) rw_156_334 rfl (to_dupr (pc := 335) rw_156_335 ?_)
                  have c_608 : M605.2.1 77 7 = (N.2.1 77 7) := (W_n W604 (by decide) (W_n W579 (by decide) c_311))
                  refine tt_gI (pc := 336) rw_156_336 (g_o hG606 rfl) (v := (N.2.1 77 7)) c_608 (to_c (pc := 339) rw_156_339 (x := (1 : Int32)) rfl rfl (s_add (pc := 340) rw_156_340 (A := (N.2.1 77 7).toInt) (B := 1) rfl rfl (by omega) (fun v609 e610 => s_pI (pc := 341) rw_156_341 hG606 rfl (fun M612 W611 => ?_))))
                  have hG613 := g_w hG606 W611 (A := v609.toInt) rfl (lo := 0) (hi := 500) rfl rfl (by omega) (by decide)
                  have F614 := FR.w F607 W611 (show 77 = 77 ∧ 7 ≤ 7 ∧ 7 ≤ 10 by decide)
                  refine to_rv (pc := 344) rw_156_344 ?_
                  have c_615 : M612.2.1 77 7 = v609 := (W_e W611)
                  have t_616 : (M612.2.1 77 7).toInt = v609.toInt := congrArg Int32.toInt c_615
                  have c_617 : M612.2.1 77 6 = (N.2.1 77 6) := (W_n W611 (by decide) (W_n W604 (by decide) (W_n W579 (by decide) c_312)))
                  have t_618 : (M612.2.1 77 6).toInt = (N.2.1 77 6).toInt := congrArg Int32.toInt c_617
                  have c_619 : M612.2.1 77 8 = (4 : Int32) := (W_n W611 (by decide) (W_e W604))
                  have k_620 : (4 : Int32).toInt = 4 := rfl
                  have t_621 : (M612.2.1 77 8).toInt = (4 : Int32).toInt := congrArg Int32.toInt c_619
                  exact h M612 hG613 F614 (by omega) (by omega) (by omega)
                · refine to_an (pc := 308) rw_156_308 rfl (tt_gI (pc := 309) rw_156_309 (g_o hG581 rfl) (v := v573) c_583 (to_c (pc := 312) rw_156_312 (x := (41 : Int32)) rfl rfl (b_ceq (pc := 314) rw_156_314 (A := v573.toInt) (B := 41) rfl rfl (fun h622 => ?_) (fun h622 => ?_))))
                  · refine to_c (pc := 326) rw_156_326 (x := (4 : Int32)) rfl rfl (to_go (pc := 327) rw_156_327 (s_pI (pc := 331) rw_156_331 hG581 rfl (fun M624 W623 => ?_)))
                    have hG625 := g_w hG581 W623 (A := 4) rfl (lo := 0) (hi := 5) rfl rfl (by omega) (by decide)
                    have F626 := FR.w F582 W623 (show 77 = 77 ∧ 7 ≤ 8 ∧ 8 ≤ 10 by decide)
                    refine to_an (pc := 334) rw_156_334 rfl (to_dupr (pc := 335) rw_156_335 ?_)
                    have c_627 : M624.2.1 77 7 = (N.2.1 77 7) := (W_n W623 (by decide) (W_n W579 (by decide) c_311))
                    refine tt_gI (pc := 336) rw_156_336 (g_o hG625 rfl) (v := (N.2.1 77 7)) c_627 (to_c (pc := 339) rw_156_339 (x := (1 : Int32)) rfl rfl (s_add (pc := 340) rw_156_340 (A := (N.2.1 77 7).toInt) (B := 1) rfl rfl (by omega) (fun v628 e629 => s_pI (pc := 341) rw_156_341 hG625 rfl (fun M631 W630 => ?_))))
                    have hG632 := g_w hG625 W630 (A := v628.toInt) rfl (lo := 0) (hi := 500) rfl rfl (by omega) (by decide)
                    have F633 := FR.w F626 W630 (show 77 = 77 ∧ 7 ≤ 7 ∧ 7 ≤ 10 by decide)
                    refine to_rv (pc := 344) rw_156_344 ?_
                    have c_634 : M631.2.1 77 7 = v628 := (W_e W630)
                    have t_635 : (M631.2.1 77 7).toInt = v628.toInt := congrArg Int32.toInt c_634
                    have c_636 : M631.2.1 77 6 = (N.2.1 77 6) := (W_n W630 (by decide) (W_n W623 (by decide) (W_n W579 (by decide) c_312)))
                    have t_637 : (M631.2.1 77 6).toInt = (N.2.1 77 6).toInt := congrArg Int32.toInt c_636
                    have c_638 : M631.2.1 77 8 = (4 : Int32) := (W_n W630 (by decide) (W_e W623))
                    have k_639 : (4 : Int32).toInt = 4 := rfl
                    have t_640 : (M631.2.1 77 8).toInt = (4 : Int32).toInt := congrArg Int32.toInt c_638
                    exact h M631 hG632 F633 (by omega) (by omega) (by omega)
                  · refine to_an (pc := 317) rw_156_317 rfl (tt_gI (pc := 318) rw_156_318 (g_o hG581 rfl) (v := v573) c_583 (to_c (pc := 321) rw_156_321 (x := (61 : Int32)) rfl rfl (b_cne (pc := 323) rw_156_323 (A := v573.toInt) (B := 61) rfl rfl (fun h641 => ?_) (fun h641 => ?_))))
                    · refine to_c (pc := 330) rw_156_330 (x := (5 : Int32)) rfl rfl (s_pI (pc := 331) rw_156_331 hG581 rfl (fun M643 W642 => ?_))
                      have hG644 := g_w hG581 W642 (A := 5) rfl (lo := 0) (hi := 5) rfl rfl (by omega) (by decide)
                      have F645 := FR.w F582 W642 (show 77 = 77 ∧ 7 ≤ 8 ∧ 8 ≤ 10 by decide)
                      refine to_an (pc := 334) rw_156_334 rfl (to_dupr (pc := 335) rw_156_335 ?_)
                      have c_646 : M643.2.1 77 7 = (N.2.1 77 7) := (W_n W642 (by decide) (W_n W579 (by decide) c_311))
                      refine tt_gI (pc := 336) rw_156_336 (g_o hG644 rfl) (v := (N.2.1 77 7)) c_646 (to_c (pc := 339) rw_156_339 (x := (1 : Int32)) rfl rfl (s_add (pc := 340) rw_156_340 (A := (N.2.1 77 7).toInt) (B := 1) rfl rfl (by omega) (fun v647 e648 => s_pI (pc := 341) rw_156_341 hG644 rfl (fun M650 W649 => ?_))))
                      have hG651 := g_w hG644 W649 (A := v647.toInt) rfl (lo := 0) (hi := 500) rfl rfl (by omega) (by decide)
                      have F652 := FR.w F645 W649 (show 77 = 77 ∧ 7 ≤ 7 ∧ 7 ≤ 10 by decide)
                      refine to_rv (pc := 344) rw_156_344 ?_
                      have c_653 : M650.2.1 77 7 = v647 := (W_e W649)
                      have t_654 : (M650.2.1 77 7).toInt = v647.toInt := congrArg Int32.toInt c_653
                      have c_655 : M650.2.1 77 6 = (N.2.1 77 6) := (W_n W649 (by decide) (W_n W642 (by decide) (W_n W579 (by decide) c_312)))
                      have t_656 : (M650.2.1 77 6).toInt = (N.2.1 77 6).toInt := congrArg Int32.toInt c_655
                      have c_657 : M650.2.1 77 8 = (5 : Int32) := (W_n W649 (by decide) (W_e W642))
                      have k_658 : (5 : Int32).toInt = 5 := rfl
                      have t_659 : (M650.2.1 77 8).toInt = (5 : Int32).toInt := congrArg Int32.toInt c_657
                      exact h M650 hG651 F652 (by omega) (by omega) (by omega)
                    · refine to_c (pc := 326) rw_156_326 (x := (4 : Int32)) rfl rfl (to_go (pc := 327) rw_156_327 (s_pI (pc := 331) rw_156_331 hG581 rfl (fun M661 W660 => ?_)))
                      have hG662 := g_w hG581 W660 (A := 4) rfl (lo := 0) (hi := 5) rfl rfl (by omega) (by decide)
                      have F663 := FR.w F582 W660 (show 77 = 77 ∧ 7 ≤ 8 ∧ 8 ≤ 10 by decide)
                      refine to_an (pc := 334) rw_156_334 rfl (to_dupr (pc := 335) rw_156_335 ?_)
                      have c_664 : M661.2.1 77 7 = (N.2.1 77 7) := (W_n W660 (by decide) (W_n W579 (by decide) c_311))
                      refine tt_gI (pc := 336) rw_156_336 (g_o hG662 rfl) (v := (N.2.1 77 7)) c_664 (to_c (pc := 339) rw_156_339 (x := (1 : Int32)) rfl rfl (s_add (pc := 340) rw_156_340 (A := (N.2.1 77 7).toInt) (B := 1) rfl rfl (by omega) (fun v665 e666 => s_pI (pc := 341) rw_156_341 hG662 rfl (fun M668 W667 => ?_))))
                      have hG669 := g_w hG662 W667 (A := v665.toInt) rfl (lo := 0) (hi := 500) rfl rfl (by omega) (by decide)
                      have F670 := FR.w F663 W667 (show 77 = 77 ∧ 7 ≤ 7 ∧ 7 ≤ 10 by decide)
                      refine to_rv (pc := 344) rw_156_344 ?_
                      have c_671 : M668.2.1 77 7 = v665 := (W_e W667)
                      have t_672 : (M668.2.1 77 7).toInt = v665.toInt := congrArg Int32.toInt c_671
                      have c_673 : M668.2.1 77 6 = (N.2.1 77 6) := (W_n W667 (by decide) (W_n W660 (by decide) (W_n W579 (by decide) c_312)))
                      have t_674 : (M668.2.1 77 6).toInt = (N.2.1 77 6).toInt := congrArg Int32.toInt c_673
                      have c_675 : M668.2.1 77 8 = (4 : Int32) := (W_n W667 (by decide) (W_e W660))
                      have k_676 : (4 : Int32).toInt = 4 := rfl
                      have t_677 : (M668.2.1 77 8).toInt = (4 : Int32).toInt := congrArg Int32.toInt c_675
                      exact h M668 hG669 F670 (by omega) (by omega) (by omega)
            · refine to_an (pc := 8) rw_155_8 rfl (s_gR (pc := 9) rw_155_9 hG309 rfl (v := 78) rfl (to_in (pc := 12) rw_155_12 rfl (s_ialk (pc := 13) rw_155_13 hG309 rfl (n := 500) rfl rfl (A := (N.2.1 77 7).toInt) rfl (by omega) (by omega) (v := v573) w_574 (to_c (pc := 14) rw_155_14 (x := (48 : Int32)) rfl rfl (b_clt (pc := 16) rw_155_16 (A := v573.toInt) (B := 48) rfl rfl (fun h680 => ?_) (fun h680 => ?_))))))
              · refine to_c (pc := 34) rw_155_34 (x := (0 : Int32)) rfl rfl (s_r1 (pc := 35) rw_155_35 (A := 0) rfl (by decide) (b_ieq_t (pc := 199) rw_156_199 (A := 0) rfl (by decide) (to_an (pc := 276) rw_156_276 rfl (to_an (pc := 277) rw_156_277 rfl (s_gR (pc := 278) rw_156_278 hG309 rfl (v := 78) rfl (to_an (pc := 281) rw_156_281 rfl (tt_gI (pc := 282) rw_156_282 (g_o hG309 rfl) (v := (N.2.1 77 7)) c_311 (s_ialk (pc := 285) rw_156_285 hG309 rfl (n := 500) rfl rfl (A := (N.2.1 77 7).toInt) rfl (by omega) (by omega) (v := v573) w_574 (s_pI (pc := 286) rw_156_286 hG309 rfl (fun M684 W683 => ?_))))))))))
                have hG685 := g_wf hG309 W683 rfl rfl (by decide)
                have F686 := FR.w F310 W683 (show 77 = 77 ∧ 7 ≤ 9 ∧ 9 ≤ 10 by decide)
                refine to_an (pc := 289) rw_156_289 rfl (to_an (pc := 290) rw_156_290 rfl ?_)
                have c_687 : M684.2.1 77 9 = v573 := (W_e W683)
                refine tt_gI (pc := 291) rw_156_291 (g_o hG685 rfl) (v := v573) c_687 (to_c (pc := 294) rw_156_294 (x := (59 : Int32)) rfl rfl (b_ceq_f (pc := 296) rw_156_296 (A := v573.toInt) (B := 59) rfl rfl (by omega) (to_an (pc := 299) rw_156_299 rfl (tt_gI (pc := 300) rw_156_300 (g_o hG685 rfl) (v := v573) c_687 (to_c (pc := 303) rw_156_303 (x := (40 : Int32)) rfl rfl (b_ceq (pc := 305) rw_156_305 (A := v573.toInt) (B := 40) rfl rfl (fun h688 => ?_) (fun h688 => ?_)))))))
                · refine to_c (pc := 326) rw_156_326 (x := (4 : Int32)) rfl rfl (to_go (pc := 327) rw_156_327 (s_pI (pc := 331) rw_156_331 hG685 rfl (fun M690 W689 => ?_)))
                  have hG691 := g_w hG685 W689 (A := 4) rfl (lo := 0) (hi := 5) rfl rfl (by omega) (by decide)
                  have F692 := FR.w F686 W689 (show 77 = 77 ∧ 7 ≤ 8 ∧ 8 ≤ 10 by decide)
                  refine to_an (pc := 334) rw_156_334 rfl (to_dupr (pc := 335) rw_156_335 ?_)
                  have c_693 : M690.2.1 77 7 = (N.2.1 77 7) := (W_n W689 (by decide) (W_n W683 (by decide) c_311))
                  refine tt_gI (pc := 336) rw_156_336 (g_o hG691 rfl) (v := (N.2.1 77 7)) c_693 (to_c (pc := 339) rw_156_339 (x := (1 : Int32)) rfl rfl (s_add (pc := 340) rw_156_340 (A := (N.2.1 77 7).toInt) (B := 1) rfl rfl (by omega) (fun v694 e695 => s_pI (pc := 341) rw_156_341 hG691 rfl (fun M697 W696 => ?_))))
                  have hG698 := g_w hG691 W696 (A := v694.toInt) rfl (lo := 0) (hi := 500) rfl rfl (by omega) (by decide)
                  have F699 := FR.w F692 W696 (show 77 = 77 ∧ 7 ≤ 7 ∧ 7 ≤ 10 by decide)
                  refine to_rv (pc := 344) rw_156_344 ?_
                  have c_700 : M697.2.1 77 7 = v694 := (W_e W696)
                  have t_701 : (M697.2.1 77 7).toInt = v694.toInt := congrArg Int32.toInt c_700
                  have c_702 : M697.2.1 77 6 = (N.2.1 77 6) := (W_n W696 (by decide) (W_n W689 (by decide) (W_n W683 (by decide) c_312)))
                  have t_703 : (M697.2.1 77 6).toInt = (N.2.1 77 6).toInt := congrArg Int32.toInt c_702
                  have c_704 : M697.2.1 77 8 = (4 : Int32) := (W_n W696 (by decide) (W_e W689))
                  have k_705 : (4 : Int32).toInt = 4 := rfl
                  have t_706 : (M697.2.1 77 8).toInt = (4 : Int32).toInt := congrArg Int32.toInt c_704
                  exact h M697 hG698 F699 (by omega) (by omega) (by omega)
                · refine to_an (pc := 308) rw_156_308 rfl (tt_gI (pc := 309) rw_156_309 (g_o hG685 rfl) (v := v573) c_687 (to_c (pc := 312) rw_156_312 (x := (41 : Int32)) rfl rfl (b_ceq (pc := 314) rw_156_314 (A := v573.toInt) (B := 41) rfl rfl (fun h707 => ?_) (fun h707 => ?_))))
                  · refine to_c (pc := 326) rw_156_326 (x := (4 : Int32)) rfl rfl (to_go (pc := 327) rw_156_327 (s_pI (pc := 331) rw_156_331 hG685 rfl (fun M709 W708 => ?_)))
                    have hG710 := g_w hG685 W708 (A := 4) rfl (lo := 0) (hi := 5) rfl rfl (by omega) (by decide)
                    have F711 := FR.w F686 W708 (show 77 = 77 ∧ 7 ≤ 8 ∧ 8 ≤ 10 by decide)
                    refine to_an (pc := 334) rw_156_334 rfl (to_dupr (pc := 335) rw_156_335 ?_)
                    have c_712 : M709.2.1 77 7 = (N.2.1 77 7) := (W_n W708 (by decide) (W_n W683 (by decide) c_311))
                    refine tt_gI (pc := 336) rw_156_336 (g_o hG710 rfl) (v := (N.2.1 77 7)) c_712 (to_c (pc := 339) rw_156_339 (x := (1 : Int32)) rfl rfl (s_add (pc := 340) rw_156_340 (A := (N.2.1 77 7).toInt) (B := 1) rfl rfl (by omega) (fun v713 e714 => s_pI (pc := 341) rw_156_341 hG710 rfl (fun M716 W715 => ?_))))
                    have hG717 := g_w hG710 W715 (A := v713.toInt) rfl (lo := 0) (hi := 500) rfl rfl (by omega) (by decide)
                    have F718 := FR.w F711 W715 (show 77 = 77 ∧ 7 ≤ 7 ∧ 7 ≤ 10 by decide)
                    refine to_rv (pc := 344) rw_156_344 ?_
                    have c_719 : M716.2.1 77 7 = v713 := (W_e W715)
                    have t_720 : (M716.2.1 77 7).toInt = v713.toInt := congrArg Int32.toInt c_719
                    have c_721 : M716.2.1 77 6 = (N.2.1 77 6) := (W_n W715 (by decide) (W_n W708 (by decide) (W_n W683 (by decide) c_312)))
                    have t_722 : (M716.2.1 77 6).toInt = (N.2.1 77 6).toInt := congrArg Int32.toInt c_721
                    have c_723 : M716.2.1 77 8 = (4 : Int32) := (W_n W715 (by decide) (W_e W708))
                    have k_724 : (4 : Int32).toInt = 4 := rfl
                    have t_725 : (M716.2.1 77 8).toInt = (4 : Int32).toInt := congrArg Int32.toInt c_723
                    exact h M716 hG717 F718 (by omega) (by omega) (by omega)
                  · refine to_an (pc := 317) rw_156_317 rfl (tt_gI (pc := 318) rw_156_318 (g_o hG685 rfl) (v := v573) c_687 (to_c (pc := 321) rw_156_321 (x := (61 : Int32)) rfl rfl (b_cne_t (pc := 323) rw_156_323 (A := v573.toInt) (B := 61) rfl rfl (by omega) (to_c (pc := 330) rw_156_330 (x := (5 : Int32)) rfl rfl (s_pI (pc := 331) rw_156_331 hG685 rfl (fun M727 W726 => ?_))))))
                    have hG728 := g_w hG685 W726 (A := 5) rfl (lo := 0) (hi := 5) rfl rfl (by omega) (by decide)
                    have F729 := FR.w F686 W726 (show 77 = 77 ∧ 7 ≤ 8 ∧ 8 ≤ 10 by decide)
                    refine to_an (pc := 334) rw_156_334 rfl (to_dupr (pc := 335) rw_156_335 ?_)
                    have c_730 : M727.2.1 77 7 = (N.2.1 77 7) := (W_n W726 (by decide) (W_n W683 (by decide) c_311))
                    refine tt_gI (pc := 336) rw_156_336 (g_o hG728 rfl) (v := (N.2.1 77 7)) c_730 (to_c (pc := 339) rw_156_339 (x := (1 : Int32)) rfl rfl (s_add (pc := 340) rw_156_340 (A := (N.2.1 77 7).toInt) (B := 1) rfl rfl (by omega) (fun v731 e732 => s_pI (pc := 341) rw_156_341 hG728 rfl (fun M734 W733 => ?_))))
                    have hG735 := g_w hG728 W733 (A := v731.toInt) rfl (lo := 0) (hi := 500) rfl rfl (by omega) (by decide)
                    have F736 := FR.w F729 W733 (show 77 = 77 ∧ 7 ≤ 7 ∧ 7 ≤ 10 by decide)
                    refine to_rv (pc := 344) rw_156_344 ?_
                    have c_737 : M734.2.1 77 7 = v731 := (W_e W733)
                    have t_738 : (M734.2.1 77 7).toInt = v731.toInt := congrArg Int32.toInt c_737
                    have c_739 : M734.2.1 77 6 = (N.2.1 77 6) := (W_n W733 (by decide) (W_n W726 (by decide) (W_n W683 (by decide) c_312)))
                    have t_740 : (M734.2.1 77 6).toInt = (N.2.1 77 6).toInt := congrArg Int32.toInt c_739
                    have c_741 : M734.2.1 77 8 = (5 : Int32) := (W_n W733 (by decide) (W_e W726))
                    have k_742 : (5 : Int32).toInt = 5 := rfl
                    have t_743 : (M734.2.1 77 8).toInt = (5 : Int32).toInt := congrArg Int32.toInt c_741
                    exact h M734 hG735 F736 (by omega) (by omega) (by omega)
              · refine to_an (pc := 19) rw_155_19 rfl (s_gR (pc := 20) rw_155_20 hG309 rfl (v := 78) rfl (to_in (pc := 23) rw_155_23 rfl (s_ialk (pc := 24) rw_155_24 hG309 rfl (n := 500) rfl rfl (A := (N.2.1 77 7).toInt) rfl (by omega) (by omega) (v := v573) w_574 (to_c (pc := 25) rw_155_25 (x := (57 : Int32)) rfl rfl (b_cgt (pc := 27) rw_155_27 (A := v573.toInt) (B := 57) rfl rfl (fun h746 => ?_) (fun h746 => ?_))))))
                · refine to_c (pc := 34) rw_155_34 (x := (0 : Int32)) rfl rfl (s_r1 (pc := 35) rw_155_35 (A := 0) rfl (by decide) (b_ieq_t (pc := 199) rw_156_199 (A := 0) rfl (by decide) (to_an (pc := 276) rw_156_276 rfl (to_an (pc := 277) rw_156_277 rfl (s_gR (pc := 278) rw_156_278 hG309 rfl (v := 78) rfl (to_an (pc := 281) rw_156_281 rfl (tt_gI (pc := 282) rw_156_282 (g_o hG309 rfl) (v := (N.2.1 77 7)) c_311 (s_ialk (pc := 285) rw_156_285 hG309 rfl (n := 500) rfl rfl (A := (N.2.1 77 7).toInt) rfl (by omega) (by omega) (v := v573) w_574 (s_pI (pc := 286) rw_156_286 hG309 rfl (fun M750 W749 => ?_))))))))))
                  have hG751 := g_wf hG309 W749 rfl rfl (by decide)
                  have F752 := FR.w F310 W749 (show 77 = 77 ∧ 7 ≤ 9 ∧ 9 ≤ 10 by decide)
                  refine to_an (pc := 289) rw_156_289 rfl (to_an (pc := 290) rw_156_290 rfl ?_)
                  have c_753 : M750.2.1 77 9 = v573 := (W_e W749)
                  refine tt_gI (pc := 291) rw_156_291 (g_o hG751 rfl) (v := v573) c_753 (to_c (pc := 294) rw_156_294 (x := (59 : Int32)) rfl rfl (b_ceq (pc := 296) rw_156_296 (A := v573.toInt) (B := 59) rfl rfl (fun h754 => ?_) (fun h754 => ?_)))
                  · refine to_c (pc := 326) rw_156_326 (x := (4 : Int32)) rfl rfl (to_go (pc := 327) rw_156_327 (s_pI (pc := 331) rw_156_331 hG751 rfl (fun M756 W755 => ?_)))
                    have hG757 := g_w hG751 W755 (A := 4) rfl (lo := 0) (hi := 5) rfl rfl (by omega) (by decide)
                    have F758 := FR.w F752 W755 (show 77 = 77 ∧ 7 ≤ 8 ∧ 8 ≤ 10 by decide)
                    refine to_an (pc := 334) rw_156_334 rfl (to_dupr (pc := 335) rw_156_335 ?_)
                    have c_759 : M756.2.1 77 7 = (N.2.1 77 7) := (W_n W755 (by decide) (W_n W749 (by decide) c_311))
                    refine tt_gI (pc := 336) rw_156_336 (g_o hG757 rfl) (v := (N.2.1 77 7)) c_759 (to_c (pc := 339) rw_156_339 (x := (1 : Int32)) rfl rfl (s_add (pc := 340) rw_156_340 (A := (N.2.1 77 7).toInt) (B := 1) rfl rfl (by omega) (fun v760 e761 => s_pI (pc := 341) rw_156_341 hG757 rfl (fun M763 W762 => ?_))))
                    have hG764 := g_w hG757 W762 (A := v760.toInt) rfl (lo := 0) (hi := 500) rfl rfl (by omega) (by decide)
                    have F765 := FR.w F758 W762 (show 77 = 77 ∧ 7 ≤ 7 ∧ 7 ≤ 10 by decide)
                    refine to_rv (pc := 344) rw_156_344 ?_
                    have c_766 : M763.2.1 77 7 = v760 := (W_e W762)
                    have t_767 : (M763.2.1 77 7).toInt = v760.toInt := congrArg Int32.toInt c_766
                    have c_768 : M763.2.1 77 6 = (N.2.1 77 6) := (W_n W762 (by decide) (W_n W755 (by decide) (W_n W749 (by decide) c_312)))
                    have t_769 : (M763.2.1 77 6).toInt = (N.2.1 77 6).toInt := congrArg Int32.toInt c_768
                    have c_770 : M763.2.1 77 8 = (4 : Int32) := (W_n W762 (by decide) (W_e W755))
                    have k_771 : (4 : Int32).toInt = 4 := rfl
                    have t_772 : (M763.2.1 77 8).toInt = (4 : Int32).toInt := congrArg Int32.toInt c_770
                    exact h M763 hG764 F765 (by omega) (by omega) (by omega)
                  · refine to_an (pc := 299) rw_156_299 rfl (tt_gI (pc := 300) rw_156_300 (g_o hG751 rfl) (v := v573) c_753 (to_c (pc := 303) rw_156_303 (x := (40 : Int32)) rfl rfl (b_ceq_f (pc := 305) rw_156_305 (A := v573.toInt) (B := 40) rfl rfl (by omega) (to_an (pc := 308) rw_156_308 rfl (tt_gI (pc := 309) rw_156_309 (g_o hG751 rfl) (v := v573) c_753 (to_c (pc := 312) rw_156_312 (x := (41 : Int32)) rfl rfl (b_ceq_f (pc := 314) rw_156_314 (A := v573.toInt) (B := 41) rfl rfl (by omega) (to_an (pc := 317) rw_156_317 rfl (tt_gI (pc := 318) rw_156_318 (g_o hG751 rfl) (v := v573) c_753 (to_c (pc := 321) rw_156_321 (x := (61 : Int32)) rfl rfl (b_cne (pc := 323) rw_156_323 (A := v573.toInt) (B := 61) rfl rfl (fun h773 => ?_) (fun h773 => ?_))))))))))))
                    · refine to_c (pc := 330) rw_156_330 (x := (5 : Int32)) rfl rfl (s_pI (pc := 331) rw_156_331 hG751 rfl (fun M775 W774 => ?_))
                      have hG776 := g_w hG751 W774 (A := 5) rfl (lo := 0) (hi := 5) rfl rfl (by omega) (by decide)
                      have F777 := FR.w F752 W774 (show 77 = 77 ∧ 7 ≤ 8 ∧ 8 ≤ 10 by decide)
                      refine to_an (pc := 334) rw_156_334 rfl (to_dupr (pc := 335) rw_156_335 ?_)
                      have c_778 : M775.2.1 77 7 = (N.2.1 77 7) := (W_n W774 (by decide) (W_n W749 (by decide) c_311))
                      refine tt_gI (pc := 336) rw_156_336 (g_o hG776 rfl) (v := (N.2.1 77 7)) c_778 (to_c (pc := 339) rw_156_339 (x := (1 : Int32)) rfl rfl (s_add (pc := 340) rw_156_340 (A := (N.2.1 77 7).toInt) (B := 1) rfl rfl (by omega) (fun v779 e780 => s_pI (pc := 341) rw_156_341 hG776 rfl (fun M782 W781 => ?_))))
                      have hG783 := g_w hG776 W781 (A := v779.toInt) rfl (lo := 0) (hi := 500) rfl rfl (by omega) (by decide)
                      have F784 := FR.w F777 W781 (show 77 = 77 ∧ 7 ≤ 7 ∧ 7 ≤ 10 by decide)
                      refine to_rv (pc := 344) rw_156_344 ?_
                      have c_785 : M782.2.1 77 7 = v779 := (W_e W781)
                      have t_786 : (M782.2.1 77 7).toInt = v779.toInt := congrArg Int32.toInt c_785
                      have c_787 : M782.2.1 77 6 = (N.2.1 77 6) := (W_n W781 (by decide) (W_n W774 (by decide) (W_n W749 (by decide) c_312)))
                      have t_788 : (M782.2.1 77 6).toInt = (N.2.1 77 6).toInt := congrArg Int32.toInt c_787
                      have c_789 : M782.2.1 77 8 = (5 : Int32) := (W_n W781 (by decide) (W_e W774))
                      have k_790 : (5 : Int32).toInt = 5 := rfl
                      have t_791 : (M782.2.1 77 8).toInt = (5 : Int32).toInt := congrArg Int32.toInt c_789
                      exact h M782 hG783 F784 (by omega) (by omega) (by omega)
                    · refine to_c (pc := 326) rw_156_326 (x := (4 : Int32)) rfl rfl (to_go (pc := 327) rw_156_327 (s_pI (pc := 331) rw_156_331 hG751 rfl (fun M793 W792 => ?_)))
                      have hG794 := g_w hG751 W792 (A := 4) rfl (lo := 0) (hi := 5) rfl rfl (by omega) (by decide)
                      have F795 := FR.w F752 W792 (show 77 = 77 ∧ 7 ≤ 8 ∧ 8 ≤ 10 by decide)
                      refine to_an (pc := 334) rw_156_334 rfl (to_dupr (pc := 335) rw_156_335 ?_)
                      have c_796 : M793.2.1 77 7 = (N.2.1 77 7) := (W_n W792 (by decide) (W_n W749 (by decide) c_311))
                      refine tt_gI (pc := 336) rw_156_336 (g_o hG794 rfl) (v := (N.2.1 77 7)) c_796 (to_c (pc := 339) rw_156_339 (x := (1 : Int32)) rfl rfl (s_add (pc := 340) rw_156_340 (A := (N.2.1 77 7).toInt) (B := 1) rfl rfl (by omega) (fun v797 e798 => s_pI (pc := 341) rw_156_341 hG794 rfl (fun M800 W799 => ?_))))
                      have hG801 := g_w hG794 W799 (A := v797.toInt) rfl (lo := 0) (hi := 500) rfl rfl (by omega) (by decide)
                      have F802 := FR.w F795 W799 (show 77 = 77 ∧ 7 ≤ 7 ∧ 7 ≤ 10 by decide)
                      refine to_rv (pc := 344) rw_156_344 ?_
                      have c_803 : M800.2.1 77 7 = v797 := (W_e W799)
                      have t_804 : (M800.2.1 77 7).toInt = v797.toInt := congrArg Int32.toInt c_803
                      have c_805 : M800.2.1 77 6 = (N.2.1 77 6) := (W_n W799 (by decide) (W_n W792 (by decide) (W_n W749 (by decide) c_312)))
                      have t_806 : (M800.2.1 77 6).toInt = (N.2.1 77 6).toInt := congrArg Int32.toInt c_805
                      have c_807 : M800.2.1 77 8 = (4 : Int32) := (W_n W799 (by decide) (W_e W792))
                      have k_808 : (4 : Int32).toInt = 4 := rfl
                      have t_809 : (M800.2.1 77 8).toInt = (4 : Int32).toInt := congrArg Int32.toInt c_807
                      exact h M800 hG801 F802 (by omega) (by omega) (by omega)
                · refine to_c (pc := 30) rw_155_30 (x := (1 : Int32)) rfl rfl (to_go (pc := 31) rw_155_31 (s_r1 (pc := 35) rw_155_35 (A := 1) rfl (by decide) (b_ieq_f (pc := 199) rw_156_199 (A := 1) rfl (by decide) (to_an (pc := 202) rw_156_202 rfl (to_c (pc := 203) rw_156_203 (x := (3 : Int32)) rfl rfl (s_pI (pc := 204) rw_156_204 hG309 rfl (fun M811 W810 => ?_)))))))
                  have hG812 := g_w hG309 W810 (A := 3) rfl (lo := 0) (hi := 5) rfl rfl (by omega) (by decide)
                  have F813 := FR.w F310 W810 (show 77 = 77 ∧ 7 ≤ 8 ∧ 8 ≤ 10 by decide)
                  refine to_an (pc := 207) rw_156_207 rfl (to_c (pc := 208) rw_156_208 (x := (0 : Int32)) rfl rfl (s_pI (pc := 209) rw_156_209 hG812 rfl (fun M815 W814 => ?_)))
                  have hG816 := g_wf hG812 W814 rfl rfl (by decide)
                  have F817 := FR.w F813 W814 (show 77 = 77 ∧ 7 ≤ 9 ∧ 9 ≤ 10 by decide)
                  refine to_an (pc := 212) rw_156_212 rfl (to_an (pc := 213) rw_156_213 rfl ?_)
                  have c_818 : M815.2.1 77 7 = (N.2.1 77 7) := (W_n W814 (by decide) (W_n W810 (by decide) c_311))
                  refine tt_gI (pc := 214) rw_156_214 (g_o hG816 rfl) (v := (N.2.1 77 7)) c_818 (s_v (pc := 217) rw_156_217 (dp0 hd (by decide)) (ls0 := [.ref 77, .int (N.2.1 77 7)]) rfl (Nat.le_of_ble_eq_true rfl) (Nat.le_of_ble_eq_true rfl) rfl (to_rc rfl rfl rfl (g_o hG816 rfl)) rfl (to_in (pc := 0) rw_155_0 rfl (to_an (pc := 1) rw_155_1 rfl ?_)))
                  have c_819 : M815.2.1 77 6 = (N.2.1 77 6) := (W_n W814 (by decide) (W_n W810 (by decide) c_312))
                  refine tt_gI (pc := 2) rw_155_2 (g_o hG816 rfl) (v := (N.2.1 77 6)) c_819 (b_cge (pc := 5) rw_155_5 (A := (N.2.1 77 7).toInt) (B := (N.2.1 77 6).toInt) rfl rfl (fun h820 => ?_) (fun h820 => ?_))
                  · refine to_c (pc := 34) rw_155_34 (x := (0 : Int32)) rfl rfl (s_r1 (pc := 35) rw_155_35 (A := 0) rfl (by decide) (b_ieq_t (pc := 220) rw_156_220 (A := 0) rfl (by decide) (to_rv (pc := 344) rw_156_344 ?_)))
                    have t_821 : (M815.2.1 77 7).toInt = (N.2.1 77 7).toInt := congrArg Int32.toInt c_818
                    have t_822 : (M815.2.1 77 6).toInt = (N.2.1 77 6).toInt := congrArg Int32.toInt c_819
                    have c_823 : M815.2.1 77 8 = (3 : Int32) := (W_n W814 (by decide) (W_e W810))
                    have k_824 : (3 : Int32).toInt = 3 := rfl
                    have t_825 : (M815.2.1 77 8).toInt = (3 : Int32).toInt := congrArg Int32.toInt c_823
                    exact h M815 hG816 F817 (by omega) (by omega) (by omega)
                  · refine to_an (pc := 8) rw_155_8 rfl (s_gR (pc := 9) rw_155_9 hG816 rfl (v := 78) rfl (to_in (pc := 12) rw_155_12 rfl (s_ialk (pc := 13) rw_155_13 hG816 rfl (n := 500) rfl rfl (A := (N.2.1 77 7).toInt) rfl (by omega) (by omega) (v := v573) (W_n W814 (by omega) (W_n W810 (by omega) w_574)) (to_c (pc := 14) rw_155_14 (x := (48 : Int32)) rfl rfl (b_clt_f (pc := 16) rw_155_16 (A := v573.toInt) (B := 48) rfl rfl (by omega) (to_an (pc := 19) rw_155_19 rfl (s_gR (pc := 20) rw_155_20 hG816 rfl (v := 78) rfl (to_in (pc := 23) rw_155_23 rfl (s_ialk (pc := 24) rw_155_24 hG816 rfl (n := 500) rfl rfl (A := (N.2.1 77 7).toInt) rfl (by omega) (by omega) (v := v573) (W_n W814 (by omega) (W_n W810 (by omega) w_574)) (to_c (pc := 25) rw_155_25 (x := (57 : Int32)) rfl rfl (b_cgt_f (pc := 27) rw_155_27 (A := v573.toInt) (B := 57) rfl rfl (by omega) ?_)))))))))))
                    refine to_c (pc := 30) rw_155_30 (x := (1 : Int32)) rfl rfl (to_go (pc := 31) rw_155_31 (s_r1 (pc := 35) rw_155_35 (A := 1) rfl (by decide) (b_ieq_f (pc := 220) rw_156_220 (A := 1) rfl (by decide) ?_)))
                    have t_830 : (M815.2.1 77 7).toInt = (N.2.1 77 7).toInt := congrArg Int32.toInt c_818
                    have t_831 : (M815.2.1 77 6).toInt = (N.2.1 77 6).toInt := congrArg Int32.toInt c_819
                    have c_832 : M815.2.1 77 10 = (N.2.1 77 7) := (W_n W814 (by decide) (W_n W810 (by decide) (W_e W307)))
                    have t_833 : (M815.2.1 77 10).toInt = (N.2.1 77 7).toInt := congrArg Int32.toInt c_832
                    exact (T_156_0 hX hd q1 h ((500 - (M815.2.1 77 7).toInt).toNat + 1)) M815  hG816 F817 (by omega) (by omega) (by omega) (by omega)
          · refine to_an (pc := 19) rw_154_19 rfl (s_gR (pc := 20) rw_154_20 hG309 rfl (v := 78) rfl (to_in (pc := 23) rw_154_23 rfl (s_ialk (pc := 24) rw_154_24 hG309 rfl (n := 500) rfl rfl (A := (N.2.1 77 7).toInt) rfl (by omega) (by omega) (v := v573) w_574 (to_c (pc := 25) rw_154_25 (x := (122 : Int32)) rfl rfl (b_cgt (pc := 27) rw_154_27 (A := v573.toInt) (B := 122) rfl rfl (fun h836 => ?_) (fun h836 => ?_))))))
            · refine to_c (pc := 34) rw_154_34 (x := (0 : Int32)) rfl rfl (s_r1 (pc := 35) rw_154_35 (A := 0) rfl (by decide) (b_ieq_t (pc := 87) rw_156_87 (A := 0) rfl (by decide) (to_an (pc := 191) rw_156_191 rfl (to_an (pc := 192) rw_156_192 rfl (tt_gI (pc := 193) rw_156_193 (g_o hG309 rfl) (v := (N.2.1 77 7)) c_311 (s_v (pc := 196) rw_156_196 (dp0 hd (by decide)) (ls0 := [.ref 77, .int (N.2.1 77 7)]) rfl (Nat.le_of_ble_eq_true rfl) (Nat.le_of_ble_eq_true rfl) rfl (to_rc rfl rfl rfl (g_o hG309 rfl)) rfl (to_in (pc := 0) rw_155_0 rfl (to_an (pc := 1) rw_155_1 rfl (tt_gI (pc := 2) rw_155_2 (g_o hG309 rfl) (v := (N.2.1 77 6)) c_312 (b_cge (pc := 5) rw_155_5 (A := (N.2.1 77 7).toInt) (B := (N.2.1 77 6).toInt) rfl rfl (fun h837 => ?_) (fun h837 => ?_)))))))))))
              · refine to_c (pc := 34) rw_155_34 (x := (0 : Int32)) rfl rfl (s_r1 (pc := 35) rw_155_35 (A := 0) rfl (by decide) (b_ieq_t (pc := 199) rw_156_199 (A := 0) rfl (by decide) (to_an (pc := 276) rw_156_276 rfl (to_an (pc := 277) rw_156_277 rfl (s_gR (pc := 278) rw_156_278 hG309 rfl (v := 78) rfl (to_an (pc := 281) rw_156_281 rfl (tt_gI (pc := 282) rw_156_282 (g_o hG309 rfl) (v := (N.2.1 77 7)) c_311 (s_ialk (pc := 285) rw_156_285 hG309 rfl (n := 500) rfl rfl (A := (N.2.1 77 7).toInt) rfl (by omega) (by omega) (v := v573) w_574 (s_pI (pc := 286) rw_156_286 hG309 rfl (fun M841 W840 => ?_))))))))))
                have hG842 := g_wf hG309 W840 rfl rfl (by decide)
                have F843 := FR.w F310 W840 (show 77 = 77 ∧ 7 ≤ 9 ∧ 9 ≤ 10 by decide)
                refine to_an (pc := 289) rw_156_289 rfl (to_an (pc := 290) rw_156_290 rfl ?_)
                have c_844 : M841.2.1 77 9 = v573 := (W_e W840)
                refine tt_gI (pc := 291) rw_156_291 (g_o hG842 rfl) (v := v573) c_844 (to_c (pc := 294) rw_156_294 (x := (59 : Int32)) rfl rfl (b_ceq_f (pc := 296) rw_156_296 (A := v573.toInt) (B := 59) rfl rfl (by omega) (to_an (pc := 299) rw_156_299 rfl (tt_gI (pc := 300) rw_156_300 (g_o hG842 rfl) (v := v573) c_844 (to_c (pc := 303) rw_156_303 (x := (40 : Int32)) rfl rfl (b_ceq_f (pc := 305) rw_156_305 (A := v573.toInt) (B := 40) rfl rfl (by omega) (to_an (pc := 308) rw_156_308 rfl (tt_gI (pc := 309) rw_156_309 (g_o hG842 rfl) (v := v573) c_844 (to_c (pc := 312) rw_156_312 (x := (41 : Int32)) rfl rfl (b_ceq_f (pc := 314) rw_156_314 (A := v573.toInt) (B := 41) rfl rfl (by omega) (to_an (pc := 317) rw_156_317 rfl ?_)))))))))))
                refine tt_gI (pc := 318) rw_156_318 (g_o hG842 rfl) (v := v573) c_844 (to_c (pc := 321) rw_156_321 (x := (61 : Int32)) rfl rfl (b_cne_t (pc := 323) rw_156_323 (A := v573.toInt) (B := 61) rfl rfl (by omega) (to_c (pc := 330) rw_156_330 (x := (5 : Int32)) rfl rfl (s_pI (pc := 331) rw_156_331 hG842 rfl (fun M846 W845 => ?_)))))
                have hG847 := g_w hG842 W845 (A := 5) rfl (lo := 0) (hi := 5) rfl rfl (by omega) (by decide)
                have F848 := FR.w F843 W845 (show 77 = 77 ∧ 7 ≤ 8 ∧ 8 ≤ 10 by decide)
                refine to_an (pc := 334) rw_156_334 rfl (to_dupr (pc := 335) rw_156_335 ?_)
                have c_849 : M846.2.1 77 7 = (N.2.1 77 7) := (W_n W845 (by decide) (W_n W840 (by decide) c_311))
                refine tt_gI (pc := 336) rw_156_336 (g_o hG847 rfl) (v := (N.2.1 77 7)) c_849 (to_c (pc := 339) rw_156_339 (x := (1 : Int32)) rfl rfl (s_add (pc := 340) rw_156_340 (A := (N.2.1 77 7).toInt) (B := 1) rfl rfl (by omega) (fun v850 e851 => s_pI (pc := 341) rw_156_341 hG847 rfl (fun M853 W852 => ?_))))
                have hG854 := g_w hG847 W852 (A := v850.toInt) rfl (lo := 0) (hi := 500) rfl rfl (by omega) (by decide)
                have F855 := FR.w F848 W852 (show 77 = 77 ∧ 7 ≤ 7 ∧ 7 ≤ 10 by decide)
                refine to_rv (pc := 344) rw_156_344 ?_
                have c_856 : M853.2.1 77 7 = v850 := (W_e W852)
                have t_857 : (M853.2.1 77 7).toInt = v850.toInt := congrArg Int32.toInt c_856
                have c_858 : M853.2.1 77 6 = (N.2.1 77 6) := (W_n W852 (by decide) (W_n W845 (by decide) (W_n W840 (by decide) c_312)))
                have t_859 : (M853.2.1 77 6).toInt = (N.2.1 77 6).toInt := congrArg Int32.toInt c_858
                have c_860 : M853.2.1 77 8 = (5 : Int32) := (W_n W852 (by decide) (W_e W845))
                have k_861 : (5 : Int32).toInt = 5 := rfl
                have t_862 : (M853.2.1 77 8).toInt = (5 : Int32).toInt := congrArg Int32.toInt c_860
                exact h M853 hG854 F855 (by omega) (by omega) (by omega)
              · refine to_an (pc := 8) rw_155_8 rfl (s_gR (pc := 9) rw_155_9 hG309 rfl (v := 78) rfl (to_in (pc := 12) rw_155_12 rfl (s_ialk (pc := 13) rw_155_13 hG309 rfl (n := 500) rfl rfl (A := (N.2.1 77 7).toInt) rfl (by omega) (by omega) (v := v573) w_574 (to_c (pc := 14) rw_155_14 (x := (48 : Int32)) rfl rfl (b_clt_f (pc := 16) rw_155_16 (A := v573.toInt) (B := 48) rfl rfl (by omega) (to_an (pc := 19) rw_155_19 rfl (s_gR (pc := 20) rw_155_20 hG309 rfl (v := 78) rfl (to_in (pc := 23) rw_155_23 rfl (s_ialk (pc := 24) rw_155_24 hG309 rfl (n := 500) rfl rfl (A := (N.2.1 77 7).toInt) rfl (by omega) (by omega) (v := v573) w_574 (to_c (pc := 25) rw_155_25 (x := (57 : Int32)) rfl rfl (b_cgt_t (pc := 27) rw_155_27 (A := v573.toInt) (B := 57) rfl rfl (by omega) ?_)))))))))))
                refine to_c (pc := 34) rw_155_34 (x := (0 : Int32)) rfl rfl (s_r1 (pc := 35) rw_155_35 (A := 0) rfl (by decide) (b_ieq_t (pc := 199) rw_156_199 (A := 0) rfl (by decide) (to_an (pc := 276) rw_156_276 rfl (to_an (pc := 277) rw_156_277 rfl (s_gR (pc := 278) rw_156_278 hG309 rfl (v := 78) rfl (to_an (pc := 281) rw_156_281 rfl (tt_gI (pc := 282) rw_156_282 (g_o hG309 rfl) (v := (N.2.1 77 7)) c_311 (s_ialk (pc := 285) rw_156_285 hG309 rfl (n := 500) rfl rfl (A := (N.2.1 77 7).toInt) rfl (by omega) (by omega) (v := v573) w_574 (s_pI (pc := 286) rw_156_286 hG309 rfl (fun M870 W869 => ?_))))))))))
                have hG871 := g_wf hG309 W869 rfl rfl (by decide)
                have F872 := FR.w F310 W869 (show 77 = 77 ∧ 7 ≤ 9 ∧ 9 ≤ 10 by decide)
                refine to_an (pc := 289) rw_156_289 rfl (to_an (pc := 290) rw_156_290 rfl ?_)
                have c_873 : M870.2.1 77 9 = v573 := (W_e W869)
                refine tt_gI (pc := 291) rw_156_291 (g_o hG871 rfl) (v := v573) c_873 (to_c (pc := 294) rw_156_294 (x := (59 : Int32)) rfl rfl (b_ceq_f (pc := 296) rw_156_296 (A := v573.toInt) (B := 59) rfl rfl (by omega) (to_an (pc := 299) rw_156_299 rfl (tt_gI (pc := 300) rw_156_300 (g_o hG871 rfl) (v := v573) c_873 (to_c (pc := 303) rw_156_303 (x := (40 : Int32)) rfl rfl (b_ceq_f (pc := 305) rw_156_305 (A := v573.toInt) (B := 40) rfl rfl (by omega) (to_an (pc := 308) rw_156_308 rfl (tt_gI (pc := 309) rw_156_309 (g_o hG871 rfl) (v := v573) c_873 (to_c (pc := 312) rw_156_312 (x := (41 : Int32)) rfl rfl (b_ceq_f (pc := 314) rw_156_314 (A := v573.toInt) (B := 41) rfl rfl (by omega) (to_an (pc := 317) rw_156_317 rfl ?_)))))))))))
                refine tt_gI (pc := 318) rw_156_318 (g_o hG871 rfl) (v := v573) c_873 (to_c (pc := 321) rw_156_321 (x := (61 : Int32)) rfl rfl (b_cne_t (pc := 323) rw_156_323 (A := v573.toInt) (B := 61) rfl rfl (by omega) (to_c (pc := 330) rw_156_330 (x := (5 : Int32)) rfl rfl (s_pI (pc := 331) rw_156_331 hG871 rfl (fun M875 W874 => ?_)))))
                have hG876 := g_w hG871 W874 (A := 5) rfl (lo := 0) (hi := 5) rfl rfl (by omega) (by decide)
                have F877 := FR.w F872 W874 (show 77 = 77 ∧ 7 ≤ 8 ∧ 8 ≤ 10 by decide)
                refine to_an (pc := 334) rw_156_334 rfl (to_dupr (pc := 335) rw_156_335 ?_)
                have c_878 : M875.2.1 77 7 = (N.2.1 77 7) := (W_n W874 (by decide) (W_n W869 (by decide) c_311))
                refine tt_gI (pc := 336) rw_156_336 (g_o hG876 rfl) (v := (N.2.1 77 7)) c_878 (to_c (pc := 339) rw_156_339 (x := (1 : Int32)) rfl rfl (s_add (pc := 340) rw_156_340 (A := (N.2.1 77 7).toInt) (B := 1) rfl rfl (by omega) (fun v879 e880 => s_pI (pc := 341) rw_156_341 hG876 rfl (fun M882 W881 => ?_))))
                have hG883 := g_w hG876 W881 (A := v879.toInt) rfl (lo := 0) (hi := 500) rfl rfl (by omega) (by decide)
                have F884 := FR.w F877 W881 (show 77 = 77 ∧ 7 ≤ 7 ∧ 7 ≤ 10 by decide)
                refine to_rv (pc := 344) rw_156_344 ?_
                have c_885 : M882.2.1 77 7 = v879 := (W_e W881)
                have t_886 : (M882.2.1 77 7).toInt = v879.toInt := congrArg Int32.toInt c_885
                have c_887 : M882.2.1 77 6 = (N.2.1 77 6) := (W_n W881 (by decide) (W_n W874 (by decide) (W_n W869 (by decide) c_312)))
                have t_888 : (M882.2.1 77 6).toInt = (N.2.1 77 6).toInt := congrArg Int32.toInt c_887
                have c_889 : M882.2.1 77 8 = (5 : Int32) := (W_n W881 (by decide) (W_e W874))
                have k_890 : (5 : Int32).toInt = 5 := rfl
                have t_891 : (M882.2.1 77 8).toInt = (5 : Int32).toInt := congrArg Int32.toInt c_889
                exact h M882 hG883 F884 (by omega) (by omega) (by omega)
            · refine to_c (pc := 30) rw_154_30 (x := (1 : Int32)) rfl rfl (to_go (pc := 31) rw_154_31 (s_r1 (pc := 35) rw_154_35 (A := 1) rfl (by decide) (b_ieq_f (pc := 87) rw_156_87 (A := 1) rfl (by decide) (to_an (pc := 90) rw_156_90 rfl (to_an (pc := 91) rw_156_91 rfl (tt_gI (pc := 92) rw_156_92 (g_o hG309 rfl) (v := (N.2.1 77 7)) c_311 (s_v (pc := 95) rw_156_95 (dp0 hd (by decide)) (ls0 := [.ref 77, .int (N.2.1 77 7)]) rfl (Nat.le_of_ble_eq_true rfl) (Nat.le_of_ble_eq_true rfl) rfl (to_rc rfl rfl rfl (g_o hG309 rfl)) rfl (to_in (pc := 0) rw_154_0 rfl (to_an (pc := 1) rw_154_1 rfl (tt_gI (pc := 2) rw_154_2 (g_o hG309 rfl) (v := (N.2.1 77 6)) c_312 (b_cge (pc := 5) rw_154_5 (A := (N.2.1 77 7).toInt) (B := (N.2.1 77 6).toInt) rfl rfl (fun h892 => ?_) (fun h892 => ?_))))))))))))
              · refine to_c (pc := 34) rw_154_34 (x := (0 : Int32)) rfl rfl (s_r1 (pc := 35) rw_154_35 (A := 0) rfl (by decide) (b_ieq_t (pc := 98) rw_156_98 (A := 0) rfl (by decide) (to_an (pc := 114) rw_156_114 rfl (to_an (pc := 115) rw_156_115 rfl (to_an (pc := 116) rw_156_116 rfl ?_)))))
                have c_893 : M308.2.1 77 10 = (N.2.1 77 7) := (W_e W307)
                refine tt_gI (pc := 117) rw_156_117 (g_o hG309 rfl) (v := (N.2.1 77 7)) c_893 (to_an (pc := 120) rw_156_120 rfl (tt_gI (pc := 121) rw_156_121 (g_o hG309 rfl) (v := (N.2.1 77 7)) c_311 (s_v (pc := 124) rw_156_124 (dp0 hd (by decide)) (ls0 := [.ref 77, .int (N.2.1 77 7), .int (N.2.1 77 7), .null, .null, .null, .null, .null]) rfl (Nat.le_of_ble_eq_true rfl) (Nat.le_of_ble_eq_true rfl) rfl (to_rc rfl rfl rfl (g_o hG309 rfl)) rfl (C_153 hX (dp1 hd (by decide)) hG309 (by omega) (by omega) (by omega) (by omega) (by omega) (a := (N.2.1 77 7)) (b := (N.2.1 77 7)) (fun r894 M897 hG896 F895 => ?_)))))
                have F898 := FR.c F310 F895 tg_10
                refine s_pI (pc := 127) rw_156_127 hG896 rfl (fun M900 W899 => ?_)
                have hG901 := g_wf hG896 W899 rfl rfl (by decide)
                have F902 := FR.w F898 W899 (show 77 = 77 ∧ 7 ≤ 9 ∧ 9 ≤ 10 by decide)
                refine to_an (pc := 130) rw_156_130 rfl (to_an (pc := 131) rw_156_131 rfl ?_)
                have c_903 : M900.2.1 77 9 = r894 := (W_e W899)
                refine tt_gI (pc := 132) rw_156_132 (g_o hG901 rfl) (v := r894) c_903 (b_ilt (pc := 135) rw_156_135 (A := r894.toInt) rfl (fun h904 => ?_) (fun h904 => ?_))
                · refine to_an (pc := 142) rw_156_142 rfl ?_
                  have c_905 : M900.2.1 77 7 = (N.2.1 77 7) := (W_n W899 (by decide) (F_n F895 (show ¬ (77 < 0) by decide) c_311))
                  refine tt_gI (pc := 143) rw_156_143 (g_o hG901 rfl) (v := (N.2.1 77 7)) c_905 (to_an (pc := 146) rw_156_146 rfl ?_)
                  have c_906 : M900.2.1 77 10 = (N.2.1 77 7) := (W_n W899 (by decide) (F_n F895 (show ¬ (77 < 0) by decide) c_893))
                  refine tt_gI (pc := 147) rw_156_147 (g_o hG901 rfl) (v := (N.2.1 77 7)) c_906 (s_sub (pc := 150) rw_156_150 (A := (N.2.1 77 7).toInt) (B := (N.2.1 77 7).toInt) rfl rfl (by omega) (fun v907 e908 => to_c (pc := 151) rw_156_151 (x := (6 : Int32)) rfl rfl (b_cle (pc := 153) rw_156_153 (A := v907.toInt) (B := 6) rfl rfl (fun h909 => ?_) (fun h909 => ?_))))
                  · refine to_c (pc := 160) rw_156_160 (x := (2 : Int32)) rfl rfl (s_pI (pc := 161) rw_156_161 hG901 rfl (fun M911 W910 => ?_))
                    have hG912 := g_w hG901 W910 (A := 2) rfl (lo := 0) (hi := 5) rfl rfl (by omega) (by decide)
                    have F913 := FR.w F902 W910 (show 77 = 77 ∧ 7 ≤ 8 ∧ 8 ≤ 10 by decide)
                    refine to_an (pc := 164) rw_156_164 rfl ?_
                    have c_914 : M911.2.1 77 8 = (2 : Int32) := (W_e W910)
                    refine tt_gI (pc := 165) rw_156_165 (g_o hG912 rfl) (v := (2 : Int32)) c_914 (to_c (pc := 168) rw_156_168 (x := (2 : Int32)) rfl rfl (b_cne_f (pc := 169) rw_156_169 (A := 2) (B := 2) rfl rfl (by decide) (to_an (pc := 172) rw_156_172 rfl (to_an (pc := 173) rw_156_173 rfl (to_an (pc := 174) rw_156_174 rfl ?_)))))
                    have c_915 : M911.2.1 77 10 = (N.2.1 77 7) := (W_n W910 (by decide) c_906)
                    refine tt_gI (pc := 175) rw_156_175 (g_o hG912 rfl) (v := (N.2.1 77 7)) c_915 (to_an (pc := 178) rw_156_178 rfl ?_)
                    have c_916 : M911.2.1 77 7 = (N.2.1 77 7) := (W_n W910 (by decide) c_905)
                    refine tt_gI (pc := 179) rw_156_179 (g_o hG912 rfl) (v := (N.2.1 77 7)) c_916 (s_v (pc := 182) rw_156_182 (dp0 hd (by decide)) (ls0 := [.ref 77, .int (N.2.1 77 7), .int (N.2.1 77 7), .null, .null]) rfl (Nat.le_of_ble_eq_true rfl) (Nat.le_of_ble_eq_true rfl) rfl (to_rc rfl rfl rfl (g_o hG912 rfl)) rfl (C_157 hX (dp1 hd (by decide)) hG912 (by omega) (by omega) (by omega) (a := (N.2.1 77 7)) (b := (N.2.1 77 7)) (fun r917 M920 hG919 F918 => ?_)))
                    have F921 := FR.c F913 F918 tg_10
                    refine s_pI (pc := 185) rw_156_185 hG919 rfl (fun M923 W922 => ?_)
                    have hG924 := g_wf hG919 W922 rfl rfl (by decide)
                    have F925 := FR.w F921 W922 (show 77 = 77 ∧ 7 ≤ 9 ∧ 9 ≤ 10 by decide)
                    refine to_go (pc := 188) rw_156_188 (to_rv (pc := 344) rw_156_344 ?_)
                    have c_926 : M923.2.1 77 7 = (N.2.1 77 7) := (W_n W922 (by decide) (F_n F918 (show ¬ (77 < 0) by decide) c_916))
                    have t_927 : (M923.2.1 77 7).toInt = (N.2.1 77 7).toInt := congrArg Int32.toInt c_926
                    have c_928 : M923.2.1 77 6 = (N.2.1 77 6) := (W_n W922 (by decide) (F_n F918 (show ¬ (77 < 0) by decide) (W_n W910 (by decide) (W_n W899 (by decide) (F_n F895 (show ¬ (77 < 0) by decide) c_312)))))
                    have t_929 : (M923.2.1 77 6).toInt = (N.2.1 77 6).toInt := congrArg Int32.toInt c_928
                    have c_930 : M923.2.1 77 8 = (2 : Int32) := (W_n W922 (by decide) (F_n F918 (show ¬ (77 < 0) by decide) c_914))
                    have k_931 : (2 : Int32).toInt = 2 := rfl
                    have t_932 : (M923.2.1 77 8).toInt = (2 : Int32).toInt := congrArg Int32.toInt c_930
                    exact h M923 hG924 F925 (by omega) (by omega) (by omega)
                  · refine to_c (pc := 156) rw_156_156 (x := (5 : Int32)) rfl rfl (to_go (pc := 157) rw_156_157 (s_pI (pc := 161) rw_156_161 hG901 rfl (fun M934 W933 => ?_)))
                    have hG935 := g_w hG901 W933 (A := 5) rfl (lo := 0) (hi := 5) rfl rfl (by omega) (by decide)
                    have F936 := FR.w F902 W933 (show 77 = 77 ∧ 7 ≤ 8 ∧ 8 ≤ 10 by decide)
                    refine to_an (pc := 164) rw_156_164 rfl ?_
                    have c_937 : M934.2.1 77 8 = (5 : Int32) := (W_e W933)
                    refine tt_gI (pc := 165) rw_156_165 (g_o hG935 rfl) (v := (5 : Int32)) c_937 (to_c (pc := 168) rw_156_168 (x := (2 : Int32)) rfl rfl (b_cne_t (pc := 169) rw_156_169 (A := 5) (B := 2) rfl rfl (by decide) (to_rv (pc := 344) rw_156_344 ?_)))
                    have c_938 : M934.2.1 77 7 = (N.2.1 77 7) := (W_n W933 (by decide) c_905)
                    have t_939 : (M934.2.1 77 7).toInt = (N.2.1 77 7).toInt := congrArg Int32.toInt c_938
                    have c_940 : M934.2.1 77 6 = (N.2.1 77 6) := (W_n W933 (by decide) (W_n W899 (by decide) (F_n F895 (show ¬ (77 < 0) by decide) c_312)))
                    have t_941 : (M934.2.1 77 6).toInt = (N.2.1 77 6).toInt := congrArg Int32.toInt c_940
                    have k_942 : (5 : Int32).toInt = 5 := rfl
                    have t_943 : (M934.2.1 77 8).toInt = (5 : Int32).toInt := congrArg Int32.toInt c_937
                    exact h M934 hG935 F936 (by omega) (by omega) (by omega)
                · refine to_c (pc := 138) rw_156_138 (x := (1 : Int32)) rfl rfl (to_go (pc := 139) rw_156_139 (s_pI (pc := 161) rw_156_161 hG901 rfl (fun M945 W944 => ?_)))
                  have hG946 := g_w hG901 W944 (A := 1) rfl (lo := 0) (hi := 5) rfl rfl (by omega) (by decide)
                  have F947 := FR.w F902 W944 (show 77 = 77 ∧ 7 ≤ 8 ∧ 8 ≤ 10 by decide)
                  refine to_an (pc := 164) rw_156_164 rfl ?_
                  have c_948 : M945.2.1 77 8 = (1 : Int32) := (W_e W944)
                  refine tt_gI (pc := 165) rw_156_165 (g_o hG946 rfl) (v := (1 : Int32)) c_948 (to_c (pc := 168) rw_156_168 (x := (2 : Int32)) rfl rfl (b_cne_t (pc := 169) rw_156_169 (A := 1) (B := 2) rfl rfl (by decide) (to_rv (pc := 344) rw_156_344 ?_)))
                  have c_949 : M945.2.1 77 7 = (N.2.1 77 7) := (W_n W944 (by decide) (W_n W899 (by decide) (F_n F895 (show ¬ (77 < 0) by decide) c_311)))
                  have t_950 : (M945.2.1 77 7).toInt = (N.2.1 77 7).toInt := congrArg Int32.toInt c_949
                  have c_951 : M945.2.1 77 6 = (N.2.1 77 6) := (W_n W944 (by decide) (W_n W899 (by decide) (F_n F895 (show ¬ (77 < 0) by decide) c_312)))
                  have t_952 : (M945.2.1 77 6).toInt = (N.2.1 77 6).toInt := congrArg Int32.toInt c_951
                  have k_953 : (1 : Int32).toInt = 1 := rfl
                  have t_954 : (M945.2.1 77 8).toInt = (1 : Int32).toInt := congrArg Int32.toInt c_948
                  exact h M945 hG946 F947 (by omega) (by omega) (by omega)
              · refine to_an (pc := 8) rw_154_8 rfl (s_gR (pc := 9) rw_154_9 hG309 rfl (v := 78) rfl (to_in (pc := 12) rw_154_12 rfl (s_ialk (pc := 13) rw_154_13 hG309 rfl (n := 500) rfl rfl (A := (N.2.1 77 7).toInt) rfl (by omega) (by omega) (v := v573) w_574 (to_c (pc := 14) rw_154_14 (x := (97 : Int32)) rfl rfl (b_clt_f (pc := 16) rw_154_16 (A := v573.toInt) (B := 97) rfl rfl (by omega) (to_an (pc := 19) rw_154_19 rfl (s_gR (pc := 20) rw_154_20 hG309 rfl (v := 78) rfl (to_in (pc := 23) rw_154_23 rfl (s_ialk (pc := 24) rw_154_24 hG309 rfl (n := 500) rfl rfl (A := (N.2.1 77 7).toInt) rfl (by omega) (by omega) (v := v573) w_574 (to_c (pc := 25) rw_154_25 (x := (122 : Int32)) rfl rfl (b_cgt_f (pc := 27) rw_154_27 (A := v573.toInt) (B := 122) rfl rfl (by omega) ?_)))))))))))
                refine to_c (pc := 30) rw_154_30 (x := (1 : Int32)) rfl rfl (to_go (pc := 31) rw_154_31 (s_r1 (pc := 35) rw_154_35 (A := 1) rfl (by decide) (b_ieq_f (pc := 98) rw_156_98 (A := 1) rfl (by decide) ?_)))
                have t_959 : (M308.2.1 77 7).toInt = (N.2.1 77 7).toInt := congrArg Int32.toInt c_311
                have t_960 : (M308.2.1 77 6).toInt = (N.2.1 77 6).toInt := congrArg Int32.toInt c_312
                have c_961 : M308.2.1 77 10 = (N.2.1 77 7) := (W_e W307)
                have t_962 : (M308.2.1 77 10).toInt = (N.2.1 77 7).toInt := congrArg Int32.toInt c_961
                exact (T_156_1 hX hd q1 h ((500 - (M308.2.1 77 7).toInt).toNat + 1)) M308  hG309 F310 (by omega) (by omega) (by omega) (by omega)
      · refine to_an (pc := 71) rw_156_71 rfl (to_c (pc := 72) rw_156_72 (x := (0 : Int32)) rfl rfl (s_pI (pc := 73) rw_156_73 hG309 rfl (fun M964 W963 => ?_)))
        have hG965 := g_w hG309 W963 (A := 0) rfl (lo := 0) (hi := 5) rfl rfl (by omega) (by decide)
        have F966 := FR.w F310 W963 (show 77 = 77 ∧ 7 ≤ 8 ∧ 8 ≤ 10 by decide)
        refine to_go (pc := 76) rw_156_76 (to_rv (pc := 344) rw_156_344 ?_)
        have c_967 : M964.2.1 77 7 = (N.2.1 77 7) := (W_n W963 (by decide) c_311)
        have t_968 : (M964.2.1 77 7).toInt = (N.2.1 77 7).toInt := congrArg Int32.toInt c_967
        have c_969 : M964.2.1 77 6 = (N.2.1 77 6) := (W_n W963 (by decide) c_312)
        have t_970 : (M964.2.1 77 6).toInt = (N.2.1 77 6).toInt := congrArg Int32.toInt c_969
        have c_971 : M964.2.1 77 8 = (0 : Int32) := (W_e W963)
        have k_972 : (0 : Int32).toInt = 0 := rfl
        have t_973 : (M964.2.1 77 8).toInt = (0 : Int32).toInt := congrArg Int32.toInt c_971
        exact h M964 hG965 F966 (by omega) (by omega) (by omega)
    · refine to_an (pc := 11) rw_156_11 rfl (s_gR (pc := 12) rw_156_12 hG rfl (v := 78) rfl (to_an (pc := 15) rw_156_15 rfl (tt_gI (pc := 16) rw_156_16 (g_o hG rfl) (v := (N.2.1 77 7)) rfl (s_ial (pc := 19) rw_156_19 hG rfl (n := 500) rfl rfl (A := (N.2.1 77 7).toInt) rfl (by omega) (by omega) (lo := 0) (hi := 255) rfl rfl (fun v974 w_975 _ _ => to_c (pc := 20) rw_156_20 (x := (10 : Int32)) rfl rfl (b_ceq (pc := 22) rw_156_22 (A := v974.toInt) (B := 10) rfl rfl (fun h976 => ?_) (fun h976 => ?_)))))))
      · refine to_an (pc := 39) rw_156_39 rfl (to_dupr (pc := 40) rw_156_40 (tt_gI (pc := 41) rw_156_41 (g_o hG rfl) (v := (N.2.1 77 7)) rfl (to_c (pc := 44) rw_156_44 (x := (1 : Int32)) rfl rfl (s_add (pc := 45) rw_156_45 (A := (N.2.1 77 7).toInt) (B := 1) rfl rfl (by omega) (fun v977 e978 => s_pI (pc := 46) rw_156_46 hG rfl (fun M980 W979 => ?_))))))
        have hG981 := g_w hG W979 (A := v977.toInt) rfl (lo := 0) (hi := 500) rfl rfl (by omega) (by decide)
        have F982 := FR.w F0 W979 (show 77 = 77 ∧ 7 ≤ 7 ∧ 7 ≤ 10 by decide)
        refine to_go (pc := 49) rw_156_49 ?_
        have c_983 : M980.2.1 77 7 = v977 := (W_e W979)
        have t_984 : (M980.2.1 77 7).toInt = v977.toInt := congrArg Int32.toInt c_983
        have c_985 : M980.2.1 77 6 = (N.2.1 77 6) := (W_n W979 (by decide) rfl)
        have t_986 : (M980.2.1 77 6).toInt = (N.2.1 77 6).toInt := congrArg Int32.toInt c_985
        exact ih M980  hG981 F982 (by omega) (by omega) (by omega)
      · refine to_an (pc := 25) rw_156_25 rfl (s_gR (pc := 26) rw_156_26 hG rfl (v := 78) rfl (to_an (pc := 29) rw_156_29 rfl (tt_gI (pc := 30) rw_156_30 (g_o hG rfl) (v := (N.2.1 77 7)) rfl (s_ialk (pc := 33) rw_156_33 hG rfl (n := 500) rfl rfl (A := (N.2.1 77 7).toInt) rfl (by omega) (by omega) (v := v974) w_975 (to_c (pc := 34) rw_156_34 (x := (32 : Int32)) rfl rfl (b_cne (pc := 36) rw_156_36 (A := v974.toInt) (B := 32) rfl rfl (fun h989 => ?_) (fun h989 => ?_)))))))
        · refine to_an (pc := 52) rw_156_52 rfl (to_an (pc := 53) rw_156_53 rfl (tt_gI (pc := 54) rw_156_54 (g_o hG rfl) (v := (N.2.1 77 7)) rfl (s_pI (pc := 57) rw_156_57 hG rfl (fun M991 W990 => ?_))))
          have hG992 := g_w hG W990 (A := (N.2.1 77 7).toInt) rfl (lo := 0) (hi := 500) rfl rfl (by omega) (by decide)
          have F993 := FR.w F0 W990 (show 77 = 77 ∧ 7 ≤ 10 ∧ 10 ≤ 10 by decide)
          refine to_an (pc := 60) rw_156_60 rfl ?_
          have c_994 : M991.2.1 77 7 = (N.2.1 77 7) := (W_n W990 (by decide) rfl)
          refine tt_gI (pc := 61) rw_156_61 (g_o hG992 rfl) (v := (N.2.1 77 7)) c_994 (to_an (pc := 64) rw_156_64 rfl ?_)
          have c_995 : M991.2.1 77 6 = (N.2.1 77 6) := (W_n W990 (by decide) rfl)
          refine tt_gI (pc := 65) rw_156_65 (g_o hG992 rfl) (v := (N.2.1 77 6)) c_995 (b_cne (pc := 68) rw_156_68 (A := (N.2.1 77 7).toInt) (B := (N.2.1 77 6).toInt) rfl rfl (fun h996 => ?_) (fun h996 => ?_))
          · refine to_an (pc := 79) rw_156_79 rfl (to_an (pc := 80) rw_156_80 rfl (tt_gI (pc := 81) rw_156_81 (g_o hG992 rfl) (v := (N.2.1 77 7)) c_994 (s_v (pc := 84) rw_156_84 (dp0 hd (by decide)) (ls0 := [.ref 77, .int (N.2.1 77 7)]) rfl (Nat.le_of_ble_eq_true rfl) (Nat.le_of_ble_eq_true rfl) rfl (to_rc rfl rfl rfl (g_o hG992 rfl)) rfl (to_in (pc := 0) rw_154_0 rfl (to_an (pc := 1) rw_154_1 rfl (tt_gI (pc := 2) rw_154_2 (g_o hG992 rfl) (v := (N.2.1 77 6)) c_995 (b_cge (pc := 5) rw_154_5 (A := (N.2.1 77 7).toInt) (B := (N.2.1 77 6).toInt) rfl rfl (fun h997 => ?_) (fun h997 => ?_))))))))
            · refine to_c (pc := 34) rw_154_34 (x := (0 : Int32)) rfl rfl (s_r1 (pc := 35) rw_154_35 (A := 0) rfl (by decide) (b_ieq_t (pc := 87) rw_156_87 (A := 0) rfl (by decide) (to_an (pc := 191) rw_156_191 rfl (to_an (pc := 192) rw_156_192 rfl (tt_gI (pc := 193) rw_156_193 (g_o hG992 rfl) (v := (N.2.1 77 7)) c_994 (s_v (pc := 196) rw_156_196 (dp0 hd (by decide)) (ls0 := [.ref 77, .int (N.2.1 77 7)]) rfl (Nat.le_of_ble_eq_true rfl) (Nat.le_of_ble_eq_true rfl) rfl (to_rc rfl rfl rfl (g_o hG992 rfl)) rfl (to_in (pc := 0) rw_155_0 rfl (to_an (pc := 1) rw_155_1 rfl (tt_gI (pc := 2) rw_155_2 (g_o hG992 rfl) (v := (N.2.1 77 6)) c_995 (b_cge (pc := 5) rw_155_5 (A := (N.2.1 77 7).toInt) (B := (N.2.1 77 6).toInt) rfl rfl (fun h998 => ?_) (fun h998 => ?_)))))))))))
              · refine to_c (pc := 34) rw_155_34 (x := (0 : Int32)) rfl rfl (s_r1 (pc := 35) rw_155_35 (A := 0) rfl (by decide) (b_ieq_t (pc := 199) rw_156_199 (A := 0) rfl (by decide) (to_an (pc := 276) rw_156_276 rfl (to_an (pc := 277) rw_156_277 rfl (s_gR (pc := 278) rw_156_278 hG992 rfl (v := 78) rfl (to_an (pc := 281) rw_156_281 rfl (tt_gI (pc := 282) rw_156_282 (g_o hG992 rfl) (v := (N.2.1 77 7)) c_994 (s_ialk (pc := 285) rw_156_285 hG992 rfl (n := 500) rfl rfl (A := (N.2.1 77 7).toInt) rfl (by omega) (by omega) (v := v974) (W_n W990 (by omega) w_975) (s_pI (pc := 286) rw_156_286 hG992 rfl (fun M1002 W1001 => ?_))))))))))
                have hG1003 := g_wf hG992 W1001 rfl rfl (by decide)
                have F1004 := FR.w F993 W1001 (show 77 = 77 ∧ 7 ≤ 9 ∧ 9 ≤ 10 by decide)
                refine to_an (pc := 289) rw_156_289 rfl (to_an (pc := 290) rw_156_290 rfl ?_)
                have c_1005 : M1002.2.1 77 9 = v974 := (W_e W1001)
                refine tt_gI (pc := 291) rw_156_291 (g_o hG1003 rfl) (v := v974) c_1005 (to_c (pc := 294) rw_156_294 (x := (59 : Int32)) rfl rfl (b_ceq (pc := 296) rw_156_296 (A := v974.toInt) (B := 59) rfl rfl (fun h1006 => ?_) (fun h1006 => ?_)))
                · refine to_c (pc := 326) rw_156_326 (x := (4 : Int32)) rfl rfl (to_go (pc := 327) rw_156_327 (s_pI (pc := 331) rw_156_331 hG1003 rfl (fun M1008 W1007 => ?_)))
                  have hG1009 := g_w hG1003 W1007 (A := 4) rfl (lo := 0) (hi := 5) rfl rfl (by omega) (by decide)
                  have F1010 := FR.w F1004 W1007 (show 77 = 77 ∧ 7 ≤ 8 ∧ 8 ≤ 10 by decide)
                  refine to_an (pc := 334) rw_156_334 rfl (to_dupr (pc := 335) rw_156_335 ?_)
                  have c_1011 : M1008.2.1 77 7 = (N.2.1 77 7) := (W_n W1007 (by decide) (W_n W1001 (by decide) c_994))
                  refine tt_gI (pc := 336) rw_156_336 (g_o hG1009 rfl) (v := (N.2.1 77 7)) c_1011 (to_c (pc := 339) rw_156_339 (x := (1 : Int32)) rfl rfl (s_add (pc := 340) rw_156_340 (A := (N.2.1 77 7).toInt) (B := 1) rfl rfl (by omega) (fun v1012 e1013 => s_pI (pc := 341) rw_156_341 hG1009 rfl (fun M1015 W1014 => ?_))))
                  have hG1016 := g_w hG1009 W1014 (A := v1012.toInt) rfl (lo := 0) (hi := 500) rfl rfl (by omega) (by decide)
                  have F1017 := FR.w F1010 W1014 (show 77 = 77 ∧ 7 ≤ 7 ∧ 7 ≤ 10 by decide)
                  refine to_rv (pc := 344) rw_156_344 ?_
                  have c_1018 : M1015.2.1 77 7 = v1012 := (W_e W1014)
                  have t_1019 : (M1015.2.1 77 7).toInt = v1012.toInt := congrArg Int32.toInt c_1018
                  have c_1020 : M1015.2.1 77 6 = (N.2.1 77 6) := (W_n W1014 (by decide) (W_n W1007 (by decide) (W_n W1001 (by decide) c_995)))
                  have t_1021 : (M1015.2.1 77 6).toInt = (N.2.1 77 6).toInt := congrArg Int32.toInt c_1020
                  have c_1022 : M1015.2.1 77 8 = (4 : Int32) := (W_n W1014 (by decide) (W_e W1007))
                  have k_1023 : (4 : Int32).toInt = 4 := rfl
                  have t_1024 : (M1015.2.1 77 8).toInt = (4 : Int32).toInt := congrArg Int32.toInt c_1022
                  exact h M1015 hG1016 F1017 (by omega) (by omega) (by omega)
                · refine to_an (pc := 299) rw_156_299 rfl (tt_gI (pc := 300) rw_156_300 (g_o hG1003 rfl) (v := v974) c_1005 (to_c (pc := 303) rw_156_303 (x := (40 : Int32)) rfl rfl (b_ceq (pc := 305) rw_156_305 (A := v974.toInt) (B := 40) rfl rfl (fun h1025 => ?_) (fun h1025 => ?_))))
                  · refine to_c (pc := 326) rw_156_326 (x := (4 : Int32)) rfl rfl (to_go (pc := 327) rw_156_327 (s_pI (pc := 331) rw_156_331 hG1003 rfl (fun M1027 W1026 => ?_)))
                    have hG1028 := g_w hG1003 W1026 (A := 4) rfl (lo := 0) (hi := 5) rfl rfl (by omega) (by decide)
                    have F1029 := FR.w F1004 W1026 (show 77 = 77 ∧ 7 ≤ 8 ∧ 8 ≤ 10 by decide)
                    refine to_an (pc := 334) rw_156_334 rfl (to_dupr (pc := 335) rw_156_335 ?_)
                    have c_1030 : M1027.2.1 77 7 = (N.2.1 77 7) := (W_n W1026 (by decide) (W_n W1001 (by decide) c_994))
                    refine tt_gI (pc := 336) rw_156_336 (g_o hG1028 rfl) (v := (N.2.1 77 7)) c_1030 (to_c (pc := 339) rw_156_339 (x := (1 : Int32)) rfl rfl (s_add (pc := 340) rw_156_340 (A := (N.2.1 77 7).toInt) (B := 1) rfl rfl (by omega) (fun v1031 e1032 => s_pI (pc := 341) rw_156_341 hG1028 rfl (fun M1034 W1033 => ?_))))
                    have hG1035 := g_w hG1028 W1033 (A := v1031.toInt) rfl (lo := 0) (hi := 500) rfl rfl (by omega) (by decide)
                    have F1036 := FR.w F1029 W1033 (show 77 = 77 ∧ 7 ≤ 7 ∧ 7 ≤ 10 by decide)
                    refine to_rv (pc := 344) rw_156_344 ?_
                    have c_1037 : M1034.2.1 77 7 = v1031 := (W_e W1033)
                    have t_1038 : (M1034.2.1 77 7).toInt = v1031.toInt := congrArg Int32.toInt c_1037
                    have c_1039 : M1034.2.1 77 6 = (N.2.1 77 6) := (W_n W1033 (by decide) (W_n W1026 (by decide) (W_n W1001 (by decide) c_995)))
                    have t_1040 : (M1034.2.1 77 6).toInt = (N.2.1 77 6).toInt := congrArg Int32.toInt c_1039
                    have c_1041 : M1034.2.1 77 8 = (4 : Int32) := (W_n W1033 (by decide) (W_e W1026))
                    have k_1042 : (4 : Int32).toInt = 4 := rfl
                    have t_1043 : (M1034.2.1 77 8).toInt = (4 : Int32).toInt := congrArg Int32.toInt c_1041
                    exact h M1034 hG1035 F1036 (by omega) (by omega) (by omega)
                  · refine to_an (pc := 308) rw_156_308 rfl (tt_gI (pc := 309) rw_156_309 (g_o hG1003 rfl) (v := v974) c_1005 (to_c (pc := 312) rw_156_312 (x := (41 : Int32)) rfl rfl (b_ceq (pc := 314) rw_156_314 (A := v974.toInt) (B := 41) rfl rfl (fun h1044 => ?_) (fun h1044 => ?_))))
                    · refine to_c (pc := 326) rw_156_326 (x := (4 : Int32)) rfl rfl (to_go (pc := 327) rw_156_327 (s_pI (pc := 331) rw_156_331 hG1003 rfl (fun M1046 W1045 => ?_)))
                      have hG1047 := g_w hG1003 W1045 (A := 4) rfl (lo := 0) (hi := 5) rfl rfl (by omega) (by decide)
                      have F1048 := FR.w F1004 W1045 (show 77 = 77 ∧ 7 ≤ 8 ∧ 8 ≤ 10 by decide)
                      refine to_an (pc := 334) rw_156_334 rfl (to_dupr (pc := 335) rw_156_335 ?_)
                      have c_1049 : M1046.2.1 77 7 = (N.2.1 77 7) := (W_n W1045 (by decide) (W_n W1001 (by decide) c_994))
                      refine tt_gI (pc := 336) rw_156_336 (g_o hG1047 rfl) (v := (N.2.1 77 7)) c_1049 (to_c (pc := 339) rw_156_339 (x := (1 : Int32)) rfl rfl (s_add (pc := 340) rw_156_340 (A := (N.2.1 77 7).toInt) (B := 1) rfl rfl (by omega) (fun v1050 e1051 => s_pI (pc := 341) rw_156_341 hG1047 rfl (fun M1053 W1052 => ?_))))
                      have hG1054 := g_w hG1047 W1052 (A := v1050.toInt) rfl (lo := 0) (hi := 500) rfl rfl (by omega) (by decide)
                      have F1055 := FR.w F1048 W1052 (show 77 = 77 ∧ 7 ≤ 7 ∧ 7 ≤ 10 by decide)
                      refine to_rv (pc := 344) rw_156_344 ?_
                      have c_1056 : M1053.2.1 77 7 = v1050 := (W_e W1052)
                      have t_1057 : (M1053.2.1 77 7).toInt = v1050.toInt := congrArg Int32.toInt c_1056
                      have c_1058 : M1053.2.1 77 6 = (N.2.1 77 6) := (W_n W1052 (by decide) (W_n W1045 (by decide) (W_n W1001 (by decide) c_995)))
                      have t_1059 : (M1053.2.1 77 6).toInt = (N.2.1 77 6).toInt := congrArg Int32.toInt c_1058
                      have c_1060 : M1053.2.1 77 8 = (4 : Int32) := (W_n W1052 (by decide) (W_e W1045))
                      have k_1061 : (4 : Int32).toInt = 4 := rfl
                      have t_1062 : (M1053.2.1 77 8).toInt = (4 : Int32).toInt := congrArg Int32.toInt c_1060
                      exact h M1053 hG1054 F1055 (by omega) (by omega) (by omega)
                    · refine to_an (pc := 317) rw_156_317 rfl (tt_gI (pc := 318) rw_156_318 (g_o hG1003 rfl) (v := v974) c_1005 (to_c (pc := 321) rw_156_321 (x := (61 : Int32)) rfl rfl (b_cne (pc := 323) rw_156_323 (A := v974.toInt) (B := 61) rfl rfl (fun h1063 => ?_) (fun h1063 => ?_))))
                      · refine to_c (pc := 330) rw_156_330 (x := (5 : Int32)) rfl rfl (s_pI (pc := 331) rw_156_331 hG1003 rfl (fun M1065 W1064 => ?_))
                        have hG1066 := g_w hG1003 W1064 (A := 5) rfl (lo := 0) (hi := 5) rfl rfl (by omega) (by decide)
                        have F1067 := FR.w F1004 W1064 (show 77 = 77 ∧ 7 ≤ 8 ∧ 8 ≤ 10 by decide)
                        refine to_an (pc := 334) rw_156_334 rfl (to_dupr (pc := 335) rw_156_335 ?_)
                        have c_1068 : M1065.2.1 77 7 = (N.2.1 77 7) := (W_n W1064 (by decide) (W_n W1001 (by decide) c_994))
                        refine tt_gI (pc := 336) rw_156_336 (g_o hG1066 rfl) (v := (N.2.1 77 7)) c_1068 (to_c (pc := 339) rw_156_339 (x := (1 : Int32)) rfl rfl (s_add (pc := 340) rw_156_340 (A := (N.2.1 77 7).toInt) (B := 1) rfl rfl (by omega) (fun v1069 e1070 => s_pI (pc := 341) rw_156_341 hG1066 rfl (fun M1072 W1071 => ?_))))
                        have hG1073 := g_w hG1066 W1071 (A := v1069.toInt) rfl (lo := 0) (hi := 500) rfl rfl (by omega) (by decide)
                        have F1074 := FR.w F1067 W1071 (show 77 = 77 ∧ 7 ≤ 7 ∧ 7 ≤ 10 by decide)
                        refine to_rv (pc := 344) rw_156_344 ?_
                        have c_1075 : M1072.2.1 77 7 = v1069 := (W_e W1071)
                        have t_1076 : (M1072.2.1 77 7).toInt = v1069.toInt := congrArg Int32.toInt c_1075
                        have c_1077 : M1072.2.1 77 6 = (N.2.1 77 6) := (W_n W1071 (by decide) (W_n W1064 (by decide) (W_n W1001 (by decide) c_995)))
                        have t_1078 : (M1072.2.1 77 6).toInt = (N.2.1 77 6).toInt := congrArg Int32.toInt c_1077
                        have c_1079 : M1072.2.1 77 8 = (5 : Int32) := (W_n W1071 (by decide) (W_e W1064))
                        have k_1080 : (5 : Int32).toInt = 5 := rfl
                        have t_1081 : (M1072.2.1 77 8).toInt = (5 : Int32).toInt := congrArg Int32.toInt c_1079
                        exact h M1072 hG1073 F1074 (by omega) (by omega) (by omega)
                      · refine to_c (pc := 326) rw_156_326 (x := (4 : Int32)) rfl rfl (to_go (pc := 327) rw_156_327 (s_pI (pc := 331) rw_156_331 hG1003 rfl (fun M1083 W1082 => ?_)))
                        have hG1084 := g_w hG1003 W1082 (A := 4) rfl (lo := 0) (hi := 5) rfl rfl (by omega) (by decide)
                        have F1085 := FR.w F1004 W1082 (show 77 = 77 ∧ 7 ≤ 8 ∧ 8 ≤ 10 by decide)
                        refine to_an (pc := 334) rw_156_334 rfl (to_dupr (pc := 335) rw_156_335 ?_)
                        have c_1086 : M1083.2.1 77 7 = (N.2.1 77 7) := (W_n W1082 (by decide) (W_n W1001 (by decide) c_994))
                        refine tt_gI (pc := 336) rw_156_336 (g_o hG1084 rfl) (v := (N.2.1 77 7)) c_1086 (to_c (pc := 339) rw_156_339 (x := (1 : Int32)) rfl rfl (s_add (pc := 340) rw_156_340 (A := (N.2.1 77 7).toInt) (B := 1) rfl rfl (by omega) (fun v1087 e1088 => s_pI (pc := 341) rw_156_341 hG1084 rfl (fun M1090 W1089 => ?_))))
                        have hG1091 := g_w hG1084 W1089 (A := v1087.toInt) rfl (lo := 0) (hi := 500) rfl rfl (by omega) (by decide)
                        have F1092 := FR.w F1085 W1089 (show 77 = 77 ∧ 7 ≤ 7 ∧ 7 ≤ 10 by decide)
                        refine to_rv (pc := 344) rw_156_344 ?_
                        have c_1093 : M1090.2.1 77 7 = v1087 := (W_e W1089)
                        have t_1094 : (M1090.2.1 77 7).toInt = v1087.toInt := congrArg Int32.toInt c_1093
                        have c_1095 : M1090.2.1 77 6 = (N.2.1 77 6) := (W_n W1089 (by decide) (W_n W1082 (by decide) (W_n W1001 (by decide) c_995)))
                        have t_1096 : (M1090.2.1 77 6).toInt = (N.2.1 77 6).toInt := congrArg Int32.toInt c_1095
                        have c_1097 : M1090.2.1 77 8 = (4 : Int32) := (W_n W1089 (by decide) (W_e W1082))
                        have k_1098 : (4 : Int32).toInt = 4 := rfl
                        have t_1099 : (M1090.2.1 77 8).toInt = (4 : Int32).toInt := congrArg Int32.toInt c_1097
                        exact h M1090 hG1091 F1092 (by omega) (by omega) (by omega)
              · refine to_an (pc := 8) rw_155_8 rfl (s_gR (pc := 9) rw_155_9 hG992 rfl (v := 78) rfl (to_in (pc := 12) rw_155_12 rfl (s_ialk (pc := 13) rw_155_13 hG992 rfl (n := 500) rfl rfl (A := (N.2.1 77 7).toInt) rfl (by omega) (by omega) (v := v974) (W_n W990 (by omega) w_975) (to_c (pc := 14) rw_155_14 (x := (48 : Int32)) rfl rfl (b_clt (pc := 16) rw_155_16 (A := v974.toInt) (B := 48) rfl rfl (fun h1102 => ?_) (fun h1102 => ?_))))))
                · refine to_c (pc := 34) rw_155_34 (x := (0 : Int32)) rfl rfl (s_r1 (pc := 35) rw_155_35 (A := 0) rfl (by decide) (b_ieq_t (pc := 199) rw_156_199 (A := 0) rfl (by decide) (to_an (pc := 276) rw_156_276 rfl (to_an (pc := 277) rw_156_277 rfl (s_gR (pc := 278) rw_156_278 hG992 rfl (v := 78) rfl (to_an (pc := 281) rw_156_281 rfl (tt_gI (pc := 282) rw_156_282 (g_o hG992 rfl) (v := (N.2.1 77 7)) c_994 (s_ialk (pc := 285) rw_156_285 hG992 rfl (n := 500) rfl rfl (A := (N.2.1 77 7).toInt) rfl (by omega) (by omega) (v := v974) (W_n W990 (by omega) w_975) (s_pI (pc := 286) rw_156_286 hG992 rfl (fun M1106 W1105 => ?_))))))))))
                  have hG1107 := g_wf hG992 W1105 rfl rfl (by decide)
                  have F1108 := FR.w F993 W1105 (show 77 = 77 ∧ 7 ≤ 9 ∧ 9 ≤ 10 by decide)
                  refine to_an (pc := 289) rw_156_289 rfl (to_an (pc := 290) rw_156_290 rfl ?_)
                  have c_1109 : M1106.2.1 77 9 = v974 := (W_e W1105)
                  refine tt_gI (pc := 291) rw_156_291 (g_o hG1107 rfl) (v := v974) c_1109 (to_c (pc := 294) rw_156_294 (x := (59 : Int32)) rfl rfl (b_ceq_f (pc := 296) rw_156_296 (A := v974.toInt) (B := 59) rfl rfl (by omega) (to_an (pc := 299) rw_156_299 rfl (tt_gI (pc := 300) rw_156_300 (g_o hG1107 rfl) (v := v974) c_1109 (to_c (pc := 303) rw_156_303 (x := (40 : Int32)) rfl rfl (b_ceq (pc := 305) rw_156_305 (A := v974.toInt) (B := 40) rfl rfl (fun h1110 => ?_) (fun h1110 => ?_)))))))
                  · refine to_c (pc := 326) rw_156_326 (x := (4 : Int32)) rfl rfl (to_go (pc := 327) rw_156_327 (s_pI (pc := 331) rw_156_331 hG1107 rfl (fun M1112 W1111 => ?_)))
                    have hG1113 := g_w hG1107 W1111 (A := 4) rfl (lo := 0) (hi := 5) rfl rfl (by omega) (by decide)
                    have F1114 := FR.w F1108 W1111 (show 77 = 77 ∧ 7 ≤ 8 ∧ 8 ≤ 10 by decide)
                    refine to_an (pc := 334) rw_156_334 rfl (to_dupr (pc := 335) rw_156_335 ?_)
                    have c_1115 : M1112.2.1 77 7 = (N.2.1 77 7) := (W_n W1111 (by decide) (W_n W1105 (by decide) c_994))
                    refine tt_gI (pc := 336) rw_156_336 (g_o hG1113 rfl) (v := (N.2.1 77 7)) c_1115 (to_c (pc := 339) rw_156_339 (x := (1 : Int32)) rfl rfl (s_add (pc := 340) rw_156_340 (A := (N.2.1 77 7).toInt) (B := 1) rfl rfl (by omega) (fun v1116 e1117 => s_pI (pc := 341) rw_156_341 hG1113 rfl (fun M1119 W1118 => ?_))))
                    have hG1120 := g_w hG1113 W1118 (A := v1116.toInt) rfl (lo := 0) (hi := 500) rfl rfl (by omega) (by decide)
                    have F1121 := FR.w F1114 W1118 (show 77 = 77 ∧ 7 ≤ 7 ∧ 7 ≤ 10 by decide)
                    refine to_rv (pc := 344) rw_156_344 ?_
                    have c_1122 : M1119.2.1 77 7 = v1116 := (W_e W1118)
                    have t_1123 : (M1119.2.1 77 7).toInt = v1116.toInt := congrArg Int32.toInt c_1122
                    have c_1124 : M1119.2.1 77 6 = (N.2.1 77 6) := (W_n W1118 (by decide) (W_n W1111 (by decide) (W_n W1105 (by decide) c_995)))
                    have t_1125 : (M1119.2.1 77 6).toInt = (N.2.1 77 6).toInt := congrArg Int32.toInt c_1124
                    have c_1126 : M1119.2.1 77 8 = (4 : Int32) := (W_n W1118 (by decide) (W_e W1111))
                    have k_1127 : (4 : Int32).toInt = 4 := rfl
                    have t_1128 : (M1119.2.1 77 8).toInt = (4 : Int32).toInt := congrArg Int32.toInt c_1126
                    exact h M1119 hG1120 F1121 (by omega) (by omega) (by omega)
                  · refine to_an (pc := 308) rw_156_308 rfl (tt_gI (pc := 309) rw_156_309 (g_o hG1107 rfl) (v := v974) c_1109 (to_c (pc := 312) rw_156_312 (x := (41 : Int32)) rfl rfl (b_ceq (pc := 314) rw_156_314 (A := v974.toInt) (B := 41) rfl rfl (fun h1129 => ?_) (fun h1129 => ?_))))
                    · refine to_c (pc := 326) rw_156_326 (x := (4 : Int32)) rfl rfl (to_go (pc := 327) rw_156_327 (s_pI (pc := 331) rw_156_331 hG1107 rfl (fun M1131 W1130 => ?_)))
                      have hG1132 := g_w hG1107 W1130 (A := 4) rfl (lo := 0) (hi := 5) rfl rfl (by omega) (by decide)
                      have F1133 := FR.w F1108 W1130 (show 77 = 77 ∧ 7 ≤ 8 ∧ 8 ≤ 10 by decide)
                      refine to_an (pc := 334) rw_156_334 rfl (to_dupr (pc := 335) rw_156_335 ?_)
                      have c_1134 : M1131.2.1 77 7 = (N.2.1 77 7) := (W_n W1130 (by decide) (W_n W1105 (by decide) c_994))
                      refine tt_gI (pc := 336) rw_156_336 (g_o hG1132 rfl) (v := (N.2.1 77 7)) c_1134 (to_c (pc := 339) rw_156_339 (x := (1 : Int32)) rfl rfl (s_add (pc := 340) rw_156_340 (A := (N.2.1 77 7).toInt) (B := 1) rfl rfl (by omega) (fun v1135 e1136 => s_pI (pc := 341) rw_156_341 hG1132 rfl (fun M1138 W1137 => ?_))))
                      have hG1139 := g_w hG1132 W1137 (A := v1135.toInt) rfl (lo := 0) (hi := 500) rfl rfl (by omega) (by decide)
                      have F1140 := FR.w F1133 W1137 (show 77 = 77 ∧ 7 ≤ 7 ∧ 7 ≤ 10 by decide)
                      refine to_rv (pc := 344) rw_156_344 ?_
                      have c_1141 : M1138.2.1 77 7 = v1135 := (W_e W1137)
                      have t_1142 : (M1138.2.1 77 7).toInt = v1135.toInt := congrArg Int32.toInt c_1141
                      have c_1143 : M1138.2.1 77 6 = (N.2.1 77 6) := (W_n W1137 (by decide) (W_n W1130 (by decide) (W_n W1105 (by decide) c_995)))
                      have t_1144 : (M1138.2.1 77 6).toInt = (N.2.1 77 6).toInt := congrArg Int32.toInt c_1143
                      have c_1145 : M1138.2.1 77 8 = (4 : Int32) := (W_n W1137 (by decide) (W_e W1130))
                      have k_1146 : (4 : Int32).toInt = 4 := rfl
                      have t_1147 : (M1138.2.1 77 8).toInt = (4 : Int32).toInt := congrArg Int32.toInt c_1145
                      exact h M1138 hG1139 F1140 (by omega) (by omega) (by omega)
                    · refine to_an (pc := 317) rw_156_317 rfl (tt_gI (pc := 318) rw_156_318 (g_o hG1107 rfl) (v := v974) c_1109 (to_c (pc := 321) rw_156_321 (x := (61 : Int32)) rfl rfl (b_cne_t (pc := 323) rw_156_323 (A := v974.toInt) (B := 61) rfl rfl (by omega) (to_c (pc := 330) rw_156_330 (x := (5 : Int32)) rfl rfl (s_pI (pc := 331) rw_156_331 hG1107 rfl (fun M1149 W1148 => ?_))))))
                      have hG1150 := g_w hG1107 W1148 (A := 5) rfl (lo := 0) (hi := 5) rfl rfl (by omega) (by decide)
                      have F1151 := FR.w F1108 W1148 (show 77 = 77 ∧ 7 ≤ 8 ∧ 8 ≤ 10 by decide)
                      refine to_an (pc := 334) rw_156_334 rfl (to_dupr (pc := 335) rw_156_335 ?_)
                      have c_1152 : M1149.2.1 77 7 = (N.2.1 77 7) := (W_n W1148 (by decide) (W_n W1105 (by decide) c_994))
                      refine tt_gI (pc := 336) rw_156_336 (g_o hG1150 rfl) (v := (N.2.1 77 7)) c_1152 (to_c (pc := 339) rw_156_339 (x := (1 : Int32)) rfl rfl (s_add (pc := 340) rw_156_340 (A := (N.2.1 77 7).toInt) (B := 1) rfl rfl (by omega) (fun v1153 e1154 => s_pI (pc := 341) rw_156_341 hG1150 rfl (fun M1156 W1155 => ?_))))
                      have hG1157 := g_w hG1150 W1155 (A := v1153.toInt) rfl (lo := 0) (hi := 500) rfl rfl (by omega) (by decide)
                      have F1158 := FR.w F1151 W1155 (show 77 = 77 ∧ 7 ≤ 7 ∧ 7 ≤ 10 by decide)
                      refine to_rv (pc := 344) rw_156_344 ?_
                      have c_1159 : M1156.2.1 77 7 = v1153 := (W_e W1155)
                      have t_1160 : (M1156.2.1 77 7).toInt = v1153.toInt := congrArg Int32.toInt c_1159
                      have c_1161 : M1156.2.1 77 6 = (N.2.1 77 6) := (W_n W1155 (by decide) (W_n W1148 (by decide) (W_n W1105 (by decide) c_995)))
                      have t_1162 : (M1156.2.1 77 6).toInt = (N.2.1 77 6).toInt := congrArg Int32.toInt c_1161
                      have c_1163 : M1156.2.1 77 8 = (5 : Int32) := (W_n W1155 (by decide) (W_e W1148))
                      have k_1164 : (5 : Int32).toInt = 5 := rfl
                      have t_1165 : (M1156.2.1 77 8).toInt = (5 : Int32).toInt := congrArg Int32.toInt c_1163
                      exact h M1156 hG1157 F1158 (by omega) (by omega) (by omega)
                · refine to_an (pc := 19) rw_155_19 rfl (s_gR (pc := 20) rw_155_20 hG992 rfl (v := 78) rfl (to_in (pc := 23) rw_155_23 rfl (s_ialk (pc := 24) rw_155_24 hG992 rfl (n := 500) rfl rfl (A := (N.2.1 77 7).toInt) rfl (by omega) (by omega) (v := v974) (W_n W990 (by omega) w_975) (to_c (pc := 25) rw_155_25 (x := (57 : Int32)) rfl rfl (b_cgt (pc := 27) rw_155_27 (A := v974.toInt) (B := 57) rfl rfl (fun h1168 => ?_) (fun h1168 => ?_))))))
                  · refine to_c (pc := 34) rw_155_34 (x := (0 : Int32)) rfl rfl (s_r1 (pc := 35) rw_155_35 (A := 0) rfl (by decide) (b_ieq_t (pc := 199) rw_156_199 (A := 0) rfl (by decide) (to_an (pc := 276) rw_156_276 rfl (to_an (pc := 277) rw_156_277 rfl (s_gR (pc := 278) rw_156_278 hG992 rfl (v := 78) rfl (to_an (pc := 281) rw_156_281 rfl (tt_gI (pc := 282) rw_156_282 (g_o hG992 rfl) (v := (N.2.1 77 7)) c_994 (s_ialk (pc := 285) rw_156_285 hG992 rfl (n := 500) rfl rfl (A := (N.2.1 77 7).toInt) rfl (by omega) (by omega) (v := v974) (W_n W990 (by omega) w_975) (s_pI (pc := 286) rw_156_286 hG992 rfl (fun M1172 W1171 => ?_))))))))))
                    have hG1173 := g_wf hG992 W1171 rfl rfl (by decide)
                    have F1174 := FR.w F993 W1171 (show 77 = 77 ∧ 7 ≤ 9 ∧ 9 ≤ 10 by decide)
                    refine to_an (pc := 289) rw_156_289 rfl (to_an (pc := 290) rw_156_290 rfl ?_)
                    have c_1175 : M1172.2.1 77 9 = v974 := (W_e W1171)
                    refine tt_gI (pc := 291) rw_156_291 (g_o hG1173 rfl) (v := v974) c_1175 (to_c (pc := 294) rw_156_294 (x := (59 : Int32)) rfl rfl (b_ceq (pc := 296) rw_156_296 (A := v974.toInt) (B := 59) rfl rfl (fun h1176 => ?_) (fun h1176 => ?_)))
                    · refine to_c (pc := 326) rw_156_326 (x := (4 : Int32)) rfl rfl (to_go (pc := 327) rw_156_327 (s_pI (pc := 331) rw_156_331 hG1173 rfl (fun M1178 W1177 => ?_)))
                      have hG1179 := g_w hG1173 W1177 (A := 4) rfl (lo := 0) (hi := 5) rfl rfl (by omega) (by decide)
                      have F1180 := FR.w F1174 W1177 (show 77 = 77 ∧ 7 ≤ 8 ∧ 8 ≤ 10 by decide)
                      refine to_an (pc := 334) rw_156_334 rfl (to_dupr (pc := 335) rw_156_335 ?_)
                      have c_1181 : M1178.2.1 77 7 = (N.2.1 77 7) := (W_n W1177 (by decide) (W_n W1171 (by decide) c_994))
                      refine tt_gI (pc := 336) rw_156_336 (g_o hG1179 rfl) (v := (N.2.1 77 7)) c_1181 (to_c (pc := 339) rw_156_339 (x := (1 : Int32)) rfl rfl (s_add (pc := 340) rw_156_340 (A := (N.2.1 77 7).toInt) (B := 1) rfl rfl (by omega) (fun v1182 e1183 => s_pI (pc := 341) rw_156_341 hG1179 rfl (fun M1185 W1184 => ?_))))
                      have hG1186 := g_w hG1179 W1184 (A := v1182.toInt) rfl (lo := 0) (hi := 500) rfl rfl (by omega) (by decide)
                      have F1187 := FR.w F1180 W1184 (show 77 = 77 ∧ 7 ≤ 7 ∧ 7 ≤ 10 by decide)
                      refine to_rv (pc := 344) rw_156_344 ?_
                      have c_1188 : M1185.2.1 77 7 = v1182 := (W_e W1184)
                      have t_1189 : (M1185.2.1 77 7).toInt = v1182.toInt := congrArg Int32.toInt c_1188
                      have c_1190 : M1185.2.1 77 6 = (N.2.1 77 6) := (W_n W1184 (by decide) (W_n W1177 (by decide) (W_n W1171 (by decide) c_995)))
                      have t_1191 : (M1185.2.1 77 6).toInt = (N.2.1 77 6).toInt := congrArg Int32.toInt c_1190
                      have c_1192 : M1185.2.1 77 8 = (4 : Int32) := (W_n W1184 (by decide) (W_e W1177))
                      have k_1193 : (4 : Int32).toInt = 4 := rfl
                      have t_1194 : (M1185.2.1 77 8).toInt = (4 : Int32).toInt := congrArg Int32.toInt c_1192
                      exact h M1185 hG1186 F1187 (by omega) (by omega) (by omega)
                    · refine to_an (pc := 299) rw_156_299 rfl (tt_gI (pc := 300) rw_156_300 (g_o hG1173 rfl) (v := v974) c_1175 (to_c (pc := 303) rw_156_303 (x := (40 : Int32)) rfl rfl (b_ceq_f (pc := 305) rw_156_305 (A := v974.toInt) (B := 40) rfl rfl (by omega) (to_an (pc := 308) rw_156_308 rfl (tt_gI (pc := 309) rw_156_309 (g_o hG1173 rfl) (v := v974) c_1175 (to_c (pc := 312) rw_156_312 (x := (41 : Int32)) rfl rfl (b_ceq_f (pc := 314) rw_156_314 (A := v974.toInt) (B := 41) rfl rfl (by omega) (to_an (pc := 317) rw_156_317 rfl (tt_gI (pc := 318) rw_156_318 (g_o hG1173 rfl) (v := v974) c_1175 (to_c (pc := 321) rw_156_321 (x := (61 : Int32)) rfl rfl (b_cne (pc := 323) rw_156_323 (A := v974.toInt) (B := 61) rfl rfl (fun h1195 => ?_) (fun h1195 => ?_))))))))))))
                      · refine to_c (pc := 330) rw_156_330 (x := (5 : Int32)) rfl rfl (s_pI (pc := 331) rw_156_331 hG1173 rfl (fun M1197 W1196 => ?_))
                        have hG1198 := g_w hG1173 W1196 (A := 5) rfl (lo := 0) (hi := 5) rfl rfl (by omega) (by decide)
                        have F1199 := FR.w F1174 W1196 (show 77 = 77 ∧ 7 ≤ 8 ∧ 8 ≤ 10 by decide)
                        refine to_an (pc := 334) rw_156_334 rfl (to_dupr (pc := 335) rw_156_335 ?_)
                        have c_1200 : M1197.2.1 77 7 = (N.2.1 77 7) := (W_n W1196 (by decide) (W_n W1171 (by decide) c_994))
                        refine tt_gI (pc := 336) rw_156_336 (g_o hG1198 rfl) (v := (N.2.1 77 7)) c_1200 (to_c (pc := 339) rw_156_339 (x := (1 : Int32)) rfl rfl (s_add (pc := 340) rw_156_340 (A := (N.2.1 77 7).toInt) (B := 1) rfl rfl (by omega) (fun v1201 e1202 => s_pI (pc := 341) rw_156_341 hG1198 rfl (fun M1204 W1203 => ?_))))
                        have hG1205 := g_w hG1198 W1203 (A := v1201.toInt) rfl (lo := 0) (hi := 500) rfl rfl (by omega) (by decide)
                        have F1206 := FR.w F1199 W1203 (show 77 = 77 ∧ 7 ≤ 7 ∧ 7 ≤ 10 by decide)
                        refine to_rv (pc := 344) rw_156_344 ?_
                        have c_1207 : M1204.2.1 77 7 = v1201 := (W_e W1203)
                        have t_1208 : (M1204.2.1 77 7).toInt = v1201.toInt := congrArg Int32.toInt c_1207
                        have c_1209 : M1204.2.1 77 6 = (N.2.1 77 6) := (W_n W1203 (by decide) (W_n W1196 (by decide) (W_n W1171 (by decide) c_995)))
                        have t_1210 : (M1204.2.1 77 6).toInt = (N.2.1 77 6).toInt := congrArg Int32.toInt c_1209
                        have c_1211 : M1204.2.1 77 8 = (5 : Int32) := (W_n W1203 (by decide) (W_e W1196))
                        have k_1212 : (5 : Int32).toInt = 5 := rfl
                        have t_1213 : (M1204.2.1 77 8).toInt = (5 : Int32).toInt := congrArg Int32.toInt c_1211
                        exact h M1204 hG1205 F1206 (by omega) (by omega) (by omega)
                      · refine to_c (pc := 326) rw_156_326 (x := (4 : Int32)) rfl rfl (to_go (pc := 327) rw_156_327 (s_pI (pc := 331) rw_156_331 hG1173 rfl (fun M1215 W1214 => ?_)))
                        have hG1216 := g_w hG1173 W1214 (A := 4) rfl (lo := 0) (hi := 5) rfl rfl (by omega) (by decide)
                        have F1217 := FR.w F1174 W1214 (show 77 = 77 ∧ 7 ≤ 8 ∧ 8 ≤ 10 by decide)
                        refine to_an (pc := 334) rw_156_334 rfl (to_dupr (pc := 335) rw_156_335 ?_)
                        have c_1218 : M1215.2.1 77 7 = (N.2.1 77 7) := (W_n W1214 (by decide) (W_n W1171 (by decide) c_994))
                        refine tt_gI (pc := 336) rw_156_336 (g_o hG1216 rfl) (v := (N.2.1 77 7)) c_1218 (to_c (pc := 339) rw_156_339 (x := (1 : Int32)) rfl rfl (s_add (pc := 340) rw_156_340 (A := (N.2.1 77 7).toInt) (B := 1) rfl rfl (by omega) (fun v1219 e1220 => s_pI (pc := 341) rw_156_341 hG1216 rfl (fun M1222 W1221 => ?_))))
                        have hG1223 := g_w hG1216 W1221 (A := v1219.toInt) rfl (lo := 0) (hi := 500) rfl rfl (by omega) (by decide)
                        have F1224 := FR.w F1217 W1221 (show 77 = 77 ∧ 7 ≤ 7 ∧ 7 ≤ 10 by decide)
                        refine to_rv (pc := 344) rw_156_344 ?_
                        have c_1225 : M1222.2.1 77 7 = v1219 := (W_e W1221)
                        have t_1226 : (M1222.2.1 77 7).toInt = v1219.toInt := congrArg Int32.toInt c_1225
                        have c_1227 : M1222.2.1 77 6 = (N.2.1 77 6) := (W_n W1221 (by decide) (W_n W1214 (by decide) (W_n W1171 (by decide) c_995)))
                        have t_1228 : (M1222.2.1 77 6).toInt = (N.2.1 77 6).toInt := congrArg Int32.toInt c_1227
                        have c_1229 : M1222.2.1 77 8 = (4 : Int32) := (W_n W1221 (by decide) (W_e W1214))
                        have k_1230 : (4 : Int32).toInt = 4 := rfl
                        have t_1231 : (M1222.2.1 77 8).toInt = (4 : Int32).toInt := congrArg Int32.toInt c_1229
                        exact h M1222 hG1223 F1224 (by omega) (by omega) (by omega)
                  · refine to_c (pc := 30) rw_155_30 (x := (1 : Int32)) rfl rfl (to_go (pc := 31) rw_155_31 (s_r1 (pc := 35) rw_155_35 (A := 1) rfl (by decide) (b_ieq_f (pc := 199) rw_156_199 (A := 1) rfl (by decide) (to_an (pc := 202) rw_156_202 rfl (to_c (pc := 203) rw_156_203 (x := (3 : Int32)) rfl rfl (s_pI (pc := 204) rw_156_204 hG992 rfl (fun M1233 W1232 => ?_)))))))
                    have hG1234 := g_w hG992 W1232 (A := 3) rfl (lo := 0) (hi := 5) rfl rfl (by omega) (by decide)
                    have F1235 := FR.w F993 W1232 (show 77 = 77 ∧ 7 ≤ 8 ∧ 8 ≤ 10 by decide)
                    refine to_an (pc := 207) rw_156_207 rfl (to_c (pc := 208) rw_156_208 (x := (0 : Int32)) rfl rfl (s_pI (pc := 209) rw_156_209 hG1234 rfl (fun M1237 W1236 => ?_)))
                    have hG1238 := g_wf hG1234 W1236 rfl rfl (by decide)
                    have F1239 := FR.w F1235 W1236 (show 77 = 77 ∧ 7 ≤ 9 ∧ 9 ≤ 10 by decide)
                    refine to_an (pc := 212) rw_156_212 rfl (to_an (pc := 213) rw_156_213 rfl ?_)
                    have c_1240 : M1237.2.1 77 7 = (N.2.1 77 7) := (W_n W1236 (by decide) (W_n W1232 (by decide) c_994))
                    refine tt_gI (pc := 214) rw_156_214 (g_o hG1238 rfl) (v := (N.2.1 77 7)) c_1240 (s_v (pc := 217) rw_156_217 (dp0 hd (by decide)) (ls0 := [.ref 77, .int (N.2.1 77 7)]) rfl (Nat.le_of_ble_eq_true rfl) (Nat.le_of_ble_eq_true rfl) rfl (to_rc rfl rfl rfl (g_o hG1238 rfl)) rfl (to_in (pc := 0) rw_155_0 rfl (to_an (pc := 1) rw_155_1 rfl ?_)))
                    have c_1241 : M1237.2.1 77 6 = (N.2.1 77 6) := (W_n W1236 (by decide) (W_n W1232 (by decide) c_995))
                    refine tt_gI (pc := 2) rw_155_2 (g_o hG1238 rfl) (v := (N.2.1 77 6)) c_1241 (b_cge (pc := 5) rw_155_5 (A := (N.2.1 77 7).toInt) (B := (N.2.1 77 6).toInt) rfl rfl (fun h1242 => ?_) (fun h1242 => ?_))
                    · refine to_c (pc := 34) rw_155_34 (x := (0 : Int32)) rfl rfl (s_r1 (pc := 35) rw_155_35 (A := 0) rfl (by decide) (b_ieq_t (pc := 220) rw_156_220 (A := 0) rfl (by decide) (to_rv (pc := 344) rw_156_344 ?_)))
                      have t_1243 : (M1237.2.1 77 7).toInt = (N.2.1 77 7).toInt := congrArg Int32.toInt c_1240
                      have t_1244 : (M1237.2.1 77 6).toInt = (N.2.1 77 6).toInt := congrArg Int32.toInt c_1241
                      have c_1245 : M1237.2.1 77 8 = (3 : Int32) := (W_n W1236 (by decide) (W_e W1232))
                      have k_1246 : (3 : Int32).toInt = 3 := rfl
                      have t_1247 : (M1237.2.1 77 8).toInt = (3 : Int32).toInt := congrArg Int32.toInt c_1245
                      exact h M1237 hG1238 F1239 (by omega) (by omega) (by omega)
                    · refine to_an (pc := 8) rw_155_8 rfl (s_gR (pc := 9) rw_155_9 hG1238 rfl (v := 78) rfl (to_in (pc := 12) rw_155_12 rfl (s_ialk (pc := 13) rw_155_13 hG1238 rfl (n := 500) rfl rfl (A := (N.2.1 77 7).toInt) rfl (by omega) (by omega) (v := v974) (W_n W1236 (by omega) (W_n W1232 (by omega) (W_n W990 (by omega) w_975))) (to_c (pc := 14) rw_155_14 (x := (48 : Int32)) rfl rfl (b_clt_f (pc := 16) rw_155_16 (A := v974.toInt) (B := 48) rfl rfl (by omega) (to_an (pc := 19) rw_155_19 rfl (s_gR (pc := 20) rw_155_20 hG1238 rfl (v := 78) rfl (to_in (pc := 23) rw_155_23 rfl (s_ialk (pc := 24) rw_155_24 hG1238 rfl (n := 500) rfl rfl (A := (N.2.1 77 7).toInt) rfl (by omega) (by omega) (v := v974) (W_n W1236 (by omega) (W_n W1232 (by omega) (W_n W990 (by omega) w_975))) (to_c (pc := 25) rw_155_25 (x := (57 : Int32)) rfl rfl (b_cgt_f (pc := 27) rw_155_27 (A := v974.toInt) (B := 57) rfl rfl (by omega) ?_)))))))))))
                      refine to_c (pc := 30) rw_155_30 (x := (1 : Int32)) rfl rfl (to_go (pc := 31) rw_155_31 (s_r1 (pc := 35) rw_155_35 (A := 1) rfl (by decide) (b_ieq_f (pc := 220) rw_156_220 (A := 1) rfl (by decide) ?_)))
                      have t_1252 : (M1237.2.1 77 7).toInt = (N.2.1 77 7).toInt := congrArg Int32.toInt c_1240
                      have t_1253 : (M1237.2.1 77 6).toInt = (N.2.1 77 6).toInt := congrArg Int32.toInt c_1241
                      have c_1254 : M1237.2.1 77 10 = (N.2.1 77 7) := (W_n W1236 (by decide) (W_n W1232 (by decide) (W_e W990)))
                      have t_1255 : (M1237.2.1 77 10).toInt = (N.2.1 77 7).toInt := congrArg Int32.toInt c_1254
                      exact (T_156_0 hX hd q1 h ((500 - (M1237.2.1 77 7).toInt).toNat + 1)) M1237  hG1238 F1239 (by omega) (by omega) (by omega) (by omega)
            · refine to_an (pc := 8) rw_154_8 rfl (s_gR (pc := 9) rw_154_9 hG992 rfl (v := 78) rfl (to_in (pc := 12) rw_154_12 rfl (s_ialk (pc := 13) rw_154_13 hG992 rfl (n := 500) rfl rfl (A := (N.2.1 77 7).toInt) rfl (by omega) (by omega) (v := v974) (W_n W990 (by omega) w_975) (to_c (pc := 14) rw_154_14 (x := (97 : Int32)) rfl rfl (b_clt (pc := 16) rw_154_16 (A := v974.toInt) (B := 97) rfl rfl (fun h1258 => ?_) (fun h1258 => ?_))))))
              · refine to_c (pc := 34) rw_154_34 (x := (0 : Int32)) rfl rfl (s_r1 (pc := 35) rw_154_35 (A := 0) rfl (by decide) (b_ieq_t (pc := 87) rw_156_87 (A := 0) rfl (by decide) (to_an (pc := 191) rw_156_191 rfl (to_an (pc := 192) rw_156_192 rfl (tt_gI (pc := 193) rw_156_193 (g_o hG992 rfl) (v := (N.2.1 77 7)) c_994 (s_v (pc := 196) rw_156_196 (dp0 hd (by decide)) (ls0 := [.ref 77, .int (N.2.1 77 7)]) rfl (Nat.le_of_ble_eq_true rfl) (Nat.le_of_ble_eq_true rfl) rfl (to_rc rfl rfl rfl (g_o hG992 rfl)) rfl (to_in (pc := 0) rw_155_0 rfl (to_an (pc := 1) rw_155_1 rfl (tt_gI (pc := 2) rw_155_2 (g_o hG992 rfl) (v := (N.2.1 77 6)) c_995 (b_cge (pc := 5) rw_155_5 (A := (N.2.1 77 7).toInt) (B := (N.2.1 77 6).toInt) rfl rfl (fun h1259 => ?_) (fun h1259 => ?_)))))))))))
                · refine to_c (pc := 34) rw_155_34 (x := (0 : Int32)) rfl rfl (s_r1 (pc := 35) rw_155_35 (A := 0) rfl (by decide) (b_ieq_t (pc := 199) rw_156_199 (A := 0) rfl (by decide) (to_an (pc := 276) rw_156_276 rfl (to_an (pc := 277) rw_156_277 rfl (s_gR (pc := 278) rw_156_278 hG992 rfl (v := 78) rfl (to_an (pc := 281) rw_156_281 rfl (tt_gI (pc := 282) rw_156_282 (g_o hG992 rfl) (v := (N.2.1 77 7)) c_994 (s_ialk (pc := 285) rw_156_285 hG992 rfl (n := 500) rfl rfl (A := (N.2.1 77 7).toInt) rfl (by omega) (by omega) (v := v974) (W_n W990 (by omega) w_975) (s_pI (pc := 286) rw_156_286 hG992 rfl (fun M1263 W1262 => ?_))))))))))
                  have hG1264 := g_wf hG992 W1262 rfl rfl (by decide)
                  have F1265 := FR.w F993 W1262 (show 77 = 77 ∧ 7 ≤ 9 ∧ 9 ≤ 10 by decide)
                  refine to_an (pc := 289) rw_156_289 rfl (to_an (pc := 290) rw_156_290 rfl ?_)
                  have c_1266 : M1263.2.1 77 9 = v974 := (W_e W1262)
                  refine tt_gI (pc := 291) rw_156_291 (g_o hG1264 rfl) (v := v974) c_1266 (to_c (pc := 294) rw_156_294 (x := (59 : Int32)) rfl rfl (b_ceq (pc := 296) rw_156_296 (A := v974.toInt) (B := 59) rfl rfl (fun h1267 => ?_) (fun h1267 => ?_)))
                  · refine to_c (pc := 326) rw_156_326 (x := (4 : Int32)) rfl rfl (to_go (pc := 327) rw_156_327 (s_pI (pc := 331) rw_156_331 hG1264 rfl (fun M1269 W1268 => ?_)))
                    have hG1270 := g_w hG1264 W1268 (A := 4) rfl (lo := 0) (hi := 5) rfl rfl (by omega) (by decide)
                    have F1271 := FR.w F1265 W1268 (show 77 = 77 ∧ 7 ≤ 8 ∧ 8 ≤ 10 by decide)
                    refine to_an (pc := 334) rw_156_334 rfl (to_dupr (pc := 335) rw_156_335 ?_)
                    have c_1272 : M1269.2.1 77 7 = (N.2.1 77 7) := (W_n W1268 (by decide) (W_n W1262 (by decide) c_994))
                    refine tt_gI (pc := 336) rw_156_336 (g_o hG1270 rfl) (v := (N.2.1 77 7)) c_1272 (to_c (pc := 339) rw_156_339 (x := (1 : Int32)) rfl rfl (s_add (pc := 340) rw_156_340 (A := (N.2.1 77 7).toInt) (B := 1) rfl rfl (by omega) (fun v1273 e1274 => s_pI (pc := 341) rw_156_341 hG1270 rfl (fun M1276 W1275 => ?_))))
                    have hG1277 := g_w hG1270 W1275 (A := v1273.toInt) rfl (lo := 0) (hi := 500) rfl rfl (by omega) (by decide)
                    have F1278 := FR.w F1271 W1275 (show 77 = 77 ∧ 7 ≤ 7 ∧ 7 ≤ 10 by decide)
                    refine to_rv (pc := 344) rw_156_344 ?_
                    have c_1279 : M1276.2.1 77 7 = v1273 := (W_e W1275)
                    have t_1280 : (M1276.2.1 77 7).toInt = v1273.toInt := congrArg Int32.toInt c_1279
                    have c_1281 : M1276.2.1 77 6 = (N.2.1 77 6) := (W_n W1275 (by decide) (W_n W1268 (by decide) (W_n W1262 (by decide) c_995)))
                    have t_1282 : (M1276.2.1 77 6).toInt = (N.2.1 77 6).toInt := congrArg Int32.toInt c_1281
                    have c_1283 : M1276.2.1 77 8 = (4 : Int32) := (W_n W1275 (by decide) (W_e W1268))
                    have k_1284 : (4 : Int32).toInt = 4 := rfl
                    have t_1285 : (M1276.2.1 77 8).toInt = (4 : Int32).toInt := congrArg Int32.toInt c_1283
                    exact h M1276 hG1277 F1278 (by omega) (by omega) (by omega)
                  · refine to_an (pc := 299) rw_156_299 rfl (tt_gI (pc := 300) rw_156_300 (g_o hG1264 rfl) (v := v974) c_1266 (to_c (pc := 303) rw_156_303 (x := (40 : Int32)) rfl rfl (b_ceq (pc := 305) rw_156_305 (A := v974.toInt) (B := 40) rfl rfl (fun h1286 => ?_) (fun h1286 => ?_))))
                    · refine to_c (pc := 326) rw_156_326 (x := (4 : Int32)) rfl rfl (to_go (pc := 327) rw_156_327 (s_pI (pc := 331) rw_156_331 hG1264 rfl (fun M1288 W1287 => ?_)))
                      have hG1289 := g_w hG1264 W1287 (A := 4) rfl (lo := 0) (hi := 5) rfl rfl (by omega) (by decide)
                      have F1290 := FR.w F1265 W1287 (show 77 = 77 ∧ 7 ≤ 8 ∧ 8 ≤ 10 by decide)
                      refine to_an (pc := 334) rw_156_334 rfl (to_dupr (pc := 335) rw_156_335 ?_)
                      have c_1291 : M1288.2.1 77 7 = (N.2.1 77 7) := (W_n W1287 (by decide) (W_n W1262 (by decide) c_994))
                      refine tt_gI (pc := 336) rw_156_336 (g_o hG1289 rfl) (v := (N.2.1 77 7)) c_1291 (to_c (pc := 339) rw_156_339 (x := (1 : Int32)) rfl rfl (s_add (pc := 340) rw_156_340 (A := (N.2.1 77 7).toInt) (B := 1) rfl rfl (by omega) (fun v1292 e1293 => s_pI (pc := 341) rw_156_341 hG1289 rfl (fun M1295 W1294 => ?_))))
                      have hG1296 := g_w hG1289 W1294 (A := v1292.toInt) rfl (lo := 0) (hi := 500) rfl rfl (by omega) (by decide)
                      have F1297 := FR.w F1290 W1294 (show 77 = 77 ∧ 7 ≤ 7 ∧ 7 ≤ 10 by decide)
                      refine to_rv (pc := 344) rw_156_344 ?_
                      have c_1298 : M1295.2.1 77 7 = v1292 := (W_e W1294)
                      have t_1299 : (M1295.2.1 77 7).toInt = v1292.toInt := congrArg Int32.toInt c_1298
                      have c_1300 : M1295.2.1 77 6 = (N.2.1 77 6) := (W_n W1294 (by decide) (W_n W1287 (by decide) (W_n W1262 (by decide) c_995)))
                      have t_1301 : (M1295.2.1 77 6).toInt = (N.2.1 77 6).toInt := congrArg Int32.toInt c_1300
                      have c_1302 : M1295.2.1 77 8 = (4 : Int32) := (W_n W1294 (by decide) (W_e W1287))
                      have k_1303 : (4 : Int32).toInt = 4 := rfl
                      have t_1304 : (M1295.2.1 77 8).toInt = (4 : Int32).toInt := congrArg Int32.toInt c_1302
                      exact h M1295 hG1296 F1297 (by omega) (by omega) (by omega)
                    · refine to_an (pc := 308) rw_156_308 rfl (tt_gI (pc := 309) rw_156_309 (g_o hG1264 rfl) (v := v974) c_1266 (to_c (pc := 312) rw_156_312 (x := (41 : Int32)) rfl rfl (b_ceq (pc := 314) rw_156_314 (A := v974.toInt) (B := 41) rfl rfl (fun h1305 => ?_) (fun h1305 => ?_))))
                      · refine to_c (pc := 326) rw_156_326 (x := (4 : Int32)) rfl rfl (to_go (pc := 327) rw_156_327 (s_pI (pc := 331) rw_156_331 hG1264 rfl (fun M1307 W1306 => ?_)))
                        have hG1308 := g_w hG1264 W1306 (A := 4) rfl (lo := 0) (hi := 5) rfl rfl (by omega) (by decide)
                        have F1309 := FR.w F1265 W1306 (show 77 = 77 ∧ 7 ≤ 8 ∧ 8 ≤ 10 by decide)
                        refine to_an (pc := 334) rw_156_334 rfl (to_dupr (pc := 335) rw_156_335 ?_)
                        have c_1310 : M1307.2.1 77 7 = (N.2.1 77 7) := (W_n W1306 (by decide) (W_n W1262 (by decide) c_994))
                        refine tt_gI (pc := 336) rw_156_336 (g_o hG1308 rfl) (v := (N.2.1 77 7)) c_1310 (to_c (pc := 339) rw_156_339 (x := (1 : Int32)) rfl rfl (s_add (pc := 340) rw_156_340 (A := (N.2.1 77 7).toInt) (B := 1) rfl rfl (by omega) (fun v1311 e1312 => s_pI (pc := 341) rw_156_341 hG1308 rfl (fun M1314 W1313 => ?_))))
                        have hG1315 := g_w hG1308 W1313 (A := v1311.toInt) rfl (lo := 0) (hi := 500) rfl rfl (by omega) (by decide)
                        have F1316 := FR.w F1309 W1313 (show 77 = 77 ∧ 7 ≤ 7 ∧ 7 ≤ 10 by decide)
                        refine to_rv (pc := 344) rw_156_344 ?_
                        have c_1317 : M1314.2.1 77 7 = v1311 := (W_e W1313)
                        have t_1318 : (M1314.2.1 77 7).toInt = v1311.toInt := congrArg Int32.toInt c_1317
                        have c_1319 : M1314.2.1 77 6 = (N.2.1 77 6) := (W_n W1313 (by decide) (W_n W1306 (by decide) (W_n W1262 (by decide) c_995)))
                        have t_1320 : (M1314.2.1 77 6).toInt = (N.2.1 77 6).toInt := congrArg Int32.toInt c_1319
                        have c_1321 : M1314.2.1 77 8 = (4 : Int32) := (W_n W1313 (by decide) (W_e W1306))
                        have k_1322 : (4 : Int32).toInt = 4 := rfl
                        have t_1323 : (M1314.2.1 77 8).toInt = (4 : Int32).toInt := congrArg Int32.toInt c_1321
                        exact h M1314 hG1315 F1316 (by omega) (by omega) (by omega)
                      · refine to_an (pc := 317) rw_156_317 rfl (tt_gI (pc := 318) rw_156_318 (g_o hG1264 rfl) (v := v974) c_1266 (to_c (pc := 321) rw_156_321 (x := (61 : Int32)) rfl rfl (b_cne (pc := 323) rw_156_323 (A := v974.toInt) (B := 61) rfl rfl (fun h1324 => ?_) (fun h1324 => ?_))))
                        · refine to_c (pc := 330) rw_156_330 (x := (5 : Int32)) rfl rfl (s_pI (pc := 331) rw_156_331 hG1264 rfl (fun M1326 W1325 => ?_))
                          have hG1327 := g_w hG1264 W1325 (A := 5) rfl (lo := 0) (hi := 5) rfl rfl (by omega) (by decide)
                          have F1328 := FR.w F1265 W1325 (show 77 = 77 ∧ 7 ≤ 8 ∧ 8 ≤ 10 by decide)
                          refine to_an (pc := 334) rw_156_334 rfl (to_dupr (pc := 335) rw_156_335 ?_)
                          have c_1329 : M1326.2.1 77 7 = (N.2.1 77 7) := (W_n W1325 (by decide) (W_n W1262 (by decide) c_994))
                          refine tt_gI (pc := 336) rw_156_336 (g_o hG1327 rfl) (v := (N.2.1 77 7)) c_1329 (to_c (pc := 339) rw_156_339 (x := (1 : Int32)) rfl rfl (s_add (pc := 340) rw_156_340 (A := (N.2.1 77 7).toInt) (B := 1) rfl rfl (by omega) (fun v1330 e1331 => s_pI (pc := 341) rw_156_341 hG1327 rfl (fun M1333 W1332 => ?_))))
                          have hG1334 := g_w hG1327 W1332 (A := v1330.toInt) rfl (lo := 0) (hi := 500) rfl rfl (by omega) (by decide)
                          have F1335 := FR.w F1328 W1332 (show 77 = 77 ∧ 7 ≤ 7 ∧ 7 ≤ 10 by decide)
                          refine to_rv (pc := 344) rw_156_344 ?_
                          have c_1336 : M1333.2.1 77 7 = v1330 := (W_e W1332)
                          have t_1337 : (M1333.2.1 77 7).toInt = v1330.toInt := congrArg Int32.toInt c_1336
                          have c_1338 : M1333.2.1 77 6 = (N.2.1 77 6) := (W_n W1332 (by decide) (W_n W1325 (by decide) (W_n W1262 (by decide) c_995)))
                          have t_1339 : (M1333.2.1 77 6).toInt = (N.2.1 77 6).toInt := congrArg Int32.toInt c_1338
                          have c_1340 : M1333.2.1 77 8 = (5 : Int32) := (W_n W1332 (by decide) (W_e W1325))
                          have k_1341 : (5 : Int32).toInt = 5 := rfl
                          have t_1342 : (M1333.2.1 77 8).toInt = (5 : Int32).toInt := congrArg Int32.toInt c_1340
                          exact h M1333 hG1334 F1335 (by omega) (by omega) (by omega)
                        · refine to_c (pc := 326) rw_156_326 (x := (4 : Int32)) rfl rfl (to_go (pc := 327) rw_156_327 (s_pI (pc := 331) rw_156_331 hG1264 rfl (fun M1344 W1343 => ?_)))
                          have hG1345 := g_w hG1264 W1343 (A := 4) rfl (lo := 0) (hi := 5) rfl rfl (by omega) (by decide)
                          have F1346 := FR.w F1265 W1343 (show 77 = 77 ∧ 7 ≤ 8 ∧ 8 ≤ 10 by decide)
                          refine to_an (pc := 334) rw_156_334 rfl (to_dupr (pc := 335) rw_156_335 ?_)
                          have c_1347 : M1344.2.1 77 7 = (N.2.1 77 7) := (W_n W1343 (by decide) (W_n W1262 (by decide) c_994))
                          refine tt_gI (pc := 336) rw_156_336 (g_o hG1345 rfl) (v := (N.2.1 77 7)) c_1347 (to_c (pc := 339) rw_156_339 (x := (1 : Int32)) rfl rfl (s_add (pc := 340) rw_156_340 (A := (N.2.1 77 7).toInt) (B := 1) rfl rfl (by omega) (fun v1348 e1349 => s_pI (pc := 341) rw_156_341 hG1345 rfl (fun M1351 W1350 => ?_))))
                          have hG1352 := g_w hG1345 W1350 (A := v1348.toInt) rfl (lo := 0) (hi := 500) rfl rfl (by omega) (by decide)
                          have F1353 := FR.w F1346 W1350 (show 77 = 77 ∧ 7 ≤ 7 ∧ 7 ≤ 10 by decide)
                          refine to_rv (pc := 344) rw_156_344 ?_
                          have c_1354 : M1351.2.1 77 7 = v1348 := (W_e W1350)
                          have t_1355 : (M1351.2.1 77 7).toInt = v1348.toInt := congrArg Int32.toInt c_1354
                          have c_1356 : M1351.2.1 77 6 = (N.2.1 77 6) := (W_n W1350 (by decide) (W_n W1343 (by decide) (W_n W1262 (by decide) c_995)))
                          have t_1357 : (M1351.2.1 77 6).toInt = (N.2.1 77 6).toInt := congrArg Int32.toInt c_1356
                          have c_1358 : M1351.2.1 77 8 = (4 : Int32) := (W_n W1350 (by decide) (W_e W1343))
                          have k_1359 : (4 : Int32).toInt = 4 := rfl
                          have t_1360 : (M1351.2.1 77 8).toInt = (4 : Int32).toInt := congrArg Int32.toInt c_1358
                          exact h M1351 hG1352 F1353 (by omega) (by omega) (by omega)
                · refine to_an (pc := 8) rw_155_8 rfl (s_gR (pc := 9) rw_155_9 hG992 rfl (v := 78) rfl (to_in (pc := 12) rw_155_12 rfl (s_ialk (pc := 13) rw_155_13 hG992 rfl (n := 500) rfl rfl (A := (N.2.1 77 7).toInt) rfl (by omega) (by omega) (v := v974) (W_n W990 (by omega) w_975) (to_c (pc := 14) rw_155_14 (x := (48 : Int32)) rfl rfl (b_clt (pc := 16) rw_155_16 (A := v974.toInt) (B := 48) rfl rfl (fun h1363 => ?_) (fun h1363 => ?_))))))
                  · refine to_c (pc := 34) rw_155_34 (x := (0 : Int32)) rfl rfl (s_r1 (pc := 35) rw_155_35 (A := 0) rfl (by decide) (b_ieq_t (pc := 199) rw_156_199 (A := 0) rfl (by decide) (to_an (pc := 276) rw_156_276 rfl (to_an (pc := 277) rw_156_277 rfl (s_gR (pc := 278) rw_156_278 hG992 rfl (v := 78) rfl (to_an (pc := 281) rw_156_281 rfl (tt_gI (pc := 282) rw_156_282 (g_o hG992 rfl) (v := (N.2.1 77 7)) c_994 (s_ialk (pc := 285) rw_156_285 hG992 rfl (n := 500) rfl rfl (A := (N.2.1 77 7).toInt) rfl (by omega) (by omega) (v := v974) (W_n W990 (by omega) w_975) (s_pI (pc := 286) rw_156_286 hG992 rfl (fun M1367 W1366 => ?_))))))))))
                    have hG1368 := g_wf hG992 W1366 rfl rfl (by decide)
                    have F1369 := FR.w F993 W1366 (show 77 = 77 ∧ 7 ≤ 9 ∧ 9 ≤ 10 by decide)
                    refine to_an (pc := 289) rw_156_289 rfl (to_an (pc := 290) rw_156_290 rfl ?_)
                    have c_1370 : M1367.2.1 77 9 = v974 := (W_e W1366)
                    refine tt_gI (pc := 291) rw_156_291 (g_o hG1368 rfl) (v := v974) c_1370 (to_c (pc := 294) rw_156_294 (x := (59 : Int32)) rfl rfl (b_ceq_f (pc := 296) rw_156_296 (A := v974.toInt) (B := 59) rfl rfl (by omega) (to_an (pc := 299) rw_156_299 rfl (tt_gI (pc := 300) rw_156_300 (g_o hG1368 rfl) (v := v974) c_1370 (to_c (pc := 303) rw_156_303 (x := (40 : Int32)) rfl rfl (b_ceq (pc := 305) rw_156_305 (A := v974.toInt) (B := 40) rfl rfl (fun h1371 => ?_) (fun h1371 => ?_)))))))
                    · refine to_c (pc := 326) rw_156_326 (x := (4 : Int32)) rfl rfl (to_go (pc := 327) rw_156_327 (s_pI (pc := 331) rw_156_331 hG1368 rfl (fun M1373 W1372 => ?_)))
                      have hG1374 := g_w hG1368 W1372 (A := 4) rfl (lo := 0) (hi := 5) rfl rfl (by omega) (by decide)
                      have F1375 := FR.w F1369 W1372 (show 77 = 77 ∧ 7 ≤ 8 ∧ 8 ≤ 10 by decide)
                      refine to_an (pc := 334) rw_156_334 rfl (to_dupr (pc := 335) rw_156_335 ?_)
                      have c_1376 : M1373.2.1 77 7 = (N.2.1 77 7) := (W_n W1372 (by decide) (W_n W1366 (by decide) c_994))
                      refine tt_gI (pc := 336) rw_156_336 (g_o hG1374 rfl) (v := (N.2.1 77 7)) c_1376 (to_c (pc := 339) rw_156_339 (x := (1 : Int32)) rfl rfl (s_add (pc := 340) rw_156_340 (A := (N.2.1 77 7).toInt) (B := 1) rfl rfl (by omega) (fun v1377 e1378 => s_pI (pc := 341) rw_156_341 hG1374 rfl (fun M1380 W1379 => ?_))))
                      have hG1381 := g_w hG1374 W1379 (A := v1377.toInt) rfl (lo := 0) (hi := 500) rfl rfl (by omega) (by decide)
                      have F1382 := FR.w F1375 W1379 (show 77 = 77 ∧ 7 ≤ 7 ∧ 7 ≤ 10 by decide)
                      refine to_rv (pc := 344) rw_156_344 ?_
                      have c_1383 : M1380.2.1 77 7 = v1377 := (W_e W1379)
                      have t_1384 : (M1380.2.1 77 7).toInt = v1377.toInt := congrArg Int32.toInt c_1383
                      have c_1385 : M1380.2.1 77 6 = (N.2.1 77 6) := (W_n W1379 (by decide) (W_n W1372 (by decide) (W_n W1366 (by decide) c_995)))
                      have t_1386 : (M1380.2.1 77 6).toInt = (N.2.1 77 6).toInt := congrArg Int32.toInt c_1385
                      have c_1387 : M1380.2.1 77 8 = (4 : Int32) := (W_n W1379 (by decide) (W_e W1372))
                      have k_1388 : (4 : Int32).toInt = 4 := rfl
                      have t_1389 : (M1380.2.1 77 8).toInt = (4 : Int32).toInt := congrArg Int32.toInt c_1387
                      exact h M1380 hG1381 F1382 (by omega) (by omega) (by omega)
                    · refine to_an (pc := 308) rw_156_308 rfl (tt_gI (pc := 309) rw_156_309 (g_o hG1368 rfl) (v := v974) c_1370 (to_c (pc := 312) rw_156_312 (x := (41 : Int32)) rfl rfl (b_ceq (pc := 314) rw_156_314 (A := v974.toInt) (B := 41) rfl rfl (fun h1390 => ?_) (fun h1390 => ?_))))
                      · refine to_c (pc := 326) rw_156_326 (x := (4 : Int32)) rfl rfl (to_go (pc := 327) rw_156_327 (s_pI (pc := 331) rw_156_331 hG1368 rfl (fun M1392 W1391 => ?_)))
                        have hG1393 := g_w hG1368 W1391 (A := 4) rfl (lo := 0) (hi := 5) rfl rfl (by omega) (by decide)
                        have F1394 := FR.w F1369 W1391 (show 77 = 77 ∧ 7 ≤ 8 ∧ 8 ≤ 10 by decide)
                        refine to_an (pc := 334) rw_156_334 rfl (to_dupr (pc := 335) rw_156_335 ?_)
                        have c_1395 : M1392.2.1 77 7 = (N.2.1 77 7) := (W_n W1391 (by decide) (W_n W1366 (by decide) c_994))
                        refine tt_gI (pc := 336) rw_156_336 (g_o hG1393 rfl) (v := (N.2.1 77 7)) c_1395 (to_c (pc := 339) rw_156_339 (x := (1 : Int32)) rfl rfl (s_add (pc := 340) rw_156_340 (A := (N.2.1 77 7).toInt) (B := 1) rfl rfl (by omega) (fun v1396 e1397 => s_pI (pc := 341) rw_156_341 hG1393 rfl (fun M1399 W1398 => ?_))))
                        have hG1400 := g_w hG1393 W1398 (A := v1396.toInt) rfl (lo := 0) (hi := 500) rfl rfl (by omega) (by decide)
                        have F1401 := FR.w F1394 W1398 (show 77 = 77 ∧ 7 ≤ 7 ∧ 7 ≤ 10 by decide)
                        refine to_rv (pc := 344) rw_156_344 ?_
                        have c_1402 : M1399.2.1 77 7 = v1396 := (W_e W1398)
                        have t_1403 : (M1399.2.1 77 7).toInt = v1396.toInt := congrArg Int32.toInt c_1402
                        have c_1404 : M1399.2.1 77 6 = (N.2.1 77 6) := (W_n W1398 (by decide) (W_n W1391 (by decide) (W_n W1366 (by decide) c_995)))
                        have t_1405 : (M1399.2.1 77 6).toInt = (N.2.1 77 6).toInt := congrArg Int32.toInt c_1404
                        have c_1406 : M1399.2.1 77 8 = (4 : Int32) := (W_n W1398 (by decide) (W_e W1391))
                        have k_1407 : (4 : Int32).toInt = 4 := rfl
                        have t_1408 : (M1399.2.1 77 8).toInt = (4 : Int32).toInt := congrArg Int32.toInt c_1406
                        exact h M1399 hG1400 F1401 (by omega) (by omega) (by omega)
                      · refine to_an (pc := 317) rw_156_317 rfl (tt_gI (pc := 318) rw_156_318 (g_o hG1368 rfl) (v := v974) c_1370 (to_c (pc := 321) rw_156_321 (x := (61 : Int32)) rfl rfl (b_cne_t (pc := 323) rw_156_323 (A := v974.toInt) (B := 61) rfl rfl (by omega) (to_c (pc := 330) rw_156_330 (x := (5 : Int32)) rfl rfl (s_pI (pc := 331) rw_156_331 hG1368 rfl (fun M1410 W1409 => ?_))))))
                        have hG1411 := g_w hG1368 W1409 (A := 5) rfl (lo := 0) (hi := 5) rfl rfl (by omega) (by decide)
                        have F1412 := FR.w F1369 W1409 (show 77 = 77 ∧ 7 ≤ 8 ∧ 8 ≤ 10 by decide)
                        refine to_an (pc := 334) rw_156_334 rfl (to_dupr (pc := 335) rw_156_335 ?_)
                        have c_1413 : M1410.2.1 77 7 = (N.2.1 77 7) := (W_n W1409 (by decide) (W_n W1366 (by decide) c_994))
                        refine tt_gI (pc := 336) rw_156_336 (g_o hG1411 rfl) (v := (N.2.1 77 7)) c_1413 (to_c (pc := 339) rw_156_339 (x := (1 : Int32)) rfl rfl (s_add (pc := 340) rw_156_340 (A := (N.2.1 77 7).toInt) (B := 1) rfl rfl (by omega) (fun v1414 e1415 => s_pI (pc := 341) rw_156_341 hG1411 rfl (fun M1417 W1416 => ?_))))
                        have hG1418 := g_w hG1411 W1416 (A := v1414.toInt) rfl (lo := 0) (hi := 500) rfl rfl (by omega) (by decide)
                        have F1419 := FR.w F1412 W1416 (show 77 = 77 ∧ 7 ≤ 7 ∧ 7 ≤ 10 by decide)
                        refine to_rv (pc := 344) rw_156_344 ?_
                        have c_1420 : M1417.2.1 77 7 = v1414 := (W_e W1416)
                        have t_1421 : (M1417.2.1 77 7).toInt = v1414.toInt := congrArg Int32.toInt c_1420
                        have c_1422 : M1417.2.1 77 6 = (N.2.1 77 6) := (W_n W1416 (by decide) (W_n W1409 (by decide) (W_n W1366 (by decide) c_995)))
                        have t_1423 : (M1417.2.1 77 6).toInt = (N.2.1 77 6).toInt := congrArg Int32.toInt c_1422
                        have c_1424 : M1417.2.1 77 8 = (5 : Int32) := (W_n W1416 (by decide) (W_e W1409))
                        have k_1425 : (5 : Int32).toInt = 5 := rfl
                        have t_1426 : (M1417.2.1 77 8).toInt = (5 : Int32).toInt := congrArg Int32.toInt c_1424
                        exact h M1417 hG1418 F1419 (by omega) (by omega) (by omega)
                  · refine to_an (pc := 19) rw_155_19 rfl (s_gR (pc := 20) rw_155_20 hG992 rfl (v := 78) rfl (to_in (pc := 23) rw_155_23 rfl (s_ialk (pc := 24) rw_155_24 hG992 rfl (n := 500) rfl rfl (A := (N.2.1 77 7).toInt) rfl (by omega) (by omega) (v := v974) (W_n W990 (by omega) w_975) (to_c (pc := 25) rw_155_25 (x := (57 : Int32)) rfl rfl (b_cgt (pc := 27) rw_155_27 (A := v974.toInt) (B := 57) rfl rfl (fun h1429 => ?_) (fun h1429 => ?_))))))
                    · refine to_c (pc := 34) rw_155_34 (x := (0 : Int32)) rfl rfl (s_r1 (pc := 35) rw_155_35 (A := 0) rfl (by decide) (b_ieq_t (pc := 199) rw_156_199 (A := 0) rfl (by decide) (to_an (pc := 276) rw_156_276 rfl (to_an (pc := 277) rw_156_277 rfl (s_gR (pc := 278) rw_156_278 hG992 rfl (v := 78) rfl (to_an (pc := 281) rw_156_281 rfl (tt_gI (pc := 282) rw_156_282 (g_o hG992 rfl) (v := (N.2.1 77 7)) c_994 (s_ialk (pc := 285) rw_156_285 hG992 rfl (n := 500) rfl rfl (A := (N.2.1 77 7).toInt) rfl (by omega) (by omega) (v := v974) (W_n W990 (by omega) w_975) (s_pI (pc := 286) rw_156_286 hG992 rfl (fun M1433 W1432 => ?_))))))))))
                      have hG1434 := g_wf hG992 W1432 rfl rfl (by decide)
                      have F1435 := FR.w F993 W1432 (show 77 = 77 ∧ 7 ≤ 9 ∧ 9 ≤ 10 by decide)
                      refine to_an (pc := 289) rw_156_289 rfl (to_an (pc := 290) rw_156_290 rfl ?_)
                      have c_1436 : M1433.2.1 77 9 = v974 := (W_e W1432)
                      refine tt_gI (pc := 291) rw_156_291 (g_o hG1434 rfl) (v := v974) c_1436 (to_c (pc := 294) rw_156_294 (x := (59 : Int32)) rfl rfl (b_ceq (pc := 296) rw_156_296 (A := v974.toInt) (B := 59) rfl rfl (fun h1437 => ?_) (fun h1437 => ?_)))
                      · refine to_c (pc := 326) rw_156_326 (x := (4 : Int32)) rfl rfl (to_go (pc := 327) rw_156_327 (s_pI (pc := 331) rw_156_331 hG1434 rfl (fun M1439 W1438 => ?_)))
                        have hG1440 := g_w hG1434 W1438 (A := 4) rfl (lo := 0) (hi := 5) rfl rfl (by omega) (by decide)
                        have F1441 := FR.w F1435 W1438 (show 77 = 77 ∧ 7 ≤ 8 ∧ 8 ≤ 10 by decide)
                        refine to_an (pc := 334) rw_156_334 rfl (to_dupr (pc := 335) rw_156_335 ?_)
                        have c_1442 : M1439.2.1 77 7 = (N.2.1 77 7) := (W_n W1438 (by decide) (W_n W1432 (by decide) c_994))
                        refine tt_gI (pc := 336) rw_156_336 (g_o hG1440 rfl) (v := (N.2.1 77 7)) c_1442 (to_c (pc := 339) rw_156_339 (x := (1 : Int32)) rfl rfl (s_add (pc := 340) rw_156_340 (A := (N.2.1 77 7).toInt) (B := 1) rfl rfl (by omega) (fun v1443 e1444 => s_pI (pc := 341) rw_156_341 hG1440 rfl (fun M1446 W1445 => ?_))))
                        have hG1447 := g_w hG1440 W1445 (A := v1443.toInt) rfl (lo := 0) (hi := 500) rfl rfl (by omega) (by decide)
                        have F1448 := FR.w F1441 W1445 (show 77 = 77 ∧ 7 ≤ 7 ∧ 7 ≤ 10 by decide)
                        refine to_rv (pc := 344) rw_156_344 ?_
                        have c_1449 : M1446.2.1 77 7 = v1443 := (W_e W1445)
                        have t_1450 : (M1446.2.1 77 7).toInt = v1443.toInt := congrArg Int32.toInt c_1449
                        have c_1451 : M1446.2.1 77 6 = (N.2.1 77 6) := (W_n W1445 (by decide) (W_n W1438 (by decide) (W_n W1432 (by decide) c_995)))
                        have t_1452 : (M1446.2.1 77 6).toInt = (N.2.1 77 6).toInt := congrArg Int32.toInt c_1451
                        have c_1453 : M1446.2.1 77 8 = (4 : Int32) := (W_n W1445 (by decide) (W_e W1438))
                        have k_1454 : (4 : Int32).toInt = 4 := rfl
                        have t_1455 : (M1446.2.1 77 8).toInt = (4 : Int32).toInt := congrArg Int32.toInt c_1453
                        exact h M1446 hG1447 F1448 (by omega) (by omega) (by omega)
                      · refine to_an (pc := 299) rw_156_299 rfl (tt_gI (pc := 300) rw_156_300 (g_o hG1434 rfl) (v := v974) c_1436 (to_c (pc := 303) rw_156_303 (x := (40 : Int32)) rfl rfl (b_ceq_f (pc := 305) rw_156_305 (A := v974.toInt) (B := 40) rfl rfl (by omega) (to_an (pc := 308) rw_156_308 rfl (tt_gI (pc := 309) rw_156_309 (g_o hG1434 rfl) (v := v974) c_1436 (to_c (pc := 312) rw_156_312 (x := (41 : Int32)) rfl rfl (b_ceq_f (pc := 314) rw_156_314 (A := v974.toInt) (B := 41) rfl rfl (by omega) (to_an (pc := 317) rw_156_317 rfl (tt_gI (pc := 318) rw_156_318 (g_o hG1434 rfl) (v := v974) c_1436 (to_c (pc := 321) rw_156_321 (x := (61 : Int32)) rfl rfl (b_cne (pc := 323) rw_156_323 (A := v974.toInt) (B := 61) rfl rfl (fun h1456 => ?_) (fun h1456 => ?_))))))))))))
                        · refine to_c (pc := 330) rw_156_330 (x := (5 : Int32)) rfl rfl (s_pI (pc := 331) rw_156_331 hG1434 rfl (fun M1458 W1457 => ?_))
                          have hG1459 := g_w hG1434 W1457 (A := 5) rfl (lo := 0) (hi := 5) rfl rfl (by omega) (by decide)
                          have F1460 := FR.w F1435 W1457 (show 77 = 77 ∧ 7 ≤ 8 ∧ 8 ≤ 10 by decide)
                          refine to_an (pc := 334) rw_156_334 rfl (to_dupr (pc := 335) rw_156_335 ?_)
                          have c_1461 : M1458.2.1 77 7 = (N.2.1 77 7) := (W_n W1457 (by decide) (W_n W1432 (by decide) c_994))
                          refine tt_gI (pc := 336) rw_156_336 (g_o hG1459 rfl) (v := (N.2.1 77 7)) c_1461 (to_c (pc := 339) rw_156_339 (x := (1 : Int32)) rfl rfl (s_add (pc := 340) rw_156_340 (A := (N.2.1 77 7).toInt) (B := 1) rfl rfl (by omega) (fun v1462 e1463 => s_pI (pc := 341) rw_156_341 hG1459 rfl (fun M1465 W1464 => ?_))))
                          have hG1466 := g_w hG1459 W1464 (A := v1462.toInt) rfl (lo := 0) (hi := 500) rfl rfl (by omega) (by decide)
                          have F1467 := FR.w F1460 W1464 (show 77 = 77 ∧ 7 ≤ 7 ∧ 7 ≤ 10 by decide)
                          refine to_rv (pc := 344) rw_156_344 ?_
                          have c_1468 : M1465.2.1 77 7 = v1462 := (W_e W1464)
                          have t_1469 : (M1465.2.1 77 7).toInt = v1462.toInt := congrArg Int32.toInt c_1468
                          have c_1470 : M1465.2.1 77 6 = (N.2.1 77 6) := (W_n W1464 (by decide) (W_n W1457 (by decide) (W_n W1432 (by decide) c_995)))
                          have t_1471 : (M1465.2.1 77 6).toInt = (N.2.1 77 6).toInt := congrArg Int32.toInt c_1470
                          have c_1472 : M1465.2.1 77 8 = (5 : Int32) := (W_n W1464 (by decide) (W_e W1457))
                          have k_1473 : (5 : Int32).toInt = 5 := rfl
                          have t_1474 : (M1465.2.1 77 8).toInt = (5 : Int32).toInt := congrArg Int32.toInt c_1472
                          exact h M1465 hG1466 F1467 (by omega) (by omega) (by omega)
                        · refine to_c (pc := 326) rw_156_326 (x := (4 : Int32)) rfl rfl (to_go (pc := 327) rw_156_327 (s_pI (pc := 331) rw_156_331 hG1434 rfl (fun M1476 W1475 => ?_)))
                          have hG1477 := g_w hG1434 W1475 (A := 4) rfl (lo := 0) (hi := 5) rfl rfl (by omega) (by decide)
                          have F1478 := FR.w F1435 W1475 (show 77 = 77 ∧ 7 ≤ 8 ∧ 8 ≤ 10 by decide)
                          refine to_an (pc := 334) rw_156_334 rfl (to_dupr (pc := 335) rw_156_335 ?_)
                          have c_1479 : M1476.2.1 77 7 = (N.2.1 77 7) := (W_n W1475 (by decide) (W_n W1432 (by decide) c_994))
                          refine tt_gI (pc := 336) rw_156_336 (g_o hG1477 rfl) (v := (N.2.1 77 7)) c_1479 (to_c (pc := 339) rw_156_339 (x := (1 : Int32)) rfl rfl (s_add (pc := 340) rw_156_340 (A := (N.2.1 77 7).toInt) (B := 1) rfl rfl (by omega) (fun v1480 e1481 => s_pI (pc := 341) rw_156_341 hG1477 rfl (fun M1483 W1482 => ?_))))
                          have hG1484 := g_w hG1477 W1482 (A := v1480.toInt) rfl (lo := 0) (hi := 500) rfl rfl (by omega) (by decide)
                          have F1485 := FR.w F1478 W1482 (show 77 = 77 ∧ 7 ≤ 7 ∧ 7 ≤ 10 by decide)
                          refine to_rv (pc := 344) rw_156_344 ?_
                          have c_1486 : M1483.2.1 77 7 = v1480 := (W_e W1482)
                          have t_1487 : (M1483.2.1 77 7).toInt = v1480.toInt := congrArg Int32.toInt c_1486
                          have c_1488 : M1483.2.1 77 6 = (N.2.1 77 6) := (W_n W1482 (by decide) (W_n W1475 (by decide) (W_n W1432 (by decide) c_995)))
                          have t_1489 : (M1483.2.1 77 6).toInt = (N.2.1 77 6).toInt := congrArg Int32.toInt c_1488
                          have c_1490 : M1483.2.1 77 8 = (4 : Int32) := (W_n W1482 (by decide) (W_e W1475))
                          have k_1491 : (4 : Int32).toInt = 4 := rfl
                          have t_1492 : (M1483.2.1 77 8).toInt = (4 : Int32).toInt := congrArg Int32.toInt c_1490
                          exact h M1483 hG1484 F1485 (by omega) (by omega) (by omega)
                    · refine to_c (pc := 30) rw_155_30 (x := (1 : Int32)) rfl rfl (to_go (pc := 31) rw_155_31 (s_r1 (pc := 35) rw_155_35 (A := 1) rfl (by decide) (b_ieq_f (pc := 199) rw_156_199 (A := 1) rfl (by decide) (to_an (pc := 202) rw_156_202 rfl (to_c (pc := 203) rw_156_203 (x := (3 : Int32)) rfl rfl (s_pI (pc := 204) rw_156_204 hG992 rfl (fun M1494 W1493 => ?_)))))))
                      have hG1495 := g_w hG992 W1493 (A := 3) rfl (lo := 0) (hi := 5) rfl rfl (by omega) (by decide)
                      have F1496 := FR.w F993 W1493 (show 77 = 77 ∧ 7 ≤ 8 ∧ 8 ≤ 10 by decide)
                      refine to_an (pc := 207) rw_156_207 rfl (to_c (pc := 208) rw_156_208 (x := (0 : Int32)) rfl rfl (s_pI (pc := 209) rw_156_209 hG1495 rfl (fun M1498 W1497 => ?_)))
                      have hG1499 := g_wf hG1495 W1497 rfl rfl (by decide)
                      have F1500 := FR.w F1496 W1497 (show 77 = 77 ∧ 7 ≤ 9 ∧ 9 ≤ 10 by decide)
                      refine to_an (pc := 212) rw_156_212 rfl (to_an (pc := 213) rw_156_213 rfl ?_)
                      have c_1501 : M1498.2.1 77 7 = (N.2.1 77 7) := (W_n W1497 (by decide) (W_n W1493 (by decide) c_994))
                      refine tt_gI (pc := 214) rw_156_214 (g_o hG1499 rfl) (v := (N.2.1 77 7)) c_1501 (s_v (pc := 217) rw_156_217 (dp0 hd (by decide)) (ls0 := [.ref 77, .int (N.2.1 77 7)]) rfl (Nat.le_of_ble_eq_true rfl) (Nat.le_of_ble_eq_true rfl) rfl (to_rc rfl rfl rfl (g_o hG1499 rfl)) rfl (to_in (pc := 0) rw_155_0 rfl (to_an (pc := 1) rw_155_1 rfl ?_)))
                      have c_1502 : M1498.2.1 77 6 = (N.2.1 77 6) := (W_n W1497 (by decide) (W_n W1493 (by decide) c_995))
                      refine tt_gI (pc := 2) rw_155_2 (g_o hG1499 rfl) (v := (N.2.1 77 6)) c_1502 (b_cge (pc := 5) rw_155_5 (A := (N.2.1 77 7).toInt) (B := (N.2.1 77 6).toInt) rfl rfl (fun h1503 => ?_) (fun h1503 => ?_))
                      · refine to_c (pc := 34) rw_155_34 (x := (0 : Int32)) rfl rfl (s_r1 (pc := 35) rw_155_35 (A := 0) rfl (by decide) (b_ieq_t (pc := 220) rw_156_220 (A := 0) rfl (by decide) (to_rv (pc := 344) rw_156_344 ?_)))
                        have t_1504 : (M1498.2.1 77 7).toInt = (N.2.1 77 7).toInt := congrArg Int32.toInt c_1501
                        have t_1505 : (M1498.2.1 77 6).toInt = (N.2.1 77 6).toInt := congrArg Int32.toInt c_1502
                        have c_1506 : M1498.2.1 77 8 = (3 : Int32) := (W_n W1497 (by decide) (W_e W1493))
                        have k_1507 : (3 : Int32).toInt = 3 := rfl
                        have t_1508 : (M1498.2.1 77 8).toInt = (3 : Int32).toInt := congrArg Int32.toInt c_1506
                        exact h M1498 hG1499 F1500 (by omega) (by omega) (by omega)
                      · refine to_an (pc := 8) rw_155_8 rfl (s_gR (pc := 9) rw_155_9 hG1499 rfl (v := 78) rfl (to_in (pc := 12) rw_155_12 rfl (s_ialk (pc := 13) rw_155_13 hG1499 rfl (n := 500) rfl rfl (A := (N.2.1 77 7).toInt) rfl (by omega) (by omega) (v := v974) (W_n W1497 (by omega) (W_n W1493 (by omega) (W_n W990 (by omega) w_975))) (to_c (pc := 14) rw_155_14 (x := (48 : Int32)) rfl rfl (b_clt_f (pc := 16) rw_155_16 (A := v974.toInt) (B := 48) rfl rfl (by omega) (to_an (pc := 19) rw_155_19 rfl (s_gR (pc := 20) rw_155_20 hG1499 rfl (v := 78) rfl (to_in (pc := 23) rw_155_23 rfl (s_ialk (pc := 24) rw_155_24 hG1499 rfl (n := 500) rfl rfl (A := (N.2.1 77 7).toInt) rfl (by omega) (by omega) (v := v974) (W_n W1497 (by omega) (W_n W1493 (by omega) (W_n W990 (by omega) w_975))) (to_c (pc := 25) rw_155_25 (x := (57 : Int32)) rfl rfl (b_cgt_f (pc := 27) rw_155_27 (A := v974.toInt) (B := 57) rfl rfl (by omega) ?_)))))))))))
                        refine to_c (pc := 30) rw_155_30 (x := (1 : Int32)) rfl rfl (to_go (pc := 31) rw_155_31 (s_r1 (pc := 35) rw_155_35 (A := 1) rfl (by decide) (b_ieq_f (pc := 220) rw_156_220 (A := 1) rfl (by decide) ?_)))
                        have t_1513 : (M1498.2.1 77 7).toInt = (N.2.1 77 7).toInt := congrArg Int32.toInt c_1501
                        have t_1514 : (M1498.2.1 77 6).toInt = (N.2.1 77 6).toInt := congrArg Int32.toInt c_1502
                        have c_1515 : M1498.2.1 77 10 = (N.2.1 77 7) := (W_n W1497 (by decide) (W_n W1493 (by decide) (W_e W990)))
                        have t_1516 : (M1498.2.1 77 10).toInt = (N.2.1 77 7).toInt := congrArg Int32.toInt c_1515
                        exact (T_156_0 hX hd q1 h ((500 - (M1498.2.1 77 7).toInt).toNat + 1)) M1498  hG1499 F1500 (by omega) (by omega) (by omega) (by omega)
              · refine to_an (pc := 19) rw_154_19 rfl (s_gR (pc := 20) rw_154_20 hG992 rfl (v := 78) rfl (to_in (pc := 23) rw_154_23 rfl (s_ialk (pc := 24) rw_154_24 hG992 rfl (n := 500) rfl rfl (A := (N.2.1 77 7).toInt) rfl (by omega) (by omega) (v := v974) (W_n W990 (by omega) w_975) (to_c (pc := 25) rw_154_25 (x := (122 : Int32)) rfl rfl (b_cgt (pc := 27) rw_154_27 (A := v974.toInt) (B := 122) rfl rfl (fun h1519 => ?_) (fun h1519 => ?_))))))
                · refine to_c (pc := 34) rw_154_34 (x := (0 : Int32)) rfl rfl (s_r1 (pc := 35) rw_154_35 (A := 0) rfl (by decide) (b_ieq_t (pc := 87) rw_156_87 (A := 0) rfl (by decide) (to_an (pc := 191) rw_156_191 rfl (to_an (pc := 192) rw_156_192 rfl (tt_gI (pc := 193) rw_156_193 (g_o hG992 rfl) (v := (N.2.1 77 7)) c_994 (s_v (pc := 196) rw_156_196 (dp0 hd (by decide)) (ls0 := [.ref 77, .int (N.2.1 77 7)]) rfl (Nat.le_of_ble_eq_true rfl) (Nat.le_of_ble_eq_true rfl) rfl (to_rc rfl rfl rfl (g_o hG992 rfl)) rfl (to_in (pc := 0) rw_155_0 rfl (to_an (pc := 1) rw_155_1 rfl (tt_gI (pc := 2) rw_155_2 (g_o hG992 rfl) (v := (N.2.1 77 6)) c_995 (b_cge (pc := 5) rw_155_5 (A := (N.2.1 77 7).toInt) (B := (N.2.1 77 6).toInt) rfl rfl (fun h1520 => ?_) (fun h1520 => ?_)))))))))))
                  · refine to_c (pc := 34) rw_155_34 (x := (0 : Int32)) rfl rfl (s_r1 (pc := 35) rw_155_35 (A := 0) rfl (by decide) (b_ieq_t (pc := 199) rw_156_199 (A := 0) rfl (by decide) (to_an (pc := 276) rw_156_276 rfl (to_an (pc := 277) rw_156_277 rfl (s_gR (pc := 278) rw_156_278 hG992 rfl (v := 78) rfl (to_an (pc := 281) rw_156_281 rfl (tt_gI (pc := 282) rw_156_282 (g_o hG992 rfl) (v := (N.2.1 77 7)) c_994 (s_ialk (pc := 285) rw_156_285 hG992 rfl (n := 500) rfl rfl (A := (N.2.1 77 7).toInt) rfl (by omega) (by omega) (v := v974) (W_n W990 (by omega) w_975) (s_pI (pc := 286) rw_156_286 hG992 rfl (fun M1524 W1523 => ?_))))))))))
                    have hG1525 := g_wf hG992 W1523 rfl rfl (by decide)
                    have F1526 := FR.w F993 W1523 (show 77 = 77 ∧ 7 ≤ 9 ∧ 9 ≤ 10 by decide)
                    refine to_an (pc := 289) rw_156_289 rfl (to_an (pc := 290) rw_156_290 rfl ?_)
                    have c_1527 : M1524.2.1 77 9 = v974 := (W_e W1523)
                    refine tt_gI (pc := 291) rw_156_291 (g_o hG1525 rfl) (v := v974) c_1527 (to_c (pc := 294) rw_156_294 (x := (59 : Int32)) rfl rfl (b_ceq_f (pc := 296) rw_156_296 (A := v974.toInt) (B := 59) rfl rfl (by omega) (to_an (pc := 299) rw_156_299 rfl (tt_gI (pc := 300) rw_156_300 (g_o hG1525 rfl) (v := v974) c_1527 (to_c (pc := 303) rw_156_303 (x := (40 : Int32)) rfl rfl (b_ceq_f (pc := 305) rw_156_305 (A := v974.toInt) (B := 40) rfl rfl (by omega) (to_an (pc := 308) rw_156_308 rfl (tt_gI (pc := 309) rw_156_309 (g_o hG1525 rfl) (v := v974) c_1527 (to_c (pc := 312) rw_156_312 (x := (41 : Int32)) rfl rfl (b_ceq_f (pc := 314) rw_156_314 (A := v974.toInt) (B := 41) rfl rfl (by omega) (to_an (pc := 317) rw_156_317 rfl ?_)))))))))))
                    refine tt_gI (pc := 318) rw_156_318 (g_o hG1525 rfl) (v := v974) c_1527 (to_c (pc := 321) rw_156_321 (x := (61 : Int32)) rfl rfl (b_cne_t (pc := 323) rw_156_323 (A := v974.toInt) (B := 61) rfl rfl (by omega) (to_c (pc := 330) rw_156_330 (x := (5 : Int32)) rfl rfl (s_pI (pc := 331) rw_156_331 hG1525 rfl (fun M1529 W1528 => ?_)))))
                    have hG1530 := g_w hG1525 W1528 (A := 5) rfl (lo := 0) (hi := 5) rfl rfl (by omega) (by decide)
                    have F1531 := FR.w F1526 W1528 (show 77 = 77 ∧ 7 ≤ 8 ∧ 8 ≤ 10 by decide)
                    refine to_an (pc := 334) rw_156_334 rfl (to_dupr (pc := 335) rw_156_335 ?_)
                    have c_1532 : M1529.2.1 77 7 = (N.2.1 77 7) := (W_n W1528 (by decide) (W_n W1523 (by decide) c_994))
                    refine tt_gI (pc := 336) rw_156_336 (g_o hG1530 rfl) (v := (N.2.1 77 7)) c_1532 (to_c (pc := 339) rw_156_339 (x := (1 : Int32)) rfl rfl (s_add (pc := 340) rw_156_340 (A := (N.2.1 77 7).toInt) (B := 1) rfl rfl (by omega) (fun v1533 e1534 => s_pI (pc := 341) rw_156_341 hG1530 rfl (fun M1536 W1535 => ?_))))
                    have hG1537 := g_w hG1530 W1535 (A := v1533.toInt) rfl (lo := 0) (hi := 500) rfl rfl (by omega) (by decide)
                    have F1538 := FR.w F1531 W1535 (show 77 = 77 ∧ 7 ≤ 7 ∧ 7 ≤ 10 by decide)
                    refine to_rv (pc := 344) rw_156_344 ?_
                    have c_1539 : M1536.2.1 77 7 = v1533 := (W_e W1535)
                    have t_1540 : (M1536.2.1 77 7).toInt = v1533.toInt := congrArg Int32.toInt c_1539
                    have c_1541 : M1536.2.1 77 6 = (N.2.1 77 6) := (W_n W1535 (by decide) (W_n W1528 (by decide) (W_n W1523 (by decide) c_995)))
                    have t_1542 : (M1536.2.1 77 6).toInt = (N.2.1 77 6).toInt := congrArg Int32.toInt c_1541
                    have c_1543 : M1536.2.1 77 8 = (5 : Int32) := (W_n W1535 (by decide) (W_e W1528))
                    have k_1544 : (5 : Int32).toInt = 5 := rfl
                    have t_1545 : (M1536.2.1 77 8).toInt = (5 : Int32).toInt := congrArg Int32.toInt c_1543
                    exact h M1536 hG1537 F1538 (by omega) (by omega) (by omega)
                  · refine to_an (pc := 8) rw_155_8 rfl (s_gR (pc := 9) rw_155_9 hG992 rfl (v := 78) rfl (to_in (pc := 12) rw_155_12 rfl (s_ialk (pc := 13) rw_155_13 hG992 rfl (n := 500) rfl rfl (A := (N.2.1 77 7).toInt) rfl (by omega) (by omega) (v := v974) (W_n W990 (by omega) w_975) (to_c (pc := 14) rw_155_14 (x := (48 : Int32)) rfl rfl (b_clt_f (pc := 16) rw_155_16 (A := v974.toInt) (B := 48) rfl rfl (by omega) (to_an (pc := 19) rw_155_19 rfl (s_gR (pc := 20) rw_155_20 hG992 rfl (v := 78) rfl (to_in (pc := 23) rw_155_23 rfl (s_ialk (pc := 24) rw_155_24 hG992 rfl (n := 500) rfl rfl (A := (N.2.1 77 7).toInt) rfl (by omega) (by omega) (v := v974) (W_n W990 (by omega) w_975) (to_c (pc := 25) rw_155_25 (x := (57 : Int32)) rfl rfl (b_cgt_t (pc := 27) rw_155_27 (A := v974.toInt) (B := 57) rfl rfl (by omega) ?_)))))))))))
                    refine to_c (pc := 34) rw_155_34 (x := (0 : Int32)) rfl rfl (s_r1 (pc := 35) rw_155_35 (A := 0) rfl (by decide) (b_ieq_t (pc := 199) rw_156_199 (A := 0) rfl (by decide) (to_an (pc := 276) rw_156_276 rfl (to_an (pc := 277) rw_156_277 rfl (s_gR (pc := 278) rw_156_278 hG992 rfl (v := 78) rfl (to_an (pc := 281) rw_156_281 rfl (tt_gI (pc := 282) rw_156_282 (g_o hG992 rfl) (v := (N.2.1 77 7)) c_994 (s_ialk (pc := 285) rw_156_285 hG992 rfl (n := 500) rfl rfl (A := (N.2.1 77 7).toInt) rfl (by omega) (by omega) (v := v974) (W_n W990 (by omega) w_975) (s_pI (pc := 286) rw_156_286 hG992 rfl (fun M1553 W1552 => ?_))))))))))
                    have hG1554 := g_wf hG992 W1552 rfl rfl (by decide)
                    have F1555 := FR.w F993 W1552 (show 77 = 77 ∧ 7 ≤ 9 ∧ 9 ≤ 10 by decide)
                    refine to_an (pc := 289) rw_156_289 rfl (to_an (pc := 290) rw_156_290 rfl ?_)
                    have c_1556 : M1553.2.1 77 9 = v974 := (W_e W1552)
                    refine tt_gI (pc := 291) rw_156_291 (g_o hG1554 rfl) (v := v974) c_1556 (to_c (pc := 294) rw_156_294 (x := (59 : Int32)) rfl rfl (b_ceq_f (pc := 296) rw_156_296 (A := v974.toInt) (B := 59) rfl rfl (by omega) (to_an (pc := 299) rw_156_299 rfl (tt_gI (pc := 300) rw_156_300 (g_o hG1554 rfl) (v := v974) c_1556 (to_c (pc := 303) rw_156_303 (x := (40 : Int32)) rfl rfl (b_ceq_f (pc := 305) rw_156_305 (A := v974.toInt) (B := 40) rfl rfl (by omega) (to_an (pc := 308) rw_156_308 rfl (tt_gI (pc := 309) rw_156_309 (g_o hG1554 rfl) (v := v974) c_1556 (to_c (pc := 312) rw_156_312 (x := (41 : Int32)) rfl rfl (b_ceq_f (pc := 314) rw_156_314 (A := v974.toInt) (B := 41) rfl rfl (by omega) (to_an (pc := 317) rw_156_317 rfl ?_)))))))))))
                    refine tt_gI (pc := 318) rw_156_318 (g_o hG1554 rfl) (v := v974) c_1556 (to_c (pc := 321) rw_156_321 (x := (61 : Int32)) rfl rfl (b_cne_t (pc := 323) rw_156_323 (A := v974.toInt) (B := 61) rfl rfl (by omega) (to_c (pc := 330) rw_156_330 (x := (5 : Int32)) rfl rfl (s_pI (pc := 331) rw_156_331 hG1554 rfl (fun M1558 W1557 => ?_)))))
                    have hG1559 := g_w hG1554 W1557 (A := 5) rfl (lo := 0) (hi := 5) rfl rfl (by omega) (by decide)
                    have F1560 := FR.w F1555 W1557 (show 77 = 77 ∧ 7 ≤ 8 ∧ 8 ≤ 10 by decide)
                    refine to_an (pc := 334) rw_156_334 rfl (to_dupr (pc := 335) rw_156_335 ?_)
                    have c_1561 : M1558.2.1 77 7 = (N.2.1 77 7) := (W_n W1557 (by decide) (W_n W1552 (by decide) c_994))
                    refine tt_gI (pc := 336) rw_156_336 (g_o hG1559 rfl) (v := (N.2.1 77 7)) c_1561 (to_c (pc := 339) rw_156_339 (x := (1 : Int32)) rfl rfl (s_add (pc := 340) rw_156_340 (A := (N.2.1 77 7).toInt) (B := 1) rfl rfl (by omega) (fun v1562 e1563 => s_pI (pc := 341) rw_156_341 hG1559 rfl (fun M1565 W1564 => ?_))))
                    have hG1566 := g_w hG1559 W1564 (A := v1562.toInt) rfl (lo := 0) (hi := 500) rfl rfl (by omega) (by decide)
                    have F1567 := FR.w F1560 W1564 (show 77 = 77 ∧ 7 ≤ 7 ∧ 7 ≤ 10 by decide)
                    refine to_rv (pc := 344) rw_156_344 ?_
                    have c_1568 : M1565.2.1 77 7 = v1562 := (W_e W1564)
                    have t_1569 : (M1565.2.1 77 7).toInt = v1562.toInt := congrArg Int32.toInt c_1568
                    have c_1570 : M1565.2.1 77 6 = (N.2.1 77 6) := (W_n W1564 (by decide) (W_n W1557 (by decide) (W_n W1552 (by decide) c_995)))
                    have t_1571 : (M1565.2.1 77 6).toInt = (N.2.1 77 6).toInt := congrArg Int32.toInt c_1570
                    have c_1572 : M1565.2.1 77 8 = (5 : Int32) := (W_n W1564 (by decide) (W_e W1557))
                    have k_1573 : (5 : Int32).toInt = 5 := rfl
                    have t_1574 : (M1565.2.1 77 8).toInt = (5 : Int32).toInt := congrArg Int32.toInt c_1572
                    exact h M1565 hG1566 F1567 (by omega) (by omega) (by omega)
                · refine to_c (pc := 30) rw_154_30 (x := (1 : Int32)) rfl rfl (to_go (pc := 31) rw_154_31 (s_r1 (pc := 35) rw_154_35 (A := 1) rfl (by decide) (b_ieq_f (pc := 87) rw_156_87 (A := 1) rfl (by decide) (to_an (pc := 90) rw_156_90 rfl (to_an (pc := 91) rw_156_91 rfl (tt_gI (pc := 92) rw_156_92 (g_o hG992 rfl) (v := (N.2.1 77 7)) c_994 (s_v (pc := 95) rw_156_95 (dp0 hd (by decide)) (ls0 := [.ref 77, .int (N.2.1 77 7)]) rfl (Nat.le_of_ble_eq_true rfl) (Nat.le_of_ble_eq_true rfl) rfl (to_rc rfl rfl rfl (g_o hG992 rfl)) rfl (to_in (pc := 0) rw_154_0 rfl (to_an (pc := 1) rw_154_1 rfl (tt_gI (pc := 2) rw_154_2 (g_o hG992 rfl) (v := (N.2.1 77 6)) c_995 (b_cge (pc := 5) rw_154_5 (A := (N.2.1 77 7).toInt) (B := (N.2.1 77 6).toInt) rfl rfl (fun h1575 => ?_) (fun h1575 => ?_))))))))))))
                  · refine to_c (pc := 34) rw_154_34 (x := (0 : Int32)) rfl rfl (s_r1 (pc := 35) rw_154_35 (A := 0) rfl (by decide) (b_ieq_t (pc := 98) rw_156_98 (A := 0) rfl (by decide) (to_an (pc := 114) rw_156_114 rfl (to_an (pc := 115) rw_156_115 rfl (to_an (pc := 116) rw_156_116 rfl ?_)))))
                    have c_1576 : M991.2.1 77 10 = (N.2.1 77 7) := (W_e W990)
                    refine tt_gI (pc := 117) rw_156_117 (g_o hG992 rfl) (v := (N.2.1 77 7)) c_1576 (to_an (pc := 120) rw_156_120 rfl (tt_gI (pc := 121) rw_156_121 (g_o hG992 rfl) (v := (N.2.1 77 7)) c_994 (s_v (pc := 124) rw_156_124 (dp0 hd (by decide)) (ls0 := [.ref 77, .int (N.2.1 77 7), .int (N.2.1 77 7), .null, .null, .null, .null, .null]) rfl (Nat.le_of_ble_eq_true rfl) (Nat.le_of_ble_eq_true rfl) rfl (to_rc rfl rfl rfl (g_o hG992 rfl)) rfl (C_153 hX (dp1 hd (by decide)) hG992 (by omega) (by omega) (by omega) (by omega) (by omega) (a := (N.2.1 77 7)) (b := (N.2.1 77 7)) (fun r1577 M1580 hG1579 F1578 => ?_)))))
                    have F1581 := FR.c F993 F1578 tg_10
                    refine s_pI (pc := 127) rw_156_127 hG1579 rfl (fun M1583 W1582 => ?_)
                    have hG1584 := g_wf hG1579 W1582 rfl rfl (by decide)
                    have F1585 := FR.w F1581 W1582 (show 77 = 77 ∧ 7 ≤ 9 ∧ 9 ≤ 10 by decide)
                    refine to_an (pc := 130) rw_156_130 rfl (to_an (pc := 131) rw_156_131 rfl ?_)
                    have c_1586 : M1583.2.1 77 9 = r1577 := (W_e W1582)
                    refine tt_gI (pc := 132) rw_156_132 (g_o hG1584 rfl) (v := r1577) c_1586 (b_ilt (pc := 135) rw_156_135 (A := r1577.toInt) rfl (fun h1587 => ?_) (fun h1587 => ?_))
                    · refine to_an (pc := 142) rw_156_142 rfl ?_
                      have c_1588 : M1583.2.1 77 7 = (N.2.1 77 7) := (W_n W1582 (by decide) (F_n F1578 (show ¬ (77 < 0) by decide) c_994))
                      refine tt_gI (pc := 143) rw_156_143 (g_o hG1584 rfl) (v := (N.2.1 77 7)) c_1588 (to_an (pc := 146) rw_156_146 rfl ?_)
                      have c_1589 : M1583.2.1 77 10 = (N.2.1 77 7) := (W_n W1582 (by decide) (F_n F1578 (show ¬ (77 < 0) by decide) c_1576))
                      refine tt_gI (pc := 147) rw_156_147 (g_o hG1584 rfl) (v := (N.2.1 77 7)) c_1589 (s_sub (pc := 150) rw_156_150 (A := (N.2.1 77 7).toInt) (B := (N.2.1 77 7).toInt) rfl rfl (by omega) (fun v1590 e1591 => to_c (pc := 151) rw_156_151 (x := (6 : Int32)) rfl rfl (b_cle (pc := 153) rw_156_153 (A := v1590.toInt) (B := 6) rfl rfl (fun h1592 => ?_) (fun h1592 => ?_))))
                      · refine to_c (pc := 160) rw_156_160 (x := (2 : Int32)) rfl rfl (s_pI (pc := 161) rw_156_161 hG1584 rfl (fun M1594 W1593 => ?_))
                        have hG1595 := g_w hG1584 W1593 (A := 2) rfl (lo := 0) (hi := 5) rfl rfl (by omega) (by decide)
                        have F1596 := FR.w F1585 W1593 (show 77 = 77 ∧ 7 ≤ 8 ∧ 8 ≤ 10 by decide)
                        refine to_an (pc := 164) rw_156_164 rfl ?_
                        have c_1597 : M1594.2.1 77 8 = (2 : Int32) := (W_e W1593)
                        refine tt_gI (pc := 165) rw_156_165 (g_o hG1595 rfl) (v := (2 : Int32)) c_1597 (to_c (pc := 168) rw_156_168 (x := (2 : Int32)) rfl rfl (b_cne_f (pc := 169) rw_156_169 (A := 2) (B := 2) rfl rfl (by decide) (to_an (pc := 172) rw_156_172 rfl (to_an (pc := 173) rw_156_173 rfl (to_an (pc := 174) rw_156_174 rfl ?_)))))
                        have c_1598 : M1594.2.1 77 10 = (N.2.1 77 7) := (W_n W1593 (by decide) c_1589)
                        refine tt_gI (pc := 175) rw_156_175 (g_o hG1595 rfl) (v := (N.2.1 77 7)) c_1598 (to_an (pc := 178) rw_156_178 rfl ?_)
                        have c_1599 : M1594.2.1 77 7 = (N.2.1 77 7) := (W_n W1593 (by decide) c_1588)
                        refine tt_gI (pc := 179) rw_156_179 (g_o hG1595 rfl) (v := (N.2.1 77 7)) c_1599 (s_v (pc := 182) rw_156_182 (dp0 hd (by decide)) (ls0 := [.ref 77, .int (N.2.1 77 7), .int (N.2.1 77 7), .null, .null]) rfl (Nat.le_of_ble_eq_true rfl) (Nat.le_of_ble_eq_true rfl) rfl (to_rc rfl rfl rfl (g_o hG1595 rfl)) rfl (C_157 hX (dp1 hd (by decide)) hG1595 (by omega) (by omega) (by omega) (a := (N.2.1 77 7)) (b := (N.2.1 77 7)) (fun r1600 M1603 hG1602 F1601 => ?_)))
                        have F1604 := FR.c F1596 F1601 tg_10
                        refine s_pI (pc := 185) rw_156_185 hG1602 rfl (fun M1606 W1605 => ?_)
                        have hG1607 := g_wf hG1602 W1605 rfl rfl (by decide)
                        have F1608 := FR.w F1604 W1605 (show 77 = 77 ∧ 7 ≤ 9 ∧ 9 ≤ 10 by decide)
                        refine to_go (pc := 188) rw_156_188 (to_rv (pc := 344) rw_156_344 ?_)
                        have c_1609 : M1606.2.1 77 7 = (N.2.1 77 7) := (W_n W1605 (by decide) (F_n F1601 (show ¬ (77 < 0) by decide) c_1599))
                        have t_1610 : (M1606.2.1 77 7).toInt = (N.2.1 77 7).toInt := congrArg Int32.toInt c_1609
                        have c_1611 : M1606.2.1 77 6 = (N.2.1 77 6) := (W_n W1605 (by decide) (F_n F1601 (show ¬ (77 < 0) by decide) (W_n W1593 (by decide) (W_n W1582 (by decide) (F_n F1578 (show ¬ (77 < 0) by decide) c_995)))))
                        have t_1612 : (M1606.2.1 77 6).toInt = (N.2.1 77 6).toInt := congrArg Int32.toInt c_1611
                        have c_1613 : M1606.2.1 77 8 = (2 : Int32) := (W_n W1605 (by decide) (F_n F1601 (show ¬ (77 < 0) by decide) c_1597))
                        have k_1614 : (2 : Int32).toInt = 2 := rfl
                        have t_1615 : (M1606.2.1 77 8).toInt = (2 : Int32).toInt := congrArg Int32.toInt c_1613
                        exact h M1606 hG1607 F1608 (by omega) (by omega) (by omega)
                      · refine to_c (pc := 156) rw_156_156 (x := (5 : Int32)) rfl rfl (to_go (pc := 157) rw_156_157 (s_pI (pc := 161) rw_156_161 hG1584 rfl (fun M1617 W1616 => ?_)))
                        have hG1618 := g_w hG1584 W1616 (A := 5) rfl (lo := 0) (hi := 5) rfl rfl (by omega) (by decide)
                        have F1619 := FR.w F1585 W1616 (show 77 = 77 ∧ 7 ≤ 8 ∧ 8 ≤ 10 by decide)
                        refine to_an (pc := 164) rw_156_164 rfl ?_
                        have c_1620 : M1617.2.1 77 8 = (5 : Int32) := (W_e W1616)
                        refine tt_gI (pc := 165) rw_156_165 (g_o hG1618 rfl) (v := (5 : Int32)) c_1620 (to_c (pc := 168) rw_156_168 (x := (2 : Int32)) rfl rfl (b_cne_t (pc := 169) rw_156_169 (A := 5) (B := 2) rfl rfl (by decide) (to_rv (pc := 344) rw_156_344 ?_)))
                        have c_1621 : M1617.2.1 77 7 = (N.2.1 77 7) := (W_n W1616 (by decide) c_1588)
                        have t_1622 : (M1617.2.1 77 7).toInt = (N.2.1 77 7).toInt := congrArg Int32.toInt c_1621
                        have c_1623 : M1617.2.1 77 6 = (N.2.1 77 6) := (W_n W1616 (by decide) (W_n W1582 (by decide) (F_n F1578 (show ¬ (77 < 0) by decide) c_995)))
                        have t_1624 : (M1617.2.1 77 6).toInt = (N.2.1 77 6).toInt := congrArg Int32.toInt c_1623
                        have k_1625 : (5 : Int32).toInt = 5 := rfl
                        have t_1626 : (M1617.2.1 77 8).toInt = (5 : Int32).toInt := congrArg Int32.toInt c_1620
                        exact h M1617 hG1618 F1619 (by omega) (by omega) (by omega)
                    · refine to_c (pc := 138) rw_156_138 (x := (1 : Int32)) rfl rfl (to_go (pc := 139) rw_156_139 (s_pI (pc := 161) rw_156_161 hG1584 rfl (fun M1628 W1627 => ?_)))
                      have hG1629 := g_w hG1584 W1627 (A := 1) rfl (lo := 0) (hi := 5) rfl rfl (by omega) (by decide)
                      have F1630 := FR.w F1585 W1627 (show 77 = 77 ∧ 7 ≤ 8 ∧ 8 ≤ 10 by decide)
                      refine to_an (pc := 164) rw_156_164 rfl ?_
                      have c_1631 : M1628.2.1 77 8 = (1 : Int32) := (W_e W1627)
                      refine tt_gI (pc := 165) rw_156_165 (g_o hG1629 rfl) (v := (1 : Int32)) c_1631 (to_c (pc := 168) rw_156_168 (x := (2 : Int32)) rfl rfl (b_cne_t (pc := 169) rw_156_169 (A := 1) (B := 2) rfl rfl (by decide) (to_rv (pc := 344) rw_156_344 ?_)))
                      have c_1632 : M1628.2.1 77 7 = (N.2.1 77 7) := (W_n W1627 (by decide) (W_n W1582 (by decide) (F_n F1578 (show ¬ (77 < 0) by decide) c_994)))
                      have t_1633 : (M1628.2.1 77 7).toInt = (N.2.1 77 7).toInt := congrArg Int32.toInt c_1632
                      have c_1634 : M1628.2.1 77 6 = (N.2.1 77 6) := (W_n W1627 (by decide) (W_n W1582 (by decide) (F_n F1578 (show ¬ (77 < 0) by decide) c_995)))
                      have t_1635 : (M1628.2.1 77 6).toInt = (N.2.1 77 6).toInt := congrArg Int32.toInt c_1634
                      have k_1636 : (1 : Int32).toInt = 1 := rfl
                      have t_1637 : (M1628.2.1 77 8).toInt = (1 : Int32).toInt := congrArg Int32.toInt c_1631
                      exact h M1628 hG1629 F1630 (by omega) (by omega) (by omega)
                  · refine to_an (pc := 8) rw_154_8 rfl (s_gR (pc := 9) rw_154_9 hG992 rfl (v := 78) rfl (to_in (pc := 12) rw_154_12 rfl (s_ialk (pc := 13) rw_154_13 hG992 rfl (n := 500) rfl rfl (A := (N.2.1 77 7).toInt) rfl (by omega) (by omega) (v := v974) (W_n W990 (by omega) w_975) (to_c (pc := 14) rw_154_14 (x := (97 : Int32)) rfl rfl (b_clt_f (pc := 16) rw_154_16 (A := v974.toInt) (B := 97) rfl rfl (by omega) (to_an (pc := 19) rw_154_19 rfl (s_gR (pc := 20) rw_154_20 hG992 rfl (v := 78) rfl (to_in (pc := 23) rw_154_23 rfl (s_ialk (pc := 24) rw_154_24 hG992 rfl (n := 500) rfl rfl (A := (N.2.1 77 7).toInt) rfl (by omega) (by omega) (v := v974) (W_n W990 (by omega) w_975) (to_c (pc := 25) rw_154_25 (x := (122 : Int32)) rfl rfl (b_cgt_f (pc := 27) rw_154_27 (A := v974.toInt) (B := 122) rfl rfl (by omega) ?_)))))))))))
                    refine to_c (pc := 30) rw_154_30 (x := (1 : Int32)) rfl rfl (to_go (pc := 31) rw_154_31 (s_r1 (pc := 35) rw_154_35 (A := 1) rfl (by decide) (b_ieq_f (pc := 98) rw_156_98 (A := 1) rfl (by decide) ?_)))
                    have t_1642 : (M991.2.1 77 7).toInt = (N.2.1 77 7).toInt := congrArg Int32.toInt c_994
                    have t_1643 : (M991.2.1 77 6).toInt = (N.2.1 77 6).toInt := congrArg Int32.toInt c_995
                    have c_1644 : M991.2.1 77 10 = (N.2.1 77 7) := (W_e W990)
                    have t_1645 : (M991.2.1 77 10).toInt = (N.2.1 77 7).toInt := congrArg Int32.toInt c_1644
                    exact (T_156_1 hX hd q1 h ((500 - (M991.2.1 77 7).toInt).toNat + 1)) M991  hG992 F993 (by omega) (by omega) (by omega) (by omega)
          · refine to_an (pc := 71) rw_156_71 rfl (to_c (pc := 72) rw_156_72 (x := (0 : Int32)) rfl rfl (s_pI (pc := 73) rw_156_73 hG992 rfl (fun M1647 W1646 => ?_)))
            have hG1648 := g_w hG992 W1646 (A := 0) rfl (lo := 0) (hi := 5) rfl rfl (by omega) (by decide)
            have F1649 := FR.w F993 W1646 (show 77 = 77 ∧ 7 ≤ 8 ∧ 8 ≤ 10 by decide)
            refine to_go (pc := 76) rw_156_76 (to_rv (pc := 344) rw_156_344 ?_)
            have c_1650 : M1647.2.1 77 7 = (N.2.1 77 7) := (W_n W1646 (by decide) c_994)
            have t_1651 : (M1647.2.1 77 7).toInt = (N.2.1 77 7).toInt := congrArg Int32.toInt c_1650
            have c_1652 : M1647.2.1 77 6 = (N.2.1 77 6) := (W_n W1646 (by decide) c_995)
            have t_1653 : (M1647.2.1 77 6).toInt = (N.2.1 77 6).toInt := congrArg Int32.toInt c_1652
            have c_1654 : M1647.2.1 77 8 = (0 : Int32) := (W_e W1646)
            have k_1655 : (0 : Int32).toInt = 0 := rfl
            have t_1656 : (M1647.2.1 77 8).toInt = (0 : Int32).toInt := congrArg Int32.toInt c_1654
            exact h M1647 hG1648 F1649 (by omega) (by omega) (by omega)
        · refine to_an (pc := 39) rw_156_39 rfl (to_dupr (pc := 40) rw_156_40 (tt_gI (pc := 41) rw_156_41 (g_o hG rfl) (v := (N.2.1 77 7)) rfl (to_c (pc := 44) rw_156_44 (x := (1 : Int32)) rfl rfl (s_add (pc := 45) rw_156_45 (A := (N.2.1 77 7).toInt) (B := 1) rfl rfl (by omega) (fun v1657 e1658 => s_pI (pc := 46) rw_156_46 hG rfl (fun M1660 W1659 => ?_))))))
          have hG1661 := g_w hG W1659 (A := v1657.toInt) rfl (lo := 0) (hi := 500) rfl rfl (by omega) (by decide)
          have F1662 := FR.w F0 W1659 (show 77 = 77 ∧ 7 ≤ 7 ∧ 7 ≤ 10 by decide)
          refine to_go (pc := 49) rw_156_49 ?_
          have c_1663 : M1660.2.1 77 7 = v1657 := (W_e W1659)
          have t_1664 : (M1660.2.1 77 7).toInt = v1657.toInt := congrArg Int32.toInt c_1663
          have c_1665 : M1660.2.1 77 6 = (N.2.1 77 6) := (W_n W1659 (by decide) rfl)
          have t_1666 : (M1660.2.1 77 6).toInt = (N.2.1 77 6).toInt := congrArg Int32.toInt c_1665
          exact ih M1660  hG1661 F1662 (by omega) (by omega) (by omega)
set_option maxRecDepth 4000 in
set_option maxHeartbeats 0 in
theorem C_156 {X : mm_X} {d : Nat} {M : mm_M} {Q : Option Value → mm_M → Prop} (hX : g_X X) (hd : 1 ≤ d) (hG : g_G M) (q1 : (M.2.1 77 7).toInt ≤ (M.2.1 77 6).toInt) (h : ∀ (M1 : mm_M), g_G M1 → FR md_tk M M1 → ((M1.2.1 77 7).toInt ≤ (M1.2.1 77 6).toInt) → ((M.2.1 77 7).toInt ≤ (M1.2.1 77 7).toInt) → ((M1.2.1 77 8).toInt = 0 ∨ (M.2.1 77 7).toInt < (M1.2.1 77 7).toInt) → Q (none) M1) : mm_T X d 155 0 [.ref 77] [] M Q := by
  have F0 : FR md_tk M M := FR.rf
  have b_1667 := g_b hG (a := 77) (i := 7) (lo := 0) (hi := 500) rfl rfl
  have b_1668 := g_b hG (a := 77) (i := 6) (lo := 0) (hi := 500) rfl rfl
  exact (T_156_2 hX hd q1 h ((500 - (M.2.1 77 7).toInt).toNat + 1)) M  hG F0 (by omega) (by omega) (by omega)
set_option maxRecDepth 4000 in
set_option maxHeartbeats 0 in
theorem C_160 {X : mm_X} {d : Nat} {M : mm_M} {Q : Option Value → mm_M → Prop} {c : Int32} (hX : g_X X) (hd : 2 ≤ d) (hG : g_G M) (q1 : (M.2.1 77 7).toInt ≤ (M.2.1 77 6).toInt) (h : ∀ (r : Int32) (M1 : mm_M), g_G M1 → FR md_tw M M1 → (0 ≤ r.toInt) → (r.toInt ≤ 1) → ((M1.2.1 77 7).toInt ≤ (M1.2.1 77 6).toInt) → ((M.2.1 77 7).toInt ≤ (M1.2.1 77 7).toInt) → (r.toInt = 1 → (M1.2.1 77 8).toInt = 0 ∨ (M.2.1 77 7).toInt < (M1.2.1 77 7).toInt) → (r.toInt = 1 → ¬ (M.2.1 77 8).toInt = 0) → Q (some (.int r)) M1) : mm_T X d 159 0 [.ref 77, .int c] [] M Q := by
  have F0 : FR md_tw M M := FR.rf
  have b_1 := g_b hG (a := 77) (i := 7) (lo := 0) (hi := 500) rfl rfl
  have b_2 := g_b hG (a := 77) (i := 6) (lo := 0) (hi := 500) rfl rfl
  refine to_an (pc := 0) rw_160_0 rfl (to_in (pc := 1) rw_160_1 rfl (s_v (pc := 2) rw_160_2 (dp0 hd (by decide)) (ls0 := [.ref 77, .int c]) rfl (Nat.le_of_ble_eq_true rfl) (Nat.le_of_ble_eq_true rfl) rfl (to_rc rfl rfl rfl (g_o hG rfl)) rfl (to_an (pc := 0) rw_159_0 rfl ?_)))
  have b_3 := g_b hG (a := 77) (i := 8) (lo := 0) (hi := 5) rfl rfl
  refine tt_gI (pc := 1) rw_159_1 (g_o hG rfl) (v := (M.2.1 77 8)) rfl (to_c (pc := 4) rw_159_4 (x := (4 : Int32)) rfl rfl (b_cne (pc := 5) rw_159_5 (A := (M.2.1 77 8).toInt) (B := 4) rfl rfl (fun h4 => ?_) (fun h4 => ?_)))
  · refine to_c (pc := 20) rw_159_20 (x := (0 : Int32)) rfl rfl (s_r1 (pc := 21) rw_159_21 (A := 0) rfl (by decide) (b_ine_f (pc := 5) rw_160_5 (A := 0) rfl (by decide) (to_an (pc := 8) rw_160_8 rfl (to_c (pc := 9) rw_160_9 (x := (1 : Int32)) rfl rfl (s_v (pc := 10) rw_160_10 (dp0 hd (by decide)) (ls0 := [.ref 77, .int (1 : Int32)]) rfl (Nat.le_of_ble_eq_true rfl) (Nat.le_of_ble_eq_true rfl) rfl (to_rc rfl rfl rfl (g_o hG rfl)) rfl (to_an (pc := 0) rw_152_0 rfl (to_in (pc := 1) rw_152_1 rfl (s_pI (pc := 2) rw_152_2 hG rfl (fun M6 W5 => ?_)))))))))
    have hG7 := g_wf hG W5 rfl rfl (by decide)
    have F8 := FR.w F0 W5 (show 77 = 77 ∧ (4 = 4 ∨ 4 = 5 ∨ 7 ≤ 4 ∧ 4 ≤ 10) by decide)
    refine to_an (pc := 5) rw_152_5 rfl (to_an (pc := 6) rw_152_6 rfl ?_)
    have c_9 : M6.2.1 77 10 = (M.2.1 77 10) := (W_n W5 (by decide) rfl)
    have b_10 := g_b hG (a := 77) (i := 10) (lo := 0) (hi := 500) rfl rfl
    refine tt_gI (pc := 7) rw_152_7 (g_o hG7 rfl) (v := (M.2.1 77 10)) c_9 (s_pI (pc := 10) rw_152_10 hG7 rfl (fun M12 W11 => ?_))
    have hG13 := g_wf hG7 W11 rfl rfl (by decide)
    have F14 := FR.w F8 W11 (show 77 = 77 ∧ (5 = 4 ∨ 5 = 5 ∨ 7 ≤ 5 ∧ 5 ≤ 10) by decide)
    refine to_c (pc := 13) rw_152_13 (x := (0 : Int32)) rfl rfl (s_r1 (pc := 14) rw_152_14 (A := 0) rfl (by decide) (s_r1 (pc := 13) rw_160_13 (A := 0) rfl (by decide) ?_))
    have k_15 : (0 : Int32).toInt = 0 := rfl
    have c_16 : M12.2.1 77 7 = (M.2.1 77 7) := (W_n W11 (by decide) (W_n W5 (by decide) rfl))
    have t_17 : (M12.2.1 77 7).toInt = (M.2.1 77 7).toInt := congrArg Int32.toInt c_16
    have c_18 : M12.2.1 77 6 = (M.2.1 77 6) := (W_n W11 (by decide) (W_n W5 (by decide) rfl))
    have t_19 : (M12.2.1 77 6).toInt = (M.2.1 77 6).toInt := congrArg Int32.toInt c_18
    have c_20 : M12.2.1 77 8 = (M.2.1 77 8) := (W_n W11 (by decide) (W_n W5 (by decide) rfl))
    have t_21 : (M12.2.1 77 8).toInt = (M.2.1 77 8).toInt := congrArg Int32.toInt c_20
    exact h (0 : Int32) M12 hG13 F14 (by decide) (by decide) (by omega) (by omega) (by omega) (by omega)
  · refine to_an (pc := 8) rw_159_8 rfl (tt_gI (pc := 9) rw_159_9 (g_o hG rfl) (v := (M.2.1 77 9)) rfl (to_in (pc := 12) rw_159_12 rfl (b_cne (pc := 13) rw_159_13 (A := (M.2.1 77 9).toInt) (B := c.toInt) rfl rfl (fun h22 => ?_) (fun h22 => ?_))))
    · refine to_c (pc := 20) rw_159_20 (x := (0 : Int32)) rfl rfl (s_r1 (pc := 21) rw_159_21 (A := 0) rfl (by decide) (b_ine_f (pc := 5) rw_160_5 (A := 0) rfl (by decide) (to_an (pc := 8) rw_160_8 rfl (to_c (pc := 9) rw_160_9 (x := (1 : Int32)) rfl rfl (s_v (pc := 10) rw_160_10 (dp0 hd (by decide)) (ls0 := [.ref 77, .int (1 : Int32)]) rfl (Nat.le_of_ble_eq_true rfl) (Nat.le_of_ble_eq_true rfl) rfl (to_rc rfl rfl rfl (g_o hG rfl)) rfl (to_an (pc := 0) rw_152_0 rfl (to_in (pc := 1) rw_152_1 rfl (s_pI (pc := 2) rw_152_2 hG rfl (fun M24 W23 => ?_)))))))))
      have hG25 := g_wf hG W23 rfl rfl (by decide)
      have F26 := FR.w F0 W23 (show 77 = 77 ∧ (4 = 4 ∨ 4 = 5 ∨ 7 ≤ 4 ∧ 4 ≤ 10) by decide)
      refine to_an (pc := 5) rw_152_5 rfl (to_an (pc := 6) rw_152_6 rfl ?_)
      have c_27 : M24.2.1 77 10 = (M.2.1 77 10) := (W_n W23 (by decide) rfl)
      have b_28 := g_b hG (a := 77) (i := 10) (lo := 0) (hi := 500) rfl rfl
      refine tt_gI (pc := 7) rw_152_7 (g_o hG25 rfl) (v := (M.2.1 77 10)) c_27 (s_pI (pc := 10) rw_152_10 hG25 rfl (fun M30 W29 => ?_))
      have hG31 := g_wf hG25 W29 rfl rfl (by decide)
      have F32 := FR.w F26 W29 (show 77 = 77 ∧ (5 = 4 ∨ 5 = 5 ∨ 7 ≤ 5 ∧ 5 ≤ 10) by decide)
      refine to_c (pc := 13) rw_152_13 (x := (0 : Int32)) rfl rfl (s_r1 (pc := 14) rw_152_14 (A := 0) rfl (by decide) (s_r1 (pc := 13) rw_160_13 (A := 0) rfl (by decide) ?_))
      have k_33 : (0 : Int32).toInt = 0 := rfl
      have c_34 : M30.2.1 77 7 = (M.2.1 77 7) := (W_n W29 (by decide) (W_n W23 (by decide) rfl))
      have t_35 : (M30.2.1 77 7).toInt = (M.2.1 77 7).toInt := congrArg Int32.toInt c_34
      have c_36 : M30.2.1 77 6 = (M.2.1 77 6) := (W_n W29 (by decide) (W_n W23 (by decide) rfl))
      have t_37 : (M30.2.1 77 6).toInt = (M.2.1 77 6).toInt := congrArg Int32.toInt c_36
      have c_38 : M30.2.1 77 8 = (M.2.1 77 8) := (W_n W29 (by decide) (W_n W23 (by decide) rfl))
      have t_39 : (M30.2.1 77 8).toInt = (M.2.1 77 8).toInt := congrArg Int32.toInt c_38
      exact h (0 : Int32) M30 hG31 F32 (by decide) (by decide) (by omega) (by omega) (by omega) (by omega)
    · refine to_c (pc := 16) rw_159_16 (x := (1 : Int32)) rfl rfl (to_go (pc := 17) rw_159_17 (s_r1 (pc := 21) rw_159_21 (A := 1) rfl (by decide) (b_ine_t (pc := 5) rw_160_5 (A := 1) rfl (by decide) (to_an (pc := 14) rw_160_14 rfl (s_v (pc := 15) rw_160_15 (dp0 hd (by decide)) (ls0 := [.ref 77]) rfl (Nat.le_of_ble_eq_true rfl) (Nat.le_of_ble_eq_true rfl) rfl (to_rc rfl rfl rfl (g_o hG rfl)) rfl (C_156 hX (dp1 hd (by decide)) hG (by omega)  (fun M45 hG41 F40 p_42 p_43 p_44 => ?_)))))))
      have F46 := FR.c F0 F40 tg_35
      have b_47 := g_b hG41 (a := 77) (i := 7) (lo := 0) (hi := 500) rfl rfl
      have c_48 : M45.2.1 77 6 = (M.2.1 77 6) := (F_n F40 (show ¬ (77 = 77 ∧ 7 ≤ 6 ∧ 6 ≤ 10) by decide) rfl)
      have t_49 : (M45.2.1 77 6).toInt = (M.2.1 77 6).toInt := congrArg Int32.toInt c_48
      have b_50 := g_b hG41 (a := 77) (i := 8) (lo := 0) (hi := 5) rfl rfl
      refine to_c (pc := 18) rw_160_18 (x := (1 : Int32)) rfl rfl (s_r1 (pc := 19) rw_160_19 (A := 1) rfl (by decide) ?_)
      have k_51 : (1 : Int32).toInt = 1 := rfl
      exact h (1 : Int32) M45 hG41 F46 (by decide) (by decide) (by omega) (by omega) (by omega) (by omega)
set_option maxRecDepth 4000 in
set_option maxHeartbeats 0 in
theorem C_161 {X : mm_X} {d : Nat} {M : mm_M} {Q : Option Value → mm_M → Prop} {c : Int32} (hX : g_X X) (hd : 2 ≤ d) (hG : g_G M) (q1 : (M.2.1 77 7).toInt ≤ (M.2.1 77 6).toInt) (h : ∀ (r : Int32) (M1 : mm_M), g_G M1 → FR md_tw M M1 → (0 ≤ r.toInt) → (r.toInt ≤ 1) → ((M1.2.1 77 7).toInt ≤ (M1.2.1 77 6).toInt) → ((M.2.1 77 7).toInt ≤ (M1.2.1 77 7).toInt) → (r.toInt = 1 → (M1.2.1 77 8).toInt = 0 ∨ (M.2.1 77 7).toInt < (M1.2.1 77 7).toInt) → (r.toInt = 1 → ¬ (M.2.1 77 8).toInt = 0) → Q (some (.int r)) M1) : mm_T X d 160 0 [.ref 77, .int c] [] M Q := by
  have F0 : FR md_tw M M := FR.rf
  have b_1 := g_b hG (a := 77) (i := 7) (lo := 0) (hi := 500) rfl rfl
  have b_2 := g_b hG (a := 77) (i := 6) (lo := 0) (hi := 500) rfl rfl
  refine to_an (pc := 0) rw_161_0 rfl (to_in (pc := 1) rw_161_1 rfl (s_v (pc := 2) rw_161_2 (dp0 hd (by decide)) (ls0 := [.ref 77, .int c]) rfl (Nat.le_of_ble_eq_true rfl) (Nat.le_of_ble_eq_true rfl) rfl (to_rc rfl rfl rfl (g_o hG rfl)) rfl (to_an (pc := 0) rw_158_0 rfl ?_)))
  have b_3 := g_b hG (a := 77) (i := 8) (lo := 0) (hi := 5) rfl rfl
  refine tt_gI (pc := 1) rw_158_1 (g_o hG rfl) (v := (M.2.1 77 8)) rfl (to_c (pc := 4) rw_158_4 (x := (1 : Int32)) rfl rfl (b_cne (pc := 5) rw_158_5 (A := (M.2.1 77 8).toInt) (B := 1) rfl rfl (fun h4 => ?_) (fun h4 => ?_)))
  · refine to_c (pc := 20) rw_158_20 (x := (0 : Int32)) rfl rfl (s_r1 (pc := 21) rw_158_21 (A := 0) rfl (by decide) (b_ine_f (pc := 5) rw_161_5 (A := 0) rfl (by decide) (to_an (pc := 8) rw_161_8 rfl (to_c (pc := 9) rw_161_9 (x := (1 : Int32)) rfl rfl (s_v (pc := 10) rw_161_10 (dp0 hd (by decide)) (ls0 := [.ref 77, .int (1 : Int32)]) rfl (Nat.le_of_ble_eq_true rfl) (Nat.le_of_ble_eq_true rfl) rfl (to_rc rfl rfl rfl (g_o hG rfl)) rfl (to_an (pc := 0) rw_152_0 rfl (to_in (pc := 1) rw_152_1 rfl (s_pI (pc := 2) rw_152_2 hG rfl (fun M6 W5 => ?_)))))))))
    have hG7 := g_wf hG W5 rfl rfl (by decide)
    have F8 := FR.w F0 W5 (show 77 = 77 ∧ (4 = 4 ∨ 4 = 5 ∨ 7 ≤ 4 ∧ 4 ≤ 10) by decide)
    refine to_an (pc := 5) rw_152_5 rfl (to_an (pc := 6) rw_152_6 rfl ?_)
    have c_9 : M6.2.1 77 10 = (M.2.1 77 10) := (W_n W5 (by decide) rfl)
    have b_10 := g_b hG (a := 77) (i := 10) (lo := 0) (hi := 500) rfl rfl
    refine tt_gI (pc := 7) rw_152_7 (g_o hG7 rfl) (v := (M.2.1 77 10)) c_9 (s_pI (pc := 10) rw_152_10 hG7 rfl (fun M12 W11 => ?_))
    have hG13 := g_wf hG7 W11 rfl rfl (by decide)
    have F14 := FR.w F8 W11 (show 77 = 77 ∧ (5 = 4 ∨ 5 = 5 ∨ 7 ≤ 5 ∧ 5 ≤ 10) by decide)
    refine to_c (pc := 13) rw_152_13 (x := (0 : Int32)) rfl rfl (s_r1 (pc := 14) rw_152_14 (A := 0) rfl (by decide) (s_r1 (pc := 13) rw_161_13 (A := 0) rfl (by decide) ?_))
    have k_15 : (0 : Int32).toInt = 0 := rfl
    have c_16 : M12.2.1 77 7 = (M.2.1 77 7) := (W_n W11 (by decide) (W_n W5 (by decide) rfl))
    have t_17 : (M12.2.1 77 7).toInt = (M.2.1 77 7).toInt := congrArg Int32.toInt c_16
    have c_18 : M12.2.1 77 6 = (M.2.1 77 6) := (W_n W11 (by decide) (W_n W5 (by decide) rfl))
    have t_19 : (M12.2.1 77 6).toInt = (M.2.1 77 6).toInt := congrArg Int32.toInt c_18
    have c_20 : M12.2.1 77 8 = (M.2.1 77 8) := (W_n W11 (by decide) (W_n W5 (by decide) rfl))
    have t_21 : (M12.2.1 77 8).toInt = (M.2.1 77 8).toInt := congrArg Int32.toInt c_20
    exact h (0 : Int32) M12 hG13 F14 (by decide) (by decide) (by omega) (by omega) (by omega) (by omega)
  · refine to_an (pc := 8) rw_158_8 rfl (tt_gI (pc := 9) rw_158_9 (g_o hG rfl) (v := (M.2.1 77 9)) rfl (to_in (pc := 12) rw_158_12 rfl (b_cne (pc := 13) rw_158_13 (A := (M.2.1 77 9).toInt) (B := c.toInt) rfl rfl (fun h22 => ?_) (fun h22 => ?_))))
    · refine to_c (pc := 20) rw_158_20 (x := (0 : Int32)) rfl rfl (s_r1 (pc := 21) rw_158_21 (A := 0) rfl (by decide) (b_ine_f (pc := 5) rw_161_5 (A := 0) rfl (by decide) (to_an (pc := 8) rw_161_8 rfl (to_c (pc := 9) rw_161_9 (x := (1 : Int32)) rfl rfl (s_v (pc := 10) rw_161_10 (dp0 hd (by decide)) (ls0 := [.ref 77, .int (1 : Int32)]) rfl (Nat.le_of_ble_eq_true rfl) (Nat.le_of_ble_eq_true rfl) rfl (to_rc rfl rfl rfl (g_o hG rfl)) rfl (to_an (pc := 0) rw_152_0 rfl (to_in (pc := 1) rw_152_1 rfl (s_pI (pc := 2) rw_152_2 hG rfl (fun M24 W23 => ?_)))))))))
      have hG25 := g_wf hG W23 rfl rfl (by decide)
      have F26 := FR.w F0 W23 (show 77 = 77 ∧ (4 = 4 ∨ 4 = 5 ∨ 7 ≤ 4 ∧ 4 ≤ 10) by decide)
      refine to_an (pc := 5) rw_152_5 rfl (to_an (pc := 6) rw_152_6 rfl ?_)
      have c_27 : M24.2.1 77 10 = (M.2.1 77 10) := (W_n W23 (by decide) rfl)
      have b_28 := g_b hG (a := 77) (i := 10) (lo := 0) (hi := 500) rfl rfl
      refine tt_gI (pc := 7) rw_152_7 (g_o hG25 rfl) (v := (M.2.1 77 10)) c_27 (s_pI (pc := 10) rw_152_10 hG25 rfl (fun M30 W29 => ?_))
      have hG31 := g_wf hG25 W29 rfl rfl (by decide)
      have F32 := FR.w F26 W29 (show 77 = 77 ∧ (5 = 4 ∨ 5 = 5 ∨ 7 ≤ 5 ∧ 5 ≤ 10) by decide)
      refine to_c (pc := 13) rw_152_13 (x := (0 : Int32)) rfl rfl (s_r1 (pc := 14) rw_152_14 (A := 0) rfl (by decide) (s_r1 (pc := 13) rw_161_13 (A := 0) rfl (by decide) ?_))
      have k_33 : (0 : Int32).toInt = 0 := rfl
      have c_34 : M30.2.1 77 7 = (M.2.1 77 7) := (W_n W29 (by decide) (W_n W23 (by decide) rfl))
      have t_35 : (M30.2.1 77 7).toInt = (M.2.1 77 7).toInt := congrArg Int32.toInt c_34
      have c_36 : M30.2.1 77 6 = (M.2.1 77 6) := (W_n W29 (by decide) (W_n W23 (by decide) rfl))
      have t_37 : (M30.2.1 77 6).toInt = (M.2.1 77 6).toInt := congrArg Int32.toInt c_36
      have c_38 : M30.2.1 77 8 = (M.2.1 77 8) := (W_n W29 (by decide) (W_n W23 (by decide) rfl))
      have t_39 : (M30.2.1 77 8).toInt = (M.2.1 77 8).toInt := congrArg Int32.toInt c_38
      exact h (0 : Int32) M30 hG31 F32 (by decide) (by decide) (by omega) (by omega) (by omega) (by omega)
    · refine to_c (pc := 16) rw_158_16 (x := (1 : Int32)) rfl rfl (to_go (pc := 17) rw_158_17 (s_r1 (pc := 21) rw_158_21 (A := 1) rfl (by decide) (b_ine_t (pc := 5) rw_161_5 (A := 1) rfl (by decide) (to_an (pc := 14) rw_161_14 rfl (s_v (pc := 15) rw_161_15 (dp0 hd (by decide)) (ls0 := [.ref 77]) rfl (Nat.le_of_ble_eq_true rfl) (Nat.le_of_ble_eq_true rfl) rfl (to_rc rfl rfl rfl (g_o hG rfl)) rfl (C_156 hX (dp1 hd (by decide)) hG (by omega)  (fun M45 hG41 F40 p_42 p_43 p_44 => ?_)))))))
      have F46 := FR.c F0 F40 tg_35
      have b_47 := g_b hG41 (a := 77) (i := 7) (lo := 0) (hi := 500) rfl rfl
      have c_48 : M45.2.1 77 6 = (M.2.1 77 6) := (F_n F40 (show ¬ (77 = 77 ∧ 7 ≤ 6 ∧ 6 ≤ 10) by decide) rfl)
      have t_49 : (M45.2.1 77 6).toInt = (M.2.1 77 6).toInt := congrArg Int32.toInt c_48
      have b_50 := g_b hG41 (a := 77) (i := 8) (lo := 0) (hi := 5) rfl rfl
      refine to_c (pc := 18) rw_161_18 (x := (1 : Int32)) rfl rfl (s_r1 (pc := 19) rw_161_19 (A := 1) rfl (by decide) ?_)
      have k_51 : (1 : Int32).toInt = 1 := rfl
      exact h (1 : Int32) M45 hG41 F46 (by decide) (by decide) (by omega) (by omega) (by omega) (by omega)
set_option maxRecDepth 4000 in
set_option maxHeartbeats 0 in
theorem C_163 {X : mm_X} {d : Nat} {M : mm_M} {Q : Option Value → mm_M → Prop} {n : Int32} (hX : g_X X) (hd : 2 ≤ d) (hG : g_G M) (q1 : (M.2.1 77 7).toInt ≤ (M.2.1 77 6).toInt) (h : ∀ (r : Int32) (M1 : mm_M), g_G M1 → FR md_bn M M1 → (0 ≤ r.toInt) → (r.toInt ≤ 1) → ((M1.2.1 77 7).toInt ≤ (M1.2.1 77 6).toInt) → (n.toInt < 0 ∨ (M.2.1 77 1).toInt < n.toInt → (M1.2.1 77 1).toInt = (M.2.1 77 1).toInt ∧ r.toInt = 0) → (0 ≤ n.toInt ∧ n.toInt ≤ (M.2.1 77 1).toInt → (M1.2.1 77 1).toInt = 0 ∧ r.toInt = 1) → Q (some (.int r)) M1) : mm_T X d 162 0 [.ref 77, .int n] [] M Q := by
  have F0 : FR md_bn M M := FR.rf
  have b_1 := g_b hG (a := 77) (i := 7) (lo := 0) (hi := 500) rfl rfl
  have b_2 := g_b hG (a := 77) (i := 6) (lo := 0) (hi := 500) rfl rfl
  refine to_in (pc := 0) rw_163_0 rfl (b_ilt (pc := 1) rw_163_1 (A := n.toInt) rfl (fun h3 => ?_) (fun h3 => ?_))
  · refine to_c (pc := 12) rw_163_12 (x := (0 : Int32)) rfl rfl (s_r1 (pc := 13) rw_163_13 (A := 0) rfl (by decide) ?_)
    have k_4 : (0 : Int32).toInt = 0 := rfl
    have b_5 := g_b hG (a := 77) (i := 1) (lo := 0) (hi := 500) rfl rfl
    exact h (0 : Int32) M hG F0 (by decide) (by decide) (by omega) (by omega) (by omega)
  · refine to_in (pc := 4) rw_163_4 rfl (to_an (pc := 5) rw_163_5 rfl ?_)
    have b_6 := g_b hG (a := 77) (i := 1) (lo := 0) (hi := 500) rfl rfl
    refine tt_gI (pc := 6) rw_163_6 (g_o hG rfl) (v := (M.2.1 77 1)) rfl (b_cle (pc := 9) rw_163_9 (A := n.toInt) (B := (M.2.1 77 1).toInt) rfl rfl (fun h7 => ?_) (fun h7 => ?_))
    · refine to_an (pc := 14) rw_163_14 rfl (to_in (pc := 15) rw_163_15 rfl (s_pI (pc := 16) rw_163_16 hG rfl (fun M9 W8 => ?_)))
      have hG10 := g_w hG W8 (A := n.toInt) rfl (lo := 0) (hi := 500) rfl rfl (by omega) (by decide)
      have F11 := FR.w F0 W8 (show 77 = 77 ∧ (6 = 1 ∨ 4 ≤ 6 ∧ 6 ≤ 10) by decide)
      refine to_an (pc := 19) rw_163_19 rfl (to_c (pc := 20) rw_163_20 (x := (0 : Int32)) rfl rfl (s_pI (pc := 21) rw_163_21 hG10 rfl (fun M13 W12 => ?_)))
      have hG14 := g_w hG10 W12 (A := 0) rfl (lo := 0) (hi := 500) rfl rfl (by omega) (by decide)
      have F15 := FR.w F11 W12 (show 77 = 77 ∧ (1 = 1 ∨ 4 ≤ 1 ∧ 1 ≤ 10) by decide)
      refine to_an (pc := 24) rw_163_24 rfl (to_c (pc := 25) rw_163_25 (x := (0 : Int32)) rfl rfl (s_pI (pc := 26) rw_163_26 hG14 rfl (fun M17 W16 => ?_)))
      have hG18 := g_wf hG14 W16 rfl rfl (by decide)
      have F19 := FR.w F15 W16 (show 77 = 77 ∧ (4 = 1 ∨ 4 ≤ 4 ∧ 4 ≤ 10) by decide)
      refine to_an (pc := 29) rw_163_29 rfl (to_c (pc := 30) rw_163_30 (x := (-1 : Int32)) rfl rfl (s_pI (pc := 31) rw_163_31 hG18 rfl (fun M21 W20 => ?_)))
      have hG22 := g_wf hG18 W20 rfl rfl (by decide)
      have F23 := FR.w F19 W20 (show 77 = 77 ∧ (5 = 1 ∨ 4 ≤ 5 ∧ 5 ≤ 10) by decide)
      refine to_an (pc := 34) rw_163_34 rfl (to_c (pc := 35) rw_163_35 (x := (0 : Int32)) rfl rfl (s_pI (pc := 36) rw_163_36 hG22 rfl (fun M25 W24 => ?_)))
      have hG26 := g_w hG22 W24 (A := 0) rfl (lo := 0) (hi := 500) rfl rfl (by omega) (by decide)
      have F27 := FR.w F23 W24 (show 77 = 77 ∧ (7 = 1 ∨ 4 ≤ 7 ∧ 7 ≤ 10) by decide)
      refine to_an (pc := 39) rw_163_39 rfl (s_v (pc := 40) rw_163_40 (dp0 hd (by decide)) (ls0 := [.ref 77]) rfl (Nat.le_of_ble_eq_true rfl) (Nat.le_of_ble_eq_true rfl) rfl (to_rc rfl rfl rfl (g_o hG26 rfl)) rfl ?_)
      have c_28 : M25.2.1 77 7 = (0 : Int32) := (W_e W24)
      have k_29 : (0 : Int32).toInt = 0 := rfl
      have t_30 : (M25.2.1 77 7).toInt = (0 : Int32).toInt := congrArg Int32.toInt c_28
      have c_31 : M25.2.1 77 6 = n := (W_n W24 (by decide) (W_n W20 (by decide) (W_n W16 (by decide) (W_n W12 (by decide) (W_e W8)))))
      have t_32 : (M25.2.1 77 6).toInt = n.toInt := congrArg Int32.toInt c_31
      refine C_156 hX (dp1 hd (by decide)) hG26 (by omega)  (fun M38 hG34 F33 p_35 p_36 p_37 => ?_)
      have F39 := FR.c F27 F33 tg_11
      have b_40 := g_b hG34 (a := 77) (i := 7) (lo := 0) (hi := 500) rfl rfl
      have c_41 : M38.2.1 77 6 = n := (F_n F33 (show ¬ (77 = 77 ∧ 7 ≤ 6 ∧ 6 ≤ 10) by decide) c_31)
      have t_42 : (M38.2.1 77 6).toInt = n.toInt := congrArg Int32.toInt c_41
      have b_43 := g_b hG34 (a := 77) (i := 8) (lo := 0) (hi := 5) rfl rfl
      refine to_c (pc := 43) rw_163_43 (x := (1 : Int32)) rfl rfl (s_r1 (pc := 44) rw_163_44 (A := 1) rfl (by decide) ?_)
      have k_44 : (1 : Int32).toInt = 1 := rfl
      have c_45 : M38.2.1 77 1 = (0 : Int32) := (F_n F33 (show ¬ (77 = 77 ∧ 7 ≤ 1 ∧ 1 ≤ 10) by decide) (W_n W24 (by decide) (W_n W20 (by decide) (W_n W16 (by decide) (W_e W12)))))
      have t_46 : (M38.2.1 77 1).toInt = (0 : Int32).toInt := congrArg Int32.toInt c_45
      exact h (1 : Int32) M38 hG34 F39 (by decide) (by decide) (by omega) (by omega) (by omega)
    · refine to_c (pc := 12) rw_163_12 (x := (0 : Int32)) rfl rfl (s_r1 (pc := 13) rw_163_13 (A := 0) rfl (by decide) ?_)
      have k_47 : (0 : Int32).toInt = 0 := rfl
      exact h (0 : Int32) M hG F0 (by decide) (by decide) (by omega) (by omega) (by omega)
set_option maxRecDepth 4000 in
set_option maxHeartbeats 0 in
theorem T_148_0 {X : mm_X} {d : Nat} {M : mm_M} {Q : Option Value → mm_M → Prop} {a : Int32} {b : Int32} {c : Int32} {x : Int32} {e : Int32} (hX : g_X X) (hd : 0 ≤ d) (h : ∀ (r : Int32) (M1 : mm_M), g_G M1 → FR md_fe M M1 → (480 < (M.2.1 77 1).toInt → r.toInt = -1 ∧ (M1.2.1 77 1).toInt = (M.2.1 77 1).toInt) → ((M.2.1 77 1).toInt ≤ 480 → r.toInt = (M.2.1 77 1).toInt + 20 ∧ (M1.2.1 77 1).toInt = (M.2.1 77 1).toInt + 20) → Q (some (.int r)) M1) : ∀ nn9 : Nat, (∀ (N : mm_M) (x6 : Int32) (u7 : Value), g_G N → FR md_fe M N → (0 ≤ x6.toInt) → (x6.toInt ≤ 20) → ((N.2.1 77 1).toInt = (M.2.1 77 1).toInt) → ((N.2.1 77 1).toInt ≤ 480) → 20 - x6.toInt < (nn9 : Int) → mm_T X d 147 23 [.ref 77, .int a, .int b, .int c, .int x, .int e, .int x6, u7] [] N Q) := by
  intro nn9
  induction nn9 with
  | zero =>
    intro N x6 u7 hG F0 g1 g2 g3 g4 hm
    have b_1 := g_b hG (a := 77) (i := 1) (lo := 0) (hi := 500) rfl rfl
    exfalso; omega
  | succ nn9 ih =>
    intro N x6 u7 hG F0 g1 g2 g3 g4 hm
    have b_2 := g_b hG (a := 77) (i := 1) (lo := 0) (hi := 500) rfl rfl
    refine to_i (pc := 23) rw_148_23 rfl (to_c (pc := 25) rw_148_25 (x := (20 : Int32)) rfl rfl (b_cge (pc := 27) rw_148_27 (A := x6.toInt) (B := 20) rfl rfl (fun h3 => ?_) (fun h3 => ?_)))
    · refine to_an (pc := 113) rw_148_113 rfl (to_dupr (pc := 114) rw_148_114 (tt_gI (pc := 115) rw_148_115 (g_o hG rfl) (v := (N.2.1 77 1)) rfl (to_c (pc := 118) rw_148_118 (x := (20 : Int32)) rfl rfl (s_add (pc := 120) rw_148_120 (A := (N.2.1 77 1).toInt) (B := 20) rfl rfl (by omega) (fun v4 e5 => s_pI (pc := 121) rw_148_121 hG rfl (fun M7 W6 => ?_))))))
      have hG8 := g_w hG W6 (A := v4.toInt) rfl (lo := 0) (hi := 500) rfl rfl (by omega) (by decide)
      have F9 := FR.w F0 W6 (show 77 = 77 ∧ (1 = 1 ∨ 1 = 2) ∨ 77 = 78 by decide)
      refine to_an (pc := 124) rw_148_124 rfl ?_
      have c_10 : M7.2.1 77 1 = v4 := (W_e W6)
      refine tt_gI (pc := 125) rw_148_125 (g_o hG8 rfl) (v := v4) c_10 (to_r0 (pc := 128) rw_148_128 ?_)
      have t_11 : (M7.2.1 77 1).toInt = v4.toInt := congrArg Int32.toInt c_10
      exact h v4 M7 hG8 F9 (by omega) (by omega)
    · refine to_i (pc := 30) rw_148_30 rfl (to_c (pc := 32) rw_148_32 (x := (4 : Int32)) rfl rfl (b_cge (pc := 33) rw_148_33 (A := x6.toInt) (B := 4) rfl rfl (fun h12 => ?_) (fun h12 => ?_)))
      · refine to_i (pc := 40) rw_148_40 rfl (to_c (pc := 42) rw_148_42 (x := (8 : Int32)) rfl rfl (b_cge (pc := 44) rw_148_44 (A := x6.toInt) (B := 8) rfl rfl (fun h13 => ?_) (fun h13 => ?_)))
        · refine to_i (pc := 51) rw_148_51 rfl (to_c (pc := 53) rw_148_53 (x := (12 : Int32)) rfl rfl (b_cge (pc := 55) rw_148_55 (A := x6.toInt) (B := 12) rfl rfl (fun h14 => ?_) (fun h14 => ?_)))
          · refine to_i (pc := 62) rw_148_62 rfl (to_c (pc := 64) rw_148_64 (x := (16 : Int32)) rfl rfl (b_cge (pc := 66) rw_148_66 (A := x6.toInt) (B := 16) rfl rfl (fun h15 => ?_) (fun h15 => ?_)))
            · refine to_i (pc := 74) rw_148_74 rfl (to_is (pc := 76) rw_148_76 (ls2 := [.ref 77, .int a, .int b, .int c, .int x, .int e, .int x6, .int e]) rfl rfl (to_an (pc := 78) rw_148_78 rfl (s_gR (pc := 79) rw_148_79 hG rfl (v := 78) rfl (to_an (pc := 82) rw_148_82 rfl (tt_gI (pc := 83) rw_148_83 (g_o hG rfl) (v := (N.2.1 77 1)) rfl (to_i (pc := 86) rw_148_86 rfl (s_add (pc := 88) rw_148_88 (A := (N.2.1 77 1).toInt) (B := x6.toInt) rfl rfl (by omega) (fun v16 e17 => to_i (pc := 89) rw_148_89 rfl (to_c (pc := 91) rw_148_91 (x := (24 : Int32)) rfl rfl (to_c (pc := 93) rw_148_93 (x := (8 : Int32)) rfl rfl (to_i (pc := 95) rw_148_95 rfl ?_)))))))))))
              refine to_c (pc := 97) rw_148_97 (x := (4 : Int32)) rfl rfl (s_irem (pc := 98) rw_148_98 (A := x6.toInt) (B := 4) rfl rfl (by omega) (by omega) (fun v18 e19 _ => s_mul (pc := 99) rw_148_99 (A := 8) (B := v18.toInt) rfl rfl (by omega) (fun v20 e21 => s_sub (pc := 100) rw_148_100 (A := 24) (B := v20.toInt) rfl rfl (by omega) (fun v22 e23 => s_any (pc := 101) rw_148_101 (fun _ _ => rfl) (fun v24 => to_c (pc := 102) rw_148_102 (x := (255 : Int32)) rfl rfl (s_and (pc := 105) rw_148_105 (B := 255) rfl (by omega) (fun v25 e26 _ _ => s_ias (pc := 106) rw_148_106 hG rfl (n := 500) rfl (A := v16.toInt) rfl (by omega) (by omega) (fun M28 W27 => ?_))))))))
              have hG29 := g_w hG W27 (A := v25.toInt) rfl (lo := 0) (hi := 255) rfl rfl (by omega) (by decide)
              have F30 := FR.w F0 W27 (show 78 = 77 ∧ ((v16.toInt).toNat = 1 ∨ (v16.toInt).toNat = 2) ∨ 78 = 78 by omega)
              refine s_inc (pc := 107) rw_148_107 (ls2 := fun v => [.ref 77, .int a, .int b, .int c, .int x, .int e, .int v, .int e]) rfl rfl (fun _ => rfl) (A := x6.toInt) (B := 1) rfl rfl (by omega) (fun v31 e32 => to_go (pc := 110) rw_148_110 ?_)
              have c_33 : M28.2.1 77 1 = (N.2.1 77 1) := (W_n W27 (fun z => absurd z.1 (by decide)) rfl)
              have t_34 : (M28.2.1 77 1).toInt = (N.2.1 77 1).toInt := congrArg Int32.toInt c_33
              exact ih M28 v31 (.int e) hG29 F30 (by omega) (by omega) (by omega) (by omega) (by omega)
            · refine to_i (pc := 69) rw_148_69 rfl (to_go (pc := 71) rw_148_71 (to_is (pc := 76) rw_148_76 (ls2 := [.ref 77, .int a, .int b, .int c, .int x, .int e, .int x6, .int x]) rfl rfl (to_an (pc := 78) rw_148_78 rfl (s_gR (pc := 79) rw_148_79 hG rfl (v := 78) rfl (to_an (pc := 82) rw_148_82 rfl (tt_gI (pc := 83) rw_148_83 (g_o hG rfl) (v := (N.2.1 77 1)) rfl (to_i (pc := 86) rw_148_86 rfl (s_add (pc := 88) rw_148_88 (A := (N.2.1 77 1).toInt) (B := x6.toInt) rfl rfl (by omega) (fun v35 e36 => to_i (pc := 89) rw_148_89 rfl (to_c (pc := 91) rw_148_91 (x := (24 : Int32)) rfl rfl (to_c (pc := 93) rw_148_93 (x := (8 : Int32)) rfl rfl ?_)))))))))))
              refine to_i (pc := 95) rw_148_95 rfl (to_c (pc := 97) rw_148_97 (x := (4 : Int32)) rfl rfl (s_irem (pc := 98) rw_148_98 (A := x6.toInt) (B := 4) rfl rfl (by omega) (by omega) (fun v37 e38 _ => s_mul (pc := 99) rw_148_99 (A := 8) (B := v37.toInt) rfl rfl (by omega) (fun v39 e40 => s_sub (pc := 100) rw_148_100 (A := 24) (B := v39.toInt) rfl rfl (by omega) (fun v41 e42 => s_any (pc := 101) rw_148_101 (fun _ _ => rfl) (fun v43 => to_c (pc := 102) rw_148_102 (x := (255 : Int32)) rfl rfl (s_and (pc := 105) rw_148_105 (B := 255) rfl (by omega) (fun v44 e45 _ _ => s_ias (pc := 106) rw_148_106 hG rfl (n := 500) rfl (A := v35.toInt) rfl (by omega) (by omega) (fun M47 W46 => ?_)))))))))
              have hG48 := g_w hG W46 (A := v44.toInt) rfl (lo := 0) (hi := 255) rfl rfl (by omega) (by decide)
              have F49 := FR.w F0 W46 (show 78 = 77 ∧ ((v35.toInt).toNat = 1 ∨ (v35.toInt).toNat = 2) ∨ 78 = 78 by omega)
              refine s_inc (pc := 107) rw_148_107 (ls2 := fun v => [.ref 77, .int a, .int b, .int c, .int x, .int e, .int v, .int x]) rfl rfl (fun _ => rfl) (A := x6.toInt) (B := 1) rfl rfl (by omega) (fun v50 e51 => to_go (pc := 110) rw_148_110 ?_)
              have c_52 : M47.2.1 77 1 = (N.2.1 77 1) := (W_n W46 (fun z => absurd z.1 (by decide)) rfl)
              have t_53 : (M47.2.1 77 1).toInt = (N.2.1 77 1).toInt := congrArg Int32.toInt c_52
              exact ih M47 v50 (.int x) hG48 F49 (by omega) (by omega) (by omega) (by omega) (by omega)
          · refine to_in (pc := 58) rw_148_58 rfl (to_go (pc := 59) rw_148_59 (to_is (pc := 76) rw_148_76 (ls2 := [.ref 77, .int a, .int b, .int c, .int x, .int e, .int x6, .int c]) rfl rfl (to_an (pc := 78) rw_148_78 rfl (s_gR (pc := 79) rw_148_79 hG rfl (v := 78) rfl (to_an (pc := 82) rw_148_82 rfl (tt_gI (pc := 83) rw_148_83 (g_o hG rfl) (v := (N.2.1 77 1)) rfl (to_i (pc := 86) rw_148_86 rfl (s_add (pc := 88) rw_148_88 (A := (N.2.1 77 1).toInt) (B := x6.toInt) rfl rfl (by omega) (fun v54 e55 => to_i (pc := 89) rw_148_89 rfl (to_c (pc := 91) rw_148_91 (x := (24 : Int32)) rfl rfl (to_c (pc := 93) rw_148_93 (x := (8 : Int32)) rfl rfl ?_)))))))))))
            refine to_i (pc := 95) rw_148_95 rfl (to_c (pc := 97) rw_148_97 (x := (4 : Int32)) rfl rfl (s_irem (pc := 98) rw_148_98 (A := x6.toInt) (B := 4) rfl rfl (by omega) (by omega) (fun v56 e57 _ => s_mul (pc := 99) rw_148_99 (A := 8) (B := v56.toInt) rfl rfl (by omega) (fun v58 e59 => s_sub (pc := 100) rw_148_100 (A := 24) (B := v58.toInt) rfl rfl (by omega) (fun v60 e61 => s_any (pc := 101) rw_148_101 (fun _ _ => rfl) (fun v62 => to_c (pc := 102) rw_148_102 (x := (255 : Int32)) rfl rfl (s_and (pc := 105) rw_148_105 (B := 255) rfl (by omega) (fun v63 e64 _ _ => s_ias (pc := 106) rw_148_106 hG rfl (n := 500) rfl (A := v54.toInt) rfl (by omega) (by omega) (fun M66 W65 => ?_)))))))))
            have hG67 := g_w hG W65 (A := v63.toInt) rfl (lo := 0) (hi := 255) rfl rfl (by omega) (by decide)
            have F68 := FR.w F0 W65 (show 78 = 77 ∧ ((v54.toInt).toNat = 1 ∨ (v54.toInt).toNat = 2) ∨ 78 = 78 by omega)
            refine s_inc (pc := 107) rw_148_107 (ls2 := fun v => [.ref 77, .int a, .int b, .int c, .int x, .int e, .int v, .int c]) rfl rfl (fun _ => rfl) (A := x6.toInt) (B := 1) rfl rfl (by omega) (fun v69 e70 => to_go (pc := 110) rw_148_110 ?_)
            have c_71 : M66.2.1 77 1 = (N.2.1 77 1) := (W_n W65 (fun z => absurd z.1 (by decide)) rfl)
            have t_72 : (M66.2.1 77 1).toInt = (N.2.1 77 1).toInt := congrArg Int32.toInt c_71
            exact ih M66 v69 (.int c) hG67 F68 (by omega) (by omega) (by omega) (by omega) (by omega)
        · refine to_in (pc := 47) rw_148_47 rfl (to_go (pc := 48) rw_148_48 (to_is (pc := 76) rw_148_76 (ls2 := [.ref 77, .int a, .int b, .int c, .int x, .int e, .int x6, .int b]) rfl rfl (to_an (pc := 78) rw_148_78 rfl (s_gR (pc := 79) rw_148_79 hG rfl (v := 78) rfl (to_an (pc := 82) rw_148_82 rfl (tt_gI (pc := 83) rw_148_83 (g_o hG rfl) (v := (N.2.1 77 1)) rfl (to_i (pc := 86) rw_148_86 rfl (s_add (pc := 88) rw_148_88 (A := (N.2.1 77 1).toInt) (B := x6.toInt) rfl rfl (by omega) (fun v73 e74 => to_i (pc := 89) rw_148_89 rfl (to_c (pc := 91) rw_148_91 (x := (24 : Int32)) rfl rfl (to_c (pc := 93) rw_148_93 (x := (8 : Int32)) rfl rfl ?_)))))))))))
          refine to_i (pc := 95) rw_148_95 rfl (to_c (pc := 97) rw_148_97 (x := (4 : Int32)) rfl rfl (s_irem (pc := 98) rw_148_98 (A := x6.toInt) (B := 4) rfl rfl (by omega) (by omega) (fun v75 e76 _ => s_mul (pc := 99) rw_148_99 (A := 8) (B := v75.toInt) rfl rfl (by omega) (fun v77 e78 => s_sub (pc := 100) rw_148_100 (A := 24) (B := v77.toInt) rfl rfl (by omega) (fun v79 e80 => s_any (pc := 101) rw_148_101 (fun _ _ => rfl) (fun v81 => to_c (pc := 102) rw_148_102 (x := (255 : Int32)) rfl rfl (s_and (pc := 105) rw_148_105 (B := 255) rfl (by omega) (fun v82 e83 _ _ => s_ias (pc := 106) rw_148_106 hG rfl (n := 500) rfl (A := v73.toInt) rfl (by omega) (by omega) (fun M85 W84 => ?_)))))))))
          have hG86 := g_w hG W84 (A := v82.toInt) rfl (lo := 0) (hi := 255) rfl rfl (by omega) (by decide)
          have F87 := FR.w F0 W84 (show 78 = 77 ∧ ((v73.toInt).toNat = 1 ∨ (v73.toInt).toNat = 2) ∨ 78 = 78 by omega)
          refine s_inc (pc := 107) rw_148_107 (ls2 := fun v => [.ref 77, .int a, .int b, .int c, .int x, .int e, .int v, .int b]) rfl rfl (fun _ => rfl) (A := x6.toInt) (B := 1) rfl rfl (by omega) (fun v88 e89 => to_go (pc := 110) rw_148_110 ?_)
          have c_90 : M85.2.1 77 1 = (N.2.1 77 1) := (W_n W84 (fun z => absurd z.1 (by decide)) rfl)
          have t_91 : (M85.2.1 77 1).toInt = (N.2.1 77 1).toInt := congrArg Int32.toInt c_90
          exact ih M85 v88 (.int b) hG86 F87 (by omega) (by omega) (by omega) (by omega) (by omega)
      · refine to_in (pc := 36) rw_148_36 rfl (to_go (pc := 37) rw_148_37 (to_is (pc := 76) rw_148_76 (ls2 := [.ref 77, .int a, .int b, .int c, .int x, .int e, .int x6, .int a]) rfl rfl (to_an (pc := 78) rw_148_78 rfl (s_gR (pc := 79) rw_148_79 hG rfl (v := 78) rfl (to_an (pc := 82) rw_148_82 rfl (tt_gI (pc := 83) rw_148_83 (g_o hG rfl) (v := (N.2.1 77 1)) rfl (to_i (pc := 86) rw_148_86 rfl (s_add (pc := 88) rw_148_88 (A := (N.2.1 77 1).toInt) (B := x6.toInt) rfl rfl (by omega) (fun v92 e93 => to_i (pc := 89) rw_148_89 rfl (to_c (pc := 91) rw_148_91 (x := (24 : Int32)) rfl rfl (to_c (pc := 93) rw_148_93 (x := (8 : Int32)) rfl rfl ?_)))))))))))
        refine to_i (pc := 95) rw_148_95 rfl (to_c (pc := 97) rw_148_97 (x := (4 : Int32)) rfl rfl (s_irem (pc := 98) rw_148_98 (A := x6.toInt) (B := 4) rfl rfl (by omega) (by omega) (fun v94 e95 _ => s_mul (pc := 99) rw_148_99 (A := 8) (B := v94.toInt) rfl rfl (by omega) (fun v96 e97 => s_sub (pc := 100) rw_148_100 (A := 24) (B := v96.toInt) rfl rfl (by omega) (fun v98 e99 => s_any (pc := 101) rw_148_101 (fun _ _ => rfl) (fun v100 => to_c (pc := 102) rw_148_102 (x := (255 : Int32)) rfl rfl (s_and (pc := 105) rw_148_105 (B := 255) rfl (by omega) (fun v101 e102 _ _ => s_ias (pc := 106) rw_148_106 hG rfl (n := 500) rfl (A := v92.toInt) rfl (by omega) (by omega) (fun M104 W103 => ?_)))))))))
        have hG105 := g_w hG W103 (A := v101.toInt) rfl (lo := 0) (hi := 255) rfl rfl (by omega) (by decide)
        have F106 := FR.w F0 W103 (show 78 = 77 ∧ ((v92.toInt).toNat = 1 ∨ (v92.toInt).toNat = 2) ∨ 78 = 78 by omega)
        refine s_inc (pc := 107) rw_148_107 (ls2 := fun v => [.ref 77, .int a, .int b, .int c, .int x, .int e, .int v, .int a]) rfl rfl (fun _ => rfl) (A := x6.toInt) (B := 1) rfl rfl (by omega) (fun v107 e108 => to_go (pc := 110) rw_148_110 ?_)
        have c_109 : M104.2.1 77 1 = (N.2.1 77 1) := (W_n W103 (fun z => absurd z.1 (by decide)) rfl)
        have t_110 : (M104.2.1 77 1).toInt = (N.2.1 77 1).toInt := congrArg Int32.toInt c_109
        exact ih M104 v107 (.int a) hG105 F106 (by omega) (by omega) (by omega) (by omega) (by omega)
set_option maxRecDepth 4000 in
set_option maxHeartbeats 0 in
theorem C_148 {X : mm_X} {d : Nat} {M : mm_M} {Q : Option Value → mm_M → Prop} {a : Int32} {b : Int32} {c : Int32} {x : Int32} {e : Int32} (hX : g_X X) (hd : 0 ≤ d) (hG : g_G M) (h : ∀ (r : Int32) (M1 : mm_M), g_G M1 → FR md_fe M M1 → (480 < (M.2.1 77 1).toInt → r.toInt = -1 ∧ (M1.2.1 77 1).toInt = (M.2.1 77 1).toInt) → ((M.2.1 77 1).toInt ≤ 480 → r.toInt = (M.2.1 77 1).toInt + 20 ∧ (M1.2.1 77 1).toInt = (M.2.1 77 1).toInt + 20) → Q (some (.int r)) M1) : mm_T X d 147 0 [.ref 77, .int a, .int b, .int c, .int x, .int e, .null, .null] [] M Q := by
  have F0 : FR md_fe M M := FR.rf
  refine to_an (pc := 0) rw_148_0 rfl (to_c (pc := 1) rw_148_1 (x := (0 : Int32)) rfl rfl (s_pI (pc := 2) rw_148_2 hG rfl (fun M112 W111 => ?_)))
  have hG113 := g_wf hG W111 rfl rfl (by decide)
  have F114 := FR.w F0 W111 (show 77 = 77 ∧ (2 = 1 ∨ 2 = 2) ∨ 77 = 78 by decide)
  refine to_an (pc := 5) rw_148_5 rfl ?_
  have c_115 : M112.2.1 77 1 = (M.2.1 77 1) := (W_n W111 (by decide) rfl)
  have b_116 := g_b hG (a := 77) (i := 1) (lo := 0) (hi := 500) rfl rfl
  refine tt_gI (pc := 6) rw_148_6 (g_o hG113 rfl) (v := (M.2.1 77 1)) c_115 (to_c (pc := 9) rw_148_9 (x := (20 : Int32)) rfl rfl (s_add (pc := 11) rw_148_11 (A := (M.2.1 77 1).toInt) (B := 20) rfl rfl (by omega) (fun v117 e118 => to_c (pc := 12) rw_148_12 (x := (500 : Int32)) rfl rfl (b_cle (pc := 15) rw_148_15 (A := v117.toInt) (B := 500) rfl rfl (fun h119 => ?_) (fun h119 => ?_)))))
  · refine to_c (pc := 20) rw_148_20 (x := (0 : Int32)) rfl rfl (to_is (pc := 21) rw_148_21 (ls2 := [.ref 77, .int a, .int b, .int c, .int x, .int e, .int (0 : Int32), .null]) rfl rfl ?_)
    have k_120 : (0 : Int32).toInt = 0 := rfl
    have t_121 : (M112.2.1 77 1).toInt = (M.2.1 77 1).toInt := congrArg Int32.toInt c_115
    exact (T_148_0 (a := a) (b := b) (c := c) (x := x) (e := e) hX hd  h ((20 - (0 : Int32).toInt).toNat + 1)) M112 (0 : Int32) (.null) hG113 F114 (by omega) (by omega) (by omega) (by omega) (by omega)
  · refine to_c (pc := 18) rw_148_18 (x := (-1 : Int32)) rfl rfl (to_r0 (pc := 19) rw_148_19 ?_)
    have k_122 : (-1 : Int32).toInt = -1 := rfl
    have t_123 : (M112.2.1 77 1).toInt = (M.2.1 77 1).toInt := congrArg Int32.toInt c_115
    exact h (-1 : Int32) M112 hG113 F114 (by omega) (by omega)
