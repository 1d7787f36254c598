set_option maxRecDepth 4000 in
set_option maxHeartbeats 0 in
theorem U_242_0 {X : mm_X} {d : Nat} {M : mm_M} {Q : Option Value → mm_M → Prop} {p : Int32} {f : Int32} {sg : x_S} {NN : x_N} {nz : Int} {ca : Int} {P9 : x_P} {n9 : Int} (hX : g_X X) (hd : 4 ≤ d) (q1 : x_vn sg ca NN nz) (q2 : ca ≤ 30) (q3 : (M.2.1 77 29).toInt = nz) (q4 : (M.2.1 77 28).toInt = ca) (q5 : CWk M sg) (q6 : FA M) (q7 : PLk M sg) (q8 : W8 M) (q9 : NTr M NN nz) (q10 : PKr M P9) (q11 : x_pg P9 n9 ca) (q12 : n9 ≤ 30) (h : ∀ (r : Int32) (M1 : mm_M), g_G M1 → FR md_be M M1 → (r.toInt = x_behind sg P9 (x_kn sg NN nz.toNat) p.toInt f.toInt) → Q (some (.int r)) M1) : ∀ nn9 : Nat, (∀ (N : mm_M) (x3 : Int32) (x4 : Int32) (u5 : Value), g_G N → FR md_be M N → (0 ≤ p.toInt) → (p.toInt ≤ 5) → (0 ≤ f.toInt) → (f.toInt ≤ 7) → (f.toInt < sg.2.1) → (¬ x_row sg 2 f.toInt = 3) → (PKr N P9) → (KST N 96 98 97 95 ca sg (x_kn sg NN nz.toNat)) → (0 ≤ x4.toInt) → (x4.toInt ≤ 30) → (x4.toInt ≤ P9.2 p.toInt) → (∀ k : Nat, (k : Int) < x4.toInt → (N.2.1 120 k).toInt = x_bL (x_bv (x_kn sg NN nz.toNat) (P9.1 p.toInt) f.toInt) (x4.toInt).toNat k) → (x3.toInt = x_bM (x_bv (x_kn sg NN nz.toNat) (P9.1 p.toInt) f.toInt) (x4.toInt).toNat) → (30 - x4.toInt) * 100 + 50 < (nn9 : Int) → mm_T X d 241 35 [.ref 77, .int p, .int f, .int x3, .int x4, u5] [] N Q) ∧ (∀ (N : mm_M) (x3 : Int32) (x4 : Int32) (x5 : Int32), g_G N → FR md_be M N → (0 ≤ p.toInt) → (p.toInt ≤ 5) → (0 ≤ f.toInt) → (f.toInt ≤ 7) → (f.toInt < sg.2.1) → (¬ x_row sg 2 f.toInt = 3) → (PKr N P9) → (KST N 96 98 97 95 ca sg (x_kn sg NN nz.toNat)) → (0 ≤ x4.toInt) → (x4.toInt ≤ 29) → (x4.toInt < P9.2 p.toInt) → (0 ≤ x5.toInt) → (x5.toInt ≤ 30) → (x5.toInt ≤ x4.toInt) → (∀ k : Nat, (k : Int) < x4.toInt → (N.2.1 120 k).toInt = x_bL (x_bv (x_kn sg NN nz.toNat) (P9.1 p.toInt) f.toInt) (x4.toInt).toNat k) → (x3.toInt = x_bM (x_bv (x_kn sg NN nz.toNat) (P9.1 p.toInt) f.toInt) (x4.toInt).toNat) → (x_bj (x_bv (x_kn sg NN nz.toNat) (P9.1 p.toInt) f.toInt) (x_bL (x_bv (x_kn sg NN nz.toNat) (P9.1 p.toInt) f.toInt) (x4.toInt).toNat) (x4.toInt).toNat (x4.toInt - x5.toInt).toNat (x5.toInt).toNat (N.2.1 120 (x4.toInt).toNat).toInt = x_bj (x_bv (x_kn sg NN nz.toNat) (P9.1 p.toInt) f.toInt) (x_bL (x_bv (x_kn sg NN nz.toNat) (P9.1 p.toInt) f.toInt) (x4.toInt).toNat) (x4.toInt).toNat (x4.toInt).toNat 0 1) → (30 - x4.toInt) * 100 + 30 - x5.toInt < (nn9 : Int) → mm_T X d 241 57 [.ref 77, .int p, .int f, .int x3, .int x4, .int x5] [] N Q) := by
  intro nn9
  induction nn9 with
  | zero =>
    refine ⟨?_, ?_⟩
    · intro N x3 x4 u5 hG F0 g1 g2 g3 g4 g5 g6 g7 g8 g9 g10 g11 g12 g13 hm
      exfalso; omega
    · intro N x3 x4 x5 hG F0 g1 g2 g3 g4 g5 g6 g7 g8 g9 g10 g11 g12 g13 g14 g15 g16 g17 hm
      exfalso; omega
  | succ nn9 ih =>
    refine ⟨?_, ?_⟩
    · intro N x3 x4 u5 hG F0 g1 g2 g3 g4 g5 g6 g7 g8 g9 g10 g11 g12 g13 hm
      have z_1 := x_pg_le (p := p.toInt) q11 (by omega) (by omega)
      have z_2 := x_bM_b (V := (x_bv (x_kn sg NN nz.toNat) (P9.1 p.toInt) f.toInt)) (x4.toInt).toNat
      refine to_i (pc := 35) rw_242_35 rfl ?_
      refine to_an (pc := 37) rw_242_37 rfl ?_
      refine s_gR (pc := 38) rw_242_38 hG rfl (v := 100) rfl ?_
      refine to_in (pc := 41) rw_242_41 rfl ?_
      refine s_ial (pc := 42) rw_242_42 hG rfl (n := 6) rfl rfl (A := p.toInt) rfl (by omega) (by omega) (lo := 0) (hi := 30) rfl rfl (fun v3 w_4 _ _ => ?_)
      have z_5 := PKr_u (p := p.toInt) g7 (by omega) (by omega) w_4
      refine b_cge (pc := 43) rw_242_43 (A := x4.toInt) (B := v3.toInt) rfl rfl (fun h6 => ?_) (fun h6 => ?_)
      · refine to_an (pc := 171) rw_242_171 rfl ?_
        refine s_gR (pc := 172) rw_242_172 hG rfl (v := 100) rfl ?_
        refine to_in (pc := 175) rw_242_175 rfl ?_
        refine s_ialk (pc := 176) rw_242_176 hG rfl (n := 6) rfl rfl (A := p.toInt) rfl (by omega) (by omega) (v := v3) w_4 ?_
        refine to_in (pc := 177) rw_242_177 rfl ?_
        refine s_sub (pc := 178) rw_242_178 (A := v3.toInt) (B := x3.toInt) rfl rfl (by omega) (fun v9 e10 => ?_)
        refine to_r0 (pc := 179) rw_242_179 ?_
        have z_11 := bm_x g13 (show x4.toInt = P9.2 p.toInt by omega)
        have z_12 := x_behind_y (s := sg) (P := P9) (K := (x_kn sg NN nz.toNat)) (p := p.toInt) (f := f.toInt) (r := v9.toInt) (by omega) (by omega)
        exact h v9 N hG F0 (by omega)
      · refine to_an (pc := 46) rw_242_46 rfl ?_
        refine s_gR (pc := 47) rw_242_47 hG rfl (v := 120) rfl ?_
        refine to_i (pc := 50) rw_242_50 rfl ?_
        refine to_c (pc := 52) rw_242_52 (x := (1 : Int32)) rfl rfl ?_
        refine s_ias (pc := 53) rw_242_53 hG rfl (n := 30) rfl (A := x4.toInt) rfl (by omega) (by omega) (fun M14 W13 => ?_)
        have hG15 := g_wf hG W13 rfl rfl (by decide)
        have F16 := FR.w F0 W13 (show 120 = 77 ∧ (x4.toInt).toNat = 2 ∨ 94 ≤ 120 ∧ 120 ≤ 98 ∨ 120 = 120 by omega)
        have z_17 := congrArg Int32.toInt (W_e W13)
        have k_18 : (1 : Int32).toInt = 1 := rfl
        refine to_c (pc := 54) rw_242_54 (x := (0 : Int32)) rfl rfl ?_
        refine to_is (pc := 55) rw_242_55 (ls2 := [.ref 77, .int p, .int f, .int x3, .int x4, .int (0 : Int32)]) rfl rfl ?_
        have k_19 : (0 : Int32).toInt = 0 := rfl
        have j_20 := (PKr_f (fun a i z => W_n W13 (by /-r120-/ omega) rfl) g7)
        have kn_21 : KST M14 96 98 97 95 ca sg (x_kn sg NN nz.toNat) := KST_f (fun i => (W_j W13 rfl)) (fun i => (W_n W13 (by omega) rfl)) (fun i => (W_n W13 (by omega) rfl)) (fun i => (W_j W13 rfl)) g8
        exact ih.2 M14 x3 x4 (0 : Int32) hG15 F16 (by omega) (by omega) (by omega) (by omega) (by omega) (by omega) j_20 kn_21 (by omega) (by omega) (by omega) (by omega) (by omega) (by omega) (fun k hk => (congrArg Int32.toInt ((W_n W13 (by omega) rfl))).trans (g12 k (by omega))) g13 (bj_0 (by omega) (by rw [show M14.2.1 120 (x4.toInt).toNat = (1 : Int32) from (W_e W13)]; rfl) (by omega)) (by omega)
    · intro N x3 x4 x5 hG F0 g1 g2 g3 g4 g5 g6 g7 g8 g9 g10 g11 g12 g13 g14 g15 g16 g17 hm
      have z_22 := x_pg_le (p := p.toInt) q11 (by omega) (by omega)
      have z_23 := x_bM_b (V := (x_bv (x_kn sg NN nz.toNat) (P9.1 p.toInt) f.toInt)) (x4.toInt).toNat
      refine to_i (pc := 57) rw_242_57 rfl ?_
      refine to_i (pc := 59) rw_242_59 rfl ?_
      refine b_cge (pc := 61) rw_242_61 (A := x5.toInt) (B := x4.toInt) rfl rfl (fun h24 => ?_) (fun h24 => ?_)
      · refine to_an (pc := 142) rw_242_142 rfl ?_
        refine s_gR (pc := 143) rw_242_143 hG rfl (v := 120) rfl ?_
        refine to_i (pc := 146) rw_242_146 rfl ?_
        refine s_ial (pc := 148) rw_242_148 hG rfl (n := 30) rfl rfl (A := x4.toInt) rfl (by omega) (by omega) (lo := -2147483648) (hi := 2147483647) rfl rfl (fun v25 w_26 _ _ => ?_)
        have z_27 := congrArg Int32.toInt (w_26)
        refine to_in (pc := 149) rw_242_149 rfl ?_
        refine b_cle (pc := 150) rw_242_150 (A := v25.toInt) (B := x3.toInt) rfl rfl (fun h28 => ?_) (fun h28 => ?_)
        · refine to_in (pc := 163) rw_242_163 rfl ?_
          refine to_isn (pc := 164) rw_242_164 (ls2 := [.ref 77, .int p, .int f, .int x3, .int x4, .int x5]) rfl rfl ?_
          refine s_inc (pc := 165) rw_242_165 (ls2 := fun v => [.ref 77, .int p, .int f, .int x3, .int v, .int x5]) rfl rfl (fun _ => rfl) (A := x4.toInt) (B := 1) rfl rfl (by omega) (fun v29 e30 => ?_)
          refine to_go (pc := 168) rw_242_168 ?_
          have z_31 := bl_s (r := 120) (i2 := v29.toInt) g15 g17 (by omega) (by omega) (by omega)
          have z_32 := x_bL_b (V := (x_bv (x_kn sg NN nz.toNat) (P9.1 p.toInt) f.toInt)) (v29.toInt).toNat (x4.toInt).toNat
          exact ih.1 N x3 v29 (.int x5) hG F0 (by omega) (by omega) (by omega) (by omega) (by omega) (by omega) g7 g8 (by omega) (by omega) (by omega) z_31 (bm_s z_31 (i := x4.toInt) (by omega) (by omega) g16 (by omega) (by omega) (by omega)) (by omega)
        · refine to_an (pc := 153) rw_242_153 rfl ?_
          refine s_gR (pc := 154) rw_242_154 hG rfl (v := 120) rfl ?_
          refine to_i (pc := 157) rw_242_157 rfl ?_
          refine s_ialk (pc := 159) rw_242_159 hG rfl (n := 30) rfl rfl (A := x4.toInt) rfl (by omega) (by omega) (v := v25) w_26 ?_
          refine to_go (pc := 160) rw_242_160 ?_
          refine to_isn (pc := 164) rw_242_164 (ls2 := [.ref 77, .int p, .int f, .int v25, .int x4, .int x5]) rfl rfl ?_
          refine s_inc (pc := 165) rw_242_165 (ls2 := fun v => [.ref 77, .int p, .int f, .int v25, .int v, .int x5]) rfl rfl (fun _ => rfl) (A := x4.toInt) (B := 1) rfl rfl (by omega) (fun v35 e36 => ?_)
          refine to_go (pc := 168) rw_242_168 ?_
          have z_37 := bl_s (r := 120) (i2 := v35.toInt) g15 g17 (by omega) (by omega) (by omega)
          have z_38 := x_bL_b (V := (x_bv (x_kn sg NN nz.toNat) (P9.1 p.toInt) f.toInt)) (v35.toInt).toNat (x4.toInt).toNat
          exact ih.1 N v25 v35 (.int x5) hG F0 (by omega) (by omega) (by omega) (by omega) (by omega) (by omega) g7 g8 (by omega) (by omega) (by omega) z_37 (bm_s z_37 (i := x4.toInt) (by omega) (by omega) g16 (by omega) (by omega) (by omega)) (by omega)
      · refine to_an (pc := 64) rw_242_64 rfl ?_
        refine to_an (pc := 65) rw_242_65 rfl ?_
        refine s_gR (pc := 66) rw_242_66 hG rfl (v := 99) rfl ?_
        refine to_c (pc := 69) rw_242_69 (x := (30 : Int32)) rfl rfl ?_
        refine to_in (pc := 71) rw_242_71 rfl ?_
        refine s_mul (pc := 72) rw_242_72 (A := 30) (B := p.toInt) rfl rfl (by omega) (fun v39 e40 => ?_)
        refine to_i (pc := 73) rw_242_73 rfl ?_
        refine s_add (pc := 75) rw_242_75 (A := v39.toInt) (B := x5.toInt) rfl rfl (by omega) (fun v41 e42 => ?_)
        refine s_ial (pc := 76) rw_242_76 hG rfl (n := 180) rfl rfl (A := v41.toInt) rfl (by omega) (by omega) (lo := 0) (hi := 29) rfl rfl (fun v43 w_44 _ _ => ?_)
        have z_45 := PKr_r (p := p.toInt) (k := x5.toInt) (i := v41.toInt) g7 (by omega) (by omega) (by omega) (by omega) (by omega) w_44
        have z_46 := (q11.2 p.toInt (by omega) (by omega)).2 (x5.toInt).toNat (by omega)
        refine to_in (pc := 77) rw_242_77 rfl ?_
        refine s_v (pc := 78) rw_242_78 (dp0 hd (by decide)) (ls0 := [.ref 77, .int v43, .int f]) rfl (Nat.le_of_ble_eq_true rfl) (Nat.le_of_ble_eq_true rfl) rfl (to_rc rfl rfl rfl (g_o hG rfl)) rfl ?_
        refine to_an (pc := 0) rw_241_0 rfl ?_
        refine s_gR (pc := 1) rw_241_1 hG rfl (v := 97) rfl ?_
        refine to_c (pc := 4) rw_241_4 (x := (8 : Int32)) rfl rfl ?_
        refine to_in (pc := 6) rw_241_6 rfl ?_
        refine s_mul (pc := 7) rw_241_7 (A := 8) (B := v43.toInt) rfl rfl (by omega) (fun v47 e48 => ?_)
        refine to_in (pc := 8) rw_241_8 rfl ?_
        refine s_add (pc := 9) rw_241_9 (A := v47.toInt) (B := f.toInt) rfl rfl (by omega) (fun v49 e50 => ?_)
        refine s_ial (pc := 10) rw_241_10 hG rfl (n := 240) rfl rfl (A := v49.toInt) rfl (by omega) (by omega) (lo := -2147483648) (hi := 2147483647) rfl rfl (fun v51 w_52 _ _ => ?_)
        have z_53 : v51 = (x_kn sg NN nz.toNat).2.2.1 (8 * (v43.toInt).toNat + (f.toInt).toNat) := KST_lv (K := (x_kn sg NN nz.toNat)) g8 (c := v43.toInt) (f := f.toInt) (by omega) (by omega) (by omega) (by omega) (by omega) w_52
        have z_54 := bv_e (R := P9.1 p.toInt) (f := f.toInt) (k := (x5.toInt).toNat) z_53 z_45
        refine to_r0 (pc := 11) rw_241_11 ?_
        refine to_an (pc := 81) rw_242_81 rfl ?_
        refine to_an (pc := 82) rw_242_82 rfl ?_
        refine s_gR (pc := 83) rw_242_83 hG rfl (v := 99) rfl ?_
        refine to_c (pc := 86) rw_242_86 (x := (30 : Int32)) rfl rfl ?_
        refine to_in (pc := 88) rw_242_88 rfl ?_
        refine s_mul (pc := 89) rw_242_89 (A := 30) (B := p.toInt) rfl rfl (by omega) (fun v55 e56 => ?_)
        refine to_i (pc := 90) rw_242_90 rfl ?_
        refine s_add (pc := 92) rw_242_92 (A := v55.toInt) (B := x4.toInt) rfl rfl (by omega) (fun v57 e58 => ?_)
        refine s_ial (pc := 93) rw_242_93 hG rfl (n := 180) rfl rfl (A := v57.toInt) rfl (by omega) (by omega) (lo := 0) (hi := 29) rfl rfl (fun v59 w_60 _ _ => ?_)
        have z_61 := PKr_r (p := p.toInt) (k := x4.toInt) (i := v57.toInt) g7 (by omega) (by omega) (by omega) (by omega) (by omega) w_60
        have z_62 := (q11.2 p.toInt (by omega) (by omega)).2 (x4.toInt).toNat (by omega)
        refine to_in (pc := 94) rw_242_94 rfl ?_
        refine s_v (pc := 95) rw_242_95 (dp0 hd (by decide)) (ls0 := [.ref 77, .int v59, .int f]) rfl (Nat.le_of_ble_eq_true rfl) (Nat.le_of_ble_eq_true rfl) rfl (to_rc rfl rfl rfl (g_o hG rfl)) rfl ?_
        refine to_an (pc := 0) rw_241_0 rfl ?_
        refine s_gR (pc := 1) rw_241_1 hG rfl (v := 97) rfl ?_
        refine to_c (pc := 4) rw_241_4 (x := (8 : Int32)) rfl rfl ?_
        refine to_in (pc := 6) rw_241_6 rfl ?_
        refine s_mul (pc := 7) rw_241_7 (A := 8) (B := v59.toInt) rfl rfl (by omega) (fun v63 e64 => ?_)
        refine to_in (pc := 8) rw_241_8 rfl ?_
        refine s_add (pc := 9) rw_241_9 (A := v63.toInt) (B := f.toInt) rfl rfl (by omega) (fun v65 e66 => ?_)
        refine s_ial (pc := 10) rw_241_10 hG rfl (n := 240) rfl rfl (A := v65.toInt) rfl (by omega) (by omega) (lo := -2147483648) (hi := 2147483647) rfl rfl (fun v67 w_68 _ _ => ?_)
        have z_69 : v67 = (x_kn sg NN nz.toNat).2.2.1 (8 * (v59.toInt).toNat + (f.toInt).toNat) := KST_lv (K := (x_kn sg NN nz.toNat)) g8 (c := v59.toInt) (f := f.toInt) (by omega) (by omega) (by omega) (by omega) (by omega) w_68
        have z_70 := bv_e (R := P9.1 p.toInt) (f := f.toInt) (k := (x4.toInt).toNat) z_69 z_61
        refine to_r0 (pc := 11) rw_241_11 ?_
        refine b_cgt (pc := 98) rw_242_98 (A := v51.toInt) (B := v67.toInt) rfl rfl (fun h71 => ?_) (fun h71 => ?_)
        · refine s_inc (pc := 136) rw_242_136 (ls2 := fun v => [.ref 77, .int p, .int f, .int x3, .int x4, .int v]) rfl rfl (fun _ => rfl) (A := x5.toInt) (B := 1) rfl rfl (by omega) (fun v72 e73 => ?_)
          refine to_go (pc := 139) rw_242_139 ?_
          exact ih.2 N x3 x4 v72 hG F0 (by omega) (by omega) (by omega) (by omega) (by omega) (by omega) g7 g8 (by omega) (by omega) (by omega) (by omega) (by omega) (by omega) g15 g16 (bj_s g17 (by omega) (by omega) (by omega) (bj_n (by omega) rfl)) (by omega)
        · refine to_an (pc := 101) rw_242_101 rfl ?_
          refine s_gR (pc := 102) rw_242_102 hG rfl (v := 120) rfl ?_
          refine to_i (pc := 105) rw_242_105 rfl ?_
          refine s_ial (pc := 107) rw_242_107 hG rfl (n := 30) rfl rfl (A := x5.toInt) rfl (by omega) (by omega) (lo := -2147483648) (hi := 2147483647) rfl rfl (fun v74 w_75 _ _ => ?_)
          have z_76 := (congrArg Int32.toInt (w_75)).symm.trans (g15 (x5.toInt).toNat (by omega))
          have z_77 := x_bL_b (V := (x_bv (x_kn sg NN nz.toNat) (P9.1 p.toInt) f.toInt)) (x4.toInt).toNat (x5.toInt).toNat
          refine to_c (pc := 108) rw_242_108 (x := (1 : Int32)) rfl rfl ?_
          refine s_add (pc := 109) rw_242_109 (A := v74.toInt) (B := 1) rfl rfl (by omega) (fun v78 e79 => ?_)
          refine to_an (pc := 110) rw_242_110 rfl ?_
          refine s_gR (pc := 111) rw_242_111 hG rfl (v := 120) rfl ?_
          refine to_i (pc := 114) rw_242_114 rfl ?_
          refine s_ial (pc := 116) rw_242_116 hG rfl (n := 30) rfl rfl (A := x4.toInt) rfl (by omega) (by omega) (lo := -2147483648) (hi := 2147483647) rfl rfl (fun v80 w_81 _ _ => ?_)
          have z_82 := congrArg Int32.toInt (w_81)
          refine b_cle (pc := 117) rw_242_117 (A := v78.toInt) (B := v80.toInt) rfl rfl (fun h83 => ?_) (fun h83 => ?_)
          · refine s_inc (pc := 136) rw_242_136 (ls2 := fun v => [.ref 77, .int p, .int f, .int x3, .int x4, .int v]) rfl rfl (fun _ => rfl) (A := x5.toInt) (B := 1) rfl rfl (by omega) (fun v84 e85 => ?_)
            refine to_go (pc := 139) rw_242_139 ?_
            exact ih.2 N x3 x4 v84 hG F0 (by omega) (by omega) (by omega) (by omega) (by omega) (by omega) g7 g8 (by omega) (by omega) (by omega) (by omega) (by omega) (by omega) g15 g16 (bj_s g17 (by omega) (by omega) (by omega) (bj_m (by omega) (by omega) (by omega) (by omega))) (by omega)
          · refine to_an (pc := 120) rw_242_120 rfl ?_
            refine s_gR (pc := 121) rw_242_121 hG rfl (v := 120) rfl ?_
            refine to_i (pc := 124) rw_242_124 rfl ?_
            refine to_an (pc := 126) rw_242_126 rfl ?_
            refine s_gR (pc := 127) rw_242_127 hG rfl (v := 120) rfl ?_
            refine to_i (pc := 130) rw_242_130 rfl ?_
            refine s_ialk (pc := 132) rw_242_132 hG rfl (n := 30) rfl rfl (A := x5.toInt) rfl (by omega) (by omega) (v := v74) w_75 ?_
            refine to_c (pc := 133) rw_242_133 (x := (1 : Int32)) rfl rfl ?_
            refine s_add (pc := 134) rw_242_134 (A := v74.toInt) (B := 1) rfl rfl (by omega) (fun v88 e89 => ?_)
            refine s_ias (pc := 135) rw_242_135 hG rfl (n := 30) rfl (A := x4.toInt) rfl (by omega) (by omega) (fun M91 W90 => ?_)
            have hG92 := g_wf hG W90 rfl rfl (by decide)
            have F93 := FR.w F0 W90 (show 120 = 77 ∧ (x4.toInt).toNat = 2 ∨ 94 ≤ 120 ∧ 120 ≤ 98 ∨ 120 = 120 by omega)
            have z_94 := congrArg Int32.toInt (W_e W90)
            refine s_inc (pc := 136) rw_242_136 (ls2 := fun v => [.ref 77, .int p, .int f, .int x3, .int x4, .int v]) rfl rfl (fun _ => rfl) (A := x5.toInt) (B := 1) rfl rfl (by omega) (fun v95 e96 => ?_)
            refine to_go (pc := 139) rw_242_139 ?_
            have j_97 := (PKr_f (fun a i z => W_n W90 (by /-r120-/ omega) rfl) g7)
            have kn_98 : KST M91 96 98 97 95 ca sg (x_kn sg NN nz.toNat) := KST_f (fun i => (W_j W90 rfl)) (fun i => (W_n W90 (by omega) rfl)) (fun i => (W_n W90 (by omega) rfl)) (fun i => (W_j W90 rfl)) g8
            exact ih.2 M91 x3 x4 v95 hG92 F93 (by omega) (by omega) (by omega) (by omega) (by omega) (by omega) j_97 kn_98 (by omega) (by omega) (by omega) (by omega) (by omega) (by omega) (fun k hk => (congrArg Int32.toInt ((W_n W90 (by omega) rfl))).trans (g15 k (by omega))) g16 (bj_s g17 (by omega) (by omega) (by omega) (bj_m (by omega) (by omega) (by omega) (by omega))) (by omega)
set_option maxRecDepth 4000 in
set_option maxHeartbeats 0 in
theorem E_242 {X : mm_X} {d : Nat} {M : mm_M} {Q : Option Value → mm_M → Prop} {p : Int32} {f : Int32} {sg : x_S} {NN : x_N} {nz : Int} {ca : Int} {P9 : x_P} {n9 : Int} (hX : g_X X) (hd : 4 ≤ d) (hG : g_G M) (q1 : x_vn sg ca NN nz) (q2 : ca ≤ 30) (q3 : (M.2.1 77 29).toInt = nz) (q4 : (M.2.1 77 28).toInt = ca) (q5 : CWk M sg) (q6 : FA M) (q7 : PLk M sg) (q8 : W8 M) (q9 : NTr M NN nz) (q10 : PKr M P9) (q11 : x_pg P9 n9 ca) (q12 : n9 ≤ 30) (h : ∀ (r : Int32) (M1 : mm_M), g_G M1 → FR md_be M M1 → (r.toInt = x_behind sg P9 (x_kn sg NN nz.toNat) p.toInt f.toInt) → Q (some (.int r)) M1) : mm_T X d 241 0 [.ref 77, .int p, .int f, .null, .null, .null] [] M Q := by
  have F0 : FR md_be M M := FR.rf
  have b_99 := g_b hG (a := 77) (i := 29) (lo := 0) (hi := 150) rfl rfl
  have b_100 := g_b hG (a := 77) (i := 28) (lo := 0) (hi := 30) rfl rfl
  have z_101 := q7.2.1
  have z_102 := q7.2.2.1
  have z_103 := q7.2.2.2.1
  have z_104 := q7.1
  have z_105 := z_104.1
  have z_106 := z_104.2.1
  have z_107 := z_104.2.2.1
  have z_108 := z_104.2.2.2.1
  have z_109 := z_104.2.2.2.2.1
  have z_110 := z_104.2.2.2.2.2.1
  have b_111 := g_b hG (a := 77) (i := 11) (lo := 10) (hi := 60) rfl rfl
  have b_112 := g_b hG (a := 77) (i := 12) (lo := 0) (hi := 8) rfl rfl
  have b_113 := g_b hG (a := 77) (i := 13) (lo := 0) (hi := 12) rfl rfl
  refine to_an (pc := 0) rw_242_0 rfl ?_
  refine to_c (pc := 1) rw_242_1 (x := (0 : Int32)) rfl rfl ?_
  refine s_pI (pc := 2) rw_242_2 hG rfl (fun M115 W114 => ?_)
  have hG116 := g_wf hG W114 rfl rfl (by decide)
  have F117 := FR.w F0 W114 (show 77 = 77 ∧ 2 = 2 ∨ 94 ≤ 77 ∧ 77 ≤ 98 ∨ 77 = 120 by decide)
  refine to_in (pc := 5) rw_242_5 rfl ?_
  refine s_s (pc := 6) rw_242_6 (dp0 hd (by decide)) (ls0 := [.int p]) rfl (Nat.le_of_ble_eq_true rfl) (Nat.le_of_ble_eq_true rfl) rfl (to_rcs rfl rfl) rfl ?_
  refine to_in (pc := 0) rw_205_0 rfl ?_
  refine b_ilt (pc := 1) rw_205_1 (A := p.toInt) rfl (fun h118 => ?_) (fun h118 => ?_)
  · refine to_c (pc := 14) rw_205_14 (x := (0 : Int32)) rfl rfl ?_
    refine s_r1 (pc := 15) rw_205_15 (A := 0) rfl (by decide) ?_
    refine b_ieq_t (pc := 9) rw_242_9 (A := 0) rfl (by decide) ?_
    refine to_c (pc := 20) rw_242_20 (x := (-1 : Int32)) rfl rfl ?_
    refine to_r0 (pc := 21) rw_242_21 ?_
    have k_119 : (-1 : Int32).toInt = -1 := rfl
    have z_120 := x_behind_n (s := sg) (P := P9) (K := (x_kn sg NN nz.toNat)) (p := p.toInt) (f := f.toInt) (r := -1) (by omega) rfl
    exact h (-1 : Int32) M115 hG116 F117 (by omega)
  · refine to_in (pc := 4) rw_205_4 rfl ?_
    refine to_c (pc := 5) rw_205_5 (x := (6 : Int32)) rfl rfl ?_
    refine b_cge (pc := 7) rw_205_7 (A := p.toInt) (B := 6) rfl rfl (fun h121 => ?_) (fun h121 => ?_)
    · refine to_c (pc := 14) rw_205_14 (x := (0 : Int32)) rfl rfl ?_
      refine s_r1 (pc := 15) rw_205_15 (A := 0) rfl (by decide) ?_
      refine b_ieq_t (pc := 9) rw_242_9 (A := 0) rfl (by decide) ?_
      refine to_c (pc := 20) rw_242_20 (x := (-1 : Int32)) rfl rfl ?_
      refine to_r0 (pc := 21) rw_242_21 ?_
      have k_122 : (-1 : Int32).toInt = -1 := rfl
      have z_123 := x_behind_n (s := sg) (P := P9) (K := (x_kn sg NN nz.toNat)) (p := p.toInt) (f := f.toInt) (r := -1) (by omega) rfl
      exact h (-1 : Int32) M115 hG116 F117 (by omega)
    · refine to_c (pc := 10) rw_205_10 (x := (1 : Int32)) rfl rfl ?_
      refine to_go (pc := 11) rw_205_11 ?_
      refine s_r1 (pc := 15) rw_205_15 (A := 1) rfl (by decide) ?_
      refine b_ieq_f (pc := 9) rw_242_9 (A := 1) rfl (by decide) ?_
      refine to_an (pc := 12) rw_242_12 rfl ?_
      refine to_in (pc := 13) rw_242_13 rfl ?_
      refine s_v (pc := 14) rw_242_14 (dp0 hd (by decide)) (ls0 := [.ref 77, .int f]) rfl (Nat.le_of_ble_eq_true rfl) (Nat.le_of_ble_eq_true rfl) rfl (to_rc rfl rfl rfl (g_o hG116 rfl)) rfl ?_
      refine to_an (pc := 0) rw_179_0 rfl ?_
      refine to_in (pc := 1) rw_179_1 rfl ?_
      refine s_v (pc := 2) rw_179_2 (dp1 hd (by decide)) (ls0 := [.ref 77, .int f]) rfl (Nat.le_of_ble_eq_true rfl) (Nat.le_of_ble_eq_true rfl) rfl (to_rc rfl rfl rfl (g_o hG116 rfl)) rfl ?_
      refine to_in (pc := 0) rw_178_0 rfl ?_
      refine b_ilt (pc := 1) rw_178_1 (A := f.toInt) rfl (fun h124 => ?_) (fun h124 => ?_)
      · refine to_c (pc := 16) rw_178_16 (x := (0 : Int32)) rfl rfl ?_
        refine s_r1 (pc := 17) rw_178_17 (A := 0) rfl (by decide) ?_
        refine b_ieq_t (pc := 5) rw_179_5 (A := 0) rfl (by decide) ?_
        refine to_c (pc := 22) rw_179_22 (x := (0 : Int32)) rfl rfl ?_
        refine s_r1 (pc := 23) rw_179_23 (A := 0) rfl (by decide) ?_
        refine b_ine_f (pc := 17) rw_242_17 (A := 0) rfl (by decide) ?_
        refine to_c (pc := 20) rw_242_20 (x := (-1 : Int32)) rfl rfl ?_
        refine to_r0 (pc := 21) rw_242_21 ?_
        have k_125 : (-1 : Int32).toInt = -1 := rfl
        have z_126 := x_behind_n (s := sg) (P := P9) (K := (x_kn sg NN nz.toNat)) (p := p.toInt) (f := f.toInt) (r := -1) (by omega) rfl
        exact h (-1 : Int32) M115 hG116 F117 (by omega)
      · refine to_in (pc := 4) rw_178_4 rfl ?_
        refine to_an (pc := 5) rw_178_5 rfl ?_
        have c_127 : M115.2.1 77 12 = (M.2.1 77 12) := (W_n W114 (by decide) rfl)
        refine tt_gI (pc := 6) rw_178_6 (g_o hG116 rfl) (v := (M.2.1 77 12)) c_127 ?_
        refine b_cge (pc := 9) rw_178_9 (A := f.toInt) (B := (M.2.1 77 12).toInt) rfl rfl (fun h128 => ?_) (fun h128 => ?_)
        · refine to_c (pc := 16) rw_178_16 (x := (0 : Int32)) rfl rfl ?_
          refine s_r1 (pc := 17) rw_178_17 (A := 0) rfl (by decide) ?_
          refine b_ieq_t (pc := 5) rw_179_5 (A := 0) rfl (by decide) ?_
          refine to_c (pc := 22) rw_179_22 (x := (0 : Int32)) rfl rfl ?_
          refine s_r1 (pc := 23) rw_179_23 (A := 0) rfl (by decide) ?_
          refine b_ine_f (pc := 17) rw_242_17 (A := 0) rfl (by decide) ?_
          refine to_c (pc := 20) rw_242_20 (x := (-1 : Int32)) rfl rfl ?_
          refine to_r0 (pc := 21) rw_242_21 ?_
          have k_129 : (-1 : Int32).toInt = -1 := rfl
          have z_130 := x_behind_n (s := sg) (P := P9) (K := (x_kn sg NN nz.toNat)) (p := p.toInt) (f := f.toInt) (r := -1) (by omega) rfl
          exact h (-1 : Int32) M115 hG116 F117 (by omega)
        · refine to_c (pc := 12) rw_178_12 (x := (1 : Int32)) rfl rfl ?_
          refine to_go (pc := 13) rw_178_13 ?_
          refine s_r1 (pc := 17) rw_178_17 (A := 1) rfl (by decide) ?_
          refine b_ieq_f (pc := 5) rw_179_5 (A := 1) rfl (by decide) ?_
          refine to_an (pc := 8) rw_179_8 rfl ?_
          refine s_gR (pc := 9) rw_179_9 hG116 rfl (v := 81) rfl ?_
          refine to_in (pc := 12) rw_179_12 rfl ?_
          refine s_ial (pc := 13) rw_179_13 hG116 rfl (n := 16) rfl rfl (A := f.toInt) rfl (by omega) (by omega) (lo := 0) (hi := 3) rfl rfl (fun v131 w_132 _ _ => ?_)
          have j_133 := (PLk_f (fun a i z => W_n W114 (by /-r77,2-/ omega) rfl) q7)
          have z_134 := PLk_r j_133 2 81 rfl (by decide) (by decide) (k := f.toInt) (by omega) (by omega) w_132
          have z_135 := x_row_v (s := sg) (r := 2) (x := f.toInt) (y := f.toInt) (by omega)
          refine to_c (pc := 14) rw_179_14 (x := (3 : Int32)) rfl rfl ?_
          refine b_ceq (pc := 15) rw_179_15 (A := v131.toInt) (B := 3) rfl rfl (fun h136 => ?_) (fun h136 => ?_)
          · refine to_c (pc := 22) rw_179_22 (x := (0 : Int32)) rfl rfl ?_
            refine s_r1 (pc := 23) rw_179_23 (A := 0) rfl (by decide) ?_
            refine b_ine_f (pc := 17) rw_242_17 (A := 0) rfl (by decide) ?_
            refine to_c (pc := 20) rw_242_20 (x := (-1 : Int32)) rfl rfl ?_
            refine to_r0 (pc := 21) rw_242_21 ?_
            have k_137 : (-1 : Int32).toInt = -1 := rfl
            have z_138 := x_behind_n (s := sg) (P := P9) (K := (x_kn sg NN nz.toNat)) (p := p.toInt) (f := f.toInt) (r := -1) (by omega) rfl
            exact h (-1 : Int32) M115 hG116 F117 (by omega)
          · refine to_c (pc := 18) rw_179_18 (x := (1 : Int32)) rfl rfl ?_
            refine to_go (pc := 19) rw_179_19 ?_
            refine s_r1 (pc := 23) rw_179_23 (A := 1) rfl (by decide) ?_
            refine b_ine_t (pc := 17) rw_242_17 (A := 1) rfl (by decide) ?_
            refine to_an (pc := 22) rw_242_22 rfl ?_
            refine to_an (pc := 23) rw_242_23 rfl ?_
            have c_139 : M115.2.1 77 29 = (M.2.1 77 29) := (W_n W114 (by decide) rfl)
            refine tt_gI (pc := 24) rw_242_24 (g_o hG116 rfl) (v := (M.2.1 77 29)) c_139 ?_
            refine s_v (pc := 27) rw_242_27 (dp0 hd (by decide)) (ls0 := [.ref 77, .int (M.2.1 77 29), .null, .null]) rfl (Nat.le_of_ble_eq_true rfl) (Nat.le_of_ble_eq_true rfl) rfl (to_rc rfl rfl rfl (g_o hG116 rfl)) rfl ?_
            have c_140 : M115.2.1 77 28 = (M.2.1 77 28) := (W_n W114 (by decide) rfl)
            have t_141 : (M115.2.1 77 28).toInt = (M.2.1 77 28).toInt := congrArg Int32.toInt c_140
            have j_142 := (CWk_f (fun k hk9 => W_j W114 rfl) q5)
            have j_143 := (FA_f (fun a i z => W_n W114 (by /-r77,2-/ omega) rfl) q6)
            have j_144 := (W8_f (fun a i z => W_n W114 (by /-r77,2-/ omega) rfl) q8)
            have j_145 := (NTr_f (fun a i z => W_n W114 (by /-r77,2-/ omega) rfl) q9)
            refine E_189 hX (dp1 hd (by decide)) hG116 (by omega) (by omega) (by omega) q1 (by omega) (by omega) j_142 j_143 j_133 j_144 j_145 (n := (M.2.1 77 29)) (sg := sg) (NN := NN) (nz := nz) (ca := ca) (fun M149 hG147 F146 p_148 => ?_)
            have F150 := FR.c F117 F146 (fun a i z => show a = 77 ∧ i = 2 ∨ 94 ≤ a ∧ a ≤ 98 ∨ a = 120 by have z : 94 ≤ a ∧ a ≤ 98 := z; omega)
            have z_151 := x_pg_le (p := p.toInt) q11 (by omega) (by omega)
            refine to_c (pc := 30) rw_242_30 (x := (0 : Int32)) rfl rfl ?_
            refine to_isn (pc := 31) rw_242_31 (ls2 := [.ref 77, .int p, .int f, .int (0 : Int32), .null, .null]) rfl rfl ?_
            refine to_c (pc := 32) rw_242_32 (x := (0 : Int32)) rfl rfl ?_
            refine to_is (pc := 33) rw_242_33 (ls2 := [.ref 77, .int p, .int f, .int (0 : Int32), .int (0 : Int32), .null]) rfl rfl ?_
            have k_152 : (0 : Int32).toInt = 0 := rfl
            have j_153 := (PKr_f (fun a i z => F_n F146 (show ¬ (94 ≤ a ∧ a ≤ 98) by omega) rfl) (PKr_f (fun a i z => W_n W114 (by /-r77,2-/ omega) rfl) q10))
            exact (U_242_0 (p := p) (f := f) (sg := sg) (NN := NN) (nz := nz) (ca := ca) (P9 := P9) (n9 := n9) hX hd q1 q2 q3 q4 q5 q6 q7 q8 q9 q10 q11 q12 h (((30 - (0 : Int32).toInt) * 100 + 50).toNat + 1)).1 M149 (0 : Int32) (0 : Int32) (.null) hG147 F150 (by omega) (by omega) (by omega) (by omega) (by omega) (by omega) j_153 (KST_nv (by omega) p_148) (by omega) (by omega) (by omega) (bl_0 (by omega)) (bm_0 (by omega) (by omega)) (by omega)
