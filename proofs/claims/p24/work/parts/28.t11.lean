theorem tg_197 {M M1 : mm_M} (F : FR (fun a i : Nat => a < 0) M M1) : ∀ a i : Nat, 88 ≤ a ∧ a ≤ 89 → M1.2.1 a i = M.2.1 a i := fun a i z => F_n F (show ¬ (a < 0) by omega) rfl
theorem tg_198 {M M1 : mm_M} (F : FR (fun a i : Nat => a = 117) M M1) : ∀ a i : Nat, (81 ≤ a ∧ a ≤ 84) → M1.2.1 a i = M.2.1 a i := fun a i z => F_n F (show ¬ (a = 117) by omega) rfl
theorem tg_199 {M M1 : mm_M} (F : FR (fun a i : Nat => a = 117) M M1) : ∀ a i : Nat, (a = 77 ∧ 11 ≤ i ∧ i ≤ 13 ∨ 80 ≤ a ∧ a ≤ 84 ∧ i < 8 ∨ 85 ≤ a ∧ a ≤ 86 ∧ i < 12) → M1.2.1 a i = M.2.1 a i := fun a i z => F_n F (show ¬ (a = 117) by omega) rfl
theorem tg_200 {M M1 : mm_M} (F : FR (fun a i : Nat => a = 117) M M1) : ∀ a i : Nat, 88 ≤ a ∧ a ≤ 89 → M1.2.1 a i = M.2.1 a i := fun a i z => F_n F (show ¬ (a = 117) by omega) rfl
theorem tg_201 {M M1 : mm_M} (F : FR (fun a i : Nat => 94 ≤ a ∧ a ≤ 98) M M1) : ∀ a i : Nat, (81 ≤ a ∧ a ≤ 84) → M1.2.1 a i = M.2.1 a i := fun a i z => F_n F (show ¬ (94 ≤ a ∧ a ≤ 98) by omega) rfl
theorem tg_202 {M M1 : mm_M} (F : FR (fun a i : Nat => 94 ≤ a ∧ a ≤ 98) M M1) : ∀ a i : Nat, 88 ≤ a ∧ a ≤ 89 → M1.2.1 a i = M.2.1 a i := fun a i z => F_n F (show ¬ (94 ≤ a ∧ a ≤ 98) by omega) rfl
theorem tg_203 : ∀ a i : Nat, (a < 0) → (a = 117) := fun a i z => by omega
theorem tg_204 : ∀ a i : Nat, (a = 117) → (a = 77 ∧ i = 2 ∨ 94 ≤ a ∧ a ≤ 98 ∨ a = 117) := fun a i z => by omega
theorem tg_205 : ∀ a i : Nat, (94 ≤ a ∧ a ≤ 98) → (a = 77 ∧ i = 2 ∨ 94 ≤ a ∧ a ≤ 98 ∨ a = 117) := fun a i z => by omega
theorem tg_206 : ∀ a i j : Nat, (81 ≤ a ∧ a ≤ 84) → ¬ (a = 117 ∧ i = j) := fun a i j z => by omega
theorem tg_207 : ∀ a i j : Nat, (a = 77 ∧ 11 ≤ i ∧ i ≤ 13 ∨ 80 ≤ a ∧ a ≤ 84 ∧ i < 8 ∨ 85 ≤ a ∧ a ≤ 86 ∧ i < 12) → ¬ (a = 117 ∧ i = j) := fun a i j z => by omega
theorem tg_208 : ∀ a i j : Nat, 88 ≤ a ∧ a ≤ 89 → ¬ (a = 117 ∧ i = j) := fun a i j z => by omega
set_option maxRecDepth 4000 in
set_option maxHeartbeats 0 in
theorem U_228_0 {X : mm_X} {d : Nat} {M : mm_M} {Q : Option Value → mm_M → Prop} {c : Int32} {t : Int32} {sg : x_S} {ca : Int} {K : x_Kn} {P9 : x_GP} (hX : g_X X) (hd : 1 ≤ d) (q1 : 0 ≤ c.toInt) (q2 : c.toInt ≤ 29) (q3 : c.toInt < ca) (q4 : ca ≤ 30) (q5 : 0 ≤ t.toInt) (q6 : t.toInt ≤ 1) (q7 : (M.2.1 77 58).toInt = P9.2) (q8 : 1 ≤ P9.2) (q9 : P9.2 ≤ 40) (q10 : FA M) (q11 : PLk M sg) (q12 : W8 M) (q13 : KST M 96 98 97 95 ca sg K) (q14 : LQK 0 M P9) (q15 : WFP sg P9 1) (h : ∀ (r : Int32) (M1 : mm_M), g_G M1 → FR md_an M M1 → (0 ≤ r.toInt) → (r.toInt ≤ 1) → ((r.toInt = 1 ↔ x_ev P9.1.1 (x_lf9 sg K P9 t.toInt (c.toInt).toNat) P9.2.toNat (P9.2.toNat - 1) = true)) → Q (some (.int r)) M1) : ∀ nn9 : Nat, (∀ (N : mm_M) (x3 : Int32) (u4 : Value) (u5 : Value), g_G N → FR md_an M N → (0 ≤ x3.toInt) → (x3.toInt ≤ 40) → (x3.toInt ≤ P9.2) → ((N.2.1 77 58).toInt = P9.2) → (FA N) → (PLk N sg) → (W8 N) → (KST N 96 98 97 95 ca sg K) → (LQK 0 N P9) → (∀ j : Nat, (j : Int) < x3.toInt → ((N.2.1 117 j).toInt = 1 ↔ x_ev P9.1.1 (x_lf9 sg K P9 t.toInt (c.toInt).toNat) (x3.toInt).toNat j = true)) → 40 - x3.toInt < (nn9 : Int) → mm_T X d 227 2 [.ref 77, .int c, .int t, .int x3, u4, u5] [] N Q) := by
  intro nn9
  induction nn9 with
  | zero =>
    intro N x3 u4 u5 hG F0 g1 g2 g3 g4 g5 g6 g7 g8 g9 g10 hm
    have b_1 := g_b hG (a := 77) (i := 58) (lo := 0) (hi := 40) rfl rfl
    exfalso; omega
  | succ nn9 ih =>
    intro N x3 u4 u5 hG F0 g1 g2 g3 g4 g5 g6 g7 g8 g9 g10 hm
    have b_2 := g_b hG (a := 77) (i := 58) (lo := 0) (hi := 40) rfl rfl
    have z_3 := g6.2.1
    have z_4 := g6.2.2.1
    have z_5 := g6.2.2.2.1
    have z_6 := g6.1
    have z_7 := z_6.1
    have z_8 := z_6.2.1
    have z_9 := z_6.2.2.1
    have z_10 := z_6.2.2.2.1
    have z_11 := z_6.2.2.2.2.1
    have z_12 := z_6.2.2.2.2.2.1
    have b_13 := g_b hG (a := 77) (i := 11) (lo := 10) (hi := 60) rfl rfl
    have b_14 := g_b hG (a := 77) (i := 12) (lo := 0) (hi := 8) rfl rfl
    have b_15 := g_b hG (a := 77) (i := 13) (lo := 0) (hi := 12) rfl rfl
    have z_16 := x_hd_le (k := P9.1.1) (x3.toInt).toNat
    refine to_in (pc := 2) rw_228_2 rfl ?_
    refine to_an (pc := 3) rw_228_3 rfl ?_
    refine tt_gI (pc := 4) rw_228_4 (g_o hG rfl) (v := (N.2.1 77 58)) rfl ?_
    refine b_cge (pc := 7) rw_228_7 (A := x3.toInt) (B := (N.2.1 77 58).toInt) rfl rfl (fun h17 => ?_) (fun h17 => ?_)
    · refine to_an (pc := 290) rw_228_290 rfl ?_
      refine s_gR (pc := 291) rw_228_291 hG rfl (v := 117) rfl ?_
      refine to_an (pc := 294) rw_228_294 rfl ?_
      refine tt_gI (pc := 295) rw_228_295 (g_o hG rfl) (v := (N.2.1 77 58)) rfl ?_
      refine to_c (pc := 298) rw_228_298 (x := (1 : Int32)) rfl rfl ?_
      refine s_sub (pc := 299) rw_228_299 (A := (N.2.1 77 58).toInt) (B := 1) rfl rfl (by omega) (fun v18 e19 => ?_)
      refine s_bal (pc := 300) rw_228_300 hG rfl (n := 40) rfl (A := v18.toInt) rfl (by omega) (by omega) (lo := 0) (hi := 1) rfl rfl (fun v20 w_21 _ _ => ?_)
      refine s_r1 (pc := 301) rw_228_301 (A := v20.toInt) rfl (by omega) ?_
      exact h v20 N hG F0 (by omega) (by omega) (hv_e g10 w_21 (by omega) (by omega))
    · refine to_an (pc := 10) rw_228_10 rfl ?_
      refine s_gR (pc := 11) rw_228_11 hG rfl (v := 113) rfl ?_
      refine to_in (pc := 14) rw_228_14 rfl ?_
      refine s_ial (pc := 15) rw_228_15 hG rfl (n := 80) rfl rfl (A := x3.toInt) rfl (by omega) (by omega) (lo := 0) (hi := 39) rfl rfl (fun v22 w_23 _ _ => ?_)
      have z_24 := congrArg Int32.toInt w_23
      have z_25 := q15.2.1 (x3.toInt).toNat (by omega)
      have z_26 := hd_u z_25
      have z_27 := (show GK sg P9 (x3.toInt).toNat from z_25)
      unfold GK at z_27
      have z_28 := LQK_u (j := (x3.toInt).toNat) g9 (by (first | (clear z_26; omega) | omega))
      unfold x_pt at z_28
      refine to_is (pc := 16) rw_228_16 (ls2 := [.ref 77, .int c, .int t, .int x3, .int v22, u5]) rfl rfl ?_
      refine to_an (pc := 18) rw_228_18 rfl ?_
      refine s_gR (pc := 19) rw_228_19 hG rfl (v := 114) rfl ?_
      refine to_in (pc := 22) rw_228_22 rfl ?_
      refine s_ial (pc := 23) rw_228_23 hG rfl (n := 80) rfl rfl (A := x3.toInt) rfl (by (first | (clear z_26; omega) | omega)) (by (first | (clear z_26; omega) | omega)) (lo := -2147483648) (hi := 2147483647) rfl rfl (fun v29 w_30 _ _ => ?_)
      have z_31 := congrArg Int32.toInt w_30
      refine to_is (pc := 24) rw_228_24 (ls2 := [.ref 77, .int c, .int t, .int x3, .int v22, .int v29]) rfl rfl ?_
      refine to_an (pc := 26) rw_228_26 rfl ?_
      refine s_gR (pc := 27) rw_228_27 hG rfl (v := 112) rfl ?_
      refine to_in (pc := 30) rw_228_30 rfl ?_
      refine s_ial (pc := 31) rw_228_31 hG rfl (n := 80) rfl rfl (A := x3.toInt) rfl (by (first | (clear z_26; omega) | omega)) (by (first | (clear z_26; omega) | omega)) (lo := 0) (hi := 4) rfl rfl (fun v32 w_33 _ _ => ?_)
      have z_34 := congrArg Int32.toInt w_33
      rcases (show v32.toInt = 0 ∨ v32.toInt = 1 ∨ v32.toInt = 2 ∨ v32.toInt = 3 ∨ (v32.toInt < 0 ∨ 3 < v32.toInt) by (first | (clear z_26; omega) | omega)) with h35 | h35 | h35 | h35 | h35
      · refine s_sw (pc := 32) rw_228_32 (A := v32.toInt) (k := 0) (t := 64) rfl h35 (by decide) rfl ?_
        refine to_an (pc := 64) rw_228_64 rfl ?_
        refine s_gR (pc := 65) rw_228_65 hG rfl (v := 117) rfl ?_
        refine to_in (pc := 68) rw_228_68 rfl ?_
        refine to_in (pc := 69) rw_228_69 rfl ?_
        refine b_ieq (pc := 70) rw_228_70 (A := t.toInt) rfl (fun h36 => ?_) (fun h36 => ?_)
        · refine to_an (pc := 98) rw_228_98 rfl ?_
          refine to_i (pc := 99) rw_228_99 rfl ?_
          refine to_i (pc := 101) rw_228_101 rfl ?_
          refine s_v (pc := 103) rw_228_103 (dp0 hd (by decide)) (ls0 := [.ref 77, .int v22, .int v29]) rfl (Nat.le_of_ble_eq_true rfl) (Nat.le_of_ble_eq_true rfl) rfl (to_rc rfl rfl rfl (g_o hG rfl)) rfl ?_
          have z_37 := x_row_v (s := sg) (r := 2) (x := v22.toInt) (y := P9.1.2.1 (x3.toInt).toNat) (by (first | (clear z_26; omega) | omega))
          have z_38 := x_row_v (s := sg) (r := 5) (x := v22.toInt) (y := P9.1.2.1 (x3.toInt).toNat) (by (first | (clear z_26; omega) | omega))
          refine E_183 hX (dp1 hd (by decide)) hG (by (first | (clear z_26; omega) | omega)) (by (first | (clear z_26; omega) | omega)) (by (first | (clear z_26; omega) | omega)) (by (first | (clear z_26; omega) | omega)) (by (first | (clear z_26; omega) | omega)) g5 g6 g7 (f := v22) (v := v29) (sg := sg) (fun r39 M43 hG41 F40 p_42 => ?_)
          have F44 := FR.c F0 F40 tg_203
          refine to_an (pc := 106) rw_228_106 rfl ?_
          refine s_gR (pc := 107) rw_228_107 hG41 rfl (v := 96) rfl ?_
          refine to_in (pc := 110) rw_228_110 rfl ?_
          refine s_lalE (pc := 111) rw_228_111 hG41 rfl (n := 30) rfl (A := c.toInt) rfl (by (first | (clear z_26; omega) | omega)) (by (first | (clear z_26; omega) | omega)) (fun l45 w_46 => ?_)
          have kn_47 : KST M43 96 98 97 95 ca sg K := KST_f (fun i => (F_nl F40 (show ¬ (96 < 0) by decide) rfl)) (fun i => (F_n F40 (show ¬ (98 < 0) by decide) rfl)) (fun i => (F_n F40 (show ¬ (97 < 0) by decide) rfl)) (fun i => (F_nl F40 (show ¬ (95 < 0) by decide) rfl)) g8
          have z_48 : l45 = K.1 (c.toInt).toNat := KST_lc (K := K) kn_47 (by (first | (clear z_26; omega) | omega)) (by (first | (clear z_26; omega) | omega)) w_46
          refine to_cl (pc := 112) rw_228_112 rfl (x := (-1 : Int64)) rfl ?_
          refine to_2l (pc := 115) rw_228_115 (v := (l45 ^^^ (-1 : Int64))) rfl ?_
          refine to_2l (pc := 116) rw_228_116 (v := (r39 &&& (l45 ^^^ (-1 : Int64)))) rfl ?_
          refine to_cl (pc := 117) rw_228_117 rfl (x := (0 : Int64)) rfl ?_
          refine s_lcmpE (pc := 118) rw_228_118 (fun v49 e50 => ?_)
          have b_51 := x_eq_b (x := (r39 &&& (l45 ^^^ (-1 : Int64)))) (y := (0 : Int64))
          have z_52 : x_eq (r39 &&& (l45 ^^^ (-1 : Int64))) (0 : Int64) = x_eq (K.1 (c.toInt).toNat &&& (x_cd sg v22.toInt v29.toInt)) (x_cd sg v22.toInt v29.toInt) := by rw [x_dr_r, z_48, p_42]
          refine b_ine (pc := 119) rw_228_119 (A := v49.toInt) rfl (fun h53 => ?_) (fun h53 => ?_)
          · refine to_c (pc := 126) rw_228_126 (x := (0 : Int32)) rfl rfl ?_
            refine s_zas (pc := 127) rw_228_127 hG41 rfl (n := 40) rfl (A := x3.toInt) rfl (by (first | (clear z_26 h53; omega) | (clear z_26; omega) | omega)) (by (first | (clear z_26 h53; omega) | (clear z_26; omega) | omega)) (B := 0) rfl (by (first | (clear z_26 h53; omega) | (clear z_26; omega) | omega)) (fun M55 W54 => ?_)
            have hG56 := g_w hG41 W54 (A := 0) rfl (lo := 0) (hi := 1) rfl rfl (by (first | (clear z_26 h53; omega) | (clear z_26; omega) | omega)) (by decide)
            have F57 := FR.w F44 W54 (show 117 = 117 by decide)
            refine to_go (pc := 128) rw_228_128 ?_
            refine s_inc (pc := 284) rw_228_284 (ls2 := fun v => [.ref 77, .int c, .int t, .int v, .int v22, .int v29]) rfl rfl (fun _ => rfl) (A := x3.toInt) (B := 1) rfl rfl (by (first | (clear z_26 h53; omega) | (clear z_26; omega) | omega)) (fun v58 e59 => ?_)
            refine to_go (pc := 287) rw_228_287 ?_
            have c_60 : M55.2.1 77 58 = (N.2.1 77 58) := (W_n W54 (fun z => absurd z.1 (by decide)) (F_n F40 (show ¬ (77 < 0) by decide) rfl))
            have t_61 : (M55.2.1 77 58).toInt = (N.2.1 77 58).toInt := congrArg Int32.toInt c_60
            have j_62 := (FA_f (fun a i z => W_n W54 (tg_206 a i _ z) rfl) (FA_f (tg_164 F40) g5))
            have j_63 := (PLk_f (fun a i z => W_n W54 (tg_207 a i _ z) rfl) (PLk_f (tg_101 F40) g6))
            have j_64 := (W8_f (fun a i z => W_n W54 (tg_208 a i _ z) rfl) (W8_f (tg_197 F40) g7))
            have kn_65 : KST M55 96 98 97 95 ca sg K := KST_f (fun i => (W_j W54 rfl)) (fun i => (W_n W54 (by (first | (clear z_26 h53; omega) | (clear z_26; omega) | omega)) rfl)) (fun i => (W_n W54 (by (first | (clear z_26 h53; omega) | (clear z_26; omega) | omega)) rfl)) (fun i => (W_j W54 rfl)) kn_47
            have z_66 := LQK_f (fun r i z _ => (W_n W54 (by (first | (clear z_26 h53; omega) | (clear z_26; omega) | omega)) (F_n F40 (show ¬ (r < 0) by (first | (clear z_26 h53; omega) | (clear z_26; omega) | omega)) rfl))) g9
            exact ih M55 v58 (.int v22) (.int v29) hG56 F57 (by (first | (clear z_26 h53; omega) | (clear z_26; omega) | omega)) (by (first | (clear z_26 h53; omega) | (clear z_26; omega) | omega)) (by (first | (clear z_26 h53; omega) | (clear z_26; omega) | omega)) (by (first | (clear z_26 h53; omega) | (clear z_26; omega) | omega)) j_62 j_63 j_64 kn_65 z_66 (hv_s (hv_f (fun j => (F_n F40 (show ¬ (117 < 0) by decide) rfl)) g10) (by (first | (clear z_26 h53; omega) | (clear z_26; omega) | omega)) W54 rfl (by (first | (clear z_26 h53; omega) | (clear z_26; omega) | omega)) (el_n (by (first | (clear z_26 h53; omega) | (clear z_26; omega) | omega)) (fun z => lh_n (h := (x_cd sg v22.toInt v29.toInt)) (hh_v (by (first | (clear z_26 h53; omega) | (clear z_26; omega) | omega)) (show v22.toInt = P9.1.2.1 (x3.toInt).toNat by (first | (clear z_26 h53; omega) | (clear z_26; omega) | omega)) (show v29.toInt = P9.1.2.2 (x3.toInt).toNat by (first | (clear z_26 h53; omega) | (clear z_26; omega) | omega)) rfl) (by (first | (clear z_26 h53; omega) | (clear z_26; omega) | omega)) ((lf_0 (by (first | (clear z_26 h53; omega) | (clear z_26; omega) | omega))).symm.trans z)))) (by (first | (clear z_26 h53; omega) | (clear z_26; omega) | omega))
          · refine to_c (pc := 122) rw_228_122 (x := (1 : Int32)) rfl rfl ?_
            refine to_go (pc := 123) rw_228_123 ?_
            refine s_zas (pc := 127) rw_228_127 hG41 rfl (n := 40) rfl (A := x3.toInt) rfl (by (first | (clear z_26; omega) | omega)) (by (first | (clear z_26; omega) | omega)) (B := 1) rfl (by (first | (clear z_26; omega) | omega)) (fun M68 W67 => ?_)
            have hG69 := g_w hG41 W67 (A := 1) rfl (lo := 0) (hi := 1) rfl rfl (by (first | (clear z_26; omega) | omega)) (by decide)
            have F70 := FR.w F44 W67 (show 117 = 117 by decide)
            refine to_go (pc := 128) rw_228_128 ?_
            refine s_inc (pc := 284) rw_228_284 (ls2 := fun v => [.ref 77, .int c, .int t, .int v, .int v22, .int v29]) rfl rfl (fun _ => rfl) (A := x3.toInt) (B := 1) rfl rfl (by (first | (clear z_26; omega) | omega)) (fun v71 e72 => ?_)
            refine to_go (pc := 287) rw_228_287 ?_
            have c_73 : M68.2.1 77 58 = (N.2.1 77 58) := (W_n W67 (fun z => absurd z.1 (by decide)) (F_n F40 (show ¬ (77 < 0) by decide) rfl))
            have t_74 : (M68.2.1 77 58).toInt = (N.2.1 77 58).toInt := congrArg Int32.toInt c_73
            have j_75 := (FA_f (fun a i z => W_n W67 (tg_206 a i _ z) rfl) (FA_f (tg_164 F40) g5))
            have j_76 := (PLk_f (fun a i z => W_n W67 (tg_207 a i _ z) rfl) (PLk_f (tg_101 F40) g6))
            have j_77 := (W8_f (fun a i z => W_n W67 (tg_208 a i _ z) rfl) (W8_f (tg_197 F40) g7))
            have kn_78 : KST M68 96 98 97 95 ca sg K := KST_f (fun i => (W_j W67 rfl)) (fun i => (W_n W67 (by (first | (clear z_26; omega) | omega)) rfl)) (fun i => (W_n W67 (by (first | (clear z_26; omega) | omega)) rfl)) (fun i => (W_j W67 rfl)) kn_47
            have z_79 := LQK_f (fun r i z _ => (W_n W67 (by (first | (clear z_26; omega) | omega)) (F_n F40 (show ¬ (r < 0) by (first | (clear z_26; omega) | omega)) rfl))) g9
            exact ih M68 v71 (.int v22) (.int v29) hG69 F70 (by (first | (clear z_26; omega) | omega)) (by (first | (clear z_26; omega) | omega)) (by (first | (clear z_26; omega) | omega)) (by (first | (clear z_26; omega) | omega)) j_75 j_76 j_77 kn_78 z_79 (hv_s (hv_f (fun j => (F_n F40 (show ¬ (117 < 0) by decide) rfl)) g10) (by (first | (clear z_26; omega) | omega)) W67 rfl (by (first | (clear z_26; omega) | omega)) (el_y (by (first | (clear z_26; omega) | omega)) ((lf_0 (by (first | (clear z_26; omega) | omega))).trans (lh_y (h := (x_cd sg v22.toInt v29.toInt)) (hh_v (by (first | (clear z_26; omega) | omega)) (show v22.toInt = P9.1.2.1 (x3.toInt).toNat by (first | (clear z_26; omega) | omega)) (show v29.toInt = P9.1.2.2 (x3.toInt).toNat by (first | (clear z_26; omega) | omega)) rfl) (by (first | (clear z_26; omega) | omega)))))) (by (first | (clear z_26; omega) | omega))
        · refine to_an (pc := 73) rw_228_73 rfl ?_
          refine s_gR (pc := 74) rw_228_74 hG rfl (v := 97) rfl ?_
          refine to_c (pc := 77) rw_228_77 (x := (8 : Int32)) rfl rfl ?_
          refine to_in (pc := 79) rw_228_79 rfl ?_
          refine s_mul (pc := 80) rw_228_80 (A := 8) (B := c.toInt) rfl rfl (by (first | (clear z_26 h36; omega) | (clear z_26; omega) | omega)) (fun v80 e81 => ?_)
          refine to_i (pc := 81) rw_228_81 rfl ?_
          refine s_add (pc := 83) rw_228_83 (A := v80.toInt) (B := v22.toInt) rfl rfl (by (first | (clear z_26 h36; omega) | (clear z_26; omega) | omega)) (fun v82 e83 => ?_)
          refine s_ial (pc := 84) rw_228_84 hG rfl (n := 240) rfl rfl (A := v82.toInt) rfl (by (first | (clear z_26 h36; omega) | (clear z_26; omega) | omega)) (by (first | (clear z_26 h36; omega) | (clear z_26; omega) | omega)) (lo := -2147483648) (hi := 2147483647) rfl rfl (fun v84 w_85 _ _ => ?_)
          have z_86 : v84 = K.2.2.1 (8 * (c.toInt).toNat + (v22.toInt).toNat) := KST_lv (K := K) g8 (c := c.toInt) (f := v22.toInt) (by (first | (clear z_26 h36; omega) | (clear z_26; omega) | omega)) (by (first | (clear z_26 h36; omega) | (clear z_26; omega) | omega)) (by (first | (clear z_26 h36; omega) | (clear z_26; omega) | omega)) (by (first | (clear z_26 h36; omega) | (clear z_26; omega) | omega)) (by (first | (clear z_26 h36; omega) | (clear z_26; omega) | omega)) w_85
          refine to_i (pc := 85) rw_228_85 rfl ?_
          refine b_cne (pc := 87) rw_228_87 (A := v84.toInt) (B := v29.toInt) rfl rfl (fun h87 => ?_) (fun h87 => ?_)
          · refine to_c (pc := 94) rw_228_94 (x := (0 : Int32)) rfl rfl ?_
            refine to_go (pc := 95) rw_228_95 ?_
            refine s_zas (pc := 127) rw_228_127 hG rfl (n := 40) rfl (A := x3.toInt) rfl (by (first | (clear z_26 h36 h87; omega) | (clear z_26 h36; omega) | omega)) (by (first | (clear z_26 h36 h87; omega) | (clear z_26 h36; omega) | omega)) (B := 0) rfl (by (first | (clear z_26 h36 h87; omega) | (clear z_26 h36; omega) | omega)) (fun M89 W88 => ?_)
            have hG90 := g_w hG W88 (A := 0) rfl (lo := 0) (hi := 1) rfl rfl (by (first | (clear z_26 h36 h87; omega) | (clear z_26 h36; omega) | omega)) (by decide)
            have F91 := FR.w F0 W88 (show 117 = 117 by decide)
            refine to_go (pc := 128) rw_228_128 ?_
            refine s_inc (pc := 284) rw_228_284 (ls2 := fun v => [.ref 77, .int c, .int t, .int v, .int v22, .int v29]) rfl rfl (fun _ => rfl) (A := x3.toInt) (B := 1) rfl rfl (by (first | (clear z_26 h36 h87; omega) | (clear z_26 h36; omega) | omega)) (fun v92 e93 => ?_)
            refine to_go (pc := 287) rw_228_287 ?_
            have c_94 : M89.2.1 77 58 = (N.2.1 77 58) := (W_n W88 (fun z => absurd z.1 (by decide)) rfl)
            have t_95 : (M89.2.1 77 58).toInt = (N.2.1 77 58).toInt := congrArg Int32.toInt c_94
            have j_96 := (FA_f (fun a i z => W_n W88 (tg_206 a i _ z) rfl) g5)
            have j_97 := (PLk_f (fun a i z => W_n W88 (tg_207 a i _ z) rfl) g6)
            have j_98 := (W8_f (fun a i z => W_n W88 (tg_208 a i _ z) rfl) g7)
            have kn_99 : KST M89 96 98 97 95 ca sg K := KST_f (fun i => (W_j W88 rfl)) (fun i => (W_n W88 (by (first | (clear z_26 h36 h87; omega) | (clear z_26 h36; omega) | omega)) rfl)) (fun i => (W_n W88 (by (first | (clear z_26 h36 h87; omega) | (clear z_26 h36; omega) | omega)) rfl)) (fun i => (W_j W88 rfl)) g8
            have z_100 := LQK_f (fun r i z _ => (W_n W88 (by (first | (clear z_26 h36 h87; omega) | (clear z_26 h36; omega) | omega)) rfl)) g9
            exact ih M89 v92 (.int v22) (.int v29) hG90 F91 (by (first | (clear z_26 h36 h87; omega) | (clear z_26 h36; omega) | omega)) (by (first | (clear z_26 h36 h87; omega) | (clear z_26 h36; omega) | omega)) (by (first | (clear z_26 h36 h87; omega) | (clear z_26 h36; omega) | omega)) (by (first | (clear z_26 h36 h87; omega) | (clear z_26 h36; omega) | omega)) j_96 j_97 j_98 kn_99 z_100 (hv_s g10 (by (first | (clear z_26 h36 h87; omega) | (clear z_26 h36; omega) | omega)) W88 rfl (by (first | (clear z_26 h36 h87; omega) | (clear z_26 h36; omega) | omega)) (el_n (by (first | (clear z_26 h36 h87; omega) | (clear z_26 h36; omega) | omega)) (fun z => by have y9 := (lt_v (P := P9) (i := (x3.toInt).toNat) (by (first | (clear z_26 h36 h87; omega) | (clear z_26 h36; omega) | omega)) (show v22.toInt = P9.1.2.1 (x3.toInt).toNat by (first | (clear z_26 h36 h87; omega) | (clear z_26 h36; omega) | omega)) z_86 (show v29.toInt = P9.1.2.2 (x3.toInt).toNat by (first | (clear z_26 h36 h87; omega) | (clear z_26 h36; omega) | omega))).mp ((lf_1 (by (first | (clear z_26 h36 h87; omega) | (clear z_26 h36; omega) | omega))).symm.trans z); omega))) (by (first | (clear z_26 h36 h87; omega) | (clear z_26 h36; omega) | omega))
          · refine to_c (pc := 90) rw_228_90 (x := (1 : Int32)) rfl rfl ?_
            refine to_go (pc := 91) rw_228_91 ?_
            refine s_zas (pc := 127) rw_228_127 hG rfl (n := 40) rfl (A := x3.toInt) rfl (by (first | (clear z_26 h36; omega) | (clear z_26; omega) | omega)) (by (first | (clear z_26 h36; omega) | (clear z_26; omega) | omega)) (B := 1) rfl (by (first | (clear z_26 h36; omega) | (clear z_26; omega) | omega)) (fun M102 W101 => ?_)
            have hG103 := g_w hG W101 (A := 1) rfl (lo := 0) (hi := 1) rfl rfl (by (first | (clear z_26 h36; omega) | (clear z_26; omega) | omega)) (by decide)
            have F104 := FR.w F0 W101 (show 117 = 117 by decide)
            refine to_go (pc := 128) rw_228_128 ?_
            refine s_inc (pc := 284) rw_228_284 (ls2 := fun v => [.ref 77, .int c, .int t, .int v, .int v22, .int v29]) rfl rfl (fun _ => rfl) (A := x3.toInt) (B := 1) rfl rfl (by (first | (clear z_26 h36; omega) | (clear z_26; omega) | omega)) (fun v105 e106 => ?_)
            refine to_go (pc := 287) rw_228_287 ?_
            have c_107 : M102.2.1 77 58 = (N.2.1 77 58) := (W_n W101 (fun z => absurd z.1 (by decide)) rfl)
            have t_108 : (M102.2.1 77 58).toInt = (N.2.1 77 58).toInt := congrArg Int32.toInt c_107
            have j_109 := (FA_f (fun a i z => W_n W101 (tg_206 a i _ z) rfl) g5)
            have j_110 := (PLk_f (fun a i z => W_n W101 (tg_207 a i _ z) rfl) g6)
            have j_111 := (W8_f (fun a i z => W_n W101 (tg_208 a i _ z) rfl) g7)
            have kn_112 : KST M102 96 98 97 95 ca sg K := KST_f (fun i => (W_j W101 rfl)) (fun i => (W_n W101 (by (first | (clear z_26 h36; omega) | (clear z_26; omega) | omega)) rfl)) (fun i => (W_n W101 (by (first | (clear z_26 h36; omega) | (clear z_26; omega) | omega)) rfl)) (fun i => (W_j W101 rfl)) g8
            have z_113 := LQK_f (fun r i z _ => (W_n W101 (by (first | (clear z_26 h36; omega) | (clear z_26; omega) | omega)) rfl)) g9
            exact ih M102 v105 (.int v22) (.int v29) hG103 F104 (by (first | (clear z_26 h36; omega) | (clear z_26; omega) | omega)) (by (first | (clear z_26 h36; omega) | (clear z_26; omega) | omega)) (by (first | (clear z_26 h36; omega) | (clear z_26; omega) | omega)) (by (first | (clear z_26 h36; omega) | (clear z_26; omega) | omega)) j_109 j_110 j_111 kn_112 z_113 (hv_s g10 (by (first | (clear z_26 h36; omega) | (clear z_26; omega) | omega)) W101 rfl (by (first | (clear z_26 h36; omega) | (clear z_26; omega) | omega)) (el_y (by (first | (clear z_26 h36; omega) | (clear z_26; omega) | omega)) ((lf_1 (by (first | (clear z_26 h36; omega) | (clear z_26; omega) | omega))).trans ((lt_v (P := P9) (i := (x3.toInt).toNat) (by (first | (clear z_26 h36; omega) | (clear z_26; omega) | omega)) (show v22.toInt = P9.1.2.1 (x3.toInt).toNat by (first | (clear z_26 h36; omega) | (clear z_26; omega) | omega)) z_86 (show v29.toInt = P9.1.2.2 (x3.toInt).toNat by (first | (clear z_26 h36; omega) | (clear z_26; omega) | omega))).mpr (by (first | (clear z_26 h36; omega) | (clear z_26; omega) | omega)))))) (by (first | (clear z_26 h36; omega) | (clear z_26; omega) | omega))
      · refine s_sw (pc := 32) rw_228_32 (A := v32.toInt) (k := 1) (t := 131) rfl h35 (by decide) rfl ?_
        refine to_an (pc := 131) rw_228_131 rfl ?_
        refine s_gR (pc := 132) rw_228_132 hG rfl (v := 117) rfl ?_
        refine to_in (pc := 135) rw_228_135 rfl ?_
        refine to_in (pc := 136) rw_228_136 rfl ?_
        refine b_ieq (pc := 137) rw_228_137 (A := t.toInt) rfl (fun h114 => ?_) (fun h114 => ?_)
        · refine to_an (pc := 163) rw_228_163 rfl ?_
          refine s_gR (pc := 164) rw_228_164 hG rfl (v := 95) rfl ?_
          refine to_i (pc := 167) rw_228_167 rfl ?_
          refine s_lalE (pc := 169) rw_228_169 hG rfl (n := 12) rfl (A := v22.toInt) rfl (by (first | (clear z_26; omega) | omega)) (by (first | (clear z_26; omega) | omega)) (fun l115 w_116 => ?_)
          have z_117 : l115 = K.2.2.2 (v22.toInt).toNat := KST_ld (K := K) g8 (by (first | (clear z_26; omega) | omega)) (by (first | (clear z_26; omega) | omega)) w_116
          refine to_an (pc := 170) rw_228_170 rfl ?_
          refine s_gR (pc := 171) rw_228_171 hG rfl (v := 96) rfl ?_
          refine to_in (pc := 174) rw_228_174 rfl ?_
          refine s_lalE (pc := 175) rw_228_175 hG rfl (n := 30) rfl (A := c.toInt) rfl (by (first | (clear z_26; omega) | omega)) (by (first | (clear z_26; omega) | omega)) (fun l118 w_119 => ?_)
          have z_120 : l118 = K.1 (c.toInt).toNat := KST_lc (K := K) g8 (by (first | (clear z_26; omega) | omega)) (by (first | (clear z_26; omega) | omega)) w_119
          refine to_cl (pc := 176) rw_228_176 rfl (x := (-1 : Int64)) rfl ?_
          refine to_2l (pc := 179) rw_228_179 (v := (l118 ^^^ (-1 : Int64))) rfl ?_
          refine to_2l (pc := 180) rw_228_180 (v := (l115 &&& (l118 ^^^ (-1 : Int64)))) rfl ?_
          refine to_cl (pc := 181) rw_228_181 rfl (x := (0 : Int64)) rfl ?_
          refine s_lcmpE (pc := 182) rw_228_182 (fun v121 e122 => ?_)
          have b_123 := x_eq_b (x := (l115 &&& (l118 ^^^ (-1 : Int64)))) (y := (0 : Int64))
          have z_124 : x_eq (l115 &&& (l118 ^^^ (-1 : Int64))) (0 : Int64) = x_eq (K.1 (c.toInt).toNat &&& (K.2.2.2 (v22.toInt).toNat)) (K.2.2.2 (v22.toInt).toNat) := by rw [x_dr_r, z_120, z_117]
          refine b_ine (pc := 183) rw_228_183 (A := v121.toInt) rfl (fun h125 => ?_) (fun h125 => ?_)
          · refine to_c (pc := 190) rw_228_190 (x := (0 : Int32)) rfl rfl ?_
            refine s_zas (pc := 191) rw_228_191 hG rfl (n := 40) rfl (A := x3.toInt) rfl (by (first | (clear z_26 h125; omega) | (clear z_26; omega) | omega)) (by (first | (clear z_26 h125; omega) | (clear z_26; omega) | omega)) (B := 0) rfl (by (first | (clear z_26 h125; omega) | (clear z_26; omega) | omega)) (fun M127 W126 => ?_)
            have hG128 := g_w hG W126 (A := 0) rfl (lo := 0) (hi := 1) rfl rfl (by (first | (clear z_26 h125; omega) | (clear z_26; omega) | omega)) (by decide)
            have F129 := FR.w F0 W126 (show 117 = 117 by decide)
            refine to_go (pc := 192) rw_228_192 ?_
            refine s_inc (pc := 284) rw_228_284 (ls2 := fun v => [.ref 77, .int c, .int t, .int v, .int v22, .int v29]) rfl rfl (fun _ => rfl) (A := x3.toInt) (B := 1) rfl rfl (by (first | (clear z_26 h125; omega) | (clear z_26; omega) | omega)) (fun v130 e131 => ?_)
            refine to_go (pc := 287) rw_228_287 ?_
            have c_132 : M127.2.1 77 58 = (N.2.1 77 58) := (W_n W126 (fun z => absurd z.1 (by decide)) rfl)
            have t_133 : (M127.2.1 77 58).toInt = (N.2.1 77 58).toInt := congrArg Int32.toInt c_132
            have j_134 := (FA_f (fun a i z => W_n W126 (tg_206 a i _ z) rfl) g5)
            have j_135 := (PLk_f (fun a i z => W_n W126 (tg_207 a i _ z) rfl) g6)
            have j_136 := (W8_f (fun a i z => W_n W126 (tg_208 a i _ z) rfl) g7)
            have kn_137 : KST M127 96 98 97 95 ca sg K := KST_f (fun i => (W_j W126 rfl)) (fun i => (W_n W126 (by (first | (clear z_26 h125; omega) | (clear z_26; omega) | omega)) rfl)) (fun i => (W_n W126 (by (first | (clear z_26 h125; omega) | (clear z_26; omega) | omega)) rfl)) (fun i => (W_j W126 rfl)) g8
            have z_138 := LQK_f (fun r i z _ => (W_n W126 (by (first | (clear z_26 h125; omega) | (clear z_26; omega) | omega)) rfl)) g9
            exact ih M127 v130 (.int v22) (.int v29) hG128 F129 (by (first | (clear z_26 h125; omega) | (clear z_26; omega) | omega)) (by (first | (clear z_26 h125; omega) | (clear z_26; omega) | omega)) (by (first | (clear z_26 h125; omega) | (clear z_26; omega) | omega)) (by (first | (clear z_26 h125; omega) | (clear z_26; omega) | omega)) j_134 j_135 j_136 kn_137 z_138 (hv_s g10 (by (first | (clear z_26 h125; omega) | (clear z_26; omega) | omega)) W126 rfl (by (first | (clear z_26 h125; omega) | (clear z_26; omega) | omega)) (el_n (by (first | (clear z_26 h125; omega) | (clear z_26; omega) | omega)) (fun z => lh_n (h := (K.2.2.2 (v22.toInt).toNat)) (hh_w (by (first | (clear z_26 h125; omega) | (clear z_26; omega) | omega)) (show v22.toInt = P9.1.2.1 (x3.toInt).toNat by (first | (clear z_26 h125; omega) | (clear z_26; omega) | omega)) rfl) (by (first | (clear z_26 h125; omega) | (clear z_26; omega) | omega)) ((lf_0 (by (first | (clear z_26 h125; omega) | (clear z_26; omega) | omega))).symm.trans z)))) (by (first | (clear z_26 h125; omega) | (clear z_26; omega) | omega))
          · refine to_c (pc := 186) rw_228_186 (x := (1 : Int32)) rfl rfl ?_
            refine to_go (pc := 187) rw_228_187 ?_
            refine s_zas (pc := 191) rw_228_191 hG rfl (n := 40) rfl (A := x3.toInt) rfl (by (first | (clear z_26; omega) | omega)) (by (first | (clear z_26; omega) | omega)) (B := 1) rfl (by (first | (clear z_26; omega) | omega)) (fun M140 W139 => ?_)
            have hG141 := g_w hG W139 (A := 1) rfl (lo := 0) (hi := 1) rfl rfl (by (first | (clear z_26; omega) | omega)) (by decide)
            have F142 := FR.w F0 W139 (show 117 = 117 by decide)
            refine to_go (pc := 192) rw_228_192 ?_
            refine s_inc (pc := 284) rw_228_284 (ls2 := fun v => [.ref 77, .int c, .int t, .int v, .int v22, .int v29]) rfl rfl (fun _ => rfl) (A := x3.toInt) (B := 1) rfl rfl (by (first | (clear z_26; omega) | omega)) (fun v143 e144 => ?_)
            refine to_go (pc := 287) rw_228_287 ?_
            have c_145 : M140.2.1 77 58 = (N.2.1 77 58) := (W_n W139 (fun z => absurd z.1 (by decide)) rfl)
            have t_146 : (M140.2.1 77 58).toInt = (N.2.1 77 58).toInt := congrArg Int32.toInt c_145
            have j_147 := (FA_f (fun a i z => W_n W139 (tg_206 a i _ z) rfl) g5)
            have j_148 := (PLk_f (fun a i z => W_n W139 (tg_207 a i _ z) rfl) g6)
            have j_149 := (W8_f (fun a i z => W_n W139 (tg_208 a i _ z) rfl) g7)
            have kn_150 : KST M140 96 98 97 95 ca sg K := KST_f (fun i => (W_j W139 rfl)) (fun i => (W_n W139 (by (first | (clear z_26; omega) | omega)) rfl)) (fun i => (W_n W139 (by (first | (clear z_26; omega) | omega)) rfl)) (fun i => (W_j W139 rfl)) g8
            have z_151 := LQK_f (fun r i z _ => (W_n W139 (by (first | (clear z_26; omega) | omega)) rfl)) g9
            exact ih M140 v143 (.int v22) (.int v29) hG141 F142 (by (first | (clear z_26; omega) | omega)) (by (first | (clear z_26; omega) | omega)) (by (first | (clear z_26; omega) | omega)) (by (first | (clear z_26; omega) | omega)) j_147 j_148 j_149 kn_150 z_151 (hv_s g10 (by (first | (clear z_26; omega) | omega)) W139 rfl (by (first | (clear z_26; omega) | omega)) (el_y (by (first | (clear z_26; omega) | omega)) ((lf_0 (by (first | (clear z_26; omega) | omega))).trans (lh_y (h := (K.2.2.2 (v22.toInt).toNat)) (hh_w (by (first | (clear z_26; omega) | omega)) (show v22.toInt = P9.1.2.1 (x3.toInt).toNat by (first | (clear z_26; omega) | omega)) rfl) (by (first | (clear z_26; omega) | omega)))))) (by (first | (clear z_26; omega) | omega))
        · refine to_an (pc := 140) rw_228_140 rfl ?_
          refine s_gR (pc := 141) rw_228_141 hG rfl (v := 98) rfl ?_
          refine to_in (pc := 144) rw_228_144 rfl ?_
          refine s_ial (pc := 145) rw_228_145 hG rfl (n := 30) rfl rfl (A := c.toInt) rfl (by (first | (clear z_26 h114; omega) | (clear z_26; omega) | omega)) (by (first | (clear z_26 h114; omega) | (clear z_26; omega) | omega)) (lo := -2147483648) (hi := 2147483647) rfl rfl (fun v152 w_153 _ _ => ?_)
          have z_154 : v152 = K.2.1 (c.toInt).toNat := KST_lw (K := K) g8 (by (first | (clear z_26 h114; omega) | (clear z_26; omega) | omega)) (by (first | (clear z_26 h114; omega) | (clear z_26; omega) | omega)) w_153
          refine to_i (pc := 146) rw_228_146 rfl ?_
          refine s_opE (pc := 148) rw_228_148 (w := v152 >>> v22) rfl (fun v155 e156 => ?_)
          refine to_c (pc := 149) rw_228_149 (x := (1 : Int32)) rfl rfl ?_
          refine s_and (pc := 150) rw_228_150 (B := 1) rfl (by (first | (clear z_26 h114; omega) | (clear z_26; omega) | omega)) (fun v157 e158 _ _ => ?_)
          have z_159 : x_hw K (c.toInt).toNat v22.toInt = v157.toInt := x_hw_e z_154 rfl e156 e158
          refine to_c (pc := 151) rw_228_151 (x := (1 : Int32)) rfl rfl ?_
          refine b_cne (pc := 152) rw_228_152 (A := v157.toInt) (B := 1) rfl rfl (fun h160 => ?_) (fun h160 => ?_)
          · refine to_c (pc := 159) rw_228_159 (x := (0 : Int32)) rfl rfl ?_
            refine to_go (pc := 160) rw_228_160 ?_
            refine s_zas (pc := 191) rw_228_191 hG rfl (n := 40) rfl (A := x3.toInt) rfl (by (first | (clear z_26 h114 h160; omega) | (clear z_26 h114; omega) | omega)) (by (first | (clear z_26 h114 h160; omega) | (clear z_26 h114; omega) | omega)) (B := 0) rfl (by (first | (clear z_26 h114 h160; omega) | (clear z_26 h114; omega) | omega)) (fun M162 W161 => ?_)
            have hG163 := g_w hG W161 (A := 0) rfl (lo := 0) (hi := 1) rfl rfl (by (first | (clear z_26 h114 h160; omega) | (clear z_26 h114; omega) | omega)) (by decide)
            have F164 := FR.w F0 W161 (show 117 = 117 by decide)
            refine to_go (pc := 192) rw_228_192 ?_
            refine s_inc (pc := 284) rw_228_284 (ls2 := fun v => [.ref 77, .int c, .int t, .int v, .int v22, .int v29]) rfl rfl (fun _ => rfl) (A := x3.toInt) (B := 1) rfl rfl (by (first | (clear z_26 h114 h160; omega) | (clear z_26 h114; omega) | omega)) (fun v165 e166 => ?_)
            refine to_go (pc := 287) rw_228_287 ?_
            have c_167 : M162.2.1 77 58 = (N.2.1 77 58) := (W_n W161 (fun z => absurd z.1 (by decide)) rfl)
            have t_168 : (M162.2.1 77 58).toInt = (N.2.1 77 58).toInt := congrArg Int32.toInt c_167
            have j_169 := (FA_f (fun a i z => W_n W161 (tg_206 a i _ z) rfl) g5)
            have j_170 := (PLk_f (fun a i z => W_n W161 (tg_207 a i _ z) rfl) g6)
            have j_171 := (W8_f (fun a i z => W_n W161 (tg_208 a i _ z) rfl) g7)
            have kn_172 : KST M162 96 98 97 95 ca sg K := KST_f (fun i => (W_j W161 rfl)) (fun i => (W_n W161 (by (first | (clear z_26 h114 h160; omega) | (clear z_26 h114; omega) | omega)) rfl)) (fun i => (W_n W161 (by (first | (clear z_26 h114 h160; omega) | (clear z_26 h114; omega) | omega)) rfl)) (fun i => (W_j W161 rfl)) g8
            have z_173 := LQK_f (fun r i z _ => (W_n W161 (by (first | (clear z_26 h114 h160; omega) | (clear z_26 h114; omega) | omega)) rfl)) g9
            exact ih M162 v165 (.int v22) (.int v29) hG163 F164 (by (first | (clear z_26 h114 h160; omega) | (clear z_26 h114; omega) | omega)) (by (first | (clear z_26 h114 h160; omega) | (clear z_26 h114; omega) | omega)) (by (first | (clear z_26 h114 h160; omega) | (clear z_26 h114; omega) | omega)) (by (first | (clear z_26 h114 h160; omega) | (clear z_26 h114; omega) | omega)) j_169 j_170 j_171 kn_172 z_173 (hv_s g10 (by (first | (clear z_26 h114 h160; omega) | (clear z_26 h114; omega) | omega)) W161 rfl (by (first | (clear z_26 h114 h160; omega) | (clear z_26 h114; omega) | omega)) (el_n (by (first | (clear z_26 h114 h160; omega) | (clear z_26 h114; omega) | omega)) (fun z => by have y9 := (lt_w (P := P9) (i := (x3.toInt).toNat) (by (first | (clear z_26 h114 h160; omega) | (clear z_26 h114; omega) | omega)) (show v22.toInt = P9.1.2.1 (x3.toInt).toNat by (first | (clear z_26 h114 h160; omega) | (clear z_26 h114; omega) | omega)) z_159).mp ((lf_1 (by (first | (clear z_26 h114 h160; omega) | (clear z_26 h114; omega) | omega))).symm.trans z); omega))) (by (first | (clear z_26 h114 h160; omega) | (clear z_26 h114; omega) | omega))
          · refine to_c (pc := 155) rw_228_155 (x := (1 : Int32)) rfl rfl ?_
            refine to_go (pc := 156) rw_228_156 ?_
            refine s_zas (pc := 191) rw_228_191 hG rfl (n := 40) rfl (A := x3.toInt) rfl (by (first | (clear z_26 h114; omega) | (clear z_26; omega) | omega)) (by (first | (clear z_26 h114; omega) | (clear z_26; omega) | omega)) (B := 1) rfl (by (first | (clear z_26 h114; omega) | (clear z_26; omega) | omega)) (fun M175 W174 => ?_)
            have hG176 := g_w hG W174 (A := 1) rfl (lo := 0) (hi := 1) rfl rfl (by (first | (clear z_26 h114; omega) | (clear z_26; omega) | omega)) (by decide)
            have F177 := FR.w F0 W174 (show 117 = 117 by decide)
            refine to_go (pc := 192) rw_228_192 ?_
            refine s_inc (pc := 284) rw_228_284 (ls2 := fun v => [.ref 77, .int c, .int t, .int v, .int v22, .int v29]) rfl rfl (fun _ => rfl) (A := x3.toInt) (B := 1) rfl rfl (by (first | (clear z_26 h114; omega) | (clear z_26; omega) | omega)) (fun v178 e179 => ?_)
            refine to_go (pc := 287) rw_228_287 ?_
            have c_180 : M175.2.1 77 58 = (N.2.1 77 58) := (W_n W174 (fun z => absurd z.1 (by decide)) rfl)
            have t_181 : (M175.2.1 77 58).toInt = (N.2.1 77 58).toInt := congrArg Int32.toInt c_180
            have j_182 := (FA_f (fun a i z => W_n W174 (tg_206 a i _ z) rfl) g5)
            have j_183 := (PLk_f (fun a i z => W_n W174 (tg_207 a i _ z) rfl) g6)
            have j_184 := (W8_f (fun a i z => W_n W174 (tg_208 a i _ z) rfl) g7)
            have kn_185 : KST M175 96 98 97 95 ca sg K := KST_f (fun i => (W_j W174 rfl)) (fun i => (W_n W174 (by (first | (clear z_26 h114; omega) | (clear z_26; omega) | omega)) rfl)) (fun i => (W_n W174 (by (first | (clear z_26 h114; omega) | (clear z_26; omega) | omega)) rfl)) (fun i => (W_j W174 rfl)) g8
            have z_186 := LQK_f (fun r i z _ => (W_n W174 (by (first | (clear z_26 h114; omega) | (clear z_26; omega) | omega)) rfl)) g9
            exact ih M175 v178 (.int v22) (.int v29) hG176 F177 (by (first | (clear z_26 h114; omega) | (clear z_26; omega) | omega)) (by (first | (clear z_26 h114; omega) | (clear z_26; omega) | omega)) (by (first | (clear z_26 h114; omega) | (clear z_26; omega) | omega)) (by (first | (clear z_26 h114; omega) | (clear z_26; omega) | omega)) j_182 j_183 j_184 kn_185 z_186 (hv_s g10 (by (first | (clear z_26 h114; omega) | (clear z_26; omega) | omega)) W174 rfl (by (first | (clear z_26 h114; omega) | (clear z_26; omega) | omega)) (el_y (by (first | (clear z_26 h114; omega) | (clear z_26; omega) | omega)) ((lf_1 (by (first | (clear z_26 h114; omega) | (clear z_26; omega) | omega))).trans ((lt_w (P := P9) (i := (x3.toInt).toNat) (by (first | (clear z_26 h114; omega) | (clear z_26; omega) | omega)) (show v22.toInt = P9.1.2.1 (x3.toInt).toNat by (first | (clear z_26 h114; omega) | (clear z_26; omega) | omega)) z_159).mpr (by (first | (clear z_26 h114; omega) | (clear z_26; omega) | omega)))))) (by (first | (clear z_26 h114; omega) | (clear z_26; omega) | omega))
      · refine s_sw (pc := 32) rw_228_32 (A := v32.toInt) (k := 2) (t := 195) rfl h35 (by decide) rfl ?_
        refine to_an (pc := 195) rw_228_195 rfl ?_
        refine s_gR (pc := 196) rw_228_196 hG rfl (v := 117) rfl ?_
        refine to_in (pc := 199) rw_228_199 rfl ?_
        refine to_an (pc := 200) rw_228_200 rfl ?_
        refine s_gR (pc := 201) rw_228_201 hG rfl (v := 117) rfl ?_
        refine to_i (pc := 204) rw_228_204 rfl ?_
        refine s_bal (pc := 206) rw_228_206 hG rfl (n := 40) rfl (A := v22.toInt) rfl (by (first | (clear z_26; omega) | omega)) (by (first | (clear z_26; omega) | omega)) (lo := 0) (hi := 1) rfl rfl (fun v187 w_188 _ _ => ?_)
        refine b_ine (pc := 207) rw_228_207 (A := v187.toInt) rfl (fun h189 => ?_) (fun h189 => ?_)
        · refine to_c (pc := 214) rw_228_214 (x := (0 : Int32)) rfl rfl ?_
          refine s_zas (pc := 215) rw_228_215 hG rfl (n := 40) rfl (A := x3.toInt) rfl (by (first | (clear z_26 h189; omega) | (clear z_26; omega) | omega)) (by (first | (clear z_26 h189; omega) | (clear z_26; omega) | omega)) (B := 0) rfl (by (first | (clear z_26 h189; omega) | (clear z_26; omega) | omega)) (fun M191 W190 => ?_)
          have hG192 := g_w hG W190 (A := 0) rfl (lo := 0) (hi := 1) rfl rfl (by (first | (clear z_26 h189; omega) | (clear z_26; omega) | omega)) (by decide)
          have F193 := FR.w F0 W190 (show 117 = 117 by decide)
          refine to_go (pc := 216) rw_228_216 ?_
          refine s_inc (pc := 284) rw_228_284 (ls2 := fun v => [.ref 77, .int c, .int t, .int v, .int v22, .int v29]) rfl rfl (fun _ => rfl) (A := x3.toInt) (B := 1) rfl rfl (by (first | (clear z_26 h189; omega) | (clear z_26; omega) | omega)) (fun v194 e195 => ?_)
          refine to_go (pc := 287) rw_228_287 ?_
          have c_196 : M191.2.1 77 58 = (N.2.1 77 58) := (W_n W190 (fun z => absurd z.1 (by decide)) rfl)
          have t_197 : (M191.2.1 77 58).toInt = (N.2.1 77 58).toInt := congrArg Int32.toInt c_196
          have j_198 := (FA_f (fun a i z => W_n W190 (tg_206 a i _ z) rfl) g5)
          have j_199 := (PLk_f (fun a i z => W_n W190 (tg_207 a i _ z) rfl) g6)
          have j_200 := (W8_f (fun a i z => W_n W190 (tg_208 a i _ z) rfl) g7)
          have kn_201 : KST M191 96 98 97 95 ca sg K := KST_f (fun i => (W_j W190 rfl)) (fun i => (W_n W190 (by (first | (clear z_26 h189; omega) | (clear z_26; omega) | omega)) rfl)) (fun i => (W_n W190 (by (first | (clear z_26 h189; omega) | (clear z_26; omega) | omega)) rfl)) (fun i => (W_j W190 rfl)) g8
          have z_202 := LQK_f (fun r i z _ => (W_n W190 (by (first | (clear z_26 h189; omega) | (clear z_26; omega) | omega)) rfl)) g9
          exact ih M191 v194 (.int v22) (.int v29) hG192 F193 (by (first | (clear z_26 h189; omega) | (clear z_26; omega) | omega)) (by (first | (clear z_26 h189; omega) | (clear z_26; omega) | omega)) (by (first | (clear z_26 h189; omega) | (clear z_26; omega) | omega)) (by (first | (clear z_26 h189; omega) | (clear z_26; omega) | omega)) j_198 j_199 j_200 kn_201 z_202 (hv_s g10 (by (first | (clear z_26 h189; omega) | (clear z_26; omega) | omega)) W190 rfl (by (first | (clear z_26 h189; omega) | (clear z_26; omega) | omega)) (by first | exact e2_n (by (first | (clear z_26 h189; omega) | (clear z_26; omega) | omega)) (hv_u (o := x_h1 (x_hd P9.1.1 (x3.toInt).toNat)) g10 w_188 (y := v22.toInt) rfl (by (first | (clear z_26 h189; omega) | (clear z_26; omega) | omega)) (by (first | (clear z_26 h189; omega) | (clear z_26; omega) | omega)) (by (first | (clear z_26 h189; omega) | (clear z_26; omega) | omega))) (by (first | (clear z_26 h189; omega) | (clear z_26; omega) | omega)) | exact e3_1 (by (first | (clear z_26 h189; omega) | (clear z_26; omega) | omega)) (hv_u (o := x_h2 (x_hd P9.1.1 (x3.toInt).toNat)) g10 w_188 (y := v22.toInt) rfl (by (first | (clear z_26 h189; omega) | (clear z_26; omega) | omega)) (by (first | (clear z_26 h189; omega) | (clear z_26; omega) | omega)) (by (first | (clear z_26 h189; omega) | (clear z_26; omega) | omega))) (by (first | (clear z_26 h189; omega) | (clear z_26; omega) | omega)))) (by (first | (clear z_26 h189; omega) | (clear z_26; omega) | omega))
        · refine to_c (pc := 210) rw_228_210 (x := (1 : Int32)) rfl rfl ?_
          refine to_go (pc := 211) rw_228_211 ?_
          refine s_zas (pc := 215) rw_228_215 hG rfl (n := 40) rfl (A := x3.toInt) rfl (by (first | (clear z_26; omega) | omega)) (by (first | (clear z_26; omega) | omega)) (B := 1) rfl (by (first | (clear z_26; omega) | omega)) (fun M204 W203 => ?_)
          have hG205 := g_w hG W203 (A := 1) rfl (lo := 0) (hi := 1) rfl rfl (by (first | (clear z_26; omega) | omega)) (by decide)
          have F206 := FR.w F0 W203 (show 117 = 117 by decide)
          refine to_go (pc := 216) rw_228_216 ?_
          refine s_inc (pc := 284) rw_228_284 (ls2 := fun v => [.ref 77, .int c, .int t, .int v, .int v22, .int v29]) rfl rfl (fun _ => rfl) (A := x3.toInt) (B := 1) rfl rfl (by (first | (clear z_26; omega) | omega)) (fun v207 e208 => ?_)
          refine to_go (pc := 287) rw_228_287 ?_
          have c_209 : M204.2.1 77 58 = (N.2.1 77 58) := (W_n W203 (fun z => absurd z.1 (by decide)) rfl)
          have t_210 : (M204.2.1 77 58).toInt = (N.2.1 77 58).toInt := congrArg Int32.toInt c_209
          have j_211 := (FA_f (fun a i z => W_n W203 (tg_206 a i _ z) rfl) g5)
          have j_212 := (PLk_f (fun a i z => W_n W203 (tg_207 a i _ z) rfl) g6)
          have j_213 := (W8_f (fun a i z => W_n W203 (tg_208 a i _ z) rfl) g7)
          have kn_214 : KST M204 96 98 97 95 ca sg K := KST_f (fun i => (W_j W203 rfl)) (fun i => (W_n W203 (by (first | (clear z_26; omega) | omega)) rfl)) (fun i => (W_n W203 (by (first | (clear z_26; omega) | omega)) rfl)) (fun i => (W_j W203 rfl)) g8
          have z_215 := LQK_f (fun r i z _ => (W_n W203 (by (first | (clear z_26; omega) | omega)) rfl)) g9
          exact ih M204 v207 (.int v22) (.int v29) hG205 F206 (by (first | (clear z_26; omega) | omega)) (by (first | (clear z_26; omega) | omega)) (by (first | (clear z_26; omega) | omega)) (by (first | (clear z_26; omega) | omega)) j_211 j_212 j_213 kn_214 z_215 (hv_s g10 (by (first | (clear z_26; omega) | omega)) W203 rfl (by (first | (clear z_26; omega) | omega)) (by first | exact e2_y (by (first | (clear z_26; omega) | omega)) (hv_u (o := x_h1 (x_hd P9.1.1 (x3.toInt).toNat)) g10 w_188 (y := v22.toInt) rfl (by (first | (clear z_26; omega) | omega)) (by (first | (clear z_26; omega) | omega)) (by (first | (clear z_26; omega) | omega))) (by (first | (clear z_26; omega) | omega)) | exact e4_1 (by (first | (clear z_26; omega) | omega)) (hv_u (o := x_h2 (x_hd P9.1.1 (x3.toInt).toNat)) g10 w_188 (y := v22.toInt) rfl (by (first | (clear z_26; omega) | omega)) (by (first | (clear z_26; omega) | omega)) (by (first | (clear z_26; omega) | omega))) (by (first | (clear z_26; omega) | omega)))) (by (first | (clear z_26; omega) | omega))
      · refine s_sw (pc := 32) rw_228_32 (A := v32.toInt) (k := 3) (t := 219) rfl h35 (by decide) rfl ?_
        refine to_an (pc := 219) rw_228_219 rfl ?_
        refine s_gR (pc := 220) rw_228_220 hG rfl (v := 117) rfl ?_
        refine to_in (pc := 223) rw_228_223 rfl ?_
        refine to_an (pc := 224) rw_228_224 rfl ?_
        refine s_gR (pc := 225) rw_228_225 hG rfl (v := 117) rfl ?_
        refine to_i (pc := 228) rw_228_228 rfl ?_
        refine s_bal (pc := 230) rw_228_230 hG rfl (n := 40) rfl (A := v22.toInt) rfl (by (first | (clear z_26; omega) | omega)) (by (first | (clear z_26; omega) | omega)) (lo := 0) (hi := 1) rfl rfl (fun v216 w_217 _ _ => ?_)
        refine b_ieq (pc := 231) rw_228_231 (A := v216.toInt) rfl (fun h218 => ?_) (fun h218 => ?_)
        · refine to_c (pc := 248) rw_228_248 (x := (0 : Int32)) rfl rfl ?_
          refine s_zas (pc := 249) rw_228_249 hG rfl (n := 40) rfl (A := x3.toInt) rfl (by (first | (clear z_26; omega) | omega)) (by (first | (clear z_26; omega) | omega)) (B := 0) rfl (by (first | (clear z_26; omega) | omega)) (fun M220 W219 => ?_)
          have hG221 := g_w hG W219 (A := 0) rfl (lo := 0) (hi := 1) rfl rfl (by (first | (clear z_26; omega) | omega)) (by decide)
          have F222 := FR.w F0 W219 (show 117 = 117 by decide)
          refine to_go (pc := 250) rw_228_250 ?_
          refine s_inc (pc := 284) rw_228_284 (ls2 := fun v => [.ref 77, .int c, .int t, .int v, .int v22, .int v29]) rfl rfl (fun _ => rfl) (A := x3.toInt) (B := 1) rfl rfl (by (first | (clear z_26; omega) | omega)) (fun v223 e224 => ?_)
          refine to_go (pc := 287) rw_228_287 ?_
          have c_225 : M220.2.1 77 58 = (N.2.1 77 58) := (W_n W219 (fun z => absurd z.1 (by decide)) rfl)
          have t_226 : (M220.2.1 77 58).toInt = (N.2.1 77 58).toInt := congrArg Int32.toInt c_225
          have j_227 := (FA_f (fun a i z => W_n W219 (tg_206 a i _ z) rfl) g5)
          have j_228 := (PLk_f (fun a i z => W_n W219 (tg_207 a i _ z) rfl) g6)
          have j_229 := (W8_f (fun a i z => W_n W219 (tg_208 a i _ z) rfl) g7)
          have kn_230 : KST M220 96 98 97 95 ca sg K := KST_f (fun i => (W_j W219 rfl)) (fun i => (W_n W219 (by (first | (clear z_26; omega) | omega)) rfl)) (fun i => (W_n W219 (by (first | (clear z_26; omega) | omega)) rfl)) (fun i => (W_j W219 rfl)) g8
          have z_231 := LQK_f (fun r i z _ => (W_n W219 (by (first | (clear z_26; omega) | omega)) rfl)) g9
          exact ih M220 v223 (.int v22) (.int v29) hG221 F222 (by (first | (clear z_26; omega) | omega)) (by (first | (clear z_26; omega) | omega)) (by (first | (clear z_26; omega) | omega)) (by (first | (clear z_26; omega) | omega)) j_227 j_228 j_229 kn_230 z_231 (hv_s g10 (by (first | (clear z_26; omega) | omega)) W219 rfl (by (first | (clear z_26; omega) | omega)) (by first | exact e2_n (by (first | (clear z_26; omega) | omega)) (hv_u (o := x_h1 (x_hd P9.1.1 (x3.toInt).toNat)) g10 w_217 (y := v22.toInt) rfl (by (first | (clear z_26; omega) | omega)) (by (first | (clear z_26; omega) | omega)) (by (first | (clear z_26; omega) | omega))) (by (first | (clear z_26; omega) | omega)) | exact e3_1 (by (first | (clear z_26; omega) | omega)) (hv_u (o := x_h2 (x_hd P9.1.1 (x3.toInt).toNat)) g10 w_217 (y := v22.toInt) rfl (by (first | (clear z_26; omega) | omega)) (by (first | (clear z_26; omega) | omega)) (by (first | (clear z_26; omega) | omega))) (by (first | (clear z_26; omega) | omega)))) (by (first | (clear z_26; omega) | omega))
        · refine to_an (pc := 234) rw_228_234 rfl ?_
          refine s_gR (pc := 235) rw_228_235 hG rfl (v := 117) rfl ?_
          refine to_i (pc := 238) rw_228_238 rfl ?_
          refine s_bal (pc := 240) rw_228_240 hG rfl (n := 40) rfl (A := v29.toInt) rfl (by (first | (clear z_26 h218; omega) | (clear z_26; omega) | omega)) (by (first | (clear z_26 h218; omega) | (clear z_26; omega) | omega)) (lo := 0) (hi := 1) rfl rfl (fun v232 w_233 _ _ => ?_)
          refine b_ieq (pc := 241) rw_228_241 (A := v232.toInt) rfl (fun h234 => ?_) (fun h234 => ?_)
          · refine to_c (pc := 248) rw_228_248 (x := (0 : Int32)) rfl rfl ?_
            refine s_zas (pc := 249) rw_228_249 hG rfl (n := 40) rfl (A := x3.toInt) rfl (by (first | (clear z_26 h218; omega) | (clear z_26; omega) | omega)) (by (first | (clear z_26 h218; omega) | (clear z_26; omega) | omega)) (B := 0) rfl (by (first | (clear z_26 h218; omega) | (clear z_26; omega) | omega)) (fun M236 W235 => ?_)
            have hG237 := g_w hG W235 (A := 0) rfl (lo := 0) (hi := 1) rfl rfl (by (first | (clear z_26 h218; omega) | (clear z_26; omega) | omega)) (by decide)
            have F238 := FR.w F0 W235 (show 117 = 117 by decide)
            refine to_go (pc := 250) rw_228_250 ?_
            refine s_inc (pc := 284) rw_228_284 (ls2 := fun v => [.ref 77, .int c, .int t, .int v, .int v22, .int v29]) rfl rfl (fun _ => rfl) (A := x3.toInt) (B := 1) rfl rfl (by (first | (clear z_26 h218; omega) | (clear z_26; omega) | omega)) (fun v239 e240 => ?_)
            refine to_go (pc := 287) rw_228_287 ?_
            have c_241 : M236.2.1 77 58 = (N.2.1 77 58) := (W_n W235 (fun z => absurd z.1 (by decide)) rfl)
            have t_242 : (M236.2.1 77 58).toInt = (N.2.1 77 58).toInt := congrArg Int32.toInt c_241
            have j_243 := (FA_f (fun a i z => W_n W235 (tg_206 a i _ z) rfl) g5)
            have j_244 := (PLk_f (fun a i z => W_n W235 (tg_207 a i _ z) rfl) g6)
            have j_245 := (W8_f (fun a i z => W_n W235 (tg_208 a i _ z) rfl) g7)
            have kn_246 : KST M236 96 98 97 95 ca sg K := KST_f (fun i => (W_j W235 rfl)) (fun i => (W_n W235 (by (first | (clear z_26 h218; omega) | (clear z_26; omega) | omega)) rfl)) (fun i => (W_n W235 (by (first | (clear z_26 h218; omega) | (clear z_26; omega) | omega)) rfl)) (fun i => (W_j W235 rfl)) g8
            have z_247 := LQK_f (fun r i z _ => (W_n W235 (by (first | (clear z_26 h218; omega) | (clear z_26; omega) | omega)) rfl)) g9
            exact ih M236 v239 (.int v22) (.int v29) hG237 F238 (by (first | (clear z_26 h218; omega) | (clear z_26; omega) | omega)) (by (first | (clear z_26 h218; omega) | (clear z_26; omega) | omega)) (by (first | (clear z_26 h218; omega) | (clear z_26; omega) | omega)) (by (first | (clear z_26 h218; omega) | (clear z_26; omega) | omega)) j_243 j_244 j_245 kn_246 z_247 (hv_s g10 (by (first | (clear z_26 h218; omega) | (clear z_26; omega) | omega)) W235 rfl (by (first | (clear z_26 h218; omega) | (clear z_26; omega) | omega)) (by first | exact e3_2 (by (first | (clear z_26 h218; omega) | (clear z_26; omega) | omega)) (hv_u (o := x_h1 (x_hd P9.1.1 (x3.toInt).toNat)) g10 w_233 (y := v29.toInt) rfl (by (first | (clear z_26 h218; omega) | (clear z_26; omega) | omega)) (by (first | (clear z_26 h218; omega) | (clear z_26; omega) | omega)) (by (first | (clear z_26 h218; omega) | (clear z_26; omega) | omega))) (by (first | (clear z_26 h218; omega) | (clear z_26; omega) | omega)) | exact e4_n (by (first | (clear z_26 h218; omega) | (clear z_26; omega) | omega)) (hv_u (o := x_h2 (x_hd P9.1.1 (x3.toInt).toNat)) g10 w_217 (y := v22.toInt) rfl (by (first | (clear z_26 h218; omega) | (clear z_26; omega) | omega)) (by (first | (clear z_26 h218; omega) | (clear z_26; omega) | omega)) (by (first | (clear z_26 h218; omega) | (clear z_26; omega) | omega))) (hv_u (o := x_h1 (x_hd P9.1.1 (x3.toInt).toNat)) g10 w_233 (y := v29.toInt) rfl (by (first | (clear z_26 h218; omega) | (clear z_26; omega) | omega)) (by (first | (clear z_26 h218; omega) | (clear z_26; omega) | omega)) (by (first | (clear z_26 h218; omega) | (clear z_26; omega) | omega))) (by (first | (clear z_26 h218; omega) | (clear z_26; omega) | omega)) (by (first | (clear z_26 h218; omega) | (clear z_26; omega) | omega)))) (by (first | (clear z_26 h218; omega) | (clear z_26; omega) | omega))
          · refine to_c (pc := 244) rw_228_244 (x := (1 : Int32)) rfl rfl ?_
            refine to_go (pc := 245) rw_228_245 ?_
            refine s_zas (pc := 249) rw_228_249 hG rfl (n := 40) rfl (A := x3.toInt) rfl (by (first | (clear z_26 h218 h234; omega) | (clear z_26 h218; omega) | omega)) (by (first | (clear z_26 h218 h234; omega) | (clear z_26 h218; omega) | omega)) (B := 1) rfl (by (first | (clear z_26 h218 h234; omega) | (clear z_26 h218; omega) | omega)) (fun M249 W248 => ?_)
            have hG250 := g_w hG W248 (A := 1) rfl (lo := 0) (hi := 1) rfl rfl (by (first | (clear z_26 h218 h234; omega) | (clear z_26 h218; omega) | omega)) (by decide)
            have F251 := FR.w F0 W248 (show 117 = 117 by decide)
            refine to_go (pc := 250) rw_228_250 ?_
            refine s_inc (pc := 284) rw_228_284 (ls2 := fun v => [.ref 77, .int c, .int t, .int v, .int v22, .int v29]) rfl rfl (fun _ => rfl) (A := x3.toInt) (B := 1) rfl rfl (by (first | (clear z_26 h218 h234; omega) | (clear z_26 h218; omega) | omega)) (fun v252 e253 => ?_)
            refine to_go (pc := 287) rw_228_287 ?_
            have c_254 : M249.2.1 77 58 = (N.2.1 77 58) := (W_n W248 (fun z => absurd z.1 (by decide)) rfl)
            have t_255 : (M249.2.1 77 58).toInt = (N.2.1 77 58).toInt := congrArg Int32.toInt c_254
            have j_256 := (FA_f (fun a i z => W_n W248 (tg_206 a i _ z) rfl) g5)
            have j_257 := (PLk_f (fun a i z => W_n W248 (tg_207 a i _ z) rfl) g6)
            have j_258 := (W8_f (fun a i z => W_n W248 (tg_208 a i _ z) rfl) g7)
            have kn_259 : KST M249 96 98 97 95 ca sg K := KST_f (fun i => (W_j W248 rfl)) (fun i => (W_n W248 (by (first | (clear z_26 h218 h234; omega) | (clear z_26 h218; omega) | omega)) rfl)) (fun i => (W_n W248 (by (first | (clear z_26 h218 h234; omega) | (clear z_26 h218; omega) | omega)) rfl)) (fun i => (W_j W248 rfl)) g8
            have z_260 := LQK_f (fun r i z _ => (W_n W248 (by (first | (clear z_26 h218 h234; omega) | (clear z_26 h218; omega) | omega)) rfl)) g9
            exact ih M249 v252 (.int v22) (.int v29) hG250 F251 (by (first | (clear z_26 h218 h234; omega) | (clear z_26 h218; omega) | omega)) (by (first | (clear z_26 h218 h234; omega) | (clear z_26 h218; omega) | omega)) (by (first | (clear z_26 h218 h234; omega) | (clear z_26 h218; omega) | omega)) (by (first | (clear z_26 h218 h234; omega) | (clear z_26 h218; omega) | omega)) j_256 j_257 j_258 kn_259 z_260 (hv_s g10 (by (first | (clear z_26 h218 h234; omega) | (clear z_26 h218; omega) | omega)) W248 rfl (by (first | (clear z_26 h218 h234; omega) | (clear z_26 h218; omega) | omega)) (by first | exact e3_y (by (first | (clear z_26 h218 h234; omega) | (clear z_26 h218; omega) | omega)) (hv_u (o := x_h2 (x_hd P9.1.1 (x3.toInt).toNat)) g10 w_217 (y := v22.toInt) rfl (by (first | (clear z_26 h218 h234; omega) | (clear z_26 h218; omega) | omega)) (by (first | (clear z_26 h218 h234; omega) | (clear z_26 h218; omega) | omega)) (by (first | (clear z_26 h218 h234; omega) | (clear z_26 h218; omega) | omega))) (hv_u (o := x_h1 (x_hd P9.1.1 (x3.toInt).toNat)) g10 w_233 (y := v29.toInt) rfl (by (first | (clear z_26 h218 h234; omega) | (clear z_26 h218; omega) | omega)) (by (first | (clear z_26 h218 h234; omega) | (clear z_26 h218; omega) | omega)) (by (first | (clear z_26 h218 h234; omega) | (clear z_26 h218; omega) | omega))) (by (first | (clear z_26 h218 h234; omega) | (clear z_26 h218; omega) | omega)) (by (first | (clear z_26 h218 h234; omega) | (clear z_26 h218; omega) | omega)) | exact e4_2 (by (first | (clear z_26 h218 h234; omega) | (clear z_26 h218; omega) | omega)) (hv_u (o := x_h1 (x_hd P9.1.1 (x3.toInt).toNat)) g10 w_233 (y := v29.toInt) rfl (by (first | (clear z_26 h218 h234; omega) | (clear z_26 h218; omega) | omega)) (by (first | (clear z_26 h218 h234; omega) | (clear z_26 h218; omega) | omega)) (by (first | (clear z_26 h218 h234; omega) | (clear z_26 h218; omega) | omega))) (by (first | (clear z_26 h218 h234; omega) | (clear z_26 h218; omega) | omega)))) (by (first | (clear z_26 h218 h234; omega) | (clear z_26 h218; omega) | omega))
      · refine s_swd (pc := 32) rw_228_32 (A := v32.toInt) rfl h35 ?_
        refine to_an (pc := 253) rw_228_253 rfl ?_
        refine s_gR (pc := 254) rw_228_254 hG rfl (v := 117) rfl ?_
        refine to_in (pc := 257) rw_228_257 rfl ?_
        refine to_an (pc := 258) rw_228_258 rfl ?_
        refine s_gR (pc := 259) rw_228_259 hG rfl (v := 117) rfl ?_
        refine to_i (pc := 262) rw_228_262 rfl ?_
        refine s_bal (pc := 264) rw_228_264 hG rfl (n := 40) rfl (A := v22.toInt) rfl (by (first | (clear z_26; omega) | omega)) (by (first | (clear z_26; omega) | omega)) (lo := 0) (hi := 1) rfl rfl (fun v261 w_262 _ _ => ?_)
        refine b_ine (pc := 265) rw_228_265 (A := v261.toInt) rfl (fun h263 => ?_) (fun h263 => ?_)
        · refine to_c (pc := 278) rw_228_278 (x := (1 : Int32)) rfl rfl ?_
          refine to_go (pc := 279) rw_228_279 ?_
          refine s_zas (pc := 283) rw_228_283 hG rfl (n := 40) rfl (A := x3.toInt) rfl (by (first | (clear z_26 h263; omega) | (clear z_26; omega) | omega)) (by (first | (clear z_26 h263; omega) | (clear z_26; omega) | omega)) (B := 1) rfl (by (first | (clear z_26 h263; omega) | (clear z_26; omega) | omega)) (fun M265 W264 => ?_)
          have hG266 := g_w hG W264 (A := 1) rfl (lo := 0) (hi := 1) rfl rfl (by (first | (clear z_26 h263; omega) | (clear z_26; omega) | omega)) (by decide)
          have F267 := FR.w F0 W264 (show 117 = 117 by decide)
          refine s_inc (pc := 284) rw_228_284 (ls2 := fun v => [.ref 77, .int c, .int t, .int v, .int v22, .int v29]) rfl rfl (fun _ => rfl) (A := x3.toInt) (B := 1) rfl rfl (by (first | (clear z_26 h263; omega) | (clear z_26; omega) | omega)) (fun v268 e269 => ?_)
          refine to_go (pc := 287) rw_228_287 ?_
          have c_270 : M265.2.1 77 58 = (N.2.1 77 58) := (W_n W264 (fun z => absurd z.1 (by decide)) rfl)
          have t_271 : (M265.2.1 77 58).toInt = (N.2.1 77 58).toInt := congrArg Int32.toInt c_270
          have j_272 := (FA_f (fun a i z => W_n W264 (tg_206 a i _ z) rfl) g5)
          have j_273 := (PLk_f (fun a i z => W_n W264 (tg_207 a i _ z) rfl) g6)
          have j_274 := (W8_f (fun a i z => W_n W264 (tg_208 a i _ z) rfl) g7)
          have kn_275 : KST M265 96 98 97 95 ca sg K := KST_f (fun i => (W_j W264 rfl)) (fun i => (W_n W264 (by (first | (clear z_26 h263; omega) | (clear z_26; omega) | omega)) rfl)) (fun i => (W_n W264 (by (first | (clear z_26 h263; omega) | (clear z_26; omega) | omega)) rfl)) (fun i => (W_j W264 rfl)) g8
          have z_276 := LQK_f (fun r i z _ => (W_n W264 (by (first | (clear z_26 h263; omega) | (clear z_26; omega) | omega)) rfl)) g9
          exact ih M265 v268 (.int v22) (.int v29) hG266 F267 (by (first | (clear z_26 h263; omega) | (clear z_26; omega) | omega)) (by (first | (clear z_26 h263; omega) | (clear z_26; omega) | omega)) (by (first | (clear z_26 h263; omega) | (clear z_26; omega) | omega)) (by (first | (clear z_26 h263; omega) | (clear z_26; omega) | omega)) j_272 j_273 j_274 kn_275 z_276 (hv_s g10 (by (first | (clear z_26 h263; omega) | (clear z_26; omega) | omega)) W264 rfl (by (first | (clear z_26 h263; omega) | (clear z_26; omega) | omega)) (by first | exact e2_y (by (first | (clear z_26 h263; omega) | (clear z_26; omega) | omega)) (hv_u (o := x_h1 (x_hd P9.1.1 (x3.toInt).toNat)) g10 w_262 (y := v22.toInt) rfl (by (first | (clear z_26 h263; omega) | (clear z_26; omega) | omega)) (by (first | (clear z_26 h263; omega) | (clear z_26; omega) | omega)) (by (first | (clear z_26 h263; omega) | (clear z_26; omega) | omega))) (by (first | (clear z_26 h263; omega) | (clear z_26; omega) | omega)) | exact e4_1 (by (first | (clear z_26 h263; omega) | (clear z_26; omega) | omega)) (hv_u (o := x_h2 (x_hd P9.1.1 (x3.toInt).toNat)) g10 w_262 (y := v22.toInt) rfl (by (first | (clear z_26 h263; omega) | (clear z_26; omega) | omega)) (by (first | (clear z_26 h263; omega) | (clear z_26; omega) | omega)) (by (first | (clear z_26 h263; omega) | (clear z_26; omega) | omega))) (by (first | (clear z_26 h263; omega) | (clear z_26; omega) | omega)))) (by (first | (clear z_26 h263; omega) | (clear z_26; omega) | omega))
        · refine to_an (pc := 268) rw_228_268 rfl ?_
          refine s_gR (pc := 269) rw_228_269 hG rfl (v := 117) rfl ?_
          refine to_i (pc := 272) rw_228_272 rfl ?_
          refine s_bal (pc := 274) rw_228_274 hG rfl (n := 40) rfl (A := v29.toInt) rfl (by (first | (clear z_26; omega) | omega)) (by (first | (clear z_26; omega) | omega)) (lo := 0) (hi := 1) rfl rfl (fun v277 w_278 _ _ => ?_)
          refine b_ieq (pc := 275) rw_228_275 (A := v277.toInt) rfl (fun h279 => ?_) (fun h279 => ?_)
          · refine to_c (pc := 282) rw_228_282 (x := (0 : Int32)) rfl rfl ?_
            refine s_zas (pc := 283) rw_228_283 hG rfl (n := 40) rfl (A := x3.toInt) rfl (by (first | (clear z_26; omega) | omega)) (by (first | (clear z_26; omega) | omega)) (B := 0) rfl (by (first | (clear z_26; omega) | omega)) (fun M281 W280 => ?_)
            have hG282 := g_w hG W280 (A := 0) rfl (lo := 0) (hi := 1) rfl rfl (by (first | (clear z_26; omega) | omega)) (by decide)
            have F283 := FR.w F0 W280 (show 117 = 117 by decide)
            refine s_inc (pc := 284) rw_228_284 (ls2 := fun v => [.ref 77, .int c, .int t, .int v, .int v22, .int v29]) rfl rfl (fun _ => rfl) (A := x3.toInt) (B := 1) rfl rfl (by (first | (clear z_26; omega) | omega)) (fun v284 e285 => ?_)
            refine to_go (pc := 287) rw_228_287 ?_
            have c_286 : M281.2.1 77 58 = (N.2.1 77 58) := (W_n W280 (fun z => absurd z.1 (by decide)) rfl)
            have t_287 : (M281.2.1 77 58).toInt = (N.2.1 77 58).toInt := congrArg Int32.toInt c_286
            have j_288 := (FA_f (fun a i z => W_n W280 (tg_206 a i _ z) rfl) g5)
            have j_289 := (PLk_f (fun a i z => W_n W280 (tg_207 a i _ z) rfl) g6)
            have j_290 := (W8_f (fun a i z => W_n W280 (tg_208 a i _ z) rfl) g7)
            have kn_291 : KST M281 96 98 97 95 ca sg K := KST_f (fun i => (W_j W280 rfl)) (fun i => (W_n W280 (by (first | (clear z_26; omega) | omega)) rfl)) (fun i => (W_n W280 (by (first | (clear z_26; omega) | omega)) rfl)) (fun i => (W_j W280 rfl)) g8
            have z_292 := LQK_f (fun r i z _ => (W_n W280 (by (first | (clear z_26; omega) | omega)) rfl)) g9
            exact ih M281 v284 (.int v22) (.int v29) hG282 F283 (by (first | (clear z_26; omega) | omega)) (by (first | (clear z_26; omega) | omega)) (by (first | (clear z_26; omega) | omega)) (by (first | (clear z_26; omega) | omega)) j_288 j_289 j_290 kn_291 z_292 (hv_s g10 (by (first | (clear z_26; omega) | omega)) W280 rfl (by (first | (clear z_26; omega) | omega)) (by first | exact e3_2 (by (first | (clear z_26; omega) | omega)) (hv_u (o := x_h1 (x_hd P9.1.1 (x3.toInt).toNat)) g10 w_278 (y := v29.toInt) rfl (by (first | (clear z_26; omega) | omega)) (by (first | (clear z_26; omega) | omega)) (by (first | (clear z_26; omega) | omega))) (by (first | (clear z_26; omega) | omega)) | exact e4_n (by (first | (clear z_26; omega) | omega)) (hv_u (o := x_h2 (x_hd P9.1.1 (x3.toInt).toNat)) g10 w_262 (y := v22.toInt) rfl (by (first | (clear z_26; omega) | omega)) (by (first | (clear z_26; omega) | omega)) (by (first | (clear z_26; omega) | omega))) (hv_u (o := x_h1 (x_hd P9.1.1 (x3.toInt).toNat)) g10 w_278 (y := v29.toInt) rfl (by (first | (clear z_26; omega) | omega)) (by (first | (clear z_26; omega) | omega)) (by (first | (clear z_26; omega) | omega))) (by (first | (clear z_26; omega) | omega)) (by (first | (clear z_26; omega) | omega)))) (by (first | (clear z_26; omega) | omega))
          · refine to_c (pc := 278) rw_228_278 (x := (1 : Int32)) rfl rfl ?_
            refine to_go (pc := 279) rw_228_279 ?_
            refine s_zas (pc := 283) rw_228_283 hG rfl (n := 40) rfl (A := x3.toInt) rfl (by (first | (clear z_26 h279; omega) | (clear z_26; omega) | omega)) (by (first | (clear z_26 h279; omega) | (clear z_26; omega) | omega)) (B := 1) rfl (by (first | (clear z_26 h279; omega) | (clear z_26; omega) | omega)) (fun M294 W293 => ?_)
            have hG295 := g_w hG W293 (A := 1) rfl (lo := 0) (hi := 1) rfl rfl (by (first | (clear z_26 h279; omega) | (clear z_26; omega) | omega)) (by decide)
            have F296 := FR.w F0 W293 (show 117 = 117 by decide)
            refine s_inc (pc := 284) rw_228_284 (ls2 := fun v => [.ref 77, .int c, .int t, .int v, .int v22, .int v29]) rfl rfl (fun _ => rfl) (A := x3.toInt) (B := 1) rfl rfl (by (first | (clear z_26 h279; omega) | (clear z_26; omega) | omega)) (fun v297 e298 => ?_)
            refine to_go (pc := 287) rw_228_287 ?_
            have c_299 : M294.2.1 77 58 = (N.2.1 77 58) := (W_n W293 (fun z => absurd z.1 (by decide)) rfl)
            have t_300 : (M294.2.1 77 58).toInt = (N.2.1 77 58).toInt := congrArg Int32.toInt c_299
            have j_301 := (FA_f (fun a i z => W_n W293 (tg_206 a i _ z) rfl) g5)
            have j_302 := (PLk_f (fun a i z => W_n W293 (tg_207 a i _ z) rfl) g6)
            have j_303 := (W8_f (fun a i z => W_n W293 (tg_208 a i _ z) rfl) g7)
            have kn_304 : KST M294 96 98 97 95 ca sg K := KST_f (fun i => (W_j W293 rfl)) (fun i => (W_n W293 (by (first | (clear z_26 h279; omega) | (clear z_26; omega) | omega)) rfl)) (fun i => (W_n W293 (by (first | (clear z_26 h279; omega) | (clear z_26; omega) | omega)) rfl)) (fun i => (W_j W293 rfl)) g8
            have z_305 := LQK_f (fun r i z _ => (W_n W293 (by (first | (clear z_26 h279; omega) | (clear z_26; omega) | omega)) rfl)) g9
            exact ih M294 v297 (.int v22) (.int v29) hG295 F296 (by (first | (clear z_26 h279; omega) | (clear z_26; omega) | omega)) (by (first | (clear z_26 h279; omega) | (clear z_26; omega) | omega)) (by (first | (clear z_26 h279; omega) | (clear z_26; omega) | omega)) (by (first | (clear z_26 h279; omega) | (clear z_26; omega) | omega)) j_301 j_302 j_303 kn_304 z_305 (hv_s g10 (by (first | (clear z_26 h279; omega) | (clear z_26; omega) | omega)) W293 rfl (by (first | (clear z_26 h279; omega) | (clear z_26; omega) | omega)) (by first | exact e3_y (by (first | (clear z_26 h279; omega) | (clear z_26; omega) | omega)) (hv_u (o := x_h2 (x_hd P9.1.1 (x3.toInt).toNat)) g10 w_262 (y := v22.toInt) rfl (by (first | (clear z_26 h279; omega) | (clear z_26; omega) | omega)) (by (first | (clear z_26 h279; omega) | (clear z_26; omega) | omega)) (by (first | (clear z_26 h279; omega) | (clear z_26; omega) | omega))) (hv_u (o := x_h1 (x_hd P9.1.1 (x3.toInt).toNat)) g10 w_278 (y := v29.toInt) rfl (by (first | (clear z_26 h279; omega) | (clear z_26; omega) | omega)) (by (first | (clear z_26 h279; omega) | (clear z_26; omega) | omega)) (by (first | (clear z_26 h279; omega) | (clear z_26; omega) | omega))) (by (first | (clear z_26 h279; omega) | (clear z_26; omega) | omega)) (by (first | (clear z_26 h279; omega) | (clear z_26; omega) | omega)) | exact e4_2 (by (first | (clear z_26 h279; omega) | (clear z_26; omega) | omega)) (hv_u (o := x_h1 (x_hd P9.1.1 (x3.toInt).toNat)) g10 w_278 (y := v29.toInt) rfl (by (first | (clear z_26 h279; omega) | (clear z_26; omega) | omega)) (by (first | (clear z_26 h279; omega) | (clear z_26; omega) | omega)) (by (first | (clear z_26 h279; omega) | (clear z_26; omega) | omega))) (by (first | (clear z_26 h279; omega) | (clear z_26; omega) | omega)))) (by (first | (clear z_26 h279; omega) | (clear z_26; omega) | omega))
set_option maxRecDepth 4000 in
set_option maxHeartbeats 0 in
theorem E_228 {X : mm_X} {d : Nat} {M : mm_M} {Q : Option Value → mm_M → Prop} {c : Int32} {t : Int32} {sg : x_S} {ca : Int} {K : x_Kn} {P9 : x_GP} (hX : g_X X) (hd : 1 ≤ d) (hG : g_G M) (q1 : 0 ≤ c.toInt) (q2 : c.toInt ≤ 29) (q3 : c.toInt < ca) (q4 : ca ≤ 30) (q5 : 0 ≤ t.toInt) (q6 : t.toInt ≤ 1) (q7 : (M.2.1 77 58).toInt = P9.2) (q8 : 1 ≤ P9.2) (q9 : P9.2 ≤ 40) (q10 : FA M) (q11 : PLk M sg) (q12 : W8 M) (q13 : KST M 96 98 97 95 ca sg K) (q14 : LQK 0 M P9) (q15 : WFP sg P9 1) (h : ∀ (r : Int32) (M1 : mm_M), g_G M1 → FR md_an M M1 → (0 ≤ r.toInt) → (r.toInt ≤ 1) → ((r.toInt = 1 ↔ x_ev P9.1.1 (x_lf9 sg K P9 t.toInt (c.toInt).toNat) P9.2.toNat (P9.2.toNat - 1) = true)) → Q (some (.int r)) M1) : mm_T X d 227 0 [.ref 77, .int c, .int t, .null, .null, .null] [] M Q := by
  have F0 : FR md_an M M := FR.rf
  have b_306 := g_b hG (a := 77) (i := 58) (lo := 0) (hi := 40) rfl rfl
  have z_307 := q11.2.1
  have z_308 := q11.2.2.1
  have z_309 := q11.2.2.2.1
  have z_310 := q11.1
  have z_311 := z_310.1
  have z_312 := z_310.2.1
  have z_313 := z_310.2.2.1
  have z_314 := z_310.2.2.2.1
  have z_315 := z_310.2.2.2.2.1
  have z_316 := z_310.2.2.2.2.2.1
  have b_317 := g_b hG (a := 77) (i := 11) (lo := 10) (hi := 60) rfl rfl
  have b_318 := g_b hG (a := 77) (i := 12) (lo := 0) (hi := 8) rfl rfl
  have b_319 := g_b hG (a := 77) (i := 13) (lo := 0) (hi := 12) rfl rfl
  refine to_c (pc := 0) rw_228_0 (x := (0 : Int32)) rfl rfl ?_
  refine to_isn (pc := 1) rw_228_1 (ls2 := [.ref 77, .int c, .int t, .int (0 : Int32), .null, .null]) rfl rfl ?_
  have k_320 : (0 : Int32).toInt = 0 := rfl
  exact (U_228_0 (c := c) (t := t) (sg := sg) (ca := ca) (K := K) (P9 := P9) hX hd q1 q2 q3 q4 q5 q6 q7 q8 q9 q10 q11 q12 q13 q14 q15 h ((40 - (0 : Int32).toInt).toNat + 1)) M (0 : Int32) (.null) (.null) hG F0 (by omega) (by omega) (by omega) (by omega) q10 q11 q12 q13 q14 (hv_0 (by omega)) (by omega)
set_option maxRecDepth 4000 in
set_option maxHeartbeats 0 in
theorem U_229_0 {X : mm_X} {d : Nat} {M : mm_M} {Q : Option Value → mm_M → Prop} {n : Int32} {w : Int32} {sg : x_S} {NN : x_N} {nz : Int} {ca : Int} {P9 : x_GP} (hX : g_X X) (hd : 3 ≤ d) (q1 : x_vn sg ca NN nz) (q2 : ca ≤ 30) (q3 : (M.2.1 77 29).toInt = nz) (q4 : (M.2.1 77 28).toInt = ca) (q5 : CWk M sg) (q6 : FA M) (q7 : PLk M sg) (q8 : W8 M) (q9 : NTr M NN nz) (q10 : (M.2.1 77 58).toInt = P9.2) (q11 : 0 ≤ P9.2) (q12 : P9.2 ≤ 40) (q13 : (M.2.1 77 57).toInt = 0 ∧ P9.2 = 0 ∨ (M.2.1 77 57).toInt = 1 ∧ 0 < P9.2) (q14 : P9.2 = 0 ∨ LQK 0 M P9 ∧ WFP sg P9 1) (h : ∀ (r : Int32) (M1 : mm_M), g_G M1 → FR md_as M M1 → (r = x_ask sg NN nz ca n.toInt w.toInt P9) → Q (some (.int r)) M1) : ∀ nn9 : Nat, (∀ (N : mm_M) (u1 : Value) (x3 : Int32) (x4 : Int32) (x5 : Int32), g_G N → FR md_as M N → (0 ≤ x5.toInt) → (x5.toInt ≤ 30) → (x5.toInt ≤ ca) → (ca ≤ 30) → (0 ≤ n.toInt) → (n.toInt ≤ nz) → (0 ≤ w.toInt) → (w.toInt ≤ 3) → ((N.2.1 77 28).toInt = ca) → ((N.2.1 77 58).toInt = P9.2) → (1 ≤ P9.2) → (P9.2 ≤ 40) → (FA N) → (PLk N sg) → (W8 N) → (KST N 96 98 97 95 ca sg (x_kn sg NN (n.toInt).toNat)) → (LQK 0 N P9) → (WFP sg P9 1) → (x3 = x_btq (fun c9 => x_ev P9.1.1 (x_lf9 sg (x_kn sg NN (n.toInt).toNat) P9 0 c9) P9.2.toNat (P9.2.toNat - 1)) (x5.toInt).toNat) → (x4 = x_btq (fun c9 => x_ev P9.1.1 (x_lf9 sg (x_kn sg NN (n.toInt).toNat) P9 1 c9) P9.2.toNat (P9.2.toNat - 1)) (x5.toInt).toNat) → 30 - x5.toInt < (nn9 : Int) → mm_T X d 228 44 [.ref 77, u1, .int w, .int x3, .int x4, .int x5] [] N Q) := by
  intro nn9
  induction nn9 with
  | zero =>
    intro N u1 x3 x4 x5 hG F0 g1 g2 g3 g4 g5 g6 g7 g8 g9 g10 g11 g12 g13 g14 g15 g16 g17 g18 g19 g20 hm
    have b_1 := g_b hG (a := 77) (i := 28) (lo := 0) (hi := 30) rfl rfl
    have b_2 := g_b hG (a := 77) (i := 58) (lo := 0) (hi := 40) rfl rfl
    exfalso; omega
  | succ nn9 ih =>
    intro N u1 x3 x4 x5 hG F0 g1 g2 g3 g4 g5 g6 g7 g8 g9 g10 g11 g12 g13 g14 g15 g16 g17 g18 g19 g20 hm
    have b_3 := g_b hG (a := 77) (i := 28) (lo := 0) (hi := 30) rfl rfl
    have b_4 := g_b hG (a := 77) (i := 58) (lo := 0) (hi := 40) rfl rfl
    have z_5 := g14.2.1
    have z_6 := g14.2.2.1
    have z_7 := g14.2.2.2.1
    have z_8 := g14.1
    have z_9 := z_8.1
    have z_10 := z_8.2.1
    have z_11 := z_8.2.2.1
    have z_12 := z_8.2.2.2.1
    have z_13 := z_8.2.2.2.2.1
    have z_14 := z_8.2.2.2.2.2.1
    have b_15 := g_b hG (a := 77) (i := 11) (lo := 10) (hi := 60) rfl rfl
    have b_16 := g_b hG (a := 77) (i := 12) (lo := 0) (hi := 8) rfl rfl
    have b_17 := g_b hG (a := 77) (i := 13) (lo := 0) (hi := 12) rfl rfl
    refine to_i (pc := 44) rw_229_44 rfl ?_
    refine to_an (pc := 46) rw_229_46 rfl ?_
    refine tt_gI (pc := 47) rw_229_47 (g_o hG rfl) (v := (N.2.1 77 28)) rfl ?_
    refine b_cge (pc := 50) rw_229_50 (A := x5.toInt) (B := (N.2.1 77 28).toInt) rfl rfl (fun h18 => ?_) (fun h18 => ?_)
    · refine to_in (pc := 103) rw_229_103 rfl ?_
      refine b_ine (pc := 104) rw_229_104 (A := w.toInt) rfl (fun h19 => ?_) (fun h19 => ?_)
      · refine to_in (pc := 111) rw_229_111 rfl ?_
        refine to_c (pc := 112) rw_229_112 (x := (1 : Int32)) rfl rfl ?_
        refine b_cne (pc := 113) rw_229_113 (A := w.toInt) (B := 1) rfl rfl (fun h20 => ?_) (fun h20 => ?_)
        · refine to_in (pc := 121) rw_229_121 rfl ?_
          refine to_c (pc := 122) rw_229_122 (x := (2 : Int32)) rfl rfl ?_
          refine b_cne (pc := 123) rw_229_123 (A := w.toInt) (B := 2) rfl rfl (fun h21 => ?_) (fun h21 => ?_)
          · refine to_i (pc := 135) rw_229_135 rfl ?_
            refine to_in (pc := 137) rw_229_137 rfl ?_
            refine to_c (pc := 138) rw_229_138 (x := (-1 : Int32)) rfl rfl ?_
            refine s_opE (pc := 139) rw_229_139 (w := x3 ^^^ (-1 : Int32)) rfl (fun v22 e23 => ?_)
            refine s_opE (pc := 140) rw_229_140 (w := x4 &&& v22) rfl (fun v24 e25 => ?_)
            refine to_r0 (pc := 141) rw_229_141 ?_
            exact h v24 N hG F0 (x_ask_y ⟨⟨by (first | (clear q13 q14 h19 h20 h21; omega) | (clear q13 q14 h19 h20; omega) | omega), by (first | (clear q13 q14 h19 h20 h21; omega) | (clear q13 q14 h19 h20; omega) | omega)⟩, ⟨by (first | (clear q13 q14 h19 h20 h21; omega) | (clear q13 q14 h19 h20; omega) | omega), by (first | (clear q13 q14 h19 h20 h21; omega) | (clear q13 q14 h19 h20; omega) | omega)⟩, by (first | (clear q13 q14 h19 h20 h21; omega) | (clear q13 q14 h19 h20; omega) | omega)⟩ (ans_b g19 (by (first | (clear q13 q14 h19 h20 h21; omega) | (clear q13 q14 h19 h20; omega) | omega))) (ans_b g20 (by (first | (clear q13 q14 h19 h20 h21; omega) | (clear q13 q14 h19 h20; omega) | omega))) (by first | exact av_2 (by (first | (clear q13 q14 h19 h20 h21; omega) | (clear q13 q14 h19 h20; omega) | omega)) (by rw [e23]; exact e25.symm) | exact av_3 (by (first | (clear q13 q14 h19 h20 h21; omega) | (clear q13 q14 h19 h20; omega) | omega)) (by rw [e23]; exact e25.symm)))
          · refine to_in (pc := 126) rw_229_126 rfl ?_
            refine to_i (pc := 127) rw_229_127 rfl ?_
            refine to_c (pc := 129) rw_229_129 (x := (-1 : Int32)) rfl rfl ?_
            refine s_opE (pc := 130) rw_229_130 (w := x4 ^^^ (-1 : Int32)) rfl (fun v26 e27 => ?_)
            refine s_opE (pc := 131) rw_229_131 (w := x3 &&& v26) rfl (fun v28 e29 => ?_)
            refine to_go (pc := 132) rw_229_132 ?_
            refine to_r0 (pc := 141) rw_229_141 ?_
            exact h v28 N hG F0 (x_ask_y ⟨⟨by (first | (clear q13 q14 h19 h20; omega) | (clear q13 q14 h19; omega) | omega), by (first | (clear q13 q14 h19 h20; omega) | (clear q13 q14 h19; omega) | omega)⟩, ⟨by (first | (clear q13 q14 h19 h20; omega) | (clear q13 q14 h19; omega) | omega), by (first | (clear q13 q14 h19 h20; omega) | (clear q13 q14 h19; omega) | omega)⟩, by (first | (clear q13 q14 h19 h20; omega) | (clear q13 q14 h19; omega) | omega)⟩ (ans_b g19 (by (first | (clear q13 q14 h19 h20; omega) | (clear q13 q14 h19; omega) | omega))) (ans_b g20 (by (first | (clear q13 q14 h19 h20; omega) | (clear q13 q14 h19; omega) | omega))) (by first | exact av_2 (by (first | (clear q13 q14 h19 h20; omega) | (clear q13 q14 h19; omega) | omega)) (by rw [e27]; exact e29.symm) | exact av_3 (by (first | (clear q13 q14 h19 h20; omega) | (clear q13 q14 h19; omega) | omega)) (by rw [e27]; exact e29.symm)))
        · refine to_i (pc := 116) rw_229_116 rfl ?_
          refine to_go (pc := 118) rw_229_118 ?_
          refine to_r0 (pc := 141) rw_229_141 ?_
          exact h x4 N hG F0 (x_ask_y ⟨⟨by (first | (clear q13 q14 h19; omega) | (clear q13 q14; omega) | omega), by (first | (clear q13 q14 h19; omega) | (clear q13 q14; omega) | omega)⟩, ⟨by (first | (clear q13 q14 h19; omega) | (clear q13 q14; omega) | omega), by (first | (clear q13 q14 h19; omega) | (clear q13 q14; omega) | omega)⟩, by (first | (clear q13 q14 h19; omega) | (clear q13 q14; omega) | omega)⟩ (ans_b g19 (by (first | (clear q13 q14 h19; omega) | (clear q13 q14; omega) | omega))) (ans_b g20 (by (first | (clear q13 q14 h19; omega) | (clear q13 q14; omega) | omega))) (by first | exact av_0 (by (first | (clear q13 q14 h19; omega) | (clear q13 q14; omega) | omega)) rfl | exact av_1 (by (first | (clear q13 q14 h19; omega) | (clear q13 q14; omega) | omega)) rfl))
      · refine to_in (pc := 107) rw_229_107 rfl ?_
        refine to_go (pc := 108) rw_229_108 ?_
        refine to_r0 (pc := 141) rw_229_141 ?_
        exact h x3 N hG F0 (x_ask_y ⟨⟨by (first | (clear q13 q14; omega) | omega), by (first | (clear q13 q14; omega) | omega)⟩, ⟨by (first | (clear q13 q14; omega) | omega), by (first | (clear q13 q14; omega) | omega)⟩, by (first | (clear q13 q14; omega) | omega)⟩ (ans_b g19 (by (first | (clear q13 q14; omega) | omega))) (ans_b g20 (by (first | (clear q13 q14; omega) | omega))) (by first | exact av_0 (by (first | (clear q13 q14; omega) | omega)) rfl | exact av_1 (by (first | (clear q13 q14; omega) | omega)) rfl))
    · refine to_in (pc := 53) rw_229_53 rfl ?_
      refine to_an (pc := 54) rw_229_54 rfl ?_
      refine to_i (pc := 55) rw_229_55 rfl ?_
      refine to_c (pc := 57) rw_229_57 (x := (0 : Int32)) rfl rfl ?_
      refine s_v (pc := 58) rw_229_58 (dp0 hd (by decide)) (ls0 := [.ref 77, .int x5, .int (0 : Int32), .null, .null, .null]) rfl (Nat.le_of_ble_eq_true rfl) (Nat.le_of_ble_eq_true rfl) rfl (to_rc rfl rfl rfl (g_o hG rfl)) rfl ?_
      have k_30 : (0 : Int32).toInt = 0 := rfl
      refine E_228 hX (dp1 hd (by decide)) hG (by (first | (clear q13 q14; omega) | omega)) (by (first | (clear q13 q14; omega) | omega)) (by (first | (clear q13 q14; omega) | omega)) (by (first | (clear q13 q14; omega) | omega)) (by (first | (clear q13 q14; omega) | omega)) (by (first | (clear q13 q14; omega) | omega)) (by (first | (clear q13 q14; omega) | omega)) (by (first | (clear q13 q14; omega) | omega)) (by (first | (clear q13 q14; omega) | omega)) g13 g14 g15 g16 g17 g18 (c := x5) (t := (0 : Int32)) (sg := sg) (ca := ca) (K := (x_kn sg NN (n.toInt).toNat)) (P9 := P9) (fun r31 M37 hG33 F32 p_34 p_35 p_36 => ?_)
      have F38 := FR.c F0 F32 tg_204
      refine b_ieq (pc := 61) rw_229_61 (A := r31.toInt) rfl (fun h39 => ?_) (fun h39 => ?_)
      · refine to_c (pc := 71) rw_229_71 (x := (0 : Int32)) rfl rfl ?_
        refine s_opE (pc := 72) rw_229_72 (w := x3 ||| (0 : Int32)) rfl (fun v40 e41 => ?_)
        refine to_isn (pc := 73) rw_229_73 (ls2 := [.ref 77, u1, .int w, .int v40, .int x4, .int x5]) rfl rfl ?_
        refine to_i (pc := 74) rw_229_74 rfl ?_
        refine to_an (pc := 76) rw_229_76 rfl ?_
        refine to_i (pc := 77) rw_229_77 rfl ?_
        refine to_c (pc := 79) rw_229_79 (x := (1 : Int32)) rfl rfl ?_
        refine s_v (pc := 80) rw_229_80 (dp0 hd (by decide)) (ls0 := [.ref 77, .int x5, .int (1 : Int32), .null, .null, .null]) rfl (Nat.le_of_ble_eq_true rfl) (Nat.le_of_ble_eq_true rfl) rfl (to_rc rfl rfl rfl (g_o hG33 rfl)) rfl ?_
        have k_42 : (1 : Int32).toInt = 1 := rfl
        have c_43 : M37.2.1 77 58 = (N.2.1 77 58) := (F_n F32 (show ¬ (77 = 117) by decide) rfl)
        have t_44 : (M37.2.1 77 58).toInt = (N.2.1 77 58).toInt := congrArg Int32.toInt c_43
        have j_45 := (FA_f (tg_198 F32) g13)
        have j_46 := (PLk_f (tg_199 F32) g14)
        have j_47 := (W8_f (tg_200 F32) g15)
        have kn_48 : KST M37 96 98 97 95 ca sg (x_kn sg NN (n.toInt).toNat) := KST_f (fun i => (F_nl F32 (show ¬ (96 = 117) by decide) rfl)) (fun i => (F_n F32 (show ¬ (98 = 117) by decide) rfl)) (fun i => (F_n F32 (show ¬ (97 = 117) by decide) rfl)) (fun i => (F_nl F32 (show ¬ (95 = 117) by decide) rfl)) g16
        have z_49 := LQK_f (fun r i z _ => (F_n F32 (show ¬ (r = 117) by (first | (clear q13 q14; omega) | omega)) rfl)) g17
        refine E_228 hX (dp1 hd (by decide)) hG33 (by (first | (clear q13 q14; omega) | omega)) (by (first | (clear q13 q14; omega) | omega)) (by (first | (clear q13 q14; omega) | omega)) (by (first | (clear q13 q14; omega) | omega)) (by (first | (clear q13 q14; omega) | omega)) (by (first | (clear q13 q14; omega) | omega)) (by (first | (clear q13 q14; omega) | omega)) (by (first | (clear q13 q14; omega) | omega)) (by (first | (clear q13 q14; omega) | omega)) j_45 j_46 j_47 kn_48 z_49 g18 (c := x5) (t := (1 : Int32)) (sg := sg) (ca := ca) (K := (x_kn sg NN (n.toInt).toNat)) (P9 := P9) (fun r50 M56 hG52 F51 p_53 p_54 p_55 => ?_)
        have F57 := FR.c F38 F51 tg_204
        refine b_ieq (pc := 83) rw_229_83 (A := r50.toInt) rfl (fun h58 => ?_) (fun h58 => ?_)
        · refine to_c (pc := 93) rw_229_93 (x := (0 : Int32)) rfl rfl ?_
          refine s_opE (pc := 94) rw_229_94 (w := x4 ||| (0 : Int32)) rfl (fun v59 e60 => ?_)
          refine to_is (pc := 95) rw_229_95 (ls2 := [.ref 77, u1, .int w, .int v40, .int v59, .int x5]) rfl rfl ?_
          refine s_inc (pc := 97) rw_229_97 (ls2 := fun v => [.ref 77, u1, .int w, .int v40, .int v59, .int v]) rfl rfl (fun _ => rfl) (A := x5.toInt) (B := 1) rfl rfl (by (first | (clear q13 q14; omega) | omega)) (fun v61 e62 => ?_)
          refine to_go (pc := 100) rw_229_100 ?_
          have c_63 : M56.2.1 77 28 = (N.2.1 77 28) := (F_n F51 (show ¬ (77 = 117) by decide) (F_n F32 (show ¬ (77 = 117) by decide) rfl))
          have t_64 : (M56.2.1 77 28).toInt = (N.2.1 77 28).toInt := congrArg Int32.toInt c_63
          have c_65 : M56.2.1 77 58 = (N.2.1 77 58) := (F_n F51 (show ¬ (77 = 117) by decide) c_43)
          have t_66 : (M56.2.1 77 58).toInt = (N.2.1 77 58).toInt := congrArg Int32.toInt c_65
          have j_67 := (FA_f (tg_198 F51) j_45)
          have j_68 := (PLk_f (tg_199 F51) j_46)
          have j_69 := (W8_f (tg_200 F51) j_47)
          have kn_70 : KST M56 96 98 97 95 ca sg (x_kn sg NN (n.toInt).toNat) := KST_f (fun i => (F_nl F51 (show ¬ (96 = 117) by decide) rfl)) (fun i => (F_n F51 (show ¬ (98 = 117) by decide) rfl)) (fun i => (F_n F51 (show ¬ (97 = 117) by decide) rfl)) (fun i => (F_nl F51 (show ¬ (95 = 117) by decide) rfl)) kn_48
          have z_71 := LQK_f (fun r i z _ => (F_n F51 (show ¬ (r = 117) by (first | (clear q13 q14; omega) | omega)) rfl)) z_49
          exact ih M56 (u1) v40 v59 v61 hG52 F57 (by (first | (clear q13 q14; omega) | omega)) (by (first | (clear q13 q14; omega) | omega)) (by (first | (clear q13 q14; omega) | omega)) (by (first | (clear q13 q14; omega) | omega)) (by (first | (clear q13 q14; omega) | omega)) (by (first | (clear q13 q14; omega) | omega)) (by (first | (clear q13 q14; omega) | omega)) (by (first | (clear q13 q14; omega) | omega)) (by (first | (clear q13 q14; omega) | omega)) (by (first | (clear q13 q14; omega) | omega)) (by (first | (clear q13 q14; omega) | omega)) (by (first | (clear q13 q14; omega) | omega)) j_67 j_68 j_69 kn_70 z_71 g18 (x_btq_s (f := (fun c9 => x_ev P9.1.1 (x_lf9 sg (x_kn sg NN (n.toInt).toNat) P9 0 c9) P9.2.toNat (P9.2.toNat - 1))) g19 (by (first | (clear q13 q14; omega) | omega)) (by (first | (clear q13 q14; omega) | omega)) (x_btq_z (f := (fun c9 => x_ev P9.1.1 (x_lf9 sg (x_kn sg NN (n.toInt).toNat) P9 0 c9) P9.2.toNat (P9.2.toNat - 1))) (fun z => by have y9 := p_36.mpr z; omega) rfl e41)) (x_btq_s (f := (fun c9 => x_ev P9.1.1 (x_lf9 sg (x_kn sg NN (n.toInt).toNat) P9 1 c9) P9.2.toNat (P9.2.toNat - 1))) g20 (by (first | (clear q13 q14; omega) | omega)) (by (first | (clear q13 q14; omega) | omega)) (x_btq_z (f := (fun c9 => x_ev P9.1.1 (x_lf9 sg (x_kn sg NN (n.toInt).toNat) P9 1 c9) P9.2.toNat (P9.2.toNat - 1))) (fun z => by have y9 := p_55.mpr z; omega) rfl e60)) (by (first | (clear q13 q14; omega) | omega))
        · refine to_c (pc := 86) rw_229_86 (x := (1 : Int32)) rfl rfl ?_
          refine to_i (pc := 87) rw_229_87 rfl ?_
          refine s_opE (pc := 89) rw_229_89 (w := (1 : Int32) <<< x5) rfl (fun v72 e73 => ?_)
          refine to_go (pc := 90) rw_229_90 ?_
          refine s_opE (pc := 94) rw_229_94 (w := x4 ||| v72) rfl (fun v74 e75 => ?_)
          refine to_is (pc := 95) rw_229_95 (ls2 := [.ref 77, u1, .int w, .int v40, .int v74, .int x5]) rfl rfl ?_
          refine s_inc (pc := 97) rw_229_97 (ls2 := fun v => [.ref 77, u1, .int w, .int v40, .int v74, .int v]) rfl rfl (fun _ => rfl) (A := x5.toInt) (B := 1) rfl rfl (by (first | (clear q13 q14 h58; omega) | (clear q13 q14; omega) | omega)) (fun v76 e77 => ?_)
          refine to_go (pc := 100) rw_229_100 ?_
          have c_78 : M56.2.1 77 28 = (N.2.1 77 28) := (F_n F51 (show ¬ (77 = 117) by decide) (F_n F32 (show ¬ (77 = 117) by decide) rfl))
          have t_79 : (M56.2.1 77 28).toInt = (N.2.1 77 28).toInt := congrArg Int32.toInt c_78
          have c_80 : M56.2.1 77 58 = (N.2.1 77 58) := (F_n F51 (show ¬ (77 = 117) by decide) c_43)
          have t_81 : (M56.2.1 77 58).toInt = (N.2.1 77 58).toInt := congrArg Int32.toInt c_80
          have j_82 := (FA_f (tg_198 F51) j_45)
          have j_83 := (PLk_f (tg_199 F51) j_46)
          have j_84 := (W8_f (tg_200 F51) j_47)
          have kn_85 : KST M56 96 98 97 95 ca sg (x_kn sg NN (n.toInt).toNat) := KST_f (fun i => (F_nl F51 (show ¬ (96 = 117) by decide) rfl)) (fun i => (F_n F51 (show ¬ (98 = 117) by decide) rfl)) (fun i => (F_n F51 (show ¬ (97 = 117) by decide) rfl)) (fun i => (F_nl F51 (show ¬ (95 = 117) by decide) rfl)) kn_48
          have z_86 := LQK_f (fun r i z _ => (F_n F51 (show ¬ (r = 117) by (first | (clear q13 q14 h58; omega) | (clear q13 q14; omega) | omega)) rfl)) z_49
          exact ih M56 (u1) v40 v74 v76 hG52 F57 (by (first | (clear q13 q14 h58; omega) | (clear q13 q14; omega) | omega)) (by (first | (clear q13 q14 h58; omega) | (clear q13 q14; omega) | omega)) (by (first | (clear q13 q14 h58; omega) | (clear q13 q14; omega) | omega)) (by (first | (clear q13 q14 h58; omega) | (clear q13 q14; omega) | omega)) (by (first | (clear q13 q14 h58; omega) | (clear q13 q14; omega) | omega)) (by (first | (clear q13 q14 h58; omega) | (clear q13 q14; omega) | omega)) (by (first | (clear q13 q14 h58; omega) | (clear q13 q14; omega) | omega)) (by (first | (clear q13 q14 h58; omega) | (clear q13 q14; omega) | omega)) (by (first | (clear q13 q14 h58; omega) | (clear q13 q14; omega) | omega)) (by (first | (clear q13 q14 h58; omega) | (clear q13 q14; omega) | omega)) (by (first | (clear q13 q14 h58; omega) | (clear q13 q14; omega) | omega)) (by (first | (clear q13 q14 h58; omega) | (clear q13 q14; omega) | omega)) j_82 j_83 j_84 kn_85 z_86 g18 (x_btq_s (f := (fun c9 => x_ev P9.1.1 (x_lf9 sg (x_kn sg NN (n.toInt).toNat) P9 0 c9) P9.2.toNat (P9.2.toNat - 1))) g19 (by (first | (clear q13 q14 h58; omega) | (clear q13 q14; omega) | omega)) (by (first | (clear q13 q14 h58; omega) | (clear q13 q14; omega) | omega)) (x_btq_z (f := (fun c9 => x_ev P9.1.1 (x_lf9 sg (x_kn sg NN (n.toInt).toNat) P9 0 c9) P9.2.toNat (P9.2.toNat - 1))) (fun z => by have y9 := p_36.mpr z; omega) rfl e41)) (x_btq_s (f := (fun c9 => x_ev P9.1.1 (x_lf9 sg (x_kn sg NN (n.toInt).toNat) P9 1 c9) P9.2.toNat (P9.2.toNat - 1))) g20 (by (first | (clear q13 q14 h58; omega) | (clear q13 q14; omega) | omega)) (by (first | (clear q13 q14 h58; omega) | (clear q13 q14; omega) | omega)) (x_btq_y (f := (fun c9 => x_ev P9.1.1 (x_lf9 sg (x_kn sg NN (n.toInt).toNat) P9 1 c9) P9.2.toNat (P9.2.toNat - 1))) (by (first | (clear q13 q14 h58; omega) | (clear q13 q14; omega) | omega)) (p_55.mp (by (first | (clear q13 q14 h58; omega) | (clear q13 q14; omega) | omega))) e73 rfl e75)) (by (first | (clear q13 q14 h58; omega) | (clear q13 q14; omega) | omega))
      · refine to_c (pc := 64) rw_229_64 (x := (1 : Int32)) rfl rfl ?_
        refine to_i (pc := 65) rw_229_65 rfl ?_
        refine s_opE (pc := 67) rw_229_67 (w := (1 : Int32) <<< x5) rfl (fun v87 e88 => ?_)
        refine to_go (pc := 68) rw_229_68 ?_
        refine s_opE (pc := 72) rw_229_72 (w := x3 ||| v87) rfl (fun v89 e90 => ?_)
        refine to_isn (pc := 73) rw_229_73 (ls2 := [.ref 77, u1, .int w, .int v89, .int x4, .int x5]) rfl rfl ?_
        refine to_i (pc := 74) rw_229_74 rfl ?_
        refine to_an (pc := 76) rw_229_76 rfl ?_
        refine to_i (pc := 77) rw_229_77 rfl ?_
        refine to_c (pc := 79) rw_229_79 (x := (1 : Int32)) rfl rfl ?_
        refine s_v (pc := 80) rw_229_80 (dp0 hd (by decide)) (ls0 := [.ref 77, .int x5, .int (1 : Int32), .null, .null, .null]) rfl (Nat.le_of_ble_eq_true rfl) (Nat.le_of_ble_eq_true rfl) rfl (to_rc rfl rfl rfl (g_o hG33 rfl)) rfl ?_
        have k_91 : (1 : Int32).toInt = 1 := rfl
        have c_92 : M37.2.1 77 58 = (N.2.1 77 58) := (F_n F32 (show ¬ (77 = 117) by decide) rfl)
        have t_93 : (M37.2.1 77 58).toInt = (N.2.1 77 58).toInt := congrArg Int32.toInt c_92
        have j_94 := (FA_f (tg_198 F32) g13)
        have j_95 := (PLk_f (tg_199 F32) g14)
        have j_96 := (W8_f (tg_200 F32) g15)
        have kn_97 : KST M37 96 98 97 95 ca sg (x_kn sg NN (n.toInt).toNat) := KST_f (fun i => (F_nl F32 (show ¬ (96 = 117) by decide) rfl)) (fun i => (F_n F32 (show ¬ (98 = 117) by decide) rfl)) (fun i => (F_n F32 (show ¬ (97 = 117) by decide) rfl)) (fun i => (F_nl F32 (show ¬ (95 = 117) by decide) rfl)) g16
        have z_98 := LQK_f (fun r i z _ => (F_n F32 (show ¬ (r = 117) by (first | (clear q13 q14 h39; omega) | (clear q13 q14; omega) | omega)) rfl)) g17
        refine E_228 hX (dp1 hd (by decide)) hG33 (by (first | (clear q13 q14 h39; omega) | (clear q13 q14; omega) | omega)) (by (first | (clear q13 q14 h39; omega) | (clear q13 q14; omega) | omega)) (by (first | (clear q13 q14 h39; omega) | (clear q13 q14; omega) | omega)) (by (first | (clear q13 q14 h39; omega) | (clear q13 q14; omega) | omega)) (by (first | (clear q13 q14 h39; omega) | (clear q13 q14; omega) | omega)) (by (first | (clear q13 q14 h39; omega) | (clear q13 q14; omega) | omega)) (by (first | (clear q13 q14 h39; omega) | (clear q13 q14; omega) | omega)) (by (first | (clear q13 q14 h39; omega) | (clear q13 q14; omega) | omega)) (by (first | (clear q13 q14 h39; omega) | (clear q13 q14; omega) | omega)) j_94 j_95 j_96 kn_97 z_98 g18 (c := x5) (t := (1 : Int32)) (sg := sg) (ca := ca) (K := (x_kn sg NN (n.toInt).toNat)) (P9 := P9) (fun r99 M105 hG101 F100 p_102 p_103 p_104 => ?_)
        have F106 := FR.c F38 F100 tg_204
        refine b_ieq (pc := 83) rw_229_83 (A := r99.toInt) rfl (fun h107 => ?_) (fun h107 => ?_)
        · refine to_c (pc := 93) rw_229_93 (x := (0 : Int32)) rfl rfl ?_
          refine s_opE (pc := 94) rw_229_94 (w := x4 ||| (0 : Int32)) rfl (fun v108 e109 => ?_)
          refine to_is (pc := 95) rw_229_95 (ls2 := [.ref 77, u1, .int w, .int v89, .int v108, .int x5]) rfl rfl ?_
          refine s_inc (pc := 97) rw_229_97 (ls2 := fun v => [.ref 77, u1, .int w, .int v89, .int v108, .int v]) rfl rfl (fun _ => rfl) (A := x5.toInt) (B := 1) rfl rfl (by (first | (clear q13 q14 h39; omega) | (clear q13 q14; omega) | omega)) (fun v110 e111 => ?_)
          refine to_go (pc := 100) rw_229_100 ?_
          have c_112 : M105.2.1 77 28 = (N.2.1 77 28) := (F_n F100 (show ¬ (77 = 117) by decide) (F_n F32 (show ¬ (77 = 117) by decide) rfl))
          have t_113 : (M105.2.1 77 28).toInt = (N.2.1 77 28).toInt := congrArg Int32.toInt c_112
          have c_114 : M105.2.1 77 58 = (N.2.1 77 58) := (F_n F100 (show ¬ (77 = 117) by decide) c_92)
          have t_115 : (M105.2.1 77 58).toInt = (N.2.1 77 58).toInt := congrArg Int32.toInt c_114
          have j_116 := (FA_f (tg_198 F100) j_94)
          have j_117 := (PLk_f (tg_199 F100) j_95)
          have j_118 := (W8_f (tg_200 F100) j_96)
          have kn_119 : KST M105 96 98 97 95 ca sg (x_kn sg NN (n.toInt).toNat) := KST_f (fun i => (F_nl F100 (show ¬ (96 = 117) by decide) rfl)) (fun i => (F_n F100 (show ¬ (98 = 117) by decide) rfl)) (fun i => (F_n F100 (show ¬ (97 = 117) by decide) rfl)) (fun i => (F_nl F100 (show ¬ (95 = 117) by decide) rfl)) kn_97
          have z_120 := LQK_f (fun r i z _ => (F_n F100 (show ¬ (r = 117) by (first | (clear q13 q14 h39; omega) | (clear q13 q14; omega) | omega)) rfl)) z_98
          exact ih M105 (u1) v89 v108 v110 hG101 F106 (by (first | (clear q13 q14 h39; omega) | (clear q13 q14; omega) | omega)) (by (first | (clear q13 q14 h39; omega) | (clear q13 q14; omega) | omega)) (by (first | (clear q13 q14 h39; omega) | (clear q13 q14; omega) | omega)) (by (first | (clear q13 q14 h39; omega) | (clear q13 q14; omega) | omega)) (by (first | (clear q13 q14 h39; omega) | (clear q13 q14; omega) | omega)) (by (first | (clear q13 q14 h39; omega) | (clear q13 q14; omega) | omega)) (by (first | (clear q13 q14 h39; omega) | (clear q13 q14; omega) | omega)) (by (first | (clear q13 q14 h39; omega) | (clear q13 q14; omega) | omega)) (by (first | (clear q13 q14 h39; omega) | (clear q13 q14; omega) | omega)) (by (first | (clear q13 q14 h39; omega) | (clear q13 q14; omega) | omega)) (by (first | (clear q13 q14 h39; omega) | (clear q13 q14; omega) | omega)) (by (first | (clear q13 q14 h39; omega) | (clear q13 q14; omega) | omega)) j_116 j_117 j_118 kn_119 z_120 g18 (x_btq_s (f := (fun c9 => x_ev P9.1.1 (x_lf9 sg (x_kn sg NN (n.toInt).toNat) P9 0 c9) P9.2.toNat (P9.2.toNat - 1))) g19 (by (first | (clear q13 q14 h39; omega) | (clear q13 q14; omega) | omega)) (by (first | (clear q13 q14 h39; omega) | (clear q13 q14; omega) | omega)) (x_btq_y (f := (fun c9 => x_ev P9.1.1 (x_lf9 sg (x_kn sg NN (n.toInt).toNat) P9 0 c9) P9.2.toNat (P9.2.toNat - 1))) (by (first | (clear q13 q14 h39; omega) | (clear q13 q14; omega) | omega)) (p_36.mp (by (first | (clear q13 q14 h39; omega) | (clear q13 q14; omega) | omega))) e88 rfl e90)) (x_btq_s (f := (fun c9 => x_ev P9.1.1 (x_lf9 sg (x_kn sg NN (n.toInt).toNat) P9 1 c9) P9.2.toNat (P9.2.toNat - 1))) g20 (by (first | (clear q13 q14 h39; omega) | (clear q13 q14; omega) | omega)) (by (first | (clear q13 q14 h39; omega) | (clear q13 q14; omega) | omega)) (x_btq_z (f := (fun c9 => x_ev P9.1.1 (x_lf9 sg (x_kn sg NN (n.toInt).toNat) P9 1 c9) P9.2.toNat (P9.2.toNat - 1))) (fun z => by have y9 := p_104.mpr z; omega) rfl e109)) (by (first | (clear q13 q14 h39; omega) | (clear q13 q14; omega) | omega))
        · refine to_c (pc := 86) rw_229_86 (x := (1 : Int32)) rfl rfl ?_
          refine to_i (pc := 87) rw_229_87 rfl ?_
          refine s_opE (pc := 89) rw_229_89 (w := (1 : Int32) <<< x5) rfl (fun v121 e122 => ?_)
          refine to_go (pc := 90) rw_229_90 ?_
          refine s_opE (pc := 94) rw_229_94 (w := x4 ||| v121) rfl (fun v123 e124 => ?_)
          refine to_is (pc := 95) rw_229_95 (ls2 := [.ref 77, u1, .int w, .int v89, .int v123, .int x5]) rfl rfl ?_
          refine s_inc (pc := 97) rw_229_97 (ls2 := fun v => [.ref 77, u1, .int w, .int v89, .int v123, .int v]) rfl rfl (fun _ => rfl) (A := x5.toInt) (B := 1) rfl rfl (by (first | (clear q13 q14 h39 h107; omega) | (clear q13 q14 h39; omega) | omega)) (fun v125 e126 => ?_)
          refine to_go (pc := 100) rw_229_100 ?_
          have c_127 : M105.2.1 77 28 = (N.2.1 77 28) := (F_n F100 (show ¬ (77 = 117) by decide) (F_n F32 (show ¬ (77 = 117) by decide) rfl))
          have t_128 : (M105.2.1 77 28).toInt = (N.2.1 77 28).toInt := congrArg Int32.toInt c_127
          have c_129 : M105.2.1 77 58 = (N.2.1 77 58) := (F_n F100 (show ¬ (77 = 117) by decide) c_92)
          have t_130 : (M105.2.1 77 58).toInt = (N.2.1 77 58).toInt := congrArg Int32.toInt c_129
          have j_131 := (FA_f (tg_198 F100) j_94)
          have j_132 := (PLk_f (tg_199 F100) j_95)
          have j_133 := (W8_f (tg_200 F100) j_96)
          have kn_134 : KST M105 96 98 97 95 ca sg (x_kn sg NN (n.toInt).toNat) := KST_f (fun i => (F_nl F100 (show ¬ (96 = 117) by decide) rfl)) (fun i => (F_n F100 (show ¬ (98 = 117) by decide) rfl)) (fun i => (F_n F100 (show ¬ (97 = 117) by decide) rfl)) (fun i => (F_nl F100 (show ¬ (95 = 117) by decide) rfl)) kn_97
          have z_135 := LQK_f (fun r i z _ => (F_n F100 (show ¬ (r = 117) by (first | (clear q13 q14 h39 h107; omega) | (clear q13 q14 h39; omega) | omega)) rfl)) z_98
          exact ih M105 (u1) v89 v123 v125 hG101 F106 (by (first | (clear q13 q14 h39 h107; omega) | (clear q13 q14 h39; omega) | omega)) (by (first | (clear q13 q14 h39 h107; omega) | (clear q13 q14 h39; omega) | omega)) (by (first | (clear q13 q14 h39 h107; omega) | (clear q13 q14 h39; omega) | omega)) (by (first | (clear q13 q14 h39 h107; omega) | (clear q13 q14 h39; omega) | omega)) (by (first | (clear q13 q14 h39 h107; omega) | (clear q13 q14 h39; omega) | omega)) (by (first | (clear q13 q14 h39 h107; omega) | (clear q13 q14 h39; omega) | omega)) (by (first | (clear q13 q14 h39 h107; omega) | (clear q13 q14 h39; omega) | omega)) (by (first | (clear q13 q14 h39 h107; omega) | (clear q13 q14 h39; omega) | omega)) (by (first | (clear q13 q14 h39 h107; omega) | (clear q13 q14 h39; omega) | omega)) (by (first | (clear q13 q14 h39 h107; omega) | (clear q13 q14 h39; omega) | omega)) (by (first | (clear q13 q14 h39 h107; omega) | (clear q13 q14 h39; omega) | omega)) (by (first | (clear q13 q14 h39 h107; omega) | (clear q13 q14 h39; omega) | omega)) j_131 j_132 j_133 kn_134 z_135 g18 (x_btq_s (f := (fun c9 => x_ev P9.1.1 (x_lf9 sg (x_kn sg NN (n.toInt).toNat) P9 0 c9) P9.2.toNat (P9.2.toNat - 1))) g19 (by (first | (clear q13 q14 h39 h107; omega) | (clear q13 q14 h39; omega) | omega)) (by (first | (clear q13 q14 h39 h107; omega) | (clear q13 q14 h39; omega) | omega)) (x_btq_y (f := (fun c9 => x_ev P9.1.1 (x_lf9 sg (x_kn sg NN (n.toInt).toNat) P9 0 c9) P9.2.toNat (P9.2.toNat - 1))) (by (first | (clear q13 q14 h39 h107; omega) | (clear q13 q14 h39; omega) | omega)) (p_36.mp (by (first | (clear q13 q14 h39 h107; omega) | (clear q13 q14 h39; omega) | omega))) e88 rfl e90)) (x_btq_s (f := (fun c9 => x_ev P9.1.1 (x_lf9 sg (x_kn sg NN (n.toInt).toNat) P9 1 c9) P9.2.toNat (P9.2.toNat - 1))) g20 (by (first | (clear q13 q14 h39 h107; omega) | (clear q13 q14 h39; omega) | omega)) (by (first | (clear q13 q14 h39 h107; omega) | (clear q13 q14 h39; omega) | omega)) (x_btq_y (f := (fun c9 => x_ev P9.1.1 (x_lf9 sg (x_kn sg NN (n.toInt).toNat) P9 1 c9) P9.2.toNat (P9.2.toNat - 1))) (by (first | (clear q13 q14 h39 h107; omega) | (clear q13 q14 h39; omega) | omega)) (p_104.mp (by (first | (clear q13 q14 h39 h107; omega) | (clear q13 q14 h39; omega) | omega))) e122 rfl e124)) (by (first | (clear q13 q14 h39 h107; omega) | (clear q13 q14 h39; omega) | omega))
set_option maxRecDepth 4000 in
set_option maxHeartbeats 0 in
theorem E_229 {X : mm_X} {d : Nat} {M : mm_M} {Q : Option Value → mm_M → Prop} {n : Int32} {w : Int32} {sg : x_S} {NN : x_N} {nz : Int} {ca : Int} {P9 : x_GP} (hX : g_X X) (hd : 3 ≤ d) (hG : g_G M) (q1 : x_vn sg ca NN nz) (q2 : ca ≤ 30) (q3 : (M.2.1 77 29).toInt = nz) (q4 : (M.2.1 77 28).toInt = ca) (q5 : CWk M sg) (q6 : FA M) (q7 : PLk M sg) (q8 : W8 M) (q9 : NTr M NN nz) (q10 : (M.2.1 77 58).toInt = P9.2) (q11 : 0 ≤ P9.2) (q12 : P9.2 ≤ 40) (q13 : (M.2.1 77 57).toInt = 0 ∧ P9.2 = 0 ∨ (M.2.1 77 57).toInt = 1 ∧ 0 < P9.2) (q14 : P9.2 = 0 ∨ LQK 0 M P9 ∧ WFP sg P9 1) (h : ∀ (r : Int32) (M1 : mm_M), g_G M1 → FR md_as M M1 → (r = x_ask sg NN nz ca n.toInt w.toInt P9) → Q (some (.int r)) M1) : mm_T X d 228 0 [.ref 77, .int n, .int w, .null, .null, .null] [] M Q := by
  have F0 : FR md_as M M := FR.rf
  have b_136 := g_b hG (a := 77) (i := 29) (lo := 0) (hi := 150) rfl rfl
  have b_137 := g_b hG (a := 77) (i := 28) (lo := 0) (hi := 30) rfl rfl
  have b_138 := g_b hG (a := 77) (i := 58) (lo := 0) (hi := 40) rfl rfl
  have b_139 := g_b hG (a := 77) (i := 57) (lo := 0) (hi := 1) rfl rfl
  have z_140 := q7.2.1
  have z_141 := q7.2.2.1
  have z_142 := q7.2.2.2.1
  have z_143 := q7.1
  have z_144 := z_143.1
  have z_145 := z_143.2.1
  have z_146 := z_143.2.2.1
  have z_147 := z_143.2.2.2.1
  have z_148 := z_143.2.2.2.2.1
  have z_149 := z_143.2.2.2.2.2.1
  have b_150 := g_b hG (a := 77) (i := 11) (lo := 10) (hi := 60) rfl rfl
  have b_151 := g_b hG (a := 77) (i := 12) (lo := 0) (hi := 8) rfl rfl
  have b_152 := g_b hG (a := 77) (i := 13) (lo := 0) (hi := 12) rfl rfl
  refine to_an (pc := 0) rw_229_0 rfl ?_
  refine to_c (pc := 1) rw_229_1 (x := (0 : Int32)) rfl rfl ?_
  refine s_pI (pc := 2) rw_229_2 hG rfl (fun M154 W153 => ?_)
  have hG155 := g_wf hG W153 rfl rfl (by decide)
  have F156 := FR.w F0 W153 (show 77 = 77 ∧ 2 = 2 ∨ 94 ≤ 77 ∧ 77 ≤ 98 ∨ 77 = 117 by decide)
  refine to_an (pc := 5) rw_229_5 rfl ?_
  have c_157 : M154.2.1 77 57 = (M.2.1 77 57) := (W_n W153 (by decide) rfl)
  refine tt_gZ (pc := 6) rw_229_6 (g_o hG155 rfl) (v := (M.2.1 77 57)) c_157 ?_
  refine b_ieq (pc := 9) rw_229_9 (A := (M.2.1 77 57).toInt) rfl (fun h158 => ?_) (fun h158 => ?_)
  · refine to_c (pc := 29) rw_229_29 (x := (-1 : Int32)) rfl rfl ?_
    refine to_r0 (pc := 30) rw_229_30 ?_
    have k_159 : (-1 : Int32).toInt = -1 := rfl
    exact h (-1 : Int32) M154 hG155 F156 (x_ask_n (by (first | (clear q13 q14; omega) | omega)) rfl)
  · refine to_an (pc := 12) rw_229_12 rfl ?_
    refine to_in (pc := 13) rw_229_13 rfl ?_
    refine s_v (pc := 14) rw_229_14 (dp0 hd (by decide)) (ls0 := [.ref 77, .int n]) rfl (Nat.le_of_ble_eq_true rfl) (Nat.le_of_ble_eq_true rfl) rfl (to_rc rfl rfl rfl (g_o hG155 rfl)) rfl ?_
    refine to_in (pc := 0) rw_186_0 rfl ?_
    refine b_ilt (pc := 1) rw_186_1 (A := n.toInt) rfl (fun h160 => ?_) (fun h160 => ?_)
    · refine to_c (pc := 16) rw_186_16 (x := (0 : Int32)) rfl rfl ?_
      refine s_r1 (pc := 17) rw_186_17 (A := 0) rfl (by decide) ?_
      refine b_ieq_t (pc := 17) rw_229_17 (A := 0) rfl (by decide) ?_
      refine to_c (pc := 29) rw_229_29 (x := (-1 : Int32)) rfl rfl ?_
      refine to_r0 (pc := 30) rw_229_30 ?_
      have k_161 : (-1 : Int32).toInt = -1 := rfl
      exact h (-1 : Int32) M154 hG155 F156 (x_ask_n (by (first | (clear q13 q14 h158; omega) | (clear q13 q14; omega) | omega)) rfl)
    · refine to_in (pc := 4) rw_186_4 rfl ?_
      refine to_an (pc := 5) rw_186_5 rfl ?_
      have c_162 : M154.2.1 77 29 = (M.2.1 77 29) := (W_n W153 (by decide) rfl)
      refine tt_gI (pc := 6) rw_186_6 (g_o hG155 rfl) (v := (M.2.1 77 29)) c_162 ?_
      refine b_cgt (pc := 9) rw_186_9 (A := n.toInt) (B := (M.2.1 77 29).toInt) rfl rfl (fun h163 => ?_) (fun h163 => ?_)
      · refine to_c (pc := 16) rw_186_16 (x := (0 : Int32)) rfl rfl ?_
        refine s_r1 (pc := 17) rw_186_17 (A := 0) rfl (by decide) ?_
        refine b_ieq_t (pc := 17) rw_229_17 (A := 0) rfl (by decide) ?_
        refine to_c (pc := 29) rw_229_29 (x := (-1 : Int32)) rfl rfl ?_
        refine to_r0 (pc := 30) rw_229_30 ?_
        have k_164 : (-1 : Int32).toInt = -1 := rfl
        exact h (-1 : Int32) M154 hG155 F156 (x_ask_n (by (first | (clear q13 q14 h158; omega) | (clear q13 q14; omega) | omega)) rfl)
      · refine to_c (pc := 12) rw_186_12 (x := (1 : Int32)) rfl rfl ?_
        refine to_go (pc := 13) rw_186_13 ?_
        refine s_r1 (pc := 17) rw_186_17 (A := 1) rfl (by decide) ?_
        refine b_ieq_f (pc := 17) rw_229_17 (A := 1) rfl (by decide) ?_
        refine to_in (pc := 20) rw_229_20 rfl ?_
        refine to_c (pc := 21) rw_229_21 (x := (0 : Int32)) rfl rfl ?_
        refine to_c (pc := 22) rw_229_22 (x := (3 : Int32)) rfl rfl ?_
        refine s_s (pc := 23) rw_229_23 (dp0 hd (by decide)) (ls0 := [.int w, .int (0 : Int32), .int (3 : Int32)]) rfl (Nat.le_of_ble_eq_true rfl) (Nat.le_of_ble_eq_true rfl) rfl (to_rcs rfl rfl) rfl ?_
        refine to_in (pc := 0) rw_149_0 rfl ?_
        refine to_in (pc := 1) rw_149_1 rfl ?_
        refine b_clt (pc := 2) rw_149_2 (A := w.toInt) (B := 0) rfl rfl (fun h165 => ?_) (fun h165 => ?_)
        · refine to_c (pc := 14) rw_149_14 (x := (0 : Int32)) rfl rfl ?_
          refine s_r1 (pc := 15) rw_149_15 (A := 0) rfl (by decide) ?_
          refine b_ine_f (pc := 26) rw_229_26 (A := 0) rfl (by decide) ?_
          refine to_c (pc := 29) rw_229_29 (x := (-1 : Int32)) rfl rfl ?_
          refine to_r0 (pc := 30) rw_229_30 ?_
          have k_166 : (-1 : Int32).toInt = -1 := rfl
          exact h (-1 : Int32) M154 hG155 F156 (x_ask_n (by (first | (clear q13 q14 h158; omega) | (clear q13 q14; omega) | omega)) rfl)
        · refine to_in (pc := 5) rw_149_5 rfl ?_
          refine to_in (pc := 6) rw_149_6 rfl ?_
          refine b_cgt (pc := 7) rw_149_7 (A := w.toInt) (B := 3) rfl rfl (fun h167 => ?_) (fun h167 => ?_)
          · refine to_c (pc := 14) rw_149_14 (x := (0 : Int32)) rfl rfl ?_
            refine s_r1 (pc := 15) rw_149_15 (A := 0) rfl (by decide) ?_
            refine b_ine_f (pc := 26) rw_229_26 (A := 0) rfl (by decide) ?_
            refine to_c (pc := 29) rw_229_29 (x := (-1 : Int32)) rfl rfl ?_
            refine to_r0 (pc := 30) rw_229_30 ?_
            have k_168 : (-1 : Int32).toInt = -1 := rfl
            exact h (-1 : Int32) M154 hG155 F156 (x_ask_n (by (first | (clear q13 q14 h158; omega) | (clear q13 q14; omega) | omega)) rfl)
          · refine to_c (pc := 10) rw_149_10 (x := (1 : Int32)) rfl rfl ?_
            refine to_go (pc := 11) rw_149_11 ?_
            refine s_r1 (pc := 15) rw_149_15 (A := 1) rfl (by decide) ?_
            refine b_ine_t (pc := 26) rw_229_26 (A := 1) rfl (by decide) ?_
            refine to_an (pc := 31) rw_229_31 rfl ?_
            refine to_in (pc := 32) rw_229_32 rfl ?_
            refine s_v (pc := 33) rw_229_33 (dp0 hd (by decide)) (ls0 := [.ref 77, .int n, .null, .null]) rfl (Nat.le_of_ble_eq_true rfl) (Nat.le_of_ble_eq_true rfl) rfl (to_rc rfl rfl rfl (g_o hG155 rfl)) rfl ?_
            have c_169 : M154.2.1 77 28 = (M.2.1 77 28) := (W_n W153 (by decide) rfl)
            have t_170 : (M154.2.1 77 28).toInt = (M.2.1 77 28).toInt := congrArg Int32.toInt c_169
            have j_171 := (CWk_f (fun k hk9 => W_j W153 rfl) q5)
            have j_172 := (FA_f (fun a i z => W_n W153 (tg_94 a i z) rfl) q6)
            have j_173 := (PLk_f (fun a i z => W_n W153 (tg_91 a i z) rfl) q7)
            have j_174 := (W8_f (fun a i z => W_n W153 (tg_95 a i z) rfl) q8)
            have j_175 := (NTr_f (fun a i z => W_n W153 (tg_135 a i z) rfl) q9)
            refine E_189 hX (dp1 hd (by decide)) hG155 (by (first | (clear q13 q14 h158; omega) | (clear q13 q14; omega) | omega)) (by (first | (clear q13 q14 h158; omega) | (clear q13 q14; omega) | omega)) (by (first | (clear q13 q14 h158; omega) | (clear q13 q14; omega) | omega)) q1 (by (first | (clear q13 q14 h158; omega) | (clear q13 q14; omega) | omega)) (by (first | (clear q13 q14 h158; omega) | (clear q13 q14; omega) | omega)) j_171 j_172 j_173 j_174 j_175 (n := n) (sg := sg) (NN := NN) (nz := nz) (ca := ca) (fun M179 hG177 F176 p_178 => ?_)
            have F180 := FR.c F156 F176 tg_205
            refine to_c (pc := 36) rw_229_36 (x := (0 : Int32)) rfl rfl ?_
            refine to_isn (pc := 37) rw_229_37 (ls2 := [.ref 77, .int n, .int w, .int (0 : Int32), .null, .null]) rfl rfl ?_
            refine to_c (pc := 38) rw_229_38 (x := (0 : Int32)) rfl rfl ?_
            refine to_is (pc := 39) rw_229_39 (ls2 := [.ref 77, .int n, .int w, .int (0 : Int32), .int (0 : Int32), .null]) rfl rfl ?_
            refine to_c (pc := 41) rw_229_41 (x := (0 : Int32)) rfl rfl ?_
            refine to_is (pc := 42) rw_229_42 (ls2 := [.ref 77, .int n, .int w, .int (0 : Int32), .int (0 : Int32), .int (0 : Int32)]) rfl rfl ?_
            have k_181 : (0 : Int32).toInt = 0 := rfl
            have c_182 : M179.2.1 77 28 = (M.2.1 77 28) := (F_n F176 (show ¬ (94 ≤ 77 ∧ 77 ≤ 98) by decide) c_169)
            have t_183 : (M179.2.1 77 28).toInt = (M.2.1 77 28).toInt := congrArg Int32.toInt c_182
            have c_184 : M179.2.1 77 58 = (M.2.1 77 58) := (F_n F176 (show ¬ (94 ≤ 77 ∧ 77 ≤ 98) by decide) (W_n W153 (by decide) rfl))
            have t_185 : (M179.2.1 77 58).toInt = (M.2.1 77 58).toInt := congrArg Int32.toInt c_184
            have j_186 := (FA_f (tg_201 F176) j_172)
            have j_187 := (PLk_f (tg_136 F176) j_173)
            have j_188 := (W8_f (tg_202 F176) j_174)
            have z_189 := LQK_f (fun r i z _ => (F_n F176 (show ¬ (94 ≤ r ∧ r ≤ 98) by (first | (clear q13 q14 h158; omega) | (clear q13 q14; omega) | omega)) (W_n W153 (by (first | (clear q13 q14 h158; omega) | (clear q13 q14; omega) | omega)) rfl))) (Or.resolve_left q14 (by (first | (clear q13 q14 h158; omega) | (clear q13 q14; omega) | omega))).1
            exact (U_229_0 (n := n) (w := w) (sg := sg) (NN := NN) (nz := nz) (ca := ca) (P9 := P9) hX hd q1 q2 q3 q4 q5 q6 q7 q8 q9 q10 q11 q12 q13 q14 h ((30 - (0 : Int32).toInt).toNat + 1)) M179 (.int n) (0 : Int32) (0 : Int32) (0 : Int32) hG177 F180 (by (first | (clear q13 q14 h158; omega) | (clear q13 q14; omega) | omega)) (by (first | (clear q13 q14 h158; omega) | (clear q13 q14; omega) | omega)) (by (first | (clear q13 q14 h158; omega) | (clear q13 q14; omega) | omega)) (by (first | (clear q13 q14 h158; omega) | (clear q13 q14; omega) | omega)) (by (first | (clear q13 q14 h158; omega) | (clear q13 q14; omega) | omega)) (by (first | (clear q13 q14 h158; omega) | (clear q13 q14; omega) | omega)) (by (first | (clear q13 q14 h158; omega) | (clear q13 q14; omega) | omega)) (by (first | (clear q13 q14 h158; omega) | (clear q13 q14; omega) | omega)) (by (first | (clear q13 q14 h158; omega) | (clear q13 q14; omega) | omega)) (by (first | (clear q13 q14 h158; omega) | (clear q13 q14; omega) | omega)) (by (first | (clear q13 q14 h158; omega) | (clear q13 q14; omega) | omega)) (by (first | (clear q13 q14 h158; omega) | (clear q13 q14; omega) | omega)) j_186 j_187 j_188 p_178 z_189 (Or.resolve_left q14 (by (first | (clear q13 q14 h158; omega) | (clear q13 q14; omega) | omega))).2 (x_btq_00 (by (first | (clear q13 q14 h158; omega) | (clear q13 q14; omega) | omega)) rfl) (x_btq_00 (by (first | (clear q13 q14 h158; omega) | (clear q13 q14; omega) | omega)) rfl) (by (first | (clear q13 q14 h158; omega) | (clear q13 q14; omega) | omega))
