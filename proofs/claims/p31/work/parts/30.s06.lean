theorem tg_459 {M M1 : mm_M} (F : FR (fun a i : Nat => a = 77 ∧ (i = 4 ∨ i = 5 ∨ 7 ≤ i ∧ i ≤ 10) ∨ a = 77 ∧ (i = 59 ∨ 65 ≤ i ∧ i ≤ 69) ∨ 112 ≤ a ∧ a ≤ 114 ∧ 40 ≤ i ∨ a = 115 ∨ a = 116) M M1) : ∀ a i : Nat, a = 78 → M1.2.1 a i = M.2.1 a i := fun a i z => F_n F (show ¬ (a = 77 ∧ (i = 4 ∨ i = 5 ∨ 7 ≤ i ∧ i ≤ 10) ∨ a = 77 ∧ (i = 59 ∨ 65 ≤ i ∧ i ≤ 69) ∨ 112 ≤ a ∧ a ≤ 114 ∧ 40 ≤ i ∨ a = 115 ∨ a = 116) by omega) rfl
theorem tg_460 {M M1 : mm_M} (F : FR (fun a i : Nat => a = 77 ∧ (i = 4 ∨ i = 5 ∨ 7 ≤ i ∧ i ≤ 10) ∨ a = 77 ∧ (i = 59 ∨ 65 ≤ i ∧ i ≤ 69) ∨ 112 ≤ a ∧ a ≤ 114 ∧ 40 ≤ i ∨ a = 115 ∨ a = 116) M M1) : ∀ a i : Nat, a = 79 → M1.2.1 a i = M.2.1 a i := fun a i z => F_n F (show ¬ (a = 77 ∧ (i = 4 ∨ i = 5 ∨ 7 ≤ i ∧ i ≤ 10) ∨ a = 77 ∧ (i = 59 ∨ 65 ≤ i ∧ i ≤ 69) ∨ 112 ≤ a ∧ a ≤ 114 ∧ 40 ≤ i ∨ a = 115 ∨ a = 116) by omega) rfl
theorem tg_461 {M M1 : mm_M} (F : FR (fun a i : Nat => a = 77 ∧ (i = 4 ∨ i = 5 ∨ 7 ≤ i ∧ i ≤ 10) ∨ a = 77 ∧ (i = 59 ∨ 65 ≤ i ∧ i ≤ 69) ∨ 112 ≤ a ∧ a ≤ 114 ∧ 40 ≤ i ∨ a = 115 ∨ a = 116) M M1) : ∀ a i : Nat, (a = 77 ∧ 11 ≤ i ∧ i ≤ 13 ∨ 80 ≤ a ∧ a ≤ 84 ∧ i < 8 ∨ 85 ≤ a ∧ a ≤ 86 ∧ i < 12) → M1.2.1 a i = M.2.1 a i := fun a i z => F_n F (show ¬ (a = 77 ∧ (i = 4 ∨ i = 5 ∨ 7 ≤ i ∧ i ≤ 10) ∨ a = 77 ∧ (i = 59 ∨ 65 ≤ i ∧ i ≤ 69) ∨ 112 ≤ a ∧ a ≤ 114 ∧ 40 ≤ i ∨ a = 115 ∨ a = 116) by omega) rfl
theorem tg_462 {M M1 : mm_M} (F : FR (fun a i : Nat => a = 77 ∧ (i = 1 ∨ 4 ≤ i ∧ i ≤ 10)) M M1) : ∀ a i : Nat, (a = 77 ∧ 11 ≤ i ∧ i ≤ 13 ∨ 80 ≤ a ∧ a ≤ 84 ∧ i < 8 ∨ 85 ≤ a ∧ a ≤ 86 ∧ i < 12) → M1.2.1 a i = M.2.1 a i := fun a i z => F_n F (show ¬ (a = 77 ∧ (i = 1 ∨ 4 ≤ i ∧ i ≤ 10)) by omega) rfl
theorem tg_463 : ∀ a i : Nat, (a = 77 ∧ 6 ≤ i ∧ i ≤ 10) → ¬ (a = 77 ∧ i = 66) := fun a i z => by omega
theorem tg_464 : ∀ a i : Nat, (a = 77 ∧ 6 ≤ i ∧ i ≤ 10) → ¬ (a = 77 ∧ i = 59) := fun a i z => by omega
theorem tg_465 : ∀ a i : Nat, a = 78 → ¬ (a = 77 ∧ i = 66) := fun a i z => by omega
theorem tg_466 : ∀ a i : Nat, a = 78 → ¬ (a = 77 ∧ i = 59) := fun a i z => by omega
theorem tg_467 : ∀ a i : Nat, a = 79 → ¬ (a = 77 ∧ i = 66) := fun a i z => by omega
theorem tg_468 : ∀ a i : Nat, a = 79 → ¬ (a = 77 ∧ i = 59) := fun a i z => by omega
theorem tg_469 : ∀ a i : Nat, (a = 77 ∧ 11 ≤ i ∧ i ≤ 13 ∨ 80 ≤ a ∧ a ≤ 84 ∧ i < 8 ∨ 85 ≤ a ∧ a ≤ 86 ∧ i < 12) → ¬ (a = 77 ∧ i = 67) := fun a i z => by omega
theorem tg_470 : ∀ a i : Nat, (a = 77 ∧ 11 ≤ i ∧ i ≤ 13 ∨ 80 ≤ a ∧ a ≤ 84 ∧ i < 8 ∨ 85 ≤ a ∧ a ≤ 86 ∧ i < 12) → ¬ (a = 77 ∧ i = 66) := fun a i z => by omega
theorem tg_471 : ∀ a i : Nat, (a = 77 ∧ 11 ≤ i ∧ i ≤ 13 ∨ 80 ≤ a ∧ a ≤ 84 ∧ i < 8 ∨ 85 ≤ a ∧ a ≤ 86 ∧ i < 12) → ¬ (a = 77 ∧ i = 65) := fun a i z => by omega
theorem tg_472 : ∀ a i : Nat, (a = 77 ∧ 11 ≤ i ∧ i ≤ 13 ∨ 80 ≤ a ∧ a ≤ 84 ∧ i < 8 ∨ 85 ≤ a ∧ a ≤ 86 ∧ i < 12) → ¬ (a = 77 ∧ i = 59) := fun a i z => by omega
set_option maxRecDepth 4000 in
set_option maxHeartbeats 0 in
theorem U_227_0 {X : mm_X} {d : Nat} {M : mm_M} {Q : Option Value → mm_M → Prop} {n : Int32} {t : Nat → Int} {nn : Int} {sg : x_S} (hX : g_X X) (hd : 3 ≤ d) (q1 : (M.2.1 77 7).toInt ≤ (M.2.1 77 6).toInt) (q2 : FA M) (q3 : 0 ≤ n.toInt ∧ n.toInt ≤ (M.2.1 77 1).toInt → n.toInt = nn) (q4 : TR M t nn) (q5 : W9 M) (q6 : PLk M sg) (h : ∀ (r : Int32) (M1 : mm_M), g_G M1 → FR md_qu M M1 → (n.toInt < 0 ∨ (M.2.1 77 1).toInt < n.toInt → r.toInt = -2) → ((0 ≤ n.toInt ∧ n.toInt ≤ (M.2.1 77 1).toInt → QAN (x_qq t nn sg 0 0 0 (x_sk t nn 0)) r.toInt)) → (r.toInt < 0 → (M1.2.1 77 58).toInt = (M.2.1 77 58).toInt) → (0 ≤ r.toInt → (M1.2.1 77 58).toInt = r.toInt) → Q (some (.int r)) M1) : ∀ nn9 : Nat, (∀ (N : mm_M) (u1 : Value) (x2 : Int32), g_G N → FR md_qu M N → (0 ≤ x2.toInt) → (x2.toInt ≤ 40) → (0 ≤ n.toInt) → (n.toInt ≤ (M.2.1 77 1).toInt) → (x_qq t nn sg 0 0 0 (x_sk t nn 0) = Sum.inr (N.2.1 77 58).toInt) → 40 - x2.toInt < (nn9 : Int) → mm_T X d 226 113 [.ref 77, u1, .int x2] [] N Q) := by
  intro nn9
  induction nn9 with
  | zero =>
    intro N u1 x2 hG F0 g1 g2 g3 g4 g5 hm
    exfalso; omega
  | succ nn9 ih =>
    intro N u1 x2 hG F0 g1 g2 g3 g4 g5 hm
    have b_1 := g_b hG (a := 77) (i := 58) (lo := 0) (hi := 40) rfl rfl
    refine to_in (pc := 113) rw_227_113 rfl (to_an (pc := 114) rw_227_114 rfl (tt_gI (pc := 115) rw_227_115 (g_o hG rfl) (v := (N.2.1 77 58)) rfl (b_cge (pc := 118) rw_227_118 (A := x2.toInt) (B := (N.2.1 77 58).toInt) rfl rfl (fun h2 => ?_) (fun h2 => ?_))))
    · refine to_an (pc := 172) rw_227_172 rfl (tt_gI (pc := 173) rw_227_173 (g_o hG rfl) (v := (N.2.1 77 58)) rfl (to_r0 (pc := 176) rw_227_176 ?_))
      exact h (N.2.1 77 58) N hG F0 (by (first | (clear q3; omega) | omega)) (fun _ => Or.inr g5) (by (first | (clear q3; omega) | omega)) (by (first | (clear q3; omega) | omega))
    · refine to_an (pc := 121) rw_227_121 rfl (s_gR (pc := 122) rw_227_122 hG rfl (v := 112) rfl (to_in (pc := 125) rw_227_125 rfl (to_an (pc := 126) rw_227_126 rfl (s_gR (pc := 127) rw_227_127 hG rfl (v := 112) rfl (to_c (pc := 130) rw_227_130 (x := (40 : Int32)) rfl rfl (to_in (pc := 132) rw_227_132 rfl (s_add (pc := 133) rw_227_133 (A := 40) (B := x2.toInt) rfl rfl (by (first | (clear q3; omega) | omega)) (fun v3 e4 => s_ial (pc := 134) rw_227_134 hG rfl (n := 80) rfl rfl (A := v3.toInt) rfl (by (first | (clear q3; omega) | omega)) (by (first | (clear q3; omega) | omega)) (lo := 0) (hi := 4) rfl rfl (fun v5 w_6 _ _ => s_ias (pc := 135) rw_227_135 hG rfl (n := 80) rfl (A := x2.toInt) rfl (by (first | (clear q3; omega) | omega)) (by (first | (clear q3; omega) | omega)) (fun M8 W7 => ?_))))))))))
      have hG9 := g_w hG W7 (A := v5.toInt) rfl (lo := 0) (hi := 4) rfl rfl (by (first | (clear q3; omega) | omega)) (by decide)
      have F10 := FR.w F0 W7 (show 112 = 77 ∧ (1 ≤ (x2.toInt).toNat ∧ (x2.toInt).toNat ≤ 2 ∨ 4 ≤ (x2.toInt).toNat ∧ (x2.toInt).toNat ≤ 10 ∨ 57 ≤ (x2.toInt).toNat ∧ (x2.toInt).toNat ≤ 59 ∨ 65 ≤ (x2.toInt).toNat ∧ (x2.toInt).toNat ≤ 69) ∨ 112 ≤ 112 ∧ 112 ≤ 116 by (first | (clear q3; omega) | omega))
      refine to_an (pc := 136) rw_227_136 rfl (s_gR (pc := 137) rw_227_137 hG9 rfl (v := 113) rfl (to_in (pc := 140) rw_227_140 rfl (to_an (pc := 141) rw_227_141 rfl (s_gR (pc := 142) rw_227_142 hG9 rfl (v := 113) rfl (to_c (pc := 145) rw_227_145 (x := (40 : Int32)) rfl rfl (to_in (pc := 147) rw_227_147 rfl (s_add (pc := 148) rw_227_148 (A := 40) (B := x2.toInt) rfl rfl (by (first | (clear q3; omega) | omega)) (fun v11 e12 => s_ial (pc := 149) rw_227_149 hG9 rfl (n := 80) rfl rfl (A := v11.toInt) rfl (by (first | (clear q3; omega) | omega)) (by (first | (clear q3; omega) | omega)) (lo := 0) (hi := 39) rfl rfl (fun v13 w_14 _ _ => s_ias (pc := 150) rw_227_150 hG9 rfl (n := 80) rfl (A := x2.toInt) rfl (by (first | (clear q3; omega) | omega)) (by (first | (clear q3; omega) | omega)) (fun M16 W15 => ?_))))))))))
      have hG17 := g_w hG9 W15 (A := v13.toInt) rfl (lo := 0) (hi := 39) rfl rfl (by (first | (clear q3; omega) | omega)) (by decide)
      have F18 := FR.w F10 W15 (show 113 = 77 ∧ (1 ≤ (x2.toInt).toNat ∧ (x2.toInt).toNat ≤ 2 ∨ 4 ≤ (x2.toInt).toNat ∧ (x2.toInt).toNat ≤ 10 ∨ 57 ≤ (x2.toInt).toNat ∧ (x2.toInt).toNat ≤ 59 ∨ 65 ≤ (x2.toInt).toNat ∧ (x2.toInt).toNat ≤ 69) ∨ 112 ≤ 113 ∧ 113 ≤ 116 by (first | (clear q3; omega) | omega))
      refine to_an (pc := 151) rw_227_151 rfl (s_gR (pc := 152) rw_227_152 hG17 rfl (v := 114) rfl (to_in (pc := 155) rw_227_155 rfl (to_an (pc := 156) rw_227_156 rfl (s_gR (pc := 157) rw_227_157 hG17 rfl (v := 114) rfl (to_c (pc := 160) rw_227_160 (x := (40 : Int32)) rfl rfl (to_in (pc := 162) rw_227_162 rfl (s_add (pc := 163) rw_227_163 (A := 40) (B := x2.toInt) rfl rfl (by (first | (clear q3; omega) | omega)) (fun v19 e20 => s_ial (pc := 164) rw_227_164 hG17 rfl (n := 80) rfl rfl (A := v19.toInt) rfl (by (first | (clear q3; omega) | omega)) (by (first | (clear q3; omega) | omega)) (lo := -2147483648) (hi := 2147483647) rfl rfl (fun v21 w_22 _ _ => s_ias (pc := 165) rw_227_165 hG17 rfl (n := 80) rfl (A := x2.toInt) rfl (by (first | (clear q3; omega) | omega)) (by (first | (clear q3; omega) | omega)) (fun M24 W23 => ?_))))))))))
      have hG25 := g_wf hG17 W23 rfl rfl (by decide)
      have F26 := FR.w F18 W23 (show 114 = 77 ∧ (1 ≤ (x2.toInt).toNat ∧ (x2.toInt).toNat ≤ 2 ∨ 4 ≤ (x2.toInt).toNat ∧ (x2.toInt).toNat ≤ 10 ∨ 57 ≤ (x2.toInt).toNat ∧ (x2.toInt).toNat ≤ 59 ∨ 65 ≤ (x2.toInt).toNat ∧ (x2.toInt).toNat ≤ 69) ∨ 112 ≤ 114 ∧ 114 ≤ 116 by (first | (clear q3; omega) | omega))
      refine s_inc (pc := 166) rw_227_166 (ls2 := fun v => [.ref 77, u1, .int v]) rfl rfl (fun _ => rfl) (A := x2.toInt) (B := 1) rfl rfl (by (first | (clear q3; omega) | omega)) (fun v27 e28 => to_go (pc := 169) rw_227_169 ?_)
      have c_29 : M24.2.1 77 58 = (N.2.1 77 58) := (W_n W23 (fun z => absurd z.1 (by decide)) (W_n W15 (fun z => absurd z.1 (by decide)) (W_n W7 (fun z => absurd z.1 (by decide)) rfl)))
      have t_30 : (M24.2.1 77 58).toInt = (N.2.1 77 58).toInt := congrArg Int32.toInt c_29
      exact ih M24 (u1) v27 hG25 F26 (by (first | (clear q3; omega) | omega)) (by (first | (clear q3; omega) | omega)) (by (first | (clear q3; omega) | omega)) (by (first | (clear q3; omega) | omega)) (g5.trans (congrArg Sum.inr (by (first | (clear q3; omega) | omega)))) (by (first | (clear q3; omega) | omega))
set_option maxRecDepth 4000 in
set_option maxHeartbeats 0 in
theorem U_227_1 {X : mm_X} {d : Nat} {M : mm_M} {Q : Option Value → mm_M → Prop} {n : Int32} {t : Nat → Int} {nn : Int} {sg : x_S} (hX : g_X X) (hd : 3 ≤ d) (q1 : (M.2.1 77 7).toInt ≤ (M.2.1 77 6).toInt) (q2 : FA M) (q3 : 0 ≤ n.toInt ∧ n.toInt ≤ (M.2.1 77 1).toInt → n.toInt = nn) (q4 : TR M t nn) (q5 : W9 M) (q6 : PLk M sg) (h : ∀ (r : Int32) (M1 : mm_M), g_G M1 → FR md_qu M M1 → (n.toInt < 0 ∨ (M.2.1 77 1).toInt < n.toInt → r.toInt = -2) → ((0 ≤ n.toInt ∧ n.toInt ≤ (M.2.1 77 1).toInt → QAN (x_qq t nn sg 0 0 0 (x_sk t nn 0)) r.toInt)) → (r.toInt < 0 → (M1.2.1 77 58).toInt = (M.2.1 77 58).toInt) → (0 ≤ r.toInt → (M1.2.1 77 58).toInt = r.toInt) → Q (some (.int r)) M1) : ∀ nn9 : Nat, (∀ (N : mm_M) (u1 : Value) (u2 : Value), g_G N → FR md_qu M N → ((N.2.1 77 7).toInt ≤ (N.2.1 77 6).toInt) → (FA N) → (QK N) → (RS N t nn) → (0 ≤ nn) → (nn ≤ 500) → (0 ≤ n.toInt) → (n.toInt ≤ (M.2.1 77 1).toInt) → (TR N t nn) → (W9 N) → (PLk N sg) → ((N.2.1 77 59).toInt + Wo N ((N.2.1 77 65).toInt).toNat = (N.2.1 77 69).toInt) → (x_qq t nn sg 0 0 0 (x_sk t nn 0) = x_qq t nn sg (N.2.1 77 68).toInt (N.2.1 77 67).toInt (N.2.1 77 69).toInt (N.2.1 77 10).toInt) → ((N.2.1 77 58).toInt = (M.2.1 77 58).toInt) → 6 * (500 - (N.2.1 77 7).toInt) + (N.2.1 77 8).toInt < (nn9 : Int) → mm_T X d 226 46 [.ref 77, u1, u2] [] N Q) := by
  intro nn9
  induction nn9 with
  | zero =>
    intro N u1 u2 hG F0 g1 g2 g3 g4 g5 g6 g7 g8 g9 g10 g11 g12 g13 g14 hm
    have b_31 := g_b hG (a := 77) (i := 7) (lo := 0) (hi := 500) rfl rfl
    have b_32 := g_b hG (a := 77) (i := 8) (lo := 0) (hi := 5) rfl rfl
    have b_33 := g_b hG (a := 77) (i := 6) (lo := 0) (hi := 500) rfl rfl
    have b_34 := g_b hG (a := 77) (i := 58) (lo := 0) (hi := 40) rfl rfl
    exfalso; omega
  | succ nn9 ih =>
    intro N u1 u2 hG F0 g1 g2 g3 g4 g5 g6 g7 g8 g9 g10 g11 g12 g13 g14 hm
    have b_35 := g_b hG (a := 77) (i := 7) (lo := 0) (hi := 500) rfl rfl
    have b_36 := g_b hG (a := 77) (i := 8) (lo := 0) (hi := 5) rfl rfl
    have b_37 := g_b hG (a := 77) (i := 6) (lo := 0) (hi := 500) rfl rfl
    have b_38 := g_b hG (a := 77) (i := 58) (lo := 0) (hi := 40) rfl rfl
    have b_39 := g_b hG (a := 77) (i := 10) (lo := 0) (hi := 500) rfl rfl
    have b_40 := g_b hG (a := 77) (i := 67) (lo := 0) (hi := 8) rfl rfl
    have b_41 := g_b hG (a := 77) (i := 68) (lo := 0) (hi := 1) rfl rfl
    have b_42 := g_b hG (a := 77) (i := 69) (lo := 0) (hi := 40) rfl rfl
    have b_43 := g_b hG (a := 77) (i := 65) (lo := 0) (hi := 48) rfl rfl
    have b_44 := g_b hG (a := 77) (i := 59) (lo := 0) (hi := 40) rfl rfl
    have z_45 := RS_k g4 (a := (N.2.1 77 10).toInt) (by (first | (clear q3; omega) | omega))
    have z_46 := RS_b g4 (a := (N.2.1 77 10).toInt) (by (first | (clear q3; omega) | omega))
    refine to_an (pc := 46) rw_227_46 rfl (tt_gI (pc := 47) rw_227_47 (g_o hG rfl) (v := (N.2.1 77 8)) rfl (b_ine (pc := 50) rw_227_50 (A := (N.2.1 77 8).toInt) rfl (fun h47 => ?_) (fun h47 => ?_)))
    · refine to_an (pc := 67) rw_227_67 rfl (tt_gI (pc := 68) rw_227_68 (g_o hG rfl) (v := (N.2.1 77 68)) rfl (b_ine (pc := 71) rw_227_71 (A := (N.2.1 77 68).toInt) rfl (fun h48 => ?_) (fun h48 => ?_)))
      · refine to_an (pc := 84) rw_227_84 rfl (s_v (pc := 85) rw_227_85 (dp0 hd (by decide)) (ls0 := [.ref 77, .null]) rfl (Nat.le_of_ble_eq_true rfl) (Nat.le_of_ble_eq_true rfl) rfl (to_rc rfl rfl rfl (g_o hG rfl)) rfl (E_226 hX (dp1 hd (by decide)) hG (by (first | (clear q3 h47 h48; omega) | (clear q3 h47; omega) | omega)) g3 (by (first | (clear q3 h47 h48; omega) | (clear q3 h47; omega) | omega)) g4 (by (first | (clear q3 h47 h48; omega) | (clear q3 h47; omega) | omega)) (by (first | (clear q3 h47 h48; omega) | (clear q3 h47; omega) | omega)) (by (first | (clear q3 h47 h48; omega) | (clear q3 h47; omega) | omega)) g9 g10 g11 g12 (by (first | (clear q3 h47 h48; omega) | (clear q3 h47; omega) | omega)) (t := t) (nn := nn) (a := (N.2.1 77 10).toInt) (sg := sg) (fun r49 M63 hG51 F50 p_52 p_53 p_54 p_55 p_56 p_57 p_58 p_59 p_60 p_61 p_62 => ?_)))
        have F64 := FR.c F0 F50 tg_395
        have b_65 := g_b hG51 (a := 77) (i := 7) (lo := 0) (hi := 500) rfl rfl
        have c_66 : M63.2.1 77 6 = (N.2.1 77 6) := (F_n F50 (show ¬ (77 = 77 ∧ (6 = 4 ∨ 6 = 5 ∨ 7 ≤ 6 ∧ 6 ≤ 10) ∨ 77 = 77 ∧ (6 = 59 ∨ 65 ≤ 6 ∧ 6 ≤ 69) ∨ 112 ≤ 77 ∧ 77 ≤ 114 ∧ 40 ≤ 6 ∨ 77 = 115 ∨ 77 = 116) by decide) rfl)
        have t_67 : (M63.2.1 77 6).toInt = (N.2.1 77 6).toInt := congrArg Int32.toInt c_66
        have b_68 := g_b hG51 (a := 77) (i := 8) (lo := 0) (hi := 5) rfl rfl
        rcases (show r49.toInt = 0 ∨ r49.toInt = 1 by (first | (clear q3 h47 h48; omega) | (clear q3 h47; omega) | omega)) with h69 | h69
        · skip
          have p_70 := p_62 (by (first | (clear q3 h47 h48; omega) | (clear q3 h47; omega) | omega))
          clear p_56 p_57 p_58 p_59 p_60 p_61 p_62
          have z_71 := (g13.trans (q_w (show (N.2.1 77 68).toInt = 1 by (first | (clear q3 h47 h48; omega) | (clear q3 h47; omega) | omega)) rfl rfl rfl)).trans p_70
          refine b_ine_f (pc := 88) rw_227_88 (A := r49.toInt) rfl (by (first | (clear q3 h47 h48; omega) | (clear q3 h47; omega) | omega)) (to_c (pc := 91) rw_227_91 (x := (-1 : Int32)) rfl rfl (to_r0 (pc := 92) rw_227_92 ?_))
          have k_72 : (-1 : Int32).toInt = -1 := rfl
          have c_73 : M63.2.1 77 58 = (N.2.1 77 58) := (F_n F50 (show ¬ (77 = 77 ∧ (58 = 4 ∨ 58 = 5 ∨ 7 ≤ 58 ∧ 58 ≤ 10) ∨ 77 = 77 ∧ (58 = 59 ∨ 65 ≤ 58 ∧ 58 ≤ 69) ∨ 112 ≤ 77 ∧ 77 ≤ 114 ∧ 40 ≤ 58 ∨ 77 = 115 ∨ 77 = 116) by decide) rfl)
          have t_74 : (M63.2.1 77 58).toInt = (N.2.1 77 58).toInt := congrArg Int32.toInt c_73
          exact h (-1 : Int32) M63 hG51 F64 (by (first | (clear q3 h47 h48; omega) | (clear q3 h47; omega) | omega)) (fun _ => Or.inl ⟨_, _, z_71, rfl⟩) (by (first | (clear q3 h47 h48; omega) | (clear q3 h47; omega) | omega)) (by (first | (clear q3 h47 h48; omega) | (clear q3 h47; omega) | omega))
        · skip
          have p_75 := p_56 (by (first | (clear q3 h47 h48; omega) | (clear q3 h47; omega) | omega))
          have p_76 := p_57 (by (first | (clear q3 h47 h48; omega) | (clear q3 h47; omega) | omega))
          have p_77 := p_58 (by (first | (clear q3 h47 h48; omega) | (clear q3 h47; omega) | omega))
          have p_78 := p_59 (by (first | (clear q3 h47 h48; omega) | (clear q3 h47; omega) | omega))
          have p_79 := p_60 (by (first | (clear q3 h47 h48; omega) | (clear q3 h47; omega) | omega))
          have p_80 := p_61 (by (first | (clear q3 h47 h48; omega) | (clear q3 h47; omega) | omega))
          clear p_56 p_57 p_58 p_59 p_60 p_61 p_62
          have z_81 := (g13.trans (q_w (show (N.2.1 77 68).toInt = 1 by (first | (clear q3 h47 h48; omega) | (clear q3 h47; omega) | omega)) rfl rfl rfl)).trans p_80
          refine b_ine_t (pc := 88) rw_227_88 (A := r49.toInt) rfl (by (first | (clear q3 h47 h48; omega) | (clear q3 h47; omega) | omega)) ?_
          have j_82 := (FA_f (tg_386 F50) g2)
          have j_83 := (TR_f (tg_459 F50) g9)
          have j_84 := (W9_f (tg_460 F50) g10)
          have j_85 := (PLk_f (tg_461 F50) g11)
          have c_86 : M63.2.1 77 58 = (N.2.1 77 58) := (F_n F50 (show ¬ (77 = 77 ∧ (58 = 4 ∨ 58 = 5 ∨ 7 ≤ 58 ∧ 58 ≤ 10) ∨ 77 = 77 ∧ (58 = 59 ∨ 65 ≤ 58 ∧ 58 ≤ 69) ∨ 112 ≤ 77 ∧ 77 ≤ 114 ∧ 40 ≤ 58 ∨ 77 = 115 ∨ 77 = 116) by decide) rfl)
          have t_87 : (M63.2.1 77 58).toInt = (N.2.1 77 58).toInt := congrArg Int32.toInt c_86
          exact ih M63 (u1) (u2) hG51 F64 (by (first | (clear q3 h47 h48; omega) | (clear q3 h47; omega) | omega)) j_82 p_77 p_79 (by (first | (clear q3 h47 h48; omega) | (clear q3 h47; omega) | omega)) (by (first | (clear q3 h47 h48; omega) | (clear q3 h47; omega) | omega)) (by (first | (clear q3 h47 h48; omega) | (clear q3 h47; omega) | omega)) (by (first | (clear q3 h47 h48; omega) | (clear q3 h47; omega) | omega)) j_83 j_84 j_85 p_78 z_81 (by (first | (clear q3 h47 h48; omega) | (clear q3 h47; omega) | omega)) (by (first | (clear q3 h47 h48; omega) | (clear q3 h47; omega) | omega))
      · refine to_an (pc := 74) rw_227_74 rfl (s_v (pc := 75) rw_227_75 (dp0 hd (by decide)) (ls0 := [.ref 77, .null, .null, .null, .null, .null]) rfl (Nat.le_of_ble_eq_true rfl) (Nat.le_of_ble_eq_true rfl) rfl (to_rc rfl rfl rfl (g_o hG rfl)) rfl (E_225 hX (dp1 hd (by decide)) hG (by (first | (clear q3 h47; omega) | (clear q3; omega) | omega)) g3 g2 (by (first | (clear q3 h47; omega) | (clear q3; omega) | omega)) g4 (by (first | (clear q3 h47; omega) | (clear q3; omega) | omega)) (by (first | (clear q3 h47; omega) | (clear q3; omega) | omega)) (by (first | (clear q3 h47; omega) | (clear q3; omega) | omega)) g9 g10 g11 g12 (t := t) (nn := nn) (a := (N.2.1 77 10).toInt) (sg := sg) (fun r88 M102 hG90 F89 p_91 p_92 p_93 p_94 p_95 p_96 p_97 p_98 p_99 p_100 p_101 => ?_)))
        have F103 := FR.c F0 F89 tg_395
        have b_104 := g_b hG90 (a := 77) (i := 7) (lo := 0) (hi := 500) rfl rfl
        have c_105 : M102.2.1 77 6 = (N.2.1 77 6) := (F_n F89 (show ¬ (77 = 77 ∧ (6 = 4 ∨ 6 = 5 ∨ 7 ≤ 6 ∧ 6 ≤ 10) ∨ 77 = 77 ∧ (6 = 59 ∨ 65 ≤ 6 ∧ 6 ≤ 69) ∨ 112 ≤ 77 ∧ 77 ≤ 114 ∧ 40 ≤ 6 ∨ 77 = 115 ∨ 77 = 116) by decide) rfl)
        have t_106 : (M102.2.1 77 6).toInt = (N.2.1 77 6).toInt := congrArg Int32.toInt c_105
        rcases (show r88.toInt = 0 ∨ r88.toInt = 1 by (first | (clear q3 h47; omega) | (clear q3; omega) | omega)) with h107 | h107
        · skip
          have p_108 := p_101 (by (first | (clear q3 h47; omega) | (clear q3; omega) | omega))
          clear p_95 p_96 p_97 p_98 p_99 p_100 p_101
          have z_109 := (g13.trans (q_w (show (N.2.1 77 68).toInt = 0 by (first | (clear q3 h47; omega) | (clear q3; omega) | omega)) rfl rfl rfl)).trans p_108
          refine b_ieq_t (pc := 78) rw_227_78 (A := r88.toInt) rfl (by (first | (clear q3 h47; omega) | (clear q3; omega) | omega)) (to_c (pc := 91) rw_227_91 (x := (-1 : Int32)) rfl rfl (to_r0 (pc := 92) rw_227_92 ?_))
          have k_110 : (-1 : Int32).toInt = -1 := rfl
          have c_111 : M102.2.1 77 58 = (N.2.1 77 58) := (F_n F89 (show ¬ (77 = 77 ∧ (58 = 4 ∨ 58 = 5 ∨ 7 ≤ 58 ∧ 58 ≤ 10) ∨ 77 = 77 ∧ (58 = 59 ∨ 65 ≤ 58 ∧ 58 ≤ 69) ∨ 112 ≤ 77 ∧ 77 ≤ 114 ∧ 40 ≤ 58 ∨ 77 = 115 ∨ 77 = 116) by decide) rfl)
          have t_112 : (M102.2.1 77 58).toInt = (N.2.1 77 58).toInt := congrArg Int32.toInt c_111
          exact h (-1 : Int32) M102 hG90 F103 (by (first | (clear q3 h47; omega) | (clear q3; omega) | omega)) (fun _ => Or.inl ⟨_, _, z_109, rfl⟩) (by (first | (clear q3 h47; omega) | (clear q3; omega) | omega)) (by (first | (clear q3 h47; omega) | (clear q3; omega) | omega))
        · skip
          have p_113 := p_95 (by (first | (clear q3 h47; omega) | (clear q3; omega) | omega))
          have p_114 := p_96 (by (first | (clear q3 h47; omega) | (clear q3; omega) | omega))
          have p_115 := p_97 (by (first | (clear q3 h47; omega) | (clear q3; omega) | omega))
          have p_116 := p_98 (by (first | (clear q3 h47; omega) | (clear q3; omega) | omega))
          have p_117 := p_99 (by (first | (clear q3 h47; omega) | (clear q3; omega) | omega))
          have p_118 := p_100 (by (first | (clear q3 h47; omega) | (clear q3; omega) | omega))
          clear p_95 p_96 p_97 p_98 p_99 p_100 p_101
          have z_119 := (g13.trans (q_w (show (N.2.1 77 68).toInt = 0 by (first | (clear q3 h47; omega) | (clear q3; omega) | omega)) rfl rfl rfl)).trans p_118
          refine b_ieq_f (pc := 78) rw_227_78 (A := r88.toInt) rfl (by (first | (clear q3 h47; omega) | (clear q3; omega) | omega)) (to_go (pc := 81) rw_227_81 ?_)
          have j_120 := (FA_f (tg_386 F89) g2)
          have j_121 := (TR_f (tg_459 F89) g9)
          have j_122 := (W9_f (tg_460 F89) g10)
          have j_123 := (PLk_f (tg_461 F89) g11)
          have c_124 : M102.2.1 77 58 = (N.2.1 77 58) := (F_n F89 (show ¬ (77 = 77 ∧ (58 = 4 ∨ 58 = 5 ∨ 7 ≤ 58 ∧ 58 ≤ 10) ∨ 77 = 77 ∧ (58 = 59 ∨ 65 ≤ 58 ∧ 58 ≤ 69) ∨ 112 ≤ 77 ∧ 77 ≤ 114 ∧ 40 ≤ 58 ∨ 77 = 115 ∨ 77 = 116) by decide) rfl)
          have t_125 : (M102.2.1 77 58).toInt = (N.2.1 77 58).toInt := congrArg Int32.toInt c_124
          have b_126 := g_b hG90 (a := 77) (i := 8) (lo := 0) (hi := 5) rfl rfl
          exact ih M102 (u1) (u2) hG90 F103 (by (first | (clear q3 h47; omega) | (clear q3; omega) | omega)) j_120 p_115 p_117 (by (first | (clear q3 h47; omega) | (clear q3; omega) | omega)) (by (first | (clear q3 h47; omega) | (clear q3; omega) | omega)) (by (first | (clear q3 h47; omega) | (clear q3; omega) | omega)) (by (first | (clear q3 h47; omega) | (clear q3; omega) | omega)) j_121 j_122 j_123 p_116 z_119 (by (first | (clear q3 h47; omega) | (clear q3; omega) | omega)) (by (first | (clear q3 h47; omega) | (clear q3; omega) | omega))
    · refine to_an (pc := 53) rw_227_53 rfl (tt_gI (pc := 54) rw_227_54 (g_o hG rfl) (v := (N.2.1 77 68)) rfl (b_ieq (pc := 57) rw_227_57 (A := (N.2.1 77 68).toInt) rfl (fun h127 => ?_) (fun h127 => ?_)))
      · refine to_an (pc := 67) rw_227_67 rfl (tt_gI (pc := 68) rw_227_68 (g_o hG rfl) (v := (N.2.1 77 68)) rfl (b_ine_f (pc := 71) rw_227_71 (A := (N.2.1 77 68).toInt) rfl (by (first | (clear q3; omega) | omega)) (to_an (pc := 74) rw_227_74 rfl (s_v (pc := 75) rw_227_75 (dp0 hd (by decide)) (ls0 := [.ref 77, .null, .null, .null, .null, .null]) rfl (Nat.le_of_ble_eq_true rfl) (Nat.le_of_ble_eq_true rfl) rfl (to_rc rfl rfl rfl (g_o hG rfl)) rfl (E_225 hX (dp1 hd (by decide)) hG (by (first | (clear q3; omega) | omega)) g3 g2 (by (first | (clear q3; omega) | omega)) g4 (by (first | (clear q3; omega) | omega)) (by (first | (clear q3; omega) | omega)) (by (first | (clear q3; omega) | omega)) g9 g10 g11 g12 (t := t) (nn := nn) (a := (N.2.1 77 10).toInt) (sg := sg) (fun r128 M142 hG130 F129 p_131 p_132 p_133 p_134 p_135 p_136 p_137 p_138 p_139 p_140 p_141 => ?_))))))
        have F143 := FR.c F0 F129 tg_395
        have b_144 := g_b hG130 (a := 77) (i := 7) (lo := 0) (hi := 500) rfl rfl
        have c_145 : M142.2.1 77 6 = (N.2.1 77 6) := (F_n F129 (show ¬ (77 = 77 ∧ (6 = 4 ∨ 6 = 5 ∨ 7 ≤ 6 ∧ 6 ≤ 10) ∨ 77 = 77 ∧ (6 = 59 ∨ 65 ≤ 6 ∧ 6 ≤ 69) ∨ 112 ≤ 77 ∧ 77 ≤ 114 ∧ 40 ≤ 6 ∨ 77 = 115 ∨ 77 = 116) by decide) rfl)
        have t_146 : (M142.2.1 77 6).toInt = (N.2.1 77 6).toInt := congrArg Int32.toInt c_145
        rcases (show r128.toInt = 0 ∨ r128.toInt = 1 by (first | (clear q3; omega) | omega)) with h147 | h147
        · skip
          have p_148 := p_141 (by (first | (clear q3; omega) | omega))
          clear p_135 p_136 p_137 p_138 p_139 p_140 p_141
          have z_149 := (g13.trans (q_w (show (N.2.1 77 68).toInt = 0 by (first | (clear q3; omega) | omega)) rfl rfl rfl)).trans p_148
          refine b_ieq_t (pc := 78) rw_227_78 (A := r128.toInt) rfl (by (first | (clear q3; omega) | omega)) (to_c (pc := 91) rw_227_91 (x := (-1 : Int32)) rfl rfl (to_r0 (pc := 92) rw_227_92 ?_))
          have k_150 : (-1 : Int32).toInt = -1 := rfl
          have c_151 : M142.2.1 77 58 = (N.2.1 77 58) := (F_n F129 (show ¬ (77 = 77 ∧ (58 = 4 ∨ 58 = 5 ∨ 7 ≤ 58 ∧ 58 ≤ 10) ∨ 77 = 77 ∧ (58 = 59 ∨ 65 ≤ 58 ∧ 58 ≤ 69) ∨ 112 ≤ 77 ∧ 77 ≤ 114 ∧ 40 ≤ 58 ∨ 77 = 115 ∨ 77 = 116) by decide) rfl)
          have t_152 : (M142.2.1 77 58).toInt = (N.2.1 77 58).toInt := congrArg Int32.toInt c_151
          exact h (-1 : Int32) M142 hG130 F143 (by (first | (clear q3; omega) | omega)) (fun _ => Or.inl ⟨_, _, z_149, rfl⟩) (by (first | (clear q3; omega) | omega)) (by (first | (clear q3; omega) | omega))
        · skip
          have p_153 := p_135 (by (first | (clear q3; omega) | omega))
          have p_154 := p_136 (by (first | (clear q3; omega) | omega))
          have p_155 := p_137 (by (first | (clear q3; omega) | omega))
          have p_156 := p_138 (by (first | (clear q3; omega) | omega))
          have p_157 := p_139 (by (first | (clear q3; omega) | omega))
          have p_158 := p_140 (by (first | (clear q3; omega) | omega))
          clear p_135 p_136 p_137 p_138 p_139 p_140 p_141
          have z_159 := (g13.trans (q_w (show (N.2.1 77 68).toInt = 0 by (first | (clear q3; omega) | omega)) rfl rfl rfl)).trans p_158
          refine b_ieq_f (pc := 78) rw_227_78 (A := r128.toInt) rfl (by (first | (clear q3; omega) | omega)) (to_go (pc := 81) rw_227_81 ?_)
          have j_160 := (FA_f (tg_386 F129) g2)
          have j_161 := (TR_f (tg_459 F129) g9)
          have j_162 := (W9_f (tg_460 F129) g10)
          have j_163 := (PLk_f (tg_461 F129) g11)
          have c_164 : M142.2.1 77 58 = (N.2.1 77 58) := (F_n F129 (show ¬ (77 = 77 ∧ (58 = 4 ∨ 58 = 5 ∨ 7 ≤ 58 ∧ 58 ≤ 10) ∨ 77 = 77 ∧ (58 = 59 ∨ 65 ≤ 58 ∧ 58 ≤ 69) ∨ 112 ≤ 77 ∧ 77 ≤ 114 ∧ 40 ≤ 58 ∨ 77 = 115 ∨ 77 = 116) by decide) rfl)
          have t_165 : (M142.2.1 77 58).toInt = (N.2.1 77 58).toInt := congrArg Int32.toInt c_164
          have b_166 := g_b hG130 (a := 77) (i := 8) (lo := 0) (hi := 5) rfl rfl
          exact ih M142 (u1) (u2) hG130 F143 (by (first | (clear q3; omega) | omega)) j_160 p_155 p_157 (by (first | (clear q3; omega) | omega)) (by (first | (clear q3; omega) | omega)) (by (first | (clear q3; omega) | omega)) (by (first | (clear q3; omega) | omega)) j_161 j_162 j_163 p_156 z_159 (by (first | (clear q3; omega) | omega)) (by (first | (clear q3; omega) | omega))
      · refine to_an (pc := 60) rw_227_60 rfl (tt_gI (pc := 61) rw_227_61 (g_o hG rfl) (v := (N.2.1 77 67)) rfl (b_ile (pc := 64) rw_227_64 (A := (N.2.1 77 67).toInt) rfl (fun h167 => ?_) (fun h167 => ?_)))
        · refine to_an (pc := 93) rw_227_93 rfl (to_c (pc := 94) rw_227_94 (x := (1 : Int32)) rfl rfl (s_v (pc := 95) rw_227_95 (dp0 hd (by decide)) (ls0 := [.ref 77, .int (1 : Int32), .null, .null, .null]) rfl (Nat.le_of_ble_eq_true rfl) (Nat.le_of_ble_eq_true rfl) rfl (to_rc rfl rfl rfl (g_o hG rfl)) rfl ?_))
          have k_168 : (1 : Int32).toInt = 1 := rfl
          refine C_223 hX (dp1 hd (by decide)) hG (by (first | (clear q3 h127; omega) | (clear q3; omega) | omega)) (by (first | (clear q3 h127; omega) | (clear q3; omega) | omega)) (by (first | (clear q3 h127; omega) | (clear q3; omega) | omega)) g3 (l := (1 : Int32)) (fun M174 hG170 F169 p_171 p_172 p_173 => ?_)
          have F175 := FR.c F0 F169 tg_396
          have b_176 := g_b hG170 (a := 77) (i := 65) (lo := 0) (hi := 48) rfl rfl
          have c_177 : M174.2.1 77 67 = (N.2.1 77 67) := (F_n F169 (show ¬ (77 = 77 ∧ (67 = 59 ∨ 67 = 65 ∨ 67 = 66) ∨ 112 ≤ 77 ∧ 77 ≤ 114 ∧ 40 ≤ 67 ∨ 77 = 116) by decide) rfl)
          have t_178 : (M174.2.1 77 67).toInt = (N.2.1 77 67).toInt := congrArg Int32.toInt c_177
          have b_179 := g_b hG170 (a := 77) (i := 59) (lo := 0) (hi := 40) rfl rfl
          have z_180 := QK_z p_171 (by (first | (clear q3 h127 p_173; omega) | (clear q3 p_173; omega) | omega)) (by (first | (clear q3 h127 p_173; omega) | (clear q3 p_173; omega) | omega)) (p_173 rfl)
          have z_181 := QE_z (p_172.trans g12) z_180
          refine to_an (pc := 98) rw_227_98 rfl (to_an (pc := 99) rw_227_99 rfl (tt_gI (pc := 100) rw_227_100 (g_o hG170 rfl) (v := (M174.2.1 77 59)) rfl (s_pI (pc := 103) rw_227_103 hG170 rfl (fun M183 W182 => ?_))))
          have hG184 := g_w hG170 W182 (A := (M174.2.1 77 59).toInt) rfl (lo := 0) (hi := 40) rfl rfl (by (first | (clear q3 h127 p_173; omega) | (clear q3 p_173; omega) | omega)) (by decide)
          have F185 := FR.w F175 W182 (show 77 = 77 ∧ (1 ≤ 58 ∧ 58 ≤ 2 ∨ 4 ≤ 58 ∧ 58 ≤ 10 ∨ 57 ≤ 58 ∧ 58 ≤ 59 ∨ 65 ≤ 58 ∧ 58 ≤ 69) ∨ 112 ≤ 77 ∧ 77 ≤ 116 by decide)
          refine to_an (pc := 106) rw_227_106 rfl (to_c (pc := 107) rw_227_107 (x := (1 : Int32)) rfl rfl (s_pZ (pc := 108) rw_227_108 hG184 rfl (A := 1) rfl (by (first | (clear q3 h127 p_173; omega) | (clear q3 p_173; omega) | omega)) (fun M187 W186 => ?_)))
          have hG188 := g_w hG184 W186 (A := 1) rfl (lo := 0) (hi := 1) rfl rfl (by (first | (clear q3 h127 p_173; omega) | (clear q3 p_173; omega) | omega)) (by decide)
          have F189 := FR.w F185 W186 (show 77 = 77 ∧ (1 ≤ 57 ∧ 57 ≤ 2 ∨ 4 ≤ 57 ∧ 57 ≤ 10 ∨ 57 ≤ 57 ∧ 57 ≤ 59 ∨ 65 ≤ 57 ∧ 57 ≤ 69) ∨ 112 ≤ 77 ∧ 77 ≤ 116 by decide)
          refine to_c (pc := 111) rw_227_111 (x := (0 : Int32)) rfl rfl (to_isn (pc := 112) rw_227_112 (ls2 := [.ref 77, u1, .int (0 : Int32)]) rfl rfl ?_)
          have k_190 : (0 : Int32).toInt = 0 := rfl
          have c_191 : M187.2.1 77 58 = (M174.2.1 77 59) := (W_n W186 (by decide) (W_e W182))
          have t_192 : (M187.2.1 77 58).toInt = (M174.2.1 77 59).toInt := congrArg Int32.toInt c_191
          exact (U_227_0 (n := n) (t := t) (nn := nn) (sg := sg) hX hd q1 q2 q3 q4 q5 q6 h ((40 - (0 : Int32).toInt).toNat + 1)) M187 (u1) (0 : Int32) hG188 F189 (by (first | (clear q3 h127 p_173; omega) | (clear q3 p_173; omega) | omega)) (by (first | (clear q3 h127 p_173; omega) | (clear q3 p_173; omega) | omega)) (by (first | (clear q3 h127 p_173; omega) | (clear q3 p_173; omega) | omega)) (by (first | (clear q3 h127 p_173; omega) | (clear q3 p_173; omega) | omega)) ((g13.trans (q_w (show (N.2.1 77 68).toInt = 1 by (first | (clear q3 h127 p_173; omega) | (clear q3 p_173; omega) | omega)) rfl rfl rfl)).trans ((q_end (by (first | (clear q3 h127 p_173; omega) | (clear q3 p_173; omega) | omega)) (by (first | (clear q3 h127 p_173; omega) | (clear q3 p_173; omega) | omega)) (by (first | (clear q3 h127 p_173; omega) | (clear q3 p_173; omega) | omega)) (by (first | (clear q3 h127 p_173; omega) | (clear q3 p_173; omega) | omega))).trans (congrArg Sum.inr (by (first | (clear q3 h127 p_173; omega) | (clear q3 p_173; omega) | omega))))) (by (first | (clear q3 h127 p_173; omega) | (clear q3 p_173; omega) | omega))
        · refine to_an (pc := 67) rw_227_67 rfl (tt_gI (pc := 68) rw_227_68 (g_o hG rfl) (v := (N.2.1 77 68)) rfl (b_ine_t (pc := 71) rw_227_71 (A := (N.2.1 77 68).toInt) rfl (by (first | (clear q3 h127; omega) | (clear q3; omega) | omega)) (to_an (pc := 84) rw_227_84 rfl (s_v (pc := 85) rw_227_85 (dp0 hd (by decide)) (ls0 := [.ref 77, .null]) rfl (Nat.le_of_ble_eq_true rfl) (Nat.le_of_ble_eq_true rfl) rfl (to_rc rfl rfl rfl (g_o hG rfl)) rfl (E_226 hX (dp1 hd (by decide)) hG (by (first | (clear q3 h127; omega) | (clear q3; omega) | omega)) g3 (by (first | (clear q3 h127; omega) | (clear q3; omega) | omega)) g4 (by (first | (clear q3 h127; omega) | (clear q3; omega) | omega)) (by (first | (clear q3 h127; omega) | (clear q3; omega) | omega)) (by (first | (clear q3 h127; omega) | (clear q3; omega) | omega)) g9 g10 g11 g12 (by (first | (clear q3 h127; omega) | (clear q3; omega) | omega)) (t := t) (nn := nn) (a := (N.2.1 77 10).toInt) (sg := sg) (fun r193 M207 hG195 F194 p_196 p_197 p_198 p_199 p_200 p_201 p_202 p_203 p_204 p_205 p_206 => ?_))))))
          have F208 := FR.c F0 F194 tg_395
          have b_209 := g_b hG195 (a := 77) (i := 7) (lo := 0) (hi := 500) rfl rfl
          have c_210 : M207.2.1 77 6 = (N.2.1 77 6) := (F_n F194 (show ¬ (77 = 77 ∧ (6 = 4 ∨ 6 = 5 ∨ 7 ≤ 6 ∧ 6 ≤ 10) ∨ 77 = 77 ∧ (6 = 59 ∨ 65 ≤ 6 ∧ 6 ≤ 69) ∨ 112 ≤ 77 ∧ 77 ≤ 114 ∧ 40 ≤ 6 ∨ 77 = 115 ∨ 77 = 116) by decide) rfl)
          have t_211 : (M207.2.1 77 6).toInt = (N.2.1 77 6).toInt := congrArg Int32.toInt c_210
          have b_212 := g_b hG195 (a := 77) (i := 8) (lo := 0) (hi := 5) rfl rfl
          rcases (show r193.toInt = 0 ∨ r193.toInt = 1 by (first | (clear q3 h127; omega) | (clear q3; omega) | omega)) with h213 | h213
          · skip
            have p_214 := p_206 (by (first | (clear q3 h127; omega) | (clear q3; omega) | omega))
            clear p_200 p_201 p_202 p_203 p_204 p_205 p_206
            have z_215 := (g13.trans (q_w (show (N.2.1 77 68).toInt = 1 by (first | (clear q3 h127; omega) | (clear q3; omega) | omega)) rfl rfl rfl)).trans p_214
            refine b_ine_f (pc := 88) rw_227_88 (A := r193.toInt) rfl (by (first | (clear q3 h127; omega) | (clear q3; omega) | omega)) (to_c (pc := 91) rw_227_91 (x := (-1 : Int32)) rfl rfl (to_r0 (pc := 92) rw_227_92 ?_))
            have k_216 : (-1 : Int32).toInt = -1 := rfl
            have c_217 : M207.2.1 77 58 = (N.2.1 77 58) := (F_n F194 (show ¬ (77 = 77 ∧ (58 = 4 ∨ 58 = 5 ∨ 7 ≤ 58 ∧ 58 ≤ 10) ∨ 77 = 77 ∧ (58 = 59 ∨ 65 ≤ 58 ∧ 58 ≤ 69) ∨ 112 ≤ 77 ∧ 77 ≤ 114 ∧ 40 ≤ 58 ∨ 77 = 115 ∨ 77 = 116) by decide) rfl)
            have t_218 : (M207.2.1 77 58).toInt = (N.2.1 77 58).toInt := congrArg Int32.toInt c_217
            exact h (-1 : Int32) M207 hG195 F208 (by (first | (clear q3 h127; omega) | (clear q3; omega) | omega)) (fun _ => Or.inl ⟨_, _, z_215, rfl⟩) (by (first | (clear q3 h127; omega) | (clear q3; omega) | omega)) (by (first | (clear q3 h127; omega) | (clear q3; omega) | omega))
          · skip
            have p_219 := p_200 (by (first | (clear q3 h127; omega) | (clear q3; omega) | omega))
            have p_220 := p_201 (by (first | (clear q3 h127; omega) | (clear q3; omega) | omega))
            have p_221 := p_202 (by (first | (clear q3 h127; omega) | (clear q3; omega) | omega))
            have p_222 := p_203 (by (first | (clear q3 h127; omega) | (clear q3; omega) | omega))
            have p_223 := p_204 (by (first | (clear q3 h127; omega) | (clear q3; omega) | omega))
            have p_224 := p_205 (by (first | (clear q3 h127; omega) | (clear q3; omega) | omega))
            clear p_200 p_201 p_202 p_203 p_204 p_205 p_206
            have z_225 := (g13.trans (q_w (show (N.2.1 77 68).toInt = 1 by (first | (clear q3 h127; omega) | (clear q3; omega) | omega)) rfl rfl rfl)).trans p_224
            refine b_ine_t (pc := 88) rw_227_88 (A := r193.toInt) rfl (by (first | (clear q3 h127; omega) | (clear q3; omega) | omega)) ?_
            have j_226 := (FA_f (tg_386 F194) g2)
            have j_227 := (TR_f (tg_459 F194) g9)
            have j_228 := (W9_f (tg_460 F194) g10)
            have j_229 := (PLk_f (tg_461 F194) g11)
            have c_230 : M207.2.1 77 58 = (N.2.1 77 58) := (F_n F194 (show ¬ (77 = 77 ∧ (58 = 4 ∨ 58 = 5 ∨ 7 ≤ 58 ∧ 58 ≤ 10) ∨ 77 = 77 ∧ (58 = 59 ∨ 65 ≤ 58 ∧ 58 ≤ 69) ∨ 112 ≤ 77 ∧ 77 ≤ 114 ∧ 40 ≤ 58 ∨ 77 = 115 ∨ 77 = 116) by decide) rfl)
            have t_231 : (M207.2.1 77 58).toInt = (N.2.1 77 58).toInt := congrArg Int32.toInt c_230
            exact ih M207 (u1) (u2) hG195 F208 (by (first | (clear q3 h127; omega) | (clear q3; omega) | omega)) j_226 p_221 p_223 (by (first | (clear q3 h127; omega) | (clear q3; omega) | omega)) (by (first | (clear q3 h127; omega) | (clear q3; omega) | omega)) (by (first | (clear q3 h127; omega) | (clear q3; omega) | omega)) (by (first | (clear q3 h127; omega) | (clear q3; omega) | omega)) j_227 j_228 j_229 p_222 z_225 (by (first | (clear q3 h127; omega) | (clear q3; omega) | omega)) (by (first | (clear q3 h127; omega) | (clear q3; omega) | omega))
set_option maxRecDepth 4000 in
set_option maxHeartbeats 0 in
theorem E_227 {X : mm_X} {d : Nat} {M : mm_M} {Q : Option Value → mm_M → Prop} {n : Int32} {t : Nat → Int} {nn : Int} {sg : x_S} (hX : g_X X) (hd : 3 ≤ d) (hG : g_G M) (q1 : (M.2.1 77 7).toInt ≤ (M.2.1 77 6).toInt) (q2 : FA M) (q3 : 0 ≤ n.toInt ∧ n.toInt ≤ (M.2.1 77 1).toInt → n.toInt = nn) (q4 : TR M t nn) (q5 : W9 M) (q6 : PLk M sg) (h : ∀ (r : Int32) (M1 : mm_M), g_G M1 → FR md_qu M M1 → (n.toInt < 0 ∨ (M.2.1 77 1).toInt < n.toInt → r.toInt = -2) → ((0 ≤ n.toInt ∧ n.toInt ≤ (M.2.1 77 1).toInt → QAN (x_qq t nn sg 0 0 0 (x_sk t nn 0)) r.toInt)) → (r.toInt < 0 → (M1.2.1 77 58).toInt = (M.2.1 77 58).toInt) → (0 ≤ r.toInt → (M1.2.1 77 58).toInt = r.toInt) → Q (some (.int r)) M1) : mm_T X d 226 0 [.ref 77, .int n, .null] [] M Q := by
  have F0 : FR md_qu M M := FR.rf
  have b_232 := g_b hG (a := 77) (i := 7) (lo := 0) (hi := 500) rfl rfl
  have b_233 := g_b hG (a := 77) (i := 6) (lo := 0) (hi := 500) rfl rfl
  have b_234 := g_b hG (a := 77) (i := 1) (lo := 0) (hi := 500) rfl rfl
  have b_235 := g_b hG (a := 77) (i := 58) (lo := 0) (hi := 40) rfl rfl
  refine to_an (pc := 0) rw_227_0 rfl (to_c (pc := 1) rw_227_1 (x := (0 : Int32)) rfl rfl (s_pI (pc := 2) rw_227_2 hG rfl (fun M237 W236 => ?_)))
  have hG238 := g_wf hG W236 rfl rfl (by decide)
  have F239 := FR.w F0 W236 (show 77 = 77 ∧ (1 ≤ 2 ∧ 2 ≤ 2 ∨ 4 ≤ 2 ∧ 2 ≤ 10 ∨ 57 ≤ 2 ∧ 2 ≤ 59 ∨ 65 ≤ 2 ∧ 2 ≤ 69) ∨ 112 ≤ 77 ∧ 77 ≤ 116 by decide)
  refine to_an (pc := 5) rw_227_5 rfl (to_in (pc := 6) rw_227_6 rfl (s_v (pc := 7) rw_227_7 (dp0 hd (by decide)) (ls0 := [.ref 77, .int n]) rfl (Nat.le_of_ble_eq_true rfl) (Nat.le_of_ble_eq_true rfl) rfl (to_rc rfl rfl rfl (g_o hG238 rfl)) rfl ?_))
  have c_240 : M237.2.1 77 1 = (M.2.1 77 1) := (W_n W236 (by decide) rfl)
  have t_241 : (M237.2.1 77 1).toInt = (M.2.1 77 1).toInt := congrArg Int32.toInt c_240
  have c_242 : M237.2.1 77 7 = (M.2.1 77 7) := (W_n W236 (by decide) rfl)
  have t_243 : (M237.2.1 77 7).toInt = (M.2.1 77 7).toInt := congrArg Int32.toInt c_242
  have c_244 : M237.2.1 77 6 = (M.2.1 77 6) := (W_n W236 (by decide) rfl)
  have t_245 : (M237.2.1 77 6).toInt = (M.2.1 77 6).toInt := congrArg Int32.toInt c_244
  have j_246 := (TR_f (fun a i z => W_n W236 (tg_88 a i z) rfl) q4)
  have j_247 := (W9_f (fun a i z => W_n W236 (tg_89 a i z) rfl) q5)
  refine E_163 hX (dp1 hd (by decide)) hG238 (by (first | (clear q3; omega) | omega)) (by (first | (clear q3; omega) | omega)) j_246 j_247 (n := n) (fun r248 M257 hG250 F249 p_251 p_252 p_253 p_254 p_255 p_256 => ?_)
  have F258 := FR.c F239 F249 tg_397
  have b_259 := g_b hG250 (a := 77) (i := 7) (lo := 0) (hi := 500) rfl rfl
  have b_260 := g_b hG250 (a := 77) (i := 6) (lo := 0) (hi := 500) rfl rfl
  have b_261 := g_b hG250 (a := 77) (i := 1) (lo := 0) (hi := 500) rfl rfl
  rcases (show r248.toInt = 0 ∨ r248.toInt = 1 by (first | (clear q3 p_254 p_255 p_256; omega) | omega)) with h262 | h262
  · skip
    clear p_256
    refine b_ine_f (pc := 10) rw_227_10 (A := r248.toInt) rfl (by (first | (clear q3 p_254 p_255 p_256; omega) | omega)) (to_c (pc := 13) rw_227_13 (x := (-2 : Int32)) rfl rfl (to_r0 (pc := 15) rw_227_15 ?_))
    have k_263 : (-2 : Int32).toInt = -2 := rfl
    have c_264 : M257.2.1 77 58 = (M.2.1 77 58) := (F_n F249 (show ¬ (77 = 77 ∧ (58 = 1 ∨ 4 ≤ 58 ∧ 58 ≤ 10)) by decide) (W_n W236 (by decide) rfl))
    have t_265 : (M257.2.1 77 58).toInt = (M.2.1 77 58).toInt := congrArg Int32.toInt c_264
    exact h (-2 : Int32) M257 hG250 F258 (by (first | (clear q3 p_254 p_255 p_256; omega) | omega)) (fun z => by exfalso; omega) (by (first | (clear q3 p_254 p_255 p_256; omega) | omega)) (by (first | (clear q3 p_254 p_255 p_256; omega) | omega))
  · skip
    have p_266 := p_256 (by (first | (clear q3 p_254 p_255 p_256; omega) | omega))
    clear p_256
    have b_267 := g_b hG250 (a := 77) (i := 10) (lo := 0) (hi := 500) rfl rfl
    have z_268 := p_266.2
    refine b_ine_t (pc := 10) rw_227_10 (A := r248.toInt) rfl (by (first | (clear q3 p_254 p_255 p_256; omega) | omega)) (to_an (pc := 16) rw_227_16 rfl (to_c (pc := 17) rw_227_17 (x := (0 : Int32)) rfl rfl (s_pI (pc := 18) rw_227_18 hG250 rfl (fun M270 W269 => ?_))))
    have hG271 := g_w hG250 W269 (A := 0) rfl (lo := 0) (hi := 40) rfl rfl (by (first | (clear q3 p_254 p_255 p_256; omega) | omega)) (by decide)
    have F272 := FR.w F258 W269 (show 77 = 77 ∧ (1 ≤ 59 ∧ 59 ≤ 2 ∨ 4 ≤ 59 ∧ 59 ≤ 10 ∨ 57 ≤ 59 ∧ 59 ≤ 59 ∨ 65 ≤ 59 ∧ 59 ≤ 69) ∨ 112 ≤ 77 ∧ 77 ≤ 116 by decide)
    refine to_an (pc := 21) rw_227_21 rfl (to_c (pc := 22) rw_227_22 (x := (0 : Int32)) rfl rfl (s_pI (pc := 23) rw_227_23 hG271 rfl (fun M274 W273 => ?_)))
    have hG275 := g_w hG271 W273 (A := 0) rfl (lo := 0) (hi := 40) rfl rfl (by (first | (clear q3 p_254 p_255 p_256; omega) | omega)) (by decide)
    have F276 := FR.w F272 W273 (show 77 = 77 ∧ (1 ≤ 69 ∧ 69 ≤ 2 ∨ 4 ≤ 69 ∧ 69 ≤ 10 ∨ 57 ≤ 69 ∧ 69 ≤ 59 ∨ 65 ≤ 69 ∧ 69 ≤ 69) ∨ 112 ≤ 77 ∧ 77 ≤ 116 by decide)
    refine to_an (pc := 26) rw_227_26 rfl (to_c (pc := 27) rw_227_27 (x := (0 : Int32)) rfl rfl (s_pI (pc := 28) rw_227_28 hG275 rfl (fun M278 W277 => ?_)))
    have hG279 := g_w hG275 W277 (A := 0) rfl (lo := 0) (hi := 48) rfl rfl (by (first | (clear q3 p_254 p_255 p_256; omega) | omega)) (by decide)
    have F280 := FR.w F276 W277 (show 77 = 77 ∧ (1 ≤ 65 ∧ 65 ≤ 2 ∨ 4 ≤ 65 ∧ 65 ≤ 10 ∨ 57 ≤ 65 ∧ 65 ≤ 59 ∨ 65 ≤ 65 ∧ 65 ≤ 69) ∨ 112 ≤ 77 ∧ 77 ≤ 116 by decide)
    refine to_an (pc := 31) rw_227_31 rfl (to_c (pc := 32) rw_227_32 (x := (0 : Int32)) rfl rfl (s_pI (pc := 33) rw_227_33 hG279 rfl (fun M282 W281 => ?_)))
    have hG283 := g_w hG279 W281 (A := 0) rfl (lo := 0) (hi := 40) rfl rfl (by (first | (clear q3 p_254 p_255 p_256; omega) | omega)) (by decide)
    have F284 := FR.w F280 W281 (show 77 = 77 ∧ (1 ≤ 66 ∧ 66 ≤ 2 ∨ 4 ≤ 66 ∧ 66 ≤ 10 ∨ 57 ≤ 66 ∧ 66 ≤ 59 ∨ 65 ≤ 66 ∧ 66 ≤ 69) ∨ 112 ≤ 77 ∧ 77 ≤ 116 by decide)
    refine to_an (pc := 36) rw_227_36 rfl (to_c (pc := 37) rw_227_37 (x := (0 : Int32)) rfl rfl (s_pI (pc := 38) rw_227_38 hG283 rfl (fun M286 W285 => ?_)))
    have hG287 := g_w hG283 W285 (A := 0) rfl (lo := 0) (hi := 8) rfl rfl (by (first | (clear q3 p_254 p_255 p_256; omega) | omega)) (by decide)
    have F288 := FR.w F284 W285 (show 77 = 77 ∧ (1 ≤ 67 ∧ 67 ≤ 2 ∨ 4 ≤ 67 ∧ 67 ≤ 10 ∨ 57 ≤ 67 ∧ 67 ≤ 59 ∨ 65 ≤ 67 ∧ 67 ≤ 69) ∨ 112 ≤ 77 ∧ 77 ≤ 116 by decide)
    refine to_an (pc := 41) rw_227_41 rfl (to_c (pc := 42) rw_227_42 (x := (0 : Int32)) rfl rfl (s_pI (pc := 43) rw_227_43 hG287 rfl (fun M290 W289 => ?_)))
    have hG291 := g_w hG287 W289 (A := 0) rfl (lo := 0) (hi := 1) rfl rfl (by (first | (clear q3 p_254 p_255 p_256; omega) | omega)) (by decide)
    have F292 := FR.w F288 W289 (show 77 = 77 ∧ (1 ≤ 68 ∧ 68 ≤ 2 ∨ 4 ≤ 68 ∧ 68 ≤ 10 ∨ 57 ≤ 68 ∧ 68 ≤ 59 ∨ 65 ≤ 68 ∧ 68 ≤ 69) ∨ 112 ≤ 77 ∧ 77 ≤ 116 by decide)
    have c_293 : M290.2.1 77 59 = (0 : Int32) := (W_n W289 (by decide) (W_n W285 (by decide) (W_n W281 (by decide) (W_n W277 (by decide) (W_n W273 (by decide) (W_e W269))))))
    have k_294 : (0 : Int32).toInt = 0 := rfl
    have t_295 : (M290.2.1 77 59).toInt = (0 : Int32).toInt := congrArg Int32.toInt c_293
    have c_296 : M290.2.1 77 65 = (0 : Int32) := (W_n W289 (by decide) (W_n W285 (by decide) (W_n W281 (by decide) (W_e W277))))
    have t_297 : (M290.2.1 77 65).toInt = (0 : Int32).toInt := congrArg Int32.toInt c_296
    have c_298 : M290.2.1 77 66 = (0 : Int32) := (W_n W289 (by decide) (W_n W285 (by decide) (W_e W281)))
    have t_299 : (M290.2.1 77 66).toInt = (0 : Int32).toInt := congrArg Int32.toInt c_298
    have c_300 : M290.2.1 77 67 = (0 : Int32) := (W_n W289 (by decide) (W_e W285))
    have t_301 : (M290.2.1 77 67).toInt = (0 : Int32).toInt := congrArg Int32.toInt c_300
    have c_302 : M290.2.1 77 68 = (0 : Int32) := (W_e W289)
    have t_303 : (M290.2.1 77 68).toInt = (0 : Int32).toInt := congrArg Int32.toInt c_302
    have c_304 : M290.2.1 77 69 = (0 : Int32) := (W_n W289 (by decide) (W_n W285 (by decide) (W_n W281 (by decide) (W_n W277 (by decide) (W_e W273)))))
    have t_305 : (M290.2.1 77 69).toInt = (0 : Int32).toInt := congrArg Int32.toInt c_304
    have j_306 : QK M290 := QK_0 (by (first | (clear q3 p_254 p_255 p_256; omega) | omega)) (by (first | (clear q3 p_254 p_255 p_256; omega) | omega)) (by (first | (clear q3 p_254 p_255 p_256; omega) | omega)) (by (first | (clear q3 p_254 p_255 p_256; omega) | omega)) (by (first | (clear q3 p_254 p_255 p_256; omega) | omega)) (by (first | (clear q3 p_254 p_255 p_256; omega) | omega))
    have c_307 : M290.2.1 77 7 = (M257.2.1 77 7) := (W_n W289 (by decide) (W_n W285 (by decide) (W_n W281 (by decide) (W_n W277 (by decide) (W_n W273 (by decide) (W_n W269 (by decide) rfl))))))
    have t_308 : (M290.2.1 77 7).toInt = (M257.2.1 77 7).toInt := congrArg Int32.toInt c_307
    have c_309 : M290.2.1 77 6 = (M257.2.1 77 6) := (W_n W289 (by decide) (W_n W285 (by decide) (W_n W281 (by decide) (W_n W277 (by decide) (W_n W273 (by decide) (W_n W269 (by decide) rfl))))))
    have t_310 : (M290.2.1 77 6).toInt = (M257.2.1 77 6).toInt := congrArg Int32.toInt c_309
    have j_311 := (FA_f (fun a i z => W_n W289 (tg_385 a i z) rfl) (FA_f (fun a i z => W_n W285 (tg_406 a i z) rfl) (FA_f (fun a i z => W_n W281 (tg_407 a i z) rfl) (FA_f (fun a i z => W_n W277 (tg_408 a i z) rfl) (FA_f (fun a i z => W_n W273 (tg_384 a i z) rfl) (FA_f (fun a i z => W_n W269 (tg_409 a i z) rfl) (FA_f (tg_320 F249) (FA_f (fun a i z => W_n W236 (tg_94 a i z) rfl) q2))))))))
    have j_312 := (RS_f (fun a i z => W_n W289 (tg_445 a i z) rfl) (RS_f (fun a i z => W_n W285 (tg_439 a i z) rfl) (RS_f (fun a i z => W_n W281 (tg_463 a i z) rfl) (RS_f (fun a i z => W_n W277 (tg_440 a i z) rfl) (RS_f (fun a i z => W_n W273 (tg_447 a i z) rfl) (RS_f (fun a i z => W_n W269 (tg_464 a i z) rfl) p_266.1))))))
    have j_313 := (TR_f (fun a i z => W_n W289 (tg_448 a i z) rfl) (TR_f (fun a i z => W_n W285 (tg_441 a i z) rfl) (TR_f (fun a i z => W_n W281 (tg_465 a i z) rfl) (TR_f (fun a i z => W_n W277 (tg_442 a i z) rfl) (TR_f (fun a i z => W_n W273 (tg_450 a i z) rfl) (TR_f (fun a i z => W_n W269 (tg_466 a i z) rfl) (TR_f (tg_73 F249) j_246)))))))
    have j_314 := (W9_f (fun a i z => W_n W289 (tg_451 a i z) rfl) (W9_f (fun a i z => W_n W285 (tg_443 a i z) rfl) (W9_f (fun a i z => W_n W281 (tg_467 a i z) rfl) (W9_f (fun a i z => W_n W277 (tg_444 a i z) rfl) (W9_f (fun a i z => W_n W273 (tg_453 a i z) rfl) (W9_f (fun a i z => W_n W269 (tg_468 a i z) rfl) (W9_f (tg_75 F249) j_247)))))))
    have j_315 := (PLk_f (fun a i z => W_n W289 (tg_457 a i z) rfl) (PLk_f (fun a i z => W_n W285 (tg_469 a i z) rfl) (PLk_f (fun a i z => W_n W281 (tg_470 a i z) rfl) (PLk_f (fun a i z => W_n W277 (tg_471 a i z) rfl) (PLk_f (fun a i z => W_n W273 (tg_458 a i z) rfl) (PLk_f (fun a i z => W_n W269 (tg_472 a i z) rfl) (PLk_f (tg_462 F249) (PLk_f (fun a i z => W_n W236 (tg_91 a i z) rfl) q6))))))))
    have c_316 : M290.2.1 77 10 = (M257.2.1 77 10) := (W_n W289 (by decide) (W_n W285 (by decide) (W_n W281 (by decide) (W_n W277 (by decide) (W_n W273 (by decide) (W_n W269 (by decide) rfl))))))
    have t_317 : (M290.2.1 77 10).toInt = (M257.2.1 77 10).toInt := congrArg Int32.toInt c_316
    have c_318 : M290.2.1 77 58 = (M.2.1 77 58) := (W_n W289 (by decide) (W_n W285 (by decide) (W_n W281 (by decide) (W_n W277 (by decide) (W_n W273 (by decide) (W_n W269 (by decide) (F_n F249 (show ¬ (77 = 77 ∧ (58 = 1 ∨ 4 ≤ 58 ∧ 58 ≤ 10)) by decide) (W_n W236 (by decide) rfl))))))))
    have t_319 : (M290.2.1 77 58).toInt = (M.2.1 77 58).toInt := congrArg Int32.toInt c_318
    have c_320 : M290.2.1 77 8 = (M257.2.1 77 8) := (W_n W289 (by decide) (W_n W285 (by decide) (W_n W281 (by decide) (W_n W277 (by decide) (W_n W273 (by decide) (W_n W269 (by decide) rfl))))))
    have b_321 := g_b hG250 (a := 77) (i := 8) (lo := 0) (hi := 5) rfl rfl
    have t_322 : (M290.2.1 77 8).toInt = (M257.2.1 77 8).toInt := congrArg Int32.toInt c_320
    exact (U_227_1 (n := n) (t := t) (nn := nn) (sg := sg) hX hd q1 q2 q3 q4 q5 q6 h ((6 * (500 - (M290.2.1 77 7).toInt) + (M290.2.1 77 8).toInt).toNat + 1)) M290 (.int n) (.null) hG291 F292 (by (first | (clear q3 p_254 p_255 p_256; omega) | omega)) j_311 j_306 j_312 (by (first | (clear q3 p_254 p_255 p_256; omega) | omega)) (by (first | (clear q3 p_254 p_255 p_256; omega) | omega)) (by (first | (clear q3 p_254 p_255 p_256; omega) | omega)) (by (first | (clear q3 p_254 p_255 p_256; omega) | omega)) j_313 j_314 j_315 (QE_0 (by (first | (clear q3 p_254 p_255 p_256; omega) | omega)) (by (first | (clear q3 p_254 p_255 p_256; omega) | omega)) (by (first | (clear q3 p_254 p_255 p_256; omega) | omega))) (q_w (by (first | (clear q3 p_254 p_255 p_256; omega) | omega)) (by (first | (clear q3 p_254 p_255 p_256; omega) | omega)) (by (first | (clear q3 p_254 p_255 p_256; omega) | omega)) (by (first | (clear q3 p_254 p_255 p_256; omega) | omega))) (by (first | (clear q3 p_254 p_255 p_256; omega) | omega)) (by (first | (clear q3 p_254 p_255 p_256; omega) | omega))
