theorem tg_467 {M M1 : mm_M} (F : FR (fun a i : Nat => a = 77 ∧ (i = 4 ∨ i = 5 ∨ 7 ≤ i ∧ i ≤ 10) ∨ a = 77 ∧ (i = 59 ∨ 65 ≤ i ∧ i ≤ 69) ∨ 112 ≤ a ∧ a ≤ 114 ∧ 40 ≤ i ∨ a = 115 ∨ a = 116) M M1) : ∀ a i : Nat, a = 78 → M1.2.1 a i = M.2.1 a i := fun a i z => F_n F (show ¬ (a = 77 ∧ (i = 4 ∨ i = 5 ∨ 7 ≤ i ∧ i ≤ 10) ∨ a = 77 ∧ (i = 59 ∨ 65 ≤ i ∧ i ≤ 69) ∨ 112 ≤ a ∧ a ≤ 114 ∧ 40 ≤ i ∨ a = 115 ∨ a = 116) by omega) rfl
theorem tg_468 {M M1 : mm_M} (F : FR (fun a i : Nat => a = 77 ∧ (i = 4 ∨ i = 5 ∨ 7 ≤ i ∧ i ≤ 10) ∨ a = 77 ∧ (i = 59 ∨ 65 ≤ i ∧ i ≤ 69) ∨ 112 ≤ a ∧ a ≤ 114 ∧ 40 ≤ i ∨ a = 115 ∨ a = 116) M M1) : ∀ a i : Nat, a = 79 → M1.2.1 a i = M.2.1 a i := fun a i z => F_n F (show ¬ (a = 77 ∧ (i = 4 ∨ i = 5 ∨ 7 ≤ i ∧ i ≤ 10) ∨ a = 77 ∧ (i = 59 ∨ 65 ≤ i ∧ i ≤ 69) ∨ 112 ≤ a ∧ a ≤ 114 ∧ 40 ≤ i ∨ a = 115 ∨ a = 116) by omega) rfl
theorem tg_469 {M M1 : mm_M} (F : FR (fun a i : Nat => a = 77 ∧ (i = 4 ∨ i = 5 ∨ 7 ≤ i ∧ i ≤ 10) ∨ a = 77 ∧ (i = 59 ∨ 65 ≤ i ∧ i ≤ 69) ∨ 112 ≤ a ∧ a ≤ 114 ∧ 40 ≤ i ∨ a = 115 ∨ a = 116) M M1) : ∀ a i : Nat, (a = 77 ∧ 11 ≤ i ∧ i ≤ 13 ∨ 80 ≤ a ∧ a ≤ 84 ∧ i < 8 ∨ 85 ≤ a ∧ a ≤ 86 ∧ i < 12) → M1.2.1 a i = M.2.1 a i := fun a i z => F_n F (show ¬ (a = 77 ∧ (i = 4 ∨ i = 5 ∨ 7 ≤ i ∧ i ≤ 10) ∨ a = 77 ∧ (i = 59 ∨ 65 ≤ i ∧ i ≤ 69) ∨ 112 ≤ a ∧ a ≤ 114 ∧ 40 ≤ i ∨ a = 115 ∨ a = 116) by omega) rfl
theorem tg_470 {M M1 : mm_M} (F : FR (fun a i : Nat => a = 77 ∧ (i = 1 ∨ 4 ≤ i ∧ i ≤ 10)) M M1) : ∀ a i : Nat, (a = 77 ∧ 11 ≤ i ∧ i ≤ 13 ∨ 80 ≤ a ∧ a ≤ 84 ∧ i < 8 ∨ 85 ≤ a ∧ a ≤ 86 ∧ i < 12) → M1.2.1 a i = M.2.1 a i := fun a i z => F_n F (show ¬ (a = 77 ∧ (i = 1 ∨ 4 ≤ i ∧ i ≤ 10)) by omega) rfl
theorem tg_471 : ∀ a i : Nat, (a = 77 ∧ 6 ≤ i ∧ i ≤ 10) → ¬ (a = 77 ∧ i = 66) := fun a i z => by omega
theorem tg_472 : ∀ a i : Nat, (a = 77 ∧ 6 ≤ i ∧ i ≤ 10) → ¬ (a = 77 ∧ i = 59) := fun a i z => by omega
theorem tg_473 : ∀ a i : Nat, a = 78 → ¬ (a = 77 ∧ i = 66) := fun a i z => by omega
theorem tg_474 : ∀ a i : Nat, a = 78 → ¬ (a = 77 ∧ i = 59) := fun a i z => by omega
theorem tg_475 : ∀ a i : Nat, a = 79 → ¬ (a = 77 ∧ i = 66) := fun a i z => by omega
theorem tg_476 : ∀ a i : Nat, a = 79 → ¬ (a = 77 ∧ i = 59) := fun a i z => by omega
theorem tg_477 : ∀ a i : Nat, (a = 77 ∧ 11 ≤ i ∧ i ≤ 13 ∨ 80 ≤ a ∧ a ≤ 84 ∧ i < 8 ∨ 85 ≤ a ∧ a ≤ 86 ∧ i < 12) → ¬ (a = 77 ∧ i = 67) := fun a i z => by omega
theorem tg_478 : ∀ a i : Nat, (a = 77 ∧ 11 ≤ i ∧ i ≤ 13 ∨ 80 ≤ a ∧ a ≤ 84 ∧ i < 8 ∨ 85 ≤ a ∧ a ≤ 86 ∧ i < 12) → ¬ (a = 77 ∧ i = 66) := fun a i z => by omega
theorem tg_479 : ∀ a i : Nat, (a = 77 ∧ 11 ≤ i ∧ i ≤ 13 ∨ 80 ≤ a ∧ a ≤ 84 ∧ i < 8 ∨ 85 ≤ a ∧ a ≤ 86 ∧ i < 12) → ¬ (a = 77 ∧ i = 65) := fun a i z => by omega
theorem tg_480 : ∀ a i : Nat, (a = 77 ∧ 11 ≤ i ∧ i ≤ 13 ∨ 80 ≤ a ∧ a ≤ 84 ∧ i < 8 ∨ 85 ≤ a ∧ a ≤ 86 ∧ i < 12) → ¬ (a = 77 ∧ i = 59) := fun a i z => by omega
set_option maxRecDepth 4000 in
set_option maxHeartbeats 0 in
theorem U_227_0 {X : mm_X} {d : Nat} {M : mm_M} {Q : Option Value → mm_M → Prop} {n : Int32} {t : Nat → Int} {nn : Int} {sg : x_S} (hX : g_X X) (hd : 3 ≤ d) (q1 : (M.2.1 77 7).toInt ≤ (M.2.1 77 6).toInt) (q2 : FA M) (q3 : 0 ≤ n.toInt ∧ n.toInt ≤ (M.2.1 77 1).toInt → n.toInt = nn) (q4 : TR M t nn) (q5 : W9 M) (q6 : PLk M sg) (h : ∀ (r : Int32) (M1 : mm_M), g_G M1 → FR md_qu M M1 → (n.toInt < 0 ∨ (M.2.1 77 1).toInt < n.toInt → r.toInt = -2) → ((0 ≤ n.toInt ∧ n.toInt ≤ (M.2.1 77 1).toInt → QAN (x_qq t nn sg 0 0 0 (x_sk t nn 0)) r.toInt)) → (-2 ≤ r.toInt) → ((r.toInt = -1 → x_qq t nn sg 0 0 0 (x_sk t nn 0) = Sum.inl ((M1.2.1 77 4).toInt, (M1.2.1 77 5).toInt))) → Q (some (.int r)) M1) : ∀ nn9 : Nat, (∀ (N : mm_M) (u1 : Value) (x2 : Int32), g_G N → FR md_qu M N → (0 ≤ x2.toInt) → (x2.toInt ≤ 40) → (0 ≤ n.toInt) → (n.toInt ≤ (M.2.1 77 1).toInt) → (x_qq t nn sg 0 0 0 (x_sk t nn 0) = Sum.inr (N.2.1 77 58).toInt) → 40 - x2.toInt < (nn9 : Int) → mm_T X d 226 113 [.ref 77, u1, .int x2] [] N Q) := by
  intro nn9
  induction nn9 with
  | zero =>
    intro N u1 x2 hG F0 g1 g2 g3 g4 g5 hm
    exfalso; omega
  | succ nn9 ih =>
    intro N u1 x2 hG F0 g1 g2 g3 g4 g5 hm
    have b_1 := g_b hG (a := 77) (i := 58) (lo := 0) (hi := 40) rfl rfl
    refine to_in (pc := 113) rw_227_113 rfl (to_an (pc := 114) rw_227_114 rfl (tt_gI (pc := 115) rw_227_115 (g_o hG rfl) (v := (N.2.1 77 58)) rfl (b_cge (pc := 118) rw_227_118 (A := x2.toInt) (B := (N.2.1 77 58).toInt) rfl rfl (fun h2 => ?_) (fun h2 => ?_))))
    · refine to_an (pc := 172) rw_227_172 rfl (tt_gI (pc := 173) rw_227_173 (g_o hG rfl) (v := (N.2.1 77 58)) rfl (to_r0 (pc := 176) rw_227_176 ?_))
      exact h (N.2.1 77 58) N hG F0 (by (first | (clear q3; omega) | omega)) (fun _ => Or.inr g5) (by (first | (clear q3; omega) | omega)) (fun z => by exfalso; omega)
    · refine to_an (pc := 121) rw_227_121 rfl (s_gR (pc := 122) rw_227_122 hG rfl (v := 112) rfl (to_in (pc := 125) rw_227_125 rfl (to_an (pc := 126) rw_227_126 rfl (s_gR (pc := 127) rw_227_127 hG rfl (v := 112) rfl (to_c (pc := 130) rw_227_130 (x := (40 : Int32)) rfl rfl (to_in (pc := 132) rw_227_132 rfl (s_add (pc := 133) rw_227_133 (A := 40) (B := x2.toInt) rfl rfl (by (first | (clear q3; omega) | omega)) (fun v3 e4 => s_ial (pc := 134) rw_227_134 hG rfl (n := 80) rfl rfl (A := v3.toInt) rfl (by (first | (clear q3; omega) | omega)) (by (first | (clear q3; omega) | omega)) (lo := 0) (hi := 4) rfl rfl (fun v5 w_6 _ _ => s_ias (pc := 135) rw_227_135 hG rfl (n := 80) rfl (A := x2.toInt) rfl (by (first | (clear q3; omega) | omega)) (by (first | (clear q3; omega) | omega)) (fun M8 W7 => ?_))))))))))
      have hG9 := g_w hG W7 (A := v5.toInt) rfl (lo := 0) (hi := 4) rfl rfl (by (first | (clear q3; omega) | omega)) (by decide)
      have F10 := FR.w F0 W7 (show 112 = 77 ∧ (1 ≤ (x2.toInt).toNat ∧ (x2.toInt).toNat ≤ 2 ∨ 4 ≤ (x2.toInt).toNat ∧ (x2.toInt).toNat ≤ 10 ∨ 57 ≤ (x2.toInt).toNat ∧ (x2.toInt).toNat ≤ 59 ∨ 65 ≤ (x2.toInt).toNat ∧ (x2.toInt).toNat ≤ 69) ∨ 112 ≤ 112 ∧ 112 ≤ 116 by (first | (clear q3; omega) | omega))
      refine to_an (pc := 136) rw_227_136 rfl (s_gR (pc := 137) rw_227_137 hG9 rfl (v := 113) rfl (to_in (pc := 140) rw_227_140 rfl (to_an (pc := 141) rw_227_141 rfl (s_gR (pc := 142) rw_227_142 hG9 rfl (v := 113) rfl (to_c (pc := 145) rw_227_145 (x := (40 : Int32)) rfl rfl (to_in (pc := 147) rw_227_147 rfl (s_add (pc := 148) rw_227_148 (A := 40) (B := x2.toInt) rfl rfl (by (first | (clear q3; omega) | omega)) (fun v11 e12 => s_ial (pc := 149) rw_227_149 hG9 rfl (n := 80) rfl rfl (A := v11.toInt) rfl (by (first | (clear q3; omega) | omega)) (by (first | (clear q3; omega) | omega)) (lo := 0) (hi := 39) rfl rfl (fun v13 w_14 _ _ => s_ias (pc := 150) rw_227_150 hG9 rfl (n := 80) rfl (A := x2.toInt) rfl (by (first | (clear q3; omega) | omega)) (by (first | (clear q3; omega) | omega)) (fun M16 W15 => ?_))))))))))
      have hG17 := g_w hG9 W15 (A := v13.toInt) rfl (lo := 0) (hi := 39) rfl rfl (by (first | (clear q3; omega) | omega)) (by decide)
      have F18 := FR.w F10 W15 (show 113 = 77 ∧ (1 ≤ (x2.toInt).toNat ∧ (x2.toInt).toNat ≤ 2 ∨ 4 ≤ (x2.toInt).toNat ∧ (x2.toInt).toNat ≤ 10 ∨ 57 ≤ (x2.toInt).toNat ∧ (x2.toInt).toNat ≤ 59 ∨ 65 ≤ (x2.toInt).toNat ∧ (x2.toInt).toNat ≤ 69) ∨ 112 ≤ 113 ∧ 113 ≤ 116 by (first | (clear q3; omega) | omega))
      refine to_an (pc := 151) rw_227_151 rfl (s_gR (pc := 152) rw_227_152 hG17 rfl (v := 114) rfl (to_in (pc := 155) rw_227_155 rfl (to_an (pc := 156) rw_227_156 rfl (s_gR (pc := 157) rw_227_157 hG17 rfl (v := 114) rfl (to_c (pc := 160) rw_227_160 (x := (40 : Int32)) rfl rfl (to_in (pc := 162) rw_227_162 rfl (s_add (pc := 163) rw_227_163 (A := 40) (B := x2.toInt) rfl rfl (by (first | (clear q3; omega) | omega)) (fun v19 e20 => s_ial (pc := 164) rw_227_164 hG17 rfl (n := 80) rfl rfl (A := v19.toInt) rfl (by (first | (clear q3; omega) | omega)) (by (first | (clear q3; omega) | omega)) (lo := -2147483648) (hi := 2147483647) rfl rfl (fun v21 w_22 _ _ => s_ias (pc := 165) rw_227_165 hG17 rfl (n := 80) rfl (A := x2.toInt) rfl (by (first | (clear q3; omega) | omega)) (by (first | (clear q3; omega) | omega)) (fun M24 W23 => ?_))))))))))
      have hG25 := g_wf hG17 W23 rfl rfl (by decide)
      have F26 := FR.w F18 W23 (show 114 = 77 ∧ (1 ≤ (x2.toInt).toNat ∧ (x2.toInt).toNat ≤ 2 ∨ 4 ≤ (x2.toInt).toNat ∧ (x2.toInt).toNat ≤ 10 ∨ 57 ≤ (x2.toInt).toNat ∧ (x2.toInt).toNat ≤ 59 ∨ 65 ≤ (x2.toInt).toNat ∧ (x2.toInt).toNat ≤ 69) ∨ 112 ≤ 114 ∧ 114 ≤ 116 by (first | (clear q3; omega) | omega))
      refine s_inc (pc := 166) rw_227_166 (ls2 := fun v => [.ref 77, u1, .int v]) rfl rfl (fun _ => rfl) (A := x2.toInt) (B := 1) rfl rfl (by (first | (clear q3; omega) | omega)) (fun v27 e28 => to_go (pc := 169) rw_227_169 ?_)
      have c_29 : M24.2.1 77 58 = (N.2.1 77 58) := (W_n W23 (fun z => absurd z.1 (by decide)) (W_n W15 (fun z => absurd z.1 (by decide)) (W_n W7 (fun z => absurd z.1 (by decide)) rfl)))
      have t_30 : (M24.2.1 77 58).toInt = (N.2.1 77 58).toInt := congrArg Int32.toInt c_29
      exact ih M24 (u1) v27 hG25 F26 (by (first | (clear q3; omega) | omega)) (by (first | (clear q3; omega) | omega)) (by (first | (clear q3; omega) | omega)) (by (first | (clear q3; omega) | omega)) (g5.trans (congrArg Sum.inr (by (first | (clear q3; omega) | omega)))) (by (first | (clear q3; omega) | omega))
set_option maxRecDepth 4000 in
set_option maxHeartbeats 0 in
theorem U_227_1 {X : mm_X} {d : Nat} {M : mm_M} {Q : Option Value → mm_M → Prop} {n : Int32} {t : Nat → Int} {nn : Int} {sg : x_S} (hX : g_X X) (hd : 3 ≤ d) (q1 : (M.2.1 77 7).toInt ≤ (M.2.1 77 6).toInt) (q2 : FA M) (q3 : 0 ≤ n.toInt ∧ n.toInt ≤ (M.2.1 77 1).toInt → n.toInt = nn) (q4 : TR M t nn) (q5 : W9 M) (q6 : PLk M sg) (h : ∀ (r : Int32) (M1 : mm_M), g_G M1 → FR md_qu M M1 → (n.toInt < 0 ∨ (M.2.1 77 1).toInt < n.toInt → r.toInt = -2) → ((0 ≤ n.toInt ∧ n.toInt ≤ (M.2.1 77 1).toInt → QAN (x_qq t nn sg 0 0 0 (x_sk t nn 0)) r.toInt)) → (-2 ≤ r.toInt) → ((r.toInt = -1 → x_qq t nn sg 0 0 0 (x_sk t nn 0) = Sum.inl ((M1.2.1 77 4).toInt, (M1.2.1 77 5).toInt))) → Q (some (.int r)) M1) : ∀ nn9 : Nat, (∀ (N : mm_M) (u1 : Value) (u2 : Value), g_G N → FR md_qu M N → ((N.2.1 77 7).toInt ≤ (N.2.1 77 6).toInt) → (FA N) → (QK N) → (RS N t nn) → (0 ≤ nn) → (nn ≤ 500) → (0 ≤ n.toInt) → (n.toInt ≤ (M.2.1 77 1).toInt) → (TR N t nn) → (W9 N) → (PLk N sg) → ((N.2.1 77 59).toInt + Wo N ((N.2.1 77 65).toInt).toNat = (N.2.1 77 69).toInt) → (x_qq t nn sg 0 0 0 (x_sk t nn 0) = x_qq t nn sg (N.2.1 77 68).toInt (N.2.1 77 67).toInt (N.2.1 77 69).toInt (N.2.1 77 10).toInt) → 6 * (500 - (N.2.1 77 7).toInt) + (N.2.1 77 8).toInt < (nn9 : Int) → mm_T X d 226 46 [.ref 77, u1, u2] [] N Q) := by
  intro nn9
  induction nn9 with
  | zero =>
    intro N u1 u2 hG F0 g1 g2 g3 g4 g5 g6 g7 g8 g9 g10 g11 g12 g13 hm
    have b_31 := g_b hG (a := 77) (i := 7) (lo := 0) (hi := 500) rfl rfl
    have b_32 := g_b hG (a := 77) (i := 8) (lo := 0) (hi := 5) rfl rfl
    have b_33 := g_b hG (a := 77) (i := 6) (lo := 0) (hi := 500) rfl rfl
    exfalso; omega
  | succ nn9 ih =>
    intro N u1 u2 hG F0 g1 g2 g3 g4 g5 g6 g7 g8 g9 g10 g11 g12 g13 hm
    have b_34 := g_b hG (a := 77) (i := 7) (lo := 0) (hi := 500) rfl rfl
    have b_35 := g_b hG (a := 77) (i := 8) (lo := 0) (hi := 5) rfl rfl
    have b_36 := g_b hG (a := 77) (i := 6) (lo := 0) (hi := 500) rfl rfl
    have b_37 := g_b hG (a := 77) (i := 10) (lo := 0) (hi := 500) rfl rfl
    have b_38 := g_b hG (a := 77) (i := 67) (lo := 0) (hi := 8) rfl rfl
    have b_39 := g_b hG (a := 77) (i := 68) (lo := 0) (hi := 1) rfl rfl
    have b_40 := g_b hG (a := 77) (i := 69) (lo := 0) (hi := 40) rfl rfl
    have b_41 := g_b hG (a := 77) (i := 65) (lo := 0) (hi := 48) rfl rfl
    have b_42 := g_b hG (a := 77) (i := 59) (lo := 0) (hi := 40) rfl rfl
    have z_43 := RS_k g4 (a := (N.2.1 77 10).toInt) (by (first | (clear q3; omega) | omega))
    have z_44 := RS_b g4 (a := (N.2.1 77 10).toInt) (by (first | (clear q3; omega) | omega))
    refine to_an (pc := 46) rw_227_46 rfl (tt_gI (pc := 47) rw_227_47 (g_o hG rfl) (v := (N.2.1 77 8)) rfl (b_ine (pc := 50) rw_227_50 (A := (N.2.1 77 8).toInt) rfl (fun h45 => ?_) (fun h45 => ?_)))
    · refine to_an (pc := 67) rw_227_67 rfl (tt_gI (pc := 68) rw_227_68 (g_o hG rfl) (v := (N.2.1 77 68)) rfl (b_ine (pc := 71) rw_227_71 (A := (N.2.1 77 68).toInt) rfl (fun h46 => ?_) (fun h46 => ?_)))
      · refine to_an (pc := 84) rw_227_84 rfl (s_v (pc := 85) rw_227_85 (dp0 hd (by decide)) (ls0 := [.ref 77, .null]) rfl (Nat.le_of_ble_eq_true rfl) (Nat.le_of_ble_eq_true rfl) rfl (to_rc rfl rfl rfl (g_o hG rfl)) rfl (E_226 hX (dp1 hd (by decide)) hG (by (first | (clear q3 h45 h46; omega) | (clear q3 h45; omega) | omega)) g3 (by (first | (clear q3 h45 h46; omega) | (clear q3 h45; omega) | omega)) g4 (by (first | (clear q3 h45 h46; omega) | (clear q3 h45; omega) | omega)) (by (first | (clear q3 h45 h46; omega) | (clear q3 h45; omega) | omega)) (by (first | (clear q3 h45 h46; omega) | (clear q3 h45; omega) | omega)) g9 g10 g11 g12 (by (first | (clear q3 h45 h46; omega) | (clear q3 h45; omega) | omega)) (t := t) (nn := nn) (a := (N.2.1 77 10).toInt) (sg := sg) (fun r47 M61 hG49 F48 p_50 p_51 p_52 p_53 p_54 p_55 p_56 p_57 p_58 p_59 p_60 => ?_)))
        have F62 := FR.c F0 F48 tg_403
        have b_63 := g_b hG49 (a := 77) (i := 7) (lo := 0) (hi := 500) rfl rfl
        have c_64 : M61.2.1 77 6 = (N.2.1 77 6) := (F_n F48 (show ¬ (77 = 77 ∧ (6 = 4 ∨ 6 = 5 ∨ 7 ≤ 6 ∧ 6 ≤ 10) ∨ 77 = 77 ∧ (6 = 59 ∨ 65 ≤ 6 ∧ 6 ≤ 69) ∨ 112 ≤ 77 ∧ 77 ≤ 114 ∧ 40 ≤ 6 ∨ 77 = 115 ∨ 77 = 116) by decide) rfl)
        have t_65 : (M61.2.1 77 6).toInt = (N.2.1 77 6).toInt := congrArg Int32.toInt c_64
        have b_66 := g_b hG49 (a := 77) (i := 8) (lo := 0) (hi := 5) rfl rfl
        rcases (show r47.toInt = 0 ∨ r47.toInt = 1 by (first | (clear q3 h45 h46; omega) | (clear q3 h45; omega) | omega)) with h67 | h67
        · skip
          have p_68 := p_60 (by (first | (clear q3 h45 h46; omega) | (clear q3 h45; omega) | omega))
          clear p_54 p_55 p_56 p_57 p_58 p_59 p_60
          have z_69 := (g13.trans (q_w (show (N.2.1 77 68).toInt = 1 by (first | (clear q3 h45 h46; omega) | (clear q3 h45; omega) | omega)) rfl rfl rfl)).trans p_68
          refine b_ine_f (pc := 88) rw_227_88 (A := r47.toInt) rfl (by (first | (clear q3 h45 h46; omega) | (clear q3 h45; omega) | omega)) (to_c (pc := 91) rw_227_91 (x := (-1 : Int32)) rfl rfl (to_r0 (pc := 92) rw_227_92 ?_))
          have k_70 : (-1 : Int32).toInt = -1 := rfl
          exact h (-1 : Int32) M61 hG49 F62 (by (first | (clear q3 h45 h46; omega) | (clear q3 h45; omega) | omega)) (fun _ => Or.inl ⟨_, _, z_69, rfl⟩) (by (first | (clear q3 h45 h46; omega) | (clear q3 h45; omega) | omega)) (fun _ => z_69)
        · skip
          have p_71 := p_54 (by (first | (clear q3 h45 h46; omega) | (clear q3 h45; omega) | omega))
          have p_72 := p_55 (by (first | (clear q3 h45 h46; omega) | (clear q3 h45; omega) | omega))
          have p_73 := p_56 (by (first | (clear q3 h45 h46; omega) | (clear q3 h45; omega) | omega))
          have p_74 := p_57 (by (first | (clear q3 h45 h46; omega) | (clear q3 h45; omega) | omega))
          have p_75 := p_58 (by (first | (clear q3 h45 h46; omega) | (clear q3 h45; omega) | omega))
          have p_76 := p_59 (by (first | (clear q3 h45 h46; omega) | (clear q3 h45; omega) | omega))
          clear p_54 p_55 p_56 p_57 p_58 p_59 p_60
          have z_77 := (g13.trans (q_w (show (N.2.1 77 68).toInt = 1 by (first | (clear q3 h45 h46; omega) | (clear q3 h45; omega) | omega)) rfl rfl rfl)).trans p_76
          refine b_ine_t (pc := 88) rw_227_88 (A := r47.toInt) rfl (by (first | (clear q3 h45 h46; omega) | (clear q3 h45; omega) | omega)) ?_
          have j_78 := (FA_f (tg_394 F48) g2)
          have j_79 := (TR_f (tg_467 F48) g9)
          have j_80 := (W9_f (tg_468 F48) g10)
          have j_81 := (PLk_f (tg_469 F48) g11)
          exact ih M61 (u1) (u2) hG49 F62 (by (first | (clear q3 h45 h46; omega) | (clear q3 h45; omega) | omega)) j_78 p_73 p_75 (by (first | (clear q3 h45 h46; omega) | (clear q3 h45; omega) | omega)) (by (first | (clear q3 h45 h46; omega) | (clear q3 h45; omega) | omega)) (by (first | (clear q3 h45 h46; omega) | (clear q3 h45; omega) | omega)) (by (first | (clear q3 h45 h46; omega) | (clear q3 h45; omega) | omega)) j_79 j_80 j_81 p_74 z_77 (by (first | (clear q3 h45 h46; omega) | (clear q3 h45; omega) | omega))
      · refine to_an (pc := 74) rw_227_74 rfl (s_v (pc := 75) rw_227_75 (dp0 hd (by decide)) (ls0 := [.ref 77, .null, .null, .null, .null, .null]) rfl (Nat.le_of_ble_eq_true rfl) (Nat.le_of_ble_eq_true rfl) rfl (to_rc rfl rfl rfl (g_o hG rfl)) rfl (E_225 hX (dp1 hd (by decide)) hG (by (first | (clear q3 h45; omega) | (clear q3; omega) | omega)) g3 g2 (by (first | (clear q3 h45; omega) | (clear q3; omega) | omega)) g4 (by (first | (clear q3 h45; omega) | (clear q3; omega) | omega)) (by (first | (clear q3 h45; omega) | (clear q3; omega) | omega)) (by (first | (clear q3 h45; omega) | (clear q3; omega) | omega)) g9 g10 g11 g12 (t := t) (nn := nn) (a := (N.2.1 77 10).toInt) (sg := sg) (fun r82 M96 hG84 F83 p_85 p_86 p_87 p_88 p_89 p_90 p_91 p_92 p_93 p_94 p_95 => ?_)))
        have F97 := FR.c F0 F83 tg_403
        have b_98 := g_b hG84 (a := 77) (i := 7) (lo := 0) (hi := 500) rfl rfl
        have c_99 : M96.2.1 77 6 = (N.2.1 77 6) := (F_n F83 (show ¬ (77 = 77 ∧ (6 = 4 ∨ 6 = 5 ∨ 7 ≤ 6 ∧ 6 ≤ 10) ∨ 77 = 77 ∧ (6 = 59 ∨ 65 ≤ 6 ∧ 6 ≤ 69) ∨ 112 ≤ 77 ∧ 77 ≤ 114 ∧ 40 ≤ 6 ∨ 77 = 115 ∨ 77 = 116) by decide) rfl)
        have t_100 : (M96.2.1 77 6).toInt = (N.2.1 77 6).toInt := congrArg Int32.toInt c_99
        rcases (show r82.toInt = 0 ∨ r82.toInt = 1 by (first | (clear q3 h45; omega) | (clear q3; omega) | omega)) with h101 | h101
        · skip
          have p_102 := p_95 (by (first | (clear q3 h45; omega) | (clear q3; omega) | omega))
          clear p_89 p_90 p_91 p_92 p_93 p_94 p_95
          have z_103 := (g13.trans (q_w (show (N.2.1 77 68).toInt = 0 by (first | (clear q3 h45; omega) | (clear q3; omega) | omega)) rfl rfl rfl)).trans p_102
          refine b_ieq_t (pc := 78) rw_227_78 (A := r82.toInt) rfl (by (first | (clear q3 h45; omega) | (clear q3; omega) | omega)) (to_c (pc := 91) rw_227_91 (x := (-1 : Int32)) rfl rfl (to_r0 (pc := 92) rw_227_92 ?_))
          have k_104 : (-1 : Int32).toInt = -1 := rfl
          exact h (-1 : Int32) M96 hG84 F97 (by (first | (clear q3 h45; omega) | (clear q3; omega) | omega)) (fun _ => Or.inl ⟨_, _, z_103, rfl⟩) (by (first | (clear q3 h45; omega) | (clear q3; omega) | omega)) (fun _ => z_103)
        · skip
          have p_105 := p_89 (by (first | (clear q3 h45; omega) | (clear q3; omega) | omega))
          have p_106 := p_90 (by (first | (clear q3 h45; omega) | (clear q3; omega) | omega))
          have p_107 := p_91 (by (first | (clear q3 h45; omega) | (clear q3; omega) | omega))
          have p_108 := p_92 (by (first | (clear q3 h45; omega) | (clear q3; omega) | omega))
          have p_109 := p_93 (by (first | (clear q3 h45; omega) | (clear q3; omega) | omega))
          have p_110 := p_94 (by (first | (clear q3 h45; omega) | (clear q3; omega) | omega))
          clear p_89 p_90 p_91 p_92 p_93 p_94 p_95
          have z_111 := (g13.trans (q_w (show (N.2.1 77 68).toInt = 0 by (first | (clear q3 h45; omega) | (clear q3; omega) | omega)) rfl rfl rfl)).trans p_110
          refine b_ieq_f (pc := 78) rw_227_78 (A := r82.toInt) rfl (by (first | (clear q3 h45; omega) | (clear q3; omega) | omega)) (to_go (pc := 81) rw_227_81 ?_)
          have j_112 := (FA_f (tg_394 F83) g2)
          have j_113 := (TR_f (tg_467 F83) g9)
          have j_114 := (W9_f (tg_468 F83) g10)
          have j_115 := (PLk_f (tg_469 F83) g11)
          have b_116 := g_b hG84 (a := 77) (i := 8) (lo := 0) (hi := 5) rfl rfl
          exact ih M96 (u1) (u2) hG84 F97 (by (first | (clear q3 h45; omega) | (clear q3; omega) | omega)) j_112 p_107 p_109 (by (first | (clear q3 h45; omega) | (clear q3; omega) | omega)) (by (first | (clear q3 h45; omega) | (clear q3; omega) | omega)) (by (first | (clear q3 h45; omega) | (clear q3; omega) | omega)) (by (first | (clear q3 h45; omega) | (clear q3; omega) | omega)) j_113 j_114 j_115 p_108 z_111 (by (first | (clear q3 h45; omega) | (clear q3; omega) | omega))
    · refine to_an (pc := 53) rw_227_53 rfl (tt_gI (pc := 54) rw_227_54 (g_o hG rfl) (v := (N.2.1 77 68)) rfl (b_ieq (pc := 57) rw_227_57 (A := (N.2.1 77 68).toInt) rfl (fun h117 => ?_) (fun h117 => ?_)))
      · refine to_an (pc := 67) rw_227_67 rfl (tt_gI (pc := 68) rw_227_68 (g_o hG rfl) (v := (N.2.1 77 68)) rfl (b_ine_f (pc := 71) rw_227_71 (A := (N.2.1 77 68).toInt) rfl (by (first | (clear q3; omega) | omega)) (to_an (pc := 74) rw_227_74 rfl (s_v (pc := 75) rw_227_75 (dp0 hd (by decide)) (ls0 := [.ref 77, .null, .null, .null, .null, .null]) rfl (Nat.le_of_ble_eq_true rfl) (Nat.le_of_ble_eq_true rfl) rfl (to_rc rfl rfl rfl (g_o hG rfl)) rfl (E_225 hX (dp1 hd (by decide)) hG (by (first | (clear q3; omega) | omega)) g3 g2 (by (first | (clear q3; omega) | omega)) g4 (by (first | (clear q3; omega) | omega)) (by (first | (clear q3; omega) | omega)) (by (first | (clear q3; omega) | omega)) g9 g10 g11 g12 (t := t) (nn := nn) (a := (N.2.1 77 10).toInt) (sg := sg) (fun r118 M132 hG120 F119 p_121 p_122 p_123 p_124 p_125 p_126 p_127 p_128 p_129 p_130 p_131 => ?_))))))
        have F133 := FR.c F0 F119 tg_403
        have b_134 := g_b hG120 (a := 77) (i := 7) (lo := 0) (hi := 500) rfl rfl
        have c_135 : M132.2.1 77 6 = (N.2.1 77 6) := (F_n F119 (show ¬ (77 = 77 ∧ (6 = 4 ∨ 6 = 5 ∨ 7 ≤ 6 ∧ 6 ≤ 10) ∨ 77 = 77 ∧ (6 = 59 ∨ 65 ≤ 6 ∧ 6 ≤ 69) ∨ 112 ≤ 77 ∧ 77 ≤ 114 ∧ 40 ≤ 6 ∨ 77 = 115 ∨ 77 = 116) by decide) rfl)
        have t_136 : (M132.2.1 77 6).toInt = (N.2.1 77 6).toInt := congrArg Int32.toInt c_135
        rcases (show r118.toInt = 0 ∨ r118.toInt = 1 by (first | (clear q3; omega) | omega)) with h137 | h137
        · skip
          have p_138 := p_131 (by (first | (clear q3; omega) | omega))
          clear p_125 p_126 p_127 p_128 p_129 p_130 p_131
          have z_139 := (g13.trans (q_w (show (N.2.1 77 68).toInt = 0 by (first | (clear q3; omega) | omega)) rfl rfl rfl)).trans p_138
          refine b_ieq_t (pc := 78) rw_227_78 (A := r118.toInt) rfl (by (first | (clear q3; omega) | omega)) (to_c (pc := 91) rw_227_91 (x := (-1 : Int32)) rfl rfl (to_r0 (pc := 92) rw_227_92 ?_))
          have k_140 : (-1 : Int32).toInt = -1 := rfl
          exact h (-1 : Int32) M132 hG120 F133 (by (first | (clear q3; omega) | omega)) (fun _ => Or.inl ⟨_, _, z_139, rfl⟩) (by (first | (clear q3; omega) | omega)) (fun _ => z_139)
        · skip
          have p_141 := p_125 (by (first | (clear q3; omega) | omega))
          have p_142 := p_126 (by (first | (clear q3; omega) | omega))
          have p_143 := p_127 (by (first | (clear q3; omega) | omega))
          have p_144 := p_128 (by (first | (clear q3; omega) | omega))
          have p_145 := p_129 (by (first | (clear q3; omega) | omega))
          have p_146 := p_130 (by (first | (clear q3; omega) | omega))
          clear p_125 p_126 p_127 p_128 p_129 p_130 p_131
          have z_147 := (g13.trans (q_w (show (N.2.1 77 68).toInt = 0 by (first | (clear q3; omega) | omega)) rfl rfl rfl)).trans p_146
          refine b_ieq_f (pc := 78) rw_227_78 (A := r118.toInt) rfl (by (first | (clear q3; omega) | omega)) (to_go (pc := 81) rw_227_81 ?_)
          have j_148 := (FA_f (tg_394 F119) g2)
          have j_149 := (TR_f (tg_467 F119) g9)
          have j_150 := (W9_f (tg_468 F119) g10)
          have j_151 := (PLk_f (tg_469 F119) g11)
          have b_152 := g_b hG120 (a := 77) (i := 8) (lo := 0) (hi := 5) rfl rfl
          exact ih M132 (u1) (u2) hG120 F133 (by (first | (clear q3; omega) | omega)) j_148 p_143 p_145 (by (first | (clear q3; omega) | omega)) (by (first | (clear q3; omega) | omega)) (by (first | (clear q3; omega) | omega)) (by (first | (clear q3; omega) | omega)) j_149 j_150 j_151 p_144 z_147 (by (first | (clear q3; omega) | omega))
      · refine to_an (pc := 60) rw_227_60 rfl (tt_gI (pc := 61) rw_227_61 (g_o hG rfl) (v := (N.2.1 77 67)) rfl (b_ile (pc := 64) rw_227_64 (A := (N.2.1 77 67).toInt) rfl (fun h153 => ?_) (fun h153 => ?_)))
        · refine to_an (pc := 93) rw_227_93 rfl (to_c (pc := 94) rw_227_94 (x := (1 : Int32)) rfl rfl (s_v (pc := 95) rw_227_95 (dp0 hd (by decide)) (ls0 := [.ref 77, .int (1 : Int32), .null, .null, .null]) rfl (Nat.le_of_ble_eq_true rfl) (Nat.le_of_ble_eq_true rfl) rfl (to_rc rfl rfl rfl (g_o hG rfl)) rfl ?_))
          have k_154 : (1 : Int32).toInt = 1 := rfl
          refine C_223 hX (dp1 hd (by decide)) hG (by (first | (clear q3 h117; omega) | (clear q3; omega) | omega)) (by (first | (clear q3 h117; omega) | (clear q3; omega) | omega)) (by (first | (clear q3 h117; omega) | (clear q3; omega) | omega)) g3 (l := (1 : Int32)) (fun M160 hG156 F155 p_157 p_158 p_159 => ?_)
          have F161 := FR.c F0 F155 tg_404
          have b_162 := g_b hG156 (a := 77) (i := 65) (lo := 0) (hi := 48) rfl rfl
          have c_163 : M160.2.1 77 67 = (N.2.1 77 67) := (F_n F155 (show ¬ (77 = 77 ∧ (67 = 59 ∨ 67 = 65 ∨ 67 = 66) ∨ 112 ≤ 77 ∧ 77 ≤ 114 ∧ 40 ≤ 67 ∨ 77 = 116) by decide) rfl)
          have t_164 : (M160.2.1 77 67).toInt = (N.2.1 77 67).toInt := congrArg Int32.toInt c_163
          have b_165 := g_b hG156 (a := 77) (i := 59) (lo := 0) (hi := 40) rfl rfl
          have z_166 := QK_z p_157 (by (first | (clear q3 h117 p_159; omega) | (clear q3 p_159; omega) | omega)) (by (first | (clear q3 h117 p_159; omega) | (clear q3 p_159; omega) | omega)) (p_159 rfl)
          have z_167 := QE_z (p_158.trans g12) z_166
          refine to_an (pc := 98) rw_227_98 rfl (to_an (pc := 99) rw_227_99 rfl (tt_gI (pc := 100) rw_227_100 (g_o hG156 rfl) (v := (M160.2.1 77 59)) rfl (s_pI (pc := 103) rw_227_103 hG156 rfl (fun M169 W168 => ?_))))
          have hG170 := g_w hG156 W168 (A := (M160.2.1 77 59).toInt) rfl (lo := 0) (hi := 40) rfl rfl (by (first | (clear q3 h117 p_159; omega) | (clear q3 p_159; omega) | omega)) (by decide)
          have F171 := FR.w F161 W168 (show 77 = 77 ∧ (1 ≤ 58 ∧ 58 ≤ 2 ∨ 4 ≤ 58 ∧ 58 ≤ 10 ∨ 57 ≤ 58 ∧ 58 ≤ 59 ∨ 65 ≤ 58 ∧ 58 ≤ 69) ∨ 112 ≤ 77 ∧ 77 ≤ 116 by decide)
          refine to_an (pc := 106) rw_227_106 rfl (to_c (pc := 107) rw_227_107 (x := (1 : Int32)) rfl rfl (s_pZ (pc := 108) rw_227_108 hG170 rfl (A := 1) rfl (by (first | (clear q3 h117 p_159; omega) | (clear q3 p_159; omega) | omega)) (fun M173 W172 => ?_)))
          have hG174 := g_w hG170 W172 (A := 1) rfl (lo := 0) (hi := 1) rfl rfl (by (first | (clear q3 h117 p_159; omega) | (clear q3 p_159; omega) | omega)) (by decide)
          have F175 := FR.w F171 W172 (show 77 = 77 ∧ (1 ≤ 57 ∧ 57 ≤ 2 ∨ 4 ≤ 57 ∧ 57 ≤ 10 ∨ 57 ≤ 57 ∧ 57 ≤ 59 ∨ 65 ≤ 57 ∧ 57 ≤ 69) ∨ 112 ≤ 77 ∧ 77 ≤ 116 by decide)
          refine to_c (pc := 111) rw_227_111 (x := (0 : Int32)) rfl rfl (to_isn (pc := 112) rw_227_112 (ls2 := [.ref 77, u1, .int (0 : Int32)]) rfl rfl ?_)
          have k_176 : (0 : Int32).toInt = 0 := rfl
          have c_177 : M173.2.1 77 58 = (M160.2.1 77 59) := (W_n W172 (by decide) (W_e W168))
          have t_178 : (M173.2.1 77 58).toInt = (M160.2.1 77 59).toInt := congrArg Int32.toInt c_177
          exact (U_227_0 (n := n) (t := t) (nn := nn) (sg := sg) hX hd q1 q2 q3 q4 q5 q6 h ((40 - (0 : Int32).toInt).toNat + 1)) M173 (u1) (0 : Int32) hG174 F175 (by (first | (clear q3 h117 p_159; omega) | (clear q3 p_159; omega) | omega)) (by (first | (clear q3 h117 p_159; omega) | (clear q3 p_159; omega) | omega)) (by (first | (clear q3 h117 p_159; omega) | (clear q3 p_159; omega) | omega)) (by (first | (clear q3 h117 p_159; omega) | (clear q3 p_159; omega) | omega)) ((g13.trans (q_w (show (N.2.1 77 68).toInt = 1 by (first | (clear q3 h117 p_159; omega) | (clear q3 p_159; omega) | omega)) rfl rfl rfl)).trans ((q_end (by (first | (clear q3 h117 p_159; omega) | (clear q3 p_159; omega) | omega)) (by (first | (clear q3 h117 p_159; omega) | (clear q3 p_159; omega) | omega)) (by (first | (clear q3 h117 p_159; omega) | (clear q3 p_159; omega) | omega)) (by (first | (clear q3 h117 p_159; omega) | (clear q3 p_159; omega) | omega))).trans (congrArg Sum.inr (by (first | (clear q3 h117 p_159; omega) | (clear q3 p_159; omega) | omega))))) (by (first | (clear q3 h117 p_159; omega) | (clear q3 p_159; omega) | omega))
        · refine to_an (pc := 67) rw_227_67 rfl (tt_gI (pc := 68) rw_227_68 (g_o hG rfl) (v := (N.2.1 77 68)) rfl (b_ine_t (pc := 71) rw_227_71 (A := (N.2.1 77 68).toInt) rfl (by (first | (clear q3 h117; omega) | (clear q3; omega) | omega)) (to_an (pc := 84) rw_227_84 rfl (s_v (pc := 85) rw_227_85 (dp0 hd (by decide)) (ls0 := [.ref 77, .null]) rfl (Nat.le_of_ble_eq_true rfl) (Nat.le_of_ble_eq_true rfl) rfl (to_rc rfl rfl rfl (g_o hG rfl)) rfl (E_226 hX (dp1 hd (by decide)) hG (by (first | (clear q3 h117; omega) | (clear q3; omega) | omega)) g3 (by (first | (clear q3 h117; omega) | (clear q3; omega) | omega)) g4 (by (first | (clear q3 h117; omega) | (clear q3; omega) | omega)) (by (first | (clear q3 h117; omega) | (clear q3; omega) | omega)) (by (first | (clear q3 h117; omega) | (clear q3; omega) | omega)) g9 g10 g11 g12 (by (first | (clear q3 h117; omega) | (clear q3; omega) | omega)) (t := t) (nn := nn) (a := (N.2.1 77 10).toInt) (sg := sg) (fun r179 M193 hG181 F180 p_182 p_183 p_184 p_185 p_186 p_187 p_188 p_189 p_190 p_191 p_192 => ?_))))))
          have F194 := FR.c F0 F180 tg_403
          have b_195 := g_b hG181 (a := 77) (i := 7) (lo := 0) (hi := 500) rfl rfl
          have c_196 : M193.2.1 77 6 = (N.2.1 77 6) := (F_n F180 (show ¬ (77 = 77 ∧ (6 = 4 ∨ 6 = 5 ∨ 7 ≤ 6 ∧ 6 ≤ 10) ∨ 77 = 77 ∧ (6 = 59 ∨ 65 ≤ 6 ∧ 6 ≤ 69) ∨ 112 ≤ 77 ∧ 77 ≤ 114 ∧ 40 ≤ 6 ∨ 77 = 115 ∨ 77 = 116) by decide) rfl)
          have t_197 : (M193.2.1 77 6).toInt = (N.2.1 77 6).toInt := congrArg Int32.toInt c_196
          have b_198 := g_b hG181 (a := 77) (i := 8) (lo := 0) (hi := 5) rfl rfl
          rcases (show r179.toInt = 0 ∨ r179.toInt = 1 by (first | (clear q3 h117; omega) | (clear q3; omega) | omega)) with h199 | h199
          · skip
            have p_200 := p_192 (by (first | (clear q3 h117; omega) | (clear q3; omega) | omega))
            clear p_186 p_187 p_188 p_189 p_190 p_191 p_192
            have z_201 := (g13.trans (q_w (show (N.2.1 77 68).toInt = 1 by (first | (clear q3 h117; omega) | (clear q3; omega) | omega)) rfl rfl rfl)).trans p_200
            refine b_ine_f (pc := 88) rw_227_88 (A := r179.toInt) rfl (by (first | (clear q3 h117; omega) | (clear q3; omega) | omega)) (to_c (pc := 91) rw_227_91 (x := (-1 : Int32)) rfl rfl (to_r0 (pc := 92) rw_227_92 ?_))
            have k_202 : (-1 : Int32).toInt = -1 := rfl
            exact h (-1 : Int32) M193 hG181 F194 (by (first | (clear q3 h117; omega) | (clear q3; omega) | omega)) (fun _ => Or.inl ⟨_, _, z_201, rfl⟩) (by (first | (clear q3 h117; omega) | (clear q3; omega) | omega)) (fun _ => z_201)
          · skip
            have p_203 := p_186 (by (first | (clear q3 h117; omega) | (clear q3; omega) | omega))
            have p_204 := p_187 (by (first | (clear q3 h117; omega) | (clear q3; omega) | omega))
            have p_205 := p_188 (by (first | (clear q3 h117; omega) | (clear q3; omega) | omega))
            have p_206 := p_189 (by (first | (clear q3 h117; omega) | (clear q3; omega) | omega))
            have p_207 := p_190 (by (first | (clear q3 h117; omega) | (clear q3; omega) | omega))
            have p_208 := p_191 (by (first | (clear q3 h117; omega) | (clear q3; omega) | omega))
            clear p_186 p_187 p_188 p_189 p_190 p_191 p_192
            have z_209 := (g13.trans (q_w (show (N.2.1 77 68).toInt = 1 by (first | (clear q3 h117; omega) | (clear q3; omega) | omega)) rfl rfl rfl)).trans p_208
            refine b_ine_t (pc := 88) rw_227_88 (A := r179.toInt) rfl (by (first | (clear q3 h117; omega) | (clear q3; omega) | omega)) ?_
            have j_210 := (FA_f (tg_394 F180) g2)
            have j_211 := (TR_f (tg_467 F180) g9)
            have j_212 := (W9_f (tg_468 F180) g10)
            have j_213 := (PLk_f (tg_469 F180) g11)
            exact ih M193 (u1) (u2) hG181 F194 (by (first | (clear q3 h117; omega) | (clear q3; omega) | omega)) j_210 p_205 p_207 (by (first | (clear q3 h117; omega) | (clear q3; omega) | omega)) (by (first | (clear q3 h117; omega) | (clear q3; omega) | omega)) (by (first | (clear q3 h117; omega) | (clear q3; omega) | omega)) (by (first | (clear q3 h117; omega) | (clear q3; omega) | omega)) j_211 j_212 j_213 p_206 z_209 (by (first | (clear q3 h117; omega) | (clear q3; omega) | omega))
set_option maxRecDepth 4000 in
set_option maxHeartbeats 0 in
theorem E_227 {X : mm_X} {d : Nat} {M : mm_M} {Q : Option Value → mm_M → Prop} {n : Int32} {t : Nat → Int} {nn : Int} {sg : x_S} (hX : g_X X) (hd : 3 ≤ d) (hG : g_G M) (q1 : (M.2.1 77 7).toInt ≤ (M.2.1 77 6).toInt) (q2 : FA M) (q3 : 0 ≤ n.toInt ∧ n.toInt ≤ (M.2.1 77 1).toInt → n.toInt = nn) (q4 : TR M t nn) (q5 : W9 M) (q6 : PLk M sg) (h : ∀ (r : Int32) (M1 : mm_M), g_G M1 → FR md_qu M M1 → (n.toInt < 0 ∨ (M.2.1 77 1).toInt < n.toInt → r.toInt = -2) → ((0 ≤ n.toInt ∧ n.toInt ≤ (M.2.1 77 1).toInt → QAN (x_qq t nn sg 0 0 0 (x_sk t nn 0)) r.toInt)) → (-2 ≤ r.toInt) → ((r.toInt = -1 → x_qq t nn sg 0 0 0 (x_sk t nn 0) = Sum.inl ((M1.2.1 77 4).toInt, (M1.2.1 77 5).toInt))) → Q (some (.int r)) M1) : mm_T X d 226 0 [.ref 77, .int n, .null] [] M Q := by
  have F0 : FR md_qu M M := FR.rf
  have b_214 := g_b hG (a := 77) (i := 7) (lo := 0) (hi := 500) rfl rfl
  have b_215 := g_b hG (a := 77) (i := 6) (lo := 0) (hi := 500) rfl rfl
  have b_216 := g_b hG (a := 77) (i := 1) (lo := 0) (hi := 500) rfl rfl
  refine to_an (pc := 0) rw_227_0 rfl (to_c (pc := 1) rw_227_1 (x := (0 : Int32)) rfl rfl (s_pI (pc := 2) rw_227_2 hG rfl (fun M218 W217 => ?_)))
  have hG219 := g_wf hG W217 rfl rfl (by decide)
  have F220 := FR.w F0 W217 (show 77 = 77 ∧ (1 ≤ 2 ∧ 2 ≤ 2 ∨ 4 ≤ 2 ∧ 2 ≤ 10 ∨ 57 ≤ 2 ∧ 2 ≤ 59 ∨ 65 ≤ 2 ∧ 2 ≤ 69) ∨ 112 ≤ 77 ∧ 77 ≤ 116 by decide)
  refine to_an (pc := 5) rw_227_5 rfl (to_in (pc := 6) rw_227_6 rfl (s_v (pc := 7) rw_227_7 (dp0 hd (by decide)) (ls0 := [.ref 77, .int n]) rfl (Nat.le_of_ble_eq_true rfl) (Nat.le_of_ble_eq_true rfl) rfl (to_rc rfl rfl rfl (g_o hG219 rfl)) rfl ?_))
  have c_221 : M218.2.1 77 1 = (M.2.1 77 1) := (W_n W217 (by decide) rfl)
  have t_222 : (M218.2.1 77 1).toInt = (M.2.1 77 1).toInt := congrArg Int32.toInt c_221
  have c_223 : M218.2.1 77 4 = (M.2.1 77 4) := (W_n W217 (by decide) rfl)
  have t_224 : (M218.2.1 77 4).toInt = (M.2.1 77 4).toInt := congrArg Int32.toInt c_223
  have c_225 : M218.2.1 77 5 = (M.2.1 77 5) := (W_n W217 (by decide) rfl)
  have t_226 : (M218.2.1 77 5).toInt = (M.2.1 77 5).toInt := congrArg Int32.toInt c_225
  have c_227 : M218.2.1 77 7 = (M.2.1 77 7) := (W_n W217 (by decide) rfl)
  have t_228 : (M218.2.1 77 7).toInt = (M.2.1 77 7).toInt := congrArg Int32.toInt c_227
  have c_229 : M218.2.1 77 6 = (M.2.1 77 6) := (W_n W217 (by decide) rfl)
  have t_230 : (M218.2.1 77 6).toInt = (M.2.1 77 6).toInt := congrArg Int32.toInt c_229
  have j_231 := (TR_f (fun a i z => W_n W217 (tg_88 a i z) rfl) q4)
  have j_232 := (W9_f (fun a i z => W_n W217 (tg_89 a i z) rfl) q5)
  refine E_163 hX (dp1 hd (by decide)) hG219 (by (first | (clear q3; omega) | omega)) (by (first | (clear q3; omega) | omega)) j_231 j_232 (n := n) (fun r233 M244 hG235 F234 p_236 p_237 p_238 p_239 p_240 p_241 p_242 p_243 => ?_)
  have F245 := FR.c F220 F234 tg_405
  have b_246 := g_b hG235 (a := 77) (i := 7) (lo := 0) (hi := 500) rfl rfl
  have b_247 := g_b hG235 (a := 77) (i := 6) (lo := 0) (hi := 500) rfl rfl
  have b_248 := g_b hG235 (a := 77) (i := 1) (lo := 0) (hi := 500) rfl rfl
  rcases (show r233.toInt = 0 ∨ r233.toInt = 1 by (first | (clear q3 p_239 p_240 p_241 p_242 p_243; omega) | omega)) with h249 | h249
  · skip
    have p_250 := p_242 (by (first | (clear q3 p_239 p_240 p_241 p_242 p_243; omega) | omega))
    clear p_241 p_242 p_243
    refine b_ine_f (pc := 10) rw_227_10 (A := r233.toInt) rfl (by (first | (clear q3 p_239 p_240 p_241 p_242 p_243; omega) | omega)) (to_c (pc := 13) rw_227_13 (x := (-2 : Int32)) rfl rfl (to_r0 (pc := 15) rw_227_15 ?_))
    have k_251 : (-2 : Int32).toInt = -2 := rfl
    exact h (-2 : Int32) M244 hG235 F245 (by (first | (clear q3 p_239 p_240 p_241 p_242 p_243; omega) | omega)) (fun z => by exfalso; omega) (by (first | (clear q3 p_239 p_240 p_241 p_242 p_243; omega) | omega)) (fun z => by exfalso; omega)
  · skip
    have p_252 := p_241 (by (first | (clear q3 p_239 p_240 p_241 p_242 p_243; omega) | omega))
    have p_253 := p_243 (by (first | (clear q3 p_239 p_240 p_241 p_242 p_243; omega) | omega))
    clear p_241 p_242 p_243
    have b_254 := g_b hG235 (a := 77) (i := 10) (lo := 0) (hi := 500) rfl rfl
    have z_255 := p_253.2
    refine b_ine_t (pc := 10) rw_227_10 (A := r233.toInt) rfl (by (first | (clear q3 p_239 p_240 p_241 p_242 p_243; omega) | omega)) (to_an (pc := 16) rw_227_16 rfl (to_c (pc := 17) rw_227_17 (x := (0 : Int32)) rfl rfl (s_pI (pc := 18) rw_227_18 hG235 rfl (fun M257 W256 => ?_))))
    have hG258 := g_w hG235 W256 (A := 0) rfl (lo := 0) (hi := 40) rfl rfl (by (first | (clear q3 p_239 p_240 p_241 p_242 p_243; omega) | omega)) (by decide)
    have F259 := FR.w F245 W256 (show 77 = 77 ∧ (1 ≤ 59 ∧ 59 ≤ 2 ∨ 4 ≤ 59 ∧ 59 ≤ 10 ∨ 57 ≤ 59 ∧ 59 ≤ 59 ∨ 65 ≤ 59 ∧ 59 ≤ 69) ∨ 112 ≤ 77 ∧ 77 ≤ 116 by decide)
    refine to_an (pc := 21) rw_227_21 rfl (to_c (pc := 22) rw_227_22 (x := (0 : Int32)) rfl rfl (s_pI (pc := 23) rw_227_23 hG258 rfl (fun M261 W260 => ?_)))
    have hG262 := g_w hG258 W260 (A := 0) rfl (lo := 0) (hi := 40) rfl rfl (by (first | (clear q3 p_239 p_240 p_241 p_242 p_243; omega) | omega)) (by decide)
    have F263 := FR.w F259 W260 (show 77 = 77 ∧ (1 ≤ 69 ∧ 69 ≤ 2 ∨ 4 ≤ 69 ∧ 69 ≤ 10 ∨ 57 ≤ 69 ∧ 69 ≤ 59 ∨ 65 ≤ 69 ∧ 69 ≤ 69) ∨ 112 ≤ 77 ∧ 77 ≤ 116 by decide)
    refine to_an (pc := 26) rw_227_26 rfl (to_c (pc := 27) rw_227_27 (x := (0 : Int32)) rfl rfl (s_pI (pc := 28) rw_227_28 hG262 rfl (fun M265 W264 => ?_)))
    have hG266 := g_w hG262 W264 (A := 0) rfl (lo := 0) (hi := 48) rfl rfl (by (first | (clear q3 p_239 p_240 p_241 p_242 p_243; omega) | omega)) (by decide)
    have F267 := FR.w F263 W264 (show 77 = 77 ∧ (1 ≤ 65 ∧ 65 ≤ 2 ∨ 4 ≤ 65 ∧ 65 ≤ 10 ∨ 57 ≤ 65 ∧ 65 ≤ 59 ∨ 65 ≤ 65 ∧ 65 ≤ 69) ∨ 112 ≤ 77 ∧ 77 ≤ 116 by decide)
    refine to_an (pc := 31) rw_227_31 rfl (to_c (pc := 32) rw_227_32 (x := (0 : Int32)) rfl rfl (s_pI (pc := 33) rw_227_33 hG266 rfl (fun M269 W268 => ?_)))
    have hG270 := g_w hG266 W268 (A := 0) rfl (lo := 0) (hi := 40) rfl rfl (by (first | (clear q3 p_239 p_240 p_241 p_242 p_243; omega) | omega)) (by decide)
    have F271 := FR.w F267 W268 (show 77 = 77 ∧ (1 ≤ 66 ∧ 66 ≤ 2 ∨ 4 ≤ 66 ∧ 66 ≤ 10 ∨ 57 ≤ 66 ∧ 66 ≤ 59 ∨ 65 ≤ 66 ∧ 66 ≤ 69) ∨ 112 ≤ 77 ∧ 77 ≤ 116 by decide)
    refine to_an (pc := 36) rw_227_36 rfl (to_c (pc := 37) rw_227_37 (x := (0 : Int32)) rfl rfl (s_pI (pc := 38) rw_227_38 hG270 rfl (fun M273 W272 => ?_)))
    have hG274 := g_w hG270 W272 (A := 0) rfl (lo := 0) (hi := 8) rfl rfl (by (first | (clear q3 p_239 p_240 p_241 p_242 p_243; omega) | omega)) (by decide)
    have F275 := FR.w F271 W272 (show 77 = 77 ∧ (1 ≤ 67 ∧ 67 ≤ 2 ∨ 4 ≤ 67 ∧ 67 ≤ 10 ∨ 57 ≤ 67 ∧ 67 ≤ 59 ∨ 65 ≤ 67 ∧ 67 ≤ 69) ∨ 112 ≤ 77 ∧ 77 ≤ 116 by decide)
    refine to_an (pc := 41) rw_227_41 rfl (to_c (pc := 42) rw_227_42 (x := (0 : Int32)) rfl rfl (s_pI (pc := 43) rw_227_43 hG274 rfl (fun M277 W276 => ?_)))
    have hG278 := g_w hG274 W276 (A := 0) rfl (lo := 0) (hi := 1) rfl rfl (by (first | (clear q3 p_239 p_240 p_241 p_242 p_243; omega) | omega)) (by decide)
    have F279 := FR.w F275 W276 (show 77 = 77 ∧ (1 ≤ 68 ∧ 68 ≤ 2 ∨ 4 ≤ 68 ∧ 68 ≤ 10 ∨ 57 ≤ 68 ∧ 68 ≤ 59 ∨ 65 ≤ 68 ∧ 68 ≤ 69) ∨ 112 ≤ 77 ∧ 77 ≤ 116 by decide)
    have c_280 : M277.2.1 77 59 = (0 : Int32) := (W_n W276 (by decide) (W_n W272 (by decide) (W_n W268 (by decide) (W_n W264 (by decide) (W_n W260 (by decide) (W_e W256))))))
    have k_281 : (0 : Int32).toInt = 0 := rfl
    have t_282 : (M277.2.1 77 59).toInt = (0 : Int32).toInt := congrArg Int32.toInt c_280
    have c_283 : M277.2.1 77 65 = (0 : Int32) := (W_n W276 (by decide) (W_n W272 (by decide) (W_n W268 (by decide) (W_e W264))))
    have t_284 : (M277.2.1 77 65).toInt = (0 : Int32).toInt := congrArg Int32.toInt c_283
    have c_285 : M277.2.1 77 66 = (0 : Int32) := (W_n W276 (by decide) (W_n W272 (by decide) (W_e W268)))
    have t_286 : (M277.2.1 77 66).toInt = (0 : Int32).toInt := congrArg Int32.toInt c_285
    have c_287 : M277.2.1 77 67 = (0 : Int32) := (W_n W276 (by decide) (W_e W272))
    have t_288 : (M277.2.1 77 67).toInt = (0 : Int32).toInt := congrArg Int32.toInt c_287
    have c_289 : M277.2.1 77 68 = (0 : Int32) := (W_e W276)
    have t_290 : (M277.2.1 77 68).toInt = (0 : Int32).toInt := congrArg Int32.toInt c_289
    have c_291 : M277.2.1 77 69 = (0 : Int32) := (W_n W276 (by decide) (W_n W272 (by decide) (W_n W268 (by decide) (W_n W264 (by decide) (W_e W260)))))
    have t_292 : (M277.2.1 77 69).toInt = (0 : Int32).toInt := congrArg Int32.toInt c_291
    have j_293 : QK M277 := QK_0 (by (first | (clear q3 p_239 p_240 p_241 p_242 p_243; omega) | omega)) (by (first | (clear q3 p_239 p_240 p_241 p_242 p_243; omega) | omega)) (by (first | (clear q3 p_239 p_240 p_241 p_242 p_243; omega) | omega)) (by (first | (clear q3 p_239 p_240 p_241 p_242 p_243; omega) | omega)) (by (first | (clear q3 p_239 p_240 p_241 p_242 p_243; omega) | omega)) (by (first | (clear q3 p_239 p_240 p_241 p_242 p_243; omega) | omega))
    have c_294 : M277.2.1 77 7 = (M244.2.1 77 7) := (W_n W276 (by decide) (W_n W272 (by decide) (W_n W268 (by decide) (W_n W264 (by decide) (W_n W260 (by decide) (W_n W256 (by decide) rfl))))))
    have t_295 : (M277.2.1 77 7).toInt = (M244.2.1 77 7).toInt := congrArg Int32.toInt c_294
    have c_296 : M277.2.1 77 6 = (M244.2.1 77 6) := (W_n W276 (by decide) (W_n W272 (by decide) (W_n W268 (by decide) (W_n W264 (by decide) (W_n W260 (by decide) (W_n W256 (by decide) rfl))))))
    have t_297 : (M277.2.1 77 6).toInt = (M244.2.1 77 6).toInt := congrArg Int32.toInt c_296
    have j_298 := (FA_f (fun a i z => W_n W276 (tg_393 a i z) rfl) (FA_f (fun a i z => W_n W272 (tg_414 a i z) rfl) (FA_f (fun a i z => W_n W268 (tg_415 a i z) rfl) (FA_f (fun a i z => W_n W264 (tg_416 a i z) rfl) (FA_f (fun a i z => W_n W260 (tg_392 a i z) rfl) (FA_f (fun a i z => W_n W256 (tg_417 a i z) rfl) (FA_f (tg_328 F234) (FA_f (fun a i z => W_n W217 (tg_94 a i z) rfl) q2))))))))
    have j_299 := (RS_f (fun a i z => W_n W276 (tg_453 a i z) rfl) (RS_f (fun a i z => W_n W272 (tg_447 a i z) rfl) (RS_f (fun a i z => W_n W268 (tg_471 a i z) rfl) (RS_f (fun a i z => W_n W264 (tg_448 a i z) rfl) (RS_f (fun a i z => W_n W260 (tg_455 a i z) rfl) (RS_f (fun a i z => W_n W256 (tg_472 a i z) rfl) p_253.1))))))
    have j_300 := (TR_f (fun a i z => W_n W276 (tg_456 a i z) rfl) (TR_f (fun a i z => W_n W272 (tg_449 a i z) rfl) (TR_f (fun a i z => W_n W268 (tg_473 a i z) rfl) (TR_f (fun a i z => W_n W264 (tg_450 a i z) rfl) (TR_f (fun a i z => W_n W260 (tg_458 a i z) rfl) (TR_f (fun a i z => W_n W256 (tg_474 a i z) rfl) (TR_f (tg_73 F234) j_231)))))))
    have j_301 := (W9_f (fun a i z => W_n W276 (tg_459 a i z) rfl) (W9_f (fun a i z => W_n W272 (tg_451 a i z) rfl) (W9_f (fun a i z => W_n W268 (tg_475 a i z) rfl) (W9_f (fun a i z => W_n W264 (tg_452 a i z) rfl) (W9_f (fun a i z => W_n W260 (tg_461 a i z) rfl) (W9_f (fun a i z => W_n W256 (tg_476 a i z) rfl) (W9_f (tg_75 F234) j_232)))))))
    have j_302 := (PLk_f (fun a i z => W_n W276 (tg_465 a i z) rfl) (PLk_f (fun a i z => W_n W272 (tg_477 a i z) rfl) (PLk_f (fun a i z => W_n W268 (tg_478 a i z) rfl) (PLk_f (fun a i z => W_n W264 (tg_479 a i z) rfl) (PLk_f (fun a i z => W_n W260 (tg_466 a i z) rfl) (PLk_f (fun a i z => W_n W256 (tg_480 a i z) rfl) (PLk_f (tg_470 F234) (PLk_f (fun a i z => W_n W217 (tg_91 a i z) rfl) q6))))))))
    have c_303 : M277.2.1 77 10 = (M244.2.1 77 10) := (W_n W276 (by decide) (W_n W272 (by decide) (W_n W268 (by decide) (W_n W264 (by decide) (W_n W260 (by decide) (W_n W256 (by decide) rfl))))))
    have t_304 : (M277.2.1 77 10).toInt = (M244.2.1 77 10).toInt := congrArg Int32.toInt c_303
    have c_305 : M277.2.1 77 8 = (M244.2.1 77 8) := (W_n W276 (by decide) (W_n W272 (by decide) (W_n W268 (by decide) (W_n W264 (by decide) (W_n W260 (by decide) (W_n W256 (by decide) rfl))))))
    have b_306 := g_b hG235 (a := 77) (i := 8) (lo := 0) (hi := 5) rfl rfl
    have t_307 : (M277.2.1 77 8).toInt = (M244.2.1 77 8).toInt := congrArg Int32.toInt c_305
    exact (U_227_1 (n := n) (t := t) (nn := nn) (sg := sg) hX hd q1 q2 q3 q4 q5 q6 h ((6 * (500 - (M277.2.1 77 7).toInt) + (M277.2.1 77 8).toInt).toNat + 1)) M277 (.int n) (.null) hG278 F279 (by (first | (clear q3 p_239 p_240 p_241 p_242 p_243; omega) | omega)) j_298 j_293 j_299 (by (first | (clear q3 p_239 p_240 p_241 p_242 p_243; omega) | omega)) (by (first | (clear q3 p_239 p_240 p_241 p_242 p_243; omega) | omega)) (by (first | (clear q3 p_239 p_240 p_241 p_242 p_243; omega) | omega)) (by (first | (clear q3 p_239 p_240 p_241 p_242 p_243; omega) | omega)) j_300 j_301 j_302 (QE_0 (by (first | (clear q3 p_239 p_240 p_241 p_242 p_243; omega) | omega)) (by (first | (clear q3 p_239 p_240 p_241 p_242 p_243; omega) | omega)) (by (first | (clear q3 p_239 p_240 p_241 p_242 p_243; omega) | omega))) (q_w (by (first | (clear q3 p_239 p_240 p_241 p_242 p_243; omega) | omega)) (by (first | (clear q3 p_239 p_240 p_241 p_242 p_243; omega) | omega)) (by (first | (clear q3 p_239 p_240 p_241 p_242 p_243; omega) | omega)) (by (first | (clear q3 p_239 p_240 p_241 p_242 p_243; omega) | omega))) (by (first | (clear q3 p_239 p_240 p_241 p_242 p_243; omega) | omega))
