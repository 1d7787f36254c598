set_option maxRecDepth 4000 in
set_option maxHeartbeats 0 in
theorem LW_26 {X : mm_X} {d L : Nat} {M : mm_M} {Q : Option Value → mm_M → Prop} {i : Int32} {u5 u6 : Value} (hX : g_X X) (hW : g_W X) (hW2 : g_W2 X) (hL : (X 0).1 = L) (h3 : L ≤ 3072) (hd : 40 ≤ d) (hi : 0 ≤ i.toInt) (hi2 : i.toInt + 6 ≤ (L : Int)) (H : LI10 M) (h : ∀ (M1 : mm_M) (v5 v6 : Value), LI10 M1 → M1.1.2.1 ≤ M.1.2.1 + 1 → M1.1.2.2.1 ≤ M.1.2.2.1 + 6 → mm_T X d 0 1313 [.ref mm_ext, .ref 0, .ref 77, .ref 125, .int i, v5, v6] [] M1 Q) : mm_T X d 0 1129 [.ref mm_ext, .ref 0, .ref 77, .ref 125, .int i, u5, u6] [] M Q := by
  obtain ⟨⟨⟨⟨⟨⟨⟨⟨⟨hG, ⟨jPI, jNI, jQI, jPQE⟩, ⟨jFA, jWC, jNJ, jPS, jKQ⟩, jJ, jE⟩, jTP, jW9⟩, jNE, jCC⟩, -⟩, jOV⟩, jW8⟩, jNN⟩, jAN⟩, jKNA, jDN, jPN⟩ := H
  have b_1 := g_b hG (a := 77) (i := 7) (lo := 0) (hi := 500) rfl rfl
  have b_2 := g_b hG (a := 77) (i := 6) (lo := 0) (hi := 500) rfl rfl
  have b_3 := g_b hG (a := 1) (i := 1) (lo := 0) (hi := 500) rfl rfl
  have b_4 := g_b hG (a := 77) (i := 1) (lo := 0) (hi := 500) rfl rfl
  have b_5 := g_b hG (a := 0) (i := 12) (lo := 0) (hi := 30) rfl rfl
  have b_6 := g_b hG (a := 77) (i := 28) (lo := 0) (hi := 30) rfl rfl
  have b_7 := g_b hG (a := 6) (i := 0) (lo := 0) (hi := 150) rfl rfl
  have b_8 := g_b hG (a := 77) (i := 29) (lo := 0) (hi := 150) rfl rfl
  have b_9 := g_b hG (a := 28) (i := 8) (lo := 0) (hi := 3000) rfl rfl
  have b_10 := g_b hG (a := 77) (i := 43) (lo := 0) (hi := 3000) rfl rfl
  refine to_an (pc := 1129) rw_0_1129 rfl (to_an (pc := 1130) rw_0_1130 rfl (to_i (pc := 1131) rw_0_1131 rfl (to_c (pc := 1133) rw_0_1133 (x := (1 : Int32)) rfl rfl (s_add (pc := 1134) rw_0_1134 (A := i.toInt) (B := 1) rfl rfl (by omega) (fun v11 e12 => s_x0 (pc := 1135) rw_0_1135 hL (A := v11.toInt) rfl (by omega) (by omega) (fun v13 e14 => to_an (pc := 1136) rw_0_1136 rfl (to_i (pc := 1137) rw_0_1137 rfl (to_c (pc := 1139) rw_0_1139 (x := (2 : Int32)) rfl rfl (s_add (pc := 1140) rw_0_1140 (A := i.toInt) (B := 2) rfl rfl (by omega) (fun v15 e16 => s_x0 (pc := 1141) rw_0_1141 hL (A := v15.toInt) rfl (by omega) (by omega) (fun v17 e18 => to_an (pc := 1142) rw_0_1142 rfl ?_)))))))))))
  refine to_i (pc := 1143) rw_0_1143 rfl (to_c (pc := 1145) rw_0_1145 (x := (3 : Int32)) rfl rfl (s_add (pc := 1146) rw_0_1146 (A := i.toInt) (B := 3) rfl rfl (by omega) (fun v19 e20 => s_x0 (pc := 1147) rw_0_1147 hL (A := v19.toInt) rfl (by omega) (by omega) (fun v21 e22 => to_an (pc := 1148) rw_0_1148 rfl (to_i (pc := 1149) rw_0_1149 rfl (to_c (pc := 1151) rw_0_1151 (x := (4 : Int32)) rfl rfl (s_add (pc := 1152) rw_0_1152 (A := i.toInt) (B := 4) rfl rfl (by omega) (fun v23 e24 => s_x0 (pc := 1153) rw_0_1153 hL (A := v23.toInt) rfl (by omega) (by omega) (fun v25 e26 => to_an (pc := 1154) rw_0_1154 rfl (to_i (pc := 1155) rw_0_1155 rfl (to_c (pc := 1157) rw_0_1157 (x := (5 : Int32)) rfl rfl ?_)))))))))))
  refine s_add (pc := 1158) rw_0_1158 (A := i.toInt) (B := 5) rfl rfl (by omega) (fun v27 e28 => s_x0 (pc := 1159) rw_0_1159 hL (A := v27.toInt) rfl (by omega) (by omega) (fun v29 e30 => s_v (pc := 1160) rw_0_1160 (dp0 hd (by decide)) (ls0 := [.ref 0, .int v13, .int v17, .int v21, .int v25, .int v29]) rfl (Nat.le_of_ble_eq_true rfl) (Nat.le_of_ble_eq_true rfl) rfl (to_rc rfl rfl rfl (g_o hG rfl)) rfl ?_))
  obtain ⟨pz31, pzz31, qz31, qzz31, hpz31, hpzz31, hqz31, hqzz31, hpqz31⟩ := id jPQE
  refine C_135 hX (dp1 hd (by decide)) hG hpz31 hpzz31 hqz31 hqzz31 hpqz31 jNI jPI jQI (n := v13) (c := v17) (f := v21) (t := v25) (w := v29) (p := pz31) (pz := pzz31) (q := qz31) (qz := qzz31) (fun r32 M38 hG34 F33 p_35 p_36 p_37 => ?_)
  have n_39 : M38.1.2.1 = M.1.2.1 ∧ M38.1.2.2.1 = M.1.2.2.1 := by rw [F33.1]; exact ⟨rfl, rfl⟩
  refine to_popi (pc := 1163) rw_0_1163 (to_an (pc := 1164) rw_0_1164 rfl (to_an (pc := 1165) rw_0_1165 rfl (to_i (pc := 1166) rw_0_1166 rfl (to_c (pc := 1168) rw_0_1168 (x := (1 : Int32)) rfl rfl (s_addk (pc := 1169) rw_0_1169 (A := i.toInt) (B := 1) rfl rfl (by (first | (clear hpz31 hpzz31 hqz31 hqzz31; omega) | (clear hpz31 hpzz31 hqz31; omega) | omega)) (v := v11) e12 (s_x0k (pc := 1170) rw_0_1170 hL (A := v11.toInt) rfl (by (first | (clear hpz31 hpzz31 hqz31 hqzz31; omega) | (clear hpz31 hpzz31 hqz31; omega) | omega)) (by (first | (clear hpz31 hpzz31 hqz31 hqzz31; omega) | (clear hpz31 hpzz31 hqz31; omega) | omega)) (v := v13) e14 (to_an (pc := 1171) rw_0_1171 rfl (to_i (pc := 1172) rw_0_1172 rfl (to_c (pc := 1174) rw_0_1174 (x := (2 : Int32)) rfl rfl (s_addk (pc := 1175) rw_0_1175 (A := i.toInt) (B := 2) rfl rfl (by (first | (clear hpz31 hpzz31 hqz31 hqzz31; omega) | (clear hpz31 hpzz31 hqz31; omega) | omega)) (v := v15) e16 (s_x0k (pc := 1176) rw_0_1176 hL (A := v15.toInt) rfl (by (first | (clear hpz31 hpzz31 hqz31 hqzz31; omega) | (clear hpz31 hpzz31 hqz31; omega) | omega)) (by (first | (clear hpz31 hpzz31 hqz31 hqzz31; omega) | (clear hpz31 hpzz31 hqz31; omega) | omega)) (v := v17) e18 ?_)))))))))))
  refine to_an (pc := 1177) rw_0_1177 rfl (to_i (pc := 1178) rw_0_1178 rfl (to_c (pc := 1180) rw_0_1180 (x := (3 : Int32)) rfl rfl (s_addk (pc := 1181) rw_0_1181 (A := i.toInt) (B := 3) rfl rfl (by (first | (clear hpz31 hpzz31 hqz31 hqzz31; omega) | (clear hpz31 hpzz31 hqz31; omega) | omega)) (v := v19) e20 (s_x0k (pc := 1182) rw_0_1182 hL (A := v19.toInt) rfl (by (first | (clear hpz31 hpzz31 hqz31 hqzz31; omega) | (clear hpz31 hpzz31 hqz31; omega) | omega)) (by (first | (clear hpz31 hpzz31 hqz31 hqzz31; omega) | (clear hpz31 hpzz31 hqz31; omega) | omega)) (v := v21) e22 (to_an (pc := 1183) rw_0_1183 rfl (to_i (pc := 1184) rw_0_1184 rfl (to_c (pc := 1186) rw_0_1186 (x := (4 : Int32)) rfl rfl (s_addk (pc := 1187) rw_0_1187 (A := i.toInt) (B := 4) rfl rfl (by (first | (clear hpz31 hpzz31 hqz31 hqzz31; omega) | (clear hpz31 hpzz31 hqz31; omega) | omega)) (v := v23) e24 (s_x0k (pc := 1188) rw_0_1188 hL (A := v23.toInt) rfl (by (first | (clear hpz31 hpzz31 hqz31 hqzz31; omega) | (clear hpz31 hpzz31 hqz31; omega) | omega)) (by (first | (clear hpz31 hpzz31 hqz31 hqzz31; omega) | (clear hpz31 hpzz31 hqz31; omega) | omega)) (v := v25) e26 (to_an (pc := 1189) rw_0_1189 rfl (to_i (pc := 1190) rw_0_1190 rfl ?_)))))))))))
  refine to_c (pc := 1192) rw_0_1192 (x := (5 : Int32)) rfl rfl (s_addk (pc := 1193) rw_0_1193 (A := i.toInt) (B := 5) rfl rfl (by (first | (clear hpz31 hpzz31 hqz31 hqzz31; omega) | (clear hpz31 hpzz31 hqz31; omega) | omega)) (v := v27) e28 (s_x0k (pc := 1194) rw_0_1194 hL (A := v27.toInt) rfl (by (first | (clear hpz31 hpzz31 hqz31 hqzz31; omega) | (clear hpz31 hpzz31 hqz31; omega) | omega)) (by (first | (clear hpz31 hpzz31 hqz31 hqzz31; omega) | (clear hpz31 hpzz31 hqz31; omega) | omega)) (v := v29) e30 (s_v (pc := 1195) rw_0_1195 (dp0 hd (by decide)) (ls0 := [.ref 77, .int v13, .int v17, .int v21, .int v25, .int v29]) rfl (Nat.le_of_ble_eq_true rfl) (Nat.le_of_ble_eq_true rfl) rfl (to_rc rfl rfl rfl (g_o hG34 rfl)) rfl ?_)))
  have j_51 := (NJ_f (tg_572 F33) jNJ)
  have j_52 := (FA_f (tg_577 F33) jFA)
  refine C_238 hX (dp1 hd (by decide)) hG34 j_51 j_52 (n := v13) (c := v17) (f := v21) (t := v25) (w := v29) (fun r53 M56 hG55 F54 => ?_)
  have n_57 : M56.1.2.1 = M38.1.2.1 ∧ M56.1.2.2.1 = M38.1.2.2.1 := by rw [F54.1]; exact ⟨rfl, rfl⟩
  refine to_popi (pc := 1198) rw_0_1198 (to_go (pc := 1199) rw_0_1199 ?_)
  have c_59 : M56.2.1 77 7 = (M.2.1 77 7) := (F_n F54 (show ¬ (77 = 77 ∧ 7 = 2 ∨ 94 ≤ 77 ∧ 77 ≤ 98 ∨ 77 = 119) by decide) (F_n F33 (show ¬ (11 ≤ 77 ∧ 77 ≤ 16 ∨ 18 ≤ 77 ∧ 77 ≤ 27 ∨ 36 ≤ 77 ∧ 77 ≤ 48) by decide) rfl))
  have t_60 : (M56.2.1 77 7).toInt = (M.2.1 77 7).toInt := congrArg Int32.toInt c_59
  have c_61 : M56.2.1 77 6 = (M.2.1 77 6) := (F_n F54 (show ¬ (77 = 77 ∧ 6 = 2 ∨ 94 ≤ 77 ∧ 77 ≤ 98 ∨ 77 = 119) by decide) (F_n F33 (show ¬ (11 ≤ 77 ∧ 77 ≤ 16 ∨ 18 ≤ 77 ∧ 77 ≤ 27 ∨ 36 ≤ 77 ∧ 77 ≤ 48) by decide) rfl))
  have t_62 : (M56.2.1 77 6).toInt = (M.2.1 77 6).toInt := congrArg Int32.toInt c_61
  have c_63 : M56.2.1 1 1 = (M.2.1 1 1) := (F_n F54 (show ¬ (1 = 77 ∧ 1 = 2 ∨ 94 ≤ 1 ∧ 1 ≤ 98 ∨ 1 = 119) by decide) (F_n F33 (show ¬ (11 ≤ 1 ∧ 1 ≤ 16 ∨ 18 ≤ 1 ∧ 1 ≤ 27 ∨ 36 ≤ 1 ∧ 1 ≤ 48) by decide) rfl))
  have t_64 : (M56.2.1 1 1).toInt = (M.2.1 1 1).toInt := congrArg Int32.toInt c_63
  have c_65 : M56.2.1 77 1 = (M.2.1 77 1) := (F_n F54 (show ¬ (77 = 77 ∧ 1 = 2 ∨ 94 ≤ 77 ∧ 77 ≤ 98 ∨ 77 = 119) by decide) (F_n F33 (show ¬ (11 ≤ 77 ∧ 77 ≤ 16 ∨ 18 ≤ 77 ∧ 77 ≤ 27 ∨ 36 ≤ 77 ∧ 77 ≤ 48) by decide) rfl))
  have t_66 : (M56.2.1 77 1).toInt = (M.2.1 77 1).toInt := congrArg Int32.toInt c_65
  have c_67 : M56.2.1 0 12 = (M.2.1 0 12) := (F_n F54 (show ¬ (0 = 77 ∧ 12 = 2 ∨ 94 ≤ 0 ∧ 0 ≤ 98 ∨ 0 = 119) by decide) (F_n F33 (show ¬ (11 ≤ 0 ∧ 0 ≤ 16 ∨ 18 ≤ 0 ∧ 0 ≤ 27 ∨ 36 ≤ 0 ∧ 0 ≤ 48) by decide) rfl))
  have t_68 : (M56.2.1 0 12).toInt = (M.2.1 0 12).toInt := congrArg Int32.toInt c_67
  have c_69 : M56.2.1 77 28 = (M.2.1 77 28) := (F_n F54 (show ¬ (77 = 77 ∧ 28 = 2 ∨ 94 ≤ 77 ∧ 77 ≤ 98 ∨ 77 = 119) by decide) (F_n F33 (show ¬ (11 ≤ 77 ∧ 77 ≤ 16 ∨ 18 ≤ 77 ∧ 77 ≤ 27 ∨ 36 ≤ 77 ∧ 77 ≤ 48) by decide) rfl))
  have t_70 : (M56.2.1 77 28).toInt = (M.2.1 77 28).toInt := congrArg Int32.toInt c_69
  have c_71 : M56.2.1 17 4 = (M.2.1 17 4) := (F_n F54 (show ¬ (17 = 77 ∧ 4 = 2 ∨ 94 ≤ 17 ∧ 17 ≤ 98 ∨ 17 = 119) by decide) (F_n F33 (show ¬ (11 ≤ 17 ∧ 17 ≤ 16 ∨ 18 ≤ 17 ∧ 17 ≤ 27 ∨ 36 ≤ 17 ∧ 17 ≤ 48) by decide) rfl))
  have t_72 : (M56.2.1 17 4).toInt = (M.2.1 17 4).toInt := congrArg Int32.toInt c_71
  have c_73 : M56.2.1 77 41 = (M.2.1 77 41) := (F_n F54 (show ¬ (77 = 77 ∧ 41 = 2 ∨ 94 ≤ 77 ∧ 77 ≤ 98 ∨ 77 = 119) by decide) (F_n F33 (show ¬ (11 ≤ 77 ∧ 77 ≤ 16 ∨ 18 ≤ 77 ∧ 77 ≤ 27 ∨ 36 ≤ 77 ∧ 77 ≤ 48) by decide) rfl))
  have t_74 : (M56.2.1 77 41).toInt = (M.2.1 77 41).toInt := congrArg Int32.toInt c_73
  have c_75 : M56.2.1 6 0 = (M.2.1 6 0) := (F_n F54 (show ¬ (6 = 77 ∧ 0 = 2 ∨ 94 ≤ 6 ∧ 6 ≤ 98 ∨ 6 = 119) by decide) (F_n F33 (show ¬ (11 ≤ 6 ∧ 6 ≤ 16 ∨ 18 ≤ 6 ∧ 6 ≤ 27 ∨ 36 ≤ 6 ∧ 6 ≤ 48) by decide) rfl))
  have t_76 : (M56.2.1 6 0).toInt = (M.2.1 6 0).toInt := congrArg Int32.toInt c_75
  have c_77 : M56.2.1 77 29 = (M.2.1 77 29) := (F_n F54 (show ¬ (77 = 77 ∧ 29 = 2 ∨ 94 ≤ 77 ∧ 77 ≤ 98 ∨ 77 = 119) by decide) (F_n F33 (show ¬ (11 ≤ 77 ∧ 77 ≤ 16 ∨ 18 ≤ 77 ∧ 77 ≤ 27 ∨ 36 ≤ 77 ∧ 77 ≤ 48) by decide) rfl))
  have t_78 : (M56.2.1 77 29).toInt = (M.2.1 77 29).toInt := congrArg Int32.toInt c_77
  have c_79 : M56.2.1 28 8 = (M.2.1 28 8) := (F_n F54 (show ¬ (28 = 77 ∧ 8 = 2 ∨ 94 ≤ 28 ∧ 28 ≤ 98 ∨ 28 = 119) by decide) (F_n F33 (show ¬ (11 ≤ 28 ∧ 28 ≤ 16 ∨ 18 ≤ 28 ∧ 28 ≤ 27 ∨ 36 ≤ 28 ∧ 28 ≤ 48) by decide) rfl))
  have t_80 : (M56.2.1 28 8).toInt = (M.2.1 28 8).toInt := congrArg Int32.toInt c_79
  have c_81 : M56.2.1 77 43 = (M.2.1 77 43) := (F_n F54 (show ¬ (77 = 77 ∧ 43 = 2 ∨ 94 ≤ 77 ∧ 77 ≤ 98 ∨ 77 = 119) by decide) (F_n F33 (show ¬ (11 ≤ 77 ∧ 77 ≤ 16 ∨ 18 ≤ 77 ∧ 77 ≤ 27 ∨ 36 ≤ 77 ∧ 77 ≤ 48) by decide) rfl))
  have t_82 : (M56.2.1 77 43).toInt = (M.2.1 77 43).toInt := congrArg Int32.toInt c_81
  have c_83 : M56.2.1 28 9 = (M.2.1 28 9) := (F_n F54 (show ¬ (28 = 77 ∧ 9 = 2 ∨ 94 ≤ 28 ∧ 28 ≤ 98 ∨ 28 = 119) by decide) (F_n F33 (show ¬ (11 ≤ 28 ∧ 28 ≤ 16 ∨ 18 ≤ 28 ∧ 28 ≤ 27 ∨ 36 ≤ 28 ∧ 28 ≤ 48) by decide) rfl))
  have t_84 : (M56.2.1 28 9).toInt = (M.2.1 28 9).toInt := congrArg Int32.toInt c_83
  have c_85 : M56.2.1 77 42 = (M.2.1 77 42) := (F_n F54 (show ¬ (77 = 77 ∧ 42 = 2 ∨ 94 ≤ 77 ∧ 77 ≤ 98 ∨ 77 = 119) by decide) (F_n F33 (show ¬ (11 ≤ 77 ∧ 77 ≤ 16 ∨ 18 ≤ 77 ∧ 77 ≤ 27 ∨ 36 ≤ 77 ∧ 77 ≤ 48) by decide) rfl))
  have t_86 : (M56.2.1 77 42).toInt = (M.2.1 77 42).toInt := congrArg Int32.toInt c_85
  have j_87 := (PI_f (tg_707 F54) p_35)
  have j_88 := (NI_f (tg_708 F54) p_36)
  have j_89 := (QI_f (tg_709 F54) p_37)
  have j_90 := (PQE_r F54.2.1 (PQE_r F33.2.1 jPQE))
  have j_91 := (FA_f (tg_710 F54) j_52)
  have j_92 := (WC_f (tg_711 F54) (WC_f (tg_579 F33) jWC))
  have j_93 := (NJ_f (tg_712 F54) j_51)
  have j_94 := (PS_f (tg_713 F54) (PS_f (tg_582 F33) jPS))
  have j_95 := (KQ_f (tg_714 F54) (KQ_f (tg_584 F33) jKQ))
  have j_96 := (TP_f (tg_715 F54) (TP_f (tg_586 F33) jTP))
  have j_97 := (W9_f (tg_716 F54) (W9_f (tg_588 F33) jW9))
  have j_98 := (AN_F F54 tg_748 (AN_F F33 tg_636 jAN))
  have j_99 := (KNA_F F54 (fun a i z => show ¬ (a = 77 ∧ i = 2 ∨ 94 ≤ a ∧ a ≤ 98 ∨ a = 119) by (first | (clear hpz31 hpzz31 hqz31 hqzz31; omega) | (clear hpz31 hpzz31 hqz31; omega) | omega)) (KNA_F F33 (fun a i z => show ¬ (11 ≤ a ∧ a ≤ 16 ∨ 18 ≤ a ∧ a ≤ 27 ∨ 36 ≤ a ∧ a ≤ 48) by (first | (clear hpz31 hpzz31 hqz31 hqzz31; omega) | (clear hpz31 hpzz31 hqz31; omega) | omega)) jKNA))
  have j_100 := (NE_r F54.2.1 (NE_r F33.2.1 jNE))
  have j_101 := (W8_f (tg_717 F54) (W8_f (tg_590 F33) jW8))
  exact h M56 (u5) (u6) ⟨⟨⟨⟨⟨⟨⟨⟨⟨hG55, ⟨j_87, j_88, j_89, j_90⟩, ⟨j_91, j_92, j_93, j_94, j_95⟩, by (first | (clear hpz31 hpzz31 hqz31 hqzz31; omega) | (clear hpz31 hpzz31 hqz31; omega) | omega), by (first | (clear hpz31 hpzz31 hqz31 hqzz31; omega) | (clear hpz31 hpzz31 hqz31; omega) | omega)⟩, j_96, j_97⟩, j_100, by (first | (clear hpz31 hpzz31 hqz31 hqzz31; omega) | (clear hpz31 hpzz31 hqz31; omega) | omega)⟩, AN_a j_98⟩, by (first | (clear hpz31 hpzz31 hqz31 hqzz31; omega) | (clear hpz31 hpzz31 hqz31; omega) | omega)⟩, j_101⟩, by (first | (clear hpz31 hpzz31 hqz31 hqzz31; omega) | (clear hpz31 hpzz31 hqz31; omega) | omega)⟩, j_98⟩, j_99, by (first | (clear hpz31 hpzz31 hqz31 hqzz31; omega) | (clear hpz31 hpzz31 hqz31; omega) | omega), by (first | (clear hpz31 hpzz31 hqz31 hqzz31; omega) | (clear hpz31 hpzz31 hqz31; omega) | omega)⟩ (by (first | (clear hpz31 hpzz31 hqz31 hqzz31; omega) | (clear hpz31 hpzz31 hqz31; omega) | omega)) (by (first | (clear hpz31 hpzz31 hqz31 hqzz31; omega) | (clear hpz31 hpzz31 hqz31; omega) | omega))
