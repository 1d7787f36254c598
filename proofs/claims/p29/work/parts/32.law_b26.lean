set_option maxRecDepth 4000 in
set_option maxHeartbeats 0 in
theorem LW_26 {X : mm_X} {d L : Nat} {M : mm_M} {Q : Option Value → mm_M → Prop} {i : Int32} {u5 u6 : Value} (hX : g_X X) (hW : g_W X) (hW2 : g_W2 X) (hL : (X 0).1 = L) (h3 : L ≤ 3072) (hd : 40 ≤ d) (hi : 0 ≤ i.toInt) (hi2 : i.toInt + 6 ≤ (L : Int)) (H : LI10 M) (h : ∀ (M1 : mm_M) (v5 v6 : Value), LI10 M1 → M1.1.2.1 ≤ M.1.2.1 + 1 → M1.1.2.2.1 ≤ M.1.2.2.1 + 6 → mm_T X d 0 1313 [.ref mm_ext, .ref 0, .ref 77, .ref 125, .int i, v5, v6] [] M1 Q) : mm_T X d 0 1129 [.ref mm_ext, .ref 0, .ref 77, .ref 125, .int i, u5, u6] [] M Q := by
  obtain ⟨⟨⟨⟨⟨⟨⟨⟨⟨hG, ⟨jPI, jNI, jQI, jPQE⟩, ⟨jFA, jWC, jNJ, jPS, jKQ⟩, jJ, jE⟩, jTP, jW9⟩, jNE, jCC⟩, -⟩, jOV⟩, jW8⟩, jNN⟩, jAN⟩, jG8, jPKA⟩ := H
  have b_1 := g_b hG (a := 77) (i := 7) (lo := 0) (hi := 500) rfl rfl
  have b_2 := g_b hG (a := 77) (i := 6) (lo := 0) (hi := 500) rfl rfl
  have b_3 := g_b hG (a := 1) (i := 1) (lo := 0) (hi := 500) rfl rfl
  have b_4 := g_b hG (a := 77) (i := 1) (lo := 0) (hi := 500) rfl rfl
  have b_5 := g_b hG (a := 0) (i := 12) (lo := 0) (hi := 30) rfl rfl
  have b_6 := g_b hG (a := 77) (i := 28) (lo := 0) (hi := 30) rfl rfl
  have b_7 := g_b hG (a := 6) (i := 0) (lo := 0) (hi := 150) rfl rfl
  have b_8 := g_b hG (a := 77) (i := 29) (lo := 0) (hi := 150) rfl rfl
  refine to_an (pc := 1129) rw_0_1129 rfl (to_an (pc := 1130) rw_0_1130 rfl (to_i (pc := 1131) rw_0_1131 rfl (to_c (pc := 1133) rw_0_1133 (x := (1 : Int32)) rfl rfl (s_add (pc := 1134) rw_0_1134 (A := i.toInt) (B := 1) rfl rfl (by omega) (fun v9 e10 => s_x0 (pc := 1135) rw_0_1135 hL (A := v9.toInt) rfl (by omega) (by omega) (fun v11 e12 => to_an (pc := 1136) rw_0_1136 rfl (to_i (pc := 1137) rw_0_1137 rfl (to_c (pc := 1139) rw_0_1139 (x := (2 : Int32)) rfl rfl (s_add (pc := 1140) rw_0_1140 (A := i.toInt) (B := 2) rfl rfl (by omega) (fun v13 e14 => s_x0 (pc := 1141) rw_0_1141 hL (A := v13.toInt) rfl (by omega) (by omega) (fun v15 e16 => to_an (pc := 1142) rw_0_1142 rfl ?_)))))))))))
  refine to_i (pc := 1143) rw_0_1143 rfl (to_c (pc := 1145) rw_0_1145 (x := (3 : Int32)) rfl rfl (s_add (pc := 1146) rw_0_1146 (A := i.toInt) (B := 3) rfl rfl (by omega) (fun v17 e18 => s_x0 (pc := 1147) rw_0_1147 hL (A := v17.toInt) rfl (by omega) (by omega) (fun v19 e20 => to_an (pc := 1148) rw_0_1148 rfl (to_i (pc := 1149) rw_0_1149 rfl (to_c (pc := 1151) rw_0_1151 (x := (4 : Int32)) rfl rfl (s_add (pc := 1152) rw_0_1152 (A := i.toInt) (B := 4) rfl rfl (by omega) (fun v21 e22 => s_x0 (pc := 1153) rw_0_1153 hL (A := v21.toInt) rfl (by omega) (by omega) (fun v23 e24 => to_an (pc := 1154) rw_0_1154 rfl (to_i (pc := 1155) rw_0_1155 rfl (to_c (pc := 1157) rw_0_1157 (x := (5 : Int32)) rfl rfl ?_)))))))))))
  refine s_add (pc := 1158) rw_0_1158 (A := i.toInt) (B := 5) rfl rfl (by omega) (fun v25 e26 => s_x0 (pc := 1159) rw_0_1159 hL (A := v25.toInt) rfl (by omega) (by omega) (fun v27 e28 => s_v (pc := 1160) rw_0_1160 (dp0 hd (by decide)) (ls0 := [.ref 0, .int v11, .int v15, .int v19, .int v23, .int v27]) rfl (Nat.le_of_ble_eq_true rfl) (Nat.le_of_ble_eq_true rfl) rfl (to_rc rfl rfl rfl (g_o hG rfl)) rfl ?_))
  obtain ⟨pz29, pzz29, qz29, qzz29, hpz29, hpzz29, hqz29, hqzz29, hpqz29⟩ := id jPQE
  refine C_135 hX (dp1 hd (by decide)) hG hpz29 hpzz29 hqz29 hqzz29 hpqz29 jNI jPI jQI (n := v11) (c := v15) (f := v19) (t := v23) (w := v27) (p := pz29) (pz := pzz29) (q := qz29) (qz := qzz29) (fun r30 M36 hG32 F31 p_33 p_34 p_35 => ?_)
  have n_37 : M36.1.2.1 = M.1.2.1 ∧ M36.1.2.2.1 = M.1.2.2.1 := by rw [F31.1]; exact ⟨rfl, rfl⟩
  refine to_popi (pc := 1163) rw_0_1163 (to_an (pc := 1164) rw_0_1164 rfl (to_an (pc := 1165) rw_0_1165 rfl (to_i (pc := 1166) rw_0_1166 rfl (to_c (pc := 1168) rw_0_1168 (x := (1 : Int32)) rfl rfl (s_addk (pc := 1169) rw_0_1169 (A := i.toInt) (B := 1) rfl rfl (by (first | (clear hpz29 hpzz29 hqz29 hqzz29; omega) | (clear hpz29 hpzz29 hqz29; omega) | omega)) (v := v9) e10 (s_x0k (pc := 1170) rw_0_1170 hL (A := v9.toInt) rfl (by (first | (clear hpz29 hpzz29 hqz29 hqzz29; omega) | (clear hpz29 hpzz29 hqz29; omega) | omega)) (by (first | (clear hpz29 hpzz29 hqz29 hqzz29; omega) | (clear hpz29 hpzz29 hqz29; omega) | omega)) (v := v11) e12 (to_an (pc := 1171) rw_0_1171 rfl (to_i (pc := 1172) rw_0_1172 rfl (to_c (pc := 1174) rw_0_1174 (x := (2 : Int32)) rfl rfl (s_addk (pc := 1175) rw_0_1175 (A := i.toInt) (B := 2) rfl rfl (by (first | (clear hpz29 hpzz29 hqz29 hqzz29; omega) | (clear hpz29 hpzz29 hqz29; omega) | omega)) (v := v13) e14 (s_x0k (pc := 1176) rw_0_1176 hL (A := v13.toInt) rfl (by (first | (clear hpz29 hpzz29 hqz29 hqzz29; omega) | (clear hpz29 hpzz29 hqz29; omega) | omega)) (by (first | (clear hpz29 hpzz29 hqz29 hqzz29; omega) | (clear hpz29 hpzz29 hqz29; omega) | omega)) (v := v15) e16 ?_)))))))))))
  refine to_an (pc := 1177) rw_0_1177 rfl (to_i (pc := 1178) rw_0_1178 rfl (to_c (pc := 1180) rw_0_1180 (x := (3 : Int32)) rfl rfl (s_addk (pc := 1181) rw_0_1181 (A := i.toInt) (B := 3) rfl rfl (by (first | (clear hpz29 hpzz29 hqz29 hqzz29; omega) | (clear hpz29 hpzz29 hqz29; omega) | omega)) (v := v17) e18 (s_x0k (pc := 1182) rw_0_1182 hL (A := v17.toInt) rfl (by (first | (clear hpz29 hpzz29 hqz29 hqzz29; omega) | (clear hpz29 hpzz29 hqz29; omega) | omega)) (by (first | (clear hpz29 hpzz29 hqz29 hqzz29; omega) | (clear hpz29 hpzz29 hqz29; omega) | omega)) (v := v19) e20 (to_an (pc := 1183) rw_0_1183 rfl (to_i (pc := 1184) rw_0_1184 rfl (to_c (pc := 1186) rw_0_1186 (x := (4 : Int32)) rfl rfl (s_addk (pc := 1187) rw_0_1187 (A := i.toInt) (B := 4) rfl rfl (by (first | (clear hpz29 hpzz29 hqz29 hqzz29; omega) | (clear hpz29 hpzz29 hqz29; omega) | omega)) (v := v21) e22 (s_x0k (pc := 1188) rw_0_1188 hL (A := v21.toInt) rfl (by (first | (clear hpz29 hpzz29 hqz29 hqzz29; omega) | (clear hpz29 hpzz29 hqz29; omega) | omega)) (by (first | (clear hpz29 hpzz29 hqz29 hqzz29; omega) | (clear hpz29 hpzz29 hqz29; omega) | omega)) (v := v23) e24 (to_an (pc := 1189) rw_0_1189 rfl (to_i (pc := 1190) rw_0_1190 rfl ?_)))))))))))
  refine to_c (pc := 1192) rw_0_1192 (x := (5 : Int32)) rfl rfl (s_addk (pc := 1193) rw_0_1193 (A := i.toInt) (B := 5) rfl rfl (by (first | (clear hpz29 hpzz29 hqz29 hqzz29; omega) | (clear hpz29 hpzz29 hqz29; omega) | omega)) (v := v25) e26 (s_x0k (pc := 1194) rw_0_1194 hL (A := v25.toInt) rfl (by (first | (clear hpz29 hpzz29 hqz29 hqzz29; omega) | (clear hpz29 hpzz29 hqz29; omega) | omega)) (by (first | (clear hpz29 hpzz29 hqz29 hqzz29; omega) | (clear hpz29 hpzz29 hqz29; omega) | omega)) (v := v27) e28 (s_v (pc := 1195) rw_0_1195 (dp0 hd (by decide)) (ls0 := [.ref 77, .int v11, .int v15, .int v19, .int v23, .int v27]) rfl (Nat.le_of_ble_eq_true rfl) (Nat.le_of_ble_eq_true rfl) rfl (to_rc rfl rfl rfl (g_o hG32 rfl)) rfl ?_)))
  have j_49 := (NJ_f (tg_658 F31) jNJ)
  have j_50 := (FA_f (tg_650 F31) jFA)
  refine C_238 hX (dp1 hd (by decide)) hG32 j_49 j_50 (n := v11) (c := v15) (f := v19) (t := v23) (w := v27) (fun r51 M54 hG53 F52 => ?_)
  have n_55 : M54.1.2.1 = M36.1.2.1 ∧ M54.1.2.2.1 = M36.1.2.2.1 := by rw [F52.1]; exact ⟨rfl, rfl⟩
  refine to_popi (pc := 1198) rw_0_1198 (to_go (pc := 1199) rw_0_1199 ?_)
  have c_57 : M54.2.1 77 7 = (M.2.1 77 7) := (F_n F52 (show ¬ (77 = 77 ∧ 7 = 2 ∨ 94 ≤ 77 ∧ 77 ≤ 98 ∨ 77 = 119) by decide) (F_n F31 (show ¬ (11 ≤ 77 ∧ 77 ≤ 16 ∨ 77 = 27 ∨ 36 ≤ 77 ∧ 77 ≤ 48) by decide) rfl))
  have t_58 : (M54.2.1 77 7).toInt = (M.2.1 77 7).toInt := congrArg Int32.toInt c_57
  have c_59 : M54.2.1 77 6 = (M.2.1 77 6) := (F_n F52 (show ¬ (77 = 77 ∧ 6 = 2 ∨ 94 ≤ 77 ∧ 77 ≤ 98 ∨ 77 = 119) by decide) (F_n F31 (show ¬ (11 ≤ 77 ∧ 77 ≤ 16 ∨ 77 = 27 ∨ 36 ≤ 77 ∧ 77 ≤ 48) by decide) rfl))
  have t_60 : (M54.2.1 77 6).toInt = (M.2.1 77 6).toInt := congrArg Int32.toInt c_59
  have c_61 : M54.2.1 1 1 = (M.2.1 1 1) := (F_n F52 (show ¬ (1 = 77 ∧ 1 = 2 ∨ 94 ≤ 1 ∧ 1 ≤ 98 ∨ 1 = 119) by decide) (F_n F31 (show ¬ (11 ≤ 1 ∧ 1 ≤ 16 ∨ 1 = 27 ∨ 36 ≤ 1 ∧ 1 ≤ 48) by decide) rfl))
  have t_62 : (M54.2.1 1 1).toInt = (M.2.1 1 1).toInt := congrArg Int32.toInt c_61
  have c_63 : M54.2.1 77 1 = (M.2.1 77 1) := (F_n F52 (show ¬ (77 = 77 ∧ 1 = 2 ∨ 94 ≤ 77 ∧ 77 ≤ 98 ∨ 77 = 119) by decide) (F_n F31 (show ¬ (11 ≤ 77 ∧ 77 ≤ 16 ∨ 77 = 27 ∨ 36 ≤ 77 ∧ 77 ≤ 48) by decide) rfl))
  have t_64 : (M54.2.1 77 1).toInt = (M.2.1 77 1).toInt := congrArg Int32.toInt c_63
  have c_65 : M54.2.1 0 12 = (M.2.1 0 12) := (F_n F52 (show ¬ (0 = 77 ∧ 12 = 2 ∨ 94 ≤ 0 ∧ 0 ≤ 98 ∨ 0 = 119) by decide) (F_n F31 (show ¬ (11 ≤ 0 ∧ 0 ≤ 16 ∨ 0 = 27 ∨ 36 ≤ 0 ∧ 0 ≤ 48) by decide) rfl))
  have t_66 : (M54.2.1 0 12).toInt = (M.2.1 0 12).toInt := congrArg Int32.toInt c_65
  have c_67 : M54.2.1 77 28 = (M.2.1 77 28) := (F_n F52 (show ¬ (77 = 77 ∧ 28 = 2 ∨ 94 ≤ 77 ∧ 77 ≤ 98 ∨ 77 = 119) by decide) (F_n F31 (show ¬ (11 ≤ 77 ∧ 77 ≤ 16 ∨ 77 = 27 ∨ 36 ≤ 77 ∧ 77 ≤ 48) by decide) rfl))
  have t_68 : (M54.2.1 77 28).toInt = (M.2.1 77 28).toInt := congrArg Int32.toInt c_67
  have c_69 : M54.2.1 17 4 = (M.2.1 17 4) := (F_n F52 (show ¬ (17 = 77 ∧ 4 = 2 ∨ 94 ≤ 17 ∧ 17 ≤ 98 ∨ 17 = 119) by decide) (F_n F31 (show ¬ (11 ≤ 17 ∧ 17 ≤ 16 ∨ 17 = 27 ∨ 36 ≤ 17 ∧ 17 ≤ 48) by decide) rfl))
  have t_70 : (M54.2.1 17 4).toInt = (M.2.1 17 4).toInt := congrArg Int32.toInt c_69
  have c_71 : M54.2.1 77 41 = (M.2.1 77 41) := (F_n F52 (show ¬ (77 = 77 ∧ 41 = 2 ∨ 94 ≤ 77 ∧ 77 ≤ 98 ∨ 77 = 119) by decide) (F_n F31 (show ¬ (11 ≤ 77 ∧ 77 ≤ 16 ∨ 77 = 27 ∨ 36 ≤ 77 ∧ 77 ≤ 48) by decide) rfl))
  have t_72 : (M54.2.1 77 41).toInt = (M.2.1 77 41).toInt := congrArg Int32.toInt c_71
  have c_73 : M54.2.1 6 0 = (M.2.1 6 0) := (F_n F52 (show ¬ (6 = 77 ∧ 0 = 2 ∨ 94 ≤ 6 ∧ 6 ≤ 98 ∨ 6 = 119) by decide) (F_n F31 (show ¬ (11 ≤ 6 ∧ 6 ≤ 16 ∨ 6 = 27 ∨ 36 ≤ 6 ∧ 6 ≤ 48) by decide) rfl))
  have t_74 : (M54.2.1 6 0).toInt = (M.2.1 6 0).toInt := congrArg Int32.toInt c_73
  have c_75 : M54.2.1 77 29 = (M.2.1 77 29) := (F_n F52 (show ¬ (77 = 77 ∧ 29 = 2 ∨ 94 ≤ 77 ∧ 77 ≤ 98 ∨ 77 = 119) by decide) (F_n F31 (show ¬ (11 ≤ 77 ∧ 77 ≤ 16 ∨ 77 = 27 ∨ 36 ≤ 77 ∧ 77 ≤ 48) by decide) rfl))
  have t_76 : (M54.2.1 77 29).toInt = (M.2.1 77 29).toInt := congrArg Int32.toInt c_75
  have j_77 := (PI_f (tg_713 F52) p_33)
  have j_78 := (NI_f (tg_714 F52) p_34)
  have j_79 := (QI_f (tg_715 F52) p_35)
  have j_80 := (PQE_r F52.2.1 (PQE_r F31.2.1 jPQE))
  have j_81 := (FA_f (tg_716 F52) j_50)
  have j_82 := (WC_f (tg_717 F52) (WC_f (tg_657 F31) jWC))
  have j_83 := (NJ_f (tg_718 F52) j_49)
  have j_84 := (PS_f (tg_719 F52) (PS_f (tg_659 F31) jPS))
  have j_85 := (KQ_f (tg_720 F52) (KQ_f (tg_660 F31) jKQ))
  have j_86 := (TP_f (tg_721 F52) (TP_f (tg_661 F31) jTP))
  have j_87 := (W9_f (tg_722 F52) (W9_f (tg_662 F31) jW9))
  have j_88 := (AN_F F52 tg_754 (AN_F F31 tg_748 jAN))
  have j_89 := (G8_F F52 (fun a i z => show ¬ (a = 77 ∧ i = 2 ∨ 94 ≤ a ∧ a ≤ 98 ∨ a = 119) by (first | (clear hpz29 hpzz29 hqz29 hqzz29; omega) | (clear hpz29 hpzz29 hqz29; omega) | omega)) (G8_F F31 (fun a i z => show ¬ (11 ≤ a ∧ a ≤ 16 ∨ a = 27 ∨ 36 ≤ a ∧ a ≤ 48) by (first | (clear hpz29 hpzz29 hqz29 hqzz29; omega) | (clear hpz29 hpzz29 hqz29; omega) | omega)) jG8))
  have j_90 := (PKA_F F52 (fun a i z => show ¬ (a = 77 ∧ i = 2 ∨ 94 ≤ a ∧ a ≤ 98 ∨ a = 119) by (first | (clear hpz29 hpzz29 hqz29 hqzz29; omega) | (clear hpz29 hpzz29 hqz29; omega) | omega)) (PKA_F F31 (fun a i z => show ¬ (11 ≤ a ∧ a ≤ 16 ∨ a = 27 ∨ 36 ≤ a ∧ a ≤ 48) by (first | (clear hpz29 hpzz29 hqz29 hqzz29; omega) | (clear hpz29 hpzz29 hqz29; omega) | omega)) jPKA))
  have j_91 := (NE_r F52.2.1 (NE_r F31.2.1 jNE))
  have j_92 := (W8_f (tg_723 F52) (W8_f (tg_652 F31) jW8))
  exact h M54 (u5) (u6) ⟨⟨⟨⟨⟨⟨⟨⟨⟨hG53, ⟨j_77, j_78, j_79, j_80⟩, ⟨j_81, j_82, j_83, j_84, j_85⟩, by (first | (clear hpz29 hpzz29 hqz29 hqzz29; omega) | (clear hpz29 hpzz29 hqz29; omega) | omega), by (first | (clear hpz29 hpzz29 hqz29 hqzz29; omega) | (clear hpz29 hpzz29 hqz29; omega) | omega)⟩, j_86, j_87⟩, j_91, by (first | (clear hpz29 hpzz29 hqz29 hqzz29; omega) | (clear hpz29 hpzz29 hqz29; omega) | omega)⟩, AN_a j_88⟩, by (first | (clear hpz29 hpzz29 hqz29 hqzz29; omega) | (clear hpz29 hpzz29 hqz29; omega) | omega)⟩, j_92⟩, by (first | (clear hpz29 hpzz29 hqz29 hqzz29; omega) | (clear hpz29 hpzz29 hqz29; omega) | omega)⟩, j_88⟩, j_89, j_90⟩ (by (first | (clear hpz29 hpzz29 hqz29 hqzz29; omega) | (clear hpz29 hpzz29 hqz29; omega) | omega)) (by (first | (clear hpz29 hpzz29 hqz29 hqzz29; omega) | (clear hpz29 hpzz29 hqz29; omega) | omega))
