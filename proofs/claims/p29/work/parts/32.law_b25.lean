set_option maxRecDepth 4000 in
set_option maxHeartbeats 0 in
theorem LW_25 {X : mm_X} {d L : Nat} {M : mm_M} {Q : Option Value → mm_M → Prop} {i : Int32} {u5 u6 : Value} (hX : g_X X) (hW : g_W X) (hW2 : g_W2 X) (hL : (X 0).1 = L) (h3 : L ≤ 3072) (hd : 40 ≤ d) (hi : 0 ≤ i.toInt) (hi2 : i.toInt + 6 ≤ (L : Int)) (H : LI10 M) (h : ∀ (M1 : mm_M) (v5 v6 : Value), LI10 M1 → M1.1.2.1 ≤ M.1.2.1 + 1 → M1.1.2.2.1 ≤ M.1.2.2.1 + 6 → mm_T X d 0 1313 [.ref mm_ext, .ref 0, .ref 77, .ref 125, .int i, v5, v6] [] M1 Q) : mm_T X d 0 1092 [.ref mm_ext, .ref 0, .ref 77, .ref 125, .int i, u5, u6] [] M Q := by
  obtain ⟨⟨⟨⟨⟨⟨⟨⟨⟨hG, ⟨jPI, jNI, jQI, jPQE⟩, ⟨jFA, jWC, jNJ, jPS, jKQ⟩, jJ, jE⟩, jTP, jW9⟩, jNE, jCC⟩, -⟩, jOV⟩, jW8⟩, jNN⟩, jAN⟩, jG8, jPKA⟩ := H
  have b_1 := g_b hG (a := 77) (i := 7) (lo := 0) (hi := 500) rfl rfl
  have b_2 := g_b hG (a := 77) (i := 6) (lo := 0) (hi := 500) rfl rfl
  have b_3 := g_b hG (a := 1) (i := 1) (lo := 0) (hi := 500) rfl rfl
  have b_4 := g_b hG (a := 77) (i := 1) (lo := 0) (hi := 500) rfl rfl
  have b_5 := g_b hG (a := 0) (i := 12) (lo := 0) (hi := 30) rfl rfl
  have b_6 := g_b hG (a := 77) (i := 28) (lo := 0) (hi := 30) rfl rfl
  have b_7 := g_b hG (a := 6) (i := 0) (lo := 0) (hi := 150) rfl rfl
  have b_8 := g_b hG (a := 77) (i := 29) (lo := 0) (hi := 150) rfl rfl
  refine to_an (pc := 1092) rw_0_1092 rfl (to_an (pc := 1093) rw_0_1093 rfl (to_i (pc := 1094) rw_0_1094 rfl (to_c (pc := 1096) rw_0_1096 (x := (1 : Int32)) rfl rfl (s_add (pc := 1097) rw_0_1097 (A := i.toInt) (B := 1) rfl rfl (by omega) (fun v9 e10 => s_x0 (pc := 1098) rw_0_1098 hL (A := v9.toInt) rfl (by omega) (by omega) (fun v11 e12 => to_an (pc := 1099) rw_0_1099 rfl (to_i (pc := 1100) rw_0_1100 rfl (to_c (pc := 1102) rw_0_1102 (x := (2 : Int32)) rfl rfl (s_add (pc := 1103) rw_0_1103 (A := i.toInt) (B := 2) rfl rfl (by omega) (fun v13 e14 => s_x0 (pc := 1104) rw_0_1104 hL (A := v13.toInt) rfl (by omega) (by omega) (fun v15 e16 => s_v (pc := 1105) rw_0_1105 (dp0 hd (by decide)) (ls0 := [.ref 0, .int v11, .int v15]) rfl (Nat.le_of_ble_eq_true rfl) (Nat.le_of_ble_eq_true rfl) rfl (to_rc rfl rfl rfl (g_o hG rfl)) rfl ?_)))))))))))
  obtain ⟨pz17, pzz17, qz17, qzz17, hpz17, hpzz17, hqz17, hqzz17, hpqz17⟩ := id jPQE
  refine C_134 hX (dp1 hd (by decide)) hG hpz17 hpzz17 hqz17 hqzz17 hpqz17 jNI jPI jQI (n := v11) (w := v15) (p := pz17) (pz := pzz17) (q := qz17) (qz := qzz17) (fun r18 M24 hG20 F19 p_21 p_22 p_23 => ?_)
  have n_25 : M24.1.2.1 = M.1.2.1 ∧ M24.1.2.2.1 = M.1.2.2.1 := by rw [F19.1]; exact ⟨rfl, rfl⟩
  refine to_popi (pc := 1108) rw_0_1108 (to_an (pc := 1109) rw_0_1109 rfl (to_an (pc := 1110) rw_0_1110 rfl (to_i (pc := 1111) rw_0_1111 rfl (to_c (pc := 1113) rw_0_1113 (x := (1 : Int32)) rfl rfl (s_addk (pc := 1114) rw_0_1114 (A := i.toInt) (B := 1) rfl rfl (by (first | (clear hpz17 hpzz17 hqz17 hqzz17; omega) | (clear hpz17 hpzz17 hqz17; omega) | omega)) (v := v9) e10 (s_x0k (pc := 1115) rw_0_1115 hL (A := v9.toInt) rfl (by (first | (clear hpz17 hpzz17 hqz17 hqzz17; omega) | (clear hpz17 hpzz17 hqz17; omega) | omega)) (by (first | (clear hpz17 hpzz17 hqz17 hqzz17; omega) | (clear hpz17 hpzz17 hqz17; omega) | omega)) (v := v11) e12 (to_an (pc := 1116) rw_0_1116 rfl (to_i (pc := 1117) rw_0_1117 rfl (to_c (pc := 1119) rw_0_1119 (x := (2 : Int32)) rfl rfl (s_addk (pc := 1120) rw_0_1120 (A := i.toInt) (B := 2) rfl rfl (by (first | (clear hpz17 hpzz17 hqz17 hqzz17; omega) | (clear hpz17 hpzz17 hqz17; omega) | omega)) (v := v13) e14 (s_x0k (pc := 1121) rw_0_1121 hL (A := v13.toInt) rfl (by (first | (clear hpz17 hpzz17 hqz17 hqzz17; omega) | (clear hpz17 hpzz17 hqz17; omega) | omega)) (by (first | (clear hpz17 hpzz17 hqz17 hqzz17; omega) | (clear hpz17 hpzz17 hqz17; omega) | omega)) (v := v15) e16 ?_)))))))))))
  refine s_v (pc := 1122) rw_0_1122 (dp0 hd (by decide)) (ls0 := [.ref 77, .int v11, .int v15, .null, .null, .null, .null, .null, .null, .null, .null, .null, .null, .null]) rfl (Nat.le_of_ble_eq_true rfl) (Nat.le_of_ble_eq_true rfl) rfl (to_rc rfl rfl rfl (g_o hG20 rfl)) rfl ?_
  have j_31 := (NJ_f (tg_658 F19) jNJ)
  have j_32 := (FA_f (tg_650 F19) jFA)
  have j_33 := (WC_f (tg_657 F19) jWC)
  refine C_237 hX (dp1 hd (by decide)) hG20 j_31 j_32 j_33 (n := v11) (w := v15) (fun r34 M37 hG36 F35 => ?_)
  have n_38 : M37.1.2.1 = M24.1.2.1 ∧ M37.1.2.2.1 = M24.1.2.2.1 := by rw [F35.1]; exact ⟨rfl, rfl⟩
  refine to_popi (pc := 1125) rw_0_1125 (to_go (pc := 1126) rw_0_1126 ?_)
  have c_40 : M37.2.1 77 7 = (M.2.1 77 7) := (F_n F35 (show ¬ (77 = 77 ∧ 7 = 2 ∨ 94 ≤ 77 ∧ 77 ≤ 98 ∨ 77 = 118) by decide) (F_n F19 (show ¬ (11 ≤ 77 ∧ 77 ≤ 16 ∨ 77 = 27 ∨ 36 ≤ 77 ∧ 77 ≤ 48) by decide) rfl))
  have t_41 : (M37.2.1 77 7).toInt = (M.2.1 77 7).toInt := congrArg Int32.toInt c_40
  have c_42 : M37.2.1 77 6 = (M.2.1 77 6) := (F_n F35 (show ¬ (77 = 77 ∧ 6 = 2 ∨ 94 ≤ 77 ∧ 77 ≤ 98 ∨ 77 = 118) by decide) (F_n F19 (show ¬ (11 ≤ 77 ∧ 77 ≤ 16 ∨ 77 = 27 ∨ 36 ≤ 77 ∧ 77 ≤ 48) by decide) rfl))
  have t_43 : (M37.2.1 77 6).toInt = (M.2.1 77 6).toInt := congrArg Int32.toInt c_42
  have c_44 : M37.2.1 1 1 = (M.2.1 1 1) := (F_n F35 (show ¬ (1 = 77 ∧ 1 = 2 ∨ 94 ≤ 1 ∧ 1 ≤ 98 ∨ 1 = 118) by decide) (F_n F19 (show ¬ (11 ≤ 1 ∧ 1 ≤ 16 ∨ 1 = 27 ∨ 36 ≤ 1 ∧ 1 ≤ 48) by decide) rfl))
  have t_45 : (M37.2.1 1 1).toInt = (M.2.1 1 1).toInt := congrArg Int32.toInt c_44
  have c_46 : M37.2.1 77 1 = (M.2.1 77 1) := (F_n F35 (show ¬ (77 = 77 ∧ 1 = 2 ∨ 94 ≤ 77 ∧ 77 ≤ 98 ∨ 77 = 118) by decide) (F_n F19 (show ¬ (11 ≤ 77 ∧ 77 ≤ 16 ∨ 77 = 27 ∨ 36 ≤ 77 ∧ 77 ≤ 48) by decide) rfl))
  have t_47 : (M37.2.1 77 1).toInt = (M.2.1 77 1).toInt := congrArg Int32.toInt c_46
  have c_48 : M37.2.1 0 12 = (M.2.1 0 12) := (F_n F35 (show ¬ (0 = 77 ∧ 12 = 2 ∨ 94 ≤ 0 ∧ 0 ≤ 98 ∨ 0 = 118) by decide) (F_n F19 (show ¬ (11 ≤ 0 ∧ 0 ≤ 16 ∨ 0 = 27 ∨ 36 ≤ 0 ∧ 0 ≤ 48) by decide) rfl))
  have t_49 : (M37.2.1 0 12).toInt = (M.2.1 0 12).toInt := congrArg Int32.toInt c_48
  have c_50 : M37.2.1 77 28 = (M.2.1 77 28) := (F_n F35 (show ¬ (77 = 77 ∧ 28 = 2 ∨ 94 ≤ 77 ∧ 77 ≤ 98 ∨ 77 = 118) by decide) (F_n F19 (show ¬ (11 ≤ 77 ∧ 77 ≤ 16 ∨ 77 = 27 ∨ 36 ≤ 77 ∧ 77 ≤ 48) by decide) rfl))
  have t_51 : (M37.2.1 77 28).toInt = (M.2.1 77 28).toInt := congrArg Int32.toInt c_50
  have c_52 : M37.2.1 17 4 = (M.2.1 17 4) := (F_n F35 (show ¬ (17 = 77 ∧ 4 = 2 ∨ 94 ≤ 17 ∧ 17 ≤ 98 ∨ 17 = 118) by decide) (F_n F19 (show ¬ (11 ≤ 17 ∧ 17 ≤ 16 ∨ 17 = 27 ∨ 36 ≤ 17 ∧ 17 ≤ 48) by decide) rfl))
  have t_53 : (M37.2.1 17 4).toInt = (M.2.1 17 4).toInt := congrArg Int32.toInt c_52
  have c_54 : M37.2.1 77 41 = (M.2.1 77 41) := (F_n F35 (show ¬ (77 = 77 ∧ 41 = 2 ∨ 94 ≤ 77 ∧ 77 ≤ 98 ∨ 77 = 118) by decide) (F_n F19 (show ¬ (11 ≤ 77 ∧ 77 ≤ 16 ∨ 77 = 27 ∨ 36 ≤ 77 ∧ 77 ≤ 48) by decide) rfl))
  have t_55 : (M37.2.1 77 41).toInt = (M.2.1 77 41).toInt := congrArg Int32.toInt c_54
  have c_56 : M37.2.1 6 0 = (M.2.1 6 0) := (F_n F35 (show ¬ (6 = 77 ∧ 0 = 2 ∨ 94 ≤ 6 ∧ 6 ≤ 98 ∨ 6 = 118) by decide) (F_n F19 (show ¬ (11 ≤ 6 ∧ 6 ≤ 16 ∨ 6 = 27 ∨ 36 ≤ 6 ∧ 6 ≤ 48) by decide) rfl))
  have t_57 : (M37.2.1 6 0).toInt = (M.2.1 6 0).toInt := congrArg Int32.toInt c_56
  have c_58 : M37.2.1 77 29 = (M.2.1 77 29) := (F_n F35 (show ¬ (77 = 77 ∧ 29 = 2 ∨ 94 ≤ 77 ∧ 77 ≤ 98 ∨ 77 = 118) by decide) (F_n F19 (show ¬ (11 ≤ 77 ∧ 77 ≤ 16 ∨ 77 = 27 ∨ 36 ≤ 77 ∧ 77 ≤ 48) by decide) rfl))
  have t_59 : (M37.2.1 77 29).toInt = (M.2.1 77 29).toInt := congrArg Int32.toInt c_58
  have j_60 := (PI_f (tg_702 F35) p_21)
  have j_61 := (NI_f (tg_703 F35) p_22)
  have j_62 := (QI_f (tg_704 F35) p_23)
  have j_63 := (PQE_r F35.2.1 (PQE_r F19.2.1 jPQE))
  have j_64 := (FA_f (tg_705 F35) j_32)
  have j_65 := (WC_f (tg_706 F35) j_33)
  have j_66 := (NJ_f (tg_707 F35) j_31)
  have j_67 := (PS_f (tg_708 F35) (PS_f (tg_659 F19) jPS))
  have j_68 := (KQ_f (tg_709 F35) (KQ_f (tg_660 F19) jKQ))
  have j_69 := (TP_f (tg_710 F35) (TP_f (tg_661 F19) jTP))
  have j_70 := (W9_f (tg_711 F35) (W9_f (tg_662 F19) jW9))
  have j_71 := (AN_F F35 tg_753 (AN_F F19 tg_748 jAN))
  have j_72 := (G8_F F35 (fun a i z => show ¬ (a = 77 ∧ i = 2 ∨ 94 ≤ a ∧ a ≤ 98 ∨ a = 118) by (first | (clear hpz17 hpzz17 hqz17 hqzz17; omega) | (clear hpz17 hpzz17 hqz17; omega) | omega)) (G8_F F19 (fun a i z => show ¬ (11 ≤ a ∧ a ≤ 16 ∨ a = 27 ∨ 36 ≤ a ∧ a ≤ 48) by (first | (clear hpz17 hpzz17 hqz17 hqzz17; omega) | (clear hpz17 hpzz17 hqz17; omega) | omega)) jG8))
  have j_73 := (PKA_F F35 (fun a i z => show ¬ (a = 77 ∧ i = 2 ∨ 94 ≤ a ∧ a ≤ 98 ∨ a = 118) by (first | (clear hpz17 hpzz17 hqz17 hqzz17; omega) | (clear hpz17 hpzz17 hqz17; omega) | omega)) (PKA_F F19 (fun a i z => show ¬ (11 ≤ a ∧ a ≤ 16 ∨ a = 27 ∨ 36 ≤ a ∧ a ≤ 48) by (first | (clear hpz17 hpzz17 hqz17 hqzz17; omega) | (clear hpz17 hpzz17 hqz17; omega) | omega)) jPKA))
  have j_74 := (NE_r F35.2.1 (NE_r F19.2.1 jNE))
  have j_75 := (W8_f (tg_712 F35) (W8_f (tg_652 F19) jW8))
  exact h M37 (u5) (u6) ⟨⟨⟨⟨⟨⟨⟨⟨⟨hG36, ⟨j_60, j_61, j_62, j_63⟩, ⟨j_64, j_65, j_66, j_67, j_68⟩, by (first | (clear hpz17 hpzz17 hqz17 hqzz17; omega) | (clear hpz17 hpzz17 hqz17; omega) | omega), by (first | (clear hpz17 hpzz17 hqz17 hqzz17; omega) | (clear hpz17 hpzz17 hqz17; omega) | omega)⟩, j_69, j_70⟩, j_74, by (first | (clear hpz17 hpzz17 hqz17 hqzz17; omega) | (clear hpz17 hpzz17 hqz17; omega) | omega)⟩, AN_a j_71⟩, by (first | (clear hpz17 hpzz17 hqz17 hqzz17; omega) | (clear hpz17 hpzz17 hqz17; omega) | omega)⟩, j_75⟩, by (first | (clear hpz17 hpzz17 hqz17 hqzz17; omega) | (clear hpz17 hpzz17 hqz17; omega) | omega)⟩, j_71⟩, j_72, j_73⟩ (by (first | (clear hpz17 hpzz17 hqz17 hqzz17; omega) | (clear hpz17 hpzz17 hqz17; omega) | omega)) (by (first | (clear hpz17 hpzz17 hqz17 hqzz17; omega) | (clear hpz17 hpzz17 hqz17; omega) | omega))
