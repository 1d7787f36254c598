set_option maxRecDepth 4000 in
set_option maxHeartbeats 0 in
theorem LW_25 {X : mm_X} {d L : Nat} {M : mm_M} {Q : Option Value → mm_M → Prop} {i : Int32} {u5 u6 : Value} (hX : g_X X) (hW : g_W X) (hW2 : g_W2 X) (hL : (X 0).1 = L) (h3 : L ≤ 3072) (hd : 40 ≤ d) (hi : 0 ≤ i.toInt) (hi2 : i.toInt + 6 ≤ (L : Int)) (H : LI10 M) (h : ∀ (M1 : mm_M) (v5 v6 : Value), LI10 M1 → M1.1.2.1 ≤ M.1.2.1 + 1 → M1.1.2.2.1 ≤ M.1.2.2.1 + 6 → mm_T X d 0 1313 [.ref mm_ext, .ref 0, .ref 77, .ref 125, .int i, v5, v6] [] M1 Q) : mm_T X d 0 1092 [.ref mm_ext, .ref 0, .ref 77, .ref 125, .int i, u5, u6] [] M Q := by
  obtain ⟨⟨⟨⟨⟨⟨⟨⟨⟨hG, ⟨jPI, jNI, jQI, jPQE⟩, ⟨jFA, jWC, jNJ, jPS, jKQ⟩, jJ, jE⟩, jTP, jW9⟩, jNE, jCC⟩, -⟩, jOV⟩, jW8⟩, jNN⟩, jAN⟩, jKNA, jDN, jPN⟩ := H
  have b_1 := g_b hG (a := 77) (i := 7) (lo := 0) (hi := 500) rfl rfl
  have b_2 := g_b hG (a := 77) (i := 6) (lo := 0) (hi := 500) rfl rfl
  have b_3 := g_b hG (a := 1) (i := 1) (lo := 0) (hi := 500) rfl rfl
  have b_4 := g_b hG (a := 77) (i := 1) (lo := 0) (hi := 500) rfl rfl
  have b_5 := g_b hG (a := 0) (i := 12) (lo := 0) (hi := 30) rfl rfl
  have b_6 := g_b hG (a := 77) (i := 28) (lo := 0) (hi := 30) rfl rfl
  have b_7 := g_b hG (a := 6) (i := 0) (lo := 0) (hi := 150) rfl rfl
  have b_8 := g_b hG (a := 77) (i := 29) (lo := 0) (hi := 150) rfl rfl
  have b_9 := g_b hG (a := 28) (i := 8) (lo := 0) (hi := 3000) rfl rfl
  have b_10 := g_b hG (a := 77) (i := 43) (lo := 0) (hi := 3000) rfl rfl
  refine to_an (pc := 1092) rw_0_1092 rfl (to_an (pc := 1093) rw_0_1093 rfl (to_i (pc := 1094) rw_0_1094 rfl (to_c (pc := 1096) rw_0_1096 (x := (1 : Int32)) rfl rfl (s_add (pc := 1097) rw_0_1097 (A := i.toInt) (B := 1) rfl rfl (by omega) (fun v11 e12 => s_x0 (pc := 1098) rw_0_1098 hL (A := v11.toInt) rfl (by omega) (by omega) (fun v13 e14 => to_an (pc := 1099) rw_0_1099 rfl (to_i (pc := 1100) rw_0_1100 rfl (to_c (pc := 1102) rw_0_1102 (x := (2 : Int32)) rfl rfl (s_add (pc := 1103) rw_0_1103 (A := i.toInt) (B := 2) rfl rfl (by omega) (fun v15 e16 => s_x0 (pc := 1104) rw_0_1104 hL (A := v15.toInt) rfl (by omega) (by omega) (fun v17 e18 => s_v (pc := 1105) rw_0_1105 (dp0 hd (by decide)) (ls0 := [.ref 0, .int v13, .int v17]) rfl (Nat.le_of_ble_eq_true rfl) (Nat.le_of_ble_eq_true rfl) rfl (to_rc rfl rfl rfl (g_o hG rfl)) rfl ?_)))))))))))
  obtain ⟨pz19, pzz19, qz19, qzz19, hpz19, hpzz19, hqz19, hqzz19, hpqz19⟩ := id jPQE
  refine C_134 hX (dp1 hd (by decide)) hG hpz19 hpzz19 hqz19 hqzz19 hpqz19 jNI jPI jQI (n := v13) (w := v17) (p := pz19) (pz := pzz19) (q := qz19) (qz := qzz19) (fun r20 M26 hG22 F21 p_23 p_24 p_25 => ?_)
  have n_27 : M26.1.2.1 = M.1.2.1 ∧ M26.1.2.2.1 = M.1.2.2.1 := by rw [F21.1]; exact ⟨rfl, rfl⟩
  refine to_popi (pc := 1108) rw_0_1108 (to_an (pc := 1109) rw_0_1109 rfl (to_an (pc := 1110) rw_0_1110 rfl (to_i (pc := 1111) rw_0_1111 rfl (to_c (pc := 1113) rw_0_1113 (x := (1 : Int32)) rfl rfl (s_addk (pc := 1114) rw_0_1114 (A := i.toInt) (B := 1) rfl rfl (by (first | (clear hpz19 hpzz19 hqz19 hqzz19; omega) | (clear hpz19 hpzz19 hqz19; omega) | omega)) (v := v11) e12 (s_x0k (pc := 1115) rw_0_1115 hL (A := v11.toInt) rfl (by (first | (clear hpz19 hpzz19 hqz19 hqzz19; omega) | (clear hpz19 hpzz19 hqz19; omega) | omega)) (by (first | (clear hpz19 hpzz19 hqz19 hqzz19; omega) | (clear hpz19 hpzz19 hqz19; omega) | omega)) (v := v13) e14 (to_an (pc := 1116) rw_0_1116 rfl (to_i (pc := 1117) rw_0_1117 rfl (to_c (pc := 1119) rw_0_1119 (x := (2 : Int32)) rfl rfl (s_addk (pc := 1120) rw_0_1120 (A := i.toInt) (B := 2) rfl rfl (by (first | (clear hpz19 hpzz19 hqz19 hqzz19; omega) | (clear hpz19 hpzz19 hqz19; omega) | omega)) (v := v15) e16 (s_x0k (pc := 1121) rw_0_1121 hL (A := v15.toInt) rfl (by (first | (clear hpz19 hpzz19 hqz19 hqzz19; omega) | (clear hpz19 hpzz19 hqz19; omega) | omega)) (by (first | (clear hpz19 hpzz19 hqz19 hqzz19; omega) | (clear hpz19 hpzz19 hqz19; omega) | omega)) (v := v17) e18 ?_)))))))))))
  refine s_v (pc := 1122) rw_0_1122 (dp0 hd (by decide)) (ls0 := [.ref 77, .int v13, .int v17, .null, .null, .null, .null, .null, .null, .null, .null, .null, .null, .null]) rfl (Nat.le_of_ble_eq_true rfl) (Nat.le_of_ble_eq_true rfl) rfl (to_rc rfl rfl rfl (g_o hG22 rfl)) rfl ?_
  have j_33 := (NJ_f (tg_572 F21) jNJ)
  have j_34 := (FA_f (tg_577 F21) jFA)
  have j_35 := (WC_f (tg_579 F21) jWC)
  refine C_237 hX (dp1 hd (by decide)) hG22 j_33 j_34 j_35 (n := v13) (w := v17) (fun r36 M39 hG38 F37 => ?_)
  have n_40 : M39.1.2.1 = M26.1.2.1 ∧ M39.1.2.2.1 = M26.1.2.2.1 := by rw [F37.1]; exact ⟨rfl, rfl⟩
  refine to_popi (pc := 1125) rw_0_1125 (to_go (pc := 1126) rw_0_1126 ?_)
  have c_42 : M39.2.1 77 7 = (M.2.1 77 7) := (F_n F37 (show ¬ (77 = 77 ∧ 7 = 2 ∨ 94 ≤ 77 ∧ 77 ≤ 98 ∨ 77 = 118) by decide) (F_n F21 (show ¬ (11 ≤ 77 ∧ 77 ≤ 16 ∨ 18 ≤ 77 ∧ 77 ≤ 27 ∨ 36 ≤ 77 ∧ 77 ≤ 48) by decide) rfl))
  have t_43 : (M39.2.1 77 7).toInt = (M.2.1 77 7).toInt := congrArg Int32.toInt c_42
  have c_44 : M39.2.1 77 6 = (M.2.1 77 6) := (F_n F37 (show ¬ (77 = 77 ∧ 6 = 2 ∨ 94 ≤ 77 ∧ 77 ≤ 98 ∨ 77 = 118) by decide) (F_n F21 (show ¬ (11 ≤ 77 ∧ 77 ≤ 16 ∨ 18 ≤ 77 ∧ 77 ≤ 27 ∨ 36 ≤ 77 ∧ 77 ≤ 48) by decide) rfl))
  have t_45 : (M39.2.1 77 6).toInt = (M.2.1 77 6).toInt := congrArg Int32.toInt c_44
  have c_46 : M39.2.1 1 1 = (M.2.1 1 1) := (F_n F37 (show ¬ (1 = 77 ∧ 1 = 2 ∨ 94 ≤ 1 ∧ 1 ≤ 98 ∨ 1 = 118) by decide) (F_n F21 (show ¬ (11 ≤ 1 ∧ 1 ≤ 16 ∨ 18 ≤ 1 ∧ 1 ≤ 27 ∨ 36 ≤ 1 ∧ 1 ≤ 48) by decide) rfl))
  have t_47 : (M39.2.1 1 1).toInt = (M.2.1 1 1).toInt := congrArg Int32.toInt c_46
  have c_48 : M39.2.1 77 1 = (M.2.1 77 1) := (F_n F37 (show ¬ (77 = 77 ∧ 1 = 2 ∨ 94 ≤ 77 ∧ 77 ≤ 98 ∨ 77 = 118) by decide) (F_n F21 (show ¬ (11 ≤ 77 ∧ 77 ≤ 16 ∨ 18 ≤ 77 ∧ 77 ≤ 27 ∨ 36 ≤ 77 ∧ 77 ≤ 48) by decide) rfl))
  have t_49 : (M39.2.1 77 1).toInt = (M.2.1 77 1).toInt := congrArg Int32.toInt c_48
  have c_50 : M39.2.1 0 12 = (M.2.1 0 12) := (F_n F37 (show ¬ (0 = 77 ∧ 12 = 2 ∨ 94 ≤ 0 ∧ 0 ≤ 98 ∨ 0 = 118) by decide) (F_n F21 (show ¬ (11 ≤ 0 ∧ 0 ≤ 16 ∨ 18 ≤ 0 ∧ 0 ≤ 27 ∨ 36 ≤ 0 ∧ 0 ≤ 48) by decide) rfl))
  have t_51 : (M39.2.1 0 12).toInt = (M.2.1 0 12).toInt := congrArg Int32.toInt c_50
  have c_52 : M39.2.1 77 28 = (M.2.1 77 28) := (F_n F37 (show ¬ (77 = 77 ∧ 28 = 2 ∨ 94 ≤ 77 ∧ 77 ≤ 98 ∨ 77 = 118) by decide) (F_n F21 (show ¬ (11 ≤ 77 ∧ 77 ≤ 16 ∨ 18 ≤ 77 ∧ 77 ≤ 27 ∨ 36 ≤ 77 ∧ 77 ≤ 48) by decide) rfl))
  have t_53 : (M39.2.1 77 28).toInt = (M.2.1 77 28).toInt := congrArg Int32.toInt c_52
  have c_54 : M39.2.1 17 4 = (M.2.1 17 4) := (F_n F37 (show ¬ (17 = 77 ∧ 4 = 2 ∨ 94 ≤ 17 ∧ 17 ≤ 98 ∨ 17 = 118) by decide) (F_n F21 (show ¬ (11 ≤ 17 ∧ 17 ≤ 16 ∨ 18 ≤ 17 ∧ 17 ≤ 27 ∨ 36 ≤ 17 ∧ 17 ≤ 48) by decide) rfl))
  have t_55 : (M39.2.1 17 4).toInt = (M.2.1 17 4).toInt := congrArg Int32.toInt c_54
  have c_56 : M39.2.1 77 41 = (M.2.1 77 41) := (F_n F37 (show ¬ (77 = 77 ∧ 41 = 2 ∨ 94 ≤ 77 ∧ 77 ≤ 98 ∨ 77 = 118) by decide) (F_n F21 (show ¬ (11 ≤ 77 ∧ 77 ≤ 16 ∨ 18 ≤ 77 ∧ 77 ≤ 27 ∨ 36 ≤ 77 ∧ 77 ≤ 48) by decide) rfl))
  have t_57 : (M39.2.1 77 41).toInt = (M.2.1 77 41).toInt := congrArg Int32.toInt c_56
  have c_58 : M39.2.1 6 0 = (M.2.1 6 0) := (F_n F37 (show ¬ (6 = 77 ∧ 0 = 2 ∨ 94 ≤ 6 ∧ 6 ≤ 98 ∨ 6 = 118) by decide) (F_n F21 (show ¬ (11 ≤ 6 ∧ 6 ≤ 16 ∨ 18 ≤ 6 ∧ 6 ≤ 27 ∨ 36 ≤ 6 ∧ 6 ≤ 48) by decide) rfl))
  have t_59 : (M39.2.1 6 0).toInt = (M.2.1 6 0).toInt := congrArg Int32.toInt c_58
  have c_60 : M39.2.1 77 29 = (M.2.1 77 29) := (F_n F37 (show ¬ (77 = 77 ∧ 29 = 2 ∨ 94 ≤ 77 ∧ 77 ≤ 98 ∨ 77 = 118) by decide) (F_n F21 (show ¬ (11 ≤ 77 ∧ 77 ≤ 16 ∨ 18 ≤ 77 ∧ 77 ≤ 27 ∨ 36 ≤ 77 ∧ 77 ≤ 48) by decide) rfl))
  have t_61 : (M39.2.1 77 29).toInt = (M.2.1 77 29).toInt := congrArg Int32.toInt c_60
  have c_62 : M39.2.1 28 8 = (M.2.1 28 8) := (F_n F37 (show ¬ (28 = 77 ∧ 8 = 2 ∨ 94 ≤ 28 ∧ 28 ≤ 98 ∨ 28 = 118) by decide) (F_n F21 (show ¬ (11 ≤ 28 ∧ 28 ≤ 16 ∨ 18 ≤ 28 ∧ 28 ≤ 27 ∨ 36 ≤ 28 ∧ 28 ≤ 48) by decide) rfl))
  have t_63 : (M39.2.1 28 8).toInt = (M.2.1 28 8).toInt := congrArg Int32.toInt c_62
  have c_64 : M39.2.1 77 43 = (M.2.1 77 43) := (F_n F37 (show ¬ (77 = 77 ∧ 43 = 2 ∨ 94 ≤ 77 ∧ 77 ≤ 98 ∨ 77 = 118) by decide) (F_n F21 (show ¬ (11 ≤ 77 ∧ 77 ≤ 16 ∨ 18 ≤ 77 ∧ 77 ≤ 27 ∨ 36 ≤ 77 ∧ 77 ≤ 48) by decide) rfl))
  have t_65 : (M39.2.1 77 43).toInt = (M.2.1 77 43).toInt := congrArg Int32.toInt c_64
  have c_66 : M39.2.1 28 9 = (M.2.1 28 9) := (F_n F37 (show ¬ (28 = 77 ∧ 9 = 2 ∨ 94 ≤ 28 ∧ 28 ≤ 98 ∨ 28 = 118) by decide) (F_n F21 (show ¬ (11 ≤ 28 ∧ 28 ≤ 16 ∨ 18 ≤ 28 ∧ 28 ≤ 27 ∨ 36 ≤ 28 ∧ 28 ≤ 48) by decide) rfl))
  have t_67 : (M39.2.1 28 9).toInt = (M.2.1 28 9).toInt := congrArg Int32.toInt c_66
  have c_68 : M39.2.1 77 42 = (M.2.1 77 42) := (F_n F37 (show ¬ (77 = 77 ∧ 42 = 2 ∨ 94 ≤ 77 ∧ 77 ≤ 98 ∨ 77 = 118) by decide) (F_n F21 (show ¬ (11 ≤ 77 ∧ 77 ≤ 16 ∨ 18 ≤ 77 ∧ 77 ≤ 27 ∨ 36 ≤ 77 ∧ 77 ≤ 48) by decide) rfl))
  have t_69 : (M39.2.1 77 42).toInt = (M.2.1 77 42).toInt := congrArg Int32.toInt c_68
  have j_70 := (PI_f (tg_696 F37) p_23)
  have j_71 := (NI_f (tg_697 F37) p_24)
  have j_72 := (QI_f (tg_698 F37) p_25)
  have j_73 := (PQE_r F37.2.1 (PQE_r F21.2.1 jPQE))
  have j_74 := (FA_f (tg_699 F37) j_34)
  have j_75 := (WC_f (tg_700 F37) j_35)
  have j_76 := (NJ_f (tg_701 F37) j_33)
  have j_77 := (PS_f (tg_702 F37) (PS_f (tg_582 F21) jPS))
  have j_78 := (KQ_f (tg_703 F37) (KQ_f (tg_584 F21) jKQ))
  have j_79 := (TP_f (tg_704 F37) (TP_f (tg_586 F21) jTP))
  have j_80 := (W9_f (tg_705 F37) (W9_f (tg_588 F21) jW9))
  have j_81 := (AN_F F37 tg_747 (AN_F F21 tg_636 jAN))
  have j_82 := (KNA_F F37 (fun a i z => show ¬ (a = 77 ∧ i = 2 ∨ 94 ≤ a ∧ a ≤ 98 ∨ a = 118) by (first | (clear hpz19 hpzz19 hqz19 hqzz19; omega) | (clear hpz19 hpzz19 hqz19; omega) | omega)) (KNA_F F21 (fun a i z => show ¬ (11 ≤ a ∧ a ≤ 16 ∨ 18 ≤ a ∧ a ≤ 27 ∨ 36 ≤ a ∧ a ≤ 48) by (first | (clear hpz19 hpzz19 hqz19 hqzz19; omega) | (clear hpz19 hpzz19 hqz19; omega) | omega)) jKNA))
  have j_83 := (NE_r F37.2.1 (NE_r F21.2.1 jNE))
  have j_84 := (W8_f (tg_706 F37) (W8_f (tg_590 F21) jW8))
  exact h M39 (u5) (u6) ⟨⟨⟨⟨⟨⟨⟨⟨⟨hG38, ⟨j_70, j_71, j_72, j_73⟩, ⟨j_74, j_75, j_76, j_77, j_78⟩, by (first | (clear hpz19 hpzz19 hqz19 hqzz19; omega) | (clear hpz19 hpzz19 hqz19; omega) | omega), by (first | (clear hpz19 hpzz19 hqz19 hqzz19; omega) | (clear hpz19 hpzz19 hqz19; omega) | omega)⟩, j_79, j_80⟩, j_83, by (first | (clear hpz19 hpzz19 hqz19 hqzz19; omega) | (clear hpz19 hpzz19 hqz19; omega) | omega)⟩, AN_a j_81⟩, by (first | (clear hpz19 hpzz19 hqz19 hqzz19; omega) | (clear hpz19 hpzz19 hqz19; omega) | omega)⟩, j_84⟩, by (first | (clear hpz19 hpzz19 hqz19 hqzz19; omega) | (clear hpz19 hpzz19 hqz19; omega) | omega)⟩, j_81⟩, j_82, by (first | (clear hpz19 hpzz19 hqz19 hqzz19; omega) | (clear hpz19 hpzz19 hqz19; omega) | omega), by (first | (clear hpz19 hpzz19 hqz19 hqzz19; omega) | (clear hpz19 hpzz19 hqz19; omega) | omega)⟩ (by (first | (clear hpz19 hpzz19 hqz19 hqzz19; omega) | (clear hpz19 hpzz19 hqz19; omega) | omega)) (by (first | (clear hpz19 hpzz19 hqz19 hqzz19; omega) | (clear hpz19 hpzz19 hqz19; omega) | omega))
