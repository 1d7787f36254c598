set_option maxRecDepth 4000 in
set_option maxHeartbeats 0 in
theorem LW_24 {X : mm_X} {d L : Nat} {M : mm_M} {Q : Option Value → mm_M → Prop} {i : Int32} {u5 u6 : Value} (hX : g_X X) (hW : g_W X) (hW2 : g_W2 X) (hL : (X 0).1 = L) (h3 : L ≤ 3072) (hd : 40 ≤ d) (hi : 0 ≤ i.toInt) (hi2 : i.toInt + 6 ≤ (L : Int)) (H : LI10 M) (h : ∀ (M1 : mm_M) (v5 v6 : Value), LI10 M1 → M1.1.2.1 ≤ M.1.2.1 + 1 → M1.1.2.2.1 ≤ M.1.2.2.1 + 6 → mm_T X d 0 1313 [.ref mm_ext, .ref 0, .ref 77, .ref 125, .int i, v5, v6] [] M1 Q) : mm_T X d 0 1055 [.ref mm_ext, .ref 0, .ref 77, .ref 125, .int i, u5, u6] [] M Q := by
  obtain ⟨⟨⟨⟨⟨⟨⟨⟨⟨hG, ⟨jPI, jNI, jQI, jPQE⟩, ⟨jFA, jWC, jNJ, jPS, jKQ⟩, jJ, jE⟩, jTP, jW9⟩, jNE, jCC⟩, -⟩, jOV⟩, jW8⟩, jNN⟩, jAN⟩, jG8, jPKA⟩ := H
  have b_1 := g_b hG (a := 77) (i := 7) (lo := 0) (hi := 500) rfl rfl
  have b_2 := g_b hG (a := 77) (i := 6) (lo := 0) (hi := 500) rfl rfl
  have b_3 := g_b hG (a := 1) (i := 1) (lo := 0) (hi := 500) rfl rfl
  have b_4 := g_b hG (a := 77) (i := 1) (lo := 0) (hi := 500) rfl rfl
  have b_5 := g_b hG (a := 0) (i := 12) (lo := 0) (hi := 30) rfl rfl
  have b_6 := g_b hG (a := 77) (i := 28) (lo := 0) (hi := 30) rfl rfl
  have b_7 := g_b hG (a := 6) (i := 0) (lo := 0) (hi := 150) rfl rfl
  have b_8 := g_b hG (a := 77) (i := 29) (lo := 0) (hi := 150) rfl rfl
  refine to_an (pc := 1055) rw_0_1055 rfl (to_an (pc := 1056) rw_0_1056 rfl (to_i (pc := 1057) rw_0_1057 rfl (to_c (pc := 1059) rw_0_1059 (x := (1 : Int32)) rfl rfl (s_add (pc := 1060) rw_0_1060 (A := i.toInt) (B := 1) rfl rfl (by omega) (fun v9 e10 => s_x0 (pc := 1061) rw_0_1061 hL (A := v9.toInt) rfl (by omega) (by omega) (fun v11 e12 => to_an (pc := 1062) rw_0_1062 rfl (to_i (pc := 1063) rw_0_1063 rfl (to_c (pc := 1065) rw_0_1065 (x := (2 : Int32)) rfl rfl (s_add (pc := 1066) rw_0_1066 (A := i.toInt) (B := 2) rfl rfl (by omega) (fun v13 e14 => s_x0 (pc := 1067) rw_0_1067 hL (A := v13.toInt) rfl (by omega) (by omega) (fun v15 e16 => s_v (pc := 1068) rw_0_1068 (dp0 hd (by decide)) (ls0 := [.ref 0, .int v11, .int v15, .null, .null]) rfl (Nat.le_of_ble_eq_true rfl) (Nat.le_of_ble_eq_true rfl) rfl (to_rc rfl rfl rfl (g_o hG rfl)) rfl ?_)))))))))))
  obtain ⟨pz17, pzz17, qz17, qzz17, hpz17, hpzz17, hqz17, hqzz17, hpqz17⟩ := id jPQE
  refine C_133 hX (dp1 hd (by decide)) hG hpz17 hpzz17 hqz17 hqzz17 hpqz17 jNI jPI jQI (n := v11) (w := v15) (p := pz17) (pz := pzz17) (q := qz17) (qz := qzz17) (fun r18 M24 hG20 F19 p_21 p_22 p_23 => ?_)
  have n_25 : M24.1.2.1 = M.1.2.1 ∧ M24.1.2.2.1 = M.1.2.2.1 := by rw [F19.1]; exact ⟨rfl, rfl⟩
  refine to_popi (pc := 1071) rw_0_1071 (to_an (pc := 1072) rw_0_1072 rfl (to_an (pc := 1073) rw_0_1073 rfl (to_i (pc := 1074) rw_0_1074 rfl (to_c (pc := 1076) rw_0_1076 (x := (1 : Int32)) rfl rfl (s_addk (pc := 1077) rw_0_1077 (A := i.toInt) (B := 1) rfl rfl (by (first | (clear hpz17 hpzz17 hqz17 hqzz17; omega) | (clear hpz17 hpzz17 hqz17; omega) | omega)) (v := v9) e10 (s_x0k (pc := 1078) rw_0_1078 hL (A := v9.toInt) rfl (by (first | (clear hpz17 hpzz17 hqz17 hqzz17; omega) | (clear hpz17 hpzz17 hqz17; omega) | omega)) (by (first | (clear hpz17 hpzz17 hqz17 hqzz17; omega) | (clear hpz17 hpzz17 hqz17; omega) | omega)) (v := v11) e12 (to_an (pc := 1079) rw_0_1079 rfl (to_i (pc := 1080) rw_0_1080 rfl (to_c (pc := 1082) rw_0_1082 (x := (2 : Int32)) rfl rfl (s_addk (pc := 1083) rw_0_1083 (A := i.toInt) (B := 2) rfl rfl (by (first | (clear hpz17 hpzz17 hqz17 hqzz17; omega) | (clear hpz17 hpzz17 hqz17; omega) | omega)) (v := v13) e14 (s_x0k (pc := 1084) rw_0_1084 hL (A := v13.toInt) rfl (by (first | (clear hpz17 hpzz17 hqz17 hqzz17; omega) | (clear hpz17 hpzz17 hqz17; omega) | omega)) (by (first | (clear hpz17 hpzz17 hqz17 hqzz17; omega) | (clear hpz17 hpzz17 hqz17; omega) | omega)) (v := v15) e16 ?_)))))))))))
  refine s_v (pc := 1085) rw_0_1085 (dp0 hd (by decide)) (ls0 := [.ref 77, .int v11, .int v15]) rfl (Nat.le_of_ble_eq_true rfl) (Nat.le_of_ble_eq_true rfl) rfl (to_rc rfl rfl rfl (g_o hG20 rfl)) rfl ?_
  have j_31 := (NJ_f (tg_658 F19) jNJ)
  refine C_235 hX (dp1 hd (by decide)) hG20 j_31 (n := v11) (w := v15) (fun r32 M35 hG34 F33 => ?_)
  have n_36 : M35.1.2.1 = M24.1.2.1 ∧ M35.1.2.2.1 = M24.1.2.2.1 := by rw [F33.1]; exact ⟨rfl, rfl⟩
  refine to_popi (pc := 1088) rw_0_1088 (to_go (pc := 1089) rw_0_1089 ?_)
  have c_38 : M35.2.1 77 7 = (M.2.1 77 7) := (F_n F33 (show ¬ (77 = 77 ∧ 7 = 2 ∨ 94 ≤ 77 ∧ 77 ≤ 98) by decide) (F_n F19 (show ¬ (11 ≤ 77 ∧ 77 ≤ 16 ∨ 77 = 27 ∨ 36 ≤ 77 ∧ 77 ≤ 48) by decide) rfl))
  have t_39 : (M35.2.1 77 7).toInt = (M.2.1 77 7).toInt := congrArg Int32.toInt c_38
  have c_40 : M35.2.1 77 6 = (M.2.1 77 6) := (F_n F33 (show ¬ (77 = 77 ∧ 6 = 2 ∨ 94 ≤ 77 ∧ 77 ≤ 98) by decide) (F_n F19 (show ¬ (11 ≤ 77 ∧ 77 ≤ 16 ∨ 77 = 27 ∨ 36 ≤ 77 ∧ 77 ≤ 48) by decide) rfl))
  have t_41 : (M35.2.1 77 6).toInt = (M.2.1 77 6).toInt := congrArg Int32.toInt c_40
  have c_42 : M35.2.1 1 1 = (M.2.1 1 1) := (F_n F33 (show ¬ (1 = 77 ∧ 1 = 2 ∨ 94 ≤ 1 ∧ 1 ≤ 98) by decide) (F_n F19 (show ¬ (11 ≤ 1 ∧ 1 ≤ 16 ∨ 1 = 27 ∨ 36 ≤ 1 ∧ 1 ≤ 48) by decide) rfl))
  have t_43 : (M35.2.1 1 1).toInt = (M.2.1 1 1).toInt := congrArg Int32.toInt c_42
  have c_44 : M35.2.1 77 1 = (M.2.1 77 1) := (F_n F33 (show ¬ (77 = 77 ∧ 1 = 2 ∨ 94 ≤ 77 ∧ 77 ≤ 98) by decide) (F_n F19 (show ¬ (11 ≤ 77 ∧ 77 ≤ 16 ∨ 77 = 27 ∨ 36 ≤ 77 ∧ 77 ≤ 48) by decide) rfl))
  have t_45 : (M35.2.1 77 1).toInt = (M.2.1 77 1).toInt := congrArg Int32.toInt c_44
  have c_46 : M35.2.1 0 12 = (M.2.1 0 12) := (F_n F33 (show ¬ (0 = 77 ∧ 12 = 2 ∨ 94 ≤ 0 ∧ 0 ≤ 98) by decide) (F_n F19 (show ¬ (11 ≤ 0 ∧ 0 ≤ 16 ∨ 0 = 27 ∨ 36 ≤ 0 ∧ 0 ≤ 48) by decide) rfl))
  have t_47 : (M35.2.1 0 12).toInt = (M.2.1 0 12).toInt := congrArg Int32.toInt c_46
  have c_48 : M35.2.1 77 28 = (M.2.1 77 28) := (F_n F33 (show ¬ (77 = 77 ∧ 28 = 2 ∨ 94 ≤ 77 ∧ 77 ≤ 98) by decide) (F_n F19 (show ¬ (11 ≤ 77 ∧ 77 ≤ 16 ∨ 77 = 27 ∨ 36 ≤ 77 ∧ 77 ≤ 48) by decide) rfl))
  have t_49 : (M35.2.1 77 28).toInt = (M.2.1 77 28).toInt := congrArg Int32.toInt c_48
  have c_50 : M35.2.1 17 4 = (M.2.1 17 4) := (F_n F33 (show ¬ (17 = 77 ∧ 4 = 2 ∨ 94 ≤ 17 ∧ 17 ≤ 98) by decide) (F_n F19 (show ¬ (11 ≤ 17 ∧ 17 ≤ 16 ∨ 17 = 27 ∨ 36 ≤ 17 ∧ 17 ≤ 48) by decide) rfl))
  have t_51 : (M35.2.1 17 4).toInt = (M.2.1 17 4).toInt := congrArg Int32.toInt c_50
  have c_52 : M35.2.1 77 41 = (M.2.1 77 41) := (F_n F33 (show ¬ (77 = 77 ∧ 41 = 2 ∨ 94 ≤ 77 ∧ 77 ≤ 98) by decide) (F_n F19 (show ¬ (11 ≤ 77 ∧ 77 ≤ 16 ∨ 77 = 27 ∨ 36 ≤ 77 ∧ 77 ≤ 48) by decide) rfl))
  have t_53 : (M35.2.1 77 41).toInt = (M.2.1 77 41).toInt := congrArg Int32.toInt c_52
  have c_54 : M35.2.1 6 0 = (M.2.1 6 0) := (F_n F33 (show ¬ (6 = 77 ∧ 0 = 2 ∨ 94 ≤ 6 ∧ 6 ≤ 98) by decide) (F_n F19 (show ¬ (11 ≤ 6 ∧ 6 ≤ 16 ∨ 6 = 27 ∨ 36 ≤ 6 ∧ 6 ≤ 48) by decide) rfl))
  have t_55 : (M35.2.1 6 0).toInt = (M.2.1 6 0).toInt := congrArg Int32.toInt c_54
  have c_56 : M35.2.1 77 29 = (M.2.1 77 29) := (F_n F33 (show ¬ (77 = 77 ∧ 29 = 2 ∨ 94 ≤ 77 ∧ 77 ≤ 98) by decide) (F_n F19 (show ¬ (11 ≤ 77 ∧ 77 ≤ 16 ∨ 77 = 27 ∨ 36 ≤ 77 ∧ 77 ≤ 48) by decide) rfl))
  have t_57 : (M35.2.1 77 29).toInt = (M.2.1 77 29).toInt := congrArg Int32.toInt c_56
  have j_58 := (PI_f (tg_567 F33) p_21)
  have j_59 := (NI_f (tg_568 F33) p_22)
  have j_60 := (QI_f (tg_569 F33) p_23)
  have j_61 := (PQE_r F33.2.1 (PQE_r F19.2.1 jPQE))
  have j_62 := (FA_f (tg_570 F33) (FA_f (tg_650 F19) jFA))
  have j_63 := (WC_f (tg_571 F33) (WC_f (tg_657 F19) jWC))
  have j_64 := (NJ_f (tg_573 F33) j_31)
  have j_65 := (PS_f (tg_575 F33) (PS_f (tg_659 F19) jPS))
  have j_66 := (KQ_f (tg_577 F33) (KQ_f (tg_660 F19) jKQ))
  have j_67 := (TP_f (tg_579 F33) (TP_f (tg_661 F19) jTP))
  have j_68 := (W9_f (tg_581 F33) (W9_f (tg_662 F19) jW9))
  have j_69 := (AN_F F33 tg_628 (AN_F F19 tg_748 jAN))
  have j_70 := (G8_F F33 (fun a i z => show ¬ (a = 77 ∧ i = 2 ∨ 94 ≤ a ∧ a ≤ 98) by (first | (clear hpz17 hpzz17 hqz17 hqzz17; omega) | (clear hpz17 hpzz17 hqz17; omega) | omega)) (G8_F F19 (fun a i z => show ¬ (11 ≤ a ∧ a ≤ 16 ∨ a = 27 ∨ 36 ≤ a ∧ a ≤ 48) by (first | (clear hpz17 hpzz17 hqz17 hqzz17; omega) | (clear hpz17 hpzz17 hqz17; omega) | omega)) jG8))
  have j_71 := (PKA_F F33 (fun a i z => show ¬ (a = 77 ∧ i = 2 ∨ 94 ≤ a ∧ a ≤ 98) by (first | (clear hpz17 hpzz17 hqz17 hqzz17; omega) | (clear hpz17 hpzz17 hqz17; omega) | omega)) (PKA_F F19 (fun a i z => show ¬ (11 ≤ a ∧ a ≤ 16 ∨ a = 27 ∨ 36 ≤ a ∧ a ≤ 48) by (first | (clear hpz17 hpzz17 hqz17 hqzz17; omega) | (clear hpz17 hpzz17 hqz17; omega) | omega)) jPKA))
  have j_72 := (NE_r F33.2.1 (NE_r F19.2.1 jNE))
  have j_73 := (W8_f (tg_583 F33) (W8_f (tg_652 F19) jW8))
  exact h M35 (u5) (u6) ⟨⟨⟨⟨⟨⟨⟨⟨⟨hG34, ⟨j_58, j_59, j_60, j_61⟩, ⟨j_62, j_63, j_64, j_65, j_66⟩, by (first | (clear hpz17 hpzz17 hqz17 hqzz17; omega) | (clear hpz17 hpzz17 hqz17; omega) | omega), by (first | (clear hpz17 hpzz17 hqz17 hqzz17; omega) | (clear hpz17 hpzz17 hqz17; omega) | omega)⟩, j_67, j_68⟩, j_72, by (first | (clear hpz17 hpzz17 hqz17 hqzz17; omega) | (clear hpz17 hpzz17 hqz17; omega) | omega)⟩, AN_a j_69⟩, by (first | (clear hpz17 hpzz17 hqz17 hqzz17; omega) | (clear hpz17 hpzz17 hqz17; omega) | omega)⟩, j_73⟩, by (first | (clear hpz17 hpzz17 hqz17 hqzz17; omega) | (clear hpz17 hpzz17 hqz17; omega) | omega)⟩, j_69⟩, j_70, j_71⟩ (by (first | (clear hpz17 hpzz17 hqz17 hqzz17; omega) | (clear hpz17 hpzz17 hqz17; omega) | omega)) (by (first | (clear hpz17 hpzz17 hqz17 hqzz17; omega) | (clear hpz17 hpzz17 hqz17; omega) | omega))
