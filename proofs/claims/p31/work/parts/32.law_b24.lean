set_option maxRecDepth 4000 in
set_option maxHeartbeats 0 in
theorem LW_24 {X : mm_X} {d L : Nat} {M : mm_M} {Q : Option Value → mm_M → Prop} {i : Int32} {u5 u6 : Value} (hX : g_X X) (hW : g_W X) (hW2 : g_W2 X) (hL : (X 0).1 = L) (h3 : L ≤ 3072) (hd : 40 ≤ d) (hi : 0 ≤ i.toInt) (hi2 : i.toInt + 6 ≤ (L : Int)) (H : LI10 M) (h : ∀ (M1 : mm_M) (v5 v6 : Value), LI10 M1 → M1.1.2.1 ≤ M.1.2.1 + 1 → M1.1.2.2.1 ≤ M.1.2.2.1 + 6 → mm_T X d 0 1313 [.ref mm_ext, .ref 0, .ref 77, .ref 125, .int i, v5, v6] [] M1 Q) : mm_T X d 0 1055 [.ref mm_ext, .ref 0, .ref 77, .ref 125, .int i, u5, u6] [] M Q := by
  obtain ⟨⟨⟨⟨⟨⟨⟨⟨⟨hG, ⟨jPI, jNI, jQI, jPQE⟩, ⟨jFA, jWC, jNJ, jPS, jKQ⟩, jJ, jE⟩, jTP, jW9⟩, jNE, jCC⟩, -⟩, jOV⟩, jW8⟩, jNN⟩, jAN⟩, jKNA, jDN, jPN⟩ := H
  have b_1 := g_b hG (a := 77) (i := 7) (lo := 0) (hi := 500) rfl rfl
  have b_2 := g_b hG (a := 77) (i := 6) (lo := 0) (hi := 500) rfl rfl
  have b_3 := g_b hG (a := 1) (i := 1) (lo := 0) (hi := 500) rfl rfl
  have b_4 := g_b hG (a := 77) (i := 1) (lo := 0) (hi := 500) rfl rfl
  have b_5 := g_b hG (a := 0) (i := 12) (lo := 0) (hi := 30) rfl rfl
  have b_6 := g_b hG (a := 77) (i := 28) (lo := 0) (hi := 30) rfl rfl
  have b_7 := g_b hG (a := 6) (i := 0) (lo := 0) (hi := 150) rfl rfl
  have b_8 := g_b hG (a := 77) (i := 29) (lo := 0) (hi := 150) rfl rfl
  have b_9 := g_b hG (a := 28) (i := 8) (lo := 0) (hi := 3000) rfl rfl
  have b_10 := g_b hG (a := 77) (i := 43) (lo := 0) (hi := 3000) rfl rfl
  refine to_an (pc := 1055) rw_0_1055 rfl (to_an (pc := 1056) rw_0_1056 rfl (to_i (pc := 1057) rw_0_1057 rfl (to_c (pc := 1059) rw_0_1059 (x := (1 : Int32)) rfl rfl (s_add (pc := 1060) rw_0_1060 (A := i.toInt) (B := 1) rfl rfl (by omega) (fun v11 e12 => s_x0 (pc := 1061) rw_0_1061 hL (A := v11.toInt) rfl (by omega) (by omega) (fun v13 e14 => to_an (pc := 1062) rw_0_1062 rfl (to_i (pc := 1063) rw_0_1063 rfl (to_c (pc := 1065) rw_0_1065 (x := (2 : Int32)) rfl rfl (s_add (pc := 1066) rw_0_1066 (A := i.toInt) (B := 2) rfl rfl (by omega) (fun v15 e16 => s_x0 (pc := 1067) rw_0_1067 hL (A := v15.toInt) rfl (by omega) (by omega) (fun v17 e18 => s_v (pc := 1068) rw_0_1068 (dp0 hd (by decide)) (ls0 := [.ref 0, .int v13, .int v17, .null, .null]) rfl (Nat.le_of_ble_eq_true rfl) (Nat.le_of_ble_eq_true rfl) rfl (to_rc rfl rfl rfl (g_o hG rfl)) rfl ?_)))))))))))
  obtain ⟨pz19, pzz19, qz19, qzz19, hpz19, hpzz19, hqz19, hqzz19, hpqz19⟩ := id jPQE
  refine C_133 hX (dp1 hd (by decide)) hG hpz19 hpzz19 hqz19 hqzz19 hpqz19 jNI jPI jQI (n := v13) (w := v17) (p := pz19) (pz := pzz19) (q := qz19) (qz := qzz19) (fun r20 M26 hG22 F21 p_23 p_24 p_25 => ?_)
  have n_27 : M26.1.2.1 = M.1.2.1 ∧ M26.1.2.2.1 = M.1.2.2.1 := by rw [F21.1]; exact ⟨rfl, rfl⟩
  refine to_popi (pc := 1071) rw_0_1071 (to_an (pc := 1072) rw_0_1072 rfl (to_an (pc := 1073) rw_0_1073 rfl (to_i (pc := 1074) rw_0_1074 rfl (to_c (pc := 1076) rw_0_1076 (x := (1 : Int32)) rfl rfl (s_addk (pc := 1077) rw_0_1077 (A := i.toInt) (B := 1) rfl rfl (by (first | (clear hpz19 hpzz19 hqz19 hqzz19; omega) | (clear hpz19 hpzz19 hqz19; omega) | omega)) (v := v11) e12 (s_x0k (pc := 1078) rw_0_1078 hL (A := v11.toInt) rfl (by (first | (clear hpz19 hpzz19 hqz19 hqzz19; omega) | (clear hpz19 hpzz19 hqz19; omega) | omega)) (by (first | (clear hpz19 hpzz19 hqz19 hqzz19; omega) | (clear hpz19 hpzz19 hqz19; omega) | omega)) (v := v13) e14 (to_an (pc := 1079) rw_0_1079 rfl (to_i (pc := 1080) rw_0_1080 rfl (to_c (pc := 1082) rw_0_1082 (x := (2 : Int32)) rfl rfl (s_addk (pc := 1083) rw_0_1083 (A := i.toInt) (B := 2) rfl rfl (by (first | (clear hpz19 hpzz19 hqz19 hqzz19; omega) | (clear hpz19 hpzz19 hqz19; omega) | omega)) (v := v15) e16 (s_x0k (pc := 1084) rw_0_1084 hL (A := v15.toInt) rfl (by (first | (clear hpz19 hpzz19 hqz19 hqzz19; omega) | (clear hpz19 hpzz19 hqz19; omega) | omega)) (by (first | (clear hpz19 hpzz19 hqz19 hqzz19; omega) | (clear hpz19 hpzz19 hqz19; omega) | omega)) (v := v17) e18 ?_)))))))))))
  refine s_v (pc := 1085) rw_0_1085 (dp0 hd (by decide)) (ls0 := [.ref 77, .int v13, .int v17]) rfl (Nat.le_of_ble_eq_true rfl) (Nat.le_of_ble_eq_true rfl) rfl (to_rc rfl rfl rfl (g_o hG22 rfl)) rfl ?_
  have j_33 := (NJ_f (tg_572 F21) jNJ)
  refine C_235 hX (dp1 hd (by decide)) hG22 j_33 (n := v13) (w := v17) (fun r34 M37 hG36 F35 => ?_)
  have n_38 : M37.1.2.1 = M26.1.2.1 ∧ M37.1.2.2.1 = M26.1.2.2.1 := by rw [F35.1]; exact ⟨rfl, rfl⟩
  refine to_popi (pc := 1088) rw_0_1088 (to_go (pc := 1089) rw_0_1089 ?_)
  have c_40 : M37.2.1 77 7 = (M.2.1 77 7) := (F_n F35 (show ¬ (77 = 77 ∧ 7 = 2 ∨ 94 ≤ 77 ∧ 77 ≤ 98) by decide) (F_n F21 (show ¬ (11 ≤ 77 ∧ 77 ≤ 16 ∨ 18 ≤ 77 ∧ 77 ≤ 27 ∨ 36 ≤ 77 ∧ 77 ≤ 48) by decide) rfl))
  have t_41 : (M37.2.1 77 7).toInt = (M.2.1 77 7).toInt := congrArg Int32.toInt c_40
  have c_42 : M37.2.1 77 6 = (M.2.1 77 6) := (F_n F35 (show ¬ (77 = 77 ∧ 6 = 2 ∨ 94 ≤ 77 ∧ 77 ≤ 98) by decide) (F_n F21 (show ¬ (11 ≤ 77 ∧ 77 ≤ 16 ∨ 18 ≤ 77 ∧ 77 ≤ 27 ∨ 36 ≤ 77 ∧ 77 ≤ 48) by decide) rfl))
  have t_43 : (M37.2.1 77 6).toInt = (M.2.1 77 6).toInt := congrArg Int32.toInt c_42
  have c_44 : M37.2.1 1 1 = (M.2.1 1 1) := (F_n F35 (show ¬ (1 = 77 ∧ 1 = 2 ∨ 94 ≤ 1 ∧ 1 ≤ 98) by decide) (F_n F21 (show ¬ (11 ≤ 1 ∧ 1 ≤ 16 ∨ 18 ≤ 1 ∧ 1 ≤ 27 ∨ 36 ≤ 1 ∧ 1 ≤ 48) by decide) rfl))
  have t_45 : (M37.2.1 1 1).toInt = (M.2.1 1 1).toInt := congrArg Int32.toInt c_44
  have c_46 : M37.2.1 77 1 = (M.2.1 77 1) := (F_n F35 (show ¬ (77 = 77 ∧ 1 = 2 ∨ 94 ≤ 77 ∧ 77 ≤ 98) by decide) (F_n F21 (show ¬ (11 ≤ 77 ∧ 77 ≤ 16 ∨ 18 ≤ 77 ∧ 77 ≤ 27 ∨ 36 ≤ 77 ∧ 77 ≤ 48) by decide) rfl))
  have t_47 : (M37.2.1 77 1).toInt = (M.2.1 77 1).toInt := congrArg Int32.toInt c_46
  have c_48 : M37.2.1 0 12 = (M.2.1 0 12) := (F_n F35 (show ¬ (0 = 77 ∧ 12 = 2 ∨ 94 ≤ 0 ∧ 0 ≤ 98) by decide) (F_n F21 (show ¬ (11 ≤ 0 ∧ 0 ≤ 16 ∨ 18 ≤ 0 ∧ 0 ≤ 27 ∨ 36 ≤ 0 ∧ 0 ≤ 48) by decide) rfl))
  have t_49 : (M37.2.1 0 12).toInt = (M.2.1 0 12).toInt := congrArg Int32.toInt c_48
  have c_50 : M37.2.1 77 28 = (M.2.1 77 28) := (F_n F35 (show ¬ (77 = 77 ∧ 28 = 2 ∨ 94 ≤ 77 ∧ 77 ≤ 98) by decide) (F_n F21 (show ¬ (11 ≤ 77 ∧ 77 ≤ 16 ∨ 18 ≤ 77 ∧ 77 ≤ 27 ∨ 36 ≤ 77 ∧ 77 ≤ 48) by decide) rfl))
  have t_51 : (M37.2.1 77 28).toInt = (M.2.1 77 28).toInt := congrArg Int32.toInt c_50
  have c_52 : M37.2.1 17 4 = (M.2.1 17 4) := (F_n F35 (show ¬ (17 = 77 ∧ 4 = 2 ∨ 94 ≤ 17 ∧ 17 ≤ 98) by decide) (F_n F21 (show ¬ (11 ≤ 17 ∧ 17 ≤ 16 ∨ 18 ≤ 17 ∧ 17 ≤ 27 ∨ 36 ≤ 17 ∧ 17 ≤ 48) by decide) rfl))
  have t_53 : (M37.2.1 17 4).toInt = (M.2.1 17 4).toInt := congrArg Int32.toInt c_52
  have c_54 : M37.2.1 77 41 = (M.2.1 77 41) := (F_n F35 (show ¬ (77 = 77 ∧ 41 = 2 ∨ 94 ≤ 77 ∧ 77 ≤ 98) by decide) (F_n F21 (show ¬ (11 ≤ 77 ∧ 77 ≤ 16 ∨ 18 ≤ 77 ∧ 77 ≤ 27 ∨ 36 ≤ 77 ∧ 77 ≤ 48) by decide) rfl))
  have t_55 : (M37.2.1 77 41).toInt = (M.2.1 77 41).toInt := congrArg Int32.toInt c_54
  have c_56 : M37.2.1 6 0 = (M.2.1 6 0) := (F_n F35 (show ¬ (6 = 77 ∧ 0 = 2 ∨ 94 ≤ 6 ∧ 6 ≤ 98) by decide) (F_n F21 (show ¬ (11 ≤ 6 ∧ 6 ≤ 16 ∨ 18 ≤ 6 ∧ 6 ≤ 27 ∨ 36 ≤ 6 ∧ 6 ≤ 48) by decide) rfl))
  have t_57 : (M37.2.1 6 0).toInt = (M.2.1 6 0).toInt := congrArg Int32.toInt c_56
  have c_58 : M37.2.1 77 29 = (M.2.1 77 29) := (F_n F35 (show ¬ (77 = 77 ∧ 29 = 2 ∨ 94 ≤ 77 ∧ 77 ≤ 98) by decide) (F_n F21 (show ¬ (11 ≤ 77 ∧ 77 ≤ 16 ∨ 18 ≤ 77 ∧ 77 ≤ 27 ∨ 36 ≤ 77 ∧ 77 ≤ 48) by decide) rfl))
  have t_59 : (M37.2.1 77 29).toInt = (M.2.1 77 29).toInt := congrArg Int32.toInt c_58
  have c_60 : M37.2.1 28 8 = (M.2.1 28 8) := (F_n F35 (show ¬ (28 = 77 ∧ 8 = 2 ∨ 94 ≤ 28 ∧ 28 ≤ 98) by decide) (F_n F21 (show ¬ (11 ≤ 28 ∧ 28 ≤ 16 ∨ 18 ≤ 28 ∧ 28 ≤ 27 ∨ 36 ≤ 28 ∧ 28 ≤ 48) by decide) rfl))
  have t_61 : (M37.2.1 28 8).toInt = (M.2.1 28 8).toInt := congrArg Int32.toInt c_60
  have c_62 : M37.2.1 77 43 = (M.2.1 77 43) := (F_n F35 (show ¬ (77 = 77 ∧ 43 = 2 ∨ 94 ≤ 77 ∧ 77 ≤ 98) by decide) (F_n F21 (show ¬ (11 ≤ 77 ∧ 77 ≤ 16 ∨ 18 ≤ 77 ∧ 77 ≤ 27 ∨ 36 ≤ 77 ∧ 77 ≤ 48) by decide) rfl))
  have t_63 : (M37.2.1 77 43).toInt = (M.2.1 77 43).toInt := congrArg Int32.toInt c_62
  have c_64 : M37.2.1 28 9 = (M.2.1 28 9) := (F_n F35 (show ¬ (28 = 77 ∧ 9 = 2 ∨ 94 ≤ 28 ∧ 28 ≤ 98) by decide) (F_n F21 (show ¬ (11 ≤ 28 ∧ 28 ≤ 16 ∨ 18 ≤ 28 ∧ 28 ≤ 27 ∨ 36 ≤ 28 ∧ 28 ≤ 48) by decide) rfl))
  have t_65 : (M37.2.1 28 9).toInt = (M.2.1 28 9).toInt := congrArg Int32.toInt c_64
  have c_66 : M37.2.1 77 42 = (M.2.1 77 42) := (F_n F35 (show ¬ (77 = 77 ∧ 42 = 2 ∨ 94 ≤ 77 ∧ 77 ≤ 98) by decide) (F_n F21 (show ¬ (11 ≤ 77 ∧ 77 ≤ 16 ∨ 18 ≤ 77 ∧ 77 ≤ 27 ∨ 36 ≤ 77 ∧ 77 ≤ 48) by decide) rfl))
  have t_67 : (M37.2.1 77 42).toInt = (M.2.1 77 42).toInt := congrArg Int32.toInt c_66
  have j_68 := (PI_f (tg_573 F35) p_23)
  have j_69 := (NI_f (tg_574 F35) p_24)
  have j_70 := (QI_f (tg_575 F35) p_25)
  have j_71 := (PQE_r F35.2.1 (PQE_r F21.2.1 jPQE))
  have j_72 := (FA_f (tg_576 F35) (FA_f (tg_577 F21) jFA))
  have j_73 := (WC_f (tg_578 F35) (WC_f (tg_579 F21) jWC))
  have j_74 := (NJ_f (tg_580 F35) j_33)
  have j_75 := (PS_f (tg_581 F35) (PS_f (tg_582 F21) jPS))
  have j_76 := (KQ_f (tg_583 F35) (KQ_f (tg_584 F21) jKQ))
  have j_77 := (TP_f (tg_585 F35) (TP_f (tg_586 F21) jTP))
  have j_78 := (W9_f (tg_587 F35) (W9_f (tg_588 F21) jW9))
  have j_79 := (AN_F F35 tg_635 (AN_F F21 tg_636 jAN))
  have j_80 := (KNA_F F35 (fun a i z => show ¬ (a = 77 ∧ i = 2 ∨ 94 ≤ a ∧ a ≤ 98) by (first | (clear hpz19 hpzz19 hqz19 hqzz19; omega) | (clear hpz19 hpzz19 hqz19; omega) | omega)) (KNA_F F21 (fun a i z => show ¬ (11 ≤ a ∧ a ≤ 16 ∨ 18 ≤ a ∧ a ≤ 27 ∨ 36 ≤ a ∧ a ≤ 48) by (first | (clear hpz19 hpzz19 hqz19 hqzz19; omega) | (clear hpz19 hpzz19 hqz19; omega) | omega)) jKNA))
  have j_81 := (NE_r F35.2.1 (NE_r F21.2.1 jNE))
  have j_82 := (W8_f (tg_589 F35) (W8_f (tg_590 F21) jW8))
  exact h M37 (u5) (u6) ⟨⟨⟨⟨⟨⟨⟨⟨⟨hG36, ⟨j_68, j_69, j_70, j_71⟩, ⟨j_72, j_73, j_74, j_75, j_76⟩, by (first | (clear hpz19 hpzz19 hqz19 hqzz19; omega) | (clear hpz19 hpzz19 hqz19; omega) | omega), by (first | (clear hpz19 hpzz19 hqz19 hqzz19; omega) | (clear hpz19 hpzz19 hqz19; omega) | omega)⟩, j_77, j_78⟩, j_81, by (first | (clear hpz19 hpzz19 hqz19 hqzz19; omega) | (clear hpz19 hpzz19 hqz19; omega) | omega)⟩, AN_a j_79⟩, by (first | (clear hpz19 hpzz19 hqz19 hqzz19; omega) | (clear hpz19 hpzz19 hqz19; omega) | omega)⟩, j_82⟩, by (first | (clear hpz19 hpzz19 hqz19 hqzz19; omega) | (clear hpz19 hpzz19 hqz19; omega) | omega)⟩, j_79⟩, j_80, by (first | (clear hpz19 hpzz19 hqz19 hqzz19; omega) | (clear hpz19 hpzz19 hqz19; omega) | omega), by (first | (clear hpz19 hpzz19 hqz19 hqzz19; omega) | (clear hpz19 hpzz19 hqz19; omega) | omega)⟩ (by (first | (clear hpz19 hpzz19 hqz19 hqzz19; omega) | (clear hpz19 hpzz19 hqz19; omega) | omega)) (by (first | (clear hpz19 hpzz19 hqz19 hqzz19; omega) | (clear hpz19 hpzz19 hqz19; omega) | omega))
