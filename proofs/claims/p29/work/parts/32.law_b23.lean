set_option maxRecDepth 4000 in
set_option maxHeartbeats 0 in
theorem LW_23 {X : mm_X} {d L : Nat} {M : mm_M} {Q : Option Value → mm_M → Prop} {i : Int32} {u5 u6 : Value} (hX : g_X X) (hW : g_W X) (hW2 : g_W2 X) (hL : (X 0).1 = L) (h3 : L ≤ 3072) (hd : 40 ≤ d) (hi : 0 ≤ i.toInt) (hi2 : i.toInt + 6 ≤ (L : Int)) (H : LI10 M) (h : ∀ (M1 : mm_M) (v5 v6 : Value), LI10 M1 → M1.1.2.1 ≤ M.1.2.1 + 1 → M1.1.2.2.1 ≤ M.1.2.2.1 + 6 → mm_T X d 0 1313 [.ref mm_ext, .ref 0, .ref 77, .ref 125, .int i, v5, v6] [] M1 Q) : mm_T X d 0 1006 [.ref mm_ext, .ref 0, .ref 77, .ref 125, .int i, u5, u6] [] M Q := by
  obtain ⟨⟨⟨⟨⟨⟨⟨⟨⟨hG, ⟨jPI, jNI, jQI, jPQE⟩, ⟨jFA, jWC, jNJ, jPS, jKQ⟩, jJ, jE⟩, jTP, jW9⟩, jNE, jCC⟩, -⟩, jOV⟩, jW8⟩, jNN⟩, jAN⟩, jG8, jPKA⟩ := H
  have b_1 := g_b hG (a := 77) (i := 7) (lo := 0) (hi := 500) rfl rfl
  have b_2 := g_b hG (a := 77) (i := 6) (lo := 0) (hi := 500) rfl rfl
  have b_3 := g_b hG (a := 1) (i := 1) (lo := 0) (hi := 500) rfl rfl
  have b_4 := g_b hG (a := 77) (i := 1) (lo := 0) (hi := 500) rfl rfl
  have b_5 := g_b hG (a := 0) (i := 12) (lo := 0) (hi := 30) rfl rfl
  have b_6 := g_b hG (a := 77) (i := 28) (lo := 0) (hi := 30) rfl rfl
  have b_7 := g_b hG (a := 6) (i := 0) (lo := 0) (hi := 150) rfl rfl
  have b_8 := g_b hG (a := 77) (i := 29) (lo := 0) (hi := 150) rfl rfl
  refine to_an (pc := 1006) rw_0_1006 rfl (to_an (pc := 1007) rw_0_1007 rfl (to_i (pc := 1008) rw_0_1008 rfl (to_c (pc := 1010) rw_0_1010 (x := (1 : Int32)) rfl rfl (s_add (pc := 1011) rw_0_1011 (A := i.toInt) (B := 1) rfl rfl (by omega) (fun v9 e10 => s_x0 (pc := 1012) rw_0_1012 hL (A := v9.toInt) rfl (by omega) (by omega) (fun v11 e12 => to_an (pc := 1013) rw_0_1013 rfl (to_i (pc := 1014) rw_0_1014 rfl (to_c (pc := 1016) rw_0_1016 (x := (2 : Int32)) rfl rfl (s_add (pc := 1017) rw_0_1017 (A := i.toInt) (B := 2) rfl rfl (by omega) (fun v13 e14 => s_x0 (pc := 1018) rw_0_1018 hL (A := v13.toInt) rfl (by omega) (by omega) (fun v15 e16 => to_an (pc := 1019) rw_0_1019 rfl ?_)))))))))))
  refine to_i (pc := 1020) rw_0_1020 rfl (to_c (pc := 1022) rw_0_1022 (x := (3 : Int32)) rfl rfl (s_add (pc := 1023) rw_0_1023 (A := i.toInt) (B := 3) rfl rfl (by omega) (fun v17 e18 => s_x0 (pc := 1024) rw_0_1024 hL (A := v17.toInt) rfl (by omega) (by omega) (fun v19 e20 => s_v (pc := 1025) rw_0_1025 (dp0 hd (by decide)) (ls0 := [.ref 0, .int v11, .int v15, .int v19, .null, .null, .null, .null, .null]) rfl (Nat.le_of_ble_eq_true rfl) (Nat.le_of_ble_eq_true rfl) rfl (to_rc rfl rfl rfl (g_o hG rfl)) rfl ?_))))
  obtain ⟨pz21, pzz21, qz21, qzz21, hpz21, hpzz21, hqz21, hqzz21, hpqz21⟩ := id jPQE
  refine C_132 hX (dp1 hd (by decide)) hG hpz21 hpzz21 hqz21 hqzz21 hpqz21 jNI jPI jQI (n := v11) (w := v15) (k := v19) (p := pz21) (pz := pzz21) (q := qz21) (qz := qzz21) (fun r22 M28 hG24 F23 p_25 p_26 p_27 => ?_)
  have n_29 : M28.1.2.1 = M.1.2.1 ∧ M28.1.2.2.1 = M.1.2.2.1 := by rw [F23.1]; exact ⟨rfl, rfl⟩
  refine s_pop2 (pc := 1028) rw_0_1028 (to_an (pc := 1029) rw_0_1029 rfl (to_an (pc := 1030) rw_0_1030 rfl (to_i (pc := 1031) rw_0_1031 rfl (to_c (pc := 1033) rw_0_1033 (x := (1 : Int32)) rfl rfl (s_addk (pc := 1034) rw_0_1034 (A := i.toInt) (B := 1) rfl rfl (by (first | (clear hpz21 hpzz21 hqz21 hqzz21; omega) | (clear hpz21 hpzz21 hqz21; omega) | omega)) (v := v9) e10 (s_x0k (pc := 1035) rw_0_1035 hL (A := v9.toInt) rfl (by (first | (clear hpz21 hpzz21 hqz21 hqzz21; omega) | (clear hpz21 hpzz21 hqz21; omega) | omega)) (by (first | (clear hpz21 hpzz21 hqz21 hqzz21; omega) | (clear hpz21 hpzz21 hqz21; omega) | omega)) (v := v11) e12 (to_an (pc := 1036) rw_0_1036 rfl (to_i (pc := 1037) rw_0_1037 rfl (to_c (pc := 1039) rw_0_1039 (x := (2 : Int32)) rfl rfl (s_addk (pc := 1040) rw_0_1040 (A := i.toInt) (B := 2) rfl rfl (by (first | (clear hpz21 hpzz21 hqz21 hqzz21; omega) | (clear hpz21 hpzz21 hqz21; omega) | omega)) (v := v13) e14 (s_x0k (pc := 1041) rw_0_1041 hL (A := v13.toInt) rfl (by (first | (clear hpz21 hpzz21 hqz21 hqzz21; omega) | (clear hpz21 hpzz21 hqz21; omega) | omega)) (by (first | (clear hpz21 hpzz21 hqz21 hqzz21; omega) | (clear hpz21 hpzz21 hqz21; omega) | omega)) (v := v15) e16 ?_)))))))))))
  refine to_an (pc := 1042) rw_0_1042 rfl (to_i (pc := 1043) rw_0_1043 rfl (to_c (pc := 1045) rw_0_1045 (x := (3 : Int32)) rfl rfl (s_addk (pc := 1046) rw_0_1046 (A := i.toInt) (B := 3) rfl rfl (by (first | (clear hpz21 hpzz21 hqz21 hqzz21; omega) | (clear hpz21 hpzz21 hqz21; omega) | omega)) (v := v17) e18 (s_x0k (pc := 1047) rw_0_1047 hL (A := v17.toInt) rfl (by (first | (clear hpz21 hpzz21 hqz21 hqzz21; omega) | (clear hpz21 hpzz21 hqz21; omega) | omega)) (by (first | (clear hpz21 hpzz21 hqz21 hqzz21; omega) | (clear hpz21 hpzz21 hqz21; omega) | omega)) (v := v19) e20 (s_v (pc := 1048) rw_0_1048 (dp0 hd (by decide)) (ls0 := [.ref 77, .int v11, .int v15, .int v19, .null, .null, .null, .null]) rfl (Nat.le_of_ble_eq_true rfl) (Nat.le_of_ble_eq_true rfl) rfl (to_rc rfl rfl rfl (g_o hG24 rfl)) rfl ?_)))))
  have j_37 := (NJ_f (tg_658 F23) jNJ)
  refine C_233 hX (dp1 hd (by decide)) hG24 j_37 (n := v11) (w := v15) (k := v19) (fun r38 M41 hG40 F39 => ?_)
  have n_42 : M41.1.2.1 = M28.1.2.1 ∧ M41.1.2.2.1 = M28.1.2.2.1 := by rw [F39.1]; exact ⟨rfl, rfl⟩
  refine s_pop2 (pc := 1051) rw_0_1051 (to_go (pc := 1052) rw_0_1052 ?_)
  have c_44 : M41.2.1 77 7 = (M.2.1 77 7) := (F_n F39 (show ¬ (77 = 77 ∧ 7 = 2 ∨ 94 ≤ 77 ∧ 77 ≤ 98) by decide) (F_n F23 (show ¬ (11 ≤ 77 ∧ 77 ≤ 16 ∨ 77 = 27 ∨ 36 ≤ 77 ∧ 77 ≤ 48) by decide) rfl))
  have t_45 : (M41.2.1 77 7).toInt = (M.2.1 77 7).toInt := congrArg Int32.toInt c_44
  have c_46 : M41.2.1 77 6 = (M.2.1 77 6) := (F_n F39 (show ¬ (77 = 77 ∧ 6 = 2 ∨ 94 ≤ 77 ∧ 77 ≤ 98) by decide) (F_n F23 (show ¬ (11 ≤ 77 ∧ 77 ≤ 16 ∨ 77 = 27 ∨ 36 ≤ 77 ∧ 77 ≤ 48) by decide) rfl))
  have t_47 : (M41.2.1 77 6).toInt = (M.2.1 77 6).toInt := congrArg Int32.toInt c_46
  have c_48 : M41.2.1 1 1 = (M.2.1 1 1) := (F_n F39 (show ¬ (1 = 77 ∧ 1 = 2 ∨ 94 ≤ 1 ∧ 1 ≤ 98) by decide) (F_n F23 (show ¬ (11 ≤ 1 ∧ 1 ≤ 16 ∨ 1 = 27 ∨ 36 ≤ 1 ∧ 1 ≤ 48) by decide) rfl))
  have t_49 : (M41.2.1 1 1).toInt = (M.2.1 1 1).toInt := congrArg Int32.toInt c_48
  have c_50 : M41.2.1 77 1 = (M.2.1 77 1) := (F_n F39 (show ¬ (77 = 77 ∧ 1 = 2 ∨ 94 ≤ 77 ∧ 77 ≤ 98) by decide) (F_n F23 (show ¬ (11 ≤ 77 ∧ 77 ≤ 16 ∨ 77 = 27 ∨ 36 ≤ 77 ∧ 77 ≤ 48) by decide) rfl))
  have t_51 : (M41.2.1 77 1).toInt = (M.2.1 77 1).toInt := congrArg Int32.toInt c_50
  have c_52 : M41.2.1 0 12 = (M.2.1 0 12) := (F_n F39 (show ¬ (0 = 77 ∧ 12 = 2 ∨ 94 ≤ 0 ∧ 0 ≤ 98) by decide) (F_n F23 (show ¬ (11 ≤ 0 ∧ 0 ≤ 16 ∨ 0 = 27 ∨ 36 ≤ 0 ∧ 0 ≤ 48) by decide) rfl))
  have t_53 : (M41.2.1 0 12).toInt = (M.2.1 0 12).toInt := congrArg Int32.toInt c_52
  have c_54 : M41.2.1 77 28 = (M.2.1 77 28) := (F_n F39 (show ¬ (77 = 77 ∧ 28 = 2 ∨ 94 ≤ 77 ∧ 77 ≤ 98) by decide) (F_n F23 (show ¬ (11 ≤ 77 ∧ 77 ≤ 16 ∨ 77 = 27 ∨ 36 ≤ 77 ∧ 77 ≤ 48) by decide) rfl))
  have t_55 : (M41.2.1 77 28).toInt = (M.2.1 77 28).toInt := congrArg Int32.toInt c_54
  have c_56 : M41.2.1 17 4 = (M.2.1 17 4) := (F_n F39 (show ¬ (17 = 77 ∧ 4 = 2 ∨ 94 ≤ 17 ∧ 17 ≤ 98) by decide) (F_n F23 (show ¬ (11 ≤ 17 ∧ 17 ≤ 16 ∨ 17 = 27 ∨ 36 ≤ 17 ∧ 17 ≤ 48) by decide) rfl))
  have t_57 : (M41.2.1 17 4).toInt = (M.2.1 17 4).toInt := congrArg Int32.toInt c_56
  have c_58 : M41.2.1 77 41 = (M.2.1 77 41) := (F_n F39 (show ¬ (77 = 77 ∧ 41 = 2 ∨ 94 ≤ 77 ∧ 77 ≤ 98) by decide) (F_n F23 (show ¬ (11 ≤ 77 ∧ 77 ≤ 16 ∨ 77 = 27 ∨ 36 ≤ 77 ∧ 77 ≤ 48) by decide) rfl))
  have t_59 : (M41.2.1 77 41).toInt = (M.2.1 77 41).toInt := congrArg Int32.toInt c_58
  have c_60 : M41.2.1 6 0 = (M.2.1 6 0) := (F_n F39 (show ¬ (6 = 77 ∧ 0 = 2 ∨ 94 ≤ 6 ∧ 6 ≤ 98) by decide) (F_n F23 (show ¬ (11 ≤ 6 ∧ 6 ≤ 16 ∨ 6 = 27 ∨ 36 ≤ 6 ∧ 6 ≤ 48) by decide) rfl))
  have t_61 : (M41.2.1 6 0).toInt = (M.2.1 6 0).toInt := congrArg Int32.toInt c_60
  have c_62 : M41.2.1 77 29 = (M.2.1 77 29) := (F_n F39 (show ¬ (77 = 77 ∧ 29 = 2 ∨ 94 ≤ 77 ∧ 77 ≤ 98) by decide) (F_n F23 (show ¬ (11 ≤ 77 ∧ 77 ≤ 16 ∨ 77 = 27 ∨ 36 ≤ 77 ∧ 77 ≤ 48) by decide) rfl))
  have t_63 : (M41.2.1 77 29).toInt = (M.2.1 77 29).toInt := congrArg Int32.toInt c_62
  have j_64 := (PI_f (tg_567 F39) p_25)
  have j_65 := (NI_f (tg_568 F39) p_26)
  have j_66 := (QI_f (tg_569 F39) p_27)
  have j_67 := (PQE_r F39.2.1 (PQE_r F23.2.1 jPQE))
  have j_68 := (FA_f (tg_570 F39) (FA_f (tg_650 F23) jFA))
  have j_69 := (WC_f (tg_571 F39) (WC_f (tg_657 F23) jWC))
  have j_70 := (NJ_f (tg_573 F39) j_37)
  have j_71 := (PS_f (tg_575 F39) (PS_f (tg_659 F23) jPS))
  have j_72 := (KQ_f (tg_577 F39) (KQ_f (tg_660 F23) jKQ))
  have j_73 := (TP_f (tg_579 F39) (TP_f (tg_661 F23) jTP))
  have j_74 := (W9_f (tg_581 F39) (W9_f (tg_662 F23) jW9))
  have j_75 := (AN_F F39 tg_628 (AN_F F23 tg_748 jAN))
  have j_76 := (G8_F F39 (fun a i z => show ¬ (a = 77 ∧ i = 2 ∨ 94 ≤ a ∧ a ≤ 98) by (first | (clear hpz21 hpzz21 hqz21 hqzz21; omega) | (clear hpz21 hpzz21 hqz21; omega) | omega)) (G8_F F23 (fun a i z => show ¬ (11 ≤ a ∧ a ≤ 16 ∨ a = 27 ∨ 36 ≤ a ∧ a ≤ 48) by (first | (clear hpz21 hpzz21 hqz21 hqzz21; omega) | (clear hpz21 hpzz21 hqz21; omega) | omega)) jG8))
  have j_77 := (PKA_F F39 (fun a i z => show ¬ (a = 77 ∧ i = 2 ∨ 94 ≤ a ∧ a ≤ 98) by (first | (clear hpz21 hpzz21 hqz21 hqzz21; omega) | (clear hpz21 hpzz21 hqz21; omega) | omega)) (PKA_F F23 (fun a i z => show ¬ (11 ≤ a ∧ a ≤ 16 ∨ a = 27 ∨ 36 ≤ a ∧ a ≤ 48) by (first | (clear hpz21 hpzz21 hqz21 hqzz21; omega) | (clear hpz21 hpzz21 hqz21; omega) | omega)) jPKA))
  have j_78 := (NE_r F39.2.1 (NE_r F23.2.1 jNE))
  have j_79 := (W8_f (tg_583 F39) (W8_f (tg_652 F23) jW8))
  exact h M41 (u5) (u6) ⟨⟨⟨⟨⟨⟨⟨⟨⟨hG40, ⟨j_64, j_65, j_66, j_67⟩, ⟨j_68, j_69, j_70, j_71, j_72⟩, by (first | (clear hpz21 hpzz21 hqz21 hqzz21; omega) | (clear hpz21 hpzz21 hqz21; omega) | omega), by (first | (clear hpz21 hpzz21 hqz21 hqzz21; omega) | (clear hpz21 hpzz21 hqz21; omega) | omega)⟩, j_73, j_74⟩, j_78, by (first | (clear hpz21 hpzz21 hqz21 hqzz21; omega) | (clear hpz21 hpzz21 hqz21; omega) | omega)⟩, AN_a j_75⟩, by (first | (clear hpz21 hpzz21 hqz21 hqzz21; omega) | (clear hpz21 hpzz21 hqz21; omega) | omega)⟩, j_79⟩, by (first | (clear hpz21 hpzz21 hqz21 hqzz21; omega) | (clear hpz21 hpzz21 hqz21; omega) | omega)⟩, j_75⟩, j_76, j_77⟩ (by (first | (clear hpz21 hpzz21 hqz21 hqzz21; omega) | (clear hpz21 hpzz21 hqz21; omega) | omega)) (by (first | (clear hpz21 hpzz21 hqz21 hqzz21; omega) | (clear hpz21 hpzz21 hqz21; omega) | omega))
