set_option maxRecDepth 4000 in
set_option maxHeartbeats 0 in
theorem LW_3 {X : mm_X} {d L : Nat} {M : mm_M} {Q : Option Value → mm_M → Prop} {i : Int32} {u5 u6 : Value} (hX : g_X X) (hW : g_W X) (hW2 : g_W2 X) (hL : (X 0).1 = L) (h3 : L ≤ 3072) (hd : 40 ≤ d) (hi : 0 ≤ i.toInt) (hi2 : i.toInt + 6 ≤ (L : Int)) (H : LI10 M) (h : ∀ (M1 : mm_M) (v5 v6 : Value), LI10 M1 → M1.1.2.1 ≤ M.1.2.1 + 1 → M1.1.2.2.1 ≤ M.1.2.2.1 + 6 → mm_T X d 0 1313 [.ref mm_ext, .ref 0, .ref 77, .ref 125, .int i, v5, v6] [] M1 Q) : mm_T X d 0 299 [.ref mm_ext, .ref 0, .ref 77, .ref 125, .int i, u5, u6] [] M Q := by
  obtain ⟨⟨⟨⟨⟨⟨⟨⟨⟨hG, ⟨jPI, jNI, jQI, jPQE⟩, ⟨jFA, jWC, jNJ, jPS, jKQ⟩, jJ, jE⟩, jTP, jW9⟩, jNE, jCC⟩, -⟩, jOV⟩, jW8⟩, jNN⟩, jAN⟩, jG8, jPKA⟩ := H
  have b_1 := g_b hG (a := 77) (i := 7) (lo := 0) (hi := 500) rfl rfl
  have b_2 := g_b hG (a := 77) (i := 6) (lo := 0) (hi := 500) rfl rfl
  have b_3 := g_b hG (a := 1) (i := 1) (lo := 0) (hi := 500) rfl rfl
  have b_4 := g_b hG (a := 77) (i := 1) (lo := 0) (hi := 500) rfl rfl
  have b_5 := g_b hG (a := 0) (i := 12) (lo := 0) (hi := 30) rfl rfl
  have b_6 := g_b hG (a := 77) (i := 28) (lo := 0) (hi := 30) rfl rfl
  have b_7 := g_b hG (a := 6) (i := 0) (lo := 0) (hi := 150) rfl rfl
  have b_8 := g_b hG (a := 77) (i := 29) (lo := 0) (hi := 150) rfl rfl
  refine to_an (pc := 299) rw_0_299 rfl (to_an (pc := 300) rw_0_300 rfl (to_i (pc := 301) rw_0_301 rfl (to_c (pc := 303) rw_0_303 (x := (1 : Int32)) rfl rfl (s_add (pc := 304) rw_0_304 (A := i.toInt) (B := 1) rfl rfl (by omega) (fun v9 e10 => s_x0 (pc := 305) rw_0_305 hL (A := v9.toInt) rfl (by omega) (by omega) (fun v11 e12 => s_v (pc := 306) rw_0_306 (dp0 hd (by decide)) (ls0 := [.ref 0, .int v11, .null]) rfl (Nat.le_of_ble_eq_true rfl) (Nat.le_of_ble_eq_true rfl) rfl (to_rc rfl rfl rfl (g_o hG rfl)) rfl ?_))))))
  obtain ⟨pz13, pzz13, qz13, qzz13, hpz13, hpzz13, hqz13, hqzz13, hpqz13⟩ := id jPQE
  refine C_113 hX (dp1 hd (by decide)) hG hpz13 hpzz13 hqz13 hqzz13 hpqz13 jQI jPI jNI (n := v11) (p := pz13) (pz := pzz13) (q := qz13) (qz := qzz13) (fun r14 M23 hG16 F15 p_17 p_18 p_19 p_20 p_21 p_22 => ?_)
  have n_24 : M23.1.2.1 = M.1.2.1 ∧ M23.1.2.2.1 = M.1.2.2.1 := by rw [F15.1]; exact ⟨rfl, rfl⟩
  have b_26 := g_b hG16 (a := 1) (i := 1) (lo := 0) (hi := 500) rfl rfl
  have z_27 := G8_X F15 (fun a i z => show ¬ (a = 1 ∨ 3 ≤ a ∧ a ≤ 5 ∨ 67 ≤ a ∧ a ≤ 76) by (first | (clear hpz13 hpzz13 hqz13 hqzz13 p_17 p_18; omega) | (clear hpz13 hpzz13 hqz13 hqzz13; omega) | (clear hpz13 hpzz13 hqz13 p_17 p_18; omega) | omega)) (QQ_8 hpqz13 p_20) jG8
  have z_28 := PKA_X F15 (fun a i z => show ¬ (a = 1 ∨ 3 ≤ a ∧ a ≤ 5 ∨ 67 ≤ a ∧ a ≤ 76) by (first | (clear hpz13 hpzz13 hqz13 hqzz13 p_17 p_18; omega) | (clear hpz13 hpzz13 hqz13 hqzz13; omega) | (clear hpz13 hpzz13 hqz13 p_17 p_18; omega) | omega)) jPKA
  have z_29 := TP_s jTP (by (first | (clear hpz13 hpzz13 hqz13 hqzz13 p_17 p_18; omega) | (clear hpz13 hpzz13 hqz13 hqzz13; omega) | (clear hpz13 hpzz13 hqz13 p_17 p_18; omega) | omega)) (fun a i z => (Fx_n F15 (show ¬ (a = 1 ∨ 3 ≤ a ∧ a ≤ 5 ∨ 67 ≤ a ∧ a ≤ 76) by (first | (clear hpz13 hpzz13 hqz13 hqzz13 p_17 p_18; omega) | (clear hpz13 hpzz13 hqz13 hqzz13; omega) | (clear hpz13 hpzz13 hqz13 p_17 p_18; omega) | omega)) rfl))
  have z_30 := AN_X F15 (fun a i z => show ¬ (a = 1 ∨ 3 ≤ a ∧ a ≤ 5 ∨ 67 ≤ a ∧ a ≤ 76) by (first | (clear hpz13 hpzz13 hqz13 hqzz13 p_17 p_18; omega) | (clear hpz13 hpzz13 hqz13 hqzz13; omega) | (clear hpz13 hpzz13 hqz13 p_17 p_18; omega) | omega)) (QQ_8 hpqz13 p_20) jAN
  refine to_popi (pc := 309) rw_0_309 (to_an (pc := 310) rw_0_310 rfl (to_an (pc := 311) rw_0_311 rfl (to_i (pc := 312) rw_0_312 rfl (to_c (pc := 314) rw_0_314 (x := (1 : Int32)) rfl rfl (s_addk (pc := 315) rw_0_315 (A := i.toInt) (B := 1) rfl rfl (by (first | (clear hpz13 hpzz13 hqz13 hqzz13 p_17 p_18; omega) | (clear hpz13 hpzz13 hqz13 hqzz13; omega) | (clear hpz13 hpzz13 hqz13 p_17 p_18; omega) | omega)) (v := v9) e10 (s_x0k (pc := 316) rw_0_316 hL (A := v9.toInt) rfl (by (first | (clear hpz13 hpzz13 hqz13 hqzz13 p_17 p_18; omega) | (clear hpz13 hpzz13 hqz13 hqzz13; omega) | (clear hpz13 hpzz13 hqz13 p_17 p_18; omega) | omega)) (by (first | (clear hpz13 hpzz13 hqz13 hqzz13 p_17 p_18; omega) | (clear hpz13 hpzz13 hqz13 hqzz13; omega) | (clear hpz13 hpzz13 hqz13 p_17 p_18; omega) | omega)) (v := v11) e12 (s_v (pc := 317) rw_0_317 (dp0 hd (by decide)) (ls0 := [.ref 77, .int v11, .null]) rfl (Nat.le_of_ble_eq_true rfl) (Nat.le_of_ble_eq_true rfl) rfl (to_rc rfl rfl rfl (g_o hG16 rfl)) rfl ?_)))))))
  have c_33 : M23.2.1 77 1 = (M.2.1 77 1) := (Fx_n F15 (show ¬ (77 = 1 ∨ 3 ≤ 77 ∧ 77 ≤ 5 ∨ 67 ≤ 77 ∧ 77 ≤ 76) by decide) rfl)
  have t_34 : (M23.2.1 77 1).toInt = (M.2.1 77 1).toInt := congrArg Int32.toInt c_33
  have c_35 : M23.2.1 77 7 = (M.2.1 77 7) := (Fx_n F15 (show ¬ (77 = 1 ∨ 3 ≤ 77 ∧ 77 ≤ 5 ∨ 67 ≤ 77 ∧ 77 ≤ 76) by decide) rfl)
  have t_36 : (M23.2.1 77 7).toInt = (M.2.1 77 7).toInt := congrArg Int32.toInt c_35
  have c_37 : M23.2.1 77 6 = (M.2.1 77 6) := (Fx_n F15 (show ¬ (77 = 1 ∨ 3 ≤ 77 ∧ 77 ≤ 5 ∨ 67 ≤ 77 ∧ 77 ≤ 76) by decide) rfl)
  have t_38 : (M23.2.1 77 6).toInt = (M.2.1 77 6).toInt := congrArg Int32.toInt c_37
  have j_39 := (FA_f (tg_535 F15) jFA)
  have j_40 := (WC_f (tg_536 F15) jWC)
  have j_41 := (NJ_f (tg_537 F15) jNJ)
  have j_42 := (PS_f (tg_538 F15) jPS)
  have j_43 := (KQ_f (tg_539 F15) jKQ)
  refine C_227 hX (dp1 hd (by decide)) hG16 (by (first | (clear hpz13 hpzz13 hqz13 hqzz13 p_17 p_18; omega) | (clear hpz13 hpzz13 hqz13 hqzz13; omega) | (clear hpz13 hpzz13 hqz13 p_17 p_18; omega) | omega)) j_39 j_40 j_41 j_42 j_43 (n := v11) (fun r44 M55 hG46 F45 p_47 p_48 p_49 p_50 p_51 p_52 p_53 p_54 => ?_)
  have n_56 : M55.1.2.1 = M23.1.2.1 ∧ M55.1.2.2.1 = M23.1.2.2.1 := by rw [F45.1]; exact ⟨rfl, rfl⟩
  have b_58 := g_b hG46 (a := 77) (i := 7) (lo := 0) (hi := 500) rfl rfl
  have b_59 := g_b hG46 (a := 77) (i := 6) (lo := 0) (hi := 500) rfl rfl
  have b_60 := g_b hG46 (a := 77) (i := 1) (lo := 0) (hi := 500) rfl rfl
  refine to_popi (pc := 320) rw_0_320 (to_go (pc := 321) rw_0_321 ?_)
  have c_61 : M55.2.1 1 1 = (M23.2.1 1 1) := (F_n F45 (show ¬ (1 = 77 ∧ (1 ≤ 1 ∧ 1 ≤ 2 ∨ 4 ≤ 1 ∧ 1 ≤ 10 ∨ 57 ≤ 1 ∧ 1 ≤ 59 ∨ 65 ≤ 1 ∧ 1 ≤ 69) ∨ 112 ≤ 1 ∧ 1 ≤ 116) by decide) rfl)
  have t_62 : (M55.2.1 1 1).toInt = (M23.2.1 1 1).toInt := congrArg Int32.toInt c_61
  have c_63 : M55.2.1 0 12 = (M.2.1 0 12) := (F_n F45 (show ¬ (0 = 77 ∧ (1 ≤ 12 ∧ 12 ≤ 2 ∨ 4 ≤ 12 ∧ 12 ≤ 10 ∨ 57 ≤ 12 ∧ 12 ≤ 59 ∨ 65 ≤ 12 ∧ 12 ≤ 69) ∨ 112 ≤ 0 ∧ 0 ≤ 116) by decide) (Fx_n F15 (show ¬ (0 = 1 ∨ 3 ≤ 0 ∧ 0 ≤ 5 ∨ 67 ≤ 0 ∧ 0 ≤ 76) by decide) rfl))
  have t_64 : (M55.2.1 0 12).toInt = (M.2.1 0 12).toInt := congrArg Int32.toInt c_63
  have c_65 : M55.2.1 77 28 = (M.2.1 77 28) := (F_n F45 (show ¬ (77 = 77 ∧ (1 ≤ 28 ∧ 28 ≤ 2 ∨ 4 ≤ 28 ∧ 28 ≤ 10 ∨ 57 ≤ 28 ∧ 28 ≤ 59 ∨ 65 ≤ 28 ∧ 28 ≤ 69) ∨ 112 ≤ 77 ∧ 77 ≤ 116) by decide) (Fx_n F15 (show ¬ (77 = 1 ∨ 3 ≤ 77 ∧ 77 ≤ 5 ∨ 67 ≤ 77 ∧ 77 ≤ 76) by decide) rfl))
  have t_66 : (M55.2.1 77 28).toInt = (M.2.1 77 28).toInt := congrArg Int32.toInt c_65
  have c_67 : M55.2.1 17 4 = (M.2.1 17 4) := (F_n F45 (show ¬ (17 = 77 ∧ (1 ≤ 4 ∧ 4 ≤ 2 ∨ 4 ≤ 4 ∧ 4 ≤ 10 ∨ 57 ≤ 4 ∧ 4 ≤ 59 ∨ 65 ≤ 4 ∧ 4 ≤ 69) ∨ 112 ≤ 17 ∧ 17 ≤ 116) by decide) (Fx_n F15 (show ¬ (17 = 1 ∨ 3 ≤ 17 ∧ 17 ≤ 5 ∨ 67 ≤ 17 ∧ 17 ≤ 76) by decide) rfl))
  have t_68 : (M55.2.1 17 4).toInt = (M.2.1 17 4).toInt := congrArg Int32.toInt c_67
  have c_69 : M55.2.1 77 41 = (M.2.1 77 41) := (F_n F45 (show ¬ (77 = 77 ∧ (1 ≤ 41 ∧ 41 ≤ 2 ∨ 4 ≤ 41 ∧ 41 ≤ 10 ∨ 57 ≤ 41 ∧ 41 ≤ 59 ∨ 65 ≤ 41 ∧ 41 ≤ 69) ∨ 112 ≤ 77 ∧ 77 ≤ 116) by decide) (Fx_n F15 (show ¬ (77 = 1 ∨ 3 ≤ 77 ∧ 77 ≤ 5 ∨ 67 ≤ 77 ∧ 77 ≤ 76) by decide) rfl))
  have t_70 : (M55.2.1 77 41).toInt = (M.2.1 77 41).toInt := congrArg Int32.toInt c_69
  have c_71 : M55.2.1 6 0 = (M.2.1 6 0) := (F_n F45 (show ¬ (6 = 77 ∧ (1 ≤ 0 ∧ 0 ≤ 2 ∨ 4 ≤ 0 ∧ 0 ≤ 10 ∨ 57 ≤ 0 ∧ 0 ≤ 59 ∨ 65 ≤ 0 ∧ 0 ≤ 69) ∨ 112 ≤ 6 ∧ 6 ≤ 116) by decide) (Fx_n F15 (show ¬ (6 = 1 ∨ 3 ≤ 6 ∧ 6 ≤ 5 ∨ 67 ≤ 6 ∧ 6 ≤ 76) by decide) rfl))
  have t_72 : (M55.2.1 6 0).toInt = (M.2.1 6 0).toInt := congrArg Int32.toInt c_71
  have c_73 : M55.2.1 77 29 = (M.2.1 77 29) := (F_n F45 (show ¬ (77 = 77 ∧ (1 ≤ 29 ∧ 29 ≤ 2 ∨ 4 ≤ 29 ∧ 29 ≤ 10 ∨ 57 ≤ 29 ∧ 29 ≤ 59 ∨ 65 ≤ 29 ∧ 29 ≤ 69) ∨ 112 ≤ 77 ∧ 77 ≤ 116) by decide) (Fx_n F15 (show ¬ (77 = 1 ∨ 3 ≤ 77 ∧ 77 ≤ 5 ∨ 67 ≤ 77 ∧ 77 ≤ 76) by decide) rfl))
  have t_74 : (M55.2.1 77 29).toInt = (M.2.1 77 29).toInt := congrArg Int32.toInt c_73
  have j_75 := (PI_f (tg_540 F45) p_21)
  have j_76 := (NI_f (tg_541 F45) p_22)
  have j_77 := (QI_f (tg_542 F45) p_19)
  have j_78 := (PQE_r F45.2.1 (PQE_qq hpz13 hpzz13 hqz13 hqzz13 p_20))
  have j_79 := (TP_f (tg_543 F45) z_29)
  have j_80 := (W9_f (tg_544 F45) (W9_f (tg_545 F15) jW9))
  have j_81 := (AN_F F45 tg_625 z_30)
  have j_82 := (G8_F F45 (fun a i z => show ¬ (a = 77 ∧ (1 ≤ i ∧ i ≤ 2 ∨ 4 ≤ i ∧ i ≤ 10 ∨ 57 ≤ i ∧ i ≤ 59 ∨ 65 ≤ i ∧ i ≤ 69) ∨ 112 ≤ a ∧ a ≤ 116) by (first | (clear hpz13 hpzz13 hqz13 hqzz13 p_17 p_18 p_53 p_54; omega) | (clear hpz13 hpzz13 hqz13 hqzz13; omega) | (clear hpz13 hpzz13 hqz13 p_17 p_18 p_53 p_54; omega) | omega)) z_27)
  have j_83 := (PKA_F F45 (fun a i z => show ¬ (a = 77 ∧ (1 ≤ i ∧ i ≤ 2 ∨ 4 ≤ i ∧ i ≤ 10 ∨ 57 ≤ i ∧ i ≤ 59 ∨ 65 ≤ i ∧ i ≤ 69) ∨ 112 ≤ a ∧ a ≤ 116) by (first | (clear hpz13 hpzz13 hqz13 hqzz13 p_17 p_18 p_53 p_54; omega) | (clear hpz13 hpzz13 hqz13 hqzz13; omega) | (clear hpz13 hpzz13 hqz13 p_17 p_18 p_53 p_54; omega) | omega)) z_28)
  have j_84 := (NE_r F45.2.1 (NE_q hpqz13 p_20 jNE))
  have j_85 := (W8_f (tg_546 F45) (W8_f (tg_547 F15) jW8))
  exact h M55 (u5) (u6) ⟨⟨⟨⟨⟨⟨⟨⟨⟨hG46, ⟨j_75, j_76, j_77, j_78⟩, ⟨p_48, p_49, p_50, p_51, p_52⟩, by (first | (clear hpz13 hpzz13 hqz13 hqzz13 p_17 p_18 p_53 p_54; omega) | (clear hpz13 hpzz13 hqz13 hqzz13; omega) | (clear hpz13 hpzz13 hqz13 p_17 p_18 p_53 p_54; omega) | omega), by (first | (clear hpz13 hpzz13 hqz13 hqzz13 p_17 p_18 p_53 p_54; omega) | (clear hpz13 hpzz13 hqz13 hqzz13; omega) | (clear hpz13 hpzz13 hqz13 p_17 p_18 p_53 p_54; omega) | omega)⟩, j_79, j_80⟩, j_84, by (first | (clear hpz13 hpzz13 hqz13 hqzz13 p_17 p_18 p_53 p_54; omega) | (clear hpz13 hpzz13 hqz13 hqzz13; omega) | (clear hpz13 hpzz13 hqz13 p_17 p_18 p_53 p_54; omega) | omega)⟩, AN_a j_81⟩, by (first | (clear hpz13 hpzz13 hqz13 hqzz13 p_17 p_18 p_53 p_54; omega) | (clear hpz13 hpzz13 hqz13 hqzz13; omega) | (clear hpz13 hpzz13 hqz13 p_17 p_18 p_53 p_54; omega) | omega)⟩, j_85⟩, by (first | (clear hpz13 hpzz13 hqz13 hqzz13 p_17 p_18 p_53 p_54; omega) | (clear hpz13 hpzz13 hqz13 hqzz13; omega) | (clear hpz13 hpzz13 hqz13 p_17 p_18 p_53 p_54; omega) | omega)⟩, j_81⟩, j_82, j_83⟩ (by (first | (clear hpz13 hpzz13 hqz13 hqzz13 p_17 p_18 p_53 p_54; omega) | (clear hpz13 hpzz13 hqz13 hqzz13; omega) | (clear hpz13 hpzz13 hqz13 p_17 p_18 p_53 p_54; omega) | omega)) (by (first | (clear hpz13 hpzz13 hqz13 hqzz13 p_17 p_18 p_53 p_54; omega) | (clear hpz13 hpzz13 hqz13 hqzz13; omega) | (clear hpz13 hpzz13 hqz13 p_17 p_18 p_53 p_54; omega) | omega))
