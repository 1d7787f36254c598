set_option maxRecDepth 4000 in
set_option maxHeartbeats 0 in
theorem LW_29 {X : mm_X} {d L : Nat} {M : mm_M} {Q : Option Value → mm_M → Prop} {i : Int32} {u5 u6 : Value} (hX : g_X X) (hW : g_W X) (hW2 : g_W2 X) (hL : (X 0).1 = L) (h3 : L ≤ 3072) (hd : 40 ≤ d) (hi : 0 ≤ i.toInt) (hi2 : i.toInt + 6 ≤ (L : Int)) (H : LI10 M) (h : ∀ (M1 : mm_M) (v5 v6 : Value), LI10 M1 → M1.1.2.1 ≤ M.1.2.1 + 1 → M1.1.2.2.1 ≤ M.1.2.2.1 + 6 → mm_T X d 0 1313 [.ref mm_ext, .ref 0, .ref 77, .ref 125, .int i, v5, v6] [] M1 Q) : mm_T X d 0 1288 [.ref mm_ext, .ref 0, .ref 77, .ref 125, .int i, u5, u6] [] M Q := by
  obtain ⟨⟨⟨⟨⟨⟨⟨⟨⟨hG, ⟨jPI, jNI, jQI, jPQE⟩, ⟨jFA, jWC, jNJ, jPS, jKQ⟩, jJ, jE⟩, jTP, jW9⟩, jNE, jCC⟩, -⟩, jOV⟩, jW8⟩, jNN⟩, jAN⟩, jG8, jPKA⟩ := H
  have b_1 := g_b hG (a := 77) (i := 7) (lo := 0) (hi := 500) rfl rfl
  have b_2 := g_b hG (a := 77) (i := 6) (lo := 0) (hi := 500) rfl rfl
  have b_3 := g_b hG (a := 1) (i := 1) (lo := 0) (hi := 500) rfl rfl
  have b_4 := g_b hG (a := 77) (i := 1) (lo := 0) (hi := 500) rfl rfl
  have b_5 := g_b hG (a := 0) (i := 12) (lo := 0) (hi := 30) rfl rfl
  have b_6 := g_b hG (a := 77) (i := 28) (lo := 0) (hi := 30) rfl rfl
  have b_7 := g_b hG (a := 6) (i := 0) (lo := 0) (hi := 150) rfl rfl
  have b_8 := g_b hG (a := 77) (i := 29) (lo := 0) (hi := 150) rfl rfl
  refine to_an (pc := 1288) rw_0_1288 rfl (to_an (pc := 1289) rw_0_1289 rfl (to_i (pc := 1290) rw_0_1290 rfl (to_c (pc := 1292) rw_0_1292 (x := (1 : Int32)) rfl rfl (s_add (pc := 1293) rw_0_1293 (A := i.toInt) (B := 1) rfl rfl (by omega) (fun v9 e10 => s_x0 (pc := 1294) rw_0_1294 hL (A := v9.toInt) rfl (by omega) (by omega) (fun v11 e12 => s_v (pc := 1295) rw_0_1295 (dp0 hd (by decide)) (ls0 := [.ref 0, .int v11]) rfl (Nat.le_of_ble_eq_true rfl) (Nat.le_of_ble_eq_true rfl) rfl (to_rc rfl rfl rfl (g_o hG rfl)) rfl ?_))))))
  obtain ⟨pz13, pzz13, qz13, qzz13, hpz13, hpzz13, hqz13, hqzz13, hpqz13⟩ := id jPQE
  refine C_138 hX (dp1 hd (by decide)) hG hpz13 hpzz13 hqz13 hqzz13 hpqz13 (w := v11) (p := pz13) (pz := pzz13) (q := qz13) (qz := qzz13) (fun r14 M17 hG16 F15 => ?_)
  have n_18 : M17.1.2.1 = M.1.2.1 ∧ M17.1.2.2.1 = M.1.2.2.1 := by rw [F15.1]; exact ⟨rfl, rfl⟩
  refine to_popi (pc := 1298) rw_0_1298 (to_an (pc := 1299) rw_0_1299 rfl (to_an (pc := 1300) rw_0_1300 rfl (to_i (pc := 1301) rw_0_1301 rfl (to_c (pc := 1303) rw_0_1303 (x := (1 : Int32)) rfl rfl (s_addk (pc := 1304) rw_0_1304 (A := i.toInt) (B := 1) rfl rfl (by (first | (clear hpz13 hpzz13 hqz13 hqzz13; omega) | (clear hpz13 hpzz13 hqz13; omega) | omega)) (v := v9) e10 (s_x0k (pc := 1305) rw_0_1305 hL (A := v9.toInt) rfl (by (first | (clear hpz13 hpzz13 hqz13 hqzz13; omega) | (clear hpz13 hpzz13 hqz13; omega) | omega)) (by (first | (clear hpz13 hpzz13 hqz13 hqzz13; omega) | (clear hpz13 hpzz13 hqz13; omega) | omega)) (v := v11) e12 (s_v (pc := 1306) rw_0_1306 (dp0 hd (by decide)) (ls0 := [.ref 77, .int v11]) rfl (Nat.le_of_ble_eq_true rfl) (Nat.le_of_ble_eq_true rfl) rfl (to_rc rfl rfl rfl (g_o hG16 rfl)) rfl (C_246 hX (dp1 hd (by decide)) hG16 (w := v11) (fun r22 M25 hG24 F23 => ?_)))))))))
  have n_26 : M25.1.2.1 = M17.1.2.1 ∧ M25.1.2.2.1 = M17.1.2.2.1 := by rw [F23.1]; exact ⟨rfl, rfl⟩
  refine to_popi (pc := 1309) rw_0_1309 (to_go (pc := 1310) rw_0_1310 ?_)
  have c_28 : M25.2.1 77 7 = (M.2.1 77 7) := (F_n F23 (show ¬ (77 = 77 ∧ 7 = 2) by decide) (F_n F15 (show ¬ (77 < 0) by decide) rfl))
  have t_29 : (M25.2.1 77 7).toInt = (M.2.1 77 7).toInt := congrArg Int32.toInt c_28
  have c_30 : M25.2.1 77 6 = (M.2.1 77 6) := (F_n F23 (show ¬ (77 = 77 ∧ 6 = 2) by decide) (F_n F15 (show ¬ (77 < 0) by decide) rfl))
  have t_31 : (M25.2.1 77 6).toInt = (M.2.1 77 6).toInt := congrArg Int32.toInt c_30
  have c_32 : M25.2.1 1 1 = (M.2.1 1 1) := (F_n F23 (show ¬ (1 = 77 ∧ 1 = 2) by decide) (F_n F15 (show ¬ (1 < 0) by decide) rfl))
  have t_33 : (M25.2.1 1 1).toInt = (M.2.1 1 1).toInt := congrArg Int32.toInt c_32
  have c_34 : M25.2.1 77 1 = (M.2.1 77 1) := (F_n F23 (show ¬ (77 = 77 ∧ 1 = 2) by decide) (F_n F15 (show ¬ (77 < 0) by decide) rfl))
  have t_35 : (M25.2.1 77 1).toInt = (M.2.1 77 1).toInt := congrArg Int32.toInt c_34
  have c_36 : M25.2.1 0 12 = (M.2.1 0 12) := (F_n F23 (show ¬ (0 = 77 ∧ 12 = 2) by decide) (F_n F15 (show ¬ (0 < 0) by decide) rfl))
  have t_37 : (M25.2.1 0 12).toInt = (M.2.1 0 12).toInt := congrArg Int32.toInt c_36
  have c_38 : M25.2.1 77 28 = (M.2.1 77 28) := (F_n F23 (show ¬ (77 = 77 ∧ 28 = 2) by decide) (F_n F15 (show ¬ (77 < 0) by decide) rfl))
  have t_39 : (M25.2.1 77 28).toInt = (M.2.1 77 28).toInt := congrArg Int32.toInt c_38
  have c_40 : M25.2.1 17 4 = (M.2.1 17 4) := (F_n F23 (show ¬ (17 = 77 ∧ 4 = 2) by decide) (F_n F15 (show ¬ (17 < 0) by decide) rfl))
  have t_41 : (M25.2.1 17 4).toInt = (M.2.1 17 4).toInt := congrArg Int32.toInt c_40
  have c_42 : M25.2.1 77 41 = (M.2.1 77 41) := (F_n F23 (show ¬ (77 = 77 ∧ 41 = 2) by decide) (F_n F15 (show ¬ (77 < 0) by decide) rfl))
  have t_43 : (M25.2.1 77 41).toInt = (M.2.1 77 41).toInt := congrArg Int32.toInt c_42
  have c_44 : M25.2.1 6 0 = (M.2.1 6 0) := (F_n F23 (show ¬ (6 = 77 ∧ 0 = 2) by decide) (F_n F15 (show ¬ (6 < 0) by decide) rfl))
  have t_45 : (M25.2.1 6 0).toInt = (M.2.1 6 0).toInt := congrArg Int32.toInt c_44
  have c_46 : M25.2.1 77 29 = (M.2.1 77 29) := (F_n F23 (show ¬ (77 = 77 ∧ 29 = 2) by decide) (F_n F15 (show ¬ (77 < 0) by decide) rfl))
  have t_47 : (M25.2.1 77 29).toInt = (M.2.1 77 29).toInt := congrArg Int32.toInt c_46
  have j_48 := (PI_f (tg_548 F23) (PI_f (tg_99 F15) jPI))
  have j_49 := (NI_f (tg_549 F23) (NI_f (tg_98 F15) jNI))
  have j_50 := (QI_f (tg_550 F23) (QI_f (tg_100 F15) jQI))
  have j_51 := (PQE_r F23.2.1 (PQE_r F15.2.1 jPQE))
  have j_52 := (FA_f (tg_551 F23) (FA_f (tg_347 F15) jFA))
  have j_53 := (WC_f (tg_552 F23) (WC_f (tg_553 F15) jWC))
  have j_54 := (NJ_f (tg_554 F23) (NJ_f (tg_102 F15) jNJ))
  have j_55 := (PS_f (tg_555 F23) (PS_f (tg_556 F15) jPS))
  have j_56 := (KQ_f (tg_557 F23) (KQ_f (tg_452 F15) jKQ))
  have j_57 := (TP_f (tg_558 F23) (TP_f (tg_559 F15) jTP))
  have j_58 := (W9_f (tg_560 F23) (W9_f (tg_46 F15) jW9))
  have j_59 := (AN_F F23 tg_626 (AN_F F15 tg_627 jAN))
  have j_60 := (G8_F F23 (fun a i z => show ¬ (a = 77 ∧ i = 2) by (first | (clear hpz13 hpzz13 hqz13 hqzz13; omega) | (clear hpz13 hpzz13 hqz13; omega) | omega)) (G8_F F15 (fun a i z => show ¬ (a < 0) by (first | (clear hpz13 hpzz13 hqz13 hqzz13; omega) | (clear hpz13 hpzz13 hqz13; omega) | omega)) jG8))
  have j_61 := (PKA_F F23 (fun a i z => show ¬ (a = 77 ∧ i = 2) by (first | (clear hpz13 hpzz13 hqz13 hqzz13; omega) | (clear hpz13 hpzz13 hqz13; omega) | omega)) (PKA_F F15 (fun a i z => show ¬ (a < 0) by (first | (clear hpz13 hpzz13 hqz13 hqzz13; omega) | (clear hpz13 hpzz13 hqz13; omega) | omega)) jPKA))
  have j_62 := (NE_r F23.2.1 (NE_r F15.2.1 jNE))
  have j_63 := (W8_f (tg_561 F23) (W8_f (tg_562 F15) jW8))
  exact h M25 (u5) (u6) ⟨⟨⟨⟨⟨⟨⟨⟨⟨hG24, ⟨j_48, j_49, j_50, j_51⟩, ⟨j_52, j_53, j_54, j_55, j_56⟩, by (first | (clear hpz13 hpzz13 hqz13 hqzz13; omega) | (clear hpz13 hpzz13 hqz13; omega) | omega), by (first | (clear hpz13 hpzz13 hqz13 hqzz13; omega) | (clear hpz13 hpzz13 hqz13; omega) | omega)⟩, j_57, j_58⟩, j_62, by (first | (clear hpz13 hpzz13 hqz13 hqzz13; omega) | (clear hpz13 hpzz13 hqz13; omega) | omega)⟩, AN_a j_59⟩, by (first | (clear hpz13 hpzz13 hqz13 hqzz13; omega) | (clear hpz13 hpzz13 hqz13; omega) | omega)⟩, j_63⟩, by (first | (clear hpz13 hpzz13 hqz13 hqzz13; omega) | (clear hpz13 hpzz13 hqz13; omega) | omega)⟩, j_59⟩, j_60, j_61⟩ (by (first | (clear hpz13 hpzz13 hqz13 hqzz13; omega) | (clear hpz13 hpzz13 hqz13; omega) | omega)) (by (first | (clear hpz13 hpzz13 hqz13 hqzz13; omega) | (clear hpz13 hpzz13 hqz13; omega) | omega))
