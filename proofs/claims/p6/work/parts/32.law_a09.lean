set_option maxRecDepth 4000 in
set_option maxHeartbeats 0 in
theorem LW_9 {X : mm_X} {d L : Nat} {M : mm_M} {Q : Option Value → mm_M → Prop} {i : Int32} {u5 u6 : Value} (hX : g_X X) (hW : g_W X) (hW2 : g_W2 X) (hL : (X 0).1 = L) (h3 : L ≤ 3072) (hd : 40 ≤ d) (hi : 0 ≤ i.toInt) (hi2 : i.toInt + 6 ≤ (L : Int)) (H : LI10 M) (h : ∀ (M1 : mm_M) (v5 v6 : Value), LI10 M1 → M1.1.2.1 ≤ M.1.2.1 + 1 → M1.1.2.2.1 ≤ M.1.2.2.1 + 6 → mm_T X d 0 1313 [.ref mm_ext, .ref 0, .ref 77, .ref 125, .int i, v5, v6] [] M1 Q) : mm_T X d 0 500 [.ref mm_ext, .ref 0, .ref 77, .ref 125, .int i, u5, u6] [] M Q := by
  obtain ⟨⟨⟨⟨⟨⟨⟨⟨⟨hG, ⟨jPI, jNI, jQI, jPQE⟩, ⟨jFA, jWC, jNJ, jPS, jKQ⟩, jJ, jE⟩, jTP, jW9⟩, jNE, jCC⟩, -⟩, jOV⟩, jW8⟩, jNN⟩, jAN⟩, jFF, jFP⟩ := H
  have b_1 := g_b hG (a := 77) (i := 7) (lo := 0) (hi := 500) rfl rfl
  have b_2 := g_b hG (a := 77) (i := 6) (lo := 0) (hi := 500) rfl rfl
  have b_3 := g_b hG (a := 1) (i := 1) (lo := 0) (hi := 500) rfl rfl
  have b_4 := g_b hG (a := 77) (i := 1) (lo := 0) (hi := 500) rfl rfl
  have b_5 := g_b hG (a := 0) (i := 12) (lo := 0) (hi := 30) rfl rfl
  have b_6 := g_b hG (a := 77) (i := 28) (lo := 0) (hi := 30) rfl rfl
  have b_7 := g_b hG (a := 6) (i := 0) (lo := 0) (hi := 150) rfl rfl
  have b_8 := g_b hG (a := 77) (i := 29) (lo := 0) (hi := 150) rfl rfl
  refine to_an (pc := 500) rw_0_500 rfl (s_v (pc := 501) rw_0_501 (dp0 hd (by decide)) (ls0 := [.ref 0]) rfl (Nat.le_of_ble_eq_true rfl) (Nat.le_of_ble_eq_true rfl) rfl (to_rc rfl rfl rfl (g_o hG rfl)) rfl ?_)
  obtain ⟨pz9, pzz9, qz9, qzz9, hpz9, hpzz9, hqz9, hqzz9, hpqz9⟩ := id jPQE
  refine C_118 hX (dp1 hd (by decide)) hG hpz9 hpzz9 hqz9 hqzz9 hpqz9 jPI jNI jQI (p := pz9) (pz := pzz9) (q := qz9) (qz := qzz9) (fun r10 M18 hG12 F11 p_13 p_14 p_15 p_16 p_17 => ?_)
  have n_19 : M18.1.2.1 = M.1.2.1 ∧ M18.1.2.2.1 = M.1.2.2.1 := by rw [F11.1]; exact ⟨rfl, rfl⟩
  have b_21 := g_b hG12 (a := 0) (i := 12) (lo := 0) (hi := 30) rfl rfl
  have z_22 := AN_C F11 (fun a i z => show ¬ (a = 0 ∧ i = 12 ∨ 18 ≤ a ∧ a ≤ 27) by (first | (clear hpz9 hpzz9 hqz9 hqzz9 p_13 p_14; omega) | (clear hpz9 hpzz9 hqz9 hqzz9; omega) | (clear hpz9 hpzz9 hqz9 p_13 p_14; omega) | omega)) (by (first | (clear hpz9 hpzz9 hqz9 hqzz9 p_13 p_14; omega) | (clear hpz9 hpzz9 hqz9 hqzz9; omega) | (clear hpz9 hpzz9 hqz9 p_13 p_14; omega) | omega)) jAN
  refine to_popi (pc := 504) rw_0_504 (to_an (pc := 505) rw_0_505 rfl (s_v (pc := 506) rw_0_506 (dp0 hd (by decide)) (ls0 := [.ref 77]) rfl (Nat.le_of_ble_eq_true rfl) (Nat.le_of_ble_eq_true rfl) rfl (to_rc rfl rfl rfl (g_o hG12 rfl)) rfl ?_))
  have c_23 : M18.2.1 77 28 = (M.2.1 77 28) := (F_n F11 (show ¬ (77 = 0 ∧ 28 = 12 ∨ 18 ≤ 77 ∧ 77 ≤ 27) by decide) rfl)
  have t_24 : (M18.2.1 77 28).toInt = (M.2.1 77 28).toInt := congrArg Int32.toInt c_23
  have j_25 := (PS_f (tg_599 F11) jPS)
  refine C_193 hX (dp1 hd (by decide)) hG12 j_25  (fun r26 M32 hG28 F27 p_29 p_30 p_31 => ?_)
  have n_33 : M32.1.2.1 = M18.1.2.1 ∧ M32.1.2.2.1 = M18.1.2.2.1 := by rw [F27.1]; exact ⟨rfl, rfl⟩
  have b_35 := g_b hG28 (a := 77) (i := 28) (lo := 0) (hi := 30) rfl rfl
  refine to_popi (pc := 509) rw_0_509 (to_go (pc := 510) rw_0_510 ?_)
  have c_36 : M32.2.1 77 7 = (M.2.1 77 7) := (F_n F27 (show ¬ (77 = 77 ∧ (7 = 2 ∨ 7 = 28) ∨ 77 = 99 ∨ 77 = 100) by decide) (F_n F11 (show ¬ (77 = 0 ∧ 7 = 12 ∨ 18 ≤ 77 ∧ 77 ≤ 27) by decide) rfl))
  have t_37 : (M32.2.1 77 7).toInt = (M.2.1 77 7).toInt := congrArg Int32.toInt c_36
  have c_38 : M32.2.1 77 6 = (M.2.1 77 6) := (F_n F27 (show ¬ (77 = 77 ∧ (6 = 2 ∨ 6 = 28) ∨ 77 = 99 ∨ 77 = 100) by decide) (F_n F11 (show ¬ (77 = 0 ∧ 6 = 12 ∨ 18 ≤ 77 ∧ 77 ≤ 27) by decide) rfl))
  have t_39 : (M32.2.1 77 6).toInt = (M.2.1 77 6).toInt := congrArg Int32.toInt c_38
  have c_40 : M32.2.1 1 1 = (M.2.1 1 1) := (F_n F27 (show ¬ (1 = 77 ∧ (1 = 2 ∨ 1 = 28) ∨ 1 = 99 ∨ 1 = 100) by decide) (F_n F11 (show ¬ (1 = 0 ∧ 1 = 12 ∨ 18 ≤ 1 ∧ 1 ≤ 27) by decide) rfl))
  have t_41 : (M32.2.1 1 1).toInt = (M.2.1 1 1).toInt := congrArg Int32.toInt c_40
  have c_42 : M32.2.1 77 1 = (M.2.1 77 1) := (F_n F27 (show ¬ (77 = 77 ∧ (1 = 2 ∨ 1 = 28) ∨ 77 = 99 ∨ 77 = 100) by decide) (F_n F11 (show ¬ (77 = 0 ∧ 1 = 12 ∨ 18 ≤ 77 ∧ 77 ≤ 27) by decide) rfl))
  have t_43 : (M32.2.1 77 1).toInt = (M.2.1 77 1).toInt := congrArg Int32.toInt c_42
  have c_44 : M32.2.1 0 12 = (M18.2.1 0 12) := (F_n F27 (show ¬ (0 = 77 ∧ (12 = 2 ∨ 12 = 28) ∨ 0 = 99 ∨ 0 = 100) by decide) rfl)
  have t_45 : (M32.2.1 0 12).toInt = (M18.2.1 0 12).toInt := congrArg Int32.toInt c_44
  have c_46 : M32.2.1 17 4 = (M.2.1 17 4) := (F_n F27 (show ¬ (17 = 77 ∧ (4 = 2 ∨ 4 = 28) ∨ 17 = 99 ∨ 17 = 100) by decide) (F_n F11 (show ¬ (17 = 0 ∧ 4 = 12 ∨ 18 ≤ 17 ∧ 17 ≤ 27) by decide) rfl))
  have t_47 : (M32.2.1 17 4).toInt = (M.2.1 17 4).toInt := congrArg Int32.toInt c_46
  have c_48 : M32.2.1 77 41 = (M.2.1 77 41) := (F_n F27 (show ¬ (77 = 77 ∧ (41 = 2 ∨ 41 = 28) ∨ 77 = 99 ∨ 77 = 100) by decide) (F_n F11 (show ¬ (77 = 0 ∧ 41 = 12 ∨ 18 ≤ 77 ∧ 77 ≤ 27) by decide) rfl))
  have t_49 : (M32.2.1 77 41).toInt = (M.2.1 77 41).toInt := congrArg Int32.toInt c_48
  have c_50 : M32.2.1 6 0 = (M.2.1 6 0) := (F_n F27 (show ¬ (6 = 77 ∧ (0 = 2 ∨ 0 = 28) ∨ 6 = 99 ∨ 6 = 100) by decide) (F_n F11 (show ¬ (6 = 0 ∧ 0 = 12 ∨ 18 ≤ 6 ∧ 6 ≤ 27) by decide) rfl))
  have t_51 : (M32.2.1 6 0).toInt = (M.2.1 6 0).toInt := congrArg Int32.toInt c_50
  have c_52 : M32.2.1 77 29 = (M.2.1 77 29) := (F_n F27 (show ¬ (77 = 77 ∧ (29 = 2 ∨ 29 = 28) ∨ 77 = 99 ∨ 77 = 100) by decide) (F_n F11 (show ¬ (77 = 0 ∧ 29 = 12 ∨ 18 ≤ 77 ∧ 77 ≤ 27) by decide) rfl))
  have t_53 : (M32.2.1 77 29).toInt = (M.2.1 77 29).toInt := congrArg Int32.toInt c_52
  have c_54 : M32.2.1 1 10 = (M.2.1 1 10) := (F_n F27 (show ¬ (1 = 77 ∧ (10 = 2 ∨ 10 = 28) ∨ 1 = 99 ∨ 1 = 100) by decide) (F_n F11 (show ¬ (1 = 0 ∧ 10 = 12 ∨ 18 ≤ 1 ∧ 1 ≤ 27) by decide) rfl))
  have t_55 : (M32.2.1 1 10).toInt = (M.2.1 1 10).toInt := congrArg Int32.toInt c_54
  have c_56 : M32.2.1 77 4 = (M.2.1 77 4) := (F_n F27 (show ¬ (77 = 77 ∧ (4 = 2 ∨ 4 = 28) ∨ 77 = 99 ∨ 77 = 100) by decide) (F_n F11 (show ¬ (77 = 0 ∧ 4 = 12 ∨ 18 ≤ 77 ∧ 77 ≤ 27) by decide) rfl))
  have t_57 : (M32.2.1 77 4).toInt = (M.2.1 77 4).toInt := congrArg Int32.toInt c_56
  have c_58 : M32.2.1 1 11 = (M.2.1 1 11) := (F_n F27 (show ¬ (1 = 77 ∧ (11 = 2 ∨ 11 = 28) ∨ 1 = 99 ∨ 1 = 100) by decide) (F_n F11 (show ¬ (1 = 0 ∧ 11 = 12 ∨ 18 ≤ 1 ∧ 1 ≤ 27) by decide) rfl))
  have t_59 : (M32.2.1 1 11).toInt = (M.2.1 1 11).toInt := congrArg Int32.toInt c_58
  have c_60 : M32.2.1 77 5 = (M.2.1 77 5) := (F_n F27 (show ¬ (77 = 77 ∧ (5 = 2 ∨ 5 = 28) ∨ 77 = 99 ∨ 77 = 100) by decide) (F_n F11 (show ¬ (77 = 0 ∧ 5 = 12 ∨ 18 ≤ 77 ∧ 77 ≤ 27) by decide) rfl))
  have t_61 : (M32.2.1 77 5).toInt = (M.2.1 77 5).toInt := congrArg Int32.toInt c_60
  have j_62 := (PI_f (tg_600 F27) p_15)
  have j_63 := (NI_f (tg_601 F27) p_16)
  have j_64 := (QI_f (tg_602 F27) p_17)
  have j_65 := (PQE_r F27.2.1 (PQE_r F11.2.1 jPQE))
  have j_66 := (FA_f (tg_603 F27) (FA_f (tg_604 F11) jFA))
  have j_67 := (WC_f (tg_605 F27) (WC_f (tg_606 F11) jWC))
  have j_68 := (NJ_f (tg_607 F27) (NJ_f (tg_608 F11) jNJ))
  have j_69 := (KQ_f (tg_609 F27) (KQ_f (tg_610 F11) jKQ))
  have j_70 := (TP_f (tg_611 F27) (TP_f (tg_612 F11) jTP))
  have j_71 := (W9_f (tg_613 F27) (W9_f (tg_614 F11) jW9))
  have j_72 := (AN_F F27 tg_645 z_22)
  have j_73 := (NE_r F27.2.1 (NE_r F11.2.1 jNE))
  have j_74 := (W8_f (tg_615 F27) (W8_f (tg_616 F11) jW8))
  exact h M32 (u5) (u6) ⟨⟨⟨⟨⟨⟨⟨⟨⟨hG28, ⟨j_62, j_63, j_64, j_65⟩, ⟨j_66, j_67, j_68, p_31, j_69⟩, by (first | (clear hpz9 hpzz9 hqz9 hqzz9 p_13 p_14 p_29 p_30; omega) | (clear hpz9 hpzz9 hqz9 hqzz9; omega) | (clear hpz9 hpzz9 hqz9 p_13 p_14 p_29 p_30; omega) | omega), by (first | (clear hpz9 hpzz9 hqz9 hqzz9 p_13 p_14 p_29 p_30; omega) | (clear hpz9 hpzz9 hqz9 hqzz9; omega) | (clear hpz9 hpzz9 hqz9 p_13 p_14 p_29 p_30; omega) | omega)⟩, j_70, j_71⟩, j_73, by (first | (clear hpz9 hpzz9 hqz9 hqzz9 p_13 p_14 p_29 p_30; omega) | (clear hpz9 hpzz9 hqz9 hqzz9; omega) | (clear hpz9 hpzz9 hqz9 p_13 p_14 p_29 p_30; omega) | omega)⟩, AN_a j_72⟩, by (first | (clear hpz9 hpzz9 hqz9 hqzz9 p_13 p_14 p_29 p_30; omega) | (clear hpz9 hpzz9 hqz9 hqzz9; omega) | (clear hpz9 hpzz9 hqz9 p_13 p_14 p_29 p_30; omega) | omega)⟩, j_74⟩, by (first | (clear hpz9 hpzz9 hqz9 hqzz9 p_13 p_14 p_29 p_30; omega) | (clear hpz9 hpzz9 hqz9 hqzz9; omega) | (clear hpz9 hpzz9 hqz9 p_13 p_14 p_29 p_30; omega) | omega)⟩, j_72⟩, by (first | (clear hpz9 hpzz9 hqz9 hqzz9 p_13 p_14 p_29 p_30; omega) | (clear hpz9 hpzz9 hqz9 hqzz9; omega) | (clear hpz9 hpzz9 hqz9 p_13 p_14 p_29 p_30; omega) | omega), by (first | (clear hpz9 hpzz9 hqz9 hqzz9 p_13 p_14 p_29 p_30; omega) | (clear hpz9 hpzz9 hqz9 hqzz9; omega) | (clear hpz9 hpzz9 hqz9 p_13 p_14 p_29 p_30; omega) | omega)⟩ (by (first | (clear hpz9 hpzz9 hqz9 hqzz9 p_13 p_14 p_29 p_30; omega) | (clear hpz9 hpzz9 hqz9 hqzz9; omega) | (clear hpz9 hpzz9 hqz9 p_13 p_14 p_29 p_30; omega) | omega)) (by (first | (clear hpz9 hpzz9 hqz9 hqzz9 p_13 p_14 p_29 p_30; omega) | (clear hpz9 hpzz9 hqz9 hqzz9; omega) | (clear hpz9 hpzz9 hqz9 p_13 p_14 p_29 p_30; omega) | omega))
