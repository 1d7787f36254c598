set_option maxRecDepth 4000 in
set_option maxHeartbeats 0 in
theorem LW_9 {X : mm_X} {d L : Nat} {M : mm_M} {Q : Option Value → mm_M → Prop} {i : Int32} {u5 u6 : Value} (hX : g_X X) (hW : g_W X) (hW2 : g_W2 X) (hL : (X 0).1 = L) (h3 : L ≤ 3072) (hd : 40 ≤ d) (hi : 0 ≤ i.toInt) (hi2 : i.toInt + 6 ≤ (L : Int)) (H : LI10 M) (h : ∀ (M1 : mm_M) (v5 v6 : Value), LI10 M1 → M1.1.2.1 ≤ M.1.2.1 + 1 → M1.1.2.2.1 ≤ M.1.2.2.1 + 6 → mm_T X d 0 1313 [.ref mm_ext, .ref 0, .ref 77, .ref 125, .int i, v5, v6] [] M1 Q) : mm_T X d 0 500 [.ref mm_ext, .ref 0, .ref 77, .ref 125, .int i, u5, u6] [] M Q := by
  obtain ⟨⟨⟨⟨⟨⟨⟨⟨⟨hG, ⟨jPI, jNI, jQI, jPQE⟩, ⟨jFA, jWC, jNJ, jPS, jKQ⟩, jJ, jE⟩, jTP, jW9⟩, jNE, jCC⟩, -⟩, jOV⟩, jW8⟩, jNN⟩, jAN⟩, jKNA, jDN, jPN⟩ := H
  have b_1 := g_b hG (a := 77) (i := 7) (lo := 0) (hi := 500) rfl rfl
  have b_2 := g_b hG (a := 77) (i := 6) (lo := 0) (hi := 500) rfl rfl
  have b_3 := g_b hG (a := 1) (i := 1) (lo := 0) (hi := 500) rfl rfl
  have b_4 := g_b hG (a := 77) (i := 1) (lo := 0) (hi := 500) rfl rfl
  have b_5 := g_b hG (a := 0) (i := 12) (lo := 0) (hi := 30) rfl rfl
  have b_6 := g_b hG (a := 77) (i := 28) (lo := 0) (hi := 30) rfl rfl
  have b_7 := g_b hG (a := 6) (i := 0) (lo := 0) (hi := 150) rfl rfl
  have b_8 := g_b hG (a := 77) (i := 29) (lo := 0) (hi := 150) rfl rfl
  have b_9 := g_b hG (a := 28) (i := 8) (lo := 0) (hi := 3000) rfl rfl
  have b_10 := g_b hG (a := 77) (i := 43) (lo := 0) (hi := 3000) rfl rfl
  refine to_an (pc := 500) rw_0_500 rfl (s_v (pc := 501) rw_0_501 (dp0 hd (by decide)) (ls0 := [.ref 0]) rfl (Nat.le_of_ble_eq_true rfl) (Nat.le_of_ble_eq_true rfl) rfl (to_rc rfl rfl rfl (g_o hG rfl)) rfl ?_)
  obtain ⟨pz11, pzz11, qz11, qzz11, hpz11, hpzz11, hqz11, hqzz11, hpqz11⟩ := id jPQE
  refine C_118 hX (dp1 hd (by decide)) hG hpz11 hpzz11 hqz11 hqzz11 hpqz11 jPI jNI jQI (p := pz11) (pz := pzz11) (q := qz11) (qz := qzz11) (fun r12 M20 hG14 F13 p_15 p_16 p_17 p_18 p_19 => ?_)
  have n_21 : M20.1.2.1 = M.1.2.1 ∧ M20.1.2.2.1 = M.1.2.2.1 := by rw [F13.1]; exact ⟨rfl, rfl⟩
  have b_23 := g_b hG14 (a := 0) (i := 12) (lo := 0) (hi := 30) rfl rfl
  have z_24 := AN_C F13 (fun a i z => show ¬ (a = 0 ∧ i = 12 ∨ 18 ≤ a ∧ a ≤ 27) by (first | (clear hpz11 hpzz11 hqz11 hqzz11 p_15 p_16; omega) | (clear hpz11 hpzz11 hqz11 hqzz11; omega) | (clear hpz11 hpzz11 hqz11 p_15 p_16; omega) | omega)) (by (first | (clear hpz11 hpzz11 hqz11 hqzz11 p_15 p_16; omega) | (clear hpz11 hpzz11 hqz11 hqzz11; omega) | (clear hpz11 hpzz11 hqz11 p_15 p_16; omega) | omega)) jAN
  refine to_popi (pc := 504) rw_0_504 (to_an (pc := 505) rw_0_505 rfl (s_v (pc := 506) rw_0_506 (dp0 hd (by decide)) (ls0 := [.ref 77]) rfl (Nat.le_of_ble_eq_true rfl) (Nat.le_of_ble_eq_true rfl) rfl (to_rc rfl rfl rfl (g_o hG14 rfl)) rfl ?_))
  have c_25 : M20.2.1 77 28 = (M.2.1 77 28) := (F_n F13 (show ¬ (77 = 0 ∧ 28 = 12 ∨ 18 ≤ 77 ∧ 77 ≤ 27) by decide) rfl)
  have t_26 : (M20.2.1 77 28).toInt = (M.2.1 77 28).toInt := congrArg Int32.toInt c_25
  have j_27 := (PS_f (tg_591 F13) jPS)
  refine C_193 hX (dp1 hd (by decide)) hG14 j_27  (fun r28 M34 hG30 F29 p_31 p_32 p_33 => ?_)
  have n_35 : M34.1.2.1 = M20.1.2.1 ∧ M34.1.2.2.1 = M20.1.2.2.1 := by rw [F29.1]; exact ⟨rfl, rfl⟩
  have b_37 := g_b hG30 (a := 77) (i := 28) (lo := 0) (hi := 30) rfl rfl
  refine to_popi (pc := 509) rw_0_509 (to_go (pc := 510) rw_0_510 ?_)
  have c_38 : M34.2.1 77 7 = (M.2.1 77 7) := (F_n F29 (show ¬ (77 = 77 ∧ (7 = 2 ∨ 7 = 28) ∨ 77 = 99 ∨ 77 = 100) by decide) (F_n F13 (show ¬ (77 = 0 ∧ 7 = 12 ∨ 18 ≤ 77 ∧ 77 ≤ 27) by decide) rfl))
  have t_39 : (M34.2.1 77 7).toInt = (M.2.1 77 7).toInt := congrArg Int32.toInt c_38
  have c_40 : M34.2.1 77 6 = (M.2.1 77 6) := (F_n F29 (show ¬ (77 = 77 ∧ (6 = 2 ∨ 6 = 28) ∨ 77 = 99 ∨ 77 = 100) by decide) (F_n F13 (show ¬ (77 = 0 ∧ 6 = 12 ∨ 18 ≤ 77 ∧ 77 ≤ 27) by decide) rfl))
  have t_41 : (M34.2.1 77 6).toInt = (M.2.1 77 6).toInt := congrArg Int32.toInt c_40
  have c_42 : M34.2.1 1 1 = (M.2.1 1 1) := (F_n F29 (show ¬ (1 = 77 ∧ (1 = 2 ∨ 1 = 28) ∨ 1 = 99 ∨ 1 = 100) by decide) (F_n F13 (show ¬ (1 = 0 ∧ 1 = 12 ∨ 18 ≤ 1 ∧ 1 ≤ 27) by decide) rfl))
  have t_43 : (M34.2.1 1 1).toInt = (M.2.1 1 1).toInt := congrArg Int32.toInt c_42
  have c_44 : M34.2.1 77 1 = (M.2.1 77 1) := (F_n F29 (show ¬ (77 = 77 ∧ (1 = 2 ∨ 1 = 28) ∨ 77 = 99 ∨ 77 = 100) by decide) (F_n F13 (show ¬ (77 = 0 ∧ 1 = 12 ∨ 18 ≤ 77 ∧ 77 ≤ 27) by decide) rfl))
  have t_45 : (M34.2.1 77 1).toInt = (M.2.1 77 1).toInt := congrArg Int32.toInt c_44
  have c_46 : M34.2.1 0 12 = (M20.2.1 0 12) := (F_n F29 (show ¬ (0 = 77 ∧ (12 = 2 ∨ 12 = 28) ∨ 0 = 99 ∨ 0 = 100) by decide) rfl)
  have t_47 : (M34.2.1 0 12).toInt = (M20.2.1 0 12).toInt := congrArg Int32.toInt c_46
  have c_48 : M34.2.1 17 4 = (M.2.1 17 4) := (F_n F29 (show ¬ (17 = 77 ∧ (4 = 2 ∨ 4 = 28) ∨ 17 = 99 ∨ 17 = 100) by decide) (F_n F13 (show ¬ (17 = 0 ∧ 4 = 12 ∨ 18 ≤ 17 ∧ 17 ≤ 27) by decide) rfl))
  have t_49 : (M34.2.1 17 4).toInt = (M.2.1 17 4).toInt := congrArg Int32.toInt c_48
  have c_50 : M34.2.1 77 41 = (M.2.1 77 41) := (F_n F29 (show ¬ (77 = 77 ∧ (41 = 2 ∨ 41 = 28) ∨ 77 = 99 ∨ 77 = 100) by decide) (F_n F13 (show ¬ (77 = 0 ∧ 41 = 12 ∨ 18 ≤ 77 ∧ 77 ≤ 27) by decide) rfl))
  have t_51 : (M34.2.1 77 41).toInt = (M.2.1 77 41).toInt := congrArg Int32.toInt c_50
  have c_52 : M34.2.1 6 0 = (M.2.1 6 0) := (F_n F29 (show ¬ (6 = 77 ∧ (0 = 2 ∨ 0 = 28) ∨ 6 = 99 ∨ 6 = 100) by decide) (F_n F13 (show ¬ (6 = 0 ∧ 0 = 12 ∨ 18 ≤ 6 ∧ 6 ≤ 27) by decide) rfl))
  have t_53 : (M34.2.1 6 0).toInt = (M.2.1 6 0).toInt := congrArg Int32.toInt c_52
  have c_54 : M34.2.1 77 29 = (M.2.1 77 29) := (F_n F29 (show ¬ (77 = 77 ∧ (29 = 2 ∨ 29 = 28) ∨ 77 = 99 ∨ 77 = 100) by decide) (F_n F13 (show ¬ (77 = 0 ∧ 29 = 12 ∨ 18 ≤ 77 ∧ 77 ≤ 27) by decide) rfl))
  have t_55 : (M34.2.1 77 29).toInt = (M.2.1 77 29).toInt := congrArg Int32.toInt c_54
  have c_56 : M34.2.1 28 8 = (M.2.1 28 8) := (F_n F29 (show ¬ (28 = 77 ∧ (8 = 2 ∨ 8 = 28) ∨ 28 = 99 ∨ 28 = 100) by decide) (F_n F13 (show ¬ (28 = 0 ∧ 8 = 12 ∨ 18 ≤ 28 ∧ 28 ≤ 27) by decide) rfl))
  have t_57 : (M34.2.1 28 8).toInt = (M.2.1 28 8).toInt := congrArg Int32.toInt c_56
  have c_58 : M34.2.1 77 43 = (M.2.1 77 43) := (F_n F29 (show ¬ (77 = 77 ∧ (43 = 2 ∨ 43 = 28) ∨ 77 = 99 ∨ 77 = 100) by decide) (F_n F13 (show ¬ (77 = 0 ∧ 43 = 12 ∨ 18 ≤ 77 ∧ 77 ≤ 27) by decide) rfl))
  have t_59 : (M34.2.1 77 43).toInt = (M.2.1 77 43).toInt := congrArg Int32.toInt c_58
  have c_60 : M34.2.1 28 9 = (M.2.1 28 9) := (F_n F29 (show ¬ (28 = 77 ∧ (9 = 2 ∨ 9 = 28) ∨ 28 = 99 ∨ 28 = 100) by decide) (F_n F13 (show ¬ (28 = 0 ∧ 9 = 12 ∨ 18 ≤ 28 ∧ 28 ≤ 27) by decide) rfl))
  have t_61 : (M34.2.1 28 9).toInt = (M.2.1 28 9).toInt := congrArg Int32.toInt c_60
  have c_62 : M34.2.1 77 42 = (M.2.1 77 42) := (F_n F29 (show ¬ (77 = 77 ∧ (42 = 2 ∨ 42 = 28) ∨ 77 = 99 ∨ 77 = 100) by decide) (F_n F13 (show ¬ (77 = 0 ∧ 42 = 12 ∨ 18 ≤ 77 ∧ 77 ≤ 27) by decide) rfl))
  have t_63 : (M34.2.1 77 42).toInt = (M.2.1 77 42).toInt := congrArg Int32.toInt c_62
  have j_64 := (PI_f (tg_592 F29) p_17)
  have j_65 := (NI_f (tg_593 F29) p_18)
  have j_66 := (QI_f (tg_594 F29) p_19)
  have j_67 := (PQE_r F29.2.1 (PQE_r F13.2.1 jPQE))
  have j_68 := (FA_f (tg_595 F29) (FA_f (tg_596 F13) jFA))
  have j_69 := (WC_f (tg_597 F29) (WC_f (tg_598 F13) jWC))
  have j_70 := (NJ_f (tg_599 F29) (NJ_f (tg_600 F13) jNJ))
  have j_71 := (KQ_f (tg_601 F29) (KQ_f (tg_602 F13) jKQ))
  have j_72 := (TP_f (tg_603 F29) (TP_f (tg_604 F13) jTP))
  have j_73 := (W9_f (tg_605 F29) (W9_f (tg_606 F13) jW9))
  have j_74 := (AN_F F29 tg_637 z_24)
  have j_75 := (KNA_F F29 (fun a i z => show ¬ (a = 77 ∧ (i = 2 ∨ i = 28) ∨ a = 99 ∨ a = 100) by (first | (clear hpz11 hpzz11 hqz11 hqzz11 p_15 p_16 p_31 p_32; omega) | (clear hpz11 hpzz11 hqz11 hqzz11; omega) | (clear hpz11 hpzz11 hqz11 p_15 p_16 p_31 p_32; omega) | omega)) (KNA_F F13 (fun a i z => show ¬ (a = 0 ∧ i = 12 ∨ 18 ≤ a ∧ a ≤ 27) by (first | (clear hpz11 hpzz11 hqz11 hqzz11 p_15 p_16 p_31 p_32; omega) | (clear hpz11 hpzz11 hqz11 hqzz11; omega) | (clear hpz11 hpzz11 hqz11 p_15 p_16 p_31 p_32; omega) | omega)) jKNA))
  have j_76 := (NE_r F29.2.1 (NE_r F13.2.1 jNE))
  have j_77 := (W8_f (tg_607 F29) (W8_f (tg_608 F13) jW8))
  exact h M34 (u5) (u6) ⟨⟨⟨⟨⟨⟨⟨⟨⟨hG30, ⟨j_64, j_65, j_66, j_67⟩, ⟨j_68, j_69, j_70, p_33, j_71⟩, by (first | (clear hpz11 hpzz11 hqz11 hqzz11 p_15 p_16 p_31 p_32; omega) | (clear hpz11 hpzz11 hqz11 hqzz11; omega) | (clear hpz11 hpzz11 hqz11 p_15 p_16 p_31 p_32; omega) | omega), by (first | (clear hpz11 hpzz11 hqz11 hqzz11 p_15 p_16 p_31 p_32; omega) | (clear hpz11 hpzz11 hqz11 hqzz11; omega) | (clear hpz11 hpzz11 hqz11 p_15 p_16 p_31 p_32; omega) | omega)⟩, j_72, j_73⟩, j_76, by (first | (clear hpz11 hpzz11 hqz11 hqzz11 p_15 p_16 p_31 p_32; omega) | (clear hpz11 hpzz11 hqz11 hqzz11; omega) | (clear hpz11 hpzz11 hqz11 p_15 p_16 p_31 p_32; omega) | omega)⟩, AN_a j_74⟩, by (first | (clear hpz11 hpzz11 hqz11 hqzz11 p_15 p_16 p_31 p_32; omega) | (clear hpz11 hpzz11 hqz11 hqzz11; omega) | (clear hpz11 hpzz11 hqz11 p_15 p_16 p_31 p_32; omega) | omega)⟩, j_77⟩, by (first | (clear hpz11 hpzz11 hqz11 hqzz11 p_15 p_16 p_31 p_32; omega) | (clear hpz11 hpzz11 hqz11 hqzz11; omega) | (clear hpz11 hpzz11 hqz11 p_15 p_16 p_31 p_32; omega) | omega)⟩, j_74⟩, j_75, by (first | (clear hpz11 hpzz11 hqz11 hqzz11 p_15 p_16 p_31 p_32; omega) | (clear hpz11 hpzz11 hqz11 hqzz11; omega) | (clear hpz11 hpzz11 hqz11 p_15 p_16 p_31 p_32; omega) | omega), by (first | (clear hpz11 hpzz11 hqz11 hqzz11 p_15 p_16 p_31 p_32; omega) | (clear hpz11 hpzz11 hqz11 hqzz11; omega) | (clear hpz11 hpzz11 hqz11 p_15 p_16 p_31 p_32; omega) | omega)⟩ (by (first | (clear hpz11 hpzz11 hqz11 hqzz11 p_15 p_16 p_31 p_32; omega) | (clear hpz11 hpzz11 hqz11 hqzz11; omega) | (clear hpz11 hpzz11 hqz11 p_15 p_16 p_31 p_32; omega) | omega)) (by (first | (clear hpz11 hpzz11 hqz11 hqzz11 p_15 p_16 p_31 p_32; omega) | (clear hpz11 hpzz11 hqz11 hqzz11; omega) | (clear hpz11 hpzz11 hqz11 p_15 p_16 p_31 p_32; omega) | omega))
