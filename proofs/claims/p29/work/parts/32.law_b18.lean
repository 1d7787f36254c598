set_option maxRecDepth 4000 in
set_option maxHeartbeats 0 in
theorem LW_18 {X : mm_X} {d L : Nat} {M : mm_M} {Q : Option Value → mm_M → Prop} {i : Int32} {u5 u6 : Value} (hX : g_X X) (hW : g_W X) (hW2 : g_W2 X) (hL : (X 0).1 = L) (h3 : L ≤ 3072) (hd : 40 ≤ d) (hi : 0 ≤ i.toInt) (hi2 : i.toInt + 6 ≤ (L : Int)) (H : LI10 M) (h : ∀ (M1 : mm_M) (v5 v6 : Value), LI10 M1 → M1.1.2.1 ≤ M.1.2.1 + 1 → M1.1.2.2.1 ≤ M.1.2.2.1 + 6 → mm_T X d 0 1313 [.ref mm_ext, .ref 0, .ref 77, .ref 125, .int i, v5, v6] [] M1 Q) : mm_T X d 0 837 [.ref mm_ext, .ref 0, .ref 77, .ref 125, .int i, u5, u6] [] M Q := by
  obtain ⟨⟨⟨⟨⟨⟨⟨⟨⟨hG, ⟨jPI, jNI, jQI, jPQE⟩, ⟨jFA, jWC, jNJ, jPS, jKQ⟩, jJ, jE⟩, jTP, jW9⟩, jNE, jCC⟩, -⟩, jOV⟩, jW8⟩, jNN⟩, jAN⟩, jG8, jPKA⟩ := H
  have b_1 := g_b hG (a := 77) (i := 7) (lo := 0) (hi := 500) rfl rfl
  have b_2 := g_b hG (a := 77) (i := 6) (lo := 0) (hi := 500) rfl rfl
  have b_3 := g_b hG (a := 1) (i := 1) (lo := 0) (hi := 500) rfl rfl
  have b_4 := g_b hG (a := 77) (i := 1) (lo := 0) (hi := 500) rfl rfl
  have b_5 := g_b hG (a := 0) (i := 12) (lo := 0) (hi := 30) rfl rfl
  have b_6 := g_b hG (a := 77) (i := 28) (lo := 0) (hi := 30) rfl rfl
  have b_7 := g_b hG (a := 6) (i := 0) (lo := 0) (hi := 150) rfl rfl
  have b_8 := g_b hG (a := 77) (i := 29) (lo := 0) (hi := 150) rfl rfl
  refine to_an (pc := 837) rw_0_837 rfl (s_v (pc := 838) rw_0_838 (dp0 hd (by decide)) (ls0 := [.ref 0]) rfl (Nat.le_of_ble_eq_true rfl) (Nat.le_of_ble_eq_true rfl) rfl (to_rc rfl rfl rfl (g_o hG rfl)) rfl ?_)
  obtain ⟨pz9, pzz9, qz9, qzz9, hpz9, hpzz9, hqz9, hqzz9, hpqz9⟩ := id jPQE
  refine C_127 hX (dp1 hd (by decide)) hG hpz9 hpzz9 hqz9 hqzz9 hpqz9 (p := pz9) (pz := pzz9) (q := qz9) (qz := qzz9) (fun r10 M14 hG12 F11 p_13 => ?_)
  have n_15 : M14.1.2.1 = M.1.2.1 ∧ M14.1.2.2.1 = M.1.2.2.1 := by rw [F11.1]; exact ⟨rfl, rfl⟩
  refine to_popi (pc := 841) rw_0_841 (to_an (pc := 842) rw_0_842 rfl (s_v (pc := 843) rw_0_843 (dp0 hd (by decide)) (ls0 := [.ref 77]) rfl (Nat.le_of_ble_eq_true rfl) (Nat.le_of_ble_eq_true rfl) rfl (to_rc rfl rfl rfl (g_o hG12 rfl)) rfl ?_))
  have c_17 : M14.2.1 77 41 = (M.2.1 77 41) := (F_n F11 (show ¬ (77 < 0) by decide) rfl)
  have t_18 : (M14.2.1 77 41).toInt = (M.2.1 77 41).toInt := congrArg Int32.toInt c_17
  refine C_204 hX (dp1 hd (by decide)) hG12  (fun r19 M23 hG21 F20 p_22 => ?_)
  have n_24 : M23.1.2.1 = M14.1.2.1 ∧ M23.1.2.2.1 = M14.1.2.2.1 := by rw [F20.1]; exact ⟨rfl, rfl⟩
  refine to_popi (pc := 846) rw_0_846 (to_go (pc := 847) rw_0_847 ?_)
  have c_26 : M23.2.1 77 7 = (M.2.1 77 7) := (F_n F20 (show ¬ (77 = 77 ∧ 7 = 2) by decide) (F_n F11 (show ¬ (77 < 0) by decide) rfl))
  have t_27 : (M23.2.1 77 7).toInt = (M.2.1 77 7).toInt := congrArg Int32.toInt c_26
  have c_28 : M23.2.1 77 6 = (M.2.1 77 6) := (F_n F20 (show ¬ (77 = 77 ∧ 6 = 2) by decide) (F_n F11 (show ¬ (77 < 0) by decide) rfl))
  have t_29 : (M23.2.1 77 6).toInt = (M.2.1 77 6).toInt := congrArg Int32.toInt c_28
  have c_30 : M23.2.1 1 1 = (M.2.1 1 1) := (F_n F20 (show ¬ (1 = 77 ∧ 1 = 2) by decide) (F_n F11 (show ¬ (1 < 0) by decide) rfl))
  have t_31 : (M23.2.1 1 1).toInt = (M.2.1 1 1).toInt := congrArg Int32.toInt c_30
  have c_32 : M23.2.1 77 1 = (M.2.1 77 1) := (F_n F20 (show ¬ (77 = 77 ∧ 1 = 2) by decide) (F_n F11 (show ¬ (77 < 0) by decide) rfl))
  have t_33 : (M23.2.1 77 1).toInt = (M.2.1 77 1).toInt := congrArg Int32.toInt c_32
  have c_34 : M23.2.1 0 12 = (M.2.1 0 12) := (F_n F20 (show ¬ (0 = 77 ∧ 12 = 2) by decide) (F_n F11 (show ¬ (0 < 0) by decide) rfl))
  have t_35 : (M23.2.1 0 12).toInt = (M.2.1 0 12).toInt := congrArg Int32.toInt c_34
  have c_36 : M23.2.1 77 28 = (M.2.1 77 28) := (F_n F20 (show ¬ (77 = 77 ∧ 28 = 2) by decide) (F_n F11 (show ¬ (77 < 0) by decide) rfl))
  have t_37 : (M23.2.1 77 28).toInt = (M.2.1 77 28).toInt := congrArg Int32.toInt c_36
  have c_38 : M23.2.1 17 4 = (M.2.1 17 4) := (F_n F20 (show ¬ (17 = 77 ∧ 4 = 2) by decide) (F_n F11 (show ¬ (17 < 0) by decide) rfl))
  have t_39 : (M23.2.1 17 4).toInt = (M.2.1 17 4).toInt := congrArg Int32.toInt c_38
  have c_40 : M23.2.1 77 41 = (M.2.1 77 41) := (F_n F20 (show ¬ (77 = 77 ∧ 41 = 2) by decide) c_17)
  have t_41 : (M23.2.1 77 41).toInt = (M.2.1 77 41).toInt := congrArg Int32.toInt c_40
  have c_42 : M23.2.1 6 0 = (M.2.1 6 0) := (F_n F20 (show ¬ (6 = 77 ∧ 0 = 2) by decide) (F_n F11 (show ¬ (6 < 0) by decide) rfl))
  have t_43 : (M23.2.1 6 0).toInt = (M.2.1 6 0).toInt := congrArg Int32.toInt c_42
  have c_44 : M23.2.1 77 29 = (M.2.1 77 29) := (F_n F20 (show ¬ (77 = 77 ∧ 29 = 2) by decide) (F_n F11 (show ¬ (77 < 0) by decide) rfl))
  have t_45 : (M23.2.1 77 29).toInt = (M.2.1 77 29).toInt := congrArg Int32.toInt c_44
  have j_46 := (PI_f (tg_548 F20) (PI_f (tg_99 F11) jPI))
  have j_47 := (NI_f (tg_549 F20) (NI_f (tg_98 F11) jNI))
  have j_48 := (QI_f (tg_550 F20) (QI_f (tg_100 F11) jQI))
  have j_49 := (PQE_r F20.2.1 (PQE_r F11.2.1 jPQE))
  have j_50 := (FA_f (tg_551 F20) (FA_f (tg_347 F11) jFA))
  have j_51 := (WC_f (tg_552 F20) (WC_f (tg_553 F11) jWC))
  have j_52 := (NJ_f (tg_554 F20) (NJ_f (tg_102 F11) jNJ))
  have j_53 := (PS_f (tg_555 F20) (PS_f (tg_556 F11) jPS))
  have j_54 := (KQ_f (tg_557 F20) (KQ_f (tg_452 F11) jKQ))
  have j_55 := (TP_f (tg_558 F20) (TP_f (tg_559 F11) jTP))
  have j_56 := (W9_f (tg_560 F20) (W9_f (tg_46 F11) jW9))
  have j_57 := (AN_F F20 tg_626 (AN_F F11 tg_627 jAN))
  have j_58 := (G8_F F20 (fun a i z => show ¬ (a = 77 ∧ i = 2) by (first | (clear hpz9 hpzz9 hqz9 hqzz9; omega) | (clear hpz9 hpzz9 hqz9; omega) | omega)) (G8_F F11 (fun a i z => show ¬ (a < 0) by (first | (clear hpz9 hpzz9 hqz9 hqzz9; omega) | (clear hpz9 hpzz9 hqz9; omega) | omega)) jG8))
  have j_59 := (PKA_F F20 (fun a i z => show ¬ (a = 77 ∧ i = 2) by (first | (clear hpz9 hpzz9 hqz9 hqzz9; omega) | (clear hpz9 hpzz9 hqz9; omega) | omega)) (PKA_F F11 (fun a i z => show ¬ (a < 0) by (first | (clear hpz9 hpzz9 hqz9 hqzz9; omega) | (clear hpz9 hpzz9 hqz9; omega) | omega)) jPKA))
  have j_60 := (NE_r F20.2.1 (NE_r F11.2.1 jNE))
  have j_61 := (W8_f (tg_561 F20) (W8_f (tg_562 F11) jW8))
  exact h M23 (u5) (u6) ⟨⟨⟨⟨⟨⟨⟨⟨⟨hG21, ⟨j_46, j_47, j_48, j_49⟩, ⟨j_50, j_51, j_52, j_53, j_54⟩, by (first | (clear hpz9 hpzz9 hqz9 hqzz9; omega) | (clear hpz9 hpzz9 hqz9; omega) | omega), by (first | (clear hpz9 hpzz9 hqz9 hqzz9; omega) | (clear hpz9 hpzz9 hqz9; omega) | omega)⟩, j_55, j_56⟩, j_60, by (first | (clear hpz9 hpzz9 hqz9 hqzz9; omega) | (clear hpz9 hpzz9 hqz9; omega) | omega)⟩, AN_a j_57⟩, by (first | (clear hpz9 hpzz9 hqz9 hqzz9; omega) | (clear hpz9 hpzz9 hqz9; omega) | omega)⟩, j_61⟩, by (first | (clear hpz9 hpzz9 hqz9 hqzz9; omega) | (clear hpz9 hpzz9 hqz9; omega) | omega)⟩, j_57⟩, j_58, j_59⟩ (by (first | (clear hpz9 hpzz9 hqz9 hqzz9; omega) | (clear hpz9 hpzz9 hqz9; omega) | omega)) (by (first | (clear hpz9 hpzz9 hqz9 hqzz9; omega) | (clear hpz9 hpzz9 hqz9; omega) | omega))
