set_option maxRecDepth 4000 in
set_option maxHeartbeats 0 in
theorem LW_21 {X : mm_X} {d L : Nat} {M : mm_M} {Q : Option Value → mm_M → Prop} {i : Int32} {u5 u6 : Value} (hX : g_X X) (hW : g_W X) (hW2 : g_W2 X) (hL : (X 0).1 = L) (h3 : L ≤ 3072) (hd : 40 ≤ d) (hi : 0 ≤ i.toInt) (hi2 : i.toInt + 6 ≤ (L : Int)) (H : LI10 M) (h : ∀ (M1 : mm_M) (v5 v6 : Value), LI10 M1 → M1.1.2.1 ≤ M.1.2.1 + 1 → M1.1.2.2.1 ≤ M.1.2.2.1 + 6 → mm_T X d 0 1313 [.ref mm_ext, .ref 0, .ref 77, .ref 125, .int i, v5, v6] [] M1 Q) : mm_T X d 0 956 [.ref mm_ext, .ref 0, .ref 77, .ref 125, .int i, u5, u6] [] M Q := by
  obtain ⟨⟨⟨⟨⟨⟨⟨⟨⟨hG, ⟨jPI, jNI, jQI, jPQE⟩, ⟨jFA, jWC, jNJ, jPS, jKQ⟩, jJ, jE⟩, jTP, jW9⟩, jNE, jCC⟩, -⟩, jOV⟩, jW8⟩, jNN⟩, jAN⟩, jFF, jFP⟩ := H
  have b_1 := g_b hG (a := 77) (i := 7) (lo := 0) (hi := 500) rfl rfl
  have b_2 := g_b hG (a := 77) (i := 6) (lo := 0) (hi := 500) rfl rfl
  have b_3 := g_b hG (a := 1) (i := 1) (lo := 0) (hi := 500) rfl rfl
  have b_4 := g_b hG (a := 77) (i := 1) (lo := 0) (hi := 500) rfl rfl
  have b_5 := g_b hG (a := 0) (i := 12) (lo := 0) (hi := 30) rfl rfl
  have b_6 := g_b hG (a := 77) (i := 28) (lo := 0) (hi := 30) rfl rfl
  have b_7 := g_b hG (a := 6) (i := 0) (lo := 0) (hi := 150) rfl rfl
  have b_8 := g_b hG (a := 77) (i := 29) (lo := 0) (hi := 150) rfl rfl
  refine to_an (pc := 956) rw_0_956 rfl (s_v (pc := 957) rw_0_957 (dp0 hd (by decide)) (ls0 := [.ref 0, .null]) rfl (Nat.le_of_ble_eq_true rfl) (Nat.le_of_ble_eq_true rfl) rfl (to_rc rfl rfl rfl (g_o hG rfl)) rfl ?_)
  obtain ⟨pz9, pzz9, qz9, qzz9, hpz9, hpzz9, hqz9, hqzz9, hpqz9⟩ := id jPQE
  refine C_130 hX (dp1 hd (by decide)) hG hpz9 hpzz9 hqz9 hqzz9 hpqz9 jPI jNI jQI (p := pz9) (pz := pzz9) (q := qz9) (qz := qzz9) (fun r10 M18 hG12 F11 p_13 p_14 p_15 p_16 p_17 => ?_)
  have n_19 : M18.1.2.1 = M.1.2.1 ∧ M18.1.2.2.1 = M.1.2.2.1 := by rw [F11.1]; exact ⟨rfl, rfl⟩
  refine to_popi (pc := 960) rw_0_960 (to_an (pc := 961) rw_0_961 rfl (s_v (pc := 962) rw_0_962 (dp0 hd (by decide)) (ls0 := [.ref 77, .null]) rfl (Nat.le_of_ble_eq_true rfl) (Nat.le_of_ble_eq_true rfl) rfl (to_rc rfl rfl rfl (g_o hG12 rfl)) rfl ?_))
  have c_21 : M18.2.1 77 28 = (M.2.1 77 28) := (F_n F11 (show ¬ (17 ≤ 77 ∧ 77 ≤ 27) by decide) rfl)
  have t_22 : (M18.2.1 77 28).toInt = (M.2.1 77 28).toInt := congrArg Int32.toInt c_21
  refine C_209 hX (dp1 hd (by decide)) hG12  (fun r23 M29 hG25 F24 p_26 p_27 p_28 => ?_)
  have n_30 : M29.1.2.1 = M18.1.2.1 ∧ M29.1.2.2.1 = M18.1.2.2.1 := by rw [F24.1]; exact ⟨rfl, rfl⟩
  refine to_popi (pc := 965) rw_0_965 (to_go (pc := 966) rw_0_966 ?_)
  have c_32 : M29.2.1 77 7 = (M.2.1 77 7) := (F_n F24 (show ¬ (77 = 77 ∧ (7 = 2 ∨ 7 = 41) ∨ 77 = 99 ∨ 77 = 100) by decide) (F_n F11 (show ¬ (17 ≤ 77 ∧ 77 ≤ 27) by decide) rfl))
  have t_33 : (M29.2.1 77 7).toInt = (M.2.1 77 7).toInt := congrArg Int32.toInt c_32
  have c_34 : M29.2.1 77 6 = (M.2.1 77 6) := (F_n F24 (show ¬ (77 = 77 ∧ (6 = 2 ∨ 6 = 41) ∨ 77 = 99 ∨ 77 = 100) by decide) (F_n F11 (show ¬ (17 ≤ 77 ∧ 77 ≤ 27) by decide) rfl))
  have t_35 : (M29.2.1 77 6).toInt = (M.2.1 77 6).toInt := congrArg Int32.toInt c_34
  have c_36 : M29.2.1 1 1 = (M.2.1 1 1) := (F_n F24 (show ¬ (1 = 77 ∧ (1 = 2 ∨ 1 = 41) ∨ 1 = 99 ∨ 1 = 100) by decide) (F_n F11 (show ¬ (17 ≤ 1 ∧ 1 ≤ 27) by decide) rfl))
  have t_37 : (M29.2.1 1 1).toInt = (M.2.1 1 1).toInt := congrArg Int32.toInt c_36
  have c_38 : M29.2.1 77 1 = (M.2.1 77 1) := (F_n F24 (show ¬ (77 = 77 ∧ (1 = 2 ∨ 1 = 41) ∨ 77 = 99 ∨ 77 = 100) by decide) (F_n F11 (show ¬ (17 ≤ 77 ∧ 77 ≤ 27) by decide) rfl))
  have t_39 : (M29.2.1 77 1).toInt = (M.2.1 77 1).toInt := congrArg Int32.toInt c_38
  have c_40 : M29.2.1 0 12 = (M.2.1 0 12) := (F_n F24 (show ¬ (0 = 77 ∧ (12 = 2 ∨ 12 = 41) ∨ 0 = 99 ∨ 0 = 100) by decide) (F_n F11 (show ¬ (17 ≤ 0 ∧ 0 ≤ 27) by decide) rfl))
  have t_41 : (M29.2.1 0 12).toInt = (M.2.1 0 12).toInt := congrArg Int32.toInt c_40
  have c_42 : M29.2.1 77 28 = (M.2.1 77 28) := (F_n F24 (show ¬ (77 = 77 ∧ (28 = 2 ∨ 28 = 41) ∨ 77 = 99 ∨ 77 = 100) by decide) c_21)
  have t_43 : (M29.2.1 77 28).toInt = (M.2.1 77 28).toInt := congrArg Int32.toInt c_42
  have c_44 : M29.2.1 17 4 = (M18.2.1 17 4) := (F_n F24 (show ¬ (17 = 77 ∧ (4 = 2 ∨ 4 = 41) ∨ 17 = 99 ∨ 17 = 100) by decide) rfl)
  have t_45 : (M29.2.1 17 4).toInt = (M18.2.1 17 4).toInt := congrArg Int32.toInt c_44
  have c_46 : M29.2.1 6 0 = (M.2.1 6 0) := (F_n F24 (show ¬ (6 = 77 ∧ (0 = 2 ∨ 0 = 41) ∨ 6 = 99 ∨ 6 = 100) by decide) (F_n F11 (show ¬ (17 ≤ 6 ∧ 6 ≤ 27) by decide) rfl))
  have t_47 : (M29.2.1 6 0).toInt = (M.2.1 6 0).toInt := congrArg Int32.toInt c_46
  have c_48 : M29.2.1 77 29 = (M.2.1 77 29) := (F_n F24 (show ¬ (77 = 77 ∧ (29 = 2 ∨ 29 = 41) ∨ 77 = 99 ∨ 77 = 100) by decide) (F_n F11 (show ¬ (17 ≤ 77 ∧ 77 ≤ 27) by decide) rfl))
  have t_49 : (M29.2.1 77 29).toInt = (M.2.1 77 29).toInt := congrArg Int32.toInt c_48
  have c_50 : M29.2.1 1 10 = (M.2.1 1 10) := (F_n F24 (show ¬ (1 = 77 ∧ (10 = 2 ∨ 10 = 41) ∨ 1 = 99 ∨ 1 = 100) by decide) (F_n F11 (show ¬ (17 ≤ 1 ∧ 1 ≤ 27) by decide) rfl))
  have t_51 : (M29.2.1 1 10).toInt = (M.2.1 1 10).toInt := congrArg Int32.toInt c_50
  have c_52 : M29.2.1 77 4 = (M.2.1 77 4) := (F_n F24 (show ¬ (77 = 77 ∧ (4 = 2 ∨ 4 = 41) ∨ 77 = 99 ∨ 77 = 100) by decide) (F_n F11 (show ¬ (17 ≤ 77 ∧ 77 ≤ 27) by decide) rfl))
  have t_53 : (M29.2.1 77 4).toInt = (M.2.1 77 4).toInt := congrArg Int32.toInt c_52
  have c_54 : M29.2.1 1 11 = (M.2.1 1 11) := (F_n F24 (show ¬ (1 = 77 ∧ (11 = 2 ∨ 11 = 41) ∨ 1 = 99 ∨ 1 = 100) by decide) (F_n F11 (show ¬ (17 ≤ 1 ∧ 1 ≤ 27) by decide) rfl))
  have t_55 : (M29.2.1 1 11).toInt = (M.2.1 1 11).toInt := congrArg Int32.toInt c_54
  have c_56 : M29.2.1 77 5 = (M.2.1 77 5) := (F_n F24 (show ¬ (77 = 77 ∧ (5 = 2 ∨ 5 = 41) ∨ 77 = 99 ∨ 77 = 100) by decide) (F_n F11 (show ¬ (17 ≤ 77 ∧ 77 ≤ 27) by decide) rfl))
  have t_57 : (M29.2.1 77 5).toInt = (M.2.1 77 5).toInt := congrArg Int32.toInt c_56
  have j_58 := (PI_f (tg_665 F24) p_15)
  have j_59 := (NI_f (tg_666 F24) p_16)
  have j_60 := (QI_f (tg_667 F24) p_17)
  have j_61 := (PQE_r F24.2.1 (PQE_r F11.2.1 jPQE))
  have j_62 := (FA_f (tg_668 F24) (FA_f (tg_669 F11) jFA))
  have j_63 := (WC_f (tg_670 F24) (WC_f (tg_671 F11) jWC))
  have j_64 := (NJ_f (tg_672 F24) (NJ_f (tg_673 F11) jNJ))
  have j_65 := (KQ_f (tg_674 F24) (KQ_f (tg_675 F11) jKQ))
  have j_66 := (TP_f (tg_676 F24) (TP_f (tg_677 F11) jTP))
  have j_67 := (W9_f (tg_678 F24) (W9_f (tg_679 F11) jW9))
  have j_68 := (AN_F F24 tg_750 (AN_F F11 tg_751 jAN))
  have j_69 := (NE_r F24.2.1 (NE_r F11.2.1 jNE))
  have j_70 := (W8_f (tg_680 F24) (W8_f (tg_681 F11) jW8))
  exact h M29 (u5) (u6) ⟨⟨⟨⟨⟨⟨⟨⟨⟨hG25, ⟨j_58, j_59, j_60, j_61⟩, ⟨j_62, j_63, j_64, p_28, j_65⟩, by (first | (clear hpz9 hpzz9 hqz9 hqzz9; omega) | (clear hpz9 hpzz9 hqz9; omega) | omega), by (first | (clear hpz9 hpzz9 hqz9 hqzz9; omega) | (clear hpz9 hpzz9 hqz9; omega) | omega)⟩, j_66, j_67⟩, j_69, by (first | (clear hpz9 hpzz9 hqz9 hqzz9; omega) | (clear hpz9 hpzz9 hqz9; omega) | omega)⟩, AN_a j_68⟩, by (first | (clear hpz9 hpzz9 hqz9 hqzz9; omega) | (clear hpz9 hpzz9 hqz9; omega) | omega)⟩, j_70⟩, by (first | (clear hpz9 hpzz9 hqz9 hqzz9; omega) | (clear hpz9 hpzz9 hqz9; omega) | omega)⟩, j_68⟩, by (first | (clear hpz9 hpzz9 hqz9 hqzz9; omega) | (clear hpz9 hpzz9 hqz9; omega) | omega), by (first | (clear hpz9 hpzz9 hqz9 hqzz9; omega) | (clear hpz9 hpzz9 hqz9; omega) | omega)⟩ (by (first | (clear hpz9 hpzz9 hqz9 hqzz9; omega) | (clear hpz9 hpzz9 hqz9; omega) | omega)) (by (first | (clear hpz9 hpzz9 hqz9 hqzz9; omega) | (clear hpz9 hpzz9 hqz9; omega) | omega))
