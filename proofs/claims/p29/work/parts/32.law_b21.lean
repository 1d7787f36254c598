set_option maxRecDepth 4000 in
set_option maxHeartbeats 0 in
theorem LW_21 {X : mm_X} {d L : Nat} {M : mm_M} {Q : Option Value → mm_M → Prop} {i : Int32} {u5 u6 : Value} (hX : g_X X) (hW : g_W X) (hW2 : g_W2 X) (hL : (X 0).1 = L) (h3 : L ≤ 3072) (hd : 40 ≤ d) (hi : 0 ≤ i.toInt) (hi2 : i.toInt + 6 ≤ (L : Int)) (H : LI10 M) (h : ∀ (M1 : mm_M) (v5 v6 : Value), LI10 M1 → M1.1.2.1 ≤ M.1.2.1 + 1 → M1.1.2.2.1 ≤ M.1.2.2.1 + 6 → mm_T X d 0 1313 [.ref mm_ext, .ref 0, .ref 77, .ref 125, .int i, v5, v6] [] M1 Q) : mm_T X d 0 956 [.ref mm_ext, .ref 0, .ref 77, .ref 125, .int i, u5, u6] [] M Q := by
  obtain ⟨⟨⟨⟨⟨⟨⟨⟨⟨hG, ⟨jPI, jNI, jQI, jPQE⟩, ⟨jFA, jWC, jNJ, jPS, jKQ⟩, jJ, jE⟩, jTP, jW9⟩, jNE, jCC⟩, -⟩, jOV⟩, jW8⟩, jNN⟩, jAN⟩, jG8, jPKA⟩ := H
  have b_1 := g_b hG (a := 77) (i := 7) (lo := 0) (hi := 500) rfl rfl
  have b_2 := g_b hG (a := 77) (i := 6) (lo := 0) (hi := 500) rfl rfl
  have b_3 := g_b hG (a := 1) (i := 1) (lo := 0) (hi := 500) rfl rfl
  have b_4 := g_b hG (a := 77) (i := 1) (lo := 0) (hi := 500) rfl rfl
  have b_5 := g_b hG (a := 0) (i := 12) (lo := 0) (hi := 30) rfl rfl
  have b_6 := g_b hG (a := 77) (i := 28) (lo := 0) (hi := 30) rfl rfl
  have b_7 := g_b hG (a := 6) (i := 0) (lo := 0) (hi := 150) rfl rfl
  have b_8 := g_b hG (a := 77) (i := 29) (lo := 0) (hi := 150) rfl rfl
  refine to_an (pc := 956) rw_0_956 rfl (s_v (pc := 957) rw_0_957 (dp0 hd (by decide)) (ls0 := [.ref 0, .null]) rfl (Nat.le_of_ble_eq_true rfl) (Nat.le_of_ble_eq_true rfl) rfl (to_rc rfl rfl rfl (g_o hG rfl)) rfl ?_)
  obtain ⟨pz9, pzz9, qz9, qzz9, hpz9, hpzz9, hqz9, hqzz9, hpqz9⟩ := id jPQE
  refine D_130 hX (dp1 hd (by decide)) hG hpz9 hpzz9 hqz9 hqzz9 hpqz9 jPI jNI jQI (p := pz9) (pz := pzz9) (q := qz9) (qz := qzz9) (fun r10 M19 hG12 F11 p_13 p_14 p_15 p_16 p_17 p_18 => ?_)
  have n_20 : M19.1.2.1 = M.1.2.1 ∧ M19.1.2.2.1 = M.1.2.2.1 := by rw [F11.1]; exact ⟨rfl, rfl⟩
  have c_22 : M19.2.1 0 12 = (M.2.1 0 12) := (F_n F11 (show ¬ (17 ≤ 0 ∧ 0 ≤ 27) by decide) rfl)
  have t_23 : (M19.2.1 0 12).toInt = (M.2.1 0 12).toInt := congrArg Int32.toInt c_22
  refine to_popi (pc := 960) rw_0_960 (to_an (pc := 961) rw_0_961 rfl (s_v (pc := 962) rw_0_962 (dp0 hd (by decide)) (ls0 := [.ref 77, .null]) rfl (Nat.le_of_ble_eq_true rfl) (Nat.le_of_ble_eq_true rfl) rfl (to_rc rfl rfl rfl (g_o hG12 rfl)) rfl ?_))
  have c_24 : M19.2.1 77 28 = (M.2.1 77 28) := (F_n F11 (show ¬ (17 ≤ 77 ∧ 77 ≤ 27) by decide) rfl)
  have t_25 : (M19.2.1 77 28).toInt = (M.2.1 77 28).toInt := congrArg Int32.toInt c_24
  refine D_209 hX (dp1 hd (by decide)) hG12  (fun r26 M33 hG28 F27 p_29 p_30 p_31 p_32 => ?_)
  have n_34 : M33.1.2.1 = M19.1.2.1 ∧ M33.1.2.2.1 = M19.1.2.2.1 := by rw [F27.1]; exact ⟨rfl, rfl⟩
  have c_36 : M33.2.1 0 12 = (M.2.1 0 12) := (F_n F27 (show ¬ (0 = 77 ∧ (12 = 2 ∨ 12 = 41) ∨ 0 = 99 ∨ 0 = 100) by decide) c_22)
  have t_37 : (M33.2.1 0 12).toInt = (M.2.1 0 12).toInt := congrArg Int32.toInt c_36
  have z_38 := PKA_i (ca := (M19.2.1 77 28).toInt) (by (first | (clear hpz9 hpzz9 hqz9 hqzz9; omega) | (clear hpz9 hpzz9 hqz9; omega) | omega)) (by rw [show (M19.2.1 77 28).toInt = (M.2.1 0 12).toInt by (first | (clear hpz9 hpzz9 hqz9 hqzz9; omega) | (clear hpz9 hpzz9 hqz9; omega) | omega)]; exact (PKc_f (fun a i z => (F_n F27 (show ¬ (a = 77 ∧ (i = 2 ∨ i = 41) ∨ a = 99 ∨ a = 100) by (first | (clear hpz9 hpzz9 hqz9 hqzz9; omega) | (clear hpz9 hpzz9 hqz9; omega) | omega)) rfl)) p_18)) p_32 (x_ga_g (by (first | (clear hpz9 hpzz9 hqz9 hqzz9; omega) | (clear hpz9 hpzz9 hqz9; omega) | omega)) (by (first | (clear hpz9 hpzz9 hqz9 hqzz9; omega) | (clear hpz9 hpzz9 hqz9; omega) | omega)))
  refine to_popi (pc := 965) rw_0_965 (to_go (pc := 966) rw_0_966 ?_)
  have c_39 : M33.2.1 77 7 = (M.2.1 77 7) := (F_n F27 (show ¬ (77 = 77 ∧ (7 = 2 ∨ 7 = 41) ∨ 77 = 99 ∨ 77 = 100) by decide) (F_n F11 (show ¬ (17 ≤ 77 ∧ 77 ≤ 27) by decide) rfl))
  have t_40 : (M33.2.1 77 7).toInt = (M.2.1 77 7).toInt := congrArg Int32.toInt c_39
  have c_41 : M33.2.1 77 6 = (M.2.1 77 6) := (F_n F27 (show ¬ (77 = 77 ∧ (6 = 2 ∨ 6 = 41) ∨ 77 = 99 ∨ 77 = 100) by decide) (F_n F11 (show ¬ (17 ≤ 77 ∧ 77 ≤ 27) by decide) rfl))
  have t_42 : (M33.2.1 77 6).toInt = (M.2.1 77 6).toInt := congrArg Int32.toInt c_41
  have c_43 : M33.2.1 1 1 = (M.2.1 1 1) := (F_n F27 (show ¬ (1 = 77 ∧ (1 = 2 ∨ 1 = 41) ∨ 1 = 99 ∨ 1 = 100) by decide) (F_n F11 (show ¬ (17 ≤ 1 ∧ 1 ≤ 27) by decide) rfl))
  have t_44 : (M33.2.1 1 1).toInt = (M.2.1 1 1).toInt := congrArg Int32.toInt c_43
  have c_45 : M33.2.1 77 1 = (M.2.1 77 1) := (F_n F27 (show ¬ (77 = 77 ∧ (1 = 2 ∨ 1 = 41) ∨ 77 = 99 ∨ 77 = 100) by decide) (F_n F11 (show ¬ (17 ≤ 77 ∧ 77 ≤ 27) by decide) rfl))
  have t_46 : (M33.2.1 77 1).toInt = (M.2.1 77 1).toInt := congrArg Int32.toInt c_45
  have c_47 : M33.2.1 77 28 = (M.2.1 77 28) := (F_n F27 (show ¬ (77 = 77 ∧ (28 = 2 ∨ 28 = 41) ∨ 77 = 99 ∨ 77 = 100) by decide) c_24)
  have t_48 : (M33.2.1 77 28).toInt = (M.2.1 77 28).toInt := congrArg Int32.toInt c_47
  have c_49 : M33.2.1 17 4 = (M19.2.1 17 4) := (F_n F27 (show ¬ (17 = 77 ∧ (4 = 2 ∨ 4 = 41) ∨ 17 = 99 ∨ 17 = 100) by decide) rfl)
  have t_50 : (M33.2.1 17 4).toInt = (M19.2.1 17 4).toInt := congrArg Int32.toInt c_49
  have c_51 : M33.2.1 6 0 = (M.2.1 6 0) := (F_n F27 (show ¬ (6 = 77 ∧ (0 = 2 ∨ 0 = 41) ∨ 6 = 99 ∨ 6 = 100) by decide) (F_n F11 (show ¬ (17 ≤ 6 ∧ 6 ≤ 27) by decide) rfl))
  have t_52 : (M33.2.1 6 0).toInt = (M.2.1 6 0).toInt := congrArg Int32.toInt c_51
  have c_53 : M33.2.1 77 29 = (M.2.1 77 29) := (F_n F27 (show ¬ (77 = 77 ∧ (29 = 2 ∨ 29 = 41) ∨ 77 = 99 ∨ 77 = 100) by decide) (F_n F11 (show ¬ (17 ≤ 77 ∧ 77 ≤ 27) by decide) rfl))
  have t_54 : (M33.2.1 77 29).toInt = (M.2.1 77 29).toInt := congrArg Int32.toInt c_53
  have j_55 := (PI_f (tg_663 F27) p_15)
  have j_56 := (NI_f (tg_664 F27) p_16)
  have j_57 := (QI_f (tg_665 F27) p_17)
  have j_58 := (PQE_r F27.2.1 (PQE_r F11.2.1 jPQE))
  have j_59 := (FA_f (tg_666 F27) (FA_f (tg_667 F11) jFA))
  have j_60 := (WC_f (tg_668 F27) (WC_f (tg_669 F11) jWC))
  have j_61 := (NJ_f (tg_670 F27) (NJ_f (tg_671 F11) jNJ))
  have j_62 := (KQ_f (tg_672 F27) (KQ_f (tg_673 F11) jKQ))
  have j_63 := (TP_f (tg_674 F27) (TP_f (tg_675 F11) jTP))
  have j_64 := (W9_f (tg_676 F27) (W9_f (tg_677 F11) jW9))
  have j_65 := (AN_F F27 tg_749 (AN_F F11 tg_750 jAN))
  have j_66 := (G8_F F27 (fun a i z => show ¬ (a = 77 ∧ (i = 2 ∨ i = 41) ∨ a = 99 ∨ a = 100) by (first | (clear hpz9 hpzz9 hqz9 hqzz9; omega) | (clear hpz9 hpzz9 hqz9; omega) | omega)) (G8_F F11 (fun a i z => show ¬ (17 ≤ a ∧ a ≤ 27) by (first | (clear hpz9 hpzz9 hqz9 hqzz9; omega) | (clear hpz9 hpzz9 hqz9; omega) | omega)) jG8))
  have j_67 := (NE_r F27.2.1 (NE_r F11.2.1 jNE))
  have j_68 := (W8_f (tg_678 F27) (W8_f (tg_679 F11) jW8))
  exact h M33 (u5) (u6) ⟨⟨⟨⟨⟨⟨⟨⟨⟨hG28, ⟨j_55, j_56, j_57, j_58⟩, ⟨j_59, j_60, j_61, p_31, j_62⟩, by (first | (clear hpz9 hpzz9 hqz9 hqzz9; omega) | (clear hpz9 hpzz9 hqz9; omega) | omega), by (first | (clear hpz9 hpzz9 hqz9 hqzz9; omega) | (clear hpz9 hpzz9 hqz9; omega) | omega)⟩, j_63, j_64⟩, j_67, by (first | (clear hpz9 hpzz9 hqz9 hqzz9; omega) | (clear hpz9 hpzz9 hqz9; omega) | omega)⟩, AN_a j_65⟩, by (first | (clear hpz9 hpzz9 hqz9 hqzz9; omega) | (clear hpz9 hpzz9 hqz9; omega) | omega)⟩, j_68⟩, by (first | (clear hpz9 hpzz9 hqz9 hqzz9; omega) | (clear hpz9 hpzz9 hqz9; omega) | omega)⟩, j_65⟩, j_66, z_38⟩ (by (first | (clear hpz9 hpzz9 hqz9 hqzz9; omega) | (clear hpz9 hpzz9 hqz9; omega) | omega)) (by (first | (clear hpz9 hpzz9 hqz9 hqzz9; omega) | (clear hpz9 hpzz9 hqz9; omega) | omega))
