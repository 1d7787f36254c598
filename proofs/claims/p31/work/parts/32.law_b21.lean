set_option maxRecDepth 4000 in
set_option maxHeartbeats 0 in
theorem LW_21 {X : mm_X} {d L : Nat} {M : mm_M} {Q : Option Value → mm_M → Prop} {i : Int32} {u5 u6 : Value} (hX : g_X X) (hW : g_W X) (hW2 : g_W2 X) (hL : (X 0).1 = L) (h3 : L ≤ 3072) (hd : 40 ≤ d) (hi : 0 ≤ i.toInt) (hi2 : i.toInt + 6 ≤ (L : Int)) (H : LI10 M) (h : ∀ (M1 : mm_M) (v5 v6 : Value), LI10 M1 → M1.1.2.1 ≤ M.1.2.1 + 1 → M1.1.2.2.1 ≤ M.1.2.2.1 + 6 → mm_T X d 0 1313 [.ref mm_ext, .ref 0, .ref 77, .ref 125, .int i, v5, v6] [] M1 Q) : mm_T X d 0 956 [.ref mm_ext, .ref 0, .ref 77, .ref 125, .int i, u5, u6] [] M Q := by
  obtain ⟨⟨⟨⟨⟨⟨⟨⟨⟨hG, ⟨jPI, jNI, jQI, jPQE⟩, ⟨jFA, jWC, jNJ, jPS, jKQ⟩, jJ, jE⟩, jTP, jW9⟩, jNE, jCC⟩, -⟩, jOV⟩, jW8⟩, jNN⟩, jAN⟩, jKNA, jDN, jPN⟩ := H
  have b_1 := g_b hG (a := 77) (i := 7) (lo := 0) (hi := 500) rfl rfl
  have b_2 := g_b hG (a := 77) (i := 6) (lo := 0) (hi := 500) rfl rfl
  have b_3 := g_b hG (a := 1) (i := 1) (lo := 0) (hi := 500) rfl rfl
  have b_4 := g_b hG (a := 77) (i := 1) (lo := 0) (hi := 500) rfl rfl
  have b_5 := g_b hG (a := 0) (i := 12) (lo := 0) (hi := 30) rfl rfl
  have b_6 := g_b hG (a := 77) (i := 28) (lo := 0) (hi := 30) rfl rfl
  have b_7 := g_b hG (a := 6) (i := 0) (lo := 0) (hi := 150) rfl rfl
  have b_8 := g_b hG (a := 77) (i := 29) (lo := 0) (hi := 150) rfl rfl
  have b_9 := g_b hG (a := 28) (i := 8) (lo := 0) (hi := 3000) rfl rfl
  have b_10 := g_b hG (a := 77) (i := 43) (lo := 0) (hi := 3000) rfl rfl
  refine to_an (pc := 956) rw_0_956 rfl (s_v (pc := 957) rw_0_957 (dp0 hd (by decide)) (ls0 := [.ref 0, .null]) rfl (Nat.le_of_ble_eq_true rfl) (Nat.le_of_ble_eq_true rfl) rfl (to_rc rfl rfl rfl (g_o hG rfl)) rfl ?_)
  obtain ⟨pz11, pzz11, qz11, qzz11, hpz11, hpzz11, hqz11, hqzz11, hpqz11⟩ := id jPQE
  refine C_130 hX (dp1 hd (by decide)) hG hpz11 hpzz11 hqz11 hqzz11 hpqz11 jPI jNI jQI (p := pz11) (pz := pzz11) (q := qz11) (qz := qzz11) (fun r12 M20 hG14 F13 p_15 p_16 p_17 p_18 p_19 => ?_)
  have n_21 : M20.1.2.1 = M.1.2.1 ∧ M20.1.2.2.1 = M.1.2.2.1 := by rw [F13.1]; exact ⟨rfl, rfl⟩
  refine to_popi (pc := 960) rw_0_960 (to_an (pc := 961) rw_0_961 rfl (s_v (pc := 962) rw_0_962 (dp0 hd (by decide)) (ls0 := [.ref 77, .null]) rfl (Nat.le_of_ble_eq_true rfl) (Nat.le_of_ble_eq_true rfl) rfl (to_rc rfl rfl rfl (g_o hG14 rfl)) rfl ?_))
  have c_23 : M20.2.1 77 28 = (M.2.1 77 28) := (F_n F13 (show ¬ (17 ≤ 77 ∧ 77 ≤ 27) by decide) rfl)
  have t_24 : (M20.2.1 77 28).toInt = (M.2.1 77 28).toInt := congrArg Int32.toInt c_23
  refine C_209 hX (dp1 hd (by decide)) hG14  (fun r25 M31 hG27 F26 p_28 p_29 p_30 => ?_)
  have n_32 : M31.1.2.1 = M20.1.2.1 ∧ M31.1.2.2.1 = M20.1.2.2.1 := by rw [F26.1]; exact ⟨rfl, rfl⟩
  refine to_popi (pc := 965) rw_0_965 (to_go (pc := 966) rw_0_966 ?_)
  have c_34 : M31.2.1 77 7 = (M.2.1 77 7) := (F_n F26 (show ¬ (77 = 77 ∧ (7 = 2 ∨ 7 = 41) ∨ 77 = 99 ∨ 77 = 100) by decide) (F_n F13 (show ¬ (17 ≤ 77 ∧ 77 ≤ 27) by decide) rfl))
  have t_35 : (M31.2.1 77 7).toInt = (M.2.1 77 7).toInt := congrArg Int32.toInt c_34
  have c_36 : M31.2.1 77 6 = (M.2.1 77 6) := (F_n F26 (show ¬ (77 = 77 ∧ (6 = 2 ∨ 6 = 41) ∨ 77 = 99 ∨ 77 = 100) by decide) (F_n F13 (show ¬ (17 ≤ 77 ∧ 77 ≤ 27) by decide) rfl))
  have t_37 : (M31.2.1 77 6).toInt = (M.2.1 77 6).toInt := congrArg Int32.toInt c_36
  have c_38 : M31.2.1 1 1 = (M.2.1 1 1) := (F_n F26 (show ¬ (1 = 77 ∧ (1 = 2 ∨ 1 = 41) ∨ 1 = 99 ∨ 1 = 100) by decide) (F_n F13 (show ¬ (17 ≤ 1 ∧ 1 ≤ 27) by decide) rfl))
  have t_39 : (M31.2.1 1 1).toInt = (M.2.1 1 1).toInt := congrArg Int32.toInt c_38
  have c_40 : M31.2.1 77 1 = (M.2.1 77 1) := (F_n F26 (show ¬ (77 = 77 ∧ (1 = 2 ∨ 1 = 41) ∨ 77 = 99 ∨ 77 = 100) by decide) (F_n F13 (show ¬ (17 ≤ 77 ∧ 77 ≤ 27) by decide) rfl))
  have t_41 : (M31.2.1 77 1).toInt = (M.2.1 77 1).toInt := congrArg Int32.toInt c_40
  have c_42 : M31.2.1 0 12 = (M.2.1 0 12) := (F_n F26 (show ¬ (0 = 77 ∧ (12 = 2 ∨ 12 = 41) ∨ 0 = 99 ∨ 0 = 100) by decide) (F_n F13 (show ¬ (17 ≤ 0 ∧ 0 ≤ 27) by decide) rfl))
  have t_43 : (M31.2.1 0 12).toInt = (M.2.1 0 12).toInt := congrArg Int32.toInt c_42
  have c_44 : M31.2.1 77 28 = (M.2.1 77 28) := (F_n F26 (show ¬ (77 = 77 ∧ (28 = 2 ∨ 28 = 41) ∨ 77 = 99 ∨ 77 = 100) by decide) c_23)
  have t_45 : (M31.2.1 77 28).toInt = (M.2.1 77 28).toInt := congrArg Int32.toInt c_44
  have c_46 : M31.2.1 17 4 = (M20.2.1 17 4) := (F_n F26 (show ¬ (17 = 77 ∧ (4 = 2 ∨ 4 = 41) ∨ 17 = 99 ∨ 17 = 100) by decide) rfl)
  have t_47 : (M31.2.1 17 4).toInt = (M20.2.1 17 4).toInt := congrArg Int32.toInt c_46
  have c_48 : M31.2.1 6 0 = (M.2.1 6 0) := (F_n F26 (show ¬ (6 = 77 ∧ (0 = 2 ∨ 0 = 41) ∨ 6 = 99 ∨ 6 = 100) by decide) (F_n F13 (show ¬ (17 ≤ 6 ∧ 6 ≤ 27) by decide) rfl))
  have t_49 : (M31.2.1 6 0).toInt = (M.2.1 6 0).toInt := congrArg Int32.toInt c_48
  have c_50 : M31.2.1 77 29 = (M.2.1 77 29) := (F_n F26 (show ¬ (77 = 77 ∧ (29 = 2 ∨ 29 = 41) ∨ 77 = 99 ∨ 77 = 100) by decide) (F_n F13 (show ¬ (17 ≤ 77 ∧ 77 ≤ 27) by decide) rfl))
  have t_51 : (M31.2.1 77 29).toInt = (M.2.1 77 29).toInt := congrArg Int32.toInt c_50
  have c_52 : M31.2.1 28 8 = (M.2.1 28 8) := (F_n F26 (show ¬ (28 = 77 ∧ (8 = 2 ∨ 8 = 41) ∨ 28 = 99 ∨ 28 = 100) by decide) (F_n F13 (show ¬ (17 ≤ 28 ∧ 28 ≤ 27) by decide) rfl))
  have t_53 : (M31.2.1 28 8).toInt = (M.2.1 28 8).toInt := congrArg Int32.toInt c_52
  have c_54 : M31.2.1 77 43 = (M.2.1 77 43) := (F_n F26 (show ¬ (77 = 77 ∧ (43 = 2 ∨ 43 = 41) ∨ 77 = 99 ∨ 77 = 100) by decide) (F_n F13 (show ¬ (17 ≤ 77 ∧ 77 ≤ 27) by decide) rfl))
  have t_55 : (M31.2.1 77 43).toInt = (M.2.1 77 43).toInt := congrArg Int32.toInt c_54
  have c_56 : M31.2.1 28 9 = (M.2.1 28 9) := (F_n F26 (show ¬ (28 = 77 ∧ (9 = 2 ∨ 9 = 41) ∨ 28 = 99 ∨ 28 = 100) by decide) (F_n F13 (show ¬ (17 ≤ 28 ∧ 28 ≤ 27) by decide) rfl))
  have t_57 : (M31.2.1 28 9).toInt = (M.2.1 28 9).toInt := congrArg Int32.toInt c_56
  have c_58 : M31.2.1 77 42 = (M.2.1 77 42) := (F_n F26 (show ¬ (77 = 77 ∧ (42 = 2 ∨ 42 = 41) ∨ 77 = 99 ∨ 77 = 100) by decide) (F_n F13 (show ¬ (17 ≤ 77 ∧ 77 ≤ 27) by decide) rfl))
  have t_59 : (M31.2.1 77 42).toInt = (M.2.1 77 42).toInt := congrArg Int32.toInt c_58
  have j_60 := (PI_f (tg_657 F26) p_17)
  have j_61 := (NI_f (tg_658 F26) p_18)
  have j_62 := (QI_f (tg_659 F26) p_19)
  have j_63 := (PQE_r F26.2.1 (PQE_r F13.2.1 jPQE))
  have j_64 := (FA_f (tg_660 F26) (FA_f (tg_661 F13) jFA))
  have j_65 := (WC_f (tg_662 F26) (WC_f (tg_663 F13) jWC))
  have j_66 := (NJ_f (tg_664 F26) (NJ_f (tg_665 F13) jNJ))
  have j_67 := (KQ_f (tg_666 F26) (KQ_f (tg_667 F13) jKQ))
  have j_68 := (TP_f (tg_668 F26) (TP_f (tg_669 F13) jTP))
  have j_69 := (W9_f (tg_670 F26) (W9_f (tg_671 F13) jW9))
  have j_70 := (AN_F F26 tg_743 (AN_F F13 tg_744 jAN))
  have j_71 := (KNA_F F26 (fun a i z => show ¬ (a = 77 ∧ (i = 2 ∨ i = 41) ∨ a = 99 ∨ a = 100) by (first | (clear hpz11 hpzz11 hqz11 hqzz11; omega) | (clear hpz11 hpzz11 hqz11; omega) | omega)) (KNA_F F13 (fun a i z => show ¬ (17 ≤ a ∧ a ≤ 27) by (first | (clear hpz11 hpzz11 hqz11 hqzz11; omega) | (clear hpz11 hpzz11 hqz11; omega) | omega)) jKNA))
  have j_72 := (NE_r F26.2.1 (NE_r F13.2.1 jNE))
  have j_73 := (W8_f (tg_672 F26) (W8_f (tg_673 F13) jW8))
  exact h M31 (u5) (u6) ⟨⟨⟨⟨⟨⟨⟨⟨⟨hG27, ⟨j_60, j_61, j_62, j_63⟩, ⟨j_64, j_65, j_66, p_30, j_67⟩, by (first | (clear hpz11 hpzz11 hqz11 hqzz11; omega) | (clear hpz11 hpzz11 hqz11; omega) | omega), by (first | (clear hpz11 hpzz11 hqz11 hqzz11; omega) | (clear hpz11 hpzz11 hqz11; omega) | omega)⟩, j_68, j_69⟩, j_72, by (first | (clear hpz11 hpzz11 hqz11 hqzz11; omega) | (clear hpz11 hpzz11 hqz11; omega) | omega)⟩, AN_a j_70⟩, by (first | (clear hpz11 hpzz11 hqz11 hqzz11; omega) | (clear hpz11 hpzz11 hqz11; omega) | omega)⟩, j_73⟩, by (first | (clear hpz11 hpzz11 hqz11 hqzz11; omega) | (clear hpz11 hpzz11 hqz11; omega) | omega)⟩, j_70⟩, j_71, by (first | (clear hpz11 hpzz11 hqz11 hqzz11; omega) | (clear hpz11 hpzz11 hqz11; omega) | omega), by (first | (clear hpz11 hpzz11 hqz11 hqzz11; omega) | (clear hpz11 hpzz11 hqz11; omega) | omega)⟩ (by (first | (clear hpz11 hpzz11 hqz11 hqzz11; omega) | (clear hpz11 hpzz11 hqz11; omega) | omega)) (by (first | (clear hpz11 hpzz11 hqz11 hqzz11; omega) | (clear hpz11 hpzz11 hqz11; omega) | omega))
