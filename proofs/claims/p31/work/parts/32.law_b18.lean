set_option maxRecDepth 4000 in
set_option maxHeartbeats 0 in
theorem LW_18 {X : mm_X} {d L : Nat} {M : mm_M} {Q : Option Value → mm_M → Prop} {i : Int32} {u5 u6 : Value} (hX : g_X X) (hW : g_W X) (hW2 : g_W2 X) (hL : (X 0).1 = L) (h3 : L ≤ 3072) (hd : 40 ≤ d) (hi : 0 ≤ i.toInt) (hi2 : i.toInt + 6 ≤ (L : Int)) (H : LI10 M) (h : ∀ (M1 : mm_M) (v5 v6 : Value), LI10 M1 → M1.1.2.1 ≤ M.1.2.1 + 1 → M1.1.2.2.1 ≤ M.1.2.2.1 + 6 → mm_T X d 0 1313 [.ref mm_ext, .ref 0, .ref 77, .ref 125, .int i, v5, v6] [] M1 Q) : mm_T X d 0 837 [.ref mm_ext, .ref 0, .ref 77, .ref 125, .int i, u5, u6] [] M Q := by
  obtain ⟨⟨⟨⟨⟨⟨⟨⟨⟨hG, ⟨jPI, jNI, jQI, jPQE⟩, ⟨jFA, jWC, jNJ, jPS, jKQ⟩, jJ, jE⟩, jTP, jW9⟩, jNE, jCC⟩, -⟩, jOV⟩, jW8⟩, jNN⟩, jAN⟩, jKNA, jDN, jPN⟩ := H
  have b_1 := g_b hG (a := 77) (i := 7) (lo := 0) (hi := 500) rfl rfl
  have b_2 := g_b hG (a := 77) (i := 6) (lo := 0) (hi := 500) rfl rfl
  have b_3 := g_b hG (a := 1) (i := 1) (lo := 0) (hi := 500) rfl rfl
  have b_4 := g_b hG (a := 77) (i := 1) (lo := 0) (hi := 500) rfl rfl
  have b_5 := g_b hG (a := 0) (i := 12) (lo := 0) (hi := 30) rfl rfl
  have b_6 := g_b hG (a := 77) (i := 28) (lo := 0) (hi := 30) rfl rfl
  have b_7 := g_b hG (a := 6) (i := 0) (lo := 0) (hi := 150) rfl rfl
  have b_8 := g_b hG (a := 77) (i := 29) (lo := 0) (hi := 150) rfl rfl
  have b_9 := g_b hG (a := 28) (i := 8) (lo := 0) (hi := 3000) rfl rfl
  have b_10 := g_b hG (a := 77) (i := 43) (lo := 0) (hi := 3000) rfl rfl
  refine to_an (pc := 837) rw_0_837 rfl (s_v (pc := 838) rw_0_838 (dp0 hd (by decide)) (ls0 := [.ref 0]) rfl (Nat.le_of_ble_eq_true rfl) (Nat.le_of_ble_eq_true rfl) rfl (to_rc rfl rfl rfl (g_o hG rfl)) rfl ?_)
  obtain ⟨pz11, pzz11, qz11, qzz11, hpz11, hpzz11, hqz11, hqzz11, hpqz11⟩ := id jPQE
  refine C_127 hX (dp1 hd (by decide)) hG hpz11 hpzz11 hqz11 hqzz11 hpqz11 (p := pz11) (pz := pzz11) (q := qz11) (qz := qzz11) (fun r12 M16 hG14 F13 p_15 => ?_)
  have n_17 : M16.1.2.1 = M.1.2.1 ∧ M16.1.2.2.1 = M.1.2.2.1 := by rw [F13.1]; exact ⟨rfl, rfl⟩
  refine to_popi (pc := 841) rw_0_841 (to_an (pc := 842) rw_0_842 rfl (s_v (pc := 843) rw_0_843 (dp0 hd (by decide)) (ls0 := [.ref 77]) rfl (Nat.le_of_ble_eq_true rfl) (Nat.le_of_ble_eq_true rfl) rfl (to_rc rfl rfl rfl (g_o hG14 rfl)) rfl ?_))
  have c_19 : M16.2.1 77 41 = (M.2.1 77 41) := (F_n F13 (show ¬ (77 < 0) by decide) rfl)
  have t_20 : (M16.2.1 77 41).toInt = (M.2.1 77 41).toInt := congrArg Int32.toInt c_19
  refine C_204 hX (dp1 hd (by decide)) hG14  (fun r21 M25 hG23 F22 p_24 => ?_)
  have n_26 : M25.1.2.1 = M16.1.2.1 ∧ M25.1.2.2.1 = M16.1.2.2.1 := by rw [F22.1]; exact ⟨rfl, rfl⟩
  refine to_popi (pc := 846) rw_0_846 (to_go (pc := 847) rw_0_847 ?_)
  have c_28 : M25.2.1 77 7 = (M.2.1 77 7) := (F_n F22 (show ¬ (77 = 77 ∧ 7 = 2) by decide) (F_n F13 (show ¬ (77 < 0) by decide) rfl))
  have t_29 : (M25.2.1 77 7).toInt = (M.2.1 77 7).toInt := congrArg Int32.toInt c_28
  have c_30 : M25.2.1 77 6 = (M.2.1 77 6) := (F_n F22 (show ¬ (77 = 77 ∧ 6 = 2) by decide) (F_n F13 (show ¬ (77 < 0) by decide) rfl))
  have t_31 : (M25.2.1 77 6).toInt = (M.2.1 77 6).toInt := congrArg Int32.toInt c_30
  have c_32 : M25.2.1 1 1 = (M.2.1 1 1) := (F_n F22 (show ¬ (1 = 77 ∧ 1 = 2) by decide) (F_n F13 (show ¬ (1 < 0) by decide) rfl))
  have t_33 : (M25.2.1 1 1).toInt = (M.2.1 1 1).toInt := congrArg Int32.toInt c_32
  have c_34 : M25.2.1 77 1 = (M.2.1 77 1) := (F_n F22 (show ¬ (77 = 77 ∧ 1 = 2) by decide) (F_n F13 (show ¬ (77 < 0) by decide) rfl))
  have t_35 : (M25.2.1 77 1).toInt = (M.2.1 77 1).toInt := congrArg Int32.toInt c_34
  have c_36 : M25.2.1 0 12 = (M.2.1 0 12) := (F_n F22 (show ¬ (0 = 77 ∧ 12 = 2) by decide) (F_n F13 (show ¬ (0 < 0) by decide) rfl))
  have t_37 : (M25.2.1 0 12).toInt = (M.2.1 0 12).toInt := congrArg Int32.toInt c_36
  have c_38 : M25.2.1 77 28 = (M.2.1 77 28) := (F_n F22 (show ¬ (77 = 77 ∧ 28 = 2) by decide) (F_n F13 (show ¬ (77 < 0) by decide) rfl))
  have t_39 : (M25.2.1 77 28).toInt = (M.2.1 77 28).toInt := congrArg Int32.toInt c_38
  have c_40 : M25.2.1 17 4 = (M.2.1 17 4) := (F_n F22 (show ¬ (17 = 77 ∧ 4 = 2) by decide) (F_n F13 (show ¬ (17 < 0) by decide) rfl))
  have t_41 : (M25.2.1 17 4).toInt = (M.2.1 17 4).toInt := congrArg Int32.toInt c_40
  have c_42 : M25.2.1 77 41 = (M.2.1 77 41) := (F_n F22 (show ¬ (77 = 77 ∧ 41 = 2) by decide) c_19)
  have t_43 : (M25.2.1 77 41).toInt = (M.2.1 77 41).toInt := congrArg Int32.toInt c_42
  have c_44 : M25.2.1 6 0 = (M.2.1 6 0) := (F_n F22 (show ¬ (6 = 77 ∧ 0 = 2) by decide) (F_n F13 (show ¬ (6 < 0) by decide) rfl))
  have t_45 : (M25.2.1 6 0).toInt = (M.2.1 6 0).toInt := congrArg Int32.toInt c_44
  have c_46 : M25.2.1 77 29 = (M.2.1 77 29) := (F_n F22 (show ¬ (77 = 77 ∧ 29 = 2) by decide) (F_n F13 (show ¬ (77 < 0) by decide) rfl))
  have t_47 : (M25.2.1 77 29).toInt = (M.2.1 77 29).toInt := congrArg Int32.toInt c_46
  have c_48 : M25.2.1 28 8 = (M.2.1 28 8) := (F_n F22 (show ¬ (28 = 77 ∧ 8 = 2) by decide) (F_n F13 (show ¬ (28 < 0) by decide) rfl))
  have t_49 : (M25.2.1 28 8).toInt = (M.2.1 28 8).toInt := congrArg Int32.toInt c_48
  have c_50 : M25.2.1 77 43 = (M.2.1 77 43) := (F_n F22 (show ¬ (77 = 77 ∧ 43 = 2) by decide) (F_n F13 (show ¬ (77 < 0) by decide) rfl))
  have t_51 : (M25.2.1 77 43).toInt = (M.2.1 77 43).toInt := congrArg Int32.toInt c_50
  have c_52 : M25.2.1 28 9 = (M.2.1 28 9) := (F_n F22 (show ¬ (28 = 77 ∧ 9 = 2) by decide) (F_n F13 (show ¬ (28 < 0) by decide) rfl))
  have t_53 : (M25.2.1 28 9).toInt = (M.2.1 28 9).toInt := congrArg Int32.toInt c_52
  have c_54 : M25.2.1 77 42 = (M.2.1 77 42) := (F_n F22 (show ¬ (77 = 77 ∧ 42 = 2) by decide) (F_n F13 (show ¬ (77 < 0) by decide) rfl))
  have t_55 : (M25.2.1 77 42).toInt = (M.2.1 77 42).toInt := congrArg Int32.toInt c_54
  have j_56 := (PI_f (tg_557 F22) (PI_f (tg_99 F13) jPI))
  have j_57 := (NI_f (tg_558 F22) (NI_f (tg_98 F13) jNI))
  have j_58 := (QI_f (tg_559 F22) (QI_f (tg_100 F13) jQI))
  have j_59 := (PQE_r F22.2.1 (PQE_r F13.2.1 jPQE))
  have j_60 := (FA_f (tg_560 F22) (FA_f (tg_299 F13) jFA))
  have j_61 := (WC_f (tg_561 F22) (WC_f (tg_562 F13) jWC))
  have j_62 := (NJ_f (tg_563 F22) (NJ_f (tg_102 F13) jNJ))
  have j_63 := (PS_f (tg_564 F22) (PS_f (tg_565 F13) jPS))
  have j_64 := (KQ_f (tg_566 F22) (KQ_f (tg_416 F13) jKQ))
  have j_65 := (TP_f (tg_567 F22) (TP_f (tg_568 F13) jTP))
  have j_66 := (W9_f (tg_569 F22) (W9_f (tg_46 F13) jW9))
  have j_67 := (AN_F F22 tg_633 (AN_F F13 tg_634 jAN))
  have j_68 := (KNA_F F22 (fun a i z => show ¬ (a = 77 ∧ i = 2) by (first | (clear hpz11 hpzz11 hqz11 hqzz11; omega) | (clear hpz11 hpzz11 hqz11; omega) | omega)) (KNA_F F13 (fun a i z => show ¬ (a < 0) by (first | (clear hpz11 hpzz11 hqz11 hqzz11; omega) | (clear hpz11 hpzz11 hqz11; omega) | omega)) jKNA))
  have j_69 := (NE_r F22.2.1 (NE_r F13.2.1 jNE))
  have j_70 := (W8_f (tg_570 F22) (W8_f (tg_571 F13) jW8))
  exact h M25 (u5) (u6) ⟨⟨⟨⟨⟨⟨⟨⟨⟨hG23, ⟨j_56, j_57, j_58, j_59⟩, ⟨j_60, j_61, j_62, j_63, j_64⟩, by (first | (clear hpz11 hpzz11 hqz11 hqzz11; omega) | (clear hpz11 hpzz11 hqz11; omega) | omega), by (first | (clear hpz11 hpzz11 hqz11 hqzz11; omega) | (clear hpz11 hpzz11 hqz11; omega) | omega)⟩, j_65, j_66⟩, j_69, by (first | (clear hpz11 hpzz11 hqz11 hqzz11; omega) | (clear hpz11 hpzz11 hqz11; omega) | omega)⟩, AN_a j_67⟩, by (first | (clear hpz11 hpzz11 hqz11 hqzz11; omega) | (clear hpz11 hpzz11 hqz11; omega) | omega)⟩, j_70⟩, by (first | (clear hpz11 hpzz11 hqz11 hqzz11; omega) | (clear hpz11 hpzz11 hqz11; omega) | omega)⟩, j_67⟩, j_68, by (first | (clear hpz11 hpzz11 hqz11 hqzz11; omega) | (clear hpz11 hpzz11 hqz11; omega) | omega), by (first | (clear hpz11 hpzz11 hqz11 hqzz11; omega) | (clear hpz11 hpzz11 hqz11; omega) | omega)⟩ (by (first | (clear hpz11 hpzz11 hqz11 hqzz11; omega) | (clear hpz11 hpzz11 hqz11; omega) | omega)) (by (first | (clear hpz11 hpzz11 hqz11 hqzz11; omega) | (clear hpz11 hpzz11 hqz11; omega) | omega))
