set_option maxRecDepth 4000 in
set_option maxHeartbeats 0 in
theorem LW_17 {X : mm_X} {d L : Nat} {M : mm_M} {Q : Option Value → mm_M → Prop} {i : Int32} {u5 u6 : Value} (hX : g_X X) (hW : g_W X) (hW2 : g_W2 X) (hL : (X 0).1 = L) (h3 : L ≤ 3072) (hd : 40 ≤ d) (hi : 0 ≤ i.toInt) (hi2 : i.toInt + 6 ≤ (L : Int)) (H : LI10 M) (h : ∀ (M1 : mm_M) (v5 v6 : Value), LI10 M1 → M1.1.2.1 ≤ M.1.2.1 + 1 → M1.1.2.2.1 ≤ M.1.2.2.1 + 6 → mm_T X d 0 1313 [.ref mm_ext, .ref 0, .ref 77, .ref 125, .int i, v5, v6] [] M1 Q) : mm_T X d 0 812 [.ref mm_ext, .ref 0, .ref 77, .ref 125, .int i, u5, u6] [] M Q := by
  obtain ⟨⟨⟨⟨⟨⟨⟨⟨⟨hG, ⟨jPI, jNI, jQI, jPQE⟩, ⟨jFA, jWC, jNJ, jPS, jKQ⟩, jJ, jE⟩, jTP, jW9⟩, jNE, jCC⟩, -⟩, jOV⟩, jW8⟩, jNN⟩, jAN⟩, jKNA, jDN, jPN⟩ := H
  have b_1 := g_b hG (a := 77) (i := 7) (lo := 0) (hi := 500) rfl rfl
  have b_2 := g_b hG (a := 77) (i := 6) (lo := 0) (hi := 500) rfl rfl
  have b_3 := g_b hG (a := 1) (i := 1) (lo := 0) (hi := 500) rfl rfl
  have b_4 := g_b hG (a := 77) (i := 1) (lo := 0) (hi := 500) rfl rfl
  have b_5 := g_b hG (a := 0) (i := 12) (lo := 0) (hi := 30) rfl rfl
  have b_6 := g_b hG (a := 77) (i := 28) (lo := 0) (hi := 30) rfl rfl
  have b_7 := g_b hG (a := 6) (i := 0) (lo := 0) (hi := 150) rfl rfl
  have b_8 := g_b hG (a := 77) (i := 29) (lo := 0) (hi := 150) rfl rfl
  have b_9 := g_b hG (a := 28) (i := 8) (lo := 0) (hi := 3000) rfl rfl
  have b_10 := g_b hG (a := 77) (i := 43) (lo := 0) (hi := 3000) rfl rfl
  refine to_an (pc := 812) rw_0_812 rfl (to_an (pc := 813) rw_0_813 rfl (to_i (pc := 814) rw_0_814 rfl (to_c (pc := 816) rw_0_816 (x := (1 : Int32)) rfl rfl (s_add (pc := 817) rw_0_817 (A := i.toInt) (B := 1) rfl rfl (by omega) (fun v11 e12 => s_x0 (pc := 818) rw_0_818 hL (A := v11.toInt) rfl (by omega) (by omega) (fun v13 e14 => s_v (pc := 819) rw_0_819 (dp0 hd (by decide)) (ls0 := [.ref 0, .int v13]) rfl (Nat.le_of_ble_eq_true rfl) (Nat.le_of_ble_eq_true rfl) rfl (to_rc rfl rfl rfl (g_o hG rfl)) rfl ?_))))))
  obtain ⟨pz15, pzz15, qz15, qzz15, hpz15, hpzz15, hqz15, hqzz15, hpqz15⟩ := id jPQE
  refine E_126 hX (dp1 hd (by decide)) hG hpz15 hpzz15 hqz15 hqzz15 hpqz15 jPI jNI jQI (c := v13) (p := pz15) (pz := pzz15) (q := qz15) (qz := qzz15) (fun r16 M28 hG18 F17 p_19 p_20 p_21 p_22 p_23 p_24 p_25 p_26 p_27 => ?_)
  have n_29 : M28.1.2.1 = M.1.2.1 ∧ M28.1.2.2.1 = M.1.2.2.1 := by rw [F17.1]; exact ⟨rfl, rfl⟩
  refine to_popi (pc := 822) rw_0_822 (to_an (pc := 823) rw_0_823 rfl (to_an (pc := 824) rw_0_824 rfl (to_i (pc := 825) rw_0_825 rfl (to_c (pc := 827) rw_0_827 (x := (1 : Int32)) rfl rfl (s_addk (pc := 828) rw_0_828 (A := i.toInt) (B := 1) rfl rfl (by (first | (clear hpz15 hpzz15 hqz15 hqzz15 p_21 p_22 p_26 p_27; omega) | (clear hpz15 hpzz15 hqz15 hqzz15 p_22; omega) | (clear hpz15 hpzz15 hqz15 hqzz15; omega) | (clear hpz15 hpzz15 hqz15 p_21 p_22 p_26 p_27; omega) | omega)) (v := v11) e12 (s_x0k (pc := 829) rw_0_829 hL (A := v11.toInt) rfl (by (first | (clear hpz15 hpzz15 hqz15 hqzz15 p_21 p_22 p_26 p_27; omega) | (clear hpz15 hpzz15 hqz15 hqzz15 p_22; omega) | (clear hpz15 hpzz15 hqz15 hqzz15; omega) | (clear hpz15 hpzz15 hqz15 p_21 p_22 p_26 p_27; omega) | omega)) (by (first | (clear hpz15 hpzz15 hqz15 hqzz15 p_21 p_22 p_26 p_27; omega) | (clear hpz15 hpzz15 hqz15 hqzz15 p_22; omega) | (clear hpz15 hpzz15 hqz15 hqzz15; omega) | (clear hpz15 hpzz15 hqz15 p_21 p_22 p_26 p_27; omega) | omega)) (v := v13) e14 (s_v (pc := 830) rw_0_830 (dp0 hd (by decide)) (ls0 := [.ref 77, .int v13]) rfl (Nat.le_of_ble_eq_true rfl) (Nat.le_of_ble_eq_true rfl) rfl (to_rc rfl rfl rfl (g_o hG18 rfl)) rfl ?_)))))))
  have c_33 : M28.2.1 77 28 = (M.2.1 77 28) := (F_n F17 (show ¬ (77 = 17) by decide) rfl)
  have t_34 : (M28.2.1 77 28).toInt = (M.2.1 77 28).toInt := congrArg Int32.toInt c_33
  have c_35 : M28.2.1 77 41 = (M.2.1 77 41) := (F_n F17 (show ¬ (77 = 17) by decide) rfl)
  have t_36 : (M28.2.1 77 41).toInt = (M.2.1 77 41).toInt := congrArg Int32.toInt c_35
  refine E_203 hX (dp1 hd (by decide)) hG18 (c := v13) (fun r37 M46 hG39 F38 p_40 p_41 p_42 p_43 p_44 p_45 => ?_)
  have n_47 : M46.1.2.1 = M28.1.2.1 ∧ M46.1.2.2.1 = M28.1.2.2.1 := by rw [F38.1]; exact ⟨rfl, rfl⟩
  have c_49 : M46.2.1 17 4 = (M28.2.1 17 4) := (F_n F38 (show ¬ (17 = 77 ∧ (4 = 2 ∨ 4 = 41)) by decide) rfl)
  have t_50 : (M46.2.1 17 4).toInt = (M28.2.1 17 4).toInt := congrArg Int32.toInt c_49
  have c_51 : M46.2.1 6 0 = (M.2.1 6 0) := (F_n F38 (show ¬ (6 = 77 ∧ (0 = 2 ∨ 0 = 41)) by decide) (F_n F17 (show ¬ (6 = 17) by decide) rfl))
  have t_52 : (M46.2.1 6 0).toInt = (M.2.1 6 0).toInt := congrArg Int32.toInt c_51
  have c_53 : M46.2.1 77 29 = (M.2.1 77 29) := (F_n F38 (show ¬ (77 = 77 ∧ (29 = 2 ∨ 29 = 41)) by decide) (F_n F17 (show ¬ (77 = 17) by decide) rfl))
  have t_54 : (M46.2.1 77 29).toInt = (M.2.1 77 29).toInt := congrArg Int32.toInt c_53
  have z_55 : (M46.2.1 17 4).toInt = (M46.2.1 77 41).toInt := by
    by_cases g9 : 0 ≤ v13.toInt ∧ v13.toInt < (M.2.1 0 12).toInt
    · exact TV_e (M := M) (M1 := M28) (by (first | (clear hpz15 hpzz15 hqz15 hqzz15 p_21 p_22 p_26 p_27 p_42 p_43 p_44 p_45; omega) | (clear hpz15 hpzz15 hqz15 hqzz15 p_22 p_43; omega) | (clear hpz15 hpzz15 hqz15 hqzz15; omega) | (clear hpz15 hpzz15 hqz15 p_21 p_22 p_26 p_27 p_42 p_43 p_44 p_45; omega) | omega)) (p_27 (by (first | (clear hpz15 hpzz15 hqz15 hqzz15 p_21 p_22 p_26 p_27 p_42 p_43 p_44 p_45; omega) | (clear hpz15 hpzz15 hqz15 hqzz15 p_22 p_43; omega) | (clear hpz15 hpzz15 hqz15 hqzz15; omega) | (clear hpz15 hpzz15 hqz15 p_21 p_22 p_26 p_27 p_42 p_43 p_44 p_45; omega) | omega))) (F_n F38 (show ¬ (17 = 77 ∧ (4 = 2 ∨ 4 = 41)) by decide) rfl) (F_n F17 (show ¬ (77 = 17) by decide) rfl) (p_45 (by (first | (clear hpz15 hpzz15 hqz15 hqzz15 p_21 p_22 p_26 p_27 p_42 p_43 p_44 p_45; omega) | (clear hpz15 hpzz15 hqz15 hqzz15 p_22 p_43; omega) | (clear hpz15 hpzz15 hqz15 hqzz15; omega) | (clear hpz15 hpzz15 hqz15 p_21 p_22 p_26 p_27 p_42 p_43 p_44 p_45; omega) | omega)))
    · omega
  refine to_popi (pc := 833) rw_0_833 (to_go (pc := 834) rw_0_834 ?_)
  have c_56 : M46.2.1 77 7 = (M.2.1 77 7) := (F_n F38 (show ¬ (77 = 77 ∧ (7 = 2 ∨ 7 = 41)) by decide) (F_n F17 (show ¬ (77 = 17) by decide) rfl))
  have t_57 : (M46.2.1 77 7).toInt = (M.2.1 77 7).toInt := congrArg Int32.toInt c_56
  have c_58 : M46.2.1 77 6 = (M.2.1 77 6) := (F_n F38 (show ¬ (77 = 77 ∧ (6 = 2 ∨ 6 = 41)) by decide) (F_n F17 (show ¬ (77 = 17) by decide) rfl))
  have t_59 : (M46.2.1 77 6).toInt = (M.2.1 77 6).toInt := congrArg Int32.toInt c_58
  have c_60 : M46.2.1 1 1 = (M.2.1 1 1) := (F_n F38 (show ¬ (1 = 77 ∧ (1 = 2 ∨ 1 = 41)) by decide) (F_n F17 (show ¬ (1 = 17) by decide) rfl))
  have t_61 : (M46.2.1 1 1).toInt = (M.2.1 1 1).toInt := congrArg Int32.toInt c_60
  have c_62 : M46.2.1 77 1 = (M.2.1 77 1) := (F_n F38 (show ¬ (77 = 77 ∧ (1 = 2 ∨ 1 = 41)) by decide) (F_n F17 (show ¬ (77 = 17) by decide) rfl))
  have t_63 : (M46.2.1 77 1).toInt = (M.2.1 77 1).toInt := congrArg Int32.toInt c_62
  have c_64 : M46.2.1 0 12 = (M.2.1 0 12) := (F_n F38 (show ¬ (0 = 77 ∧ (12 = 2 ∨ 12 = 41)) by decide) (F_n F17 (show ¬ (0 = 17) by decide) rfl))
  have t_65 : (M46.2.1 0 12).toInt = (M.2.1 0 12).toInt := congrArg Int32.toInt c_64
  have c_66 : M46.2.1 77 28 = (M.2.1 77 28) := (F_n F38 (show ¬ (77 = 77 ∧ (28 = 2 ∨ 28 = 41)) by decide) c_33)
  have t_67 : (M46.2.1 77 28).toInt = (M.2.1 77 28).toInt := congrArg Int32.toInt c_66
  have c_68 : M46.2.1 28 8 = (M.2.1 28 8) := (F_n F38 (show ¬ (28 = 77 ∧ (8 = 2 ∨ 8 = 41)) by decide) (F_n F17 (show ¬ (28 = 17) by decide) rfl))
  have t_69 : (M46.2.1 28 8).toInt = (M.2.1 28 8).toInt := congrArg Int32.toInt c_68
  have c_70 : M46.2.1 77 43 = (M.2.1 77 43) := (F_n F38 (show ¬ (77 = 77 ∧ (43 = 2 ∨ 43 = 41)) by decide) (F_n F17 (show ¬ (77 = 17) by decide) rfl))
  have t_71 : (M46.2.1 77 43).toInt = (M.2.1 77 43).toInt := congrArg Int32.toInt c_70
  have c_72 : M46.2.1 28 9 = (M.2.1 28 9) := (F_n F38 (show ¬ (28 = 77 ∧ (9 = 2 ∨ 9 = 41)) by decide) (F_n F17 (show ¬ (28 = 17) by decide) rfl))
  have t_73 : (M46.2.1 28 9).toInt = (M.2.1 28 9).toInt := congrArg Int32.toInt c_72
  have c_74 : M46.2.1 77 42 = (M.2.1 77 42) := (F_n F38 (show ¬ (77 = 77 ∧ (42 = 2 ∨ 42 = 41)) by decide) (F_n F17 (show ¬ (77 = 17) by decide) rfl))
  have t_75 : (M46.2.1 77 42).toInt = (M.2.1 77 42).toInt := congrArg Int32.toInt c_74
  have j_76 := (PI_f (tg_638 F38) p_23)
  have j_77 := (NI_f (tg_639 F38) p_24)
  have j_78 := (QI_f (tg_640 F38) p_25)
  have j_79 := (PQE_r F38.2.1 (PQE_r F17.2.1 jPQE))
  have j_80 := (FA_f (tg_641 F38) (FA_f (tg_642 F17) jFA))
  have j_81 := (WC_f (tg_643 F38) (WC_f (tg_644 F17) jWC))
  have j_82 := (NJ_f (tg_645 F38) (NJ_f (tg_646 F17) jNJ))
  have j_83 := (PS_f (tg_647 F38) (PS_f (tg_648 F17) jPS))
  have j_84 := (KQ_f (tg_649 F38) (KQ_f (tg_650 F17) jKQ))
  have j_85 := (TP_f (tg_651 F38) (TP_f (tg_652 F17) jTP))
  have j_86 := (W9_f (tg_653 F38) (W9_f (tg_654 F17) jW9))
  have j_87 := (AN_F F38 tg_741 (AN_F F17 tg_742 jAN))
  have j_88 := (KNA_F F38 (fun a i z => show ¬ (a = 77 ∧ (i = 2 ∨ i = 41)) by (first | (clear hpz15 hpzz15 hqz15 hqzz15 p_21 p_22 p_26 p_27 p_42 p_43 p_44 p_45; omega) | (clear hpz15 hpzz15 hqz15 hqzz15 p_22 p_43; omega) | (clear hpz15 hpzz15 hqz15 hqzz15; omega) | (clear hpz15 hpzz15 hqz15 p_21 p_22 p_26 p_27 p_42 p_43 p_44 p_45; omega) | omega)) (KNA_F F17 (fun a i z => show ¬ (a = 17) by (first | (clear hpz15 hpzz15 hqz15 hqzz15 p_21 p_22 p_26 p_27 p_42 p_43 p_44 p_45; omega) | (clear hpz15 hpzz15 hqz15 hqzz15 p_22 p_43; omega) | (clear hpz15 hpzz15 hqz15 hqzz15; omega) | (clear hpz15 hpzz15 hqz15 p_21 p_22 p_26 p_27 p_42 p_43 p_44 p_45; omega) | omega)) jKNA))
  have j_89 := (NE_r F38.2.1 (NE_r F17.2.1 jNE))
  have j_90 := (W8_f (tg_655 F38) (W8_f (tg_656 F17) jW8))
  exact h M46 (u5) (u6) ⟨⟨⟨⟨⟨⟨⟨⟨⟨hG39, ⟨j_76, j_77, j_78, j_79⟩, ⟨j_80, j_81, j_82, j_83, j_84⟩, by (first | (clear hpz15 hpzz15 hqz15 hqzz15 p_21 p_22 p_26 p_27 p_42 p_43 p_44 p_45; omega) | (clear hpz15 hpzz15 hqz15 hqzz15 p_22 p_43; omega) | (clear hpz15 hpzz15 hqz15 hqzz15; omega) | (clear hpz15 hpzz15 hqz15 p_21 p_22 p_26 p_27 p_42 p_43 p_44 p_45; omega) | omega), by (first | (clear hpz15 hpzz15 hqz15 hqzz15 p_21 p_22 p_26 p_27 p_42 p_43 p_44 p_45; omega) | (clear hpz15 hpzz15 hqz15 hqzz15 p_22 p_43; omega) | (clear hpz15 hpzz15 hqz15 hqzz15; omega) | (clear hpz15 hpzz15 hqz15 p_21 p_22 p_26 p_27 p_42 p_43 p_44 p_45; omega) | omega)⟩, j_85, j_86⟩, j_89, by (first | (clear hpz15 hpzz15 hqz15 hqzz15 p_21 p_22 p_26 p_27 p_42 p_43 p_44 p_45; omega) | (clear hpz15 hpzz15 hqz15 hqzz15 p_22 p_43; omega) | (clear hpz15 hpzz15 hqz15 hqzz15; omega) | (clear hpz15 hpzz15 hqz15 p_21 p_22 p_26 p_27 p_42 p_43 p_44 p_45; omega) | omega)⟩, AN_a j_87⟩, by (first | (clear hpz15 hpzz15 hqz15 hqzz15 p_21 p_22 p_26 p_27 p_42 p_43 p_44 p_45; omega) | (clear hpz15 hpzz15 hqz15 hqzz15 p_22 p_43; omega) | (clear hpz15 hpzz15 hqz15 hqzz15; omega) | (clear hpz15 hpzz15 hqz15 p_21 p_22 p_26 p_27 p_42 p_43 p_44 p_45; omega) | omega)⟩, j_90⟩, by (first | (clear hpz15 hpzz15 hqz15 hqzz15 p_21 p_22 p_26 p_27 p_42 p_43 p_44 p_45; omega) | (clear hpz15 hpzz15 hqz15 hqzz15 p_22 p_43; omega) | (clear hpz15 hpzz15 hqz15 hqzz15; omega) | (clear hpz15 hpzz15 hqz15 p_21 p_22 p_26 p_27 p_42 p_43 p_44 p_45; omega) | omega)⟩, j_87⟩, j_88, by (first | (clear hpz15 hpzz15 hqz15 hqzz15 p_21 p_22 p_26 p_27 p_42 p_43 p_44 p_45; omega) | (clear hpz15 hpzz15 hqz15 hqzz15 p_22 p_43; omega) | (clear hpz15 hpzz15 hqz15 hqzz15; omega) | (clear hpz15 hpzz15 hqz15 p_21 p_22 p_26 p_27 p_42 p_43 p_44 p_45; omega) | omega), by (first | (clear hpz15 hpzz15 hqz15 hqzz15 p_21 p_22 p_26 p_27 p_42 p_43 p_44 p_45; omega) | (clear hpz15 hpzz15 hqz15 hqzz15 p_22 p_43; omega) | (clear hpz15 hpzz15 hqz15 hqzz15; omega) | (clear hpz15 hpzz15 hqz15 p_21 p_22 p_26 p_27 p_42 p_43 p_44 p_45; omega) | omega)⟩ (by (first | (clear hpz15 hpzz15 hqz15 hqzz15 p_21 p_22 p_26 p_27 p_42 p_43 p_44 p_45; omega) | (clear hpz15 hpzz15 hqz15 hqzz15 p_22 p_43; omega) | (clear hpz15 hpzz15 hqz15 hqzz15; omega) | (clear hpz15 hpzz15 hqz15 p_21 p_22 p_26 p_27 p_42 p_43 p_44 p_45; omega) | omega)) (by (first | (clear hpz15 hpzz15 hqz15 hqzz15 p_21 p_22 p_26 p_27 p_42 p_43 p_44 p_45; omega) | (clear hpz15 hpzz15 hqz15 hqzz15 p_22 p_43; omega) | (clear hpz15 hpzz15 hqz15 hqzz15; omega) | (clear hpz15 hpzz15 hqz15 p_21 p_22 p_26 p_27 p_42 p_43 p_44 p_45; omega) | omega))
