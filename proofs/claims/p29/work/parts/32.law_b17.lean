set_option maxRecDepth 4000 in
set_option maxHeartbeats 0 in
theorem LW_17 {X : mm_X} {d L : Nat} {M : mm_M} {Q : Option Value → mm_M → Prop} {i : Int32} {u5 u6 : Value} (hX : g_X X) (hW : g_W X) (hW2 : g_W2 X) (hL : (X 0).1 = L) (h3 : L ≤ 3072) (hd : 40 ≤ d) (hi : 0 ≤ i.toInt) (hi2 : i.toInt + 6 ≤ (L : Int)) (H : LI10 M) (h : ∀ (M1 : mm_M) (v5 v6 : Value), LI10 M1 → M1.1.2.1 ≤ M.1.2.1 + 1 → M1.1.2.2.1 ≤ M.1.2.2.1 + 6 → mm_T X d 0 1313 [.ref mm_ext, .ref 0, .ref 77, .ref 125, .int i, v5, v6] [] M1 Q) : mm_T X d 0 812 [.ref mm_ext, .ref 0, .ref 77, .ref 125, .int i, u5, u6] [] M Q := by
  obtain ⟨⟨⟨⟨⟨⟨⟨⟨⟨hG, ⟨jPI, jNI, jQI, jPQE⟩, ⟨jFA, jWC, jNJ, jPS, jKQ⟩, jJ, jE⟩, jTP, jW9⟩, jNE, jCC⟩, -⟩, jOV⟩, jW8⟩, jNN⟩, jAN⟩, jG8, jPKA⟩ := H
  have b_1 := g_b hG (a := 77) (i := 7) (lo := 0) (hi := 500) rfl rfl
  have b_2 := g_b hG (a := 77) (i := 6) (lo := 0) (hi := 500) rfl rfl
  have b_3 := g_b hG (a := 1) (i := 1) (lo := 0) (hi := 500) rfl rfl
  have b_4 := g_b hG (a := 77) (i := 1) (lo := 0) (hi := 500) rfl rfl
  have b_5 := g_b hG (a := 0) (i := 12) (lo := 0) (hi := 30) rfl rfl
  have b_6 := g_b hG (a := 77) (i := 28) (lo := 0) (hi := 30) rfl rfl
  have b_7 := g_b hG (a := 6) (i := 0) (lo := 0) (hi := 150) rfl rfl
  have b_8 := g_b hG (a := 77) (i := 29) (lo := 0) (hi := 150) rfl rfl
  refine to_an (pc := 812) rw_0_812 rfl (to_an (pc := 813) rw_0_813 rfl (to_i (pc := 814) rw_0_814 rfl (to_c (pc := 816) rw_0_816 (x := (1 : Int32)) rfl rfl (s_add (pc := 817) rw_0_817 (A := i.toInt) (B := 1) rfl rfl (by omega) (fun v9 e10 => s_x0 (pc := 818) rw_0_818 hL (A := v9.toInt) rfl (by omega) (by omega) (fun v11 e12 => s_v (pc := 819) rw_0_819 (dp0 hd (by decide)) (ls0 := [.ref 0, .int v11]) rfl (Nat.le_of_ble_eq_true rfl) (Nat.le_of_ble_eq_true rfl) rfl (to_rc rfl rfl rfl (g_o hG rfl)) rfl ?_))))))
  obtain ⟨pz13, pzz13, qz13, qzz13, hpz13, hpzz13, hqz13, hqzz13, hpqz13⟩ := id jPQE
  refine E_126 hX (dp1 hd (by decide)) hG hpz13 hpzz13 hqz13 hqzz13 hpqz13 jPI jNI jQI (c := v11) (p := pz13) (pz := pzz13) (q := qz13) (qz := qzz13) (fun r14 M26 hG16 F15 p_17 p_18 p_19 p_20 p_21 p_22 p_23 p_24 p_25 => ?_)
  have n_27 : M26.1.2.1 = M.1.2.1 ∧ M26.1.2.2.1 = M.1.2.2.1 := by rw [F15.1]; exact ⟨rfl, rfl⟩
  refine to_popi (pc := 822) rw_0_822 (to_an (pc := 823) rw_0_823 rfl (to_an (pc := 824) rw_0_824 rfl (to_i (pc := 825) rw_0_825 rfl (to_c (pc := 827) rw_0_827 (x := (1 : Int32)) rfl rfl (s_addk (pc := 828) rw_0_828 (A := i.toInt) (B := 1) rfl rfl (by (first | (clear hpz13 hpzz13 hqz13 hqzz13 p_19 p_20 p_24 p_25; omega) | (clear hpz13 hpzz13 hqz13 hqzz13 p_20; omega) | (clear hpz13 hpzz13 hqz13 hqzz13; omega) | (clear hpz13 hpzz13 hqz13 p_19 p_20 p_24 p_25; omega) | omega)) (v := v9) e10 (s_x0k (pc := 829) rw_0_829 hL (A := v9.toInt) rfl (by (first | (clear hpz13 hpzz13 hqz13 hqzz13 p_19 p_20 p_24 p_25; omega) | (clear hpz13 hpzz13 hqz13 hqzz13 p_20; omega) | (clear hpz13 hpzz13 hqz13 hqzz13; omega) | (clear hpz13 hpzz13 hqz13 p_19 p_20 p_24 p_25; omega) | omega)) (by (first | (clear hpz13 hpzz13 hqz13 hqzz13 p_19 p_20 p_24 p_25; omega) | (clear hpz13 hpzz13 hqz13 hqzz13 p_20; omega) | (clear hpz13 hpzz13 hqz13 hqzz13; omega) | (clear hpz13 hpzz13 hqz13 p_19 p_20 p_24 p_25; omega) | omega)) (v := v11) e12 (s_v (pc := 830) rw_0_830 (dp0 hd (by decide)) (ls0 := [.ref 77, .int v11]) rfl (Nat.le_of_ble_eq_true rfl) (Nat.le_of_ble_eq_true rfl) rfl (to_rc rfl rfl rfl (g_o hG16 rfl)) rfl ?_)))))))
  have c_31 : M26.2.1 77 28 = (M.2.1 77 28) := (F_n F15 (show ¬ (77 = 17) by decide) rfl)
  have t_32 : (M26.2.1 77 28).toInt = (M.2.1 77 28).toInt := congrArg Int32.toInt c_31
  have c_33 : M26.2.1 77 41 = (M.2.1 77 41) := (F_n F15 (show ¬ (77 = 17) by decide) rfl)
  have t_34 : (M26.2.1 77 41).toInt = (M.2.1 77 41).toInt := congrArg Int32.toInt c_33
  refine E_203 hX (dp1 hd (by decide)) hG16 (c := v11) (fun r35 M44 hG37 F36 p_38 p_39 p_40 p_41 p_42 p_43 => ?_)
  have n_45 : M44.1.2.1 = M26.1.2.1 ∧ M44.1.2.2.1 = M26.1.2.2.1 := by rw [F36.1]; exact ⟨rfl, rfl⟩
  have c_47 : M44.2.1 17 4 = (M26.2.1 17 4) := (F_n F36 (show ¬ (17 = 77 ∧ (4 = 2 ∨ 4 = 41)) by decide) rfl)
  have t_48 : (M44.2.1 17 4).toInt = (M26.2.1 17 4).toInt := congrArg Int32.toInt c_47
  have c_49 : M44.2.1 6 0 = (M.2.1 6 0) := (F_n F36 (show ¬ (6 = 77 ∧ (0 = 2 ∨ 0 = 41)) by decide) (F_n F15 (show ¬ (6 = 17) by decide) rfl))
  have t_50 : (M44.2.1 6 0).toInt = (M.2.1 6 0).toInt := congrArg Int32.toInt c_49
  have c_51 : M44.2.1 77 29 = (M.2.1 77 29) := (F_n F36 (show ¬ (77 = 77 ∧ (29 = 2 ∨ 29 = 41)) by decide) (F_n F15 (show ¬ (77 = 17) by decide) rfl))
  have t_52 : (M44.2.1 77 29).toInt = (M.2.1 77 29).toInt := congrArg Int32.toInt c_51
  have z_53 : (M44.2.1 17 4).toInt = (M44.2.1 77 41).toInt := by
    by_cases g9 : 0 ≤ v11.toInt ∧ v11.toInt < (M.2.1 0 12).toInt
    · exact TV_e (M := M) (M1 := M26) (by (first | (clear hpz13 hpzz13 hqz13 hqzz13 p_19 p_20 p_24 p_25 p_40 p_41 p_42 p_43; omega) | (clear hpz13 hpzz13 hqz13 hqzz13 p_20 p_41; omega) | (clear hpz13 hpzz13 hqz13 hqzz13; omega) | (clear hpz13 hpzz13 hqz13 p_19 p_20 p_24 p_25 p_40 p_41 p_42 p_43; omega) | omega)) (p_25 (by (first | (clear hpz13 hpzz13 hqz13 hqzz13 p_19 p_20 p_24 p_25 p_40 p_41 p_42 p_43; omega) | (clear hpz13 hpzz13 hqz13 hqzz13 p_20 p_41; omega) | (clear hpz13 hpzz13 hqz13 hqzz13; omega) | (clear hpz13 hpzz13 hqz13 p_19 p_20 p_24 p_25 p_40 p_41 p_42 p_43; omega) | omega))) (F_n F36 (show ¬ (17 = 77 ∧ (4 = 2 ∨ 4 = 41)) by decide) rfl) (F_n F15 (show ¬ (77 = 17) by decide) rfl) (p_43 (by (first | (clear hpz13 hpzz13 hqz13 hqzz13 p_19 p_20 p_24 p_25 p_40 p_41 p_42 p_43; omega) | (clear hpz13 hpzz13 hqz13 hqzz13 p_20 p_41; omega) | (clear hpz13 hpzz13 hqz13 hqzz13; omega) | (clear hpz13 hpzz13 hqz13 p_19 p_20 p_24 p_25 p_40 p_41 p_42 p_43; omega) | omega)))
    · omega
  refine to_popi (pc := 833) rw_0_833 (to_go (pc := 834) rw_0_834 ?_)
  have c_54 : M44.2.1 77 7 = (M.2.1 77 7) := (F_n F36 (show ¬ (77 = 77 ∧ (7 = 2 ∨ 7 = 41)) by decide) (F_n F15 (show ¬ (77 = 17) by decide) rfl))
  have t_55 : (M44.2.1 77 7).toInt = (M.2.1 77 7).toInt := congrArg Int32.toInt c_54
  have c_56 : M44.2.1 77 6 = (M.2.1 77 6) := (F_n F36 (show ¬ (77 = 77 ∧ (6 = 2 ∨ 6 = 41)) by decide) (F_n F15 (show ¬ (77 = 17) by decide) rfl))
  have t_57 : (M44.2.1 77 6).toInt = (M.2.1 77 6).toInt := congrArg Int32.toInt c_56
  have c_58 : M44.2.1 1 1 = (M.2.1 1 1) := (F_n F36 (show ¬ (1 = 77 ∧ (1 = 2 ∨ 1 = 41)) by decide) (F_n F15 (show ¬ (1 = 17) by decide) rfl))
  have t_59 : (M44.2.1 1 1).toInt = (M.2.1 1 1).toInt := congrArg Int32.toInt c_58
  have c_60 : M44.2.1 77 1 = (M.2.1 77 1) := (F_n F36 (show ¬ (77 = 77 ∧ (1 = 2 ∨ 1 = 41)) by decide) (F_n F15 (show ¬ (77 = 17) by decide) rfl))
  have t_61 : (M44.2.1 77 1).toInt = (M.2.1 77 1).toInt := congrArg Int32.toInt c_60
  have c_62 : M44.2.1 0 12 = (M.2.1 0 12) := (F_n F36 (show ¬ (0 = 77 ∧ (12 = 2 ∨ 12 = 41)) by decide) (F_n F15 (show ¬ (0 = 17) by decide) rfl))
  have t_63 : (M44.2.1 0 12).toInt = (M.2.1 0 12).toInt := congrArg Int32.toInt c_62
  have c_64 : M44.2.1 77 28 = (M.2.1 77 28) := (F_n F36 (show ¬ (77 = 77 ∧ (28 = 2 ∨ 28 = 41)) by decide) c_31)
  have t_65 : (M44.2.1 77 28).toInt = (M.2.1 77 28).toInt := congrArg Int32.toInt c_64
  have j_66 := (PI_f (tg_631 F36) p_21)
  have j_67 := (NI_f (tg_632 F36) p_22)
  have j_68 := (QI_f (tg_633 F36) p_23)
  have j_69 := (PQE_r F36.2.1 (PQE_r F15.2.1 jPQE))
  have j_70 := (FA_f (tg_634 F36) (FA_f (tg_635 F15) jFA))
  have j_71 := (WC_f (tg_636 F36) (WC_f (tg_637 F15) jWC))
  have j_72 := (NJ_f (tg_638 F36) (NJ_f (tg_639 F15) jNJ))
  have j_73 := (PS_f (tg_640 F36) (PS_f (tg_641 F15) jPS))
  have j_74 := (KQ_f (tg_642 F36) (KQ_f (tg_643 F15) jKQ))
  have j_75 := (TP_f (tg_644 F36) (TP_f (tg_645 F15) jTP))
  have j_76 := (W9_f (tg_646 F36) (W9_f (tg_647 F15) jW9))
  have j_77 := (AN_F F36 tg_746 (AN_F F15 tg_747 jAN))
  have j_78 := (G8_F F36 (fun a i z => show ¬ (a = 77 ∧ (i = 2 ∨ i = 41)) by (first | (clear hpz13 hpzz13 hqz13 hqzz13 p_19 p_20 p_24 p_25 p_40 p_41 p_42 p_43; omega) | (clear hpz13 hpzz13 hqz13 hqzz13 p_20 p_41; omega) | (clear hpz13 hpzz13 hqz13 hqzz13; omega) | (clear hpz13 hpzz13 hqz13 p_19 p_20 p_24 p_25 p_40 p_41 p_42 p_43; omega) | omega)) (G8_F F15 (fun a i z => show ¬ (a = 17) by (first | (clear hpz13 hpzz13 hqz13 hqzz13 p_19 p_20 p_24 p_25 p_40 p_41 p_42 p_43; omega) | (clear hpz13 hpzz13 hqz13 hqzz13 p_20 p_41; omega) | (clear hpz13 hpzz13 hqz13 hqzz13; omega) | (clear hpz13 hpzz13 hqz13 p_19 p_20 p_24 p_25 p_40 p_41 p_42 p_43; omega) | omega)) jG8))
  have j_79 := (PKA_F F36 (fun a i z => show ¬ (a = 77 ∧ (i = 2 ∨ i = 41)) by (first | (clear hpz13 hpzz13 hqz13 hqzz13 p_19 p_20 p_24 p_25 p_40 p_41 p_42 p_43; omega) | (clear hpz13 hpzz13 hqz13 hqzz13 p_20 p_41; omega) | (clear hpz13 hpzz13 hqz13 hqzz13; omega) | (clear hpz13 hpzz13 hqz13 p_19 p_20 p_24 p_25 p_40 p_41 p_42 p_43; omega) | omega)) (PKA_F F15 (fun a i z => show ¬ (a = 17) by (first | (clear hpz13 hpzz13 hqz13 hqzz13 p_19 p_20 p_24 p_25 p_40 p_41 p_42 p_43; omega) | (clear hpz13 hpzz13 hqz13 hqzz13 p_20 p_41; omega) | (clear hpz13 hpzz13 hqz13 hqzz13; omega) | (clear hpz13 hpzz13 hqz13 p_19 p_20 p_24 p_25 p_40 p_41 p_42 p_43; omega) | omega)) jPKA))
  have j_80 := (NE_r F36.2.1 (NE_r F15.2.1 jNE))
  have j_81 := (W8_f (tg_648 F36) (W8_f (tg_649 F15) jW8))
  exact h M44 (u5) (u6) ⟨⟨⟨⟨⟨⟨⟨⟨⟨hG37, ⟨j_66, j_67, j_68, j_69⟩, ⟨j_70, j_71, j_72, j_73, j_74⟩, by (first | (clear hpz13 hpzz13 hqz13 hqzz13 p_19 p_20 p_24 p_25 p_40 p_41 p_42 p_43; omega) | (clear hpz13 hpzz13 hqz13 hqzz13 p_20 p_41; omega) | (clear hpz13 hpzz13 hqz13 hqzz13; omega) | (clear hpz13 hpzz13 hqz13 p_19 p_20 p_24 p_25 p_40 p_41 p_42 p_43; omega) | omega), by (first | (clear hpz13 hpzz13 hqz13 hqzz13 p_19 p_20 p_24 p_25 p_40 p_41 p_42 p_43; omega) | (clear hpz13 hpzz13 hqz13 hqzz13 p_20 p_41; omega) | (clear hpz13 hpzz13 hqz13 hqzz13; omega) | (clear hpz13 hpzz13 hqz13 p_19 p_20 p_24 p_25 p_40 p_41 p_42 p_43; omega) | omega)⟩, j_75, j_76⟩, j_80, by (first | (clear hpz13 hpzz13 hqz13 hqzz13 p_19 p_20 p_24 p_25 p_40 p_41 p_42 p_43; omega) | (clear hpz13 hpzz13 hqz13 hqzz13 p_20 p_41; omega) | (clear hpz13 hpzz13 hqz13 hqzz13; omega) | (clear hpz13 hpzz13 hqz13 p_19 p_20 p_24 p_25 p_40 p_41 p_42 p_43; omega) | omega)⟩, AN_a j_77⟩, by (first | (clear hpz13 hpzz13 hqz13 hqzz13 p_19 p_20 p_24 p_25 p_40 p_41 p_42 p_43; omega) | (clear hpz13 hpzz13 hqz13 hqzz13 p_20 p_41; omega) | (clear hpz13 hpzz13 hqz13 hqzz13; omega) | (clear hpz13 hpzz13 hqz13 p_19 p_20 p_24 p_25 p_40 p_41 p_42 p_43; omega) | omega)⟩, j_81⟩, by (first | (clear hpz13 hpzz13 hqz13 hqzz13 p_19 p_20 p_24 p_25 p_40 p_41 p_42 p_43; omega) | (clear hpz13 hpzz13 hqz13 hqzz13 p_20 p_41; omega) | (clear hpz13 hpzz13 hqz13 hqzz13; omega) | (clear hpz13 hpzz13 hqz13 p_19 p_20 p_24 p_25 p_40 p_41 p_42 p_43; omega) | omega)⟩, j_77⟩, j_78, j_79⟩ (by (first | (clear hpz13 hpzz13 hqz13 hqzz13 p_19 p_20 p_24 p_25 p_40 p_41 p_42 p_43; omega) | (clear hpz13 hpzz13 hqz13 hqzz13 p_20 p_41; omega) | (clear hpz13 hpzz13 hqz13 hqzz13; omega) | (clear hpz13 hpzz13 hqz13 p_19 p_20 p_24 p_25 p_40 p_41 p_42 p_43; omega) | omega)) (by (first | (clear hpz13 hpzz13 hqz13 hqzz13 p_19 p_20 p_24 p_25 p_40 p_41 p_42 p_43; omega) | (clear hpz13 hpzz13 hqz13 hqzz13 p_20 p_41; omega) | (clear hpz13 hpzz13 hqz13 hqzz13; omega) | (clear hpz13 hpzz13 hqz13 p_19 p_20 p_24 p_25 p_40 p_41 p_42 p_43; omega) | omega))
