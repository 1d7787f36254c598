set_option maxRecDepth 4000 in
set_option maxHeartbeats 0 in
theorem LW_20 {X : mm_X} {d L : Nat} {M : mm_M} {Q : Option Value → mm_M → Prop} {i : Int32} {u5 u6 : Value} (hX : g_X X) (hW : g_W X) (hW2 : g_W2 X) (hL : (X 0).1 = L) (h3 : L ≤ 3072) (hd : 40 ≤ d) (hi : 0 ≤ i.toInt) (hi2 : i.toInt + 6 ≤ (L : Int)) (H : LI10 M) (h : ∀ (M1 : mm_M) (v5 v6 : Value), LI10 M1 → M1.1.2.1 ≤ M.1.2.1 + 1 → M1.1.2.2.1 ≤ M.1.2.2.1 + 6 → mm_T X d 0 1313 [.ref mm_ext, .ref 0, .ref 77, .ref 125, .int i, v5, v6] [] M1 Q) : mm_T X d 0 887 [.ref mm_ext, .ref 0, .ref 77, .ref 125, .int i, u5, u6] [] M Q := by
  obtain ⟨⟨⟨⟨⟨⟨⟨⟨⟨hG, ⟨jPI, jNI, jQI, jPQE⟩, ⟨jFA, jWC, jNJ, jPS, jKQ⟩, jJ, jE⟩, jTP, jW9⟩, jNE, jCC⟩, -⟩, jOV⟩, jW8⟩, jNN⟩, jAN⟩, jFF, jFP⟩ := H
  have b_1 := g_b hG (a := 77) (i := 7) (lo := 0) (hi := 500) rfl rfl
  have b_2 := g_b hG (a := 77) (i := 6) (lo := 0) (hi := 500) rfl rfl
  have b_3 := g_b hG (a := 1) (i := 1) (lo := 0) (hi := 500) rfl rfl
  have b_4 := g_b hG (a := 77) (i := 1) (lo := 0) (hi := 500) rfl rfl
  have b_5 := g_b hG (a := 0) (i := 12) (lo := 0) (hi := 30) rfl rfl
  have b_6 := g_b hG (a := 77) (i := 28) (lo := 0) (hi := 30) rfl rfl
  have b_7 := g_b hG (a := 6) (i := 0) (lo := 0) (hi := 150) rfl rfl
  have b_8 := g_b hG (a := 77) (i := 29) (lo := 0) (hi := 150) rfl rfl
  refine to_an (pc := 887) rw_0_887 rfl (to_an (pc := 888) rw_0_888 rfl (to_i (pc := 889) rw_0_889 rfl (to_c (pc := 891) rw_0_891 (x := (1 : Int32)) rfl rfl (s_add (pc := 892) rw_0_892 (A := i.toInt) (B := 1) rfl rfl (by omega) (fun v9 e10 => s_x0 (pc := 893) rw_0_893 hL (A := v9.toInt) rfl (by omega) (by omega) (fun v11 e12 => to_an (pc := 894) rw_0_894 rfl (to_i (pc := 895) rw_0_895 rfl (to_c (pc := 897) rw_0_897 (x := (2 : Int32)) rfl rfl (s_add (pc := 898) rw_0_898 (A := i.toInt) (B := 2) rfl rfl (by omega) (fun v13 e14 => s_x0 (pc := 899) rw_0_899 hL (A := v13.toInt) rfl (by omega) (by omega) (fun v15 e16 => s_i2l (pc := 900) rw_0_900 (fun l17 e18 => ?_))))))))))))
  refine to_c (pc := 901) rw_0_901 (x := (32 : Int32)) rfl rfl (s_anyS (pc := 903) rw_0_903 (fun _ _ => rfl) (fun l19 => to_an (pc := 904) rw_0_904 rfl (to_i (pc := 905) rw_0_905 rfl (to_c (pc := 907) rw_0_907 (x := (3 : Int32)) rfl rfl (s_add (pc := 908) rw_0_908 (A := i.toInt) (B := 3) rfl rfl (by omega) (fun v20 e21 => s_x0 (pc := 909) rw_0_909 hL (A := v20.toInt) rfl (by omega) (by omega) (fun v22 e23 => s_i2l (pc := 910) rw_0_910 (fun l24 e25 => s_cl (pc := 911) rw_0_911 rfl (fun l26 => s_anyL (pc := 914) rw_0_914 (fun _ _ => rfl) (fun l27 => s_anyL (pc := 915) rw_0_915 (fun _ _ => rfl) (fun l28 => s_v (pc := 916) rw_0_916 (dp0 hd (by decide)) (ls0 := [.ref 0, .int v11, .long l28, .null]) rfl (Nat.le_of_ble_eq_true rfl) (Nat.le_of_ble_eq_true rfl) rfl (to_rc rfl rfl rfl (g_o hG rfl)) rfl ?_)))))))))))
  obtain ⟨pz29, pzz29, qz29, qzz29, hpz29, hpzz29, hqz29, hqzz29, hpqz29⟩ := id jPQE
  refine C_129 hX (dp1 hd (by decide)) hG hpz29 hpzz29 hqz29 hqzz29 hpqz29 jNI jPI jQI (k := v11) (x := l28) (p := pz29) (pz := pzz29) (q := qz29) (qz := qzz29) (fun r30 M36 hG32 F31 p_33 p_34 p_35 => ?_)
  have n_37 : M36.1.2.1 = M.1.2.1 ∧ M36.1.2.2.1 = M.1.2.2.1 := by rw [F31.1]; exact ⟨rfl, rfl⟩
  refine to_popi (pc := 919) rw_0_919 (to_an (pc := 920) rw_0_920 rfl (to_an (pc := 921) rw_0_921 rfl (to_i (pc := 922) rw_0_922 rfl (to_c (pc := 924) rw_0_924 (x := (1 : Int32)) rfl rfl (s_addk (pc := 925) rw_0_925 (A := i.toInt) (B := 1) rfl rfl (by (first | (clear hpz29 hpzz29 hqz29 hqzz29; omega) | (clear hpz29 hpzz29 hqz29; omega) | omega)) (v := v9) e10 (s_x0k (pc := 926) rw_0_926 hL (A := v9.toInt) rfl (by (first | (clear hpz29 hpzz29 hqz29 hqzz29; omega) | (clear hpz29 hpzz29 hqz29; omega) | omega)) (by (first | (clear hpz29 hpzz29 hqz29 hqzz29; omega) | (clear hpz29 hpzz29 hqz29; omega) | omega)) (v := v11) e12 (to_an (pc := 927) rw_0_927 rfl (to_i (pc := 928) rw_0_928 rfl (to_c (pc := 930) rw_0_930 (x := (2 : Int32)) rfl rfl (s_addk (pc := 931) rw_0_931 (A := i.toInt) (B := 2) rfl rfl (by (first | (clear hpz29 hpzz29 hqz29 hqzz29; omega) | (clear hpz29 hpzz29 hqz29; omega) | omega)) (v := v13) e14 (s_x0k (pc := 932) rw_0_932 hL (A := v13.toInt) rfl (by (first | (clear hpz29 hpzz29 hqz29 hqzz29; omega) | (clear hpz29 hpzz29 hqz29; omega) | omega)) (by (first | (clear hpz29 hpzz29 hqz29 hqzz29; omega) | (clear hpz29 hpzz29 hqz29; omega) | omega)) (v := v15) e16 ?_)))))))))))
  refine s_i2l (pc := 933) rw_0_933 (fun l43 e44 => to_c (pc := 934) rw_0_934 (x := (32 : Int32)) rfl rfl (s_anyS (pc := 936) rw_0_936 (fun _ _ => rfl) (fun l45 => to_an (pc := 937) rw_0_937 rfl (to_i (pc := 938) rw_0_938 rfl (to_c (pc := 940) rw_0_940 (x := (3 : Int32)) rfl rfl (s_addk (pc := 941) rw_0_941 (A := i.toInt) (B := 3) rfl rfl (by (first | (clear hpz29 hpzz29 hqz29 hqzz29; omega) | (clear hpz29 hpzz29 hqz29; omega) | omega)) (v := v20) e21 (s_x0k (pc := 942) rw_0_942 hL (A := v20.toInt) rfl (by (first | (clear hpz29 hpzz29 hqz29 hqzz29; omega) | (clear hpz29 hpzz29 hqz29; omega) | omega)) (by (first | (clear hpz29 hpzz29 hqz29 hqzz29; omega) | (clear hpz29 hpzz29 hqz29; omega) | omega)) (v := v22) e23 (s_i2l (pc := 943) rw_0_943 (fun l48 e49 => s_cl (pc := 944) rw_0_944 rfl (fun l50 => s_anyL (pc := 947) rw_0_947 (fun _ _ => rfl) (fun l51 => s_anyL (pc := 948) rw_0_948 (fun _ _ => rfl) (fun l52 => ?_))))))))))))
  refine s_v (pc := 949) rw_0_949 (dp0 hd (by decide)) (ls0 := [.ref 77, .int v11, .long l52, .null, .null, .null]) rfl (Nat.le_of_ble_eq_true rfl) (Nat.le_of_ble_eq_true rfl) rfl (to_rc rfl rfl rfl (g_o hG32 rfl)) rfl ?_
  have j_53 := (NJ_f (tg_580 F31) jNJ)
  refine C_208 hX (dp1 hd (by decide)) hG32 j_53 (p := v11) (x := l52) (fun r54 M57 hG56 F55 => ?_)
  have n_58 : M57.1.2.1 = M36.1.2.1 ∧ M57.1.2.2.1 = M36.1.2.2.1 := by rw [F55.1]; exact ⟨rfl, rfl⟩
  refine to_popi (pc := 952) rw_0_952 (to_go (pc := 953) rw_0_953 ?_)
  have c_60 : M57.2.1 77 7 = (M.2.1 77 7) := (F_n F55 (show ¬ (77 = 77 ∧ 7 = 2 ∨ 94 ≤ 77 ∧ 77 ≤ 98) by decide) (F_n F31 (show ¬ (11 ≤ 77 ∧ 77 ≤ 16 ∨ 18 ≤ 77 ∧ 77 ≤ 48 ∨ 67 ≤ 77 ∧ 77 ≤ 76) by decide) rfl))
  have t_61 : (M57.2.1 77 7).toInt = (M.2.1 77 7).toInt := congrArg Int32.toInt c_60
  have c_62 : M57.2.1 77 6 = (M.2.1 77 6) := (F_n F55 (show ¬ (77 = 77 ∧ 6 = 2 ∨ 94 ≤ 77 ∧ 77 ≤ 98) by decide) (F_n F31 (show ¬ (11 ≤ 77 ∧ 77 ≤ 16 ∨ 18 ≤ 77 ∧ 77 ≤ 48 ∨ 67 ≤ 77 ∧ 77 ≤ 76) by decide) rfl))
  have t_63 : (M57.2.1 77 6).toInt = (M.2.1 77 6).toInt := congrArg Int32.toInt c_62
  have c_64 : M57.2.1 1 1 = (M.2.1 1 1) := (F_n F55 (show ¬ (1 = 77 ∧ 1 = 2 ∨ 94 ≤ 1 ∧ 1 ≤ 98) by decide) (F_n F31 (show ¬ (11 ≤ 1 ∧ 1 ≤ 16 ∨ 18 ≤ 1 ∧ 1 ≤ 48 ∨ 67 ≤ 1 ∧ 1 ≤ 76) by decide) rfl))
  have t_65 : (M57.2.1 1 1).toInt = (M.2.1 1 1).toInt := congrArg Int32.toInt c_64
  have c_66 : M57.2.1 77 1 = (M.2.1 77 1) := (F_n F55 (show ¬ (77 = 77 ∧ 1 = 2 ∨ 94 ≤ 77 ∧ 77 ≤ 98) by decide) (F_n F31 (show ¬ (11 ≤ 77 ∧ 77 ≤ 16 ∨ 18 ≤ 77 ∧ 77 ≤ 48 ∨ 67 ≤ 77 ∧ 77 ≤ 76) by decide) rfl))
  have t_67 : (M57.2.1 77 1).toInt = (M.2.1 77 1).toInt := congrArg Int32.toInt c_66
  have c_68 : M57.2.1 0 12 = (M.2.1 0 12) := (F_n F55 (show ¬ (0 = 77 ∧ 12 = 2 ∨ 94 ≤ 0 ∧ 0 ≤ 98) by decide) (F_n F31 (show ¬ (11 ≤ 0 ∧ 0 ≤ 16 ∨ 18 ≤ 0 ∧ 0 ≤ 48 ∨ 67 ≤ 0 ∧ 0 ≤ 76) by decide) rfl))
  have t_69 : (M57.2.1 0 12).toInt = (M.2.1 0 12).toInt := congrArg Int32.toInt c_68
  have c_70 : M57.2.1 77 28 = (M.2.1 77 28) := (F_n F55 (show ¬ (77 = 77 ∧ 28 = 2 ∨ 94 ≤ 77 ∧ 77 ≤ 98) by decide) (F_n F31 (show ¬ (11 ≤ 77 ∧ 77 ≤ 16 ∨ 18 ≤ 77 ∧ 77 ≤ 48 ∨ 67 ≤ 77 ∧ 77 ≤ 76) by decide) rfl))
  have t_71 : (M57.2.1 77 28).toInt = (M.2.1 77 28).toInt := congrArg Int32.toInt c_70
  have c_72 : M57.2.1 17 4 = (M.2.1 17 4) := (F_n F55 (show ¬ (17 = 77 ∧ 4 = 2 ∨ 94 ≤ 17 ∧ 17 ≤ 98) by decide) (F_n F31 (show ¬ (11 ≤ 17 ∧ 17 ≤ 16 ∨ 18 ≤ 17 ∧ 17 ≤ 48 ∨ 67 ≤ 17 ∧ 17 ≤ 76) by decide) rfl))
  have t_73 : (M57.2.1 17 4).toInt = (M.2.1 17 4).toInt := congrArg Int32.toInt c_72
  have c_74 : M57.2.1 77 41 = (M.2.1 77 41) := (F_n F55 (show ¬ (77 = 77 ∧ 41 = 2 ∨ 94 ≤ 77 ∧ 77 ≤ 98) by decide) (F_n F31 (show ¬ (11 ≤ 77 ∧ 77 ≤ 16 ∨ 18 ≤ 77 ∧ 77 ≤ 48 ∨ 67 ≤ 77 ∧ 77 ≤ 76) by decide) rfl))
  have t_75 : (M57.2.1 77 41).toInt = (M.2.1 77 41).toInt := congrArg Int32.toInt c_74
  have c_76 : M57.2.1 6 0 = (M.2.1 6 0) := (F_n F55 (show ¬ (6 = 77 ∧ 0 = 2 ∨ 94 ≤ 6 ∧ 6 ≤ 98) by decide) (F_n F31 (show ¬ (11 ≤ 6 ∧ 6 ≤ 16 ∨ 18 ≤ 6 ∧ 6 ≤ 48 ∨ 67 ≤ 6 ∧ 6 ≤ 76) by decide) rfl))
  have t_77 : (M57.2.1 6 0).toInt = (M.2.1 6 0).toInt := congrArg Int32.toInt c_76
  have c_78 : M57.2.1 77 29 = (M.2.1 77 29) := (F_n F55 (show ¬ (77 = 77 ∧ 29 = 2 ∨ 94 ≤ 77 ∧ 77 ≤ 98) by decide) (F_n F31 (show ¬ (11 ≤ 77 ∧ 77 ≤ 16 ∨ 18 ≤ 77 ∧ 77 ≤ 48 ∨ 67 ≤ 77 ∧ 77 ≤ 76) by decide) rfl))
  have t_79 : (M57.2.1 77 29).toInt = (M.2.1 77 29).toInt := congrArg Int32.toInt c_78
  have c_80 : M57.2.1 1 10 = (M.2.1 1 10) := (F_n F55 (show ¬ (1 = 77 ∧ 10 = 2 ∨ 94 ≤ 1 ∧ 1 ≤ 98) by decide) (F_n F31 (show ¬ (11 ≤ 1 ∧ 1 ≤ 16 ∨ 18 ≤ 1 ∧ 1 ≤ 48 ∨ 67 ≤ 1 ∧ 1 ≤ 76) by decide) rfl))
  have t_81 : (M57.2.1 1 10).toInt = (M.2.1 1 10).toInt := congrArg Int32.toInt c_80
  have c_82 : M57.2.1 77 4 = (M.2.1 77 4) := (F_n F55 (show ¬ (77 = 77 ∧ 4 = 2 ∨ 94 ≤ 77 ∧ 77 ≤ 98) by decide) (F_n F31 (show ¬ (11 ≤ 77 ∧ 77 ≤ 16 ∨ 18 ≤ 77 ∧ 77 ≤ 48 ∨ 67 ≤ 77 ∧ 77 ≤ 76) by decide) rfl))
  have t_83 : (M57.2.1 77 4).toInt = (M.2.1 77 4).toInt := congrArg Int32.toInt c_82
  have c_84 : M57.2.1 1 11 = (M.2.1 1 11) := (F_n F55 (show ¬ (1 = 77 ∧ 11 = 2 ∨ 94 ≤ 1 ∧ 1 ≤ 98) by decide) (F_n F31 (show ¬ (11 ≤ 1 ∧ 1 ≤ 16 ∨ 18 ≤ 1 ∧ 1 ≤ 48 ∨ 67 ≤ 1 ∧ 1 ≤ 76) by decide) rfl))
  have t_85 : (M57.2.1 1 11).toInt = (M.2.1 1 11).toInt := congrArg Int32.toInt c_84
  have c_86 : M57.2.1 77 5 = (M.2.1 77 5) := (F_n F55 (show ¬ (77 = 77 ∧ 5 = 2 ∨ 94 ≤ 77 ∧ 77 ≤ 98) by decide) (F_n F31 (show ¬ (11 ≤ 77 ∧ 77 ≤ 16 ∨ 18 ≤ 77 ∧ 77 ≤ 48 ∨ 67 ≤ 77 ∧ 77 ≤ 76) by decide) rfl))
  have t_87 : (M57.2.1 77 5).toInt = (M.2.1 77 5).toInt := congrArg Int32.toInt c_86
  have j_88 := (PI_f (tg_581 F55) p_33)
  have j_89 := (NI_f (tg_582 F55) p_34)
  have j_90 := (QI_f (tg_583 F55) p_35)
  have j_91 := (PQE_r F55.2.1 (PQE_r F31.2.1 jPQE))
  have j_92 := (FA_f (tg_584 F55) (FA_f (tg_585 F31) jFA))
  have j_93 := (WC_f (tg_586 F55) (WC_f (tg_587 F31) jWC))
  have j_94 := (NJ_f (tg_588 F55) j_53)
  have j_95 := (PS_f (tg_589 F55) (PS_f (tg_590 F31) jPS))
  have j_96 := (KQ_f (tg_591 F55) (KQ_f (tg_592 F31) jKQ))
  have j_97 := (TP_f (tg_593 F55) (TP_f (tg_594 F31) jTP))
  have j_98 := (W9_f (tg_595 F55) (W9_f (tg_596 F31) jW9))
  have j_99 := (AN_F F55 tg_643 (AN_F F31 tg_644 jAN))
  have j_100 := (NE_r F55.2.1 (NE_r F31.2.1 jNE))
  have j_101 := (W8_f (tg_597 F55) (W8_f (tg_598 F31) jW8))
  exact h M57 (u5) (u6) ⟨⟨⟨⟨⟨⟨⟨⟨⟨hG56, ⟨j_88, j_89, j_90, j_91⟩, ⟨j_92, j_93, j_94, j_95, j_96⟩, by (first | (clear hpz29 hpzz29 hqz29 hqzz29; omega) | (clear hpz29 hpzz29 hqz29; omega) | omega), by (first | (clear hpz29 hpzz29 hqz29 hqzz29; omega) | (clear hpz29 hpzz29 hqz29; omega) | omega)⟩, j_97, j_98⟩, j_100, by (first | (clear hpz29 hpzz29 hqz29 hqzz29; omega) | (clear hpz29 hpzz29 hqz29; omega) | omega)⟩, AN_a j_99⟩, by (first | (clear hpz29 hpzz29 hqz29 hqzz29; omega) | (clear hpz29 hpzz29 hqz29; omega) | omega)⟩, j_101⟩, by (first | (clear hpz29 hpzz29 hqz29 hqzz29; omega) | (clear hpz29 hpzz29 hqz29; omega) | omega)⟩, j_99⟩, by (first | (clear hpz29 hpzz29 hqz29 hqzz29; omega) | (clear hpz29 hpzz29 hqz29; omega) | omega), by (first | (clear hpz29 hpzz29 hqz29 hqzz29; omega) | (clear hpz29 hpzz29 hqz29; omega) | omega)⟩ (by (first | (clear hpz29 hpzz29 hqz29 hqzz29; omega) | (clear hpz29 hpzz29 hqz29; omega) | omega)) (by (first | (clear hpz29 hpzz29 hqz29 hqzz29; omega) | (clear hpz29 hpzz29 hqz29; omega) | omega))
