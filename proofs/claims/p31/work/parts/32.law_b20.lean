set_option maxRecDepth 4000 in
set_option maxHeartbeats 0 in
theorem LW_20 {X : mm_X} {d L : Nat} {M : mm_M} {Q : Option Value → mm_M → Prop} {i : Int32} {u5 u6 : Value} (hX : g_X X) (hW : g_W X) (hW2 : g_W2 X) (hL : (X 0).1 = L) (h3 : L ≤ 3072) (hd : 40 ≤ d) (hi : 0 ≤ i.toInt) (hi2 : i.toInt + 6 ≤ (L : Int)) (H : LI10 M) (h : ∀ (M1 : mm_M) (v5 v6 : Value), LI10 M1 → M1.1.2.1 ≤ M.1.2.1 + 1 → M1.1.2.2.1 ≤ M.1.2.2.1 + 6 → mm_T X d 0 1313 [.ref mm_ext, .ref 0, .ref 77, .ref 125, .int i, v5, v6] [] M1 Q) : mm_T X d 0 887 [.ref mm_ext, .ref 0, .ref 77, .ref 125, .int i, u5, u6] [] M Q := by
  obtain ⟨⟨⟨⟨⟨⟨⟨⟨⟨hG, ⟨jPI, jNI, jQI, jPQE⟩, ⟨jFA, jWC, jNJ, jPS, jKQ⟩, jJ, jE⟩, jTP, jW9⟩, jNE, jCC⟩, -⟩, jOV⟩, jW8⟩, jNN⟩, jAN⟩, jKNA, jDN, jPN⟩ := H
  have b_1 := g_b hG (a := 77) (i := 7) (lo := 0) (hi := 500) rfl rfl
  have b_2 := g_b hG (a := 77) (i := 6) (lo := 0) (hi := 500) rfl rfl
  have b_3 := g_b hG (a := 1) (i := 1) (lo := 0) (hi := 500) rfl rfl
  have b_4 := g_b hG (a := 77) (i := 1) (lo := 0) (hi := 500) rfl rfl
  have b_5 := g_b hG (a := 0) (i := 12) (lo := 0) (hi := 30) rfl rfl
  have b_6 := g_b hG (a := 77) (i := 28) (lo := 0) (hi := 30) rfl rfl
  have b_7 := g_b hG (a := 6) (i := 0) (lo := 0) (hi := 150) rfl rfl
  have b_8 := g_b hG (a := 77) (i := 29) (lo := 0) (hi := 150) rfl rfl
  have b_9 := g_b hG (a := 28) (i := 8) (lo := 0) (hi := 3000) rfl rfl
  have b_10 := g_b hG (a := 77) (i := 43) (lo := 0) (hi := 3000) rfl rfl
  refine to_an (pc := 887) rw_0_887 rfl (to_an (pc := 888) rw_0_888 rfl (to_i (pc := 889) rw_0_889 rfl (to_c (pc := 891) rw_0_891 (x := (1 : Int32)) rfl rfl (s_add (pc := 892) rw_0_892 (A := i.toInt) (B := 1) rfl rfl (by omega) (fun v11 e12 => s_x0 (pc := 893) rw_0_893 hL (A := v11.toInt) rfl (by omega) (by omega) (fun v13 e14 => to_an (pc := 894) rw_0_894 rfl (to_i (pc := 895) rw_0_895 rfl (to_c (pc := 897) rw_0_897 (x := (2 : Int32)) rfl rfl (s_add (pc := 898) rw_0_898 (A := i.toInt) (B := 2) rfl rfl (by omega) (fun v15 e16 => s_x0 (pc := 899) rw_0_899 hL (A := v15.toInt) rfl (by omega) (by omega) (fun v17 e18 => s_i2l (pc := 900) rw_0_900 (fun l19 e20 => ?_))))))))))))
  refine to_c (pc := 901) rw_0_901 (x := (32 : Int32)) rfl rfl (s_anyS (pc := 903) rw_0_903 (fun _ _ => rfl) (fun l21 => to_an (pc := 904) rw_0_904 rfl (to_i (pc := 905) rw_0_905 rfl (to_c (pc := 907) rw_0_907 (x := (3 : Int32)) rfl rfl (s_add (pc := 908) rw_0_908 (A := i.toInt) (B := 3) rfl rfl (by omega) (fun v22 e23 => s_x0 (pc := 909) rw_0_909 hL (A := v22.toInt) rfl (by omega) (by omega) (fun v24 e25 => s_i2l (pc := 910) rw_0_910 (fun l26 e27 => s_cl (pc := 911) rw_0_911 rfl (fun l28 => s_anyL (pc := 914) rw_0_914 (fun _ _ => rfl) (fun l29 => s_anyL (pc := 915) rw_0_915 (fun _ _ => rfl) (fun l30 => s_v (pc := 916) rw_0_916 (dp0 hd (by decide)) (ls0 := [.ref 0, .int v13, .long l30, .null]) rfl (Nat.le_of_ble_eq_true rfl) (Nat.le_of_ble_eq_true rfl) rfl (to_rc rfl rfl rfl (g_o hG rfl)) rfl ?_)))))))))))
  obtain ⟨pz31, pzz31, qz31, qzz31, hpz31, hpzz31, hqz31, hqzz31, hpqz31⟩ := id jPQE
  refine C_129 hX (dp1 hd (by decide)) hG hpz31 hpzz31 hqz31 hqzz31 hpqz31 jNI jPI jQI (k := v13) (x := l30) (p := pz31) (pz := pzz31) (q := qz31) (qz := qzz31) (fun r32 M38 hG34 F33 p_35 p_36 p_37 => ?_)
  have n_39 : M38.1.2.1 = M.1.2.1 ∧ M38.1.2.2.1 = M.1.2.2.1 := by rw [F33.1]; exact ⟨rfl, rfl⟩
  refine to_popi (pc := 919) rw_0_919 (to_an (pc := 920) rw_0_920 rfl (to_an (pc := 921) rw_0_921 rfl (to_i (pc := 922) rw_0_922 rfl (to_c (pc := 924) rw_0_924 (x := (1 : Int32)) rfl rfl (s_addk (pc := 925) rw_0_925 (A := i.toInt) (B := 1) rfl rfl (by (first | (clear hpz31 hpzz31 hqz31 hqzz31; omega) | (clear hpz31 hpzz31 hqz31; omega) | omega)) (v := v11) e12 (s_x0k (pc := 926) rw_0_926 hL (A := v11.toInt) rfl (by (first | (clear hpz31 hpzz31 hqz31 hqzz31; omega) | (clear hpz31 hpzz31 hqz31; omega) | omega)) (by (first | (clear hpz31 hpzz31 hqz31 hqzz31; omega) | (clear hpz31 hpzz31 hqz31; omega) | omega)) (v := v13) e14 (to_an (pc := 927) rw_0_927 rfl (to_i (pc := 928) rw_0_928 rfl (to_c (pc := 930) rw_0_930 (x := (2 : Int32)) rfl rfl (s_addk (pc := 931) rw_0_931 (A := i.toInt) (B := 2) rfl rfl (by (first | (clear hpz31 hpzz31 hqz31 hqzz31; omega) | (clear hpz31 hpzz31 hqz31; omega) | omega)) (v := v15) e16 (s_x0k (pc := 932) rw_0_932 hL (A := v15.toInt) rfl (by (first | (clear hpz31 hpzz31 hqz31 hqzz31; omega) | (clear hpz31 hpzz31 hqz31; omega) | omega)) (by (first | (clear hpz31 hpzz31 hqz31 hqzz31; omega) | (clear hpz31 hpzz31 hqz31; omega) | omega)) (v := v17) e18 ?_)))))))))))
  refine s_i2l (pc := 933) rw_0_933 (fun l45 e46 => to_c (pc := 934) rw_0_934 (x := (32 : Int32)) rfl rfl (s_anyS (pc := 936) rw_0_936 (fun _ _ => rfl) (fun l47 => to_an (pc := 937) rw_0_937 rfl (to_i (pc := 938) rw_0_938 rfl (to_c (pc := 940) rw_0_940 (x := (3 : Int32)) rfl rfl (s_addk (pc := 941) rw_0_941 (A := i.toInt) (B := 3) rfl rfl (by (first | (clear hpz31 hpzz31 hqz31 hqzz31; omega) | (clear hpz31 hpzz31 hqz31; omega) | omega)) (v := v22) e23 (s_x0k (pc := 942) rw_0_942 hL (A := v22.toInt) rfl (by (first | (clear hpz31 hpzz31 hqz31 hqzz31; omega) | (clear hpz31 hpzz31 hqz31; omega) | omega)) (by (first | (clear hpz31 hpzz31 hqz31 hqzz31; omega) | (clear hpz31 hpzz31 hqz31; omega) | omega)) (v := v24) e25 (s_i2l (pc := 943) rw_0_943 (fun l50 e51 => s_cl (pc := 944) rw_0_944 rfl (fun l52 => s_anyL (pc := 947) rw_0_947 (fun _ _ => rfl) (fun l53 => s_anyL (pc := 948) rw_0_948 (fun _ _ => rfl) (fun l54 => ?_))))))))))))
  refine s_v (pc := 949) rw_0_949 (dp0 hd (by decide)) (ls0 := [.ref 77, .int v13, .long l54, .null, .null, .null]) rfl (Nat.le_of_ble_eq_true rfl) (Nat.le_of_ble_eq_true rfl) rfl (to_rc rfl rfl rfl (g_o hG34 rfl)) rfl ?_
  have j_55 := (NJ_f (tg_572 F33) jNJ)
  refine C_208 hX (dp1 hd (by decide)) hG34 j_55 (p := v13) (x := l54) (fun r56 M59 hG58 F57 => ?_)
  have n_60 : M59.1.2.1 = M38.1.2.1 ∧ M59.1.2.2.1 = M38.1.2.2.1 := by rw [F57.1]; exact ⟨rfl, rfl⟩
  refine to_popi (pc := 952) rw_0_952 (to_go (pc := 953) rw_0_953 ?_)
  have c_62 : M59.2.1 77 7 = (M.2.1 77 7) := (F_n F57 (show ¬ (77 = 77 ∧ 7 = 2 ∨ 94 ≤ 77 ∧ 77 ≤ 98) by decide) (F_n F33 (show ¬ (11 ≤ 77 ∧ 77 ≤ 16 ∨ 18 ≤ 77 ∧ 77 ≤ 27 ∨ 36 ≤ 77 ∧ 77 ≤ 48) by decide) rfl))
  have t_63 : (M59.2.1 77 7).toInt = (M.2.1 77 7).toInt := congrArg Int32.toInt c_62
  have c_64 : M59.2.1 77 6 = (M.2.1 77 6) := (F_n F57 (show ¬ (77 = 77 ∧ 6 = 2 ∨ 94 ≤ 77 ∧ 77 ≤ 98) by decide) (F_n F33 (show ¬ (11 ≤ 77 ∧ 77 ≤ 16 ∨ 18 ≤ 77 ∧ 77 ≤ 27 ∨ 36 ≤ 77 ∧ 77 ≤ 48) by decide) rfl))
  have t_65 : (M59.2.1 77 6).toInt = (M.2.1 77 6).toInt := congrArg Int32.toInt c_64
  have c_66 : M59.2.1 1 1 = (M.2.1 1 1) := (F_n F57 (show ¬ (1 = 77 ∧ 1 = 2 ∨ 94 ≤ 1 ∧ 1 ≤ 98) by decide) (F_n F33 (show ¬ (11 ≤ 1 ∧ 1 ≤ 16 ∨ 18 ≤ 1 ∧ 1 ≤ 27 ∨ 36 ≤ 1 ∧ 1 ≤ 48) by decide) rfl))
  have t_67 : (M59.2.1 1 1).toInt = (M.2.1 1 1).toInt := congrArg Int32.toInt c_66
  have c_68 : M59.2.1 77 1 = (M.2.1 77 1) := (F_n F57 (show ¬ (77 = 77 ∧ 1 = 2 ∨ 94 ≤ 77 ∧ 77 ≤ 98) by decide) (F_n F33 (show ¬ (11 ≤ 77 ∧ 77 ≤ 16 ∨ 18 ≤ 77 ∧ 77 ≤ 27 ∨ 36 ≤ 77 ∧ 77 ≤ 48) by decide) rfl))
  have t_69 : (M59.2.1 77 1).toInt = (M.2.1 77 1).toInt := congrArg Int32.toInt c_68
  have c_70 : M59.2.1 0 12 = (M.2.1 0 12) := (F_n F57 (show ¬ (0 = 77 ∧ 12 = 2 ∨ 94 ≤ 0 ∧ 0 ≤ 98) by decide) (F_n F33 (show ¬ (11 ≤ 0 ∧ 0 ≤ 16 ∨ 18 ≤ 0 ∧ 0 ≤ 27 ∨ 36 ≤ 0 ∧ 0 ≤ 48) by decide) rfl))
  have t_71 : (M59.2.1 0 12).toInt = (M.2.1 0 12).toInt := congrArg Int32.toInt c_70
  have c_72 : M59.2.1 77 28 = (M.2.1 77 28) := (F_n F57 (show ¬ (77 = 77 ∧ 28 = 2 ∨ 94 ≤ 77 ∧ 77 ≤ 98) by decide) (F_n F33 (show ¬ (11 ≤ 77 ∧ 77 ≤ 16 ∨ 18 ≤ 77 ∧ 77 ≤ 27 ∨ 36 ≤ 77 ∧ 77 ≤ 48) by decide) rfl))
  have t_73 : (M59.2.1 77 28).toInt = (M.2.1 77 28).toInt := congrArg Int32.toInt c_72
  have c_74 : M59.2.1 17 4 = (M.2.1 17 4) := (F_n F57 (show ¬ (17 = 77 ∧ 4 = 2 ∨ 94 ≤ 17 ∧ 17 ≤ 98) by decide) (F_n F33 (show ¬ (11 ≤ 17 ∧ 17 ≤ 16 ∨ 18 ≤ 17 ∧ 17 ≤ 27 ∨ 36 ≤ 17 ∧ 17 ≤ 48) by decide) rfl))
  have t_75 : (M59.2.1 17 4).toInt = (M.2.1 17 4).toInt := congrArg Int32.toInt c_74
  have c_76 : M59.2.1 77 41 = (M.2.1 77 41) := (F_n F57 (show ¬ (77 = 77 ∧ 41 = 2 ∨ 94 ≤ 77 ∧ 77 ≤ 98) by decide) (F_n F33 (show ¬ (11 ≤ 77 ∧ 77 ≤ 16 ∨ 18 ≤ 77 ∧ 77 ≤ 27 ∨ 36 ≤ 77 ∧ 77 ≤ 48) by decide) rfl))
  have t_77 : (M59.2.1 77 41).toInt = (M.2.1 77 41).toInt := congrArg Int32.toInt c_76
  have c_78 : M59.2.1 6 0 = (M.2.1 6 0) := (F_n F57 (show ¬ (6 = 77 ∧ 0 = 2 ∨ 94 ≤ 6 ∧ 6 ≤ 98) by decide) (F_n F33 (show ¬ (11 ≤ 6 ∧ 6 ≤ 16 ∨ 18 ≤ 6 ∧ 6 ≤ 27 ∨ 36 ≤ 6 ∧ 6 ≤ 48) by decide) rfl))
  have t_79 : (M59.2.1 6 0).toInt = (M.2.1 6 0).toInt := congrArg Int32.toInt c_78
  have c_80 : M59.2.1 77 29 = (M.2.1 77 29) := (F_n F57 (show ¬ (77 = 77 ∧ 29 = 2 ∨ 94 ≤ 77 ∧ 77 ≤ 98) by decide) (F_n F33 (show ¬ (11 ≤ 77 ∧ 77 ≤ 16 ∨ 18 ≤ 77 ∧ 77 ≤ 27 ∨ 36 ≤ 77 ∧ 77 ≤ 48) by decide) rfl))
  have t_81 : (M59.2.1 77 29).toInt = (M.2.1 77 29).toInt := congrArg Int32.toInt c_80
  have c_82 : M59.2.1 28 8 = (M.2.1 28 8) := (F_n F57 (show ¬ (28 = 77 ∧ 8 = 2 ∨ 94 ≤ 28 ∧ 28 ≤ 98) by decide) (F_n F33 (show ¬ (11 ≤ 28 ∧ 28 ≤ 16 ∨ 18 ≤ 28 ∧ 28 ≤ 27 ∨ 36 ≤ 28 ∧ 28 ≤ 48) by decide) rfl))
  have t_83 : (M59.2.1 28 8).toInt = (M.2.1 28 8).toInt := congrArg Int32.toInt c_82
  have c_84 : M59.2.1 77 43 = (M.2.1 77 43) := (F_n F57 (show ¬ (77 = 77 ∧ 43 = 2 ∨ 94 ≤ 77 ∧ 77 ≤ 98) by decide) (F_n F33 (show ¬ (11 ≤ 77 ∧ 77 ≤ 16 ∨ 18 ≤ 77 ∧ 77 ≤ 27 ∨ 36 ≤ 77 ∧ 77 ≤ 48) by decide) rfl))
  have t_85 : (M59.2.1 77 43).toInt = (M.2.1 77 43).toInt := congrArg Int32.toInt c_84
  have c_86 : M59.2.1 28 9 = (M.2.1 28 9) := (F_n F57 (show ¬ (28 = 77 ∧ 9 = 2 ∨ 94 ≤ 28 ∧ 28 ≤ 98) by decide) (F_n F33 (show ¬ (11 ≤ 28 ∧ 28 ≤ 16 ∨ 18 ≤ 28 ∧ 28 ≤ 27 ∨ 36 ≤ 28 ∧ 28 ≤ 48) by decide) rfl))
  have t_87 : (M59.2.1 28 9).toInt = (M.2.1 28 9).toInt := congrArg Int32.toInt c_86
  have c_88 : M59.2.1 77 42 = (M.2.1 77 42) := (F_n F57 (show ¬ (77 = 77 ∧ 42 = 2 ∨ 94 ≤ 77 ∧ 77 ≤ 98) by decide) (F_n F33 (show ¬ (11 ≤ 77 ∧ 77 ≤ 16 ∨ 18 ≤ 77 ∧ 77 ≤ 27 ∨ 36 ≤ 77 ∧ 77 ≤ 48) by decide) rfl))
  have t_89 : (M59.2.1 77 42).toInt = (M.2.1 77 42).toInt := congrArg Int32.toInt c_88
  have j_90 := (PI_f (tg_573 F57) p_35)
  have j_91 := (NI_f (tg_574 F57) p_36)
  have j_92 := (QI_f (tg_575 F57) p_37)
  have j_93 := (PQE_r F57.2.1 (PQE_r F33.2.1 jPQE))
  have j_94 := (FA_f (tg_576 F57) (FA_f (tg_577 F33) jFA))
  have j_95 := (WC_f (tg_578 F57) (WC_f (tg_579 F33) jWC))
  have j_96 := (NJ_f (tg_580 F57) j_55)
  have j_97 := (PS_f (tg_581 F57) (PS_f (tg_582 F33) jPS))
  have j_98 := (KQ_f (tg_583 F57) (KQ_f (tg_584 F33) jKQ))
  have j_99 := (TP_f (tg_585 F57) (TP_f (tg_586 F33) jTP))
  have j_100 := (W9_f (tg_587 F57) (W9_f (tg_588 F33) jW9))
  have j_101 := (AN_F F57 tg_635 (AN_F F33 tg_636 jAN))
  have j_102 := (KNA_F F57 (fun a i z => show ¬ (a = 77 ∧ i = 2 ∨ 94 ≤ a ∧ a ≤ 98) by (first | (clear hpz31 hpzz31 hqz31 hqzz31; omega) | (clear hpz31 hpzz31 hqz31; omega) | omega)) (KNA_F F33 (fun a i z => show ¬ (11 ≤ a ∧ a ≤ 16 ∨ 18 ≤ a ∧ a ≤ 27 ∨ 36 ≤ a ∧ a ≤ 48) by (first | (clear hpz31 hpzz31 hqz31 hqzz31; omega) | (clear hpz31 hpzz31 hqz31; omega) | omega)) jKNA))
  have j_103 := (NE_r F57.2.1 (NE_r F33.2.1 jNE))
  have j_104 := (W8_f (tg_589 F57) (W8_f (tg_590 F33) jW8))
  exact h M59 (u5) (u6) ⟨⟨⟨⟨⟨⟨⟨⟨⟨hG58, ⟨j_90, j_91, j_92, j_93⟩, ⟨j_94, j_95, j_96, j_97, j_98⟩, by (first | (clear hpz31 hpzz31 hqz31 hqzz31; omega) | (clear hpz31 hpzz31 hqz31; omega) | omega), by (first | (clear hpz31 hpzz31 hqz31 hqzz31; omega) | (clear hpz31 hpzz31 hqz31; omega) | omega)⟩, j_99, j_100⟩, j_103, by (first | (clear hpz31 hpzz31 hqz31 hqzz31; omega) | (clear hpz31 hpzz31 hqz31; omega) | omega)⟩, AN_a j_101⟩, by (first | (clear hpz31 hpzz31 hqz31 hqzz31; omega) | (clear hpz31 hpzz31 hqz31; omega) | omega)⟩, j_104⟩, by (first | (clear hpz31 hpzz31 hqz31 hqzz31; omega) | (clear hpz31 hpzz31 hqz31; omega) | omega)⟩, j_101⟩, j_102, by (first | (clear hpz31 hpzz31 hqz31 hqzz31; omega) | (clear hpz31 hpzz31 hqz31; omega) | omega), by (first | (clear hpz31 hpzz31 hqz31 hqzz31; omega) | (clear hpz31 hpzz31 hqz31; omega) | omega)⟩ (by (first | (clear hpz31 hpzz31 hqz31 hqzz31; omega) | (clear hpz31 hpzz31 hqz31; omega) | omega)) (by (first | (clear hpz31 hpzz31 hqz31 hqzz31; omega) | (clear hpz31 hpzz31 hqz31; omega) | omega))
