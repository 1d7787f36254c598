set_option maxRecDepth 4000 in
set_option maxHeartbeats 0 in
theorem LW_19 {X : mm_X} {d L : Nat} {M : mm_M} {Q : Option Value → mm_M → Prop} {i : Int32} {u5 u6 : Value} (hX : g_X X) (hW : g_W X) (hW2 : g_W2 X) (hL : (X 0).1 = L) (h3 : L ≤ 3072) (hd : 40 ≤ d) (hi : 0 ≤ i.toInt) (hi2 : i.toInt + 6 ≤ (L : Int)) (H : LI10 M) (h : ∀ (M1 : mm_M) (v5 v6 : Value), LI10 M1 → M1.1.2.1 ≤ M.1.2.1 + 1 → M1.1.2.2.1 ≤ M.1.2.2.1 + 6 → mm_T X d 0 1313 [.ref mm_ext, .ref 0, .ref 77, .ref 125, .int i, v5, v6] [] M1 Q) : mm_T X d 0 850 [.ref mm_ext, .ref 0, .ref 77, .ref 125, .int i, u5, u6] [] M Q := by
  obtain ⟨⟨⟨⟨⟨⟨⟨⟨⟨hG, ⟨jPI, jNI, jQI, jPQE⟩, ⟨jFA, jWC, jNJ, jPS, jKQ⟩, jJ, jE⟩, jTP, jW9⟩, jNE, jCC⟩, -⟩, jOV⟩, jW8⟩, jNN⟩, jAN⟩, jFF, jFP⟩ := H
  have b_1 := g_b hG (a := 77) (i := 7) (lo := 0) (hi := 500) rfl rfl
  have b_2 := g_b hG (a := 77) (i := 6) (lo := 0) (hi := 500) rfl rfl
  have b_3 := g_b hG (a := 1) (i := 1) (lo := 0) (hi := 500) rfl rfl
  have b_4 := g_b hG (a := 77) (i := 1) (lo := 0) (hi := 500) rfl rfl
  have b_5 := g_b hG (a := 0) (i := 12) (lo := 0) (hi := 30) rfl rfl
  have b_6 := g_b hG (a := 77) (i := 28) (lo := 0) (hi := 30) rfl rfl
  have b_7 := g_b hG (a := 6) (i := 0) (lo := 0) (hi := 150) rfl rfl
  have b_8 := g_b hG (a := 77) (i := 29) (lo := 0) (hi := 150) rfl rfl
  refine to_an (pc := 850) rw_0_850 rfl (to_an (pc := 851) rw_0_851 rfl (to_i (pc := 852) rw_0_852 rfl (to_c (pc := 854) rw_0_854 (x := (1 : Int32)) rfl rfl (s_add (pc := 855) rw_0_855 (A := i.toInt) (B := 1) rfl rfl (by omega) (fun v9 e10 => s_x0 (pc := 856) rw_0_856 hL (A := v9.toInt) rfl (by omega) (by omega) (fun v11 e12 => to_an (pc := 857) rw_0_857 rfl (to_i (pc := 858) rw_0_858 rfl (to_c (pc := 860) rw_0_860 (x := (2 : Int32)) rfl rfl (s_add (pc := 861) rw_0_861 (A := i.toInt) (B := 2) rfl rfl (by omega) (fun v13 e14 => s_x0 (pc := 862) rw_0_862 hL (A := v13.toInt) rfl (by omega) (by omega) (fun v15 e16 => s_v (pc := 863) rw_0_863 (dp0 hd (by decide)) (ls0 := [.ref 0, .int v11, .int v15]) rfl (Nat.le_of_ble_eq_true rfl) (Nat.le_of_ble_eq_true rfl) rfl (to_rc rfl rfl rfl (g_o hG rfl)) rfl ?_)))))))))))
  obtain ⟨pz17, pzz17, qz17, qzz17, hpz17, hpzz17, hqz17, hqzz17, hpqz17⟩ := id jPQE
  refine C_128 hX (dp1 hd (by decide)) hG hpz17 hpzz17 hqz17 hqzz17 hpqz17 (k := v11) (j := v15) (p := pz17) (pz := pzz17) (q := qz17) (qz := qzz17) (fun r18 M21 hG20 F19 => ?_)
  have n_22 : M21.1.2.1 = M.1.2.1 ∧ M21.1.2.2.1 = M.1.2.2.1 := by rw [F19.1]; exact ⟨rfl, rfl⟩
  refine to_popi (pc := 866) rw_0_866 (to_an (pc := 867) rw_0_867 rfl (to_an (pc := 868) rw_0_868 rfl (to_i (pc := 869) rw_0_869 rfl (to_c (pc := 871) rw_0_871 (x := (1 : Int32)) rfl rfl (s_addk (pc := 872) rw_0_872 (A := i.toInt) (B := 1) rfl rfl (by (first | (clear hpz17 hpzz17 hqz17 hqzz17; omega) | (clear hpz17 hpzz17 hqz17; omega) | omega)) (v := v9) e10 (s_x0k (pc := 873) rw_0_873 hL (A := v9.toInt) rfl (by (first | (clear hpz17 hpzz17 hqz17 hqzz17; omega) | (clear hpz17 hpzz17 hqz17; omega) | omega)) (by (first | (clear hpz17 hpzz17 hqz17 hqzz17; omega) | (clear hpz17 hpzz17 hqz17; omega) | omega)) (v := v11) e12 (to_an (pc := 874) rw_0_874 rfl (to_i (pc := 875) rw_0_875 rfl (to_c (pc := 877) rw_0_877 (x := (2 : Int32)) rfl rfl (s_addk (pc := 878) rw_0_878 (A := i.toInt) (B := 2) rfl rfl (by (first | (clear hpz17 hpzz17 hqz17 hqzz17; omega) | (clear hpz17 hpzz17 hqz17; omega) | omega)) (v := v13) e14 (s_x0k (pc := 879) rw_0_879 hL (A := v13.toInt) rfl (by (first | (clear hpz17 hpzz17 hqz17 hqzz17; omega) | (clear hpz17 hpzz17 hqz17; omega) | omega)) (by (first | (clear hpz17 hpzz17 hqz17 hqzz17; omega) | (clear hpz17 hpzz17 hqz17; omega) | omega)) (v := v15) e16 ?_)))))))))))
  refine s_v (pc := 880) rw_0_880 (dp0 hd (by decide)) (ls0 := [.ref 77, .int v11, .int v15]) rfl (Nat.le_of_ble_eq_true rfl) (Nat.le_of_ble_eq_true rfl) rfl (to_rc rfl rfl rfl (g_o hG20 rfl)) rfl (C_206 hX (dp1 hd (by decide)) hG20 (p := v11) (k := v15) (fun r28 M31 hG30 F29 => ?_))
  have n_32 : M31.1.2.1 = M21.1.2.1 ∧ M31.1.2.2.1 = M21.1.2.2.1 := by rw [F29.1]; exact ⟨rfl, rfl⟩
  refine to_popi (pc := 883) rw_0_883 (to_go (pc := 884) rw_0_884 ?_)
  have c_34 : M31.2.1 77 7 = (M.2.1 77 7) := (F_n F29 (show ¬ (77 = 77 ∧ 7 = 2) by decide) (F_n F19 (show ¬ (77 < 0) by decide) rfl))
  have t_35 : (M31.2.1 77 7).toInt = (M.2.1 77 7).toInt := congrArg Int32.toInt c_34
  have c_36 : M31.2.1 77 6 = (M.2.1 77 6) := (F_n F29 (show ¬ (77 = 77 ∧ 6 = 2) by decide) (F_n F19 (show ¬ (77 < 0) by decide) rfl))
  have t_37 : (M31.2.1 77 6).toInt = (M.2.1 77 6).toInt := congrArg Int32.toInt c_36
  have c_38 : M31.2.1 1 1 = (M.2.1 1 1) := (F_n F29 (show ¬ (1 = 77 ∧ 1 = 2) by decide) (F_n F19 (show ¬ (1 < 0) by decide) rfl))
  have t_39 : (M31.2.1 1 1).toInt = (M.2.1 1 1).toInt := congrArg Int32.toInt c_38
  have c_40 : M31.2.1 77 1 = (M.2.1 77 1) := (F_n F29 (show ¬ (77 = 77 ∧ 1 = 2) by decide) (F_n F19 (show ¬ (77 < 0) by decide) rfl))
  have t_41 : (M31.2.1 77 1).toInt = (M.2.1 77 1).toInt := congrArg Int32.toInt c_40
  have c_42 : M31.2.1 0 12 = (M.2.1 0 12) := (F_n F29 (show ¬ (0 = 77 ∧ 12 = 2) by decide) (F_n F19 (show ¬ (0 < 0) by decide) rfl))
  have t_43 : (M31.2.1 0 12).toInt = (M.2.1 0 12).toInt := congrArg Int32.toInt c_42
  have c_44 : M31.2.1 77 28 = (M.2.1 77 28) := (F_n F29 (show ¬ (77 = 77 ∧ 28 = 2) by decide) (F_n F19 (show ¬ (77 < 0) by decide) rfl))
  have t_45 : (M31.2.1 77 28).toInt = (M.2.1 77 28).toInt := congrArg Int32.toInt c_44
  have c_46 : M31.2.1 17 4 = (M.2.1 17 4) := (F_n F29 (show ¬ (17 = 77 ∧ 4 = 2) by decide) (F_n F19 (show ¬ (17 < 0) by decide) rfl))
  have t_47 : (M31.2.1 17 4).toInt = (M.2.1 17 4).toInt := congrArg Int32.toInt c_46
  have c_48 : M31.2.1 77 41 = (M.2.1 77 41) := (F_n F29 (show ¬ (77 = 77 ∧ 41 = 2) by decide) (F_n F19 (show ¬ (77 < 0) by decide) rfl))
  have t_49 : (M31.2.1 77 41).toInt = (M.2.1 77 41).toInt := congrArg Int32.toInt c_48
  have c_50 : M31.2.1 6 0 = (M.2.1 6 0) := (F_n F29 (show ¬ (6 = 77 ∧ 0 = 2) by decide) (F_n F19 (show ¬ (6 < 0) by decide) rfl))
  have t_51 : (M31.2.1 6 0).toInt = (M.2.1 6 0).toInt := congrArg Int32.toInt c_50
  have c_52 : M31.2.1 77 29 = (M.2.1 77 29) := (F_n F29 (show ¬ (77 = 77 ∧ 29 = 2) by decide) (F_n F19 (show ¬ (77 < 0) by decide) rfl))
  have t_53 : (M31.2.1 77 29).toInt = (M.2.1 77 29).toInt := congrArg Int32.toInt c_52
  have c_54 : M31.2.1 1 10 = (M.2.1 1 10) := (F_n F29 (show ¬ (1 = 77 ∧ 10 = 2) by decide) (F_n F19 (show ¬ (1 < 0) by decide) rfl))
  have t_55 : (M31.2.1 1 10).toInt = (M.2.1 1 10).toInt := congrArg Int32.toInt c_54
  have c_56 : M31.2.1 77 4 = (M.2.1 77 4) := (F_n F29 (show ¬ (77 = 77 ∧ 4 = 2) by decide) (F_n F19 (show ¬ (77 < 0) by decide) rfl))
  have t_57 : (M31.2.1 77 4).toInt = (M.2.1 77 4).toInt := congrArg Int32.toInt c_56
  have c_58 : M31.2.1 1 11 = (M.2.1 1 11) := (F_n F29 (show ¬ (1 = 77 ∧ 11 = 2) by decide) (F_n F19 (show ¬ (1 < 0) by decide) rfl))
  have t_59 : (M31.2.1 1 11).toInt = (M.2.1 1 11).toInt := congrArg Int32.toInt c_58
  have c_60 : M31.2.1 77 5 = (M.2.1 77 5) := (F_n F29 (show ¬ (77 = 77 ∧ 5 = 2) by decide) (F_n F19 (show ¬ (77 < 0) by decide) rfl))
  have t_61 : (M31.2.1 77 5).toInt = (M.2.1 77 5).toInt := congrArg Int32.toInt c_60
  have j_62 := (PI_f (tg_565 F29) (PI_f (tg_99 F19) jPI))
  have j_63 := (NI_f (tg_566 F29) (NI_f (tg_98 F19) jNI))
  have j_64 := (QI_f (tg_567 F29) (QI_f (tg_100 F19) jQI))
  have j_65 := (PQE_r F29.2.1 (PQE_r F19.2.1 jPQE))
  have j_66 := (FA_f (tg_568 F29) (FA_f (tg_307 F19) jFA))
  have j_67 := (WC_f (tg_569 F29) (WC_f (tg_570 F19) jWC))
  have j_68 := (NJ_f (tg_571 F29) (NJ_f (tg_102 F19) jNJ))
  have j_69 := (PS_f (tg_572 F29) (PS_f (tg_573 F19) jPS))
  have j_70 := (KQ_f (tg_574 F29) (KQ_f (tg_424 F19) jKQ))
  have j_71 := (TP_f (tg_575 F29) (TP_f (tg_576 F19) jTP))
  have j_72 := (W9_f (tg_577 F29) (W9_f (tg_43 F19) jW9))
  have j_73 := (AN_F F29 tg_641 (AN_F F19 tg_642 jAN))
  have j_74 := (NE_r F29.2.1 (NE_r F19.2.1 jNE))
  have j_75 := (W8_f (tg_578 F29) (W8_f (tg_579 F19) jW8))
  exact h M31 (u5) (u6) ⟨⟨⟨⟨⟨⟨⟨⟨⟨hG30, ⟨j_62, j_63, j_64, j_65⟩, ⟨j_66, j_67, j_68, j_69, j_70⟩, by (first | (clear hpz17 hpzz17 hqz17 hqzz17; omega) | (clear hpz17 hpzz17 hqz17; omega) | omega), by (first | (clear hpz17 hpzz17 hqz17 hqzz17; omega) | (clear hpz17 hpzz17 hqz17; omega) | omega)⟩, j_71, j_72⟩, j_74, by (first | (clear hpz17 hpzz17 hqz17 hqzz17; omega) | (clear hpz17 hpzz17 hqz17; omega) | omega)⟩, AN_a j_73⟩, by (first | (clear hpz17 hpzz17 hqz17 hqzz17; omega) | (clear hpz17 hpzz17 hqz17; omega) | omega)⟩, j_75⟩, by (first | (clear hpz17 hpzz17 hqz17 hqzz17; omega) | (clear hpz17 hpzz17 hqz17; omega) | omega)⟩, j_73⟩, by (first | (clear hpz17 hpzz17 hqz17 hqzz17; omega) | (clear hpz17 hpzz17 hqz17; omega) | omega), by (first | (clear hpz17 hpzz17 hqz17 hqzz17; omega) | (clear hpz17 hpzz17 hqz17; omega) | omega)⟩ (by (first | (clear hpz17 hpzz17 hqz17 hqzz17; omega) | (clear hpz17 hpzz17 hqz17; omega) | omega)) (by (first | (clear hpz17 hpzz17 hqz17 hqzz17; omega) | (clear hpz17 hpzz17 hqz17; omega) | omega))
