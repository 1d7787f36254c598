set_option maxRecDepth 4000 in
set_option maxHeartbeats 0 in
theorem LW_19 {X : mm_X} {d L : Nat} {M : mm_M} {Q : Option Value → mm_M → Prop} {i : Int32} {u5 u6 : Value} (hX : g_X X) (hW : g_W X) (hW2 : g_W2 X) (hL : (X 0).1 = L) (h3 : L ≤ 3072) (hd : 40 ≤ d) (hi : 0 ≤ i.toInt) (hi2 : i.toInt + 6 ≤ (L : Int)) (H : LI10 M) (h : ∀ (M1 : mm_M) (v5 v6 : Value), LI10 M1 → M1.1.2.1 ≤ M.1.2.1 + 1 → M1.1.2.2.1 ≤ M.1.2.2.1 + 6 → mm_T X d 0 1313 [.ref mm_ext, .ref 0, .ref 77, .ref 125, .int i, v5, v6] [] M1 Q) : mm_T X d 0 850 [.ref mm_ext, .ref 0, .ref 77, .ref 125, .int i, u5, u6] [] M Q := by
  obtain ⟨⟨⟨⟨⟨⟨⟨⟨⟨hG, ⟨jPI, jNI, jQI, jPQE⟩, ⟨jFA, jWC, jNJ, jPS, jKQ⟩, jJ, jE⟩, jTP, jW9⟩, jNE, jCC⟩, -⟩, jOV⟩, jW8⟩, jNN⟩, jAN⟩, jKNA, jDN, jPN⟩ := H
  have b_1 := g_b hG (a := 77) (i := 7) (lo := 0) (hi := 500) rfl rfl
  have b_2 := g_b hG (a := 77) (i := 6) (lo := 0) (hi := 500) rfl rfl
  have b_3 := g_b hG (a := 1) (i := 1) (lo := 0) (hi := 500) rfl rfl
  have b_4 := g_b hG (a := 77) (i := 1) (lo := 0) (hi := 500) rfl rfl
  have b_5 := g_b hG (a := 0) (i := 12) (lo := 0) (hi := 30) rfl rfl
  have b_6 := g_b hG (a := 77) (i := 28) (lo := 0) (hi := 30) rfl rfl
  have b_7 := g_b hG (a := 6) (i := 0) (lo := 0) (hi := 150) rfl rfl
  have b_8 := g_b hG (a := 77) (i := 29) (lo := 0) (hi := 150) rfl rfl
  have b_9 := g_b hG (a := 28) (i := 8) (lo := 0) (hi := 3000) rfl rfl
  have b_10 := g_b hG (a := 77) (i := 43) (lo := 0) (hi := 3000) rfl rfl
  refine to_an (pc := 850) rw_0_850 rfl (to_an (pc := 851) rw_0_851 rfl (to_i (pc := 852) rw_0_852 rfl (to_c (pc := 854) rw_0_854 (x := (1 : Int32)) rfl rfl (s_add (pc := 855) rw_0_855 (A := i.toInt) (B := 1) rfl rfl (by omega) (fun v11 e12 => s_x0 (pc := 856) rw_0_856 hL (A := v11.toInt) rfl (by omega) (by omega) (fun v13 e14 => to_an (pc := 857) rw_0_857 rfl (to_i (pc := 858) rw_0_858 rfl (to_c (pc := 860) rw_0_860 (x := (2 : Int32)) rfl rfl (s_add (pc := 861) rw_0_861 (A := i.toInt) (B := 2) rfl rfl (by omega) (fun v15 e16 => s_x0 (pc := 862) rw_0_862 hL (A := v15.toInt) rfl (by omega) (by omega) (fun v17 e18 => s_v (pc := 863) rw_0_863 (dp0 hd (by decide)) (ls0 := [.ref 0, .int v13, .int v17]) rfl (Nat.le_of_ble_eq_true rfl) (Nat.le_of_ble_eq_true rfl) rfl (to_rc rfl rfl rfl (g_o hG rfl)) rfl ?_)))))))))))
  obtain ⟨pz19, pzz19, qz19, qzz19, hpz19, hpzz19, hqz19, hqzz19, hpqz19⟩ := id jPQE
  refine C_128 hX (dp1 hd (by decide)) hG hpz19 hpzz19 hqz19 hqzz19 hpqz19 (k := v13) (j := v17) (p := pz19) (pz := pzz19) (q := qz19) (qz := qzz19) (fun r20 M23 hG22 F21 => ?_)
  have n_24 : M23.1.2.1 = M.1.2.1 ∧ M23.1.2.2.1 = M.1.2.2.1 := by rw [F21.1]; exact ⟨rfl, rfl⟩
  refine to_popi (pc := 866) rw_0_866 (to_an (pc := 867) rw_0_867 rfl (to_an (pc := 868) rw_0_868 rfl (to_i (pc := 869) rw_0_869 rfl (to_c (pc := 871) rw_0_871 (x := (1 : Int32)) rfl rfl (s_addk (pc := 872) rw_0_872 (A := i.toInt) (B := 1) rfl rfl (by (first | (clear hpz19 hpzz19 hqz19 hqzz19; omega) | (clear hpz19 hpzz19 hqz19; omega) | omega)) (v := v11) e12 (s_x0k (pc := 873) rw_0_873 hL (A := v11.toInt) rfl (by (first | (clear hpz19 hpzz19 hqz19 hqzz19; omega) | (clear hpz19 hpzz19 hqz19; omega) | omega)) (by (first | (clear hpz19 hpzz19 hqz19 hqzz19; omega) | (clear hpz19 hpzz19 hqz19; omega) | omega)) (v := v13) e14 (to_an (pc := 874) rw_0_874 rfl (to_i (pc := 875) rw_0_875 rfl (to_c (pc := 877) rw_0_877 (x := (2 : Int32)) rfl rfl (s_addk (pc := 878) rw_0_878 (A := i.toInt) (B := 2) rfl rfl (by (first | (clear hpz19 hpzz19 hqz19 hqzz19; omega) | (clear hpz19 hpzz19 hqz19; omega) | omega)) (v := v15) e16 (s_x0k (pc := 879) rw_0_879 hL (A := v15.toInt) rfl (by (first | (clear hpz19 hpzz19 hqz19 hqzz19; omega) | (clear hpz19 hpzz19 hqz19; omega) | omega)) (by (first | (clear hpz19 hpzz19 hqz19 hqzz19; omega) | (clear hpz19 hpzz19 hqz19; omega) | omega)) (v := v17) e18 ?_)))))))))))
  refine s_v (pc := 880) rw_0_880 (dp0 hd (by decide)) (ls0 := [.ref 77, .int v13, .int v17]) rfl (Nat.le_of_ble_eq_true rfl) (Nat.le_of_ble_eq_true rfl) rfl (to_rc rfl rfl rfl (g_o hG22 rfl)) rfl (C_206 hX (dp1 hd (by decide)) hG22 (p := v13) (k := v17) (fun r30 M33 hG32 F31 => ?_))
  have n_34 : M33.1.2.1 = M23.1.2.1 ∧ M33.1.2.2.1 = M23.1.2.2.1 := by rw [F31.1]; exact ⟨rfl, rfl⟩
  refine to_popi (pc := 883) rw_0_883 (to_go (pc := 884) rw_0_884 ?_)
  have c_36 : M33.2.1 77 7 = (M.2.1 77 7) := (F_n F31 (show ¬ (77 = 77 ∧ 7 = 2) by decide) (F_n F21 (show ¬ (77 < 0) by decide) rfl))
  have t_37 : (M33.2.1 77 7).toInt = (M.2.1 77 7).toInt := congrArg Int32.toInt c_36
  have c_38 : M33.2.1 77 6 = (M.2.1 77 6) := (F_n F31 (show ¬ (77 = 77 ∧ 6 = 2) by decide) (F_n F21 (show ¬ (77 < 0) by decide) rfl))
  have t_39 : (M33.2.1 77 6).toInt = (M.2.1 77 6).toInt := congrArg Int32.toInt c_38
  have c_40 : M33.2.1 1 1 = (M.2.1 1 1) := (F_n F31 (show ¬ (1 = 77 ∧ 1 = 2) by decide) (F_n F21 (show ¬ (1 < 0) by decide) rfl))
  have t_41 : (M33.2.1 1 1).toInt = (M.2.1 1 1).toInt := congrArg Int32.toInt c_40
  have c_42 : M33.2.1 77 1 = (M.2.1 77 1) := (F_n F31 (show ¬ (77 = 77 ∧ 1 = 2) by decide) (F_n F21 (show ¬ (77 < 0) by decide) rfl))
  have t_43 : (M33.2.1 77 1).toInt = (M.2.1 77 1).toInt := congrArg Int32.toInt c_42
  have c_44 : M33.2.1 0 12 = (M.2.1 0 12) := (F_n F31 (show ¬ (0 = 77 ∧ 12 = 2) by decide) (F_n F21 (show ¬ (0 < 0) by decide) rfl))
  have t_45 : (M33.2.1 0 12).toInt = (M.2.1 0 12).toInt := congrArg Int32.toInt c_44
  have c_46 : M33.2.1 77 28 = (M.2.1 77 28) := (F_n F31 (show ¬ (77 = 77 ∧ 28 = 2) by decide) (F_n F21 (show ¬ (77 < 0) by decide) rfl))
  have t_47 : (M33.2.1 77 28).toInt = (M.2.1 77 28).toInt := congrArg Int32.toInt c_46
  have c_48 : M33.2.1 17 4 = (M.2.1 17 4) := (F_n F31 (show ¬ (17 = 77 ∧ 4 = 2) by decide) (F_n F21 (show ¬ (17 < 0) by decide) rfl))
  have t_49 : (M33.2.1 17 4).toInt = (M.2.1 17 4).toInt := congrArg Int32.toInt c_48
  have c_50 : M33.2.1 77 41 = (M.2.1 77 41) := (F_n F31 (show ¬ (77 = 77 ∧ 41 = 2) by decide) (F_n F21 (show ¬ (77 < 0) by decide) rfl))
  have t_51 : (M33.2.1 77 41).toInt = (M.2.1 77 41).toInt := congrArg Int32.toInt c_50
  have c_52 : M33.2.1 6 0 = (M.2.1 6 0) := (F_n F31 (show ¬ (6 = 77 ∧ 0 = 2) by decide) (F_n F21 (show ¬ (6 < 0) by decide) rfl))
  have t_53 : (M33.2.1 6 0).toInt = (M.2.1 6 0).toInt := congrArg Int32.toInt c_52
  have c_54 : M33.2.1 77 29 = (M.2.1 77 29) := (F_n F31 (show ¬ (77 = 77 ∧ 29 = 2) by decide) (F_n F21 (show ¬ (77 < 0) by decide) rfl))
  have t_55 : (M33.2.1 77 29).toInt = (M.2.1 77 29).toInt := congrArg Int32.toInt c_54
  have c_56 : M33.2.1 28 8 = (M.2.1 28 8) := (F_n F31 (show ¬ (28 = 77 ∧ 8 = 2) by decide) (F_n F21 (show ¬ (28 < 0) by decide) rfl))
  have t_57 : (M33.2.1 28 8).toInt = (M.2.1 28 8).toInt := congrArg Int32.toInt c_56
  have c_58 : M33.2.1 77 43 = (M.2.1 77 43) := (F_n F31 (show ¬ (77 = 77 ∧ 43 = 2) by decide) (F_n F21 (show ¬ (77 < 0) by decide) rfl))
  have t_59 : (M33.2.1 77 43).toInt = (M.2.1 77 43).toInt := congrArg Int32.toInt c_58
  have c_60 : M33.2.1 28 9 = (M.2.1 28 9) := (F_n F31 (show ¬ (28 = 77 ∧ 9 = 2) by decide) (F_n F21 (show ¬ (28 < 0) by decide) rfl))
  have t_61 : (M33.2.1 28 9).toInt = (M.2.1 28 9).toInt := congrArg Int32.toInt c_60
  have c_62 : M33.2.1 77 42 = (M.2.1 77 42) := (F_n F31 (show ¬ (77 = 77 ∧ 42 = 2) by decide) (F_n F21 (show ¬ (77 < 0) by decide) rfl))
  have t_63 : (M33.2.1 77 42).toInt = (M.2.1 77 42).toInt := congrArg Int32.toInt c_62
  have j_64 := (PI_f (tg_557 F31) (PI_f (tg_99 F21) jPI))
  have j_65 := (NI_f (tg_558 F31) (NI_f (tg_98 F21) jNI))
  have j_66 := (QI_f (tg_559 F31) (QI_f (tg_100 F21) jQI))
  have j_67 := (PQE_r F31.2.1 (PQE_r F21.2.1 jPQE))
  have j_68 := (FA_f (tg_560 F31) (FA_f (tg_299 F21) jFA))
  have j_69 := (WC_f (tg_561 F31) (WC_f (tg_562 F21) jWC))
  have j_70 := (NJ_f (tg_563 F31) (NJ_f (tg_102 F21) jNJ))
  have j_71 := (PS_f (tg_564 F31) (PS_f (tg_565 F21) jPS))
  have j_72 := (KQ_f (tg_566 F31) (KQ_f (tg_416 F21) jKQ))
  have j_73 := (TP_f (tg_567 F31) (TP_f (tg_568 F21) jTP))
  have j_74 := (W9_f (tg_569 F31) (W9_f (tg_46 F21) jW9))
  have j_75 := (AN_F F31 tg_633 (AN_F F21 tg_634 jAN))
  have j_76 := (KNA_F F31 (fun a i z => show ¬ (a = 77 ∧ i = 2) by (first | (clear hpz19 hpzz19 hqz19 hqzz19; omega) | (clear hpz19 hpzz19 hqz19; omega) | omega)) (KNA_F F21 (fun a i z => show ¬ (a < 0) by (first | (clear hpz19 hpzz19 hqz19 hqzz19; omega) | (clear hpz19 hpzz19 hqz19; omega) | omega)) jKNA))
  have j_77 := (NE_r F31.2.1 (NE_r F21.2.1 jNE))
  have j_78 := (W8_f (tg_570 F31) (W8_f (tg_571 F21) jW8))
  exact h M33 (u5) (u6) ⟨⟨⟨⟨⟨⟨⟨⟨⟨hG32, ⟨j_64, j_65, j_66, j_67⟩, ⟨j_68, j_69, j_70, j_71, j_72⟩, by (first | (clear hpz19 hpzz19 hqz19 hqzz19; omega) | (clear hpz19 hpzz19 hqz19; omega) | omega), by (first | (clear hpz19 hpzz19 hqz19 hqzz19; omega) | (clear hpz19 hpzz19 hqz19; omega) | omega)⟩, j_73, j_74⟩, j_77, by (first | (clear hpz19 hpzz19 hqz19 hqzz19; omega) | (clear hpz19 hpzz19 hqz19; omega) | omega)⟩, AN_a j_75⟩, by (first | (clear hpz19 hpzz19 hqz19 hqzz19; omega) | (clear hpz19 hpzz19 hqz19; omega) | omega)⟩, j_78⟩, by (first | (clear hpz19 hpzz19 hqz19 hqzz19; omega) | (clear hpz19 hpzz19 hqz19; omega) | omega)⟩, j_75⟩, j_76, by (first | (clear hpz19 hpzz19 hqz19 hqzz19; omega) | (clear hpz19 hpzz19 hqz19; omega) | omega), by (first | (clear hpz19 hpzz19 hqz19 hqzz19; omega) | (clear hpz19 hpzz19 hqz19; omega) | omega)⟩ (by (first | (clear hpz19 hpzz19 hqz19 hqzz19; omega) | (clear hpz19 hpzz19 hqz19; omega) | omega)) (by (first | (clear hpz19 hpzz19 hqz19 hqzz19; omega) | (clear hpz19 hpzz19 hqz19; omega) | omega))
