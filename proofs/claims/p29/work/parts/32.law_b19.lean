set_option maxRecDepth 4000 in
set_option maxHeartbeats 0 in
theorem LW_19 {X : mm_X} {d L : Nat} {M : mm_M} {Q : Option Value → mm_M → Prop} {i : Int32} {u5 u6 : Value} (hX : g_X X) (hW : g_W X) (hW2 : g_W2 X) (hL : (X 0).1 = L) (h3 : L ≤ 3072) (hd : 40 ≤ d) (hi : 0 ≤ i.toInt) (hi2 : i.toInt + 6 ≤ (L : Int)) (H : LI10 M) (h : ∀ (M1 : mm_M) (v5 v6 : Value), LI10 M1 → M1.1.2.1 ≤ M.1.2.1 + 1 → M1.1.2.2.1 ≤ M.1.2.2.1 + 6 → mm_T X d 0 1313 [.ref mm_ext, .ref 0, .ref 77, .ref 125, .int i, v5, v6] [] M1 Q) : mm_T X d 0 850 [.ref mm_ext, .ref 0, .ref 77, .ref 125, .int i, u5, u6] [] M Q := by
  obtain ⟨⟨⟨⟨⟨⟨⟨⟨⟨hG, ⟨jPI, jNI, jQI, jPQE⟩, ⟨jFA, jWC, jNJ, jPS, jKQ⟩, jJ, jE⟩, jTP, jW9⟩, jNE, jCC⟩, -⟩, jOV⟩, jW8⟩, jNN⟩, jAN⟩, jG8, jPKA⟩ := H
  have b_1 := g_b hG (a := 77) (i := 7) (lo := 0) (hi := 500) rfl rfl
  have b_2 := g_b hG (a := 77) (i := 6) (lo := 0) (hi := 500) rfl rfl
  have b_3 := g_b hG (a := 1) (i := 1) (lo := 0) (hi := 500) rfl rfl
  have b_4 := g_b hG (a := 77) (i := 1) (lo := 0) (hi := 500) rfl rfl
  have b_5 := g_b hG (a := 0) (i := 12) (lo := 0) (hi := 30) rfl rfl
  have b_6 := g_b hG (a := 77) (i := 28) (lo := 0) (hi := 30) rfl rfl
  have b_7 := g_b hG (a := 6) (i := 0) (lo := 0) (hi := 150) rfl rfl
  have b_8 := g_b hG (a := 77) (i := 29) (lo := 0) (hi := 150) rfl rfl
  refine to_an (pc := 850) rw_0_850 rfl (to_an (pc := 851) rw_0_851 rfl (to_i (pc := 852) rw_0_852 rfl (to_c (pc := 854) rw_0_854 (x := (1 : Int32)) rfl rfl (s_add (pc := 855) rw_0_855 (A := i.toInt) (B := 1) rfl rfl (by omega) (fun v9 e10 => s_x0 (pc := 856) rw_0_856 hL (A := v9.toInt) rfl (by omega) (by omega) (fun v11 e12 => to_an (pc := 857) rw_0_857 rfl (to_i (pc := 858) rw_0_858 rfl (to_c (pc := 860) rw_0_860 (x := (2 : Int32)) rfl rfl (s_add (pc := 861) rw_0_861 (A := i.toInt) (B := 2) rfl rfl (by omega) (fun v13 e14 => s_x0 (pc := 862) rw_0_862 hL (A := v13.toInt) rfl (by omega) (by omega) (fun v15 e16 => s_v (pc := 863) rw_0_863 (dp0 hd (by decide)) (ls0 := [.ref 0, .int v11, .int v15]) rfl (Nat.le_of_ble_eq_true rfl) (Nat.le_of_ble_eq_true rfl) rfl (to_rc rfl rfl rfl (g_o hG rfl)) rfl ?_)))))))))))
  obtain ⟨pz17, pzz17, qz17, qzz17, hpz17, hpzz17, hqz17, hqzz17, hpqz17⟩ := id jPQE
  obtain ⟨ca, hn5⟩ : ∃ z : Int, (M.2.1 0 12).toInt = z := ⟨_, rfl⟩
  obtain ⟨P9, pk1, pk2, pk3⟩ := PKA_u jPKA hn5
  obtain ⟨n9, hn9⟩ : ∃ z : Int, z = ca := ⟨_, rfl⟩
  refine E_128 hX (dp1 hd (by decide)) hG hpz17 hpzz17 hqz17 hqzz17 hpqz17 pk1 (k := v11) (j := v15) (P9 := P9) (p := pz17) (pz := pzz17) (q := qz17) (qz := qzz17) (fun r18 M22 hG20 F19 p_21 => ?_)
  have n_23 : M22.1.2.1 = M.1.2.1 ∧ M22.1.2.2.1 = M.1.2.2.1 := by rw [F19.1]; exact ⟨rfl, rfl⟩
  refine to_popi (pc := 866) rw_0_866 (to_an (pc := 867) rw_0_867 rfl (to_an (pc := 868) rw_0_868 rfl (to_i (pc := 869) rw_0_869 rfl (to_c (pc := 871) rw_0_871 (x := (1 : Int32)) rfl rfl (s_addk (pc := 872) rw_0_872 (A := i.toInt) (B := 1) rfl rfl (by (first | (clear hpz17 hpzz17 hqz17 hqzz17; omega) | (clear hpz17 hpzz17 hqz17; omega) | omega)) (v := v9) e10 (s_x0k (pc := 873) rw_0_873 hL (A := v9.toInt) rfl (by (first | (clear hpz17 hpzz17 hqz17 hqzz17; omega) | (clear hpz17 hpzz17 hqz17; omega) | omega)) (by (first | (clear hpz17 hpzz17 hqz17 hqzz17; omega) | (clear hpz17 hpzz17 hqz17; omega) | omega)) (v := v11) e12 (to_an (pc := 874) rw_0_874 rfl (to_i (pc := 875) rw_0_875 rfl (to_c (pc := 877) rw_0_877 (x := (2 : Int32)) rfl rfl (s_addk (pc := 878) rw_0_878 (A := i.toInt) (B := 2) rfl rfl (by (first | (clear hpz17 hpzz17 hqz17 hqzz17; omega) | (clear hpz17 hpzz17 hqz17; omega) | omega)) (v := v13) e14 (s_x0k (pc := 879) rw_0_879 hL (A := v13.toInt) rfl (by (first | (clear hpz17 hpzz17 hqz17 hqzz17; omega) | (clear hpz17 hpzz17 hqz17; omega) | omega)) (by (first | (clear hpz17 hpzz17 hqz17 hqzz17; omega) | (clear hpz17 hpzz17 hqz17; omega) | omega)) (v := v15) e16 ?_)))))))))))
  refine s_v (pc := 880) rw_0_880 (dp0 hd (by decide)) (ls0 := [.ref 77, .int v11, .int v15]) rfl (Nat.le_of_ble_eq_true rfl) (Nat.le_of_ble_eq_true rfl) rfl (to_rc rfl rfl rfl (g_o hG20 rfl)) rfl ?_
  have j_29 := (PKr_f (fun a i z => F_n F19 (show ¬ (a < 0) by (first | (clear hpz17 hpzz17 hqz17 hqzz17; omega) | (clear hpz17 hpzz17 hqz17; omega) | omega)) rfl) pk2)
  refine E_206 hX (dp1 hd (by decide)) hG20 j_29 (p := v11) (k := v15) (P9 := P9) (fun r30 M34 hG32 F31 p_33 => ?_)
  have n_35 : M34.1.2.1 = M22.1.2.1 ∧ M34.1.2.2.1 = M22.1.2.2.1 := by rw [F31.1]; exact ⟨rfl, rfl⟩
  refine to_popi (pc := 883) rw_0_883 (to_go (pc := 884) rw_0_884 ?_)
  have c_37 : M34.2.1 77 7 = (M.2.1 77 7) := (F_n F31 (show ¬ (77 = 77 ∧ 7 = 2) by decide) (F_n F19 (show ¬ (77 < 0) by decide) rfl))
  have t_38 : (M34.2.1 77 7).toInt = (M.2.1 77 7).toInt := congrArg Int32.toInt c_37
  have c_39 : M34.2.1 77 6 = (M.2.1 77 6) := (F_n F31 (show ¬ (77 = 77 ∧ 6 = 2) by decide) (F_n F19 (show ¬ (77 < 0) by decide) rfl))
  have t_40 : (M34.2.1 77 6).toInt = (M.2.1 77 6).toInt := congrArg Int32.toInt c_39
  have c_41 : M34.2.1 1 1 = (M.2.1 1 1) := (F_n F31 (show ¬ (1 = 77 ∧ 1 = 2) by decide) (F_n F19 (show ¬ (1 < 0) by decide) rfl))
  have t_42 : (M34.2.1 1 1).toInt = (M.2.1 1 1).toInt := congrArg Int32.toInt c_41
  have c_43 : M34.2.1 77 1 = (M.2.1 77 1) := (F_n F31 (show ¬ (77 = 77 ∧ 1 = 2) by decide) (F_n F19 (show ¬ (77 < 0) by decide) rfl))
  have t_44 : (M34.2.1 77 1).toInt = (M.2.1 77 1).toInt := congrArg Int32.toInt c_43
  have c_45 : M34.2.1 0 12 = (M.2.1 0 12) := (F_n F31 (show ¬ (0 = 77 ∧ 12 = 2) by decide) (F_n F19 (show ¬ (0 < 0) by decide) rfl))
  have t_46 : (M34.2.1 0 12).toInt = (M.2.1 0 12).toInt := congrArg Int32.toInt c_45
  have c_47 : M34.2.1 77 28 = (M.2.1 77 28) := (F_n F31 (show ¬ (77 = 77 ∧ 28 = 2) by decide) (F_n F19 (show ¬ (77 < 0) by decide) rfl))
  have t_48 : (M34.2.1 77 28).toInt = (M.2.1 77 28).toInt := congrArg Int32.toInt c_47
  have c_49 : M34.2.1 17 4 = (M.2.1 17 4) := (F_n F31 (show ¬ (17 = 77 ∧ 4 = 2) by decide) (F_n F19 (show ¬ (17 < 0) by decide) rfl))
  have t_50 : (M34.2.1 17 4).toInt = (M.2.1 17 4).toInt := congrArg Int32.toInt c_49
  have c_51 : M34.2.1 77 41 = (M.2.1 77 41) := (F_n F31 (show ¬ (77 = 77 ∧ 41 = 2) by decide) (F_n F19 (show ¬ (77 < 0) by decide) rfl))
  have t_52 : (M34.2.1 77 41).toInt = (M.2.1 77 41).toInt := congrArg Int32.toInt c_51
  have c_53 : M34.2.1 6 0 = (M.2.1 6 0) := (F_n F31 (show ¬ (6 = 77 ∧ 0 = 2) by decide) (F_n F19 (show ¬ (6 < 0) by decide) rfl))
  have t_54 : (M34.2.1 6 0).toInt = (M.2.1 6 0).toInt := congrArg Int32.toInt c_53
  have c_55 : M34.2.1 77 29 = (M.2.1 77 29) := (F_n F31 (show ¬ (77 = 77 ∧ 29 = 2) by decide) (F_n F19 (show ¬ (77 < 0) by decide) rfl))
  have t_56 : (M34.2.1 77 29).toInt = (M.2.1 77 29).toInt := congrArg Int32.toInt c_55
  have j_57 := (PI_f (tg_548 F31) (PI_f (tg_99 F19) jPI))
  have j_58 := (NI_f (tg_549 F31) (NI_f (tg_98 F19) jNI))
  have j_59 := (QI_f (tg_550 F31) (QI_f (tg_100 F19) jQI))
  have j_60 := (PQE_r F31.2.1 (PQE_r F19.2.1 jPQE))
  have j_61 := (FA_f (tg_551 F31) (FA_f (tg_347 F19) jFA))
  have j_62 := (WC_f (tg_552 F31) (WC_f (tg_553 F19) jWC))
  have j_63 := (NJ_f (tg_554 F31) (NJ_f (tg_102 F19) jNJ))
  have j_64 := (PS_f (tg_555 F31) (PS_f (tg_556 F19) jPS))
  have j_65 := (KQ_f (tg_557 F31) (KQ_f (tg_452 F19) jKQ))
  have j_66 := (TP_f (tg_558 F31) (TP_f (tg_559 F19) jTP))
  have j_67 := (W9_f (tg_560 F31) (W9_f (tg_46 F19) jW9))
  have j_68 := (AN_F F31 tg_626 (AN_F F19 tg_627 jAN))
  have j_69 := (G8_F F31 (fun a i z => show ¬ (a = 77 ∧ i = 2) by (first | (clear hpz17 hpzz17 hqz17 hqzz17; omega) | (clear hpz17 hpzz17 hqz17; omega) | omega)) (G8_F F19 (fun a i z => show ¬ (a < 0) by (first | (clear hpz17 hpzz17 hqz17 hqzz17; omega) | (clear hpz17 hpzz17 hqz17; omega) | omega)) jG8))
  have j_70 := (PKA_F F31 (fun a i z => show ¬ (a = 77 ∧ i = 2) by (first | (clear hpz17 hpzz17 hqz17 hqzz17; omega) | (clear hpz17 hpzz17 hqz17; omega) | omega)) (PKA_F F19 (fun a i z => show ¬ (a < 0) by (first | (clear hpz17 hpzz17 hqz17 hqzz17; omega) | (clear hpz17 hpzz17 hqz17; omega) | omega)) jPKA))
  have j_71 := (NE_r F31.2.1 (NE_r F19.2.1 jNE))
  have j_72 := (W8_f (tg_561 F31) (W8_f (tg_562 F19) jW8))
  exact h M34 (u5) (u6) ⟨⟨⟨⟨⟨⟨⟨⟨⟨hG32, ⟨j_57, j_58, j_59, j_60⟩, ⟨j_61, j_62, j_63, j_64, j_65⟩, by (first | (clear hpz17 hpzz17 hqz17 hqzz17; omega) | (clear hpz17 hpzz17 hqz17; omega) | omega), by (first | (clear hpz17 hpzz17 hqz17 hqzz17; omega) | (clear hpz17 hpzz17 hqz17; omega) | omega)⟩, j_66, j_67⟩, j_71, by (first | (clear hpz17 hpzz17 hqz17 hqzz17; omega) | (clear hpz17 hpzz17 hqz17; omega) | omega)⟩, AN_a j_68⟩, by (first | (clear hpz17 hpzz17 hqz17 hqzz17; omega) | (clear hpz17 hpzz17 hqz17; omega) | omega)⟩, j_72⟩, by (first | (clear hpz17 hpzz17 hqz17 hqzz17; omega) | (clear hpz17 hpzz17 hqz17; omega) | omega)⟩, j_68⟩, j_69, j_70⟩ (by (first | (clear hpz17 hpzz17 hqz17 hqzz17; omega) | (clear hpz17 hpzz17 hqz17; omega) | omega)) (by (first | (clear hpz17 hpzz17 hqz17 hqzz17; omega) | (clear hpz17 hpzz17 hqz17; omega) | omega))
