set_option maxRecDepth 4000 in
set_option maxHeartbeats 0 in
theorem LW_14 {X : mm_X} {d L : Nat} {M : mm_M} {Q : Option Value → mm_M → Prop} {i : Int32} {u5 u6 : Value} (hX : g_X X) (hW : g_W X) (hW2 : g_W2 X) (hL : (X 0).1 = L) (h3 : L ≤ 3072) (hd : 40 ≤ d) (hi : 0 ≤ i.toInt) (hi2 : i.toInt + 6 ≤ (L : Int)) (H : LI10 M) (h : ∀ (M1 : mm_M) (v5 v6 : Value), LI10 M1 → M1.1.2.1 ≤ M.1.2.1 + 1 → M1.1.2.2.1 ≤ M.1.2.2.1 + 6 → mm_T X d 0 1313 [.ref mm_ext, .ref 0, .ref 77, .ref 125, .int i, v5, v6] [] M1 Q) : mm_T X d 0 701 [.ref mm_ext, .ref 0, .ref 77, .ref 125, .int i, u5, u6] [] M Q := by
  obtain ⟨⟨⟨⟨⟨⟨⟨⟨⟨hG, ⟨jPI, jNI, jQI, jPQE⟩, ⟨jFA, jWC, jNJ, jPS, jKQ⟩, jJ, jE⟩, jTP, jW9⟩, jNE, jCC⟩, -⟩, jOV⟩, jW8⟩, jNN⟩, jAN⟩, jG8, jPKA⟩ := H
  have b_1 := g_b hG (a := 77) (i := 7) (lo := 0) (hi := 500) rfl rfl
  have b_2 := g_b hG (a := 77) (i := 6) (lo := 0) (hi := 500) rfl rfl
  have b_3 := g_b hG (a := 1) (i := 1) (lo := 0) (hi := 500) rfl rfl
  have b_4 := g_b hG (a := 77) (i := 1) (lo := 0) (hi := 500) rfl rfl
  have b_5 := g_b hG (a := 0) (i := 12) (lo := 0) (hi := 30) rfl rfl
  have b_6 := g_b hG (a := 77) (i := 28) (lo := 0) (hi := 30) rfl rfl
  have b_7 := g_b hG (a := 6) (i := 0) (lo := 0) (hi := 150) rfl rfl
  have b_8 := g_b hG (a := 77) (i := 29) (lo := 0) (hi := 150) rfl rfl
  refine to_an (pc := 701) rw_0_701 rfl (to_an (pc := 702) rw_0_702 rfl (to_i (pc := 703) rw_0_703 rfl (to_c (pc := 705) rw_0_705 (x := (1 : Int32)) rfl rfl (s_add (pc := 706) rw_0_706 (A := i.toInt) (B := 1) rfl rfl (by omega) (fun v9 e10 => s_x0 (pc := 707) rw_0_707 hL (A := v9.toInt) rfl (by omega) (by omega) (fun v11 e12 => s_v (pc := 708) rw_0_708 (dp0 hd (by decide)) (ls0 := [.ref 0, .int v11]) rfl (Nat.le_of_ble_eq_true rfl) (Nat.le_of_ble_eq_true rfl) rfl (to_rc rfl rfl rfl (g_o hG rfl)) rfl ?_))))))
  obtain ⟨pz13, pzz13, qz13, qzz13, hpz13, hpzz13, hqz13, hqzz13, hpqz13⟩ := id jPQE
  obtain ⟨sg, NN, nz, ca, hs1, hs2, hn1, hn2, hn3, hn4, hn5⟩ := AN_u jAN hpqz13
  refine E_123 hX (dp1 hd (by decide)) hG hpz13 hpzz13 hqz13 hqzz13 hpqz13 jNI jPI jQI hs1.1 (n := v11) (sg := sg) (p := pz13) (pz := pzz13) (q := qz13) (qz := qzz13) (fun r14 M23 hG16 F15 p_17 p_18 p_19 p_20 p_21 p_22 => ?_)
  have n_24 : M23.1.2.1 = M.1.2.1 ∧ M23.1.2.2.1 = M.1.2.2.1 := by rw [F15.1]; exact ⟨rfl, rfl⟩
  have b_26 := g_b hG16 (a := 6) (i := 0) (lo := 0) (hi := 150) rfl rfl
  have k_27 : (0 : Int32).toInt = 0 := rfl
  have k_28 : (1 : Int32).toInt = 1 := rfl
  have k_29 : (2 : Int32).toInt = 2 := rfl
  have k_30 : (3 : Int32).toInt = 3 := rfl
  have k_31 : (4 : Int32).toInt = 4 := rfl
  have k_32 : (5 : Int32).toInt = 5 := rfl
  have z_33 := G8_n jG8 hpz13 hpqz13 hs1 hn1 hn3 hn4 F15 (fun a i z => show ¬ (6 ≤ a ∧ a ≤ 10) by (first | (clear hpz13 hpzz13 hqz13 hqzz13 p_20 p_21; omega) | (clear hpz13 hpzz13 hqz13 hqzz13; omega) | (clear hpz13 hpzz13 hqz13 p_20 p_21; omega) | omega)) p_22 (by (first | (clear hpz13 hpzz13 hqz13 hqzz13 p_20 p_21; omega) | (clear hpz13 hpzz13 hqz13 hqzz13; omega) | (clear hpz13 hpzz13 hqz13 p_20 p_21; omega) | omega)) (fun z9 => ⟨fun z => by (first | (clear hpz13 hpzz13 hqz13 hqzz13 p_20 p_21; omega) | (clear hpz13 hpzz13 hqz13 hqzz13; omega) | (clear hpz13 hpzz13 hqz13 p_20 p_21; omega) | omega), fun z => by (first | (clear hpz13 hpzz13 hqz13 hqzz13 p_20 p_21; omega) | (clear hpz13 hpzz13 hqz13 hqzz13; omega) | (clear hpz13 hpzz13 hqz13 p_20 p_21; omega) | omega), fun z => by (first | (clear hpz13 hpzz13 hqz13 hqzz13 p_20 p_21; omega) | (clear hpz13 hpzz13 hqz13 hqzz13; omega) | (clear hpz13 hpzz13 hqz13 p_20 p_21; omega) | omega), fun z => by (first | (clear hpz13 hpzz13 hqz13 hqzz13 p_20 p_21; omega) | (clear hpz13 hpzz13 hqz13 hqzz13; omega) | (clear hpz13 hpzz13 hqz13 p_20 p_21; omega) | omega), fun z => by (first | (clear hpz13 hpzz13 hqz13 hqzz13 p_20 p_21; omega) | (clear hpz13 hpzz13 hqz13 hqzz13; omega) | (clear hpz13 hpzz13 hqz13 p_20 p_21; omega) | omega)⟩) (fun z9 z => by (first | (clear hpz13 hpzz13 hqz13 hqzz13 p_20 p_21; omega) | (clear hpz13 hpzz13 hqz13 hqzz13; omega) | (clear hpz13 hpzz13 hqz13 p_20 p_21; omega) | omega))
  have c_34 : M23.2.1 77 29 = (M.2.1 77 29) := (F_n F15 (show ¬ (6 ≤ 77 ∧ 77 ≤ 10) by decide) rfl)
  have t_35 : (M23.2.1 77 29).toInt = (M.2.1 77 29).toInt := congrArg Int32.toInt c_34
  refine to_popi (pc := 711) rw_0_711 (to_an (pc := 712) rw_0_712 rfl (to_an (pc := 713) rw_0_713 rfl (to_i (pc := 714) rw_0_714 rfl (to_c (pc := 716) rw_0_716 (x := (1 : Int32)) rfl rfl (s_addk (pc := 717) rw_0_717 (A := i.toInt) (B := 1) rfl rfl (by (first | (clear hpz13 hpzz13 hqz13 hqzz13 p_20 p_21; omega) | (clear hpz13 hpzz13 hqz13 hqzz13; omega) | (clear hpz13 hpzz13 hqz13 p_20 p_21; omega) | omega)) (v := v9) e10 (s_x0k (pc := 718) rw_0_718 hL (A := v9.toInt) rfl (by (first | (clear hpz13 hpzz13 hqz13 hqzz13 p_20 p_21; omega) | (clear hpz13 hpzz13 hqz13 hqzz13; omega) | (clear hpz13 hpzz13 hqz13 p_20 p_21; omega) | omega)) (by (first | (clear hpz13 hpzz13 hqz13 hqzz13 p_20 p_21; omega) | (clear hpz13 hpzz13 hqz13 hqzz13; omega) | (clear hpz13 hpzz13 hqz13 p_20 p_21; omega) | omega)) (v := v11) e12 (s_v (pc := 719) rw_0_719 (dp0 hd (by decide)) (ls0 := [.ref 77, .int v11]) rfl (Nat.le_of_ble_eq_true rfl) (Nat.le_of_ble_eq_true rfl) rfl (to_rc rfl rfl rfl (g_o hG16 rfl)) rfl ?_)))))))
  have j_38 := (NJ_f (tg_602 F15) jNJ)
  have j_39 := (PLk_f (tg_604 F15) hs2.1)
  refine E_199 hX (dp1 hd (by decide)) hG16 j_38 j_39 (n := v11) (sg := sg) (fun r40 M47 hG42 F41 p_43 p_44 p_45 p_46 => ?_)
  have n_48 : M47.1.2.1 = M23.1.2.1 ∧ M47.1.2.2.1 = M23.1.2.2.1 := by rw [F41.1]; exact ⟨rfl, rfl⟩
  have b_50 := g_b hG42 (a := 77) (i := 29) (lo := 0) (hi := 150) rfl rfl
  have z_51 := AN_n hpz13 hpqz13 hs1 hs2 hn1 hn2 hn3 hn4 hn5 F15 (fun a i z => show ¬ (6 ≤ a ∧ a ≤ 10) by (first | (clear hpz13 hpzz13 hqz13 hqzz13 p_20 p_21 p_44 p_45; omega) | (clear hpz13 hpzz13 hqz13 hqzz13; omega) | (clear hpz13 hpzz13 hqz13 p_20 p_21 p_44 p_45; omega) | omega)) F41 (fun a i z => show ¬ (a = 77 ∧ (i = 2 ∨ i = 29) ∨ 90 ≤ a ∧ a ≤ 93) by (first | (clear hpz13 hpzz13 hqz13 hqzz13 p_20 p_21 p_44 p_45; omega) | (clear hpz13 hpzz13 hqz13 hqzz13; omega) | (clear hpz13 hpzz13 hqz13 p_20 p_21 p_44 p_45; omega) | omega)) p_22 p_46 (by (first | (clear hpz13 hpzz13 hqz13 hqzz13 p_20 p_21 p_44 p_45; omega) | (clear hpz13 hpzz13 hqz13 hqzz13; omega) | (clear hpz13 hpzz13 hqz13 p_20 p_21 p_44 p_45; omega) | omega)) (by (first | (clear hpz13 hpzz13 hqz13 hqzz13 p_20 p_21 p_44 p_45; omega) | (clear hpz13 hpzz13 hqz13 hqzz13; omega) | (clear hpz13 hpzz13 hqz13 p_20 p_21 p_44 p_45; omega) | omega)) (by (first | (clear hpz13 hpzz13 hqz13 hqzz13 p_20 p_21 p_44 p_45; omega) | (clear hpz13 hpzz13 hqz13 hqzz13; omega) | (clear hpz13 hpzz13 hqz13 p_20 p_21 p_44 p_45; omega) | omega)) (by (first | (clear hpz13 hpzz13 hqz13 hqzz13 p_20 p_21 p_44 p_45; omega) | (clear hpz13 hpzz13 hqz13 hqzz13; omega) | (clear hpz13 hpzz13 hqz13 p_20 p_21 p_44 p_45; omega) | omega)) (fun z9 => ⟨fun z => by (first | (clear hpz13 hpzz13 hqz13 hqzz13 p_20 p_21 p_44 p_45; omega) | (clear hpz13 hpzz13 hqz13 hqzz13; omega) | (clear hpz13 hpzz13 hqz13 p_20 p_21 p_44 p_45; omega) | omega), fun z => by (first | (clear hpz13 hpzz13 hqz13 hqzz13 p_20 p_21 p_44 p_45; omega) | (clear hpz13 hpzz13 hqz13 hqzz13; omega) | (clear hpz13 hpzz13 hqz13 p_20 p_21 p_44 p_45; omega) | omega), fun z => by (first | (clear hpz13 hpzz13 hqz13 hqzz13 p_20 p_21 p_44 p_45; omega) | (clear hpz13 hpzz13 hqz13 hqzz13; omega) | (clear hpz13 hpzz13 hqz13 p_20 p_21 p_44 p_45; omega) | omega), fun z => by (first | (clear hpz13 hpzz13 hqz13 hqzz13 p_20 p_21 p_44 p_45; omega) | (clear hpz13 hpzz13 hqz13 hqzz13; omega) | (clear hpz13 hpzz13 hqz13 p_20 p_21 p_44 p_45; omega) | omega), fun z => by (first | (clear hpz13 hpzz13 hqz13 hqzz13 p_20 p_21 p_44 p_45; omega) | (clear hpz13 hpzz13 hqz13 hqzz13; omega) | (clear hpz13 hpzz13 hqz13 p_20 p_21 p_44 p_45; omega) | omega)⟩)
  refine to_popi (pc := 722) rw_0_722 (to_go (pc := 723) rw_0_723 ?_)
  have c_52 : M47.2.1 77 7 = (M.2.1 77 7) := (F_n F41 (show ¬ (77 = 77 ∧ (7 = 2 ∨ 7 = 29) ∨ 90 ≤ 77 ∧ 77 ≤ 93) by decide) (F_n F15 (show ¬ (6 ≤ 77 ∧ 77 ≤ 10) by decide) rfl))
  have t_53 : (M47.2.1 77 7).toInt = (M.2.1 77 7).toInt := congrArg Int32.toInt c_52
  have c_54 : M47.2.1 77 6 = (M.2.1 77 6) := (F_n F41 (show ¬ (77 = 77 ∧ (6 = 2 ∨ 6 = 29) ∨ 90 ≤ 77 ∧ 77 ≤ 93) by decide) (F_n F15 (show ¬ (6 ≤ 77 ∧ 77 ≤ 10) by decide) rfl))
  have t_55 : (M47.2.1 77 6).toInt = (M.2.1 77 6).toInt := congrArg Int32.toInt c_54
  have c_56 : M47.2.1 1 1 = (M.2.1 1 1) := (F_n F41 (show ¬ (1 = 77 ∧ (1 = 2 ∨ 1 = 29) ∨ 90 ≤ 1 ∧ 1 ≤ 93) by decide) (F_n F15 (show ¬ (6 ≤ 1 ∧ 1 ≤ 10) by decide) rfl))
  have t_57 : (M47.2.1 1 1).toInt = (M.2.1 1 1).toInt := congrArg Int32.toInt c_56
  have c_58 : M47.2.1 77 1 = (M.2.1 77 1) := (F_n F41 (show ¬ (77 = 77 ∧ (1 = 2 ∨ 1 = 29) ∨ 90 ≤ 77 ∧ 77 ≤ 93) by decide) (F_n F15 (show ¬ (6 ≤ 77 ∧ 77 ≤ 10) by decide) rfl))
  have t_59 : (M47.2.1 77 1).toInt = (M.2.1 77 1).toInt := congrArg Int32.toInt c_58
  have c_60 : M47.2.1 0 12 = (M.2.1 0 12) := (F_n F41 (show ¬ (0 = 77 ∧ (12 = 2 ∨ 12 = 29) ∨ 90 ≤ 0 ∧ 0 ≤ 93) by decide) (F_n F15 (show ¬ (6 ≤ 0 ∧ 0 ≤ 10) by decide) rfl))
  have t_61 : (M47.2.1 0 12).toInt = (M.2.1 0 12).toInt := congrArg Int32.toInt c_60
  have c_62 : M47.2.1 77 28 = (M.2.1 77 28) := (F_n F41 (show ¬ (77 = 77 ∧ (28 = 2 ∨ 28 = 29) ∨ 90 ≤ 77 ∧ 77 ≤ 93) by decide) (F_n F15 (show ¬ (6 ≤ 77 ∧ 77 ≤ 10) by decide) rfl))
  have t_63 : (M47.2.1 77 28).toInt = (M.2.1 77 28).toInt := congrArg Int32.toInt c_62
  have c_64 : M47.2.1 17 4 = (M.2.1 17 4) := (F_n F41 (show ¬ (17 = 77 ∧ (4 = 2 ∨ 4 = 29) ∨ 90 ≤ 17 ∧ 17 ≤ 93) by decide) (F_n F15 (show ¬ (6 ≤ 17 ∧ 17 ≤ 10) by decide) rfl))
  have t_65 : (M47.2.1 17 4).toInt = (M.2.1 17 4).toInt := congrArg Int32.toInt c_64
  have c_66 : M47.2.1 77 41 = (M.2.1 77 41) := (F_n F41 (show ¬ (77 = 77 ∧ (41 = 2 ∨ 41 = 29) ∨ 90 ≤ 77 ∧ 77 ≤ 93) by decide) (F_n F15 (show ¬ (6 ≤ 77 ∧ 77 ≤ 10) by decide) rfl))
  have t_67 : (M47.2.1 77 41).toInt = (M.2.1 77 41).toInt := congrArg Int32.toInt c_66
  have c_68 : M47.2.1 6 0 = (M23.2.1 6 0) := (F_n F41 (show ¬ (6 = 77 ∧ (0 = 2 ∨ 0 = 29) ∨ 90 ≤ 6 ∧ 6 ≤ 93) by decide) rfl)
  have t_69 : (M47.2.1 6 0).toInt = (M23.2.1 6 0).toInt := congrArg Int32.toInt c_68
  have j_70 := (PI_f (tg_605 F41) p_18)
  have j_71 := (NI_f (tg_606 F41) p_17)
  have j_72 := (QI_f (tg_607 F41) p_19)
  have j_73 := (PQE_r F41.2.1 (PQE_r F15.2.1 jPQE))
  have j_74 := (FA_f (tg_608 F41) (FA_f (tg_603 F15) jFA))
  have j_75 := (WC_f (tg_609 F41) (WC_f (tg_610 F15) jWC))
  have j_76 := (PS_f (tg_611 F41) (PS_f (tg_612 F15) jPS))
  have j_77 := (KQ_f (tg_613 F41) (KQ_f (tg_614 F15) jKQ))
  have j_78 := (TP_f (tg_615 F41) (TP_f (tg_616 F15) jTP))
  have j_79 := (W9_f (tg_617 F41) (W9_f (tg_618 F15) jW9))
  have j_80 := (G8_F F41 (fun a i z => show ¬ (a = 77 ∧ (i = 2 ∨ i = 29) ∨ 90 ≤ a ∧ a ≤ 93) by (first | (clear hpz13 hpzz13 hqz13 hqzz13 p_20 p_21 p_44 p_45; omega) | (clear hpz13 hpzz13 hqz13 hqzz13; omega) | (clear hpz13 hpzz13 hqz13 p_20 p_21 p_44 p_45; omega) | omega)) z_33)
  have j_81 := (PKA_F F41 (fun a i z => show ¬ (a = 77 ∧ (i = 2 ∨ i = 29) ∨ 90 ≤ a ∧ a ≤ 93) by (first | (clear hpz13 hpzz13 hqz13 hqzz13 p_20 p_21 p_44 p_45; omega) | (clear hpz13 hpzz13 hqz13 hqzz13; omega) | (clear hpz13 hpzz13 hqz13 p_20 p_21 p_44 p_45; omega) | omega)) (PKA_F F15 (fun a i z => show ¬ (6 ≤ a ∧ a ≤ 10) by (first | (clear hpz13 hpzz13 hqz13 hqzz13 p_20 p_21 p_44 p_45; omega) | (clear hpz13 hpzz13 hqz13 hqzz13; omega) | (clear hpz13 hpzz13 hqz13 p_20 p_21 p_44 p_45; omega) | omega)) jPKA))
  have j_82 := (NE_r F41.2.1 (NE_r F15.2.1 jNE))
  have j_83 := (W8_f (tg_619 F41) (W8_f (tg_620 F15) jW8))
  exact h M47 (u5) (u6) ⟨⟨⟨⟨⟨⟨⟨⟨⟨hG42, ⟨j_70, j_71, j_72, j_73⟩, ⟨j_74, j_75, p_43, j_76, j_77⟩, by (first | (clear hpz13 hpzz13 hqz13 hqzz13 p_20 p_21 p_44 p_45; omega) | (clear hpz13 hpzz13 hqz13 hqzz13; omega) | (clear hpz13 hpzz13 hqz13 p_20 p_21 p_44 p_45; omega) | omega), by (first | (clear hpz13 hpzz13 hqz13 hqzz13 p_20 p_21 p_44 p_45; omega) | (clear hpz13 hpzz13 hqz13 hqzz13; omega) | (clear hpz13 hpzz13 hqz13 p_20 p_21 p_44 p_45; omega) | omega)⟩, j_78, j_79⟩, j_82, by (first | (clear hpz13 hpzz13 hqz13 hqzz13 p_20 p_21 p_44 p_45; omega) | (clear hpz13 hpzz13 hqz13 hqzz13; omega) | (clear hpz13 hpzz13 hqz13 p_20 p_21 p_44 p_45; omega) | omega)⟩, AN_a z_51⟩, by (first | (clear hpz13 hpzz13 hqz13 hqzz13 p_20 p_21 p_44 p_45; omega) | (clear hpz13 hpzz13 hqz13 hqzz13; omega) | (clear hpz13 hpzz13 hqz13 p_20 p_21 p_44 p_45; omega) | omega)⟩, j_83⟩, by (first | (clear hpz13 hpzz13 hqz13 hqzz13 p_20 p_21 p_44 p_45; omega) | (clear hpz13 hpzz13 hqz13 hqzz13; omega) | (clear hpz13 hpzz13 hqz13 p_20 p_21 p_44 p_45; omega) | omega)⟩, z_51⟩, j_80, j_81⟩ (by (first | (clear hpz13 hpzz13 hqz13 hqzz13 p_20 p_21 p_44 p_45; omega) | (clear hpz13 hpzz13 hqz13 hqzz13; omega) | (clear hpz13 hpzz13 hqz13 p_20 p_21 p_44 p_45; omega) | omega)) (by (first | (clear hpz13 hpzz13 hqz13 hqzz13 p_20 p_21 p_44 p_45; omega) | (clear hpz13 hpzz13 hqz13 hqzz13; omega) | (clear hpz13 hpzz13 hqz13 p_20 p_21 p_44 p_45; omega) | omega))
