set_option maxRecDepth 4000 in
set_option maxHeartbeats 0 in
theorem LW_14 {X : mm_X} {d L : Nat} {M : mm_M} {Q : Option Value → mm_M → Prop} {i : Int32} {u5 u6 : Value} (hX : g_X X) (hW : g_W X) (hW2 : g_W2 X) (hL : (X 0).1 = L) (h3 : L ≤ 3072) (hd : 40 ≤ d) (hi : 0 ≤ i.toInt) (hi2 : i.toInt + 6 ≤ (L : Int)) (H : LI10 M) (h : ∀ (M1 : mm_M) (v5 v6 : Value), LI10 M1 → M1.1.2.1 ≤ M.1.2.1 + 1 → M1.1.2.2.1 ≤ M.1.2.2.1 + 6 → mm_T X d 0 1313 [.ref mm_ext, .ref 0, .ref 77, .ref 125, .int i, v5, v6] [] M1 Q) : mm_T X d 0 701 [.ref mm_ext, .ref 0, .ref 77, .ref 125, .int i, u5, u6] [] M Q := by
  obtain ⟨⟨⟨⟨⟨⟨⟨⟨⟨hG, ⟨jPI, jNI, jQI, jPQE⟩, ⟨jFA, jWC, jNJ, jPS, jKQ⟩, jJ, jE⟩, jTP, jW9⟩, jNE, jCC⟩, -⟩, jOV⟩, jW8⟩, jNN⟩, jAN⟩, jFF, jFP⟩ := H
  have b_1 := g_b hG (a := 77) (i := 7) (lo := 0) (hi := 500) rfl rfl
  have b_2 := g_b hG (a := 77) (i := 6) (lo := 0) (hi := 500) rfl rfl
  have b_3 := g_b hG (a := 1) (i := 1) (lo := 0) (hi := 500) rfl rfl
  have b_4 := g_b hG (a := 77) (i := 1) (lo := 0) (hi := 500) rfl rfl
  have b_5 := g_b hG (a := 0) (i := 12) (lo := 0) (hi := 30) rfl rfl
  have b_6 := g_b hG (a := 77) (i := 28) (lo := 0) (hi := 30) rfl rfl
  have b_7 := g_b hG (a := 6) (i := 0) (lo := 0) (hi := 150) rfl rfl
  have b_8 := g_b hG (a := 77) (i := 29) (lo := 0) (hi := 150) rfl rfl
  refine to_an (pc := 701) rw_0_701 rfl (to_an (pc := 702) rw_0_702 rfl (to_i (pc := 703) rw_0_703 rfl (to_c (pc := 705) rw_0_705 (x := (1 : Int32)) rfl rfl (s_add (pc := 706) rw_0_706 (A := i.toInt) (B := 1) rfl rfl (by omega) (fun v9 e10 => s_x0 (pc := 707) rw_0_707 hL (A := v9.toInt) rfl (by omega) (by omega) (fun v11 e12 => s_v (pc := 708) rw_0_708 (dp0 hd (by decide)) (ls0 := [.ref 0, .int v11]) rfl (Nat.le_of_ble_eq_true rfl) (Nat.le_of_ble_eq_true rfl) rfl (to_rc rfl rfl rfl (g_o hG rfl)) rfl ?_))))))
  obtain ⟨pz13, pzz13, qz13, qzz13, hpz13, hpzz13, hqz13, hqzz13, hpqz13⟩ := id jPQE
  obtain ⟨sg, NN, nz, ca, hs1, hs2, hn1, hn2, hn3, hn4, hn5⟩ := AN_u jAN hpqz13
  refine E_123 hX (dp1 hd (by decide)) hG hpz13 hpzz13 hqz13 hqzz13 hpqz13 jNI jPI jQI hs1.1 (n := v11) (sg := sg) (p := pz13) (pz := pzz13) (q := qz13) (qz := qzz13) (fun r14 M23 hG16 F15 p_17 p_18 p_19 p_20 p_21 p_22 => ?_)
  have n_24 : M23.1.2.1 = M.1.2.1 ∧ M23.1.2.2.1 = M.1.2.2.1 := by rw [F15.1]; exact ⟨rfl, rfl⟩
  have b_26 := g_b hG16 (a := 6) (i := 0) (lo := 0) (hi := 150) rfl rfl
  have c_27 : M23.2.1 77 29 = (M.2.1 77 29) := (F_n F15 (show ¬ (6 ≤ 77 ∧ 77 ≤ 10) by decide) rfl)
  have t_28 : (M23.2.1 77 29).toInt = (M.2.1 77 29).toInt := congrArg Int32.toInt c_27
  refine to_popi (pc := 711) rw_0_711 (to_an (pc := 712) rw_0_712 rfl (to_an (pc := 713) rw_0_713 rfl (to_i (pc := 714) rw_0_714 rfl (to_c (pc := 716) rw_0_716 (x := (1 : Int32)) rfl rfl (s_addk (pc := 717) rw_0_717 (A := i.toInt) (B := 1) rfl rfl (by (first | (clear hpz13 hpzz13 hqz13 hqzz13 p_20 p_21; omega) | (clear hpz13 hpzz13 hqz13 hqzz13; omega) | (clear hpz13 hpzz13 hqz13 p_20 p_21; omega) | omega)) (v := v9) e10 (s_x0k (pc := 718) rw_0_718 hL (A := v9.toInt) rfl (by (first | (clear hpz13 hpzz13 hqz13 hqzz13 p_20 p_21; omega) | (clear hpz13 hpzz13 hqz13 hqzz13; omega) | (clear hpz13 hpzz13 hqz13 p_20 p_21; omega) | omega)) (by (first | (clear hpz13 hpzz13 hqz13 hqzz13 p_20 p_21; omega) | (clear hpz13 hpzz13 hqz13 hqzz13; omega) | (clear hpz13 hpzz13 hqz13 p_20 p_21; omega) | omega)) (v := v11) e12 (s_v (pc := 719) rw_0_719 (dp0 hd (by decide)) (ls0 := [.ref 77, .int v11]) rfl (Nat.le_of_ble_eq_true rfl) (Nat.le_of_ble_eq_true rfl) rfl (to_rc rfl rfl rfl (g_o hG16 rfl)) rfl ?_)))))))
  have j_31 := (NJ_f (tg_617 F15) jNJ)
  have j_32 := (PLk_f (tg_619 F15) hs2.1)
  refine E_199 hX (dp1 hd (by decide)) hG16 j_31 j_32 (n := v11) (sg := sg) (fun r33 M40 hG35 F34 p_36 p_37 p_38 p_39 => ?_)
  have n_41 : M40.1.2.1 = M23.1.2.1 ∧ M40.1.2.2.1 = M23.1.2.2.1 := by rw [F34.1]; exact ⟨rfl, rfl⟩
  have b_43 := g_b hG35 (a := 77) (i := 29) (lo := 0) (hi := 150) rfl rfl
  have k_44 : (0 : Int32).toInt = 0 := rfl
  have k_45 : (1 : Int32).toInt = 1 := rfl
  have k_46 : (2 : Int32).toInt = 2 := rfl
  have k_47 : (3 : Int32).toInt = 3 := rfl
  have k_48 : (4 : Int32).toInt = 4 := rfl
  have k_49 : (5 : Int32).toInt = 5 := rfl
  have z_50 := AN_n hpz13 hpqz13 hs1 hs2 hn1 hn2 hn3 hn4 hn5 F15 (fun a i z => show ¬ (6 ≤ a ∧ a ≤ 10) by (first | (clear hpz13 hpzz13 hqz13 hqzz13 p_20 p_21 p_37 p_38; omega) | (clear hpz13 hpzz13 hqz13 hqzz13; omega) | (clear hpz13 hpzz13 hqz13 p_20 p_21 p_37 p_38; omega) | omega)) F34 (fun a i z => show ¬ (a = 77 ∧ (i = 2 ∨ i = 29) ∨ 90 ≤ a ∧ a ≤ 93) by (first | (clear hpz13 hpzz13 hqz13 hqzz13 p_20 p_21 p_37 p_38; omega) | (clear hpz13 hpzz13 hqz13 hqzz13; omega) | (clear hpz13 hpzz13 hqz13 p_20 p_21 p_37 p_38; omega) | omega)) p_22 p_39 (by (first | (clear hpz13 hpzz13 hqz13 hqzz13 p_20 p_21 p_37 p_38; omega) | (clear hpz13 hpzz13 hqz13 hqzz13; omega) | (clear hpz13 hpzz13 hqz13 p_20 p_21 p_37 p_38; omega) | omega)) (by (first | (clear hpz13 hpzz13 hqz13 hqzz13 p_20 p_21 p_37 p_38; omega) | (clear hpz13 hpzz13 hqz13 hqzz13; omega) | (clear hpz13 hpzz13 hqz13 p_20 p_21 p_37 p_38; omega) | omega)) (by (first | (clear hpz13 hpzz13 hqz13 hqzz13 p_20 p_21 p_37 p_38; omega) | (clear hpz13 hpzz13 hqz13 hqzz13; omega) | (clear hpz13 hpzz13 hqz13 p_20 p_21 p_37 p_38; omega) | omega)) (by (first | (clear hpz13 hpzz13 hqz13 hqzz13 p_20 p_21 p_37 p_38; omega) | (clear hpz13 hpzz13 hqz13 hqzz13; omega) | (clear hpz13 hpzz13 hqz13 p_20 p_21 p_37 p_38; omega) | omega)) (fun z9 => ⟨fun z => by (first | (clear hpz13 hpzz13 hqz13 hqzz13 p_20 p_21 p_37 p_38; omega) | (clear hpz13 hpzz13 hqz13 hqzz13; omega) | (clear hpz13 hpzz13 hqz13 p_20 p_21 p_37 p_38; omega) | omega), fun z => by (first | (clear hpz13 hpzz13 hqz13 hqzz13 p_20 p_21 p_37 p_38; omega) | (clear hpz13 hpzz13 hqz13 hqzz13; omega) | (clear hpz13 hpzz13 hqz13 p_20 p_21 p_37 p_38; omega) | omega), fun z => by (first | (clear hpz13 hpzz13 hqz13 hqzz13 p_20 p_21 p_37 p_38; omega) | (clear hpz13 hpzz13 hqz13 hqzz13; omega) | (clear hpz13 hpzz13 hqz13 p_20 p_21 p_37 p_38; omega) | omega), fun z => by (first | (clear hpz13 hpzz13 hqz13 hqzz13 p_20 p_21 p_37 p_38; omega) | (clear hpz13 hpzz13 hqz13 hqzz13; omega) | (clear hpz13 hpzz13 hqz13 p_20 p_21 p_37 p_38; omega) | omega), fun z => by (first | (clear hpz13 hpzz13 hqz13 hqzz13 p_20 p_21 p_37 p_38; omega) | (clear hpz13 hpzz13 hqz13 hqzz13; omega) | (clear hpz13 hpzz13 hqz13 p_20 p_21 p_37 p_38; omega) | omega)⟩)
  refine to_popi (pc := 722) rw_0_722 (to_go (pc := 723) rw_0_723 ?_)
  have c_51 : M40.2.1 77 7 = (M.2.1 77 7) := (F_n F34 (show ¬ (77 = 77 ∧ (7 = 2 ∨ 7 = 29) ∨ 90 ≤ 77 ∧ 77 ≤ 93) by decide) (F_n F15 (show ¬ (6 ≤ 77 ∧ 77 ≤ 10) by decide) rfl))
  have t_52 : (M40.2.1 77 7).toInt = (M.2.1 77 7).toInt := congrArg Int32.toInt c_51
  have c_53 : M40.2.1 77 6 = (M.2.1 77 6) := (F_n F34 (show ¬ (77 = 77 ∧ (6 = 2 ∨ 6 = 29) ∨ 90 ≤ 77 ∧ 77 ≤ 93) by decide) (F_n F15 (show ¬ (6 ≤ 77 ∧ 77 ≤ 10) by decide) rfl))
  have t_54 : (M40.2.1 77 6).toInt = (M.2.1 77 6).toInt := congrArg Int32.toInt c_53
  have c_55 : M40.2.1 1 1 = (M.2.1 1 1) := (F_n F34 (show ¬ (1 = 77 ∧ (1 = 2 ∨ 1 = 29) ∨ 90 ≤ 1 ∧ 1 ≤ 93) by decide) (F_n F15 (show ¬ (6 ≤ 1 ∧ 1 ≤ 10) by decide) rfl))
  have t_56 : (M40.2.1 1 1).toInt = (M.2.1 1 1).toInt := congrArg Int32.toInt c_55
  have c_57 : M40.2.1 77 1 = (M.2.1 77 1) := (F_n F34 (show ¬ (77 = 77 ∧ (1 = 2 ∨ 1 = 29) ∨ 90 ≤ 77 ∧ 77 ≤ 93) by decide) (F_n F15 (show ¬ (6 ≤ 77 ∧ 77 ≤ 10) by decide) rfl))
  have t_58 : (M40.2.1 77 1).toInt = (M.2.1 77 1).toInt := congrArg Int32.toInt c_57
  have c_59 : M40.2.1 0 12 = (M.2.1 0 12) := (F_n F34 (show ¬ (0 = 77 ∧ (12 = 2 ∨ 12 = 29) ∨ 90 ≤ 0 ∧ 0 ≤ 93) by decide) (F_n F15 (show ¬ (6 ≤ 0 ∧ 0 ≤ 10) by decide) rfl))
  have t_60 : (M40.2.1 0 12).toInt = (M.2.1 0 12).toInt := congrArg Int32.toInt c_59
  have c_61 : M40.2.1 77 28 = (M.2.1 77 28) := (F_n F34 (show ¬ (77 = 77 ∧ (28 = 2 ∨ 28 = 29) ∨ 90 ≤ 77 ∧ 77 ≤ 93) by decide) (F_n F15 (show ¬ (6 ≤ 77 ∧ 77 ≤ 10) by decide) rfl))
  have t_62 : (M40.2.1 77 28).toInt = (M.2.1 77 28).toInt := congrArg Int32.toInt c_61
  have c_63 : M40.2.1 17 4 = (M.2.1 17 4) := (F_n F34 (show ¬ (17 = 77 ∧ (4 = 2 ∨ 4 = 29) ∨ 90 ≤ 17 ∧ 17 ≤ 93) by decide) (F_n F15 (show ¬ (6 ≤ 17 ∧ 17 ≤ 10) by decide) rfl))
  have t_64 : (M40.2.1 17 4).toInt = (M.2.1 17 4).toInt := congrArg Int32.toInt c_63
  have c_65 : M40.2.1 77 41 = (M.2.1 77 41) := (F_n F34 (show ¬ (77 = 77 ∧ (41 = 2 ∨ 41 = 29) ∨ 90 ≤ 77 ∧ 77 ≤ 93) by decide) (F_n F15 (show ¬ (6 ≤ 77 ∧ 77 ≤ 10) by decide) rfl))
  have t_66 : (M40.2.1 77 41).toInt = (M.2.1 77 41).toInt := congrArg Int32.toInt c_65
  have c_67 : M40.2.1 6 0 = (M23.2.1 6 0) := (F_n F34 (show ¬ (6 = 77 ∧ (0 = 2 ∨ 0 = 29) ∨ 90 ≤ 6 ∧ 6 ≤ 93) by decide) rfl)
  have t_68 : (M40.2.1 6 0).toInt = (M23.2.1 6 0).toInt := congrArg Int32.toInt c_67
  have c_69 : M40.2.1 1 10 = (M.2.1 1 10) := (F_n F34 (show ¬ (1 = 77 ∧ (10 = 2 ∨ 10 = 29) ∨ 90 ≤ 1 ∧ 1 ≤ 93) by decide) (F_n F15 (show ¬ (6 ≤ 1 ∧ 1 ≤ 10) by decide) rfl))
  have t_70 : (M40.2.1 1 10).toInt = (M.2.1 1 10).toInt := congrArg Int32.toInt c_69
  have c_71 : M40.2.1 77 4 = (M.2.1 77 4) := (F_n F34 (show ¬ (77 = 77 ∧ (4 = 2 ∨ 4 = 29) ∨ 90 ≤ 77 ∧ 77 ≤ 93) by decide) (F_n F15 (show ¬ (6 ≤ 77 ∧ 77 ≤ 10) by decide) rfl))
  have t_72 : (M40.2.1 77 4).toInt = (M.2.1 77 4).toInt := congrArg Int32.toInt c_71
  have c_73 : M40.2.1 1 11 = (M.2.1 1 11) := (F_n F34 (show ¬ (1 = 77 ∧ (11 = 2 ∨ 11 = 29) ∨ 90 ≤ 1 ∧ 1 ≤ 93) by decide) (F_n F15 (show ¬ (6 ≤ 1 ∧ 1 ≤ 10) by decide) rfl))
  have t_74 : (M40.2.1 1 11).toInt = (M.2.1 1 11).toInt := congrArg Int32.toInt c_73
  have c_75 : M40.2.1 77 5 = (M.2.1 77 5) := (F_n F34 (show ¬ (77 = 77 ∧ (5 = 2 ∨ 5 = 29) ∨ 90 ≤ 77 ∧ 77 ≤ 93) by decide) (F_n F15 (show ¬ (6 ≤ 77 ∧ 77 ≤ 10) by decide) rfl))
  have t_76 : (M40.2.1 77 5).toInt = (M.2.1 77 5).toInt := congrArg Int32.toInt c_75
  have j_77 := (PI_f (tg_620 F34) p_18)
  have j_78 := (NI_f (tg_621 F34) p_17)
  have j_79 := (QI_f (tg_622 F34) p_19)
  have j_80 := (PQE_r F34.2.1 (PQE_r F15.2.1 jPQE))
  have j_81 := (FA_f (tg_623 F34) (FA_f (tg_618 F15) jFA))
  have j_82 := (WC_f (tg_624 F34) (WC_f (tg_625 F15) jWC))
  have j_83 := (PS_f (tg_626 F34) (PS_f (tg_627 F15) jPS))
  have j_84 := (KQ_f (tg_628 F34) (KQ_f (tg_629 F15) jKQ))
  have j_85 := (TP_f (tg_630 F34) (TP_f (tg_631 F15) jTP))
  have j_86 := (W9_f (tg_632 F34) (W9_f (tg_633 F15) jW9))
  have j_87 := (NE_r F34.2.1 (NE_r F15.2.1 jNE))
  have j_88 := (W8_f (tg_634 F34) (W8_f (tg_635 F15) jW8))
  exact h M40 (u5) (u6) ⟨⟨⟨⟨⟨⟨⟨⟨⟨hG35, ⟨j_77, j_78, j_79, j_80⟩, ⟨j_81, j_82, p_36, j_83, j_84⟩, by (first | (clear hpz13 hpzz13 hqz13 hqzz13 p_20 p_21 p_37 p_38; omega) | (clear hpz13 hpzz13 hqz13 hqzz13; omega) | (clear hpz13 hpzz13 hqz13 p_20 p_21 p_37 p_38; omega) | omega), by (first | (clear hpz13 hpzz13 hqz13 hqzz13 p_20 p_21 p_37 p_38; omega) | (clear hpz13 hpzz13 hqz13 hqzz13; omega) | (clear hpz13 hpzz13 hqz13 p_20 p_21 p_37 p_38; omega) | omega)⟩, j_85, j_86⟩, j_87, by (first | (clear hpz13 hpzz13 hqz13 hqzz13 p_20 p_21 p_37 p_38; omega) | (clear hpz13 hpzz13 hqz13 hqzz13; omega) | (clear hpz13 hpzz13 hqz13 p_20 p_21 p_37 p_38; omega) | omega)⟩, AN_a z_50⟩, by (first | (clear hpz13 hpzz13 hqz13 hqzz13 p_20 p_21 p_37 p_38; omega) | (clear hpz13 hpzz13 hqz13 hqzz13; omega) | (clear hpz13 hpzz13 hqz13 p_20 p_21 p_37 p_38; omega) | omega)⟩, j_88⟩, by (first | (clear hpz13 hpzz13 hqz13 hqzz13 p_20 p_21 p_37 p_38; omega) | (clear hpz13 hpzz13 hqz13 hqzz13; omega) | (clear hpz13 hpzz13 hqz13 p_20 p_21 p_37 p_38; omega) | omega)⟩, z_50⟩, by (first | (clear hpz13 hpzz13 hqz13 hqzz13 p_20 p_21 p_37 p_38; omega) | (clear hpz13 hpzz13 hqz13 hqzz13; omega) | (clear hpz13 hpzz13 hqz13 p_20 p_21 p_37 p_38; omega) | omega), by (first | (clear hpz13 hpzz13 hqz13 hqzz13 p_20 p_21 p_37 p_38; omega) | (clear hpz13 hpzz13 hqz13 hqzz13; omega) | (clear hpz13 hpzz13 hqz13 p_20 p_21 p_37 p_38; omega) | omega)⟩ (by (first | (clear hpz13 hpzz13 hqz13 hqzz13 p_20 p_21 p_37 p_38; omega) | (clear hpz13 hpzz13 hqz13 hqzz13; omega) | (clear hpz13 hpzz13 hqz13 p_20 p_21 p_37 p_38; omega) | omega)) (by (first | (clear hpz13 hpzz13 hqz13 hqzz13 p_20 p_21 p_37 p_38; omega) | (clear hpz13 hpzz13 hqz13 hqzz13; omega) | (clear hpz13 hpzz13 hqz13 p_20 p_21 p_37 p_38; omega) | omega))
