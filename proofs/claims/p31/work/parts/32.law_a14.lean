set_option maxRecDepth 4000 in
set_option maxHeartbeats 0 in
theorem LW_14 {X : mm_X} {d L : Nat} {M : mm_M} {Q : Option Value → mm_M → Prop} {i : Int32} {u5 u6 : Value} (hX : g_X X) (hW : g_W X) (hW2 : g_W2 X) (hL : (X 0).1 = L) (h3 : L ≤ 3072) (hd : 40 ≤ d) (hi : 0 ≤ i.toInt) (hi2 : i.toInt + 6 ≤ (L : Int)) (H : LI10 M) (h : ∀ (M1 : mm_M) (v5 v6 : Value), LI10 M1 → M1.1.2.1 ≤ M.1.2.1 + 1 → M1.1.2.2.1 ≤ M.1.2.2.1 + 6 → mm_T X d 0 1313 [.ref mm_ext, .ref 0, .ref 77, .ref 125, .int i, v5, v6] [] M1 Q) : mm_T X d 0 701 [.ref mm_ext, .ref 0, .ref 77, .ref 125, .int i, u5, u6] [] M Q := by
  obtain ⟨⟨⟨⟨⟨⟨⟨⟨⟨hG, ⟨jPI, jNI, jQI, jPQE⟩, ⟨jFA, jWC, jNJ, jPS, jKQ⟩, jJ, jE⟩, jTP, jW9⟩, jNE, jCC⟩, -⟩, jOV⟩, jW8⟩, jNN⟩, jAN⟩, jKNA, jDN, jPN⟩ := H
  have b_1 := g_b hG (a := 77) (i := 7) (lo := 0) (hi := 500) rfl rfl
  have b_2 := g_b hG (a := 77) (i := 6) (lo := 0) (hi := 500) rfl rfl
  have b_3 := g_b hG (a := 1) (i := 1) (lo := 0) (hi := 500) rfl rfl
  have b_4 := g_b hG (a := 77) (i := 1) (lo := 0) (hi := 500) rfl rfl
  have b_5 := g_b hG (a := 0) (i := 12) (lo := 0) (hi := 30) rfl rfl
  have b_6 := g_b hG (a := 77) (i := 28) (lo := 0) (hi := 30) rfl rfl
  have b_7 := g_b hG (a := 6) (i := 0) (lo := 0) (hi := 150) rfl rfl
  have b_8 := g_b hG (a := 77) (i := 29) (lo := 0) (hi := 150) rfl rfl
  have b_9 := g_b hG (a := 28) (i := 8) (lo := 0) (hi := 3000) rfl rfl
  have b_10 := g_b hG (a := 77) (i := 43) (lo := 0) (hi := 3000) rfl rfl
  refine to_an (pc := 701) rw_0_701 rfl (to_an (pc := 702) rw_0_702 rfl (to_i (pc := 703) rw_0_703 rfl (to_c (pc := 705) rw_0_705 (x := (1 : Int32)) rfl rfl (s_add (pc := 706) rw_0_706 (A := i.toInt) (B := 1) rfl rfl (by omega) (fun v11 e12 => s_x0 (pc := 707) rw_0_707 hL (A := v11.toInt) rfl (by omega) (by omega) (fun v13 e14 => s_v (pc := 708) rw_0_708 (dp0 hd (by decide)) (ls0 := [.ref 0, .int v13]) rfl (Nat.le_of_ble_eq_true rfl) (Nat.le_of_ble_eq_true rfl) rfl (to_rc rfl rfl rfl (g_o hG rfl)) rfl ?_))))))
  obtain ⟨pz15, pzz15, qz15, qzz15, hpz15, hpzz15, hqz15, hqzz15, hpqz15⟩ := id jPQE
  obtain ⟨sg, NN, nz, ca, hs1, hs2, hn1, hn2, hn3, hn4, hn5⟩ := AN_u jAN hpqz15
  refine E_123 hX (dp1 hd (by decide)) hG hpz15 hpzz15 hqz15 hqzz15 hpqz15 jNI jPI jQI hs1.1 (n := v13) (sg := sg) (p := pz15) (pz := pzz15) (q := qz15) (qz := qzz15) (fun r16 M25 hG18 F17 p_19 p_20 p_21 p_22 p_23 p_24 => ?_)
  have n_26 : M25.1.2.1 = M.1.2.1 ∧ M25.1.2.2.1 = M.1.2.2.1 := by rw [F17.1]; exact ⟨rfl, rfl⟩
  have b_28 := g_b hG18 (a := 6) (i := 0) (lo := 0) (hi := 150) rfl rfl
  have c_29 : M25.2.1 77 29 = (M.2.1 77 29) := (F_n F17 (show ¬ (6 ≤ 77 ∧ 77 ≤ 10) by decide) rfl)
  have t_30 : (M25.2.1 77 29).toInt = (M.2.1 77 29).toInt := congrArg Int32.toInt c_29
  refine to_popi (pc := 711) rw_0_711 (to_an (pc := 712) rw_0_712 rfl (to_an (pc := 713) rw_0_713 rfl (to_i (pc := 714) rw_0_714 rfl (to_c (pc := 716) rw_0_716 (x := (1 : Int32)) rfl rfl (s_addk (pc := 717) rw_0_717 (A := i.toInt) (B := 1) rfl rfl (by (first | (clear hpz15 hpzz15 hqz15 hqzz15 p_22 p_23; omega) | (clear hpz15 hpzz15 hqz15 hqzz15; omega) | (clear hpz15 hpzz15 hqz15 p_22 p_23; omega) | omega)) (v := v11) e12 (s_x0k (pc := 718) rw_0_718 hL (A := v11.toInt) rfl (by (first | (clear hpz15 hpzz15 hqz15 hqzz15 p_22 p_23; omega) | (clear hpz15 hpzz15 hqz15 hqzz15; omega) | (clear hpz15 hpzz15 hqz15 p_22 p_23; omega) | omega)) (by (first | (clear hpz15 hpzz15 hqz15 hqzz15 p_22 p_23; omega) | (clear hpz15 hpzz15 hqz15 hqzz15; omega) | (clear hpz15 hpzz15 hqz15 p_22 p_23; omega) | omega)) (v := v13) e14 (s_v (pc := 719) rw_0_719 (dp0 hd (by decide)) (ls0 := [.ref 77, .int v13]) rfl (Nat.le_of_ble_eq_true rfl) (Nat.le_of_ble_eq_true rfl) rfl (to_rc rfl rfl rfl (g_o hG18 rfl)) rfl ?_)))))))
  have j_33 := (NJ_f (tg_609 F17) jNJ)
  have j_34 := (PLk_f (tg_611 F17) hs2.1)
  refine E_199 hX (dp1 hd (by decide)) hG18 j_33 j_34 (n := v13) (sg := sg) (fun r35 M42 hG37 F36 p_38 p_39 p_40 p_41 => ?_)
  have n_43 : M42.1.2.1 = M25.1.2.1 ∧ M42.1.2.2.1 = M25.1.2.2.1 := by rw [F36.1]; exact ⟨rfl, rfl⟩
  have b_45 := g_b hG37 (a := 77) (i := 29) (lo := 0) (hi := 150) rfl rfl
  have k_46 : (0 : Int32).toInt = 0 := rfl
  have k_47 : (1 : Int32).toInt = 1 := rfl
  have k_48 : (2 : Int32).toInt = 2 := rfl
  have k_49 : (3 : Int32).toInt = 3 := rfl
  have k_50 : (4 : Int32).toInt = 4 := rfl
  have k_51 : (5 : Int32).toInt = 5 := rfl
  have z_52 := AN_n hpz15 hpqz15 hs1 hs2 hn1 hn2 hn3 hn4 hn5 F17 (fun a i z => show ¬ (6 ≤ a ∧ a ≤ 10) by (first | (clear hpz15 hpzz15 hqz15 hqzz15 p_22 p_23 p_39 p_40; omega) | (clear hpz15 hpzz15 hqz15 hqzz15; omega) | (clear hpz15 hpzz15 hqz15 p_22 p_23 p_39 p_40; omega) | omega)) F36 (fun a i z => show ¬ (a = 77 ∧ (i = 2 ∨ i = 29) ∨ 90 ≤ a ∧ a ≤ 93) by (first | (clear hpz15 hpzz15 hqz15 hqzz15 p_22 p_23 p_39 p_40; omega) | (clear hpz15 hpzz15 hqz15 hqzz15; omega) | (clear hpz15 hpzz15 hqz15 p_22 p_23 p_39 p_40; omega) | omega)) p_24 p_41 (by (first | (clear hpz15 hpzz15 hqz15 hqzz15 p_22 p_23 p_39 p_40; omega) | (clear hpz15 hpzz15 hqz15 hqzz15; omega) | (clear hpz15 hpzz15 hqz15 p_22 p_23 p_39 p_40; omega) | omega)) (by (first | (clear hpz15 hpzz15 hqz15 hqzz15 p_22 p_23 p_39 p_40; omega) | (clear hpz15 hpzz15 hqz15 hqzz15; omega) | (clear hpz15 hpzz15 hqz15 p_22 p_23 p_39 p_40; omega) | omega)) (by (first | (clear hpz15 hpzz15 hqz15 hqzz15 p_22 p_23 p_39 p_40; omega) | (clear hpz15 hpzz15 hqz15 hqzz15; omega) | (clear hpz15 hpzz15 hqz15 p_22 p_23 p_39 p_40; omega) | omega)) (by (first | (clear hpz15 hpzz15 hqz15 hqzz15 p_22 p_23 p_39 p_40; omega) | (clear hpz15 hpzz15 hqz15 hqzz15; omega) | (clear hpz15 hpzz15 hqz15 p_22 p_23 p_39 p_40; omega) | omega)) (fun z9 => ⟨fun z => by (first | (clear hpz15 hpzz15 hqz15 hqzz15 p_22 p_23 p_39 p_40; omega) | (clear hpz15 hpzz15 hqz15 hqzz15; omega) | (clear hpz15 hpzz15 hqz15 p_22 p_23 p_39 p_40; omega) | omega), fun z => by (first | (clear hpz15 hpzz15 hqz15 hqzz15 p_22 p_23 p_39 p_40; omega) | (clear hpz15 hpzz15 hqz15 hqzz15; omega) | (clear hpz15 hpzz15 hqz15 p_22 p_23 p_39 p_40; omega) | omega), fun z => by (first | (clear hpz15 hpzz15 hqz15 hqzz15 p_22 p_23 p_39 p_40; omega) | (clear hpz15 hpzz15 hqz15 hqzz15; omega) | (clear hpz15 hpzz15 hqz15 p_22 p_23 p_39 p_40; omega) | omega), fun z => by (first | (clear hpz15 hpzz15 hqz15 hqzz15 p_22 p_23 p_39 p_40; omega) | (clear hpz15 hpzz15 hqz15 hqzz15; omega) | (clear hpz15 hpzz15 hqz15 p_22 p_23 p_39 p_40; omega) | omega), fun z => by (first | (clear hpz15 hpzz15 hqz15 hqzz15 p_22 p_23 p_39 p_40; omega) | (clear hpz15 hpzz15 hqz15 hqzz15; omega) | (clear hpz15 hpzz15 hqz15 p_22 p_23 p_39 p_40; omega) | omega)⟩)
  refine to_popi (pc := 722) rw_0_722 (to_go (pc := 723) rw_0_723 ?_)
  have c_53 : M42.2.1 77 7 = (M.2.1 77 7) := (F_n F36 (show ¬ (77 = 77 ∧ (7 = 2 ∨ 7 = 29) ∨ 90 ≤ 77 ∧ 77 ≤ 93) by decide) (F_n F17 (show ¬ (6 ≤ 77 ∧ 77 ≤ 10) by decide) rfl))
  have t_54 : (M42.2.1 77 7).toInt = (M.2.1 77 7).toInt := congrArg Int32.toInt c_53
  have c_55 : M42.2.1 77 6 = (M.2.1 77 6) := (F_n F36 (show ¬ (77 = 77 ∧ (6 = 2 ∨ 6 = 29) ∨ 90 ≤ 77 ∧ 77 ≤ 93) by decide) (F_n F17 (show ¬ (6 ≤ 77 ∧ 77 ≤ 10) by decide) rfl))
  have t_56 : (M42.2.1 77 6).toInt = (M.2.1 77 6).toInt := congrArg Int32.toInt c_55
  have c_57 : M42.2.1 1 1 = (M.2.1 1 1) := (F_n F36 (show ¬ (1 = 77 ∧ (1 = 2 ∨ 1 = 29) ∨ 90 ≤ 1 ∧ 1 ≤ 93) by decide) (F_n F17 (show ¬ (6 ≤ 1 ∧ 1 ≤ 10) by decide) rfl))
  have t_58 : (M42.2.1 1 1).toInt = (M.2.1 1 1).toInt := congrArg Int32.toInt c_57
  have c_59 : M42.2.1 77 1 = (M.2.1 77 1) := (F_n F36 (show ¬ (77 = 77 ∧ (1 = 2 ∨ 1 = 29) ∨ 90 ≤ 77 ∧ 77 ≤ 93) by decide) (F_n F17 (show ¬ (6 ≤ 77 ∧ 77 ≤ 10) by decide) rfl))
  have t_60 : (M42.2.1 77 1).toInt = (M.2.1 77 1).toInt := congrArg Int32.toInt c_59
  have c_61 : M42.2.1 0 12 = (M.2.1 0 12) := (F_n F36 (show ¬ (0 = 77 ∧ (12 = 2 ∨ 12 = 29) ∨ 90 ≤ 0 ∧ 0 ≤ 93) by decide) (F_n F17 (show ¬ (6 ≤ 0 ∧ 0 ≤ 10) by decide) rfl))
  have t_62 : (M42.2.1 0 12).toInt = (M.2.1 0 12).toInt := congrArg Int32.toInt c_61
  have c_63 : M42.2.1 77 28 = (M.2.1 77 28) := (F_n F36 (show ¬ (77 = 77 ∧ (28 = 2 ∨ 28 = 29) ∨ 90 ≤ 77 ∧ 77 ≤ 93) by decide) (F_n F17 (show ¬ (6 ≤ 77 ∧ 77 ≤ 10) by decide) rfl))
  have t_64 : (M42.2.1 77 28).toInt = (M.2.1 77 28).toInt := congrArg Int32.toInt c_63
  have c_65 : M42.2.1 17 4 = (M.2.1 17 4) := (F_n F36 (show ¬ (17 = 77 ∧ (4 = 2 ∨ 4 = 29) ∨ 90 ≤ 17 ∧ 17 ≤ 93) by decide) (F_n F17 (show ¬ (6 ≤ 17 ∧ 17 ≤ 10) by decide) rfl))
  have t_66 : (M42.2.1 17 4).toInt = (M.2.1 17 4).toInt := congrArg Int32.toInt c_65
  have c_67 : M42.2.1 77 41 = (M.2.1 77 41) := (F_n F36 (show ¬ (77 = 77 ∧ (41 = 2 ∨ 41 = 29) ∨ 90 ≤ 77 ∧ 77 ≤ 93) by decide) (F_n F17 (show ¬ (6 ≤ 77 ∧ 77 ≤ 10) by decide) rfl))
  have t_68 : (M42.2.1 77 41).toInt = (M.2.1 77 41).toInt := congrArg Int32.toInt c_67
  have c_69 : M42.2.1 6 0 = (M25.2.1 6 0) := (F_n F36 (show ¬ (6 = 77 ∧ (0 = 2 ∨ 0 = 29) ∨ 90 ≤ 6 ∧ 6 ≤ 93) by decide) rfl)
  have t_70 : (M42.2.1 6 0).toInt = (M25.2.1 6 0).toInt := congrArg Int32.toInt c_69
  have c_71 : M42.2.1 28 8 = (M.2.1 28 8) := (F_n F36 (show ¬ (28 = 77 ∧ (8 = 2 ∨ 8 = 29) ∨ 90 ≤ 28 ∧ 28 ≤ 93) by decide) (F_n F17 (show ¬ (6 ≤ 28 ∧ 28 ≤ 10) by decide) rfl))
  have t_72 : (M42.2.1 28 8).toInt = (M.2.1 28 8).toInt := congrArg Int32.toInt c_71
  have c_73 : M42.2.1 77 43 = (M.2.1 77 43) := (F_n F36 (show ¬ (77 = 77 ∧ (43 = 2 ∨ 43 = 29) ∨ 90 ≤ 77 ∧ 77 ≤ 93) by decide) (F_n F17 (show ¬ (6 ≤ 77 ∧ 77 ≤ 10) by decide) rfl))
  have t_74 : (M42.2.1 77 43).toInt = (M.2.1 77 43).toInt := congrArg Int32.toInt c_73
  have c_75 : M42.2.1 28 9 = (M.2.1 28 9) := (F_n F36 (show ¬ (28 = 77 ∧ (9 = 2 ∨ 9 = 29) ∨ 90 ≤ 28 ∧ 28 ≤ 93) by decide) (F_n F17 (show ¬ (6 ≤ 28 ∧ 28 ≤ 10) by decide) rfl))
  have t_76 : (M42.2.1 28 9).toInt = (M.2.1 28 9).toInt := congrArg Int32.toInt c_75
  have c_77 : M42.2.1 77 42 = (M.2.1 77 42) := (F_n F36 (show ¬ (77 = 77 ∧ (42 = 2 ∨ 42 = 29) ∨ 90 ≤ 77 ∧ 77 ≤ 93) by decide) (F_n F17 (show ¬ (6 ≤ 77 ∧ 77 ≤ 10) by decide) rfl))
  have t_78 : (M42.2.1 77 42).toInt = (M.2.1 77 42).toInt := congrArg Int32.toInt c_77
  have j_79 := (PI_f (tg_612 F36) p_20)
  have j_80 := (NI_f (tg_613 F36) p_19)
  have j_81 := (QI_f (tg_614 F36) p_21)
  have j_82 := (PQE_r F36.2.1 (PQE_r F17.2.1 jPQE))
  have j_83 := (FA_f (tg_615 F36) (FA_f (tg_610 F17) jFA))
  have j_84 := (WC_f (tg_616 F36) (WC_f (tg_617 F17) jWC))
  have j_85 := (PS_f (tg_618 F36) (PS_f (tg_619 F17) jPS))
  have j_86 := (KQ_f (tg_620 F36) (KQ_f (tg_621 F17) jKQ))
  have j_87 := (TP_f (tg_622 F36) (TP_f (tg_623 F17) jTP))
  have j_88 := (W9_f (tg_624 F36) (W9_f (tg_625 F17) jW9))
  have j_89 := (KNA_F F36 (fun a i z => show ¬ (a = 77 ∧ (i = 2 ∨ i = 29) ∨ 90 ≤ a ∧ a ≤ 93) by (first | (clear hpz15 hpzz15 hqz15 hqzz15 p_22 p_23 p_39 p_40; omega) | (clear hpz15 hpzz15 hqz15 hqzz15; omega) | (clear hpz15 hpzz15 hqz15 p_22 p_23 p_39 p_40; omega) | omega)) (KNA_F F17 (fun a i z => show ¬ (6 ≤ a ∧ a ≤ 10) by (first | (clear hpz15 hpzz15 hqz15 hqzz15 p_22 p_23 p_39 p_40; omega) | (clear hpz15 hpzz15 hqz15 hqzz15; omega) | (clear hpz15 hpzz15 hqz15 p_22 p_23 p_39 p_40; omega) | omega)) jKNA))
  have j_90 := (NE_r F36.2.1 (NE_r F17.2.1 jNE))
  have j_91 := (W8_f (tg_626 F36) (W8_f (tg_627 F17) jW8))
  exact h M42 (u5) (u6) ⟨⟨⟨⟨⟨⟨⟨⟨⟨hG37, ⟨j_79, j_80, j_81, j_82⟩, ⟨j_83, j_84, p_38, j_85, j_86⟩, by (first | (clear hpz15 hpzz15 hqz15 hqzz15 p_22 p_23 p_39 p_40; omega) | (clear hpz15 hpzz15 hqz15 hqzz15; omega) | (clear hpz15 hpzz15 hqz15 p_22 p_23 p_39 p_40; omega) | omega), by (first | (clear hpz15 hpzz15 hqz15 hqzz15 p_22 p_23 p_39 p_40; omega) | (clear hpz15 hpzz15 hqz15 hqzz15; omega) | (clear hpz15 hpzz15 hqz15 p_22 p_23 p_39 p_40; omega) | omega)⟩, j_87, j_88⟩, j_90, by (first | (clear hpz15 hpzz15 hqz15 hqzz15 p_22 p_23 p_39 p_40; omega) | (clear hpz15 hpzz15 hqz15 hqzz15; omega) | (clear hpz15 hpzz15 hqz15 p_22 p_23 p_39 p_40; omega) | omega)⟩, AN_a z_52⟩, by (first | (clear hpz15 hpzz15 hqz15 hqzz15 p_22 p_23 p_39 p_40; omega) | (clear hpz15 hpzz15 hqz15 hqzz15; omega) | (clear hpz15 hpzz15 hqz15 p_22 p_23 p_39 p_40; omega) | omega)⟩, j_91⟩, by (first | (clear hpz15 hpzz15 hqz15 hqzz15 p_22 p_23 p_39 p_40; omega) | (clear hpz15 hpzz15 hqz15 hqzz15; omega) | (clear hpz15 hpzz15 hqz15 p_22 p_23 p_39 p_40; omega) | omega)⟩, z_52⟩, j_89, by (first | (clear hpz15 hpzz15 hqz15 hqzz15 p_22 p_23 p_39 p_40; omega) | (clear hpz15 hpzz15 hqz15 hqzz15; omega) | (clear hpz15 hpzz15 hqz15 p_22 p_23 p_39 p_40; omega) | omega), by (first | (clear hpz15 hpzz15 hqz15 hqzz15 p_22 p_23 p_39 p_40; omega) | (clear hpz15 hpzz15 hqz15 hqzz15; omega) | (clear hpz15 hpzz15 hqz15 p_22 p_23 p_39 p_40; omega) | omega)⟩ (by (first | (clear hpz15 hpzz15 hqz15 hqzz15 p_22 p_23 p_39 p_40; omega) | (clear hpz15 hpzz15 hqz15 hqzz15; omega) | (clear hpz15 hpzz15 hqz15 p_22 p_23 p_39 p_40; omega) | omega)) (by (first | (clear hpz15 hpzz15 hqz15 hqzz15 p_22 p_23 p_39 p_40; omega) | (clear hpz15 hpzz15 hqz15 hqzz15; omega) | (clear hpz15 hpzz15 hqz15 p_22 p_23 p_39 p_40; omega) | omega))
