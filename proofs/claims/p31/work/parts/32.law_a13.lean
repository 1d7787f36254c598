set_option maxRecDepth 4000 in
set_option maxHeartbeats 0 in
theorem LW_13 {X : mm_X} {d L : Nat} {M : mm_M} {Q : Option Value → mm_M → Prop} {i : Int32} {u5 u6 : Value} (hX : g_X X) (hW : g_W X) (hW2 : g_W2 X) (hL : (X 0).1 = L) (h3 : L ≤ 3072) (hd : 40 ≤ d) (hi : 0 ≤ i.toInt) (hi2 : i.toInt + 6 ≤ (L : Int)) (H : LI10 M) (h : ∀ (M1 : mm_M) (v5 v6 : Value), LI10 M1 → M1.1.2.1 ≤ M.1.2.1 + 1 → M1.1.2.2.1 ≤ M.1.2.2.1 + 6 → mm_T X d 0 1313 [.ref mm_ext, .ref 0, .ref 77, .ref 125, .int i, v5, v6] [] M1 Q) : mm_T X d 0 664 [.ref mm_ext, .ref 0, .ref 77, .ref 125, .int i, u5, u6] [] M Q := by
  obtain ⟨⟨⟨⟨⟨⟨⟨⟨⟨hG, ⟨jPI, jNI, jQI, jPQE⟩, ⟨jFA, jWC, jNJ, jPS, jKQ⟩, jJ, jE⟩, jTP, jW9⟩, jNE, jCC⟩, -⟩, jOV⟩, jW8⟩, jNN⟩, jAN⟩, jKNA, jDN, jPN⟩ := H
  have b_1 := g_b hG (a := 77) (i := 7) (lo := 0) (hi := 500) rfl rfl
  have b_2 := g_b hG (a := 77) (i := 6) (lo := 0) (hi := 500) rfl rfl
  have b_3 := g_b hG (a := 1) (i := 1) (lo := 0) (hi := 500) rfl rfl
  have b_4 := g_b hG (a := 77) (i := 1) (lo := 0) (hi := 500) rfl rfl
  have b_5 := g_b hG (a := 0) (i := 12) (lo := 0) (hi := 30) rfl rfl
  have b_6 := g_b hG (a := 77) (i := 28) (lo := 0) (hi := 30) rfl rfl
  have b_7 := g_b hG (a := 6) (i := 0) (lo := 0) (hi := 150) rfl rfl
  have b_8 := g_b hG (a := 77) (i := 29) (lo := 0) (hi := 150) rfl rfl
  have b_9 := g_b hG (a := 28) (i := 8) (lo := 0) (hi := 3000) rfl rfl
  have b_10 := g_b hG (a := 77) (i := 43) (lo := 0) (hi := 3000) rfl rfl
  refine to_an (pc := 664) rw_0_664 rfl (to_an (pc := 665) rw_0_665 rfl (to_i (pc := 666) rw_0_666 rfl (to_c (pc := 668) rw_0_668 (x := (1 : Int32)) rfl rfl (s_add (pc := 669) rw_0_669 (A := i.toInt) (B := 1) rfl rfl (by omega) (fun v11 e12 => s_x0 (pc := 670) rw_0_670 hL (A := v11.toInt) rfl (by omega) (by omega) (fun v13 e14 => to_an (pc := 671) rw_0_671 rfl (to_i (pc := 672) rw_0_672 rfl (to_c (pc := 674) rw_0_674 (x := (2 : Int32)) rfl rfl (s_add (pc := 675) rw_0_675 (A := i.toInt) (B := 2) rfl rfl (by omega) (fun v15 e16 => s_x0 (pc := 676) rw_0_676 hL (A := v15.toInt) rfl (by omega) (by omega) (fun v17 e18 => s_v (pc := 677) rw_0_677 (dp0 hd (by decide)) (ls0 := [.ref 0, .int v13, .int v17]) rfl (Nat.le_of_ble_eq_true rfl) (Nat.le_of_ble_eq_true rfl) rfl (to_rc rfl rfl rfl (g_o hG rfl)) rfl ?_)))))))))))
  obtain ⟨pz19, pzz19, qz19, qzz19, hpz19, hpzz19, hqz19, hqzz19, hpqz19⟩ := id jPQE
  obtain ⟨sg, NN, nz, ca, hs1, hs2, hn1, hn2, hn3, hn4, hn5⟩ := AN_u jAN hpqz19
  refine E_122 hX (dp1 hd (by decide)) hG hpz19 hpzz19 hqz19 hqzz19 hpqz19 jNI jPI jQI hs1.1 (w := v13) (b := v17) (sg := sg) (p := pz19) (pz := pzz19) (q := qz19) (qz := qzz19) (fun r20 M29 hG22 F21 p_23 p_24 p_25 p_26 p_27 p_28 => ?_)
  have n_30 : M29.1.2.1 = M.1.2.1 ∧ M29.1.2.2.1 = M.1.2.2.1 := by rw [F21.1]; exact ⟨rfl, rfl⟩
  have b_32 := g_b hG22 (a := 6) (i := 0) (lo := 0) (hi := 150) rfl rfl
  have c_33 : M29.2.1 77 29 = (M.2.1 77 29) := (F_n F21 (show ¬ (6 ≤ 77 ∧ 77 ≤ 10) by decide) rfl)
  have t_34 : (M29.2.1 77 29).toInt = (M.2.1 77 29).toInt := congrArg Int32.toInt c_33
  refine to_popi (pc := 680) rw_0_680 (to_an (pc := 681) rw_0_681 rfl (to_an (pc := 682) rw_0_682 rfl (to_i (pc := 683) rw_0_683 rfl (to_c (pc := 685) rw_0_685 (x := (1 : Int32)) rfl rfl (s_addk (pc := 686) rw_0_686 (A := i.toInt) (B := 1) rfl rfl (by (first | (clear hpz19 hpzz19 hqz19 hqzz19 p_26 p_27; omega) | (clear hpz19 hpzz19 hqz19 hqzz19; omega) | (clear hpz19 hpzz19 hqz19 p_26 p_27; omega) | omega)) (v := v11) e12 (s_x0k (pc := 687) rw_0_687 hL (A := v11.toInt) rfl (by (first | (clear hpz19 hpzz19 hqz19 hqzz19 p_26 p_27; omega) | (clear hpz19 hpzz19 hqz19 hqzz19; omega) | (clear hpz19 hpzz19 hqz19 p_26 p_27; omega) | omega)) (by (first | (clear hpz19 hpzz19 hqz19 hqzz19 p_26 p_27; omega) | (clear hpz19 hpzz19 hqz19 hqzz19; omega) | (clear hpz19 hpzz19 hqz19 p_26 p_27; omega) | omega)) (v := v13) e14 (to_an (pc := 688) rw_0_688 rfl (to_i (pc := 689) rw_0_689 rfl (to_c (pc := 691) rw_0_691 (x := (2 : Int32)) rfl rfl (s_addk (pc := 692) rw_0_692 (A := i.toInt) (B := 2) rfl rfl (by (first | (clear hpz19 hpzz19 hqz19 hqzz19 p_26 p_27; omega) | (clear hpz19 hpzz19 hqz19 hqzz19; omega) | (clear hpz19 hpzz19 hqz19 p_26 p_27; omega) | omega)) (v := v15) e16 (s_x0k (pc := 693) rw_0_693 hL (A := v15.toInt) rfl (by (first | (clear hpz19 hpzz19 hqz19 hqzz19 p_26 p_27; omega) | (clear hpz19 hpzz19 hqz19 hqzz19; omega) | (clear hpz19 hpzz19 hqz19 p_26 p_27; omega) | omega)) (by (first | (clear hpz19 hpzz19 hqz19 hqzz19 p_26 p_27; omega) | (clear hpz19 hpzz19 hqz19 hqzz19; omega) | (clear hpz19 hpzz19 hqz19 p_26 p_27; omega) | omega)) (v := v17) e18 ?_)))))))))))
  refine s_v (pc := 694) rw_0_694 (dp0 hd (by decide)) (ls0 := [.ref 77, .int v13, .int v17]) rfl (Nat.le_of_ble_eq_true rfl) (Nat.le_of_ble_eq_true rfl) rfl (to_rc rfl rfl rfl (g_o hG22 rfl)) rfl ?_
  have j_39 := (NJ_f (tg_609 F21) jNJ)
  have j_40 := (PLk_f (tg_611 F21) hs2.1)
  refine E_198 hX (dp1 hd (by decide)) hG22 j_39 j_40 (w := v13) (b := v17) (sg := sg) (fun r41 M48 hG43 F42 p_44 p_45 p_46 p_47 => ?_)
  have n_49 : M48.1.2.1 = M29.1.2.1 ∧ M48.1.2.2.1 = M29.1.2.2.1 := by rw [F42.1]; exact ⟨rfl, rfl⟩
  have b_51 := g_b hG43 (a := 77) (i := 29) (lo := 0) (hi := 150) rfl rfl
  have k_52 : (0 : Int32).toInt = 0 := rfl
  have k_53 : (1 : Int32).toInt = 1 := rfl
  have k_54 : (2 : Int32).toInt = 2 := rfl
  have k_55 : (3 : Int32).toInt = 3 := rfl
  have k_56 : (4 : Int32).toInt = 4 := rfl
  have k_57 : (5 : Int32).toInt = 5 := rfl
  have z_58 := AN_n hpz19 hpqz19 hs1 hs2 hn1 hn2 hn3 hn4 hn5 F21 (fun a i z => show ¬ (6 ≤ a ∧ a ≤ 10) by (first | (clear hpz19 hpzz19 hqz19 hqzz19 p_26 p_27 p_45 p_46; omega) | (clear hpz19 hpzz19 hqz19 hqzz19; omega) | (clear hpz19 hpzz19 hqz19 p_26 p_27 p_45 p_46; omega) | omega)) F42 (fun a i z => show ¬ (a = 77 ∧ (i = 2 ∨ i = 29) ∨ 90 ≤ a ∧ a ≤ 93) by (first | (clear hpz19 hpzz19 hqz19 hqzz19 p_26 p_27 p_45 p_46; omega) | (clear hpz19 hpzz19 hqz19 hqzz19; omega) | (clear hpz19 hpzz19 hqz19 p_26 p_27 p_45 p_46; omega) | omega)) p_28 p_47 (by (first | (clear hpz19 hpzz19 hqz19 hqzz19 p_26 p_27 p_45 p_46; omega) | (clear hpz19 hpzz19 hqz19 hqzz19; omega) | (clear hpz19 hpzz19 hqz19 p_26 p_27 p_45 p_46; omega) | omega)) (by (first | (clear hpz19 hpzz19 hqz19 hqzz19 p_26 p_27 p_45 p_46; omega) | (clear hpz19 hpzz19 hqz19 hqzz19; omega) | (clear hpz19 hpzz19 hqz19 p_26 p_27 p_45 p_46; omega) | omega)) (by (first | (clear hpz19 hpzz19 hqz19 hqzz19 p_26 p_27 p_45 p_46; omega) | (clear hpz19 hpzz19 hqz19 hqzz19; omega) | (clear hpz19 hpzz19 hqz19 p_26 p_27 p_45 p_46; omega) | omega)) (by (first | (clear hpz19 hpzz19 hqz19 hqzz19 p_26 p_27 p_45 p_46; omega) | (clear hpz19 hpzz19 hqz19 hqzz19; omega) | (clear hpz19 hpzz19 hqz19 p_26 p_27 p_45 p_46; omega) | omega)) (fun z9 => ⟨fun z => by (first | (clear hpz19 hpzz19 hqz19 hqzz19 p_26 p_27 p_45 p_46; omega) | (clear hpz19 hpzz19 hqz19 hqzz19; omega) | (clear hpz19 hpzz19 hqz19 p_26 p_27 p_45 p_46; omega) | omega), fun z => by (first | (clear hpz19 hpzz19 hqz19 hqzz19 p_26 p_27 p_45 p_46; omega) | (clear hpz19 hpzz19 hqz19 hqzz19; omega) | (clear hpz19 hpzz19 hqz19 p_26 p_27 p_45 p_46; omega) | omega), fun z => by (first | (clear hpz19 hpzz19 hqz19 hqzz19 p_26 p_27 p_45 p_46; omega) | (clear hpz19 hpzz19 hqz19 hqzz19; omega) | (clear hpz19 hpzz19 hqz19 p_26 p_27 p_45 p_46; omega) | omega), fun z => by (first | (clear hpz19 hpzz19 hqz19 hqzz19 p_26 p_27 p_45 p_46; omega) | (clear hpz19 hpzz19 hqz19 hqzz19; omega) | (clear hpz19 hpzz19 hqz19 p_26 p_27 p_45 p_46; omega) | omega), fun z => by (first | (clear hpz19 hpzz19 hqz19 hqzz19 p_26 p_27 p_45 p_46; omega) | (clear hpz19 hpzz19 hqz19 hqzz19; omega) | (clear hpz19 hpzz19 hqz19 p_26 p_27 p_45 p_46; omega) | omega)⟩)
  refine to_popi (pc := 697) rw_0_697 (to_go (pc := 698) rw_0_698 ?_)
  have c_59 : M48.2.1 77 7 = (M.2.1 77 7) := (F_n F42 (show ¬ (77 = 77 ∧ (7 = 2 ∨ 7 = 29) ∨ 90 ≤ 77 ∧ 77 ≤ 93) by decide) (F_n F21 (show ¬ (6 ≤ 77 ∧ 77 ≤ 10) by decide) rfl))
  have t_60 : (M48.2.1 77 7).toInt = (M.2.1 77 7).toInt := congrArg Int32.toInt c_59
  have c_61 : M48.2.1 77 6 = (M.2.1 77 6) := (F_n F42 (show ¬ (77 = 77 ∧ (6 = 2 ∨ 6 = 29) ∨ 90 ≤ 77 ∧ 77 ≤ 93) by decide) (F_n F21 (show ¬ (6 ≤ 77 ∧ 77 ≤ 10) by decide) rfl))
  have t_62 : (M48.2.1 77 6).toInt = (M.2.1 77 6).toInt := congrArg Int32.toInt c_61
  have c_63 : M48.2.1 1 1 = (M.2.1 1 1) := (F_n F42 (show ¬ (1 = 77 ∧ (1 = 2 ∨ 1 = 29) ∨ 90 ≤ 1 ∧ 1 ≤ 93) by decide) (F_n F21 (show ¬ (6 ≤ 1 ∧ 1 ≤ 10) by decide) rfl))
  have t_64 : (M48.2.1 1 1).toInt = (M.2.1 1 1).toInt := congrArg Int32.toInt c_63
  have c_65 : M48.2.1 77 1 = (M.2.1 77 1) := (F_n F42 (show ¬ (77 = 77 ∧ (1 = 2 ∨ 1 = 29) ∨ 90 ≤ 77 ∧ 77 ≤ 93) by decide) (F_n F21 (show ¬ (6 ≤ 77 ∧ 77 ≤ 10) by decide) rfl))
  have t_66 : (M48.2.1 77 1).toInt = (M.2.1 77 1).toInt := congrArg Int32.toInt c_65
  have c_67 : M48.2.1 0 12 = (M.2.1 0 12) := (F_n F42 (show ¬ (0 = 77 ∧ (12 = 2 ∨ 12 = 29) ∨ 90 ≤ 0 ∧ 0 ≤ 93) by decide) (F_n F21 (show ¬ (6 ≤ 0 ∧ 0 ≤ 10) by decide) rfl))
  have t_68 : (M48.2.1 0 12).toInt = (M.2.1 0 12).toInt := congrArg Int32.toInt c_67
  have c_69 : M48.2.1 77 28 = (M.2.1 77 28) := (F_n F42 (show ¬ (77 = 77 ∧ (28 = 2 ∨ 28 = 29) ∨ 90 ≤ 77 ∧ 77 ≤ 93) by decide) (F_n F21 (show ¬ (6 ≤ 77 ∧ 77 ≤ 10) by decide) rfl))
  have t_70 : (M48.2.1 77 28).toInt = (M.2.1 77 28).toInt := congrArg Int32.toInt c_69
  have c_71 : M48.2.1 17 4 = (M.2.1 17 4) := (F_n F42 (show ¬ (17 = 77 ∧ (4 = 2 ∨ 4 = 29) ∨ 90 ≤ 17 ∧ 17 ≤ 93) by decide) (F_n F21 (show ¬ (6 ≤ 17 ∧ 17 ≤ 10) by decide) rfl))
  have t_72 : (M48.2.1 17 4).toInt = (M.2.1 17 4).toInt := congrArg Int32.toInt c_71
  have c_73 : M48.2.1 77 41 = (M.2.1 77 41) := (F_n F42 (show ¬ (77 = 77 ∧ (41 = 2 ∨ 41 = 29) ∨ 90 ≤ 77 ∧ 77 ≤ 93) by decide) (F_n F21 (show ¬ (6 ≤ 77 ∧ 77 ≤ 10) by decide) rfl))
  have t_74 : (M48.2.1 77 41).toInt = (M.2.1 77 41).toInt := congrArg Int32.toInt c_73
  have c_75 : M48.2.1 6 0 = (M29.2.1 6 0) := (F_n F42 (show ¬ (6 = 77 ∧ (0 = 2 ∨ 0 = 29) ∨ 90 ≤ 6 ∧ 6 ≤ 93) by decide) rfl)
  have t_76 : (M48.2.1 6 0).toInt = (M29.2.1 6 0).toInt := congrArg Int32.toInt c_75
  have c_77 : M48.2.1 28 8 = (M.2.1 28 8) := (F_n F42 (show ¬ (28 = 77 ∧ (8 = 2 ∨ 8 = 29) ∨ 90 ≤ 28 ∧ 28 ≤ 93) by decide) (F_n F21 (show ¬ (6 ≤ 28 ∧ 28 ≤ 10) by decide) rfl))
  have t_78 : (M48.2.1 28 8).toInt = (M.2.1 28 8).toInt := congrArg Int32.toInt c_77
  have c_79 : M48.2.1 77 43 = (M.2.1 77 43) := (F_n F42 (show ¬ (77 = 77 ∧ (43 = 2 ∨ 43 = 29) ∨ 90 ≤ 77 ∧ 77 ≤ 93) by decide) (F_n F21 (show ¬ (6 ≤ 77 ∧ 77 ≤ 10) by decide) rfl))
  have t_80 : (M48.2.1 77 43).toInt = (M.2.1 77 43).toInt := congrArg Int32.toInt c_79
  have c_81 : M48.2.1 28 9 = (M.2.1 28 9) := (F_n F42 (show ¬ (28 = 77 ∧ (9 = 2 ∨ 9 = 29) ∨ 90 ≤ 28 ∧ 28 ≤ 93) by decide) (F_n F21 (show ¬ (6 ≤ 28 ∧ 28 ≤ 10) by decide) rfl))
  have t_82 : (M48.2.1 28 9).toInt = (M.2.1 28 9).toInt := congrArg Int32.toInt c_81
  have c_83 : M48.2.1 77 42 = (M.2.1 77 42) := (F_n F42 (show ¬ (77 = 77 ∧ (42 = 2 ∨ 42 = 29) ∨ 90 ≤ 77 ∧ 77 ≤ 93) by decide) (F_n F21 (show ¬ (6 ≤ 77 ∧ 77 ≤ 10) by decide) rfl))
  have t_84 : (M48.2.1 77 42).toInt = (M.2.1 77 42).toInt := congrArg Int32.toInt c_83
  have j_85 := (PI_f (tg_612 F42) p_24)
  have j_86 := (NI_f (tg_613 F42) p_23)
  have j_87 := (QI_f (tg_614 F42) p_25)
  have j_88 := (PQE_r F42.2.1 (PQE_r F21.2.1 jPQE))
  have j_89 := (FA_f (tg_615 F42) (FA_f (tg_610 F21) jFA))
  have j_90 := (WC_f (tg_616 F42) (WC_f (tg_617 F21) jWC))
  have j_91 := (PS_f (tg_618 F42) (PS_f (tg_619 F21) jPS))
  have j_92 := (KQ_f (tg_620 F42) (KQ_f (tg_621 F21) jKQ))
  have j_93 := (TP_f (tg_622 F42) (TP_f (tg_623 F21) jTP))
  have j_94 := (W9_f (tg_624 F42) (W9_f (tg_625 F21) jW9))
  have j_95 := (KNA_F F42 (fun a i z => show ¬ (a = 77 ∧ (i = 2 ∨ i = 29) ∨ 90 ≤ a ∧ a ≤ 93) by (first | (clear hpz19 hpzz19 hqz19 hqzz19 p_26 p_27 p_45 p_46; omega) | (clear hpz19 hpzz19 hqz19 hqzz19; omega) | (clear hpz19 hpzz19 hqz19 p_26 p_27 p_45 p_46; omega) | omega)) (KNA_F F21 (fun a i z => show ¬ (6 ≤ a ∧ a ≤ 10) by (first | (clear hpz19 hpzz19 hqz19 hqzz19 p_26 p_27 p_45 p_46; omega) | (clear hpz19 hpzz19 hqz19 hqzz19; omega) | (clear hpz19 hpzz19 hqz19 p_26 p_27 p_45 p_46; omega) | omega)) jKNA))
  have j_96 := (NE_r F42.2.1 (NE_r F21.2.1 jNE))
  have j_97 := (W8_f (tg_626 F42) (W8_f (tg_627 F21) jW8))
  exact h M48 (u5) (u6) ⟨⟨⟨⟨⟨⟨⟨⟨⟨hG43, ⟨j_85, j_86, j_87, j_88⟩, ⟨j_89, j_90, p_44, j_91, j_92⟩, by (first | (clear hpz19 hpzz19 hqz19 hqzz19 p_26 p_27 p_45 p_46; omega) | (clear hpz19 hpzz19 hqz19 hqzz19; omega) | (clear hpz19 hpzz19 hqz19 p_26 p_27 p_45 p_46; omega) | omega), by (first | (clear hpz19 hpzz19 hqz19 hqzz19 p_26 p_27 p_45 p_46; omega) | (clear hpz19 hpzz19 hqz19 hqzz19; omega) | (clear hpz19 hpzz19 hqz19 p_26 p_27 p_45 p_46; omega) | omega)⟩, j_93, j_94⟩, j_96, by (first | (clear hpz19 hpzz19 hqz19 hqzz19 p_26 p_27 p_45 p_46; omega) | (clear hpz19 hpzz19 hqz19 hqzz19; omega) | (clear hpz19 hpzz19 hqz19 p_26 p_27 p_45 p_46; omega) | omega)⟩, AN_a z_58⟩, by (first | (clear hpz19 hpzz19 hqz19 hqzz19 p_26 p_27 p_45 p_46; omega) | (clear hpz19 hpzz19 hqz19 hqzz19; omega) | (clear hpz19 hpzz19 hqz19 p_26 p_27 p_45 p_46; omega) | omega)⟩, j_97⟩, by (first | (clear hpz19 hpzz19 hqz19 hqzz19 p_26 p_27 p_45 p_46; omega) | (clear hpz19 hpzz19 hqz19 hqzz19; omega) | (clear hpz19 hpzz19 hqz19 p_26 p_27 p_45 p_46; omega) | omega)⟩, z_58⟩, j_95, by (first | (clear hpz19 hpzz19 hqz19 hqzz19 p_26 p_27 p_45 p_46; omega) | (clear hpz19 hpzz19 hqz19 hqzz19; omega) | (clear hpz19 hpzz19 hqz19 p_26 p_27 p_45 p_46; omega) | omega), by (first | (clear hpz19 hpzz19 hqz19 hqzz19 p_26 p_27 p_45 p_46; omega) | (clear hpz19 hpzz19 hqz19 hqzz19; omega) | (clear hpz19 hpzz19 hqz19 p_26 p_27 p_45 p_46; omega) | omega)⟩ (by (first | (clear hpz19 hpzz19 hqz19 hqzz19 p_26 p_27 p_45 p_46; omega) | (clear hpz19 hpzz19 hqz19 hqzz19; omega) | (clear hpz19 hpzz19 hqz19 p_26 p_27 p_45 p_46; omega) | omega)) (by (first | (clear hpz19 hpzz19 hqz19 hqzz19 p_26 p_27 p_45 p_46; omega) | (clear hpz19 hpzz19 hqz19 hqzz19; omega) | (clear hpz19 hpzz19 hqz19 p_26 p_27 p_45 p_46; omega) | omega))
