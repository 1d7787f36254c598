set_option maxRecDepth 4000 in
set_option maxHeartbeats 0 in
theorem LW_13 {X : mm_X} {d L : Nat} {M : mm_M} {Q : Option Value → mm_M → Prop} {i : Int32} {u5 u6 : Value} (hX : g_X X) (hW : g_W X) (hW2 : g_W2 X) (hL : (X 0).1 = L) (h3 : L ≤ 3072) (hd : 40 ≤ d) (hi : 0 ≤ i.toInt) (hi2 : i.toInt + 6 ≤ (L : Int)) (H : LI10 M) (h : ∀ (M1 : mm_M) (v5 v6 : Value), LI10 M1 → M1.1.2.1 ≤ M.1.2.1 + 1 → M1.1.2.2.1 ≤ M.1.2.2.1 + 6 → mm_T X d 0 1313 [.ref mm_ext, .ref 0, .ref 77, .ref 125, .int i, v5, v6] [] M1 Q) : mm_T X d 0 664 [.ref mm_ext, .ref 0, .ref 77, .ref 125, .int i, u5, u6] [] M Q := by
  obtain ⟨⟨⟨⟨⟨⟨⟨⟨⟨hG, ⟨jPI, jNI, jQI, jPQE⟩, ⟨jFA, jWC, jNJ, jPS, jKQ⟩, jJ, jE⟩, jTP, jW9⟩, jNE, jCC⟩, -⟩, jOV⟩, jW8⟩, jNN⟩, jAN⟩, jFF, jFP⟩ := H
  have b_1 := g_b hG (a := 77) (i := 7) (lo := 0) (hi := 500) rfl rfl
  have b_2 := g_b hG (a := 77) (i := 6) (lo := 0) (hi := 500) rfl rfl
  have b_3 := g_b hG (a := 1) (i := 1) (lo := 0) (hi := 500) rfl rfl
  have b_4 := g_b hG (a := 77) (i := 1) (lo := 0) (hi := 500) rfl rfl
  have b_5 := g_b hG (a := 0) (i := 12) (lo := 0) (hi := 30) rfl rfl
  have b_6 := g_b hG (a := 77) (i := 28) (lo := 0) (hi := 30) rfl rfl
  have b_7 := g_b hG (a := 6) (i := 0) (lo := 0) (hi := 150) rfl rfl
  have b_8 := g_b hG (a := 77) (i := 29) (lo := 0) (hi := 150) rfl rfl
  refine to_an (pc := 664) rw_0_664 rfl (to_an (pc := 665) rw_0_665 rfl (to_i (pc := 666) rw_0_666 rfl (to_c (pc := 668) rw_0_668 (x := (1 : Int32)) rfl rfl (s_add (pc := 669) rw_0_669 (A := i.toInt) (B := 1) rfl rfl (by omega) (fun v9 e10 => s_x0 (pc := 670) rw_0_670 hL (A := v9.toInt) rfl (by omega) (by omega) (fun v11 e12 => to_an (pc := 671) rw_0_671 rfl (to_i (pc := 672) rw_0_672 rfl (to_c (pc := 674) rw_0_674 (x := (2 : Int32)) rfl rfl (s_add (pc := 675) rw_0_675 (A := i.toInt) (B := 2) rfl rfl (by omega) (fun v13 e14 => s_x0 (pc := 676) rw_0_676 hL (A := v13.toInt) rfl (by omega) (by omega) (fun v15 e16 => s_v (pc := 677) rw_0_677 (dp0 hd (by decide)) (ls0 := [.ref 0, .int v11, .int v15]) rfl (Nat.le_of_ble_eq_true rfl) (Nat.le_of_ble_eq_true rfl) rfl (to_rc rfl rfl rfl (g_o hG rfl)) rfl ?_)))))))))))
  obtain ⟨pz17, pzz17, qz17, qzz17, hpz17, hpzz17, hqz17, hqzz17, hpqz17⟩ := id jPQE
  obtain ⟨sg, NN, nz, ca, hs1, hs2, hn1, hn2, hn3, hn4, hn5⟩ := AN_u jAN hpqz17
  refine E_122 hX (dp1 hd (by decide)) hG hpz17 hpzz17 hqz17 hqzz17 hpqz17 jNI jPI jQI hs1.1 (w := v11) (b := v15) (sg := sg) (p := pz17) (pz := pzz17) (q := qz17) (qz := qzz17) (fun r18 M27 hG20 F19 p_21 p_22 p_23 p_24 p_25 p_26 => ?_)
  have n_28 : M27.1.2.1 = M.1.2.1 ∧ M27.1.2.2.1 = M.1.2.2.1 := by rw [F19.1]; exact ⟨rfl, rfl⟩
  have b_30 := g_b hG20 (a := 6) (i := 0) (lo := 0) (hi := 150) rfl rfl
  have c_31 : M27.2.1 77 29 = (M.2.1 77 29) := (F_n F19 (show ¬ (6 ≤ 77 ∧ 77 ≤ 10) by decide) rfl)
  have t_32 : (M27.2.1 77 29).toInt = (M.2.1 77 29).toInt := congrArg Int32.toInt c_31
  refine to_popi (pc := 680) rw_0_680 (to_an (pc := 681) rw_0_681 rfl (to_an (pc := 682) rw_0_682 rfl (to_i (pc := 683) rw_0_683 rfl (to_c (pc := 685) rw_0_685 (x := (1 : Int32)) rfl rfl (s_addk (pc := 686) rw_0_686 (A := i.toInt) (B := 1) rfl rfl (by (first | (clear hpz17 hpzz17 hqz17 hqzz17 p_24 p_25; omega) | (clear hpz17 hpzz17 hqz17 hqzz17; omega) | (clear hpz17 hpzz17 hqz17 p_24 p_25; omega) | omega)) (v := v9) e10 (s_x0k (pc := 687) rw_0_687 hL (A := v9.toInt) rfl (by (first | (clear hpz17 hpzz17 hqz17 hqzz17 p_24 p_25; omega) | (clear hpz17 hpzz17 hqz17 hqzz17; omega) | (clear hpz17 hpzz17 hqz17 p_24 p_25; omega) | omega)) (by (first | (clear hpz17 hpzz17 hqz17 hqzz17 p_24 p_25; omega) | (clear hpz17 hpzz17 hqz17 hqzz17; omega) | (clear hpz17 hpzz17 hqz17 p_24 p_25; omega) | omega)) (v := v11) e12 (to_an (pc := 688) rw_0_688 rfl (to_i (pc := 689) rw_0_689 rfl (to_c (pc := 691) rw_0_691 (x := (2 : Int32)) rfl rfl (s_addk (pc := 692) rw_0_692 (A := i.toInt) (B := 2) rfl rfl (by (first | (clear hpz17 hpzz17 hqz17 hqzz17 p_24 p_25; omega) | (clear hpz17 hpzz17 hqz17 hqzz17; omega) | (clear hpz17 hpzz17 hqz17 p_24 p_25; omega) | omega)) (v := v13) e14 (s_x0k (pc := 693) rw_0_693 hL (A := v13.toInt) rfl (by (first | (clear hpz17 hpzz17 hqz17 hqzz17 p_24 p_25; omega) | (clear hpz17 hpzz17 hqz17 hqzz17; omega) | (clear hpz17 hpzz17 hqz17 p_24 p_25; omega) | omega)) (by (first | (clear hpz17 hpzz17 hqz17 hqzz17 p_24 p_25; omega) | (clear hpz17 hpzz17 hqz17 hqzz17; omega) | (clear hpz17 hpzz17 hqz17 p_24 p_25; omega) | omega)) (v := v15) e16 ?_)))))))))))
  refine s_v (pc := 694) rw_0_694 (dp0 hd (by decide)) (ls0 := [.ref 77, .int v11, .int v15]) rfl (Nat.le_of_ble_eq_true rfl) (Nat.le_of_ble_eq_true rfl) rfl (to_rc rfl rfl rfl (g_o hG20 rfl)) rfl ?_
  have j_37 := (NJ_f (tg_617 F19) jNJ)
  have j_38 := (PLk_f (tg_619 F19) hs2.1)
  refine E_198 hX (dp1 hd (by decide)) hG20 j_37 j_38 (w := v11) (b := v15) (sg := sg) (fun r39 M46 hG41 F40 p_42 p_43 p_44 p_45 => ?_)
  have n_47 : M46.1.2.1 = M27.1.2.1 ∧ M46.1.2.2.1 = M27.1.2.2.1 := by rw [F40.1]; exact ⟨rfl, rfl⟩
  have b_49 := g_b hG41 (a := 77) (i := 29) (lo := 0) (hi := 150) rfl rfl
  have k_50 : (0 : Int32).toInt = 0 := rfl
  have k_51 : (1 : Int32).toInt = 1 := rfl
  have k_52 : (2 : Int32).toInt = 2 := rfl
  have k_53 : (3 : Int32).toInt = 3 := rfl
  have k_54 : (4 : Int32).toInt = 4 := rfl
  have k_55 : (5 : Int32).toInt = 5 := rfl
  have z_56 := AN_n hpz17 hpqz17 hs1 hs2 hn1 hn2 hn3 hn4 hn5 F19 (fun a i z => show ¬ (6 ≤ a ∧ a ≤ 10) by (first | (clear hpz17 hpzz17 hqz17 hqzz17 p_24 p_25 p_43 p_44; omega) | (clear hpz17 hpzz17 hqz17 hqzz17; omega) | (clear hpz17 hpzz17 hqz17 p_24 p_25 p_43 p_44; omega) | omega)) F40 (fun a i z => show ¬ (a = 77 ∧ (i = 2 ∨ i = 29) ∨ 90 ≤ a ∧ a ≤ 93) by (first | (clear hpz17 hpzz17 hqz17 hqzz17 p_24 p_25 p_43 p_44; omega) | (clear hpz17 hpzz17 hqz17 hqzz17; omega) | (clear hpz17 hpzz17 hqz17 p_24 p_25 p_43 p_44; omega) | omega)) p_26 p_45 (by (first | (clear hpz17 hpzz17 hqz17 hqzz17 p_24 p_25 p_43 p_44; omega) | (clear hpz17 hpzz17 hqz17 hqzz17; omega) | (clear hpz17 hpzz17 hqz17 p_24 p_25 p_43 p_44; omega) | omega)) (by (first | (clear hpz17 hpzz17 hqz17 hqzz17 p_24 p_25 p_43 p_44; omega) | (clear hpz17 hpzz17 hqz17 hqzz17; omega) | (clear hpz17 hpzz17 hqz17 p_24 p_25 p_43 p_44; omega) | omega)) (by (first | (clear hpz17 hpzz17 hqz17 hqzz17 p_24 p_25 p_43 p_44; omega) | (clear hpz17 hpzz17 hqz17 hqzz17; omega) | (clear hpz17 hpzz17 hqz17 p_24 p_25 p_43 p_44; omega) | omega)) (by (first | (clear hpz17 hpzz17 hqz17 hqzz17 p_24 p_25 p_43 p_44; omega) | (clear hpz17 hpzz17 hqz17 hqzz17; omega) | (clear hpz17 hpzz17 hqz17 p_24 p_25 p_43 p_44; omega) | omega)) (fun z9 => ⟨fun z => by (first | (clear hpz17 hpzz17 hqz17 hqzz17 p_24 p_25 p_43 p_44; omega) | (clear hpz17 hpzz17 hqz17 hqzz17; omega) | (clear hpz17 hpzz17 hqz17 p_24 p_25 p_43 p_44; omega) | omega), fun z => by (first | (clear hpz17 hpzz17 hqz17 hqzz17 p_24 p_25 p_43 p_44; omega) | (clear hpz17 hpzz17 hqz17 hqzz17; omega) | (clear hpz17 hpzz17 hqz17 p_24 p_25 p_43 p_44; omega) | omega), fun z => by (first | (clear hpz17 hpzz17 hqz17 hqzz17 p_24 p_25 p_43 p_44; omega) | (clear hpz17 hpzz17 hqz17 hqzz17; omega) | (clear hpz17 hpzz17 hqz17 p_24 p_25 p_43 p_44; omega) | omega), fun z => by (first | (clear hpz17 hpzz17 hqz17 hqzz17 p_24 p_25 p_43 p_44; omega) | (clear hpz17 hpzz17 hqz17 hqzz17; omega) | (clear hpz17 hpzz17 hqz17 p_24 p_25 p_43 p_44; omega) | omega), fun z => by (first | (clear hpz17 hpzz17 hqz17 hqzz17 p_24 p_25 p_43 p_44; omega) | (clear hpz17 hpzz17 hqz17 hqzz17; omega) | (clear hpz17 hpzz17 hqz17 p_24 p_25 p_43 p_44; omega) | omega)⟩)
  refine to_popi (pc := 697) rw_0_697 (to_go (pc := 698) rw_0_698 ?_)
  have c_57 : M46.2.1 77 7 = (M.2.1 77 7) := (F_n F40 (show ¬ (77 = 77 ∧ (7 = 2 ∨ 7 = 29) ∨ 90 ≤ 77 ∧ 77 ≤ 93) by decide) (F_n F19 (show ¬ (6 ≤ 77 ∧ 77 ≤ 10) by decide) rfl))
  have t_58 : (M46.2.1 77 7).toInt = (M.2.1 77 7).toInt := congrArg Int32.toInt c_57
  have c_59 : M46.2.1 77 6 = (M.2.1 77 6) := (F_n F40 (show ¬ (77 = 77 ∧ (6 = 2 ∨ 6 = 29) ∨ 90 ≤ 77 ∧ 77 ≤ 93) by decide) (F_n F19 (show ¬ (6 ≤ 77 ∧ 77 ≤ 10) by decide) rfl))
  have t_60 : (M46.2.1 77 6).toInt = (M.2.1 77 6).toInt := congrArg Int32.toInt c_59
  have c_61 : M46.2.1 1 1 = (M.2.1 1 1) := (F_n F40 (show ¬ (1 = 77 ∧ (1 = 2 ∨ 1 = 29) ∨ 90 ≤ 1 ∧ 1 ≤ 93) by decide) (F_n F19 (show ¬ (6 ≤ 1 ∧ 1 ≤ 10) by decide) rfl))
  have t_62 : (M46.2.1 1 1).toInt = (M.2.1 1 1).toInt := congrArg Int32.toInt c_61
  have c_63 : M46.2.1 77 1 = (M.2.1 77 1) := (F_n F40 (show ¬ (77 = 77 ∧ (1 = 2 ∨ 1 = 29) ∨ 90 ≤ 77 ∧ 77 ≤ 93) by decide) (F_n F19 (show ¬ (6 ≤ 77 ∧ 77 ≤ 10) by decide) rfl))
  have t_64 : (M46.2.1 77 1).toInt = (M.2.1 77 1).toInt := congrArg Int32.toInt c_63
  have c_65 : M46.2.1 0 12 = (M.2.1 0 12) := (F_n F40 (show ¬ (0 = 77 ∧ (12 = 2 ∨ 12 = 29) ∨ 90 ≤ 0 ∧ 0 ≤ 93) by decide) (F_n F19 (show ¬ (6 ≤ 0 ∧ 0 ≤ 10) by decide) rfl))
  have t_66 : (M46.2.1 0 12).toInt = (M.2.1 0 12).toInt := congrArg Int32.toInt c_65
  have c_67 : M46.2.1 77 28 = (M.2.1 77 28) := (F_n F40 (show ¬ (77 = 77 ∧ (28 = 2 ∨ 28 = 29) ∨ 90 ≤ 77 ∧ 77 ≤ 93) by decide) (F_n F19 (show ¬ (6 ≤ 77 ∧ 77 ≤ 10) by decide) rfl))
  have t_68 : (M46.2.1 77 28).toInt = (M.2.1 77 28).toInt := congrArg Int32.toInt c_67
  have c_69 : M46.2.1 17 4 = (M.2.1 17 4) := (F_n F40 (show ¬ (17 = 77 ∧ (4 = 2 ∨ 4 = 29) ∨ 90 ≤ 17 ∧ 17 ≤ 93) by decide) (F_n F19 (show ¬ (6 ≤ 17 ∧ 17 ≤ 10) by decide) rfl))
  have t_70 : (M46.2.1 17 4).toInt = (M.2.1 17 4).toInt := congrArg Int32.toInt c_69
  have c_71 : M46.2.1 77 41 = (M.2.1 77 41) := (F_n F40 (show ¬ (77 = 77 ∧ (41 = 2 ∨ 41 = 29) ∨ 90 ≤ 77 ∧ 77 ≤ 93) by decide) (F_n F19 (show ¬ (6 ≤ 77 ∧ 77 ≤ 10) by decide) rfl))
  have t_72 : (M46.2.1 77 41).toInt = (M.2.1 77 41).toInt := congrArg Int32.toInt c_71
  have c_73 : M46.2.1 6 0 = (M27.2.1 6 0) := (F_n F40 (show ¬ (6 = 77 ∧ (0 = 2 ∨ 0 = 29) ∨ 90 ≤ 6 ∧ 6 ≤ 93) by decide) rfl)
  have t_74 : (M46.2.1 6 0).toInt = (M27.2.1 6 0).toInt := congrArg Int32.toInt c_73
  have c_75 : M46.2.1 1 10 = (M.2.1 1 10) := (F_n F40 (show ¬ (1 = 77 ∧ (10 = 2 ∨ 10 = 29) ∨ 90 ≤ 1 ∧ 1 ≤ 93) by decide) (F_n F19 (show ¬ (6 ≤ 1 ∧ 1 ≤ 10) by decide) rfl))
  have t_76 : (M46.2.1 1 10).toInt = (M.2.1 1 10).toInt := congrArg Int32.toInt c_75
  have c_77 : M46.2.1 77 4 = (M.2.1 77 4) := (F_n F40 (show ¬ (77 = 77 ∧ (4 = 2 ∨ 4 = 29) ∨ 90 ≤ 77 ∧ 77 ≤ 93) by decide) (F_n F19 (show ¬ (6 ≤ 77 ∧ 77 ≤ 10) by decide) rfl))
  have t_78 : (M46.2.1 77 4).toInt = (M.2.1 77 4).toInt := congrArg Int32.toInt c_77
  have c_79 : M46.2.1 1 11 = (M.2.1 1 11) := (F_n F40 (show ¬ (1 = 77 ∧ (11 = 2 ∨ 11 = 29) ∨ 90 ≤ 1 ∧ 1 ≤ 93) by decide) (F_n F19 (show ¬ (6 ≤ 1 ∧ 1 ≤ 10) by decide) rfl))
  have t_80 : (M46.2.1 1 11).toInt = (M.2.1 1 11).toInt := congrArg Int32.toInt c_79
  have c_81 : M46.2.1 77 5 = (M.2.1 77 5) := (F_n F40 (show ¬ (77 = 77 ∧ (5 = 2 ∨ 5 = 29) ∨ 90 ≤ 77 ∧ 77 ≤ 93) by decide) (F_n F19 (show ¬ (6 ≤ 77 ∧ 77 ≤ 10) by decide) rfl))
  have t_82 : (M46.2.1 77 5).toInt = (M.2.1 77 5).toInt := congrArg Int32.toInt c_81
  have j_83 := (PI_f (tg_620 F40) p_22)
  have j_84 := (NI_f (tg_621 F40) p_21)
  have j_85 := (QI_f (tg_622 F40) p_23)
  have j_86 := (PQE_r F40.2.1 (PQE_r F19.2.1 jPQE))
  have j_87 := (FA_f (tg_623 F40) (FA_f (tg_618 F19) jFA))
  have j_88 := (WC_f (tg_624 F40) (WC_f (tg_625 F19) jWC))
  have j_89 := (PS_f (tg_626 F40) (PS_f (tg_627 F19) jPS))
  have j_90 := (KQ_f (tg_628 F40) (KQ_f (tg_629 F19) jKQ))
  have j_91 := (TP_f (tg_630 F40) (TP_f (tg_631 F19) jTP))
  have j_92 := (W9_f (tg_632 F40) (W9_f (tg_633 F19) jW9))
  have j_93 := (NE_r F40.2.1 (NE_r F19.2.1 jNE))
  have j_94 := (W8_f (tg_634 F40) (W8_f (tg_635 F19) jW8))
  exact h M46 (u5) (u6) ⟨⟨⟨⟨⟨⟨⟨⟨⟨hG41, ⟨j_83, j_84, j_85, j_86⟩, ⟨j_87, j_88, p_42, j_89, j_90⟩, by (first | (clear hpz17 hpzz17 hqz17 hqzz17 p_24 p_25 p_43 p_44; omega) | (clear hpz17 hpzz17 hqz17 hqzz17; omega) | (clear hpz17 hpzz17 hqz17 p_24 p_25 p_43 p_44; omega) | omega), by (first | (clear hpz17 hpzz17 hqz17 hqzz17 p_24 p_25 p_43 p_44; omega) | (clear hpz17 hpzz17 hqz17 hqzz17; omega) | (clear hpz17 hpzz17 hqz17 p_24 p_25 p_43 p_44; omega) | omega)⟩, j_91, j_92⟩, j_93, by (first | (clear hpz17 hpzz17 hqz17 hqzz17 p_24 p_25 p_43 p_44; omega) | (clear hpz17 hpzz17 hqz17 hqzz17; omega) | (clear hpz17 hpzz17 hqz17 p_24 p_25 p_43 p_44; omega) | omega)⟩, AN_a z_56⟩, by (first | (clear hpz17 hpzz17 hqz17 hqzz17 p_24 p_25 p_43 p_44; omega) | (clear hpz17 hpzz17 hqz17 hqzz17; omega) | (clear hpz17 hpzz17 hqz17 p_24 p_25 p_43 p_44; omega) | omega)⟩, j_94⟩, by (first | (clear hpz17 hpzz17 hqz17 hqzz17 p_24 p_25 p_43 p_44; omega) | (clear hpz17 hpzz17 hqz17 hqzz17; omega) | (clear hpz17 hpzz17 hqz17 p_24 p_25 p_43 p_44; omega) | omega)⟩, z_56⟩, by (first | (clear hpz17 hpzz17 hqz17 hqzz17 p_24 p_25 p_43 p_44; omega) | (clear hpz17 hpzz17 hqz17 hqzz17; omega) | (clear hpz17 hpzz17 hqz17 p_24 p_25 p_43 p_44; omega) | omega), by (first | (clear hpz17 hpzz17 hqz17 hqzz17 p_24 p_25 p_43 p_44; omega) | (clear hpz17 hpzz17 hqz17 hqzz17; omega) | (clear hpz17 hpzz17 hqz17 p_24 p_25 p_43 p_44; omega) | omega)⟩ (by (first | (clear hpz17 hpzz17 hqz17 hqzz17 p_24 p_25 p_43 p_44; omega) | (clear hpz17 hpzz17 hqz17 hqzz17; omega) | (clear hpz17 hpzz17 hqz17 p_24 p_25 p_43 p_44; omega) | omega)) (by (first | (clear hpz17 hpzz17 hqz17 hqzz17 p_24 p_25 p_43 p_44; omega) | (clear hpz17 hpzz17 hqz17 hqzz17; omega) | (clear hpz17 hpzz17 hqz17 p_24 p_25 p_43 p_44; omega) | omega))
