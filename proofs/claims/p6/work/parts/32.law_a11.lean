set_option maxRecDepth 4000 in
set_option maxHeartbeats 0 in
theorem LW_11 {X : mm_X} {d L : Nat} {M : mm_M} {Q : Option Value → mm_M → Prop} {i : Int32} {u5 u6 : Value} (hX : g_X X) (hW : g_W X) (hW2 : g_W2 X) (hL : (X 0).1 = L) (h3 : L ≤ 3072) (hd : 40 ≤ d) (hi : 0 ≤ i.toInt) (hi2 : i.toInt + 6 ≤ (L : Int)) (H : LI10 M) (h : ∀ (M1 : mm_M) (v5 v6 : Value), LI10 M1 → M1.1.2.1 ≤ M.1.2.1 + 1 → M1.1.2.2.1 ≤ M.1.2.2.1 + 6 → mm_T X d 0 1313 [.ref mm_ext, .ref 0, .ref 77, .ref 125, .int i, v5, v6] [] M1 Q) : mm_T X d 0 562 [.ref mm_ext, .ref 0, .ref 77, .ref 125, .int i, u5, u6] [] M Q := by
  obtain ⟨⟨⟨⟨⟨⟨⟨⟨⟨hG, ⟨jPI, jNI, jQI, jPQE⟩, ⟨jFA, jWC, jNJ, jPS, jKQ⟩, jJ, jE⟩, jTP, jW9⟩, jNE, jCC⟩, -⟩, jOV⟩, jW8⟩, jNN⟩, jAN⟩, jFF, jFP⟩ := H
  have b_1 := g_b hG (a := 77) (i := 7) (lo := 0) (hi := 500) rfl rfl
  have b_2 := g_b hG (a := 77) (i := 6) (lo := 0) (hi := 500) rfl rfl
  have b_3 := g_b hG (a := 1) (i := 1) (lo := 0) (hi := 500) rfl rfl
  have b_4 := g_b hG (a := 77) (i := 1) (lo := 0) (hi := 500) rfl rfl
  have b_5 := g_b hG (a := 0) (i := 12) (lo := 0) (hi := 30) rfl rfl
  have b_6 := g_b hG (a := 77) (i := 28) (lo := 0) (hi := 30) rfl rfl
  have b_7 := g_b hG (a := 6) (i := 0) (lo := 0) (hi := 150) rfl rfl
  have b_8 := g_b hG (a := 77) (i := 29) (lo := 0) (hi := 150) rfl rfl
  refine to_an (pc := 562) rw_0_562 rfl (to_an (pc := 563) rw_0_563 rfl (to_i (pc := 564) rw_0_564 rfl (to_c (pc := 566) rw_0_566 (x := (1 : Int32)) rfl rfl (s_add (pc := 567) rw_0_567 (A := i.toInt) (B := 1) rfl rfl (by omega) (fun v9 e10 => s_x0 (pc := 568) rw_0_568 hL (A := v9.toInt) rfl (by omega) (by omega) (fun v11 e12 => to_an (pc := 569) rw_0_569 rfl (to_i (pc := 570) rw_0_570 rfl (to_c (pc := 572) rw_0_572 (x := (2 : Int32)) rfl rfl (s_add (pc := 573) rw_0_573 (A := i.toInt) (B := 2) rfl rfl (by omega) (fun v13 e14 => s_x0 (pc := 574) rw_0_574 hL (A := v13.toInt) rfl (by omega) (by omega) (fun v15 e16 => s_v (pc := 575) rw_0_575 (dp0 hd (by decide)) (ls0 := [.ref 0, .int v11, .int v15]) rfl (Nat.le_of_ble_eq_true rfl) (Nat.le_of_ble_eq_true rfl) rfl (to_rc rfl rfl rfl (g_o hG rfl)) rfl ?_)))))))))))
  obtain ⟨pz17, pzz17, qz17, qzz17, hpz17, hpzz17, hqz17, hqzz17, hpqz17⟩ := id jPQE
  obtain ⟨sg, NN, nz, ca, hs1, hs2, hn1, hn2, hn3, hn4, hn5⟩ := AN_u jAN hpqz17
  refine E_120 hX (dp1 hd (by decide)) hG hpz17 hpzz17 hqz17 hqzz17 hpqz17 jNI jPI jQI hs1.1 (c := v11) (w := v15) (sg := sg) (p := pz17) (pz := pzz17) (q := qz17) (qz := qzz17) (fun r18 M27 hG20 F19 p_21 p_22 p_23 p_24 p_25 p_26 => ?_)
  have n_28 : M27.1.2.1 = M.1.2.1 ∧ M27.1.2.2.1 = M.1.2.2.1 := by rw [F19.1]; exact ⟨rfl, rfl⟩
  have b_30 := g_b hG20 (a := 6) (i := 0) (lo := 0) (hi := 150) rfl rfl
  have c_31 : M27.2.1 77 29 = (M.2.1 77 29) := (F_n F19 (show ¬ (6 ≤ 77 ∧ 77 ≤ 10) by decide) rfl)
  have t_32 : (M27.2.1 77 29).toInt = (M.2.1 77 29).toInt := congrArg Int32.toInt c_31
  refine to_popi (pc := 578) rw_0_578 (to_an (pc := 579) rw_0_579 rfl (to_an (pc := 580) rw_0_580 rfl (to_i (pc := 581) rw_0_581 rfl (to_c (pc := 583) rw_0_583 (x := (1 : Int32)) rfl rfl (s_addk (pc := 584) rw_0_584 (A := i.toInt) (B := 1) rfl rfl (by (first | (clear hpz17 hpzz17 hqz17 hqzz17 p_24 p_25; omega) | (clear hpz17 hpzz17 hqz17 hqzz17; omega) | (clear hpz17 hpzz17 hqz17 p_24 p_25; omega) | omega)) (v := v9) e10 (s_x0k (pc := 585) rw_0_585 hL (A := v9.toInt) rfl (by (first | (clear hpz17 hpzz17 hqz17 hqzz17 p_24 p_25; omega) | (clear hpz17 hpzz17 hqz17 hqzz17; omega) | (clear hpz17 hpzz17 hqz17 p_24 p_25; omega) | omega)) (by (first | (clear hpz17 hpzz17 hqz17 hqzz17 p_24 p_25; omega) | (clear hpz17 hpzz17 hqz17 hqzz17; omega) | (clear hpz17 hpzz17 hqz17 p_24 p_25; omega) | omega)) (v := v11) e12 (to_an (pc := 586) rw_0_586 rfl (to_i (pc := 587) rw_0_587 rfl (to_c (pc := 589) rw_0_589 (x := (2 : Int32)) rfl rfl (s_addk (pc := 590) rw_0_590 (A := i.toInt) (B := 2) rfl rfl (by (first | (clear hpz17 hpzz17 hqz17 hqzz17 p_24 p_25; omega) | (clear hpz17 hpzz17 hqz17 hqzz17; omega) | (clear hpz17 hpzz17 hqz17 p_24 p_25; omega) | omega)) (v := v13) e14 (s_x0k (pc := 591) rw_0_591 hL (A := v13.toInt) rfl (by (first | (clear hpz17 hpzz17 hqz17 hqzz17 p_24 p_25; omega) | (clear hpz17 hpzz17 hqz17 hqzz17; omega) | (clear hpz17 hpzz17 hqz17 p_24 p_25; omega) | omega)) (by (first | (clear hpz17 hpzz17 hqz17 hqzz17 p_24 p_25; omega) | (clear hpz17 hpzz17 hqz17 hqzz17; omega) | (clear hpz17 hpzz17 hqz17 p_24 p_25; omega) | omega)) (v := v15) e16 ?_)))))))))))
  refine s_v (pc := 592) rw_0_592 (dp0 hd (by decide)) (ls0 := [.ref 77, .int v11, .int v15]) rfl (Nat.le_of_ble_eq_true rfl) (Nat.le_of_ble_eq_true rfl) rfl (to_rc rfl rfl rfl (g_o hG20 rfl)) rfl ?_
  have c_37 : M27.2.1 77 28 = (M.2.1 77 28) := (F_n F19 (show ¬ (6 ≤ 77 ∧ 77 ≤ 10) by decide) rfl)
  have t_38 : (M27.2.1 77 28).toInt = (M.2.1 77 28).toInt := congrArg Int32.toInt c_37
  have j_39 := (NJ_f (tg_617 F19) jNJ)
  have j_40 := (PLk_f (tg_619 F19) hs2.1)
  refine E_195 hX (dp1 hd (by decide)) hG20 j_39 j_40 (c := v11) (w := v15) (sg := sg) (fun r41 M48 hG43 F42 p_44 p_45 p_46 p_47 => ?_)
  have n_49 : M48.1.2.1 = M27.1.2.1 ∧ M48.1.2.2.1 = M27.1.2.2.1 := by rw [F42.1]; exact ⟨rfl, rfl⟩
  have b_51 := g_b hG43 (a := 77) (i := 29) (lo := 0) (hi := 150) rfl rfl
  have k_52 : (0 : Int32).toInt = 0 := rfl
  have k_53 : (1 : Int32).toInt = 1 := rfl
  have k_54 : (2 : Int32).toInt = 2 := rfl
  have k_55 : (3 : Int32).toInt = 3 := rfl
  have k_56 : (4 : Int32).toInt = 4 := rfl
  have k_57 : (5 : Int32).toInt = 5 := rfl
  have z_58 := AN_n hpz17 hpqz17 hs1 hs2 hn1 hn2 hn3 hn4 hn5 F19 (fun a i z => show ¬ (6 ≤ a ∧ a ≤ 10) by (first | (clear hpz17 hpzz17 hqz17 hqzz17 p_24 p_25 p_45 p_46; omega) | (clear hpz17 hpzz17 hqz17 hqzz17; omega) | (clear hpz17 hpzz17 hqz17 p_24 p_25 p_45 p_46; omega) | omega)) F42 (fun a i z => show ¬ (a = 77 ∧ (i = 2 ∨ i = 29) ∨ 90 ≤ a ∧ a ≤ 93) by (first | (clear hpz17 hpzz17 hqz17 hqzz17 p_24 p_25 p_45 p_46; omega) | (clear hpz17 hpzz17 hqz17 hqzz17; omega) | (clear hpz17 hpzz17 hqz17 p_24 p_25 p_45 p_46; omega) | omega)) p_26 p_47 (by (first | (clear hpz17 hpzz17 hqz17 hqzz17 p_24 p_25 p_45 p_46; omega) | (clear hpz17 hpzz17 hqz17 hqzz17; omega) | (clear hpz17 hpzz17 hqz17 p_24 p_25 p_45 p_46; omega) | omega)) (by (first | (clear hpz17 hpzz17 hqz17 hqzz17 p_24 p_25 p_45 p_46; omega) | (clear hpz17 hpzz17 hqz17 hqzz17; omega) | (clear hpz17 hpzz17 hqz17 p_24 p_25 p_45 p_46; omega) | omega)) (by (first | (clear hpz17 hpzz17 hqz17 hqzz17 p_24 p_25 p_45 p_46; omega) | (clear hpz17 hpzz17 hqz17 hqzz17; omega) | (clear hpz17 hpzz17 hqz17 p_24 p_25 p_45 p_46; omega) | omega)) (by (first | (clear hpz17 hpzz17 hqz17 hqzz17 p_24 p_25 p_45 p_46; omega) | (clear hpz17 hpzz17 hqz17 hqzz17; omega) | (clear hpz17 hpzz17 hqz17 p_24 p_25 p_45 p_46; omega) | omega)) (fun z9 => ⟨fun z => by (first | (clear hpz17 hpzz17 hqz17 hqzz17 p_24 p_25 p_45 p_46; omega) | (clear hpz17 hpzz17 hqz17 hqzz17; omega) | (clear hpz17 hpzz17 hqz17 p_24 p_25 p_45 p_46; omega) | omega), fun z => by (first | (clear hpz17 hpzz17 hqz17 hqzz17 p_24 p_25 p_45 p_46; omega) | (clear hpz17 hpzz17 hqz17 hqzz17; omega) | (clear hpz17 hpzz17 hqz17 p_24 p_25 p_45 p_46; omega) | omega), fun z => by (first | (clear hpz17 hpzz17 hqz17 hqzz17 p_24 p_25 p_45 p_46; omega) | (clear hpz17 hpzz17 hqz17 hqzz17; omega) | (clear hpz17 hpzz17 hqz17 p_24 p_25 p_45 p_46; omega) | omega), fun z => by (first | (clear hpz17 hpzz17 hqz17 hqzz17 p_24 p_25 p_45 p_46; omega) | (clear hpz17 hpzz17 hqz17 hqzz17; omega) | (clear hpz17 hpzz17 hqz17 p_24 p_25 p_45 p_46; omega) | omega), fun z => by (first | (clear hpz17 hpzz17 hqz17 hqzz17 p_24 p_25 p_45 p_46; omega) | (clear hpz17 hpzz17 hqz17 hqzz17; omega) | (clear hpz17 hpzz17 hqz17 p_24 p_25 p_45 p_46; omega) | omega)⟩)
  refine to_popi (pc := 595) rw_0_595 (to_go (pc := 596) rw_0_596 ?_)
  have c_59 : M48.2.1 77 7 = (M.2.1 77 7) := (F_n F42 (show ¬ (77 = 77 ∧ (7 = 2 ∨ 7 = 29) ∨ 90 ≤ 77 ∧ 77 ≤ 93) by decide) (F_n F19 (show ¬ (6 ≤ 77 ∧ 77 ≤ 10) by decide) rfl))
  have t_60 : (M48.2.1 77 7).toInt = (M.2.1 77 7).toInt := congrArg Int32.toInt c_59
  have c_61 : M48.2.1 77 6 = (M.2.1 77 6) := (F_n F42 (show ¬ (77 = 77 ∧ (6 = 2 ∨ 6 = 29) ∨ 90 ≤ 77 ∧ 77 ≤ 93) by decide) (F_n F19 (show ¬ (6 ≤ 77 ∧ 77 ≤ 10) by decide) rfl))
  have t_62 : (M48.2.1 77 6).toInt = (M.2.1 77 6).toInt := congrArg Int32.toInt c_61
  have c_63 : M48.2.1 1 1 = (M.2.1 1 1) := (F_n F42 (show ¬ (1 = 77 ∧ (1 = 2 ∨ 1 = 29) ∨ 90 ≤ 1 ∧ 1 ≤ 93) by decide) (F_n F19 (show ¬ (6 ≤ 1 ∧ 1 ≤ 10) by decide) rfl))
  have t_64 : (M48.2.1 1 1).toInt = (M.2.1 1 1).toInt := congrArg Int32.toInt c_63
  have c_65 : M48.2.1 77 1 = (M.2.1 77 1) := (F_n F42 (show ¬ (77 = 77 ∧ (1 = 2 ∨ 1 = 29) ∨ 90 ≤ 77 ∧ 77 ≤ 93) by decide) (F_n F19 (show ¬ (6 ≤ 77 ∧ 77 ≤ 10) by decide) rfl))
  have t_66 : (M48.2.1 77 1).toInt = (M.2.1 77 1).toInt := congrArg Int32.toInt c_65
  have c_67 : M48.2.1 0 12 = (M.2.1 0 12) := (F_n F42 (show ¬ (0 = 77 ∧ (12 = 2 ∨ 12 = 29) ∨ 90 ≤ 0 ∧ 0 ≤ 93) by decide) (F_n F19 (show ¬ (6 ≤ 0 ∧ 0 ≤ 10) by decide) rfl))
  have t_68 : (M48.2.1 0 12).toInt = (M.2.1 0 12).toInt := congrArg Int32.toInt c_67
  have c_69 : M48.2.1 77 28 = (M.2.1 77 28) := (F_n F42 (show ¬ (77 = 77 ∧ (28 = 2 ∨ 28 = 29) ∨ 90 ≤ 77 ∧ 77 ≤ 93) by decide) c_37)
  have t_70 : (M48.2.1 77 28).toInt = (M.2.1 77 28).toInt := congrArg Int32.toInt c_69
  have c_71 : M48.2.1 17 4 = (M.2.1 17 4) := (F_n F42 (show ¬ (17 = 77 ∧ (4 = 2 ∨ 4 = 29) ∨ 90 ≤ 17 ∧ 17 ≤ 93) by decide) (F_n F19 (show ¬ (6 ≤ 17 ∧ 17 ≤ 10) by decide) rfl))
  have t_72 : (M48.2.1 17 4).toInt = (M.2.1 17 4).toInt := congrArg Int32.toInt c_71
  have c_73 : M48.2.1 77 41 = (M.2.1 77 41) := (F_n F42 (show ¬ (77 = 77 ∧ (41 = 2 ∨ 41 = 29) ∨ 90 ≤ 77 ∧ 77 ≤ 93) by decide) (F_n F19 (show ¬ (6 ≤ 77 ∧ 77 ≤ 10) by decide) rfl))
  have t_74 : (M48.2.1 77 41).toInt = (M.2.1 77 41).toInt := congrArg Int32.toInt c_73
  have c_75 : M48.2.1 6 0 = (M27.2.1 6 0) := (F_n F42 (show ¬ (6 = 77 ∧ (0 = 2 ∨ 0 = 29) ∨ 90 ≤ 6 ∧ 6 ≤ 93) by decide) rfl)
  have t_76 : (M48.2.1 6 0).toInt = (M27.2.1 6 0).toInt := congrArg Int32.toInt c_75
  have c_77 : M48.2.1 1 10 = (M.2.1 1 10) := (F_n F42 (show ¬ (1 = 77 ∧ (10 = 2 ∨ 10 = 29) ∨ 90 ≤ 1 ∧ 1 ≤ 93) by decide) (F_n F19 (show ¬ (6 ≤ 1 ∧ 1 ≤ 10) by decide) rfl))
  have t_78 : (M48.2.1 1 10).toInt = (M.2.1 1 10).toInt := congrArg Int32.toInt c_77
  have c_79 : M48.2.1 77 4 = (M.2.1 77 4) := (F_n F42 (show ¬ (77 = 77 ∧ (4 = 2 ∨ 4 = 29) ∨ 90 ≤ 77 ∧ 77 ≤ 93) by decide) (F_n F19 (show ¬ (6 ≤ 77 ∧ 77 ≤ 10) by decide) rfl))
  have t_80 : (M48.2.1 77 4).toInt = (M.2.1 77 4).toInt := congrArg Int32.toInt c_79
  have c_81 : M48.2.1 1 11 = (M.2.1 1 11) := (F_n F42 (show ¬ (1 = 77 ∧ (11 = 2 ∨ 11 = 29) ∨ 90 ≤ 1 ∧ 1 ≤ 93) by decide) (F_n F19 (show ¬ (6 ≤ 1 ∧ 1 ≤ 10) by decide) rfl))
  have t_82 : (M48.2.1 1 11).toInt = (M.2.1 1 11).toInt := congrArg Int32.toInt c_81
  have c_83 : M48.2.1 77 5 = (M.2.1 77 5) := (F_n F42 (show ¬ (77 = 77 ∧ (5 = 2 ∨ 5 = 29) ∨ 90 ≤ 77 ∧ 77 ≤ 93) by decide) (F_n F19 (show ¬ (6 ≤ 77 ∧ 77 ≤ 10) by decide) rfl))
  have t_84 : (M48.2.1 77 5).toInt = (M.2.1 77 5).toInt := congrArg Int32.toInt c_83
  have j_85 := (PI_f (tg_620 F42) p_22)
  have j_86 := (NI_f (tg_621 F42) p_21)
  have j_87 := (QI_f (tg_622 F42) p_23)
  have j_88 := (PQE_r F42.2.1 (PQE_r F19.2.1 jPQE))
  have j_89 := (FA_f (tg_623 F42) (FA_f (tg_618 F19) jFA))
  have j_90 := (WC_f (tg_624 F42) (WC_f (tg_625 F19) jWC))
  have j_91 := (PS_f (tg_626 F42) (PS_f (tg_627 F19) jPS))
  have j_92 := (KQ_f (tg_628 F42) (KQ_f (tg_629 F19) jKQ))
  have j_93 := (TP_f (tg_630 F42) (TP_f (tg_631 F19) jTP))
  have j_94 := (W9_f (tg_632 F42) (W9_f (tg_633 F19) jW9))
  have j_95 := (NE_r F42.2.1 (NE_r F19.2.1 jNE))
  have j_96 := (W8_f (tg_634 F42) (W8_f (tg_635 F19) jW8))
  exact h M48 (u5) (u6) ⟨⟨⟨⟨⟨⟨⟨⟨⟨hG43, ⟨j_85, j_86, j_87, j_88⟩, ⟨j_89, j_90, p_44, j_91, j_92⟩, by (first | (clear hpz17 hpzz17 hqz17 hqzz17 p_24 p_25 p_45 p_46; omega) | (clear hpz17 hpzz17 hqz17 hqzz17; omega) | (clear hpz17 hpzz17 hqz17 p_24 p_25 p_45 p_46; omega) | omega), by (first | (clear hpz17 hpzz17 hqz17 hqzz17 p_24 p_25 p_45 p_46; omega) | (clear hpz17 hpzz17 hqz17 hqzz17; omega) | (clear hpz17 hpzz17 hqz17 p_24 p_25 p_45 p_46; omega) | omega)⟩, j_93, j_94⟩, j_95, by (first | (clear hpz17 hpzz17 hqz17 hqzz17 p_24 p_25 p_45 p_46; omega) | (clear hpz17 hpzz17 hqz17 hqzz17; omega) | (clear hpz17 hpzz17 hqz17 p_24 p_25 p_45 p_46; omega) | omega)⟩, AN_a z_58⟩, by (first | (clear hpz17 hpzz17 hqz17 hqzz17 p_24 p_25 p_45 p_46; omega) | (clear hpz17 hpzz17 hqz17 hqzz17; omega) | (clear hpz17 hpzz17 hqz17 p_24 p_25 p_45 p_46; omega) | omega)⟩, j_96⟩, by (first | (clear hpz17 hpzz17 hqz17 hqzz17 p_24 p_25 p_45 p_46; omega) | (clear hpz17 hpzz17 hqz17 hqzz17; omega) | (clear hpz17 hpzz17 hqz17 p_24 p_25 p_45 p_46; omega) | omega)⟩, z_58⟩, by (first | (clear hpz17 hpzz17 hqz17 hqzz17 p_24 p_25 p_45 p_46; omega) | (clear hpz17 hpzz17 hqz17 hqzz17; omega) | (clear hpz17 hpzz17 hqz17 p_24 p_25 p_45 p_46; omega) | omega), by (first | (clear hpz17 hpzz17 hqz17 hqzz17 p_24 p_25 p_45 p_46; omega) | (clear hpz17 hpzz17 hqz17 hqzz17; omega) | (clear hpz17 hpzz17 hqz17 p_24 p_25 p_45 p_46; omega) | omega)⟩ (by (first | (clear hpz17 hpzz17 hqz17 hqzz17 p_24 p_25 p_45 p_46; omega) | (clear hpz17 hpzz17 hqz17 hqzz17; omega) | (clear hpz17 hpzz17 hqz17 p_24 p_25 p_45 p_46; omega) | omega)) (by (first | (clear hpz17 hpzz17 hqz17 hqzz17 p_24 p_25 p_45 p_46; omega) | (clear hpz17 hpzz17 hqz17 hqzz17; omega) | (clear hpz17 hpzz17 hqz17 p_24 p_25 p_45 p_46; omega) | omega))
