set_option maxRecDepth 4000 in
set_option maxHeartbeats 0 in
theorem LW_11 {X : mm_X} {d L : Nat} {M : mm_M} {Q : Option Value → mm_M → Prop} {i : Int32} {u5 u6 : Value} (hX : g_X X) (hW : g_W X) (hW2 : g_W2 X) (hL : (X 0).1 = L) (h3 : L ≤ 3072) (hd : 40 ≤ d) (hi : 0 ≤ i.toInt) (hi2 : i.toInt + 6 ≤ (L : Int)) (H : LI10 M) (h : ∀ (M1 : mm_M) (v5 v6 : Value), LI10 M1 → M1.1.2.1 ≤ M.1.2.1 + 1 → M1.1.2.2.1 ≤ M.1.2.2.1 + 6 → mm_T X d 0 1313 [.ref mm_ext, .ref 0, .ref 77, .ref 125, .int i, v5, v6] [] M1 Q) : mm_T X d 0 562 [.ref mm_ext, .ref 0, .ref 77, .ref 125, .int i, u5, u6] [] M Q := by
  obtain ⟨⟨⟨⟨⟨⟨⟨⟨⟨hG, ⟨jPI, jNI, jQI, jPQE⟩, ⟨jFA, jWC, jNJ, jPS, jKQ⟩, jJ, jE⟩, jTP, jW9⟩, jNE, jCC⟩, -⟩, jOV⟩, jW8⟩, jNN⟩, jAN⟩, jKNA, jDN, jPN⟩ := H
  have b_1 := g_b hG (a := 77) (i := 7) (lo := 0) (hi := 500) rfl rfl
  have b_2 := g_b hG (a := 77) (i := 6) (lo := 0) (hi := 500) rfl rfl
  have b_3 := g_b hG (a := 1) (i := 1) (lo := 0) (hi := 500) rfl rfl
  have b_4 := g_b hG (a := 77) (i := 1) (lo := 0) (hi := 500) rfl rfl
  have b_5 := g_b hG (a := 0) (i := 12) (lo := 0) (hi := 30) rfl rfl
  have b_6 := g_b hG (a := 77) (i := 28) (lo := 0) (hi := 30) rfl rfl
  have b_7 := g_b hG (a := 6) (i := 0) (lo := 0) (hi := 150) rfl rfl
  have b_8 := g_b hG (a := 77) (i := 29) (lo := 0) (hi := 150) rfl rfl
  have b_9 := g_b hG (a := 28) (i := 8) (lo := 0) (hi := 3000) rfl rfl
  have b_10 := g_b hG (a := 77) (i := 43) (lo := 0) (hi := 3000) rfl rfl
  refine to_an (pc := 562) rw_0_562 rfl (to_an (pc := 563) rw_0_563 rfl (to_i (pc := 564) rw_0_564 rfl (to_c (pc := 566) rw_0_566 (x := (1 : Int32)) rfl rfl (s_add (pc := 567) rw_0_567 (A := i.toInt) (B := 1) rfl rfl (by omega) (fun v11 e12 => s_x0 (pc := 568) rw_0_568 hL (A := v11.toInt) rfl (by omega) (by omega) (fun v13 e14 => to_an (pc := 569) rw_0_569 rfl (to_i (pc := 570) rw_0_570 rfl (to_c (pc := 572) rw_0_572 (x := (2 : Int32)) rfl rfl (s_add (pc := 573) rw_0_573 (A := i.toInt) (B := 2) rfl rfl (by omega) (fun v15 e16 => s_x0 (pc := 574) rw_0_574 hL (A := v15.toInt) rfl (by omega) (by omega) (fun v17 e18 => s_v (pc := 575) rw_0_575 (dp0 hd (by decide)) (ls0 := [.ref 0, .int v13, .int v17]) rfl (Nat.le_of_ble_eq_true rfl) (Nat.le_of_ble_eq_true rfl) rfl (to_rc rfl rfl rfl (g_o hG rfl)) rfl ?_)))))))))))
  obtain ⟨pz19, pzz19, qz19, qzz19, hpz19, hpzz19, hqz19, hqzz19, hpqz19⟩ := id jPQE
  obtain ⟨sg, NN, nz, ca, hs1, hs2, hn1, hn2, hn3, hn4, hn5⟩ := AN_u jAN hpqz19
  refine E_120 hX (dp1 hd (by decide)) hG hpz19 hpzz19 hqz19 hqzz19 hpqz19 jNI jPI jQI hs1.1 (c := v13) (w := v17) (sg := sg) (p := pz19) (pz := pzz19) (q := qz19) (qz := qzz19) (fun r20 M29 hG22 F21 p_23 p_24 p_25 p_26 p_27 p_28 => ?_)
  have n_30 : M29.1.2.1 = M.1.2.1 ∧ M29.1.2.2.1 = M.1.2.2.1 := by rw [F21.1]; exact ⟨rfl, rfl⟩
  have b_32 := g_b hG22 (a := 6) (i := 0) (lo := 0) (hi := 150) rfl rfl
  have c_33 : M29.2.1 77 29 = (M.2.1 77 29) := (F_n F21 (show ¬ (6 ≤ 77 ∧ 77 ≤ 10) by decide) rfl)
  have t_34 : (M29.2.1 77 29).toInt = (M.2.1 77 29).toInt := congrArg Int32.toInt c_33
  refine to_popi (pc := 578) rw_0_578 (to_an (pc := 579) rw_0_579 rfl (to_an (pc := 580) rw_0_580 rfl (to_i (pc := 581) rw_0_581 rfl (to_c (pc := 583) rw_0_583 (x := (1 : Int32)) rfl rfl (s_addk (pc := 584) rw_0_584 (A := i.toInt) (B := 1) rfl rfl (by (first | (clear hpz19 hpzz19 hqz19 hqzz19 p_26 p_27; omega) | (clear hpz19 hpzz19 hqz19 hqzz19; omega) | (clear hpz19 hpzz19 hqz19 p_26 p_27; omega) | omega)) (v := v11) e12 (s_x0k (pc := 585) rw_0_585 hL (A := v11.toInt) rfl (by (first | (clear hpz19 hpzz19 hqz19 hqzz19 p_26 p_27; omega) | (clear hpz19 hpzz19 hqz19 hqzz19; omega) | (clear hpz19 hpzz19 hqz19 p_26 p_27; omega) | omega)) (by (first | (clear hpz19 hpzz19 hqz19 hqzz19 p_26 p_27; omega) | (clear hpz19 hpzz19 hqz19 hqzz19; omega) | (clear hpz19 hpzz19 hqz19 p_26 p_27; omega) | omega)) (v := v13) e14 (to_an (pc := 586) rw_0_586 rfl (to_i (pc := 587) rw_0_587 rfl (to_c (pc := 589) rw_0_589 (x := (2 : Int32)) rfl rfl (s_addk (pc := 590) rw_0_590 (A := i.toInt) (B := 2) rfl rfl (by (first | (clear hpz19 hpzz19 hqz19 hqzz19 p_26 p_27; omega) | (clear hpz19 hpzz19 hqz19 hqzz19; omega) | (clear hpz19 hpzz19 hqz19 p_26 p_27; omega) | omega)) (v := v15) e16 (s_x0k (pc := 591) rw_0_591 hL (A := v15.toInt) rfl (by (first | (clear hpz19 hpzz19 hqz19 hqzz19 p_26 p_27; omega) | (clear hpz19 hpzz19 hqz19 hqzz19; omega) | (clear hpz19 hpzz19 hqz19 p_26 p_27; omega) | omega)) (by (first | (clear hpz19 hpzz19 hqz19 hqzz19 p_26 p_27; omega) | (clear hpz19 hpzz19 hqz19 hqzz19; omega) | (clear hpz19 hpzz19 hqz19 p_26 p_27; omega) | omega)) (v := v17) e18 ?_)))))))))))
  refine s_v (pc := 592) rw_0_592 (dp0 hd (by decide)) (ls0 := [.ref 77, .int v13, .int v17]) rfl (Nat.le_of_ble_eq_true rfl) (Nat.le_of_ble_eq_true rfl) rfl (to_rc rfl rfl rfl (g_o hG22 rfl)) rfl ?_
  have c_39 : M29.2.1 77 28 = (M.2.1 77 28) := (F_n F21 (show ¬ (6 ≤ 77 ∧ 77 ≤ 10) by decide) rfl)
  have t_40 : (M29.2.1 77 28).toInt = (M.2.1 77 28).toInt := congrArg Int32.toInt c_39
  have j_41 := (NJ_f (tg_609 F21) jNJ)
  have j_42 := (PLk_f (tg_611 F21) hs2.1)
  refine E_195 hX (dp1 hd (by decide)) hG22 j_41 j_42 (c := v13) (w := v17) (sg := sg) (fun r43 M50 hG45 F44 p_46 p_47 p_48 p_49 => ?_)
  have n_51 : M50.1.2.1 = M29.1.2.1 ∧ M50.1.2.2.1 = M29.1.2.2.1 := by rw [F44.1]; exact ⟨rfl, rfl⟩
  have b_53 := g_b hG45 (a := 77) (i := 29) (lo := 0) (hi := 150) rfl rfl
  have k_54 : (0 : Int32).toInt = 0 := rfl
  have k_55 : (1 : Int32).toInt = 1 := rfl
  have k_56 : (2 : Int32).toInt = 2 := rfl
  have k_57 : (3 : Int32).toInt = 3 := rfl
  have k_58 : (4 : Int32).toInt = 4 := rfl
  have k_59 : (5 : Int32).toInt = 5 := rfl
  have z_60 := AN_n hpz19 hpqz19 hs1 hs2 hn1 hn2 hn3 hn4 hn5 F21 (fun a i z => show ¬ (6 ≤ a ∧ a ≤ 10) by (first | (clear hpz19 hpzz19 hqz19 hqzz19 p_26 p_27 p_47 p_48; omega) | (clear hpz19 hpzz19 hqz19 hqzz19; omega) | (clear hpz19 hpzz19 hqz19 p_26 p_27 p_47 p_48; omega) | omega)) F44 (fun a i z => show ¬ (a = 77 ∧ (i = 2 ∨ i = 29) ∨ 90 ≤ a ∧ a ≤ 93) by (first | (clear hpz19 hpzz19 hqz19 hqzz19 p_26 p_27 p_47 p_48; omega) | (clear hpz19 hpzz19 hqz19 hqzz19; omega) | (clear hpz19 hpzz19 hqz19 p_26 p_27 p_47 p_48; omega) | omega)) p_28 p_49 (by (first | (clear hpz19 hpzz19 hqz19 hqzz19 p_26 p_27 p_47 p_48; omega) | (clear hpz19 hpzz19 hqz19 hqzz19; omega) | (clear hpz19 hpzz19 hqz19 p_26 p_27 p_47 p_48; omega) | omega)) (by (first | (clear hpz19 hpzz19 hqz19 hqzz19 p_26 p_27 p_47 p_48; omega) | (clear hpz19 hpzz19 hqz19 hqzz19; omega) | (clear hpz19 hpzz19 hqz19 p_26 p_27 p_47 p_48; omega) | omega)) (by (first | (clear hpz19 hpzz19 hqz19 hqzz19 p_26 p_27 p_47 p_48; omega) | (clear hpz19 hpzz19 hqz19 hqzz19; omega) | (clear hpz19 hpzz19 hqz19 p_26 p_27 p_47 p_48; omega) | omega)) (by (first | (clear hpz19 hpzz19 hqz19 hqzz19 p_26 p_27 p_47 p_48; omega) | (clear hpz19 hpzz19 hqz19 hqzz19; omega) | (clear hpz19 hpzz19 hqz19 p_26 p_27 p_47 p_48; omega) | omega)) (fun z9 => ⟨fun z => by (first | (clear hpz19 hpzz19 hqz19 hqzz19 p_26 p_27 p_47 p_48; omega) | (clear hpz19 hpzz19 hqz19 hqzz19; omega) | (clear hpz19 hpzz19 hqz19 p_26 p_27 p_47 p_48; omega) | omega), fun z => by (first | (clear hpz19 hpzz19 hqz19 hqzz19 p_26 p_27 p_47 p_48; omega) | (clear hpz19 hpzz19 hqz19 hqzz19; omega) | (clear hpz19 hpzz19 hqz19 p_26 p_27 p_47 p_48; omega) | omega), fun z => by (first | (clear hpz19 hpzz19 hqz19 hqzz19 p_26 p_27 p_47 p_48; omega) | (clear hpz19 hpzz19 hqz19 hqzz19; omega) | (clear hpz19 hpzz19 hqz19 p_26 p_27 p_47 p_48; omega) | omega), fun z => by (first | (clear hpz19 hpzz19 hqz19 hqzz19 p_26 p_27 p_47 p_48; omega) | (clear hpz19 hpzz19 hqz19 hqzz19; omega) | (clear hpz19 hpzz19 hqz19 p_26 p_27 p_47 p_48; omega) | omega), fun z => by (first | (clear hpz19 hpzz19 hqz19 hqzz19 p_26 p_27 p_47 p_48; omega) | (clear hpz19 hpzz19 hqz19 hqzz19; omega) | (clear hpz19 hpzz19 hqz19 p_26 p_27 p_47 p_48; omega) | omega)⟩)
  refine to_popi (pc := 595) rw_0_595 (to_go (pc := 596) rw_0_596 ?_)
  have c_61 : M50.2.1 77 7 = (M.2.1 77 7) := (F_n F44 (show ¬ (77 = 77 ∧ (7 = 2 ∨ 7 = 29) ∨ 90 ≤ 77 ∧ 77 ≤ 93) by decide) (F_n F21 (show ¬ (6 ≤ 77 ∧ 77 ≤ 10) by decide) rfl))
  have t_62 : (M50.2.1 77 7).toInt = (M.2.1 77 7).toInt := congrArg Int32.toInt c_61
  have c_63 : M50.2.1 77 6 = (M.2.1 77 6) := (F_n F44 (show ¬ (77 = 77 ∧ (6 = 2 ∨ 6 = 29) ∨ 90 ≤ 77 ∧ 77 ≤ 93) by decide) (F_n F21 (show ¬ (6 ≤ 77 ∧ 77 ≤ 10) by decide) rfl))
  have t_64 : (M50.2.1 77 6).toInt = (M.2.1 77 6).toInt := congrArg Int32.toInt c_63
  have c_65 : M50.2.1 1 1 = (M.2.1 1 1) := (F_n F44 (show ¬ (1 = 77 ∧ (1 = 2 ∨ 1 = 29) ∨ 90 ≤ 1 ∧ 1 ≤ 93) by decide) (F_n F21 (show ¬ (6 ≤ 1 ∧ 1 ≤ 10) by decide) rfl))
  have t_66 : (M50.2.1 1 1).toInt = (M.2.1 1 1).toInt := congrArg Int32.toInt c_65
  have c_67 : M50.2.1 77 1 = (M.2.1 77 1) := (F_n F44 (show ¬ (77 = 77 ∧ (1 = 2 ∨ 1 = 29) ∨ 90 ≤ 77 ∧ 77 ≤ 93) by decide) (F_n F21 (show ¬ (6 ≤ 77 ∧ 77 ≤ 10) by decide) rfl))
  have t_68 : (M50.2.1 77 1).toInt = (M.2.1 77 1).toInt := congrArg Int32.toInt c_67
  have c_69 : M50.2.1 0 12 = (M.2.1 0 12) := (F_n F44 (show ¬ (0 = 77 ∧ (12 = 2 ∨ 12 = 29) ∨ 90 ≤ 0 ∧ 0 ≤ 93) by decide) (F_n F21 (show ¬ (6 ≤ 0 ∧ 0 ≤ 10) by decide) rfl))
  have t_70 : (M50.2.1 0 12).toInt = (M.2.1 0 12).toInt := congrArg Int32.toInt c_69
  have c_71 : M50.2.1 77 28 = (M.2.1 77 28) := (F_n F44 (show ¬ (77 = 77 ∧ (28 = 2 ∨ 28 = 29) ∨ 90 ≤ 77 ∧ 77 ≤ 93) by decide) c_39)
  have t_72 : (M50.2.1 77 28).toInt = (M.2.1 77 28).toInt := congrArg Int32.toInt c_71
  have c_73 : M50.2.1 17 4 = (M.2.1 17 4) := (F_n F44 (show ¬ (17 = 77 ∧ (4 = 2 ∨ 4 = 29) ∨ 90 ≤ 17 ∧ 17 ≤ 93) by decide) (F_n F21 (show ¬ (6 ≤ 17 ∧ 17 ≤ 10) by decide) rfl))
  have t_74 : (M50.2.1 17 4).toInt = (M.2.1 17 4).toInt := congrArg Int32.toInt c_73
  have c_75 : M50.2.1 77 41 = (M.2.1 77 41) := (F_n F44 (show ¬ (77 = 77 ∧ (41 = 2 ∨ 41 = 29) ∨ 90 ≤ 77 ∧ 77 ≤ 93) by decide) (F_n F21 (show ¬ (6 ≤ 77 ∧ 77 ≤ 10) by decide) rfl))
  have t_76 : (M50.2.1 77 41).toInt = (M.2.1 77 41).toInt := congrArg Int32.toInt c_75
  have c_77 : M50.2.1 6 0 = (M29.2.1 6 0) := (F_n F44 (show ¬ (6 = 77 ∧ (0 = 2 ∨ 0 = 29) ∨ 90 ≤ 6 ∧ 6 ≤ 93) by decide) rfl)
  have t_78 : (M50.2.1 6 0).toInt = (M29.2.1 6 0).toInt := congrArg Int32.toInt c_77
  have c_79 : M50.2.1 28 8 = (M.2.1 28 8) := (F_n F44 (show ¬ (28 = 77 ∧ (8 = 2 ∨ 8 = 29) ∨ 90 ≤ 28 ∧ 28 ≤ 93) by decide) (F_n F21 (show ¬ (6 ≤ 28 ∧ 28 ≤ 10) by decide) rfl))
  have t_80 : (M50.2.1 28 8).toInt = (M.2.1 28 8).toInt := congrArg Int32.toInt c_79
  have c_81 : M50.2.1 77 43 = (M.2.1 77 43) := (F_n F44 (show ¬ (77 = 77 ∧ (43 = 2 ∨ 43 = 29) ∨ 90 ≤ 77 ∧ 77 ≤ 93) by decide) (F_n F21 (show ¬ (6 ≤ 77 ∧ 77 ≤ 10) by decide) rfl))
  have t_82 : (M50.2.1 77 43).toInt = (M.2.1 77 43).toInt := congrArg Int32.toInt c_81
  have c_83 : M50.2.1 28 9 = (M.2.1 28 9) := (F_n F44 (show ¬ (28 = 77 ∧ (9 = 2 ∨ 9 = 29) ∨ 90 ≤ 28 ∧ 28 ≤ 93) by decide) (F_n F21 (show ¬ (6 ≤ 28 ∧ 28 ≤ 10) by decide) rfl))
  have t_84 : (M50.2.1 28 9).toInt = (M.2.1 28 9).toInt := congrArg Int32.toInt c_83
  have c_85 : M50.2.1 77 42 = (M.2.1 77 42) := (F_n F44 (show ¬ (77 = 77 ∧ (42 = 2 ∨ 42 = 29) ∨ 90 ≤ 77 ∧ 77 ≤ 93) by decide) (F_n F21 (show ¬ (6 ≤ 77 ∧ 77 ≤ 10) by decide) rfl))
  have t_86 : (M50.2.1 77 42).toInt = (M.2.1 77 42).toInt := congrArg Int32.toInt c_85
  have j_87 := (PI_f (tg_612 F44) p_24)
  have j_88 := (NI_f (tg_613 F44) p_23)
  have j_89 := (QI_f (tg_614 F44) p_25)
  have j_90 := (PQE_r F44.2.1 (PQE_r F21.2.1 jPQE))
  have j_91 := (FA_f (tg_615 F44) (FA_f (tg_610 F21) jFA))
  have j_92 := (WC_f (tg_616 F44) (WC_f (tg_617 F21) jWC))
  have j_93 := (PS_f (tg_618 F44) (PS_f (tg_619 F21) jPS))
  have j_94 := (KQ_f (tg_620 F44) (KQ_f (tg_621 F21) jKQ))
  have j_95 := (TP_f (tg_622 F44) (TP_f (tg_623 F21) jTP))
  have j_96 := (W9_f (tg_624 F44) (W9_f (tg_625 F21) jW9))
  have j_97 := (KNA_F F44 (fun a i z => show ¬ (a = 77 ∧ (i = 2 ∨ i = 29) ∨ 90 ≤ a ∧ a ≤ 93) by (first | (clear hpz19 hpzz19 hqz19 hqzz19 p_26 p_27 p_47 p_48; omega) | (clear hpz19 hpzz19 hqz19 hqzz19; omega) | (clear hpz19 hpzz19 hqz19 p_26 p_27 p_47 p_48; omega) | omega)) (KNA_F F21 (fun a i z => show ¬ (6 ≤ a ∧ a ≤ 10) by (first | (clear hpz19 hpzz19 hqz19 hqzz19 p_26 p_27 p_47 p_48; omega) | (clear hpz19 hpzz19 hqz19 hqzz19; omega) | (clear hpz19 hpzz19 hqz19 p_26 p_27 p_47 p_48; omega) | omega)) jKNA))
  have j_98 := (NE_r F44.2.1 (NE_r F21.2.1 jNE))
  have j_99 := (W8_f (tg_626 F44) (W8_f (tg_627 F21) jW8))
  exact h M50 (u5) (u6) ⟨⟨⟨⟨⟨⟨⟨⟨⟨hG45, ⟨j_87, j_88, j_89, j_90⟩, ⟨j_91, j_92, p_46, j_93, j_94⟩, by (first | (clear hpz19 hpzz19 hqz19 hqzz19 p_26 p_27 p_47 p_48; omega) | (clear hpz19 hpzz19 hqz19 hqzz19; omega) | (clear hpz19 hpzz19 hqz19 p_26 p_27 p_47 p_48; omega) | omega), by (first | (clear hpz19 hpzz19 hqz19 hqzz19 p_26 p_27 p_47 p_48; omega) | (clear hpz19 hpzz19 hqz19 hqzz19; omega) | (clear hpz19 hpzz19 hqz19 p_26 p_27 p_47 p_48; omega) | omega)⟩, j_95, j_96⟩, j_98, by (first | (clear hpz19 hpzz19 hqz19 hqzz19 p_26 p_27 p_47 p_48; omega) | (clear hpz19 hpzz19 hqz19 hqzz19; omega) | (clear hpz19 hpzz19 hqz19 p_26 p_27 p_47 p_48; omega) | omega)⟩, AN_a z_60⟩, by (first | (clear hpz19 hpzz19 hqz19 hqzz19 p_26 p_27 p_47 p_48; omega) | (clear hpz19 hpzz19 hqz19 hqzz19; omega) | (clear hpz19 hpzz19 hqz19 p_26 p_27 p_47 p_48; omega) | omega)⟩, j_99⟩, by (first | (clear hpz19 hpzz19 hqz19 hqzz19 p_26 p_27 p_47 p_48; omega) | (clear hpz19 hpzz19 hqz19 hqzz19; omega) | (clear hpz19 hpzz19 hqz19 p_26 p_27 p_47 p_48; omega) | omega)⟩, z_60⟩, j_97, by (first | (clear hpz19 hpzz19 hqz19 hqzz19 p_26 p_27 p_47 p_48; omega) | (clear hpz19 hpzz19 hqz19 hqzz19; omega) | (clear hpz19 hpzz19 hqz19 p_26 p_27 p_47 p_48; omega) | omega), by (first | (clear hpz19 hpzz19 hqz19 hqzz19 p_26 p_27 p_47 p_48; omega) | (clear hpz19 hpzz19 hqz19 hqzz19; omega) | (clear hpz19 hpzz19 hqz19 p_26 p_27 p_47 p_48; omega) | omega)⟩ (by (first | (clear hpz19 hpzz19 hqz19 hqzz19 p_26 p_27 p_47 p_48; omega) | (clear hpz19 hpzz19 hqz19 hqzz19; omega) | (clear hpz19 hpzz19 hqz19 p_26 p_27 p_47 p_48; omega) | omega)) (by (first | (clear hpz19 hpzz19 hqz19 hqzz19 p_26 p_27 p_47 p_48; omega) | (clear hpz19 hpzz19 hqz19 hqzz19; omega) | (clear hpz19 hpzz19 hqz19 p_26 p_27 p_47 p_48; omega) | omega))
