set_option maxRecDepth 4000 in
set_option maxHeartbeats 0 in
theorem LW_10 {X : mm_X} {d L : Nat} {M : mm_M} {Q : Option Value → mm_M → Prop} {i : Int32} {u5 u6 : Value} (hX : g_X X) (hW : g_W X) (hW2 : g_W2 X) (hL : (X 0).1 = L) (h3 : L ≤ 3072) (hd : 40 ≤ d) (hi : 0 ≤ i.toInt) (hi2 : i.toInt + 6 ≤ (L : Int)) (H : LI10 M) (h : ∀ (M1 : mm_M) (v5 v6 : Value), LI10 M1 → M1.1.2.1 ≤ M.1.2.1 + 1 → M1.1.2.2.1 ≤ M.1.2.2.1 + 6 → mm_T X d 0 1313 [.ref mm_ext, .ref 0, .ref 77, .ref 125, .int i, v5, v6] [] M1 Q) : mm_T X d 0 513 [.ref mm_ext, .ref 0, .ref 77, .ref 125, .int i, u5, u6] [] M Q := by
  obtain ⟨⟨⟨⟨⟨⟨⟨⟨⟨hG, ⟨jPI, jNI, jQI, jPQE⟩, ⟨jFA, jWC, jNJ, jPS, jKQ⟩, jJ, jE⟩, jTP, jW9⟩, jNE, jCC⟩, -⟩, jOV⟩, jW8⟩, jNN⟩, jAN⟩, jFF, jFP⟩ := H
  have b_1 := g_b hG (a := 77) (i := 7) (lo := 0) (hi := 500) rfl rfl
  have b_2 := g_b hG (a := 77) (i := 6) (lo := 0) (hi := 500) rfl rfl
  have b_3 := g_b hG (a := 1) (i := 1) (lo := 0) (hi := 500) rfl rfl
  have b_4 := g_b hG (a := 77) (i := 1) (lo := 0) (hi := 500) rfl rfl
  have b_5 := g_b hG (a := 0) (i := 12) (lo := 0) (hi := 30) rfl rfl
  have b_6 := g_b hG (a := 77) (i := 28) (lo := 0) (hi := 30) rfl rfl
  have b_7 := g_b hG (a := 6) (i := 0) (lo := 0) (hi := 150) rfl rfl
  have b_8 := g_b hG (a := 77) (i := 29) (lo := 0) (hi := 150) rfl rfl
  refine to_an (pc := 513) rw_0_513 rfl (to_an (pc := 514) rw_0_514 rfl (to_i (pc := 515) rw_0_515 rfl (to_c (pc := 517) rw_0_517 (x := (1 : Int32)) rfl rfl (s_add (pc := 518) rw_0_518 (A := i.toInt) (B := 1) rfl rfl (by omega) (fun v9 e10 => s_x0 (pc := 519) rw_0_519 hL (A := v9.toInt) rfl (by omega) (by omega) (fun v11 e12 => to_an (pc := 520) rw_0_520 rfl (to_i (pc := 521) rw_0_521 rfl (to_c (pc := 523) rw_0_523 (x := (2 : Int32)) rfl rfl (s_add (pc := 524) rw_0_524 (A := i.toInt) (B := 2) rfl rfl (by omega) (fun v13 e14 => s_x0 (pc := 525) rw_0_525 hL (A := v13.toInt) rfl (by omega) (by omega) (fun v15 e16 => to_an (pc := 526) rw_0_526 rfl ?_)))))))))))
  refine to_i (pc := 527) rw_0_527 rfl (to_c (pc := 529) rw_0_529 (x := (3 : Int32)) rfl rfl (s_add (pc := 530) rw_0_530 (A := i.toInt) (B := 3) rfl rfl (by omega) (fun v17 e18 => s_x0 (pc := 531) rw_0_531 hL (A := v17.toInt) rfl (by omega) (by omega) (fun v19 e20 => s_v (pc := 532) rw_0_532 (dp0 hd (by decide)) (ls0 := [.ref 0, .int v11, .int v15, .int v19]) rfl (Nat.le_of_ble_eq_true rfl) (Nat.le_of_ble_eq_true rfl) rfl (to_rc rfl rfl rfl (g_o hG rfl)) rfl ?_))))
  obtain ⟨pz21, pzz21, qz21, qzz21, hpz21, hpzz21, hqz21, hqzz21, hpqz21⟩ := id jPQE
  obtain ⟨sg, NN, nz, ca, hs1, hs2, hn1, hn2, hn3, hn4, hn5⟩ := AN_u jAN hpqz21
  refine E_119 hX (dp1 hd (by decide)) hG hpz21 hpzz21 hqz21 hqzz21 hpqz21 jNI jPI jQI hs1.1 (c := v11) (f := v15) (v := v19) (sg := sg) (p := pz21) (pz := pzz21) (q := qz21) (qz := qzz21) (fun r22 M31 hG24 F23 p_25 p_26 p_27 p_28 p_29 p_30 => ?_)
  have n_32 : M31.1.2.1 = M.1.2.1 ∧ M31.1.2.2.1 = M.1.2.2.1 := by rw [F23.1]; exact ⟨rfl, rfl⟩
  have b_34 := g_b hG24 (a := 6) (i := 0) (lo := 0) (hi := 150) rfl rfl
  have c_35 : M31.2.1 77 29 = (M.2.1 77 29) := (F_n F23 (show ¬ (6 ≤ 77 ∧ 77 ≤ 10) by decide) rfl)
  have t_36 : (M31.2.1 77 29).toInt = (M.2.1 77 29).toInt := congrArg Int32.toInt c_35
  refine to_popi (pc := 535) rw_0_535 (to_an (pc := 536) rw_0_536 rfl (to_an (pc := 537) rw_0_537 rfl (to_i (pc := 538) rw_0_538 rfl (to_c (pc := 540) rw_0_540 (x := (1 : Int32)) rfl rfl (s_addk (pc := 541) rw_0_541 (A := i.toInt) (B := 1) rfl rfl (by (first | (clear hpz21 hpzz21 hqz21 hqzz21 p_28 p_29; omega) | (clear hpz21 hpzz21 hqz21 hqzz21; omega) | (clear hpz21 hpzz21 hqz21 p_28 p_29; omega) | omega)) (v := v9) e10 (s_x0k (pc := 542) rw_0_542 hL (A := v9.toInt) rfl (by (first | (clear hpz21 hpzz21 hqz21 hqzz21 p_28 p_29; omega) | (clear hpz21 hpzz21 hqz21 hqzz21; omega) | (clear hpz21 hpzz21 hqz21 p_28 p_29; omega) | omega)) (by (first | (clear hpz21 hpzz21 hqz21 hqzz21 p_28 p_29; omega) | (clear hpz21 hpzz21 hqz21 hqzz21; omega) | (clear hpz21 hpzz21 hqz21 p_28 p_29; omega) | omega)) (v := v11) e12 (to_an (pc := 543) rw_0_543 rfl (to_i (pc := 544) rw_0_544 rfl (to_c (pc := 546) rw_0_546 (x := (2 : Int32)) rfl rfl (s_addk (pc := 547) rw_0_547 (A := i.toInt) (B := 2) rfl rfl (by (first | (clear hpz21 hpzz21 hqz21 hqzz21 p_28 p_29; omega) | (clear hpz21 hpzz21 hqz21 hqzz21; omega) | (clear hpz21 hpzz21 hqz21 p_28 p_29; omega) | omega)) (v := v13) e14 (s_x0k (pc := 548) rw_0_548 hL (A := v13.toInt) rfl (by (first | (clear hpz21 hpzz21 hqz21 hqzz21 p_28 p_29; omega) | (clear hpz21 hpzz21 hqz21 hqzz21; omega) | (clear hpz21 hpzz21 hqz21 p_28 p_29; omega) | omega)) (by (first | (clear hpz21 hpzz21 hqz21 hqzz21 p_28 p_29; omega) | (clear hpz21 hpzz21 hqz21 hqzz21; omega) | (clear hpz21 hpzz21 hqz21 p_28 p_29; omega) | omega)) (v := v15) e16 ?_)))))))))))
  refine to_an (pc := 549) rw_0_549 rfl (to_i (pc := 550) rw_0_550 rfl (to_c (pc := 552) rw_0_552 (x := (3 : Int32)) rfl rfl (s_addk (pc := 553) rw_0_553 (A := i.toInt) (B := 3) rfl rfl (by (first | (clear hpz21 hpzz21 hqz21 hqzz21 p_28 p_29; omega) | (clear hpz21 hpzz21 hqz21 hqzz21; omega) | (clear hpz21 hpzz21 hqz21 p_28 p_29; omega) | omega)) (v := v17) e18 (s_x0k (pc := 554) rw_0_554 hL (A := v17.toInt) rfl (by (first | (clear hpz21 hpzz21 hqz21 hqzz21 p_28 p_29; omega) | (clear hpz21 hpzz21 hqz21 hqzz21; omega) | (clear hpz21 hpzz21 hqz21 p_28 p_29; omega) | omega)) (by (first | (clear hpz21 hpzz21 hqz21 hqzz21 p_28 p_29; omega) | (clear hpz21 hpzz21 hqz21 hqzz21; omega) | (clear hpz21 hpzz21 hqz21 p_28 p_29; omega) | omega)) (v := v19) e20 (s_v (pc := 555) rw_0_555 (dp0 hd (by decide)) (ls0 := [.ref 77, .int v11, .int v15, .int v19]) rfl (Nat.le_of_ble_eq_true rfl) (Nat.le_of_ble_eq_true rfl) rfl (to_rc rfl rfl rfl (g_o hG24 rfl)) rfl ?_)))))
  have c_43 : M31.2.1 77 28 = (M.2.1 77 28) := (F_n F23 (show ¬ (6 ≤ 77 ∧ 77 ≤ 10) by decide) rfl)
  have t_44 : (M31.2.1 77 28).toInt = (M.2.1 77 28).toInt := congrArg Int32.toInt c_43
  have j_45 := (NJ_f (tg_617 F23) jNJ)
  have j_46 := (FA_f (tg_618 F23) jFA)
  have j_47 := (PLk_f (tg_619 F23) hs2.1)
  refine E_194 hX (dp1 hd (by decide)) hG24 j_45 j_46 j_47 (c := v11) (f := v15) (v := v19) (sg := sg) (fun r48 M55 hG50 F49 p_51 p_52 p_53 p_54 => ?_)
  have n_56 : M55.1.2.1 = M31.1.2.1 ∧ M55.1.2.2.1 = M31.1.2.2.1 := by rw [F49.1]; exact ⟨rfl, rfl⟩
  have b_58 := g_b hG50 (a := 77) (i := 29) (lo := 0) (hi := 150) rfl rfl
  have k_59 : (0 : Int32).toInt = 0 := rfl
  have k_60 : (1 : Int32).toInt = 1 := rfl
  have k_61 : (2 : Int32).toInt = 2 := rfl
  have k_62 : (3 : Int32).toInt = 3 := rfl
  have k_63 : (4 : Int32).toInt = 4 := rfl
  have k_64 : (5 : Int32).toInt = 5 := rfl
  have z_65 := AN_n hpz21 hpqz21 hs1 hs2 hn1 hn2 hn3 hn4 hn5 F23 (fun a i z => show ¬ (6 ≤ a ∧ a ≤ 10) by (first | (clear hpz21 hpzz21 hqz21 hqzz21 p_28 p_29 p_52 p_53; omega) | (clear hpz21 hpzz21 hqz21 hqzz21; omega) | (clear hpz21 hpzz21 hqz21 p_28 p_29 p_52 p_53; omega) | omega)) F49 (fun a i z => show ¬ (a = 77 ∧ (i = 2 ∨ i = 29) ∨ 90 ≤ a ∧ a ≤ 93) by (first | (clear hpz21 hpzz21 hqz21 hqzz21 p_28 p_29 p_52 p_53; omega) | (clear hpz21 hpzz21 hqz21 hqzz21; omega) | (clear hpz21 hpzz21 hqz21 p_28 p_29 p_52 p_53; omega) | omega)) p_30 p_54 (by (first | (clear hpz21 hpzz21 hqz21 hqzz21 p_28 p_29 p_52 p_53; omega) | (clear hpz21 hpzz21 hqz21 hqzz21; omega) | (clear hpz21 hpzz21 hqz21 p_28 p_29 p_52 p_53; omega) | omega)) (by (first | (clear hpz21 hpzz21 hqz21 hqzz21 p_28 p_29 p_52 p_53; omega) | (clear hpz21 hpzz21 hqz21 hqzz21; omega) | (clear hpz21 hpzz21 hqz21 p_28 p_29 p_52 p_53; omega) | omega)) (by (first | (clear hpz21 hpzz21 hqz21 hqzz21 p_28 p_29 p_52 p_53; omega) | (clear hpz21 hpzz21 hqz21 hqzz21; omega) | (clear hpz21 hpzz21 hqz21 p_28 p_29 p_52 p_53; omega) | omega)) (by (first | (clear hpz21 hpzz21 hqz21 hqzz21 p_28 p_29 p_52 p_53; omega) | (clear hpz21 hpzz21 hqz21 hqzz21; omega) | (clear hpz21 hpzz21 hqz21 p_28 p_29 p_52 p_53; omega) | omega)) (fun z9 => ⟨fun z => by (first | (clear hpz21 hpzz21 hqz21 hqzz21 p_28 p_29 p_52 p_53; omega) | (clear hpz21 hpzz21 hqz21 hqzz21; omega) | (clear hpz21 hpzz21 hqz21 p_28 p_29 p_52 p_53; omega) | omega), fun z => by (first | (clear hpz21 hpzz21 hqz21 hqzz21 p_28 p_29 p_52 p_53; omega) | (clear hpz21 hpzz21 hqz21 hqzz21; omega) | (clear hpz21 hpzz21 hqz21 p_28 p_29 p_52 p_53; omega) | omega), fun z => by (first | (clear hpz21 hpzz21 hqz21 hqzz21 p_28 p_29 p_52 p_53; omega) | (clear hpz21 hpzz21 hqz21 hqzz21; omega) | (clear hpz21 hpzz21 hqz21 p_28 p_29 p_52 p_53; omega) | omega), fun z => by (first | (clear hpz21 hpzz21 hqz21 hqzz21 p_28 p_29 p_52 p_53; omega) | (clear hpz21 hpzz21 hqz21 hqzz21; omega) | (clear hpz21 hpzz21 hqz21 p_28 p_29 p_52 p_53; omega) | omega), fun z => by (first | (clear hpz21 hpzz21 hqz21 hqzz21 p_28 p_29 p_52 p_53; omega) | (clear hpz21 hpzz21 hqz21 hqzz21; omega) | (clear hpz21 hpzz21 hqz21 p_28 p_29 p_52 p_53; omega) | omega)⟩)
  refine to_popi (pc := 558) rw_0_558 (to_go (pc := 559) rw_0_559 ?_)
  have c_66 : M55.2.1 77 7 = (M.2.1 77 7) := (F_n F49 (show ¬ (77 = 77 ∧ (7 = 2 ∨ 7 = 29) ∨ 90 ≤ 77 ∧ 77 ≤ 93) by decide) (F_n F23 (show ¬ (6 ≤ 77 ∧ 77 ≤ 10) by decide) rfl))
  have t_67 : (M55.2.1 77 7).toInt = (M.2.1 77 7).toInt := congrArg Int32.toInt c_66
  have c_68 : M55.2.1 77 6 = (M.2.1 77 6) := (F_n F49 (show ¬ (77 = 77 ∧ (6 = 2 ∨ 6 = 29) ∨ 90 ≤ 77 ∧ 77 ≤ 93) by decide) (F_n F23 (show ¬ (6 ≤ 77 ∧ 77 ≤ 10) by decide) rfl))
  have t_69 : (M55.2.1 77 6).toInt = (M.2.1 77 6).toInt := congrArg Int32.toInt c_68
  have c_70 : M55.2.1 1 1 = (M.2.1 1 1) := (F_n F49 (show ¬ (1 = 77 ∧ (1 = 2 ∨ 1 = 29) ∨ 90 ≤ 1 ∧ 1 ≤ 93) by decide) (F_n F23 (show ¬ (6 ≤ 1 ∧ 1 ≤ 10) by decide) rfl))
  have t_71 : (M55.2.1 1 1).toInt = (M.2.1 1 1).toInt := congrArg Int32.toInt c_70
  have c_72 : M55.2.1 77 1 = (M.2.1 77 1) := (F_n F49 (show ¬ (77 = 77 ∧ (1 = 2 ∨ 1 = 29) ∨ 90 ≤ 77 ∧ 77 ≤ 93) by decide) (F_n F23 (show ¬ (6 ≤ 77 ∧ 77 ≤ 10) by decide) rfl))
  have t_73 : (M55.2.1 77 1).toInt = (M.2.1 77 1).toInt := congrArg Int32.toInt c_72
  have c_74 : M55.2.1 0 12 = (M.2.1 0 12) := (F_n F49 (show ¬ (0 = 77 ∧ (12 = 2 ∨ 12 = 29) ∨ 90 ≤ 0 ∧ 0 ≤ 93) by decide) (F_n F23 (show ¬ (6 ≤ 0 ∧ 0 ≤ 10) by decide) rfl))
  have t_75 : (M55.2.1 0 12).toInt = (M.2.1 0 12).toInt := congrArg Int32.toInt c_74
  have c_76 : M55.2.1 77 28 = (M.2.1 77 28) := (F_n F49 (show ¬ (77 = 77 ∧ (28 = 2 ∨ 28 = 29) ∨ 90 ≤ 77 ∧ 77 ≤ 93) by decide) c_43)
  have t_77 : (M55.2.1 77 28).toInt = (M.2.1 77 28).toInt := congrArg Int32.toInt c_76
  have c_78 : M55.2.1 17 4 = (M.2.1 17 4) := (F_n F49 (show ¬ (17 = 77 ∧ (4 = 2 ∨ 4 = 29) ∨ 90 ≤ 17 ∧ 17 ≤ 93) by decide) (F_n F23 (show ¬ (6 ≤ 17 ∧ 17 ≤ 10) by decide) rfl))
  have t_79 : (M55.2.1 17 4).toInt = (M.2.1 17 4).toInt := congrArg Int32.toInt c_78
  have c_80 : M55.2.1 77 41 = (M.2.1 77 41) := (F_n F49 (show ¬ (77 = 77 ∧ (41 = 2 ∨ 41 = 29) ∨ 90 ≤ 77 ∧ 77 ≤ 93) by decide) (F_n F23 (show ¬ (6 ≤ 77 ∧ 77 ≤ 10) by decide) rfl))
  have t_81 : (M55.2.1 77 41).toInt = (M.2.1 77 41).toInt := congrArg Int32.toInt c_80
  have c_82 : M55.2.1 6 0 = (M31.2.1 6 0) := (F_n F49 (show ¬ (6 = 77 ∧ (0 = 2 ∨ 0 = 29) ∨ 90 ≤ 6 ∧ 6 ≤ 93) by decide) rfl)
  have t_83 : (M55.2.1 6 0).toInt = (M31.2.1 6 0).toInt := congrArg Int32.toInt c_82
  have c_84 : M55.2.1 1 10 = (M.2.1 1 10) := (F_n F49 (show ¬ (1 = 77 ∧ (10 = 2 ∨ 10 = 29) ∨ 90 ≤ 1 ∧ 1 ≤ 93) by decide) (F_n F23 (show ¬ (6 ≤ 1 ∧ 1 ≤ 10) by decide) rfl))
  have t_85 : (M55.2.1 1 10).toInt = (M.2.1 1 10).toInt := congrArg Int32.toInt c_84
  have c_86 : M55.2.1 77 4 = (M.2.1 77 4) := (F_n F49 (show ¬ (77 = 77 ∧ (4 = 2 ∨ 4 = 29) ∨ 90 ≤ 77 ∧ 77 ≤ 93) by decide) (F_n F23 (show ¬ (6 ≤ 77 ∧ 77 ≤ 10) by decide) rfl))
  have t_87 : (M55.2.1 77 4).toInt = (M.2.1 77 4).toInt := congrArg Int32.toInt c_86
  have c_88 : M55.2.1 1 11 = (M.2.1 1 11) := (F_n F49 (show ¬ (1 = 77 ∧ (11 = 2 ∨ 11 = 29) ∨ 90 ≤ 1 ∧ 1 ≤ 93) by decide) (F_n F23 (show ¬ (6 ≤ 1 ∧ 1 ≤ 10) by decide) rfl))
  have t_89 : (M55.2.1 1 11).toInt = (M.2.1 1 11).toInt := congrArg Int32.toInt c_88
  have c_90 : M55.2.1 77 5 = (M.2.1 77 5) := (F_n F49 (show ¬ (77 = 77 ∧ (5 = 2 ∨ 5 = 29) ∨ 90 ≤ 77 ∧ 77 ≤ 93) by decide) (F_n F23 (show ¬ (6 ≤ 77 ∧ 77 ≤ 10) by decide) rfl))
  have t_91 : (M55.2.1 77 5).toInt = (M.2.1 77 5).toInt := congrArg Int32.toInt c_90
  have j_92 := (PI_f (tg_620 F49) p_26)
  have j_93 := (NI_f (tg_621 F49) p_25)
  have j_94 := (QI_f (tg_622 F49) p_27)
  have j_95 := (PQE_r F49.2.1 (PQE_r F23.2.1 jPQE))
  have j_96 := (FA_f (tg_623 F49) j_46)
  have j_97 := (WC_f (tg_624 F49) (WC_f (tg_625 F23) jWC))
  have j_98 := (PS_f (tg_626 F49) (PS_f (tg_627 F23) jPS))
  have j_99 := (KQ_f (tg_628 F49) (KQ_f (tg_629 F23) jKQ))
  have j_100 := (TP_f (tg_630 F49) (TP_f (tg_631 F23) jTP))
  have j_101 := (W9_f (tg_632 F49) (W9_f (tg_633 F23) jW9))
  have j_102 := (NE_r F49.2.1 (NE_r F23.2.1 jNE))
  have j_103 := (W8_f (tg_634 F49) (W8_f (tg_635 F23) jW8))
  exact h M55 (u5) (u6) ⟨⟨⟨⟨⟨⟨⟨⟨⟨hG50, ⟨j_92, j_93, j_94, j_95⟩, ⟨j_96, j_97, p_51, j_98, j_99⟩, by (first | (clear hpz21 hpzz21 hqz21 hqzz21 p_28 p_29 p_52 p_53; omega) | (clear hpz21 hpzz21 hqz21 hqzz21; omega) | (clear hpz21 hpzz21 hqz21 p_28 p_29 p_52 p_53; omega) | omega), by (first | (clear hpz21 hpzz21 hqz21 hqzz21 p_28 p_29 p_52 p_53; omega) | (clear hpz21 hpzz21 hqz21 hqzz21; omega) | (clear hpz21 hpzz21 hqz21 p_28 p_29 p_52 p_53; omega) | omega)⟩, j_100, j_101⟩, j_102, by (first | (clear hpz21 hpzz21 hqz21 hqzz21 p_28 p_29 p_52 p_53; omega) | (clear hpz21 hpzz21 hqz21 hqzz21; omega) | (clear hpz21 hpzz21 hqz21 p_28 p_29 p_52 p_53; omega) | omega)⟩, AN_a z_65⟩, by (first | (clear hpz21 hpzz21 hqz21 hqzz21 p_28 p_29 p_52 p_53; omega) | (clear hpz21 hpzz21 hqz21 hqzz21; omega) | (clear hpz21 hpzz21 hqz21 p_28 p_29 p_52 p_53; omega) | omega)⟩, j_103⟩, by (first | (clear hpz21 hpzz21 hqz21 hqzz21 p_28 p_29 p_52 p_53; omega) | (clear hpz21 hpzz21 hqz21 hqzz21; omega) | (clear hpz21 hpzz21 hqz21 p_28 p_29 p_52 p_53; omega) | omega)⟩, z_65⟩, by (first | (clear hpz21 hpzz21 hqz21 hqzz21 p_28 p_29 p_52 p_53; omega) | (clear hpz21 hpzz21 hqz21 hqzz21; omega) | (clear hpz21 hpzz21 hqz21 p_28 p_29 p_52 p_53; omega) | omega), by (first | (clear hpz21 hpzz21 hqz21 hqzz21 p_28 p_29 p_52 p_53; omega) | (clear hpz21 hpzz21 hqz21 hqzz21; omega) | (clear hpz21 hpzz21 hqz21 p_28 p_29 p_52 p_53; omega) | omega)⟩ (by (first | (clear hpz21 hpzz21 hqz21 hqzz21 p_28 p_29 p_52 p_53; omega) | (clear hpz21 hpzz21 hqz21 hqzz21; omega) | (clear hpz21 hpzz21 hqz21 p_28 p_29 p_52 p_53; omega) | omega)) (by (first | (clear hpz21 hpzz21 hqz21 hqzz21 p_28 p_29 p_52 p_53; omega) | (clear hpz21 hpzz21 hqz21 hqzz21; omega) | (clear hpz21 hpzz21 hqz21 p_28 p_29 p_52 p_53; omega) | omega))
