set_option maxRecDepth 4000 in
set_option maxHeartbeats 0 in
theorem LW_5 {X : mm_X} {d L : Nat} {M : mm_M} {Q : Option Value → mm_M → Prop} {i : Int32} {u5 u6 : Value} (hX : g_X X) (hW : g_W X) (hW2 : g_W2 X) (hL : (X 0).1 = L) (h3 : L ≤ 3072) (hd : 40 ≤ d) (hi : 0 ≤ i.toInt) (hi2 : i.toInt + 6 ≤ (L : Int)) (H : LI10 M) (h : ∀ (M1 : mm_M) (v5 v6 : Value), LI10 M1 → M1.1.2.1 ≤ M.1.2.1 + 1 → M1.1.2.2.1 ≤ M.1.2.2.1 + 6 → mm_T X d 0 1313 [.ref mm_ext, .ref 0, .ref 77, .ref 125, .int i, v5, v6] [] M1 Q) : mm_T X d 0 349 [.ref mm_ext, .ref 0, .ref 77, .ref 125, .int i, u5, u6] [] M Q := by
  obtain ⟨⟨⟨⟨⟨⟨⟨⟨⟨hG, ⟨jPI, jNI, jQI, jPQE⟩, ⟨jFA, jWC, jNJ, jPS, jKQ⟩, jJ, jE⟩, jTP, jW9⟩, jNE, jCC⟩, -⟩, jOV⟩, jW8⟩, jNN⟩, jAN⟩, jKNA, jDN, jPN⟩ := H
  have b_1 := g_b hG (a := 77) (i := 7) (lo := 0) (hi := 500) rfl rfl
  have b_2 := g_b hG (a := 77) (i := 6) (lo := 0) (hi := 500) rfl rfl
  have b_3 := g_b hG (a := 1) (i := 1) (lo := 0) (hi := 500) rfl rfl
  have b_4 := g_b hG (a := 77) (i := 1) (lo := 0) (hi := 500) rfl rfl
  have b_5 := g_b hG (a := 0) (i := 12) (lo := 0) (hi := 30) rfl rfl
  have b_6 := g_b hG (a := 77) (i := 28) (lo := 0) (hi := 30) rfl rfl
  have b_7 := g_b hG (a := 6) (i := 0) (lo := 0) (hi := 150) rfl rfl
  have b_8 := g_b hG (a := 77) (i := 29) (lo := 0) (hi := 150) rfl rfl
  have b_9 := g_b hG (a := 28) (i := 8) (lo := 0) (hi := 3000) rfl rfl
  have b_10 := g_b hG (a := 77) (i := 43) (lo := 0) (hi := 3000) rfl rfl
  refine to_an (pc := 349) rw_0_349 rfl (to_an (pc := 350) rw_0_350 rfl (to_i (pc := 351) rw_0_351 rfl (to_c (pc := 353) rw_0_353 (x := (1 : Int32)) rfl rfl (s_add (pc := 354) rw_0_354 (A := i.toInt) (B := 1) rfl rfl (by omega) (fun v11 e12 => s_x0 (pc := 355) rw_0_355 hL (A := v11.toInt) rfl (by omega) (by omega) (fun v13 e14 => to_an (pc := 356) rw_0_356 rfl (to_i (pc := 357) rw_0_357 rfl (to_c (pc := 359) rw_0_359 (x := (2 : Int32)) rfl rfl (s_add (pc := 360) rw_0_360 (A := i.toInt) (B := 2) rfl rfl (by omega) (fun v15 e16 => s_x0 (pc := 361) rw_0_361 hL (A := v15.toInt) rfl (by omega) (by omega) (fun v17 e18 => s_v (pc := 362) rw_0_362 (dp0 hd (by decide)) (ls0 := [.ref 0, .int v13, .int v17]) rfl (Nat.le_of_ble_eq_true rfl) (Nat.le_of_ble_eq_true rfl) rfl (to_rc rfl rfl rfl (g_o hG rfl)) rfl ?_)))))))))))
  obtain ⟨pz19, pzz19, qz19, qzz19, hpz19, hpzz19, hqz19, hqzz19, hpqz19⟩ := id jPQE
  obtain ⟨sg, NN, nz, ca, hs1, hs2, hn1, hn2, hn3, hn4, hn5⟩ := AN_u jAN hpqz19
  refine E_115 hX (dp1 hd (by decide)) hG hpz19 hpzz19 hqz19 hqzz19 hpqz19 hs1.1 (w := v13) (l := v17) (sg := sg) (p := pz19) (pz := pzz19) (q := qz19) (qz := qzz19) (fun r20 M26 hG22 F21 p_23 p_24 p_25 => ?_)
  have n_27 : M26.1.2.1 = M.1.2.1 ∧ M26.1.2.2.1 = M.1.2.2.1 := by rw [F21.1]; exact ⟨rfl, rfl⟩
  refine to_popi (pc := 365) rw_0_365 (to_an (pc := 366) rw_0_366 rfl (to_an (pc := 367) rw_0_367 rfl (to_i (pc := 368) rw_0_368 rfl (to_c (pc := 370) rw_0_370 (x := (1 : Int32)) rfl rfl (s_addk (pc := 371) rw_0_371 (A := i.toInt) (B := 1) rfl rfl (by (first | (clear hpz19 hpzz19 hqz19 hqzz19 p_23 p_24 p_25; omega) | (clear hpz19 hpzz19 hqz19 hqzz19; omega) | (clear hpz19 hpzz19 hqz19 p_23 p_24 p_25; omega) | omega)) (v := v11) e12 (s_x0k (pc := 372) rw_0_372 hL (A := v11.toInt) rfl (by (first | (clear hpz19 hpzz19 hqz19 hqzz19 p_23 p_24 p_25; omega) | (clear hpz19 hpzz19 hqz19 hqzz19; omega) | (clear hpz19 hpzz19 hqz19 p_23 p_24 p_25; omega) | omega)) (by (first | (clear hpz19 hpzz19 hqz19 hqzz19 p_23 p_24 p_25; omega) | (clear hpz19 hpzz19 hqz19 hqzz19; omega) | (clear hpz19 hpzz19 hqz19 p_23 p_24 p_25; omega) | omega)) (v := v13) e14 (to_an (pc := 373) rw_0_373 rfl (to_i (pc := 374) rw_0_374 rfl (to_c (pc := 376) rw_0_376 (x := (2 : Int32)) rfl rfl (s_addk (pc := 377) rw_0_377 (A := i.toInt) (B := 2) rfl rfl (by (first | (clear hpz19 hpzz19 hqz19 hqzz19 p_23 p_24 p_25; omega) | (clear hpz19 hpzz19 hqz19 hqzz19; omega) | (clear hpz19 hpzz19 hqz19 p_23 p_24 p_25; omega) | omega)) (v := v15) e16 (s_x0k (pc := 378) rw_0_378 hL (A := v15.toInt) rfl (by (first | (clear hpz19 hpzz19 hqz19 hqzz19 p_23 p_24 p_25; omega) | (clear hpz19 hpzz19 hqz19 hqzz19; omega) | (clear hpz19 hpzz19 hqz19 p_23 p_24 p_25; omega) | omega)) (by (first | (clear hpz19 hpzz19 hqz19 hqzz19 p_23 p_24 p_25; omega) | (clear hpz19 hpzz19 hqz19 hqzz19; omega) | (clear hpz19 hpzz19 hqz19 p_23 p_24 p_25; omega) | omega)) (v := v17) e18 ?_)))))))))))
  refine s_v (pc := 379) rw_0_379 (dp0 hd (by decide)) (ls0 := [.ref 77, .int v13, .int v17]) rfl (Nat.le_of_ble_eq_true rfl) (Nat.le_of_ble_eq_true rfl) rfl (to_rc rfl rfl rfl (g_o hG22 rfl)) rfl ?_
  have j_33 := (PLk_f (tg_101 F21) hs2.1)
  refine E_177 hX (dp1 hd (by decide)) hG22 j_33 (w := v13) (l := v17) (sg := sg) (fun r34 M40 hG36 F35 p_37 p_38 p_39 => ?_)
  have n_41 : M40.1.2.1 = M26.1.2.1 ∧ M40.1.2.2.1 = M26.1.2.2.1 := by rw [F35.1]; exact ⟨rfl, rfl⟩
  refine to_popi (pc := 382) rw_0_382 (to_go (pc := 383) rw_0_383 ?_)
  have c_43 : M40.2.1 77 7 = (M.2.1 77 7) := (F_n F35 (show ¬ (77 = 77 ∧ 7 = 2) by decide) (F_n F21 (show ¬ (77 < 0) by decide) rfl))
  have t_44 : (M40.2.1 77 7).toInt = (M.2.1 77 7).toInt := congrArg Int32.toInt c_43
  have c_45 : M40.2.1 77 6 = (M.2.1 77 6) := (F_n F35 (show ¬ (77 = 77 ∧ 6 = 2) by decide) (F_n F21 (show ¬ (77 < 0) by decide) rfl))
  have t_46 : (M40.2.1 77 6).toInt = (M.2.1 77 6).toInt := congrArg Int32.toInt c_45
  have c_47 : M40.2.1 1 1 = (M.2.1 1 1) := (F_n F35 (show ¬ (1 = 77 ∧ 1 = 2) by decide) (F_n F21 (show ¬ (1 < 0) by decide) rfl))
  have t_48 : (M40.2.1 1 1).toInt = (M.2.1 1 1).toInt := congrArg Int32.toInt c_47
  have c_49 : M40.2.1 77 1 = (M.2.1 77 1) := (F_n F35 (show ¬ (77 = 77 ∧ 1 = 2) by decide) (F_n F21 (show ¬ (77 < 0) by decide) rfl))
  have t_50 : (M40.2.1 77 1).toInt = (M.2.1 77 1).toInt := congrArg Int32.toInt c_49
  have c_51 : M40.2.1 0 12 = (M.2.1 0 12) := (F_n F35 (show ¬ (0 = 77 ∧ 12 = 2) by decide) (F_n F21 (show ¬ (0 < 0) by decide) rfl))
  have t_52 : (M40.2.1 0 12).toInt = (M.2.1 0 12).toInt := congrArg Int32.toInt c_51
  have c_53 : M40.2.1 77 28 = (M.2.1 77 28) := (F_n F35 (show ¬ (77 = 77 ∧ 28 = 2) by decide) (F_n F21 (show ¬ (77 < 0) by decide) rfl))
  have t_54 : (M40.2.1 77 28).toInt = (M.2.1 77 28).toInt := congrArg Int32.toInt c_53
  have c_55 : M40.2.1 17 4 = (M.2.1 17 4) := (F_n F35 (show ¬ (17 = 77 ∧ 4 = 2) by decide) (F_n F21 (show ¬ (17 < 0) by decide) rfl))
  have t_56 : (M40.2.1 17 4).toInt = (M.2.1 17 4).toInt := congrArg Int32.toInt c_55
  have c_57 : M40.2.1 77 41 = (M.2.1 77 41) := (F_n F35 (show ¬ (77 = 77 ∧ 41 = 2) by decide) (F_n F21 (show ¬ (77 < 0) by decide) rfl))
  have t_58 : (M40.2.1 77 41).toInt = (M.2.1 77 41).toInt := congrArg Int32.toInt c_57
  have c_59 : M40.2.1 6 0 = (M.2.1 6 0) := (F_n F35 (show ¬ (6 = 77 ∧ 0 = 2) by decide) (F_n F21 (show ¬ (6 < 0) by decide) rfl))
  have t_60 : (M40.2.1 6 0).toInt = (M.2.1 6 0).toInt := congrArg Int32.toInt c_59
  have c_61 : M40.2.1 77 29 = (M.2.1 77 29) := (F_n F35 (show ¬ (77 = 77 ∧ 29 = 2) by decide) (F_n F21 (show ¬ (77 < 0) by decide) rfl))
  have t_62 : (M40.2.1 77 29).toInt = (M.2.1 77 29).toInt := congrArg Int32.toInt c_61
  have c_63 : M40.2.1 28 8 = (M.2.1 28 8) := (F_n F35 (show ¬ (28 = 77 ∧ 8 = 2) by decide) (F_n F21 (show ¬ (28 < 0) by decide) rfl))
  have t_64 : (M40.2.1 28 8).toInt = (M.2.1 28 8).toInt := congrArg Int32.toInt c_63
  have c_65 : M40.2.1 77 43 = (M.2.1 77 43) := (F_n F35 (show ¬ (77 = 77 ∧ 43 = 2) by decide) (F_n F21 (show ¬ (77 < 0) by decide) rfl))
  have t_66 : (M40.2.1 77 43).toInt = (M.2.1 77 43).toInt := congrArg Int32.toInt c_65
  have c_67 : M40.2.1 28 9 = (M.2.1 28 9) := (F_n F35 (show ¬ (28 = 77 ∧ 9 = 2) by decide) (F_n F21 (show ¬ (28 < 0) by decide) rfl))
  have t_68 : (M40.2.1 28 9).toInt = (M.2.1 28 9).toInt := congrArg Int32.toInt c_67
  have c_69 : M40.2.1 77 42 = (M.2.1 77 42) := (F_n F35 (show ¬ (77 = 77 ∧ 42 = 2) by decide) (F_n F21 (show ¬ (77 < 0) by decide) rfl))
  have t_70 : (M40.2.1 77 42).toInt = (M.2.1 77 42).toInt := congrArg Int32.toInt c_69
  have j_71 := (PI_f (tg_557 F35) (PI_f (tg_99 F21) jPI))
  have j_72 := (NI_f (tg_558 F35) (NI_f (tg_98 F21) jNI))
  have j_73 := (QI_f (tg_559 F35) (QI_f (tg_100 F21) jQI))
  have j_74 := (PQE_r F35.2.1 (PQE_r F21.2.1 jPQE))
  have j_75 := (FA_f (tg_560 F35) (FA_f (tg_299 F21) jFA))
  have j_76 := (WC_f (tg_561 F35) (WC_f (tg_562 F21) jWC))
  have j_77 := (NJ_f (tg_563 F35) (NJ_f (tg_102 F21) jNJ))
  have j_78 := (PS_f (tg_564 F35) (PS_f (tg_565 F21) jPS))
  have j_79 := (KQ_f (tg_566 F35) (KQ_f (tg_416 F21) jKQ))
  have j_80 := (TP_f (tg_567 F35) (TP_f (tg_568 F21) jTP))
  have j_81 := (W9_f (tg_569 F35) (W9_f (tg_46 F21) jW9))
  have j_82 := (AN_F F35 tg_633 (AN_F F21 tg_634 jAN))
  have j_83 := (KNA_F F35 (fun a i z => show ¬ (a = 77 ∧ i = 2) by (first | (clear hpz19 hpzz19 hqz19 hqzz19 p_23 p_24 p_25 p_37 p_38 p_39; omega) | (clear hpz19 hpzz19 hqz19 hqzz19; omega) | (clear hpz19 hpzz19 hqz19 p_23 p_24 p_25 p_37 p_38 p_39; omega) | omega)) (KNA_F F21 (fun a i z => show ¬ (a < 0) by (first | (clear hpz19 hpzz19 hqz19 hqzz19 p_23 p_24 p_25 p_37 p_38 p_39; omega) | (clear hpz19 hpzz19 hqz19 hqzz19; omega) | (clear hpz19 hpzz19 hqz19 p_23 p_24 p_25 p_37 p_38 p_39; omega) | omega)) jKNA))
  have j_84 := (NE_r F35.2.1 (NE_r F21.2.1 jNE))
  have j_85 := (W8_f (tg_570 F35) (W8_f (tg_571 F21) jW8))
  exact h M40 (u5) (u6) ⟨⟨⟨⟨⟨⟨⟨⟨⟨hG36, ⟨j_71, j_72, j_73, j_74⟩, ⟨j_75, j_76, j_77, j_78, j_79⟩, by (first | (clear hpz19 hpzz19 hqz19 hqzz19 p_23 p_24 p_25 p_37 p_38 p_39; omega) | (clear hpz19 hpzz19 hqz19 hqzz19; omega) | (clear hpz19 hpzz19 hqz19 p_23 p_24 p_25 p_37 p_38 p_39; omega) | omega), by (first | (clear hpz19 hpzz19 hqz19 hqzz19 p_23 p_24 p_25 p_37 p_38 p_39; omega) | (clear hpz19 hpzz19 hqz19 hqzz19; omega) | (clear hpz19 hpzz19 hqz19 p_23 p_24 p_25 p_37 p_38 p_39; omega) | omega)⟩, j_80, j_81⟩, j_84, by (first | (clear hpz19 hpzz19 hqz19 hqzz19 p_23 p_24 p_25 p_37 p_38 p_39; omega) | (clear hpz19 hpzz19 hqz19 hqzz19; omega) | (clear hpz19 hpzz19 hqz19 p_23 p_24 p_25 p_37 p_38 p_39; omega) | omega)⟩, AN_a j_82⟩, by (first | (clear hpz19 hpzz19 hqz19 hqzz19 p_23 p_24 p_25 p_37 p_38 p_39; omega) | (clear hpz19 hpzz19 hqz19 hqzz19; omega) | (clear hpz19 hpzz19 hqz19 p_23 p_24 p_25 p_37 p_38 p_39; omega) | omega)⟩, j_85⟩, by (first | (clear hpz19 hpzz19 hqz19 hqzz19 p_23 p_24 p_25 p_37 p_38 p_39; omega) | (clear hpz19 hpzz19 hqz19 hqzz19; omega) | (clear hpz19 hpzz19 hqz19 p_23 p_24 p_25 p_37 p_38 p_39; omega) | omega)⟩, j_82⟩, j_83, by (first | (clear hpz19 hpzz19 hqz19 hqzz19 p_23 p_24 p_25 p_37 p_38 p_39; omega) | (clear hpz19 hpzz19 hqz19 hqzz19; omega) | (clear hpz19 hpzz19 hqz19 p_23 p_24 p_25 p_37 p_38 p_39; omega) | omega), by (first | (clear hpz19 hpzz19 hqz19 hqzz19 p_23 p_24 p_25 p_37 p_38 p_39; omega) | (clear hpz19 hpzz19 hqz19 hqzz19; omega) | (clear hpz19 hpzz19 hqz19 p_23 p_24 p_25 p_37 p_38 p_39; omega) | omega)⟩ (by (first | (clear hpz19 hpzz19 hqz19 hqzz19 p_23 p_24 p_25 p_37 p_38 p_39; omega) | (clear hpz19 hpzz19 hqz19 hqzz19; omega) | (clear hpz19 hpzz19 hqz19 p_23 p_24 p_25 p_37 p_38 p_39; omega) | omega)) (by (first | (clear hpz19 hpzz19 hqz19 hqzz19 p_23 p_24 p_25 p_37 p_38 p_39; omega) | (clear hpz19 hpzz19 hqz19 hqzz19; omega) | (clear hpz19 hpzz19 hqz19 p_23 p_24 p_25 p_37 p_38 p_39; omega) | omega))
