set_option maxRecDepth 4000 in
set_option maxHeartbeats 0 in
theorem LW_5 {X : mm_X} {d L : Nat} {M : mm_M} {Q : Option Value → mm_M → Prop} {i : Int32} {u5 u6 : Value} (hX : g_X X) (hW : g_W X) (hW2 : g_W2 X) (hL : (X 0).1 = L) (h3 : L ≤ 3072) (hd : 40 ≤ d) (hi : 0 ≤ i.toInt) (hi2 : i.toInt + 6 ≤ (L : Int)) (H : LI10 M) (h : ∀ (M1 : mm_M) (v5 v6 : Value), LI10 M1 → M1.1.2.1 ≤ M.1.2.1 + 1 → M1.1.2.2.1 ≤ M.1.2.2.1 + 6 → mm_T X d 0 1313 [.ref mm_ext, .ref 0, .ref 77, .ref 125, .int i, v5, v6] [] M1 Q) : mm_T X d 0 349 [.ref mm_ext, .ref 0, .ref 77, .ref 125, .int i, u5, u6] [] M Q := by
  obtain ⟨⟨⟨⟨⟨⟨⟨⟨⟨hG, ⟨jPI, jNI, jQI, jPQE⟩, ⟨jFA, jWC, jNJ, jPS, jKQ⟩, jJ, jE⟩, jTP, jW9⟩, jNE, jCC⟩, -⟩, jOV⟩, jW8⟩, jNN⟩, jAN⟩, jG8, jPKA⟩ := H
  have b_1 := g_b hG (a := 77) (i := 7) (lo := 0) (hi := 500) rfl rfl
  have b_2 := g_b hG (a := 77) (i := 6) (lo := 0) (hi := 500) rfl rfl
  have b_3 := g_b hG (a := 1) (i := 1) (lo := 0) (hi := 500) rfl rfl
  have b_4 := g_b hG (a := 77) (i := 1) (lo := 0) (hi := 500) rfl rfl
  have b_5 := g_b hG (a := 0) (i := 12) (lo := 0) (hi := 30) rfl rfl
  have b_6 := g_b hG (a := 77) (i := 28) (lo := 0) (hi := 30) rfl rfl
  have b_7 := g_b hG (a := 6) (i := 0) (lo := 0) (hi := 150) rfl rfl
  have b_8 := g_b hG (a := 77) (i := 29) (lo := 0) (hi := 150) rfl rfl
  refine to_an (pc := 349) rw_0_349 rfl (to_an (pc := 350) rw_0_350 rfl (to_i (pc := 351) rw_0_351 rfl (to_c (pc := 353) rw_0_353 (x := (1 : Int32)) rfl rfl (s_add (pc := 354) rw_0_354 (A := i.toInt) (B := 1) rfl rfl (by omega) (fun v9 e10 => s_x0 (pc := 355) rw_0_355 hL (A := v9.toInt) rfl (by omega) (by omega) (fun v11 e12 => to_an (pc := 356) rw_0_356 rfl (to_i (pc := 357) rw_0_357 rfl (to_c (pc := 359) rw_0_359 (x := (2 : Int32)) rfl rfl (s_add (pc := 360) rw_0_360 (A := i.toInt) (B := 2) rfl rfl (by omega) (fun v13 e14 => s_x0 (pc := 361) rw_0_361 hL (A := v13.toInt) rfl (by omega) (by omega) (fun v15 e16 => s_v (pc := 362) rw_0_362 (dp0 hd (by decide)) (ls0 := [.ref 0, .int v11, .int v15]) rfl (Nat.le_of_ble_eq_true rfl) (Nat.le_of_ble_eq_true rfl) rfl (to_rc rfl rfl rfl (g_o hG rfl)) rfl ?_)))))))))))
  obtain ⟨pz17, pzz17, qz17, qzz17, hpz17, hpzz17, hqz17, hqzz17, hpqz17⟩ := id jPQE
  obtain ⟨sg, NN, nz, ca, hs1, hs2, hn1, hn2, hn3, hn4, hn5⟩ := AN_u jAN hpqz17
  refine E_115 hX (dp1 hd (by decide)) hG hpz17 hpzz17 hqz17 hqzz17 hpqz17 hs1.1 (w := v11) (l := v15) (sg := sg) (p := pz17) (pz := pzz17) (q := qz17) (qz := qzz17) (fun r18 M24 hG20 F19 p_21 p_22 p_23 => ?_)
  have n_25 : M24.1.2.1 = M.1.2.1 ∧ M24.1.2.2.1 = M.1.2.2.1 := by rw [F19.1]; exact ⟨rfl, rfl⟩
  refine to_popi (pc := 365) rw_0_365 (to_an (pc := 366) rw_0_366 rfl (to_an (pc := 367) rw_0_367 rfl (to_i (pc := 368) rw_0_368 rfl (to_c (pc := 370) rw_0_370 (x := (1 : Int32)) rfl rfl (s_addk (pc := 371) rw_0_371 (A := i.toInt) (B := 1) rfl rfl (by (first | (clear hpz17 hpzz17 hqz17 hqzz17 p_21 p_22 p_23; omega) | (clear hpz17 hpzz17 hqz17 hqzz17; omega) | (clear hpz17 hpzz17 hqz17 p_21 p_22 p_23; omega) | omega)) (v := v9) e10 (s_x0k (pc := 372) rw_0_372 hL (A := v9.toInt) rfl (by (first | (clear hpz17 hpzz17 hqz17 hqzz17 p_21 p_22 p_23; omega) | (clear hpz17 hpzz17 hqz17 hqzz17; omega) | (clear hpz17 hpzz17 hqz17 p_21 p_22 p_23; omega) | omega)) (by (first | (clear hpz17 hpzz17 hqz17 hqzz17 p_21 p_22 p_23; omega) | (clear hpz17 hpzz17 hqz17 hqzz17; omega) | (clear hpz17 hpzz17 hqz17 p_21 p_22 p_23; omega) | omega)) (v := v11) e12 (to_an (pc := 373) rw_0_373 rfl (to_i (pc := 374) rw_0_374 rfl (to_c (pc := 376) rw_0_376 (x := (2 : Int32)) rfl rfl (s_addk (pc := 377) rw_0_377 (A := i.toInt) (B := 2) rfl rfl (by (first | (clear hpz17 hpzz17 hqz17 hqzz17 p_21 p_22 p_23; omega) | (clear hpz17 hpzz17 hqz17 hqzz17; omega) | (clear hpz17 hpzz17 hqz17 p_21 p_22 p_23; omega) | omega)) (v := v13) e14 (s_x0k (pc := 378) rw_0_378 hL (A := v13.toInt) rfl (by (first | (clear hpz17 hpzz17 hqz17 hqzz17 p_21 p_22 p_23; omega) | (clear hpz17 hpzz17 hqz17 hqzz17; omega) | (clear hpz17 hpzz17 hqz17 p_21 p_22 p_23; omega) | omega)) (by (first | (clear hpz17 hpzz17 hqz17 hqzz17 p_21 p_22 p_23; omega) | (clear hpz17 hpzz17 hqz17 hqzz17; omega) | (clear hpz17 hpzz17 hqz17 p_21 p_22 p_23; omega) | omega)) (v := v15) e16 ?_)))))))))))
  refine s_v (pc := 379) rw_0_379 (dp0 hd (by decide)) (ls0 := [.ref 77, .int v11, .int v15]) rfl (Nat.le_of_ble_eq_true rfl) (Nat.le_of_ble_eq_true rfl) rfl (to_rc rfl rfl rfl (g_o hG20 rfl)) rfl ?_
  have j_31 := (PLk_f (tg_101 F19) hs2.1)
  refine E_177 hX (dp1 hd (by decide)) hG20 j_31 (w := v11) (l := v15) (sg := sg) (fun r32 M38 hG34 F33 p_35 p_36 p_37 => ?_)
  have n_39 : M38.1.2.1 = M24.1.2.1 ∧ M38.1.2.2.1 = M24.1.2.2.1 := by rw [F33.1]; exact ⟨rfl, rfl⟩
  refine to_popi (pc := 382) rw_0_382 (to_go (pc := 383) rw_0_383 ?_)
  have c_41 : M38.2.1 77 7 = (M.2.1 77 7) := (F_n F33 (show ¬ (77 = 77 ∧ 7 = 2) by decide) (F_n F19 (show ¬ (77 < 0) by decide) rfl))
  have t_42 : (M38.2.1 77 7).toInt = (M.2.1 77 7).toInt := congrArg Int32.toInt c_41
  have c_43 : M38.2.1 77 6 = (M.2.1 77 6) := (F_n F33 (show ¬ (77 = 77 ∧ 6 = 2) by decide) (F_n F19 (show ¬ (77 < 0) by decide) rfl))
  have t_44 : (M38.2.1 77 6).toInt = (M.2.1 77 6).toInt := congrArg Int32.toInt c_43
  have c_45 : M38.2.1 1 1 = (M.2.1 1 1) := (F_n F33 (show ¬ (1 = 77 ∧ 1 = 2) by decide) (F_n F19 (show ¬ (1 < 0) by decide) rfl))
  have t_46 : (M38.2.1 1 1).toInt = (M.2.1 1 1).toInt := congrArg Int32.toInt c_45
  have c_47 : M38.2.1 77 1 = (M.2.1 77 1) := (F_n F33 (show ¬ (77 = 77 ∧ 1 = 2) by decide) (F_n F19 (show ¬ (77 < 0) by decide) rfl))
  have t_48 : (M38.2.1 77 1).toInt = (M.2.1 77 1).toInt := congrArg Int32.toInt c_47
  have c_49 : M38.2.1 0 12 = (M.2.1 0 12) := (F_n F33 (show ¬ (0 = 77 ∧ 12 = 2) by decide) (F_n F19 (show ¬ (0 < 0) by decide) rfl))
  have t_50 : (M38.2.1 0 12).toInt = (M.2.1 0 12).toInt := congrArg Int32.toInt c_49
  have c_51 : M38.2.1 77 28 = (M.2.1 77 28) := (F_n F33 (show ¬ (77 = 77 ∧ 28 = 2) by decide) (F_n F19 (show ¬ (77 < 0) by decide) rfl))
  have t_52 : (M38.2.1 77 28).toInt = (M.2.1 77 28).toInt := congrArg Int32.toInt c_51
  have c_53 : M38.2.1 17 4 = (M.2.1 17 4) := (F_n F33 (show ¬ (17 = 77 ∧ 4 = 2) by decide) (F_n F19 (show ¬ (17 < 0) by decide) rfl))
  have t_54 : (M38.2.1 17 4).toInt = (M.2.1 17 4).toInt := congrArg Int32.toInt c_53
  have c_55 : M38.2.1 77 41 = (M.2.1 77 41) := (F_n F33 (show ¬ (77 = 77 ∧ 41 = 2) by decide) (F_n F19 (show ¬ (77 < 0) by decide) rfl))
  have t_56 : (M38.2.1 77 41).toInt = (M.2.1 77 41).toInt := congrArg Int32.toInt c_55
  have c_57 : M38.2.1 6 0 = (M.2.1 6 0) := (F_n F33 (show ¬ (6 = 77 ∧ 0 = 2) by decide) (F_n F19 (show ¬ (6 < 0) by decide) rfl))
  have t_58 : (M38.2.1 6 0).toInt = (M.2.1 6 0).toInt := congrArg Int32.toInt c_57
  have c_59 : M38.2.1 77 29 = (M.2.1 77 29) := (F_n F33 (show ¬ (77 = 77 ∧ 29 = 2) by decide) (F_n F19 (show ¬ (77 < 0) by decide) rfl))
  have t_60 : (M38.2.1 77 29).toInt = (M.2.1 77 29).toInt := congrArg Int32.toInt c_59
  have j_61 := (PI_f (tg_548 F33) (PI_f (tg_99 F19) jPI))
  have j_62 := (NI_f (tg_549 F33) (NI_f (tg_98 F19) jNI))
  have j_63 := (QI_f (tg_550 F33) (QI_f (tg_100 F19) jQI))
  have j_64 := (PQE_r F33.2.1 (PQE_r F19.2.1 jPQE))
  have j_65 := (FA_f (tg_551 F33) (FA_f (tg_347 F19) jFA))
  have j_66 := (WC_f (tg_552 F33) (WC_f (tg_553 F19) jWC))
  have j_67 := (NJ_f (tg_554 F33) (NJ_f (tg_102 F19) jNJ))
  have j_68 := (PS_f (tg_555 F33) (PS_f (tg_556 F19) jPS))
  have j_69 := (KQ_f (tg_557 F33) (KQ_f (tg_452 F19) jKQ))
  have j_70 := (TP_f (tg_558 F33) (TP_f (tg_559 F19) jTP))
  have j_71 := (W9_f (tg_560 F33) (W9_f (tg_46 F19) jW9))
  have j_72 := (AN_F F33 tg_626 (AN_F F19 tg_627 jAN))
  have j_73 := (G8_F F33 (fun a i z => show ¬ (a = 77 ∧ i = 2) by (first | (clear hpz17 hpzz17 hqz17 hqzz17 p_21 p_22 p_23 p_35 p_36 p_37; omega) | (clear hpz17 hpzz17 hqz17 hqzz17; omega) | (clear hpz17 hpzz17 hqz17 p_21 p_22 p_23 p_35 p_36 p_37; omega) | omega)) (G8_F F19 (fun a i z => show ¬ (a < 0) by (first | (clear hpz17 hpzz17 hqz17 hqzz17 p_21 p_22 p_23 p_35 p_36 p_37; omega) | (clear hpz17 hpzz17 hqz17 hqzz17; omega) | (clear hpz17 hpzz17 hqz17 p_21 p_22 p_23 p_35 p_36 p_37; omega) | omega)) jG8))
  have j_74 := (PKA_F F33 (fun a i z => show ¬ (a = 77 ∧ i = 2) by (first | (clear hpz17 hpzz17 hqz17 hqzz17 p_21 p_22 p_23 p_35 p_36 p_37; omega) | (clear hpz17 hpzz17 hqz17 hqzz17; omega) | (clear hpz17 hpzz17 hqz17 p_21 p_22 p_23 p_35 p_36 p_37; omega) | omega)) (PKA_F F19 (fun a i z => show ¬ (a < 0) by (first | (clear hpz17 hpzz17 hqz17 hqzz17 p_21 p_22 p_23 p_35 p_36 p_37; omega) | (clear hpz17 hpzz17 hqz17 hqzz17; omega) | (clear hpz17 hpzz17 hqz17 p_21 p_22 p_23 p_35 p_36 p_37; omega) | omega)) jPKA))
  have j_75 := (NE_r F33.2.1 (NE_r F19.2.1 jNE))
  have j_76 := (W8_f (tg_561 F33) (W8_f (tg_562 F19) jW8))
  exact h M38 (u5) (u6) ⟨⟨⟨⟨⟨⟨⟨⟨⟨hG34, ⟨j_61, j_62, j_63, j_64⟩, ⟨j_65, j_66, j_67, j_68, j_69⟩, by (first | (clear hpz17 hpzz17 hqz17 hqzz17 p_21 p_22 p_23 p_35 p_36 p_37; omega) | (clear hpz17 hpzz17 hqz17 hqzz17; omega) | (clear hpz17 hpzz17 hqz17 p_21 p_22 p_23 p_35 p_36 p_37; omega) | omega), by (first | (clear hpz17 hpzz17 hqz17 hqzz17 p_21 p_22 p_23 p_35 p_36 p_37; omega) | (clear hpz17 hpzz17 hqz17 hqzz17; omega) | (clear hpz17 hpzz17 hqz17 p_21 p_22 p_23 p_35 p_36 p_37; omega) | omega)⟩, j_70, j_71⟩, j_75, by (first | (clear hpz17 hpzz17 hqz17 hqzz17 p_21 p_22 p_23 p_35 p_36 p_37; omega) | (clear hpz17 hpzz17 hqz17 hqzz17; omega) | (clear hpz17 hpzz17 hqz17 p_21 p_22 p_23 p_35 p_36 p_37; omega) | omega)⟩, AN_a j_72⟩, by (first | (clear hpz17 hpzz17 hqz17 hqzz17 p_21 p_22 p_23 p_35 p_36 p_37; omega) | (clear hpz17 hpzz17 hqz17 hqzz17; omega) | (clear hpz17 hpzz17 hqz17 p_21 p_22 p_23 p_35 p_36 p_37; omega) | omega)⟩, j_76⟩, by (first | (clear hpz17 hpzz17 hqz17 hqzz17 p_21 p_22 p_23 p_35 p_36 p_37; omega) | (clear hpz17 hpzz17 hqz17 hqzz17; omega) | (clear hpz17 hpzz17 hqz17 p_21 p_22 p_23 p_35 p_36 p_37; omega) | omega)⟩, j_72⟩, j_73, j_74⟩ (by (first | (clear hpz17 hpzz17 hqz17 hqzz17 p_21 p_22 p_23 p_35 p_36 p_37; omega) | (clear hpz17 hpzz17 hqz17 hqzz17; omega) | (clear hpz17 hpzz17 hqz17 p_21 p_22 p_23 p_35 p_36 p_37; omega) | omega)) (by (first | (clear hpz17 hpzz17 hqz17 hqzz17 p_21 p_22 p_23 p_35 p_36 p_37; omega) | (clear hpz17 hpzz17 hqz17 hqzz17; omega) | (clear hpz17 hpzz17 hqz17 p_21 p_22 p_23 p_35 p_36 p_37; omega) | omega))
