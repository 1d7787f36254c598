set_option maxRecDepth 4000 in
set_option maxHeartbeats 0 in
theorem LW_7 {X : mm_X} {d L : Nat} {M : mm_M} {Q : Option Value → mm_M → Prop} {i : Int32} {u5 u6 : Value} (hX : g_X X) (hW : g_W X) (hW2 : g_W2 X) (hL : (X 0).1 = L) (h3 : L ≤ 3072) (hd : 40 ≤ d) (hi : 0 ≤ i.toInt) (hi2 : i.toInt + 6 ≤ (L : Int)) (H : LI10 M) (h : ∀ (M1 : mm_M) (v5 v6 : Value), LI10 M1 → M1.1.2.1 ≤ M.1.2.1 + 1 → M1.1.2.2.1 ≤ M.1.2.2.1 + 6 → mm_T X d 0 1313 [.ref mm_ext, .ref 0, .ref 77, .ref 125, .int i, v5, v6] [] M1 Q) : mm_T X d 0 426 [.ref mm_ext, .ref 0, .ref 77, .ref 125, .int i, u5, u6] [] M Q := by
  obtain ⟨⟨⟨⟨⟨⟨⟨⟨⟨hG, ⟨jPI, jNI, jQI, jPQE⟩, ⟨jFA, jWC, jNJ, jPS, jKQ⟩, jJ, jE⟩, jTP, jW9⟩, jNE, jCC⟩, -⟩, jOV⟩, jW8⟩, jNN⟩, jAN⟩, jKNA, jDN, jPN⟩ := H
  have b_1 := g_b hG (a := 77) (i := 7) (lo := 0) (hi := 500) rfl rfl
  have b_2 := g_b hG (a := 77) (i := 6) (lo := 0) (hi := 500) rfl rfl
  have b_3 := g_b hG (a := 1) (i := 1) (lo := 0) (hi := 500) rfl rfl
  have b_4 := g_b hG (a := 77) (i := 1) (lo := 0) (hi := 500) rfl rfl
  have b_5 := g_b hG (a := 0) (i := 12) (lo := 0) (hi := 30) rfl rfl
  have b_6 := g_b hG (a := 77) (i := 28) (lo := 0) (hi := 30) rfl rfl
  have b_7 := g_b hG (a := 6) (i := 0) (lo := 0) (hi := 150) rfl rfl
  have b_8 := g_b hG (a := 77) (i := 29) (lo := 0) (hi := 150) rfl rfl
  have b_9 := g_b hG (a := 28) (i := 8) (lo := 0) (hi := 3000) rfl rfl
  have b_10 := g_b hG (a := 77) (i := 43) (lo := 0) (hi := 3000) rfl rfl
  refine to_an (pc := 426) rw_0_426 rfl (to_an (pc := 427) rw_0_427 rfl (to_i (pc := 428) rw_0_428 rfl (to_c (pc := 430) rw_0_430 (x := (1 : Int32)) rfl rfl (s_add (pc := 431) rw_0_431 (A := i.toInt) (B := 1) rfl rfl (by omega) (fun v11 e12 => s_x0 (pc := 432) rw_0_432 hL (A := v11.toInt) rfl (by omega) (by omega) (fun v13 e14 => to_an (pc := 433) rw_0_433 rfl (to_i (pc := 434) rw_0_434 rfl (to_c (pc := 436) rw_0_436 (x := (2 : Int32)) rfl rfl (s_add (pc := 437) rw_0_437 (A := i.toInt) (B := 2) rfl rfl (by omega) (fun v15 e16 => s_x0 (pc := 438) rw_0_438 hL (A := v15.toInt) rfl (by omega) (by omega) (fun v17 e18 => s_v (pc := 439) rw_0_439 (dp0 hd (by decide)) (ls0 := [.ref 0, .int v13, .int v17]) rfl (Nat.le_of_ble_eq_true rfl) (Nat.le_of_ble_eq_true rfl) rfl (to_rc rfl rfl rfl (g_o hG rfl)) rfl ?_)))))))))))
  obtain ⟨pz19, pzz19, qz19, qzz19, hpz19, hpzz19, hqz19, hqzz19, hpqz19⟩ := id jPQE
  obtain ⟨sg, NN, nz, ca, hs1, hs2, hn1, hn2, hn3, hn4, hn5⟩ := AN_u jAN hpqz19
  refine E_116 hX (dp1 hd (by decide)) hG hpz19 hpzz19 hqz19 hqzz19 hpqz19 hs1.1 hW2 (f := v13) (v := v17) (sg := sg) (p := pz19) (pz := pzz19) (q := qz19) (qz := qzz19) (fun r20 M24 hG22 F21 p_23 => ?_)
  have n_25 : M24.1.2.1 = M.1.2.1 ∧ M24.1.2.2.1 = M.1.2.2.1 := by rw [F21.1]; exact ⟨rfl, rfl⟩
  refine s_pop2 (pc := 442) rw_0_442 (to_an (pc := 443) rw_0_443 rfl (to_an (pc := 444) rw_0_444 rfl (to_i (pc := 445) rw_0_445 rfl (to_c (pc := 447) rw_0_447 (x := (1 : Int32)) rfl rfl (s_addk (pc := 448) rw_0_448 (A := i.toInt) (B := 1) rfl rfl (by (first | (clear hpz19 hpzz19 hqz19 hqzz19; omega) | (clear hpz19 hpzz19 hqz19; omega) | omega)) (v := v11) e12 (s_x0k (pc := 449) rw_0_449 hL (A := v11.toInt) rfl (by (first | (clear hpz19 hpzz19 hqz19 hqzz19; omega) | (clear hpz19 hpzz19 hqz19; omega) | omega)) (by (first | (clear hpz19 hpzz19 hqz19 hqzz19; omega) | (clear hpz19 hpzz19 hqz19; omega) | omega)) (v := v13) e14 (to_an (pc := 450) rw_0_450 rfl (to_i (pc := 451) rw_0_451 rfl (to_c (pc := 453) rw_0_453 (x := (2 : Int32)) rfl rfl (s_addk (pc := 454) rw_0_454 (A := i.toInt) (B := 2) rfl rfl (by (first | (clear hpz19 hpzz19 hqz19 hqzz19; omega) | (clear hpz19 hpzz19 hqz19; omega) | omega)) (v := v15) e16 (s_x0k (pc := 455) rw_0_455 hL (A := v15.toInt) rfl (by (first | (clear hpz19 hpzz19 hqz19 hqzz19; omega) | (clear hpz19 hpzz19 hqz19; omega) | omega)) (by (first | (clear hpz19 hpzz19 hqz19 hqzz19; omega) | (clear hpz19 hpzz19 hqz19; omega) | omega)) (v := v17) e18 ?_)))))))))))
  refine s_v (pc := 456) rw_0_456 (dp0 hd (by decide)) (ls0 := [.ref 77, .int v13, .int v17]) rfl (Nat.le_of_ble_eq_true rfl) (Nat.le_of_ble_eq_true rfl) rfl (to_rc rfl rfl rfl (g_o hG22 rfl)) rfl ?_
  have j_31 := (FA_f (tg_299 F21) jFA)
  have j_32 := (PLk_f (tg_101 F21) hs2.1)
  have j_33 := (W8_f (tg_571 F21) jW8)
  refine E_185 hX (dp1 hd (by decide)) hG22 j_31 j_32 j_33 (f := v13) (v := v17) (sg := sg) (fun r34 M38 hG36 F35 p_37 => ?_)
  have n_39 : M38.1.2.1 = M24.1.2.1 ∧ M38.1.2.2.1 = M24.1.2.2.1 := by rw [F35.1]; exact ⟨rfl, rfl⟩
  have z_41 := x_eq_1.mpr (p_23.trans p_37.symm)
  refine s_pop2 (pc := 459) rw_0_459 (to_go (pc := 460) rw_0_460 ?_)
  have c_42 : M38.2.1 77 7 = (M.2.1 77 7) := (F_n F35 (show ¬ (77 = 77 ∧ 7 = 2) by decide) (F_n F21 (show ¬ (77 < 0) by decide) rfl))
  have t_43 : (M38.2.1 77 7).toInt = (M.2.1 77 7).toInt := congrArg Int32.toInt c_42
  have c_44 : M38.2.1 77 6 = (M.2.1 77 6) := (F_n F35 (show ¬ (77 = 77 ∧ 6 = 2) by decide) (F_n F21 (show ¬ (77 < 0) by decide) rfl))
  have t_45 : (M38.2.1 77 6).toInt = (M.2.1 77 6).toInt := congrArg Int32.toInt c_44
  have c_46 : M38.2.1 1 1 = (M.2.1 1 1) := (F_n F35 (show ¬ (1 = 77 ∧ 1 = 2) by decide) (F_n F21 (show ¬ (1 < 0) by decide) rfl))
  have t_47 : (M38.2.1 1 1).toInt = (M.2.1 1 1).toInt := congrArg Int32.toInt c_46
  have c_48 : M38.2.1 77 1 = (M.2.1 77 1) := (F_n F35 (show ¬ (77 = 77 ∧ 1 = 2) by decide) (F_n F21 (show ¬ (77 < 0) by decide) rfl))
  have t_49 : (M38.2.1 77 1).toInt = (M.2.1 77 1).toInt := congrArg Int32.toInt c_48
  have c_50 : M38.2.1 0 12 = (M.2.1 0 12) := (F_n F35 (show ¬ (0 = 77 ∧ 12 = 2) by decide) (F_n F21 (show ¬ (0 < 0) by decide) rfl))
  have t_51 : (M38.2.1 0 12).toInt = (M.2.1 0 12).toInt := congrArg Int32.toInt c_50
  have c_52 : M38.2.1 77 28 = (M.2.1 77 28) := (F_n F35 (show ¬ (77 = 77 ∧ 28 = 2) by decide) (F_n F21 (show ¬ (77 < 0) by decide) rfl))
  have t_53 : (M38.2.1 77 28).toInt = (M.2.1 77 28).toInt := congrArg Int32.toInt c_52
  have c_54 : M38.2.1 17 4 = (M.2.1 17 4) := (F_n F35 (show ¬ (17 = 77 ∧ 4 = 2) by decide) (F_n F21 (show ¬ (17 < 0) by decide) rfl))
  have t_55 : (M38.2.1 17 4).toInt = (M.2.1 17 4).toInt := congrArg Int32.toInt c_54
  have c_56 : M38.2.1 77 41 = (M.2.1 77 41) := (F_n F35 (show ¬ (77 = 77 ∧ 41 = 2) by decide) (F_n F21 (show ¬ (77 < 0) by decide) rfl))
  have t_57 : (M38.2.1 77 41).toInt = (M.2.1 77 41).toInt := congrArg Int32.toInt c_56
  have c_58 : M38.2.1 6 0 = (M.2.1 6 0) := (F_n F35 (show ¬ (6 = 77 ∧ 0 = 2) by decide) (F_n F21 (show ¬ (6 < 0) by decide) rfl))
  have t_59 : (M38.2.1 6 0).toInt = (M.2.1 6 0).toInt := congrArg Int32.toInt c_58
  have c_60 : M38.2.1 77 29 = (M.2.1 77 29) := (F_n F35 (show ¬ (77 = 77 ∧ 29 = 2) by decide) (F_n F21 (show ¬ (77 < 0) by decide) rfl))
  have t_61 : (M38.2.1 77 29).toInt = (M.2.1 77 29).toInt := congrArg Int32.toInt c_60
  have c_62 : M38.2.1 28 8 = (M.2.1 28 8) := (F_n F35 (show ¬ (28 = 77 ∧ 8 = 2) by decide) (F_n F21 (show ¬ (28 < 0) by decide) rfl))
  have t_63 : (M38.2.1 28 8).toInt = (M.2.1 28 8).toInt := congrArg Int32.toInt c_62
  have c_64 : M38.2.1 77 43 = (M.2.1 77 43) := (F_n F35 (show ¬ (77 = 77 ∧ 43 = 2) by decide) (F_n F21 (show ¬ (77 < 0) by decide) rfl))
  have t_65 : (M38.2.1 77 43).toInt = (M.2.1 77 43).toInt := congrArg Int32.toInt c_64
  have c_66 : M38.2.1 28 9 = (M.2.1 28 9) := (F_n F35 (show ¬ (28 = 77 ∧ 9 = 2) by decide) (F_n F21 (show ¬ (28 < 0) by decide) rfl))
  have t_67 : (M38.2.1 28 9).toInt = (M.2.1 28 9).toInt := congrArg Int32.toInt c_66
  have c_68 : M38.2.1 77 42 = (M.2.1 77 42) := (F_n F35 (show ¬ (77 = 77 ∧ 42 = 2) by decide) (F_n F21 (show ¬ (77 < 0) by decide) rfl))
  have t_69 : (M38.2.1 77 42).toInt = (M.2.1 77 42).toInt := congrArg Int32.toInt c_68
  have j_70 := (PI_f (tg_557 F35) (PI_f (tg_99 F21) jPI))
  have j_71 := (NI_f (tg_558 F35) (NI_f (tg_98 F21) jNI))
  have j_72 := (QI_f (tg_559 F35) (QI_f (tg_100 F21) jQI))
  have j_73 := (PQE_r F35.2.1 (PQE_r F21.2.1 jPQE))
  have j_74 := (FA_f (tg_560 F35) j_31)
  have j_75 := (WC_f (tg_561 F35) (WC_f (tg_562 F21) jWC))
  have j_76 := (NJ_f (tg_563 F35) (NJ_f (tg_102 F21) jNJ))
  have j_77 := (PS_f (tg_564 F35) (PS_f (tg_565 F21) jPS))
  have j_78 := (KQ_f (tg_566 F35) (KQ_f (tg_416 F21) jKQ))
  have j_79 := (TP_f (tg_567 F35) (TP_f (tg_568 F21) jTP))
  have j_80 := (W9_f (tg_569 F35) (W9_f (tg_46 F21) jW9))
  have j_81 := (AN_F F35 tg_633 (AN_F F21 tg_634 jAN))
  have j_82 := (KNA_F F35 (fun a i z => show ¬ (a = 77 ∧ i = 2) by (first | (clear hpz19 hpzz19 hqz19 hqzz19; omega) | (clear hpz19 hpzz19 hqz19; omega) | omega)) (KNA_F F21 (fun a i z => show ¬ (a < 0) by (first | (clear hpz19 hpzz19 hqz19 hqzz19; omega) | (clear hpz19 hpzz19 hqz19; omega) | omega)) jKNA))
  have j_83 := (NE_r F35.2.1 (NE_r F21.2.1 jNE))
  have j_84 := (W8_f (tg_570 F35) j_33)
  exact h M38 (u5) (u6) ⟨⟨⟨⟨⟨⟨⟨⟨⟨hG36, ⟨j_70, j_71, j_72, j_73⟩, ⟨j_74, j_75, j_76, j_77, j_78⟩, by (first | (clear hpz19 hpzz19 hqz19 hqzz19; omega) | (clear hpz19 hpzz19 hqz19; omega) | omega), by (first | (clear hpz19 hpzz19 hqz19 hqzz19; omega) | (clear hpz19 hpzz19 hqz19; omega) | omega)⟩, j_79, j_80⟩, j_83, by (first | (clear hpz19 hpzz19 hqz19 hqzz19; omega) | (clear hpz19 hpzz19 hqz19; omega) | omega)⟩, AN_a j_81⟩, by (first | (clear hpz19 hpzz19 hqz19 hqzz19; omega) | (clear hpz19 hpzz19 hqz19; omega) | omega)⟩, j_84⟩, by (first | (clear hpz19 hpzz19 hqz19 hqzz19; omega) | (clear hpz19 hpzz19 hqz19; omega) | omega)⟩, j_81⟩, j_82, by (first | (clear hpz19 hpzz19 hqz19 hqzz19; omega) | (clear hpz19 hpzz19 hqz19; omega) | omega), by (first | (clear hpz19 hpzz19 hqz19 hqzz19; omega) | (clear hpz19 hpzz19 hqz19; omega) | omega)⟩ (by (first | (clear hpz19 hpzz19 hqz19 hqzz19; omega) | (clear hpz19 hpzz19 hqz19; omega) | omega)) (by (first | (clear hpz19 hpzz19 hqz19 hqzz19; omega) | (clear hpz19 hpzz19 hqz19; omega) | omega))
