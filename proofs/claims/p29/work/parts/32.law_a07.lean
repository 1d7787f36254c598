set_option maxRecDepth 4000 in
set_option maxHeartbeats 0 in
theorem LW_7 {X : mm_X} {d L : Nat} {M : mm_M} {Q : Option Value → mm_M → Prop} {i : Int32} {u5 u6 : Value} (hX : g_X X) (hW : g_W X) (hW2 : g_W2 X) (hL : (X 0).1 = L) (h3 : L ≤ 3072) (hd : 40 ≤ d) (hi : 0 ≤ i.toInt) (hi2 : i.toInt + 6 ≤ (L : Int)) (H : LI10 M) (h : ∀ (M1 : mm_M) (v5 v6 : Value), LI10 M1 → M1.1.2.1 ≤ M.1.2.1 + 1 → M1.1.2.2.1 ≤ M.1.2.2.1 + 6 → mm_T X d 0 1313 [.ref mm_ext, .ref 0, .ref 77, .ref 125, .int i, v5, v6] [] M1 Q) : mm_T X d 0 426 [.ref mm_ext, .ref 0, .ref 77, .ref 125, .int i, u5, u6] [] M Q := by
  obtain ⟨⟨⟨⟨⟨⟨⟨⟨⟨hG, ⟨jPI, jNI, jQI, jPQE⟩, ⟨jFA, jWC, jNJ, jPS, jKQ⟩, jJ, jE⟩, jTP, jW9⟩, jNE, jCC⟩, -⟩, jOV⟩, jW8⟩, jNN⟩, jAN⟩, jG8, jPKA⟩ := H
  have b_1 := g_b hG (a := 77) (i := 7) (lo := 0) (hi := 500) rfl rfl
  have b_2 := g_b hG (a := 77) (i := 6) (lo := 0) (hi := 500) rfl rfl
  have b_3 := g_b hG (a := 1) (i := 1) (lo := 0) (hi := 500) rfl rfl
  have b_4 := g_b hG (a := 77) (i := 1) (lo := 0) (hi := 500) rfl rfl
  have b_5 := g_b hG (a := 0) (i := 12) (lo := 0) (hi := 30) rfl rfl
  have b_6 := g_b hG (a := 77) (i := 28) (lo := 0) (hi := 30) rfl rfl
  have b_7 := g_b hG (a := 6) (i := 0) (lo := 0) (hi := 150) rfl rfl
  have b_8 := g_b hG (a := 77) (i := 29) (lo := 0) (hi := 150) rfl rfl
  refine to_an (pc := 426) rw_0_426 rfl (to_an (pc := 427) rw_0_427 rfl (to_i (pc := 428) rw_0_428 rfl (to_c (pc := 430) rw_0_430 (x := (1 : Int32)) rfl rfl (s_add (pc := 431) rw_0_431 (A := i.toInt) (B := 1) rfl rfl (by omega) (fun v9 e10 => s_x0 (pc := 432) rw_0_432 hL (A := v9.toInt) rfl (by omega) (by omega) (fun v11 e12 => to_an (pc := 433) rw_0_433 rfl (to_i (pc := 434) rw_0_434 rfl (to_c (pc := 436) rw_0_436 (x := (2 : Int32)) rfl rfl (s_add (pc := 437) rw_0_437 (A := i.toInt) (B := 2) rfl rfl (by omega) (fun v13 e14 => s_x0 (pc := 438) rw_0_438 hL (A := v13.toInt) rfl (by omega) (by omega) (fun v15 e16 => s_v (pc := 439) rw_0_439 (dp0 hd (by decide)) (ls0 := [.ref 0, .int v11, .int v15]) rfl (Nat.le_of_ble_eq_true rfl) (Nat.le_of_ble_eq_true rfl) rfl (to_rc rfl rfl rfl (g_o hG rfl)) rfl ?_)))))))))))
  obtain ⟨pz17, pzz17, qz17, qzz17, hpz17, hpzz17, hqz17, hqzz17, hpqz17⟩ := id jPQE
  obtain ⟨sg, NN, nz, ca, hs1, hs2, hn1, hn2, hn3, hn4, hn5⟩ := AN_u jAN hpqz17
  refine E_116 hX (dp1 hd (by decide)) hG hpz17 hpzz17 hqz17 hqzz17 hpqz17 hs1.1 hW2 (f := v11) (v := v15) (sg := sg) (p := pz17) (pz := pzz17) (q := qz17) (qz := qzz17) (fun r18 M22 hG20 F19 p_21 => ?_)
  have n_23 : M22.1.2.1 = M.1.2.1 ∧ M22.1.2.2.1 = M.1.2.2.1 := by rw [F19.1]; exact ⟨rfl, rfl⟩
  refine s_pop2 (pc := 442) rw_0_442 (to_an (pc := 443) rw_0_443 rfl (to_an (pc := 444) rw_0_444 rfl (to_i (pc := 445) rw_0_445 rfl (to_c (pc := 447) rw_0_447 (x := (1 : Int32)) rfl rfl (s_addk (pc := 448) rw_0_448 (A := i.toInt) (B := 1) rfl rfl (by (first | (clear hpz17 hpzz17 hqz17 hqzz17; omega) | (clear hpz17 hpzz17 hqz17; omega) | omega)) (v := v9) e10 (s_x0k (pc := 449) rw_0_449 hL (A := v9.toInt) rfl (by (first | (clear hpz17 hpzz17 hqz17 hqzz17; omega) | (clear hpz17 hpzz17 hqz17; omega) | omega)) (by (first | (clear hpz17 hpzz17 hqz17 hqzz17; omega) | (clear hpz17 hpzz17 hqz17; omega) | omega)) (v := v11) e12 (to_an (pc := 450) rw_0_450 rfl (to_i (pc := 451) rw_0_451 rfl (to_c (pc := 453) rw_0_453 (x := (2 : Int32)) rfl rfl (s_addk (pc := 454) rw_0_454 (A := i.toInt) (B := 2) rfl rfl (by (first | (clear hpz17 hpzz17 hqz17 hqzz17; omega) | (clear hpz17 hpzz17 hqz17; omega) | omega)) (v := v13) e14 (s_x0k (pc := 455) rw_0_455 hL (A := v13.toInt) rfl (by (first | (clear hpz17 hpzz17 hqz17 hqzz17; omega) | (clear hpz17 hpzz17 hqz17; omega) | omega)) (by (first | (clear hpz17 hpzz17 hqz17 hqzz17; omega) | (clear hpz17 hpzz17 hqz17; omega) | omega)) (v := v15) e16 ?_)))))))))))
  refine s_v (pc := 456) rw_0_456 (dp0 hd (by decide)) (ls0 := [.ref 77, .int v11, .int v15]) rfl (Nat.le_of_ble_eq_true rfl) (Nat.le_of_ble_eq_true rfl) rfl (to_rc rfl rfl rfl (g_o hG20 rfl)) rfl ?_
  have j_29 := (FA_f (tg_347 F19) jFA)
  have j_30 := (PLk_f (tg_101 F19) hs2.1)
  have j_31 := (W8_f (tg_562 F19) jW8)
  refine E_185 hX (dp1 hd (by decide)) hG20 j_29 j_30 j_31 (f := v11) (v := v15) (sg := sg) (fun r32 M36 hG34 F33 p_35 => ?_)
  have n_37 : M36.1.2.1 = M22.1.2.1 ∧ M36.1.2.2.1 = M22.1.2.2.1 := by rw [F33.1]; exact ⟨rfl, rfl⟩
  have z_39 := x_eq_1.mpr (p_21.trans p_35.symm)
  refine s_pop2 (pc := 459) rw_0_459 (to_go (pc := 460) rw_0_460 ?_)
  have c_40 : M36.2.1 77 7 = (M.2.1 77 7) := (F_n F33 (show ¬ (77 = 77 ∧ 7 = 2) by decide) (F_n F19 (show ¬ (77 < 0) by decide) rfl))
  have t_41 : (M36.2.1 77 7).toInt = (M.2.1 77 7).toInt := congrArg Int32.toInt c_40
  have c_42 : M36.2.1 77 6 = (M.2.1 77 6) := (F_n F33 (show ¬ (77 = 77 ∧ 6 = 2) by decide) (F_n F19 (show ¬ (77 < 0) by decide) rfl))
  have t_43 : (M36.2.1 77 6).toInt = (M.2.1 77 6).toInt := congrArg Int32.toInt c_42
  have c_44 : M36.2.1 1 1 = (M.2.1 1 1) := (F_n F33 (show ¬ (1 = 77 ∧ 1 = 2) by decide) (F_n F19 (show ¬ (1 < 0) by decide) rfl))
  have t_45 : (M36.2.1 1 1).toInt = (M.2.1 1 1).toInt := congrArg Int32.toInt c_44
  have c_46 : M36.2.1 77 1 = (M.2.1 77 1) := (F_n F33 (show ¬ (77 = 77 ∧ 1 = 2) by decide) (F_n F19 (show ¬ (77 < 0) by decide) rfl))
  have t_47 : (M36.2.1 77 1).toInt = (M.2.1 77 1).toInt := congrArg Int32.toInt c_46
  have c_48 : M36.2.1 0 12 = (M.2.1 0 12) := (F_n F33 (show ¬ (0 = 77 ∧ 12 = 2) by decide) (F_n F19 (show ¬ (0 < 0) by decide) rfl))
  have t_49 : (M36.2.1 0 12).toInt = (M.2.1 0 12).toInt := congrArg Int32.toInt c_48
  have c_50 : M36.2.1 77 28 = (M.2.1 77 28) := (F_n F33 (show ¬ (77 = 77 ∧ 28 = 2) by decide) (F_n F19 (show ¬ (77 < 0) by decide) rfl))
  have t_51 : (M36.2.1 77 28).toInt = (M.2.1 77 28).toInt := congrArg Int32.toInt c_50
  have c_52 : M36.2.1 17 4 = (M.2.1 17 4) := (F_n F33 (show ¬ (17 = 77 ∧ 4 = 2) by decide) (F_n F19 (show ¬ (17 < 0) by decide) rfl))
  have t_53 : (M36.2.1 17 4).toInt = (M.2.1 17 4).toInt := congrArg Int32.toInt c_52
  have c_54 : M36.2.1 77 41 = (M.2.1 77 41) := (F_n F33 (show ¬ (77 = 77 ∧ 41 = 2) by decide) (F_n F19 (show ¬ (77 < 0) by decide) rfl))
  have t_55 : (M36.2.1 77 41).toInt = (M.2.1 77 41).toInt := congrArg Int32.toInt c_54
  have c_56 : M36.2.1 6 0 = (M.2.1 6 0) := (F_n F33 (show ¬ (6 = 77 ∧ 0 = 2) by decide) (F_n F19 (show ¬ (6 < 0) by decide) rfl))
  have t_57 : (M36.2.1 6 0).toInt = (M.2.1 6 0).toInt := congrArg Int32.toInt c_56
  have c_58 : M36.2.1 77 29 = (M.2.1 77 29) := (F_n F33 (show ¬ (77 = 77 ∧ 29 = 2) by decide) (F_n F19 (show ¬ (77 < 0) by decide) rfl))
  have t_59 : (M36.2.1 77 29).toInt = (M.2.1 77 29).toInt := congrArg Int32.toInt c_58
  have j_60 := (PI_f (tg_548 F33) (PI_f (tg_99 F19) jPI))
  have j_61 := (NI_f (tg_549 F33) (NI_f (tg_98 F19) jNI))
  have j_62 := (QI_f (tg_550 F33) (QI_f (tg_100 F19) jQI))
  have j_63 := (PQE_r F33.2.1 (PQE_r F19.2.1 jPQE))
  have j_64 := (FA_f (tg_551 F33) j_29)
  have j_65 := (WC_f (tg_552 F33) (WC_f (tg_553 F19) jWC))
  have j_66 := (NJ_f (tg_554 F33) (NJ_f (tg_102 F19) jNJ))
  have j_67 := (PS_f (tg_555 F33) (PS_f (tg_556 F19) jPS))
  have j_68 := (KQ_f (tg_557 F33) (KQ_f (tg_452 F19) jKQ))
  have j_69 := (TP_f (tg_558 F33) (TP_f (tg_559 F19) jTP))
  have j_70 := (W9_f (tg_560 F33) (W9_f (tg_46 F19) jW9))
  have j_71 := (AN_F F33 tg_626 (AN_F F19 tg_627 jAN))
  have j_72 := (G8_F F33 (fun a i z => show ¬ (a = 77 ∧ i = 2) by (first | (clear hpz17 hpzz17 hqz17 hqzz17; omega) | (clear hpz17 hpzz17 hqz17; omega) | omega)) (G8_F F19 (fun a i z => show ¬ (a < 0) by (first | (clear hpz17 hpzz17 hqz17 hqzz17; omega) | (clear hpz17 hpzz17 hqz17; omega) | omega)) jG8))
  have j_73 := (PKA_F F33 (fun a i z => show ¬ (a = 77 ∧ i = 2) by (first | (clear hpz17 hpzz17 hqz17 hqzz17; omega) | (clear hpz17 hpzz17 hqz17; omega) | omega)) (PKA_F F19 (fun a i z => show ¬ (a < 0) by (first | (clear hpz17 hpzz17 hqz17 hqzz17; omega) | (clear hpz17 hpzz17 hqz17; omega) | omega)) jPKA))
  have j_74 := (NE_r F33.2.1 (NE_r F19.2.1 jNE))
  have j_75 := (W8_f (tg_561 F33) j_31)
  exact h M36 (u5) (u6) ⟨⟨⟨⟨⟨⟨⟨⟨⟨hG34, ⟨j_60, j_61, j_62, j_63⟩, ⟨j_64, j_65, j_66, j_67, j_68⟩, by (first | (clear hpz17 hpzz17 hqz17 hqzz17; omega) | (clear hpz17 hpzz17 hqz17; omega) | omega), by (first | (clear hpz17 hpzz17 hqz17 hqzz17; omega) | (clear hpz17 hpzz17 hqz17; omega) | omega)⟩, j_69, j_70⟩, j_74, by (first | (clear hpz17 hpzz17 hqz17 hqzz17; omega) | (clear hpz17 hpzz17 hqz17; omega) | omega)⟩, AN_a j_71⟩, by (first | (clear hpz17 hpzz17 hqz17 hqzz17; omega) | (clear hpz17 hpzz17 hqz17; omega) | omega)⟩, j_75⟩, by (first | (clear hpz17 hpzz17 hqz17 hqzz17; omega) | (clear hpz17 hpzz17 hqz17; omega) | omega)⟩, j_71⟩, j_72, j_73⟩ (by (first | (clear hpz17 hpzz17 hqz17 hqzz17; omega) | (clear hpz17 hpzz17 hqz17; omega) | omega)) (by (first | (clear hpz17 hpzz17 hqz17 hqzz17; omega) | (clear hpz17 hpzz17 hqz17; omega) | omega))
