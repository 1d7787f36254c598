set_option maxRecDepth 4000 in
set_option maxHeartbeats 0 in
theorem LW_8 {X : mm_X} {d L : Nat} {M : mm_M} {Q : Option Value → mm_M → Prop} {i : Int32} {u5 u6 : Value} (hX : g_X X) (hW : g_W X) (hW2 : g_W2 X) (hL : (X 0).1 = L) (h3 : L ≤ 3072) (hd : 40 ≤ d) (hi : 0 ≤ i.toInt) (hi2 : i.toInt + 6 ≤ (L : Int)) (H : LI10 M) (h : ∀ (M1 : mm_M) (v5 v6 : Value), LI10 M1 → M1.1.2.1 ≤ M.1.2.1 + 1 → M1.1.2.2.1 ≤ M.1.2.2.1 + 6 → mm_T X d 0 1313 [.ref mm_ext, .ref 0, .ref 77, .ref 125, .int i, v5, v6] [] M1 Q) : mm_T X d 0 463 [.ref mm_ext, .ref 0, .ref 77, .ref 125, .int i, u5, u6] [] M Q := by
  obtain ⟨⟨⟨⟨⟨⟨⟨⟨⟨hG, ⟨jPI, jNI, jQI, jPQE⟩, ⟨jFA, jWC, jNJ, jPS, jKQ⟩, jJ, jE⟩, jTP, jW9⟩, jNE, jCC⟩, -⟩, jOV⟩, jW8⟩, jNN⟩, jAN⟩, jG8, jPKA⟩ := H
  have b_1 := g_b hG (a := 77) (i := 7) (lo := 0) (hi := 500) rfl rfl
  have b_2 := g_b hG (a := 77) (i := 6) (lo := 0) (hi := 500) rfl rfl
  have b_3 := g_b hG (a := 1) (i := 1) (lo := 0) (hi := 500) rfl rfl
  have b_4 := g_b hG (a := 77) (i := 1) (lo := 0) (hi := 500) rfl rfl
  have b_5 := g_b hG (a := 0) (i := 12) (lo := 0) (hi := 30) rfl rfl
  have b_6 := g_b hG (a := 77) (i := 28) (lo := 0) (hi := 30) rfl rfl
  have b_7 := g_b hG (a := 6) (i := 0) (lo := 0) (hi := 150) rfl rfl
  have b_8 := g_b hG (a := 77) (i := 29) (lo := 0) (hi := 150) rfl rfl
  refine to_an (pc := 463) rw_0_463 rfl (to_an (pc := 464) rw_0_464 rfl (to_i (pc := 465) rw_0_465 rfl (to_c (pc := 467) rw_0_467 (x := (1 : Int32)) rfl rfl (s_add (pc := 468) rw_0_468 (A := i.toInt) (B := 1) rfl rfl (by omega) (fun v9 e10 => s_x0 (pc := 469) rw_0_469 hL (A := v9.toInt) rfl (by omega) (by omega) (fun v11 e12 => to_an (pc := 470) rw_0_470 rfl (to_i (pc := 471) rw_0_471 rfl (to_c (pc := 473) rw_0_473 (x := (2 : Int32)) rfl rfl (s_add (pc := 474) rw_0_474 (A := i.toInt) (B := 2) rfl rfl (by omega) (fun v13 e14 => s_x0 (pc := 475) rw_0_475 hL (A := v13.toInt) rfl (by omega) (by omega) (fun v15 e16 => s_v (pc := 476) rw_0_476 (dp0 hd (by decide)) (ls0 := [.ref 0, .int v11, .int v15]) rfl (Nat.le_of_ble_eq_true rfl) (Nat.le_of_ble_eq_true rfl) rfl (to_rc rfl rfl rfl (g_o hG rfl)) rfl ?_)))))))))))
  obtain ⟨pz17, pzz17, qz17, qzz17, hpz17, hpzz17, hqz17, hqzz17, hpqz17⟩ := id jPQE
  obtain ⟨sg, NN, nz, ca, hs1, hs2, hn1, hn2, hn3, hn4, hn5⟩ := AN_u jAN hpqz17
  refine E_117 hX (dp1 hd (by decide)) hG hpz17 hpzz17 hqz17 hqzz17 hpqz17 hs1.1 hs1.2 hW2 hn1 hn3 (by (first | (clear hpz17 hpzz17 hqz17 hqzz17; omega) | (clear hpz17 hpzz17 hqz17; omega) | omega)) (by (first | (clear hpz17 hpzz17 hqz17 hqzz17; omega) | (clear hpz17 hpzz17 hqz17; omega) | omega)) (by (first | (clear hpz17 hpzz17 hqz17 hqzz17; omega) | (clear hpz17 hpzz17 hqz17; omega) | omega)) (n := v11) (w := v15) (sg := sg) (NN := NN) (nz := nz) (ca := ca) (p := pz17) (pz := pzz17) (q := qz17) (qz := qzz17) (fun r18 M22 hG20 F19 p_21 => ?_)
  have n_23 : M22.1.2.1 = M.1.2.1 ∧ M22.1.2.2.1 = M.1.2.2.1 := by rw [F19.1]; exact ⟨rfl, rfl⟩
  refine s_pop2 (pc := 479) rw_0_479 (to_an (pc := 480) rw_0_480 rfl (to_an (pc := 481) rw_0_481 rfl (to_i (pc := 482) rw_0_482 rfl (to_c (pc := 484) rw_0_484 (x := (1 : Int32)) rfl rfl (s_addk (pc := 485) rw_0_485 (A := i.toInt) (B := 1) rfl rfl (by (first | (clear hpz17 hpzz17 hqz17 hqzz17; omega) | (clear hpz17 hpzz17 hqz17; omega) | omega)) (v := v9) e10 (s_x0k (pc := 486) rw_0_486 hL (A := v9.toInt) rfl (by (first | (clear hpz17 hpzz17 hqz17 hqzz17; omega) | (clear hpz17 hpzz17 hqz17; omega) | omega)) (by (first | (clear hpz17 hpzz17 hqz17 hqzz17; omega) | (clear hpz17 hpzz17 hqz17; omega) | omega)) (v := v11) e12 (to_an (pc := 487) rw_0_487 rfl (to_i (pc := 488) rw_0_488 rfl (to_c (pc := 490) rw_0_490 (x := (2 : Int32)) rfl rfl (s_addk (pc := 491) rw_0_491 (A := i.toInt) (B := 2) rfl rfl (by (first | (clear hpz17 hpzz17 hqz17 hqzz17; omega) | (clear hpz17 hpzz17 hqz17; omega) | omega)) (v := v13) e14 (s_x0k (pc := 492) rw_0_492 hL (A := v13.toInt) rfl (by (first | (clear hpz17 hpzz17 hqz17 hqzz17; omega) | (clear hpz17 hpzz17 hqz17; omega) | omega)) (by (first | (clear hpz17 hpzz17 hqz17 hqzz17; omega) | (clear hpz17 hpzz17 hqz17; omega) | omega)) (v := v15) e16 ?_)))))))))))
  refine s_v (pc := 493) rw_0_493 (dp0 hd (by decide)) (ls0 := [.ref 77, .int v11, .int v15]) rfl (Nat.le_of_ble_eq_true rfl) (Nat.le_of_ble_eq_true rfl) rfl (to_rc rfl rfl rfl (g_o hG20 rfl)) rfl ?_
  have c_29 : M22.2.1 77 29 = (M.2.1 77 29) := (F_n F19 (show ¬ (11 ≤ 77 ∧ 77 ≤ 16) by decide) rfl)
  have t_30 : (M22.2.1 77 29).toInt = (M.2.1 77 29).toInt := congrArg Int32.toInt c_29
  have c_31 : M22.2.1 77 28 = (M.2.1 77 28) := (F_n F19 (show ¬ (11 ≤ 77 ∧ 77 ≤ 16) by decide) rfl)
  have t_32 : (M22.2.1 77 28).toInt = (M.2.1 77 28).toInt := congrArg Int32.toInt c_31
  have j_33 := (CWk_f (fun k hk9 => F_nl F19 (show ¬ (11 ≤ 87 ∧ 87 ≤ 16) by decide) rfl) hs2.2)
  have j_34 := (FA_f (tg_563 F19) jFA)
  have j_35 := (PLk_f (tg_564 F19) hs2.1)
  have j_36 := (W8_f (tg_565 F19) jW8)
  have j_37 := (NTr_f (tg_566 F19) hn2)
  refine E_192 hX (dp1 hd (by decide)) hG20 hn3 (by (first | (clear hpz17 hpzz17 hqz17 hqzz17; omega) | (clear hpz17 hpzz17 hqz17; omega) | omega)) (by (first | (clear hpz17 hpzz17 hqz17 hqzz17; omega) | (clear hpz17 hpzz17 hqz17; omega) | omega)) (by (first | (clear hpz17 hpzz17 hqz17 hqzz17; omega) | (clear hpz17 hpzz17 hqz17; omega) | omega)) j_33 j_34 j_35 j_36 j_37 (n := v11) (w := v15) (sg := sg) (NN := NN) (nz := nz) (ca := ca) (fun r38 M42 hG40 F39 p_41 => ?_)
  have n_43 : M42.1.2.1 = M22.1.2.1 ∧ M42.1.2.2.1 = M22.1.2.2.1 := by rw [F39.1]; exact ⟨rfl, rfl⟩
  have z_45 := x_eq_1.mpr (p_21.trans p_41.symm)
  refine s_pop2 (pc := 496) rw_0_496 (to_go (pc := 497) rw_0_497 ?_)
  have c_46 : M42.2.1 77 7 = (M.2.1 77 7) := (F_n F39 (show ¬ (77 = 77 ∧ 7 = 2 ∨ 94 ≤ 77 ∧ 77 ≤ 98) by decide) (F_n F19 (show ¬ (11 ≤ 77 ∧ 77 ≤ 16) by decide) rfl))
  have t_47 : (M42.2.1 77 7).toInt = (M.2.1 77 7).toInt := congrArg Int32.toInt c_46
  have c_48 : M42.2.1 77 6 = (M.2.1 77 6) := (F_n F39 (show ¬ (77 = 77 ∧ 6 = 2 ∨ 94 ≤ 77 ∧ 77 ≤ 98) by decide) (F_n F19 (show ¬ (11 ≤ 77 ∧ 77 ≤ 16) by decide) rfl))
  have t_49 : (M42.2.1 77 6).toInt = (M.2.1 77 6).toInt := congrArg Int32.toInt c_48
  have c_50 : M42.2.1 1 1 = (M.2.1 1 1) := (F_n F39 (show ¬ (1 = 77 ∧ 1 = 2 ∨ 94 ≤ 1 ∧ 1 ≤ 98) by decide) (F_n F19 (show ¬ (11 ≤ 1 ∧ 1 ≤ 16) by decide) rfl))
  have t_51 : (M42.2.1 1 1).toInt = (M.2.1 1 1).toInt := congrArg Int32.toInt c_50
  have c_52 : M42.2.1 77 1 = (M.2.1 77 1) := (F_n F39 (show ¬ (77 = 77 ∧ 1 = 2 ∨ 94 ≤ 77 ∧ 77 ≤ 98) by decide) (F_n F19 (show ¬ (11 ≤ 77 ∧ 77 ≤ 16) by decide) rfl))
  have t_53 : (M42.2.1 77 1).toInt = (M.2.1 77 1).toInt := congrArg Int32.toInt c_52
  have c_54 : M42.2.1 0 12 = (M.2.1 0 12) := (F_n F39 (show ¬ (0 = 77 ∧ 12 = 2 ∨ 94 ≤ 0 ∧ 0 ≤ 98) by decide) (F_n F19 (show ¬ (11 ≤ 0 ∧ 0 ≤ 16) by decide) rfl))
  have t_55 : (M42.2.1 0 12).toInt = (M.2.1 0 12).toInt := congrArg Int32.toInt c_54
  have c_56 : M42.2.1 77 28 = (M.2.1 77 28) := (F_n F39 (show ¬ (77 = 77 ∧ 28 = 2 ∨ 94 ≤ 77 ∧ 77 ≤ 98) by decide) c_31)
  have t_57 : (M42.2.1 77 28).toInt = (M.2.1 77 28).toInt := congrArg Int32.toInt c_56
  have c_58 : M42.2.1 17 4 = (M.2.1 17 4) := (F_n F39 (show ¬ (17 = 77 ∧ 4 = 2 ∨ 94 ≤ 17 ∧ 17 ≤ 98) by decide) (F_n F19 (show ¬ (11 ≤ 17 ∧ 17 ≤ 16) by decide) rfl))
  have t_59 : (M42.2.1 17 4).toInt = (M.2.1 17 4).toInt := congrArg Int32.toInt c_58
  have c_60 : M42.2.1 77 41 = (M.2.1 77 41) := (F_n F39 (show ¬ (77 = 77 ∧ 41 = 2 ∨ 94 ≤ 77 ∧ 77 ≤ 98) by decide) (F_n F19 (show ¬ (11 ≤ 77 ∧ 77 ≤ 16) by decide) rfl))
  have t_61 : (M42.2.1 77 41).toInt = (M.2.1 77 41).toInt := congrArg Int32.toInt c_60
  have c_62 : M42.2.1 6 0 = (M.2.1 6 0) := (F_n F39 (show ¬ (6 = 77 ∧ 0 = 2 ∨ 94 ≤ 6 ∧ 6 ≤ 98) by decide) (F_n F19 (show ¬ (11 ≤ 6 ∧ 6 ≤ 16) by decide) rfl))
  have t_63 : (M42.2.1 6 0).toInt = (M.2.1 6 0).toInt := congrArg Int32.toInt c_62
  have c_64 : M42.2.1 77 29 = (M.2.1 77 29) := (F_n F39 (show ¬ (77 = 77 ∧ 29 = 2 ∨ 94 ≤ 77 ∧ 77 ≤ 98) by decide) c_29)
  have t_65 : (M42.2.1 77 29).toInt = (M.2.1 77 29).toInt := congrArg Int32.toInt c_64
  have j_66 := (PI_f (tg_567 F39) (PI_f (tg_302 F19) jPI))
  have j_67 := (NI_f (tg_568 F39) (NI_f (tg_258 F19) jNI))
  have j_68 := (QI_f (tg_569 F39) (QI_f (tg_309 F19) jQI))
  have j_69 := (PQE_r F39.2.1 (PQE_r F19.2.1 jPQE))
  have j_70 := (FA_f (tg_570 F39) j_34)
  have j_71 := (WC_f (tg_571 F39) (WC_f (tg_572 F19) jWC))
  have j_72 := (NJ_f (tg_573 F39) (NJ_f (tg_574 F19) jNJ))
  have j_73 := (PS_f (tg_575 F39) (PS_f (tg_576 F19) jPS))
  have j_74 := (KQ_f (tg_577 F39) (KQ_f (tg_578 F19) jKQ))
  have j_75 := (TP_f (tg_579 F39) (TP_f (tg_580 F19) jTP))
  have j_76 := (W9_f (tg_581 F39) (W9_f (tg_582 F19) jW9))
  have j_77 := (AN_F F39 tg_628 (AN_F F19 tg_629 jAN))
  have j_78 := (G8_F F39 (fun a i z => show ¬ (a = 77 ∧ i = 2 ∨ 94 ≤ a ∧ a ≤ 98) by (first | (clear hpz17 hpzz17 hqz17 hqzz17; omega) | (clear hpz17 hpzz17 hqz17; omega) | omega)) (G8_F F19 (fun a i z => show ¬ (11 ≤ a ∧ a ≤ 16) by (first | (clear hpz17 hpzz17 hqz17 hqzz17; omega) | (clear hpz17 hpzz17 hqz17; omega) | omega)) jG8))
  have j_79 := (PKA_F F39 (fun a i z => show ¬ (a = 77 ∧ i = 2 ∨ 94 ≤ a ∧ a ≤ 98) by (first | (clear hpz17 hpzz17 hqz17 hqzz17; omega) | (clear hpz17 hpzz17 hqz17; omega) | omega)) (PKA_F F19 (fun a i z => show ¬ (11 ≤ a ∧ a ≤ 16) by (first | (clear hpz17 hpzz17 hqz17 hqzz17; omega) | (clear hpz17 hpzz17 hqz17; omega) | omega)) jPKA))
  have j_80 := (NE_r F39.2.1 (NE_r F19.2.1 jNE))
  have j_81 := (W8_f (tg_583 F39) j_36)
  exact h M42 (u5) (u6) ⟨⟨⟨⟨⟨⟨⟨⟨⟨hG40, ⟨j_66, j_67, j_68, j_69⟩, ⟨j_70, j_71, j_72, j_73, j_74⟩, by (first | (clear hpz17 hpzz17 hqz17 hqzz17; omega) | (clear hpz17 hpzz17 hqz17; omega) | omega), by (first | (clear hpz17 hpzz17 hqz17 hqzz17; omega) | (clear hpz17 hpzz17 hqz17; omega) | omega)⟩, j_75, j_76⟩, j_80, by (first | (clear hpz17 hpzz17 hqz17 hqzz17; omega) | (clear hpz17 hpzz17 hqz17; omega) | omega)⟩, AN_a j_77⟩, by (first | (clear hpz17 hpzz17 hqz17 hqzz17; omega) | (clear hpz17 hpzz17 hqz17; omega) | omega)⟩, j_81⟩, by (first | (clear hpz17 hpzz17 hqz17 hqzz17; omega) | (clear hpz17 hpzz17 hqz17; omega) | omega)⟩, j_77⟩, j_78, j_79⟩ (by (first | (clear hpz17 hpzz17 hqz17 hqzz17; omega) | (clear hpz17 hpzz17 hqz17; omega) | omega)) (by (first | (clear hpz17 hpzz17 hqz17 hqzz17; omega) | (clear hpz17 hpzz17 hqz17; omega) | omega))
