set_option maxRecDepth 4000 in
set_option maxHeartbeats 0 in
theorem LW_4 {X : mm_X} {d L : Nat} {M : mm_M} {Q : Option Value → mm_M → Prop} {i : Int32} {u5 u6 : Value} (hX : g_X X) (hW : g_W X) (hW2 : g_W2 X) (hL : (X 0).1 = L) (h3 : L ≤ 3072) (hd : 40 ≤ d) (hi : 0 ≤ i.toInt) (hi2 : i.toInt + 6 ≤ (L : Int)) (H : LI10 M) (h : ∀ (M1 : mm_M) (v5 v6 : Value), LI10 M1 → M1.1.2.1 ≤ M.1.2.1 + 1 → M1.1.2.2.1 ≤ M.1.2.2.1 + 6 → mm_T X d 0 1313 [.ref mm_ext, .ref 0, .ref 77, .ref 125, .int i, v5, v6] [] M1 Q) : mm_T X d 0 324 [.ref mm_ext, .ref 0, .ref 77, .ref 125, .int i, u5, u6] [] M Q := by
  obtain ⟨⟨⟨⟨⟨⟨⟨⟨⟨hG, ⟨jPI, jNI, jQI, jPQE⟩, ⟨jFA, jWC, jNJ, jPS, jKQ⟩, jJ, jE⟩, jTP, jW9⟩, jNE, jCC⟩, -⟩, jOV⟩, jW8⟩, jNN⟩, jAN⟩, jFF, jFP⟩ := H
  have b_1 := g_b hG (a := 77) (i := 7) (lo := 0) (hi := 500) rfl rfl
  have b_2 := g_b hG (a := 77) (i := 6) (lo := 0) (hi := 500) rfl rfl
  have b_3 := g_b hG (a := 1) (i := 1) (lo := 0) (hi := 500) rfl rfl
  have b_4 := g_b hG (a := 77) (i := 1) (lo := 0) (hi := 500) rfl rfl
  have b_5 := g_b hG (a := 0) (i := 12) (lo := 0) (hi := 30) rfl rfl
  have b_6 := g_b hG (a := 77) (i := 28) (lo := 0) (hi := 30) rfl rfl
  have b_7 := g_b hG (a := 6) (i := 0) (lo := 0) (hi := 150) rfl rfl
  have b_8 := g_b hG (a := 77) (i := 29) (lo := 0) (hi := 150) rfl rfl
  refine to_an (pc := 324) rw_0_324 rfl (to_an (pc := 325) rw_0_325 rfl (to_i (pc := 326) rw_0_326 rfl (to_c (pc := 328) rw_0_328 (x := (1 : Int32)) rfl rfl (s_add (pc := 329) rw_0_329 (A := i.toInt) (B := 1) rfl rfl (by omega) (fun v9 e10 => s_x0 (pc := 330) rw_0_330 hL (A := v9.toInt) rfl (by omega) (by omega) (fun v11 e12 => s_v (pc := 331) rw_0_331 (dp0 hd (by decide)) (ls0 := [.ref 0, .int v11]) rfl (Nat.le_of_ble_eq_true rfl) (Nat.le_of_ble_eq_true rfl) rfl (to_rc rfl rfl rfl (g_o hG rfl)) rfl ?_))))))
  obtain ⟨pz13, pzz13, qz13, qzz13, hpz13, hpzz13, hqz13, hqzz13, hpqz13⟩ := id jPQE
  refine E_114 hX (dp1 hd (by decide)) hG hpz13 hpzz13 hqz13 hqzz13 hpqz13 (w := v11) (p := pz13) (pz := pzz13) (q := qz13) (qz := qzz13) (fun r14 M20 hG16 F15 p_17 p_18 p_19 => ?_)
  have n_21 : M20.1.2.1 = M.1.2.1 ∧ M20.1.2.2.1 = M.1.2.2.1 := by rw [F15.1]; exact ⟨rfl, rfl⟩
  have c_23 : M20.2.1 1 10 = (M.2.1 1 10) := (F_n F15 (show ¬ (1 < 0) by decide) rfl)
  have t_24 : (M20.2.1 1 10).toInt = (M.2.1 1 10).toInt := congrArg Int32.toInt c_23
  have c_25 : M20.2.1 1 11 = (M.2.1 1 11) := (F_n F15 (show ¬ (1 < 0) by decide) rfl)
  have t_26 : (M20.2.1 1 11).toInt = (M.2.1 1 11).toInt := congrArg Int32.toInt c_25
  refine to_an (pc := 334) rw_0_334 rfl (to_an (pc := 335) rw_0_335 rfl (to_i (pc := 336) rw_0_336 rfl (to_c (pc := 338) rw_0_338 (x := (1 : Int32)) rfl rfl (s_addk (pc := 339) rw_0_339 (A := i.toInt) (B := 1) rfl rfl (by (first | (clear hpz13 hpzz13 hqz13 hqzz13 p_17 p_18 p_19; omega) | (clear hpz13 hpzz13 hqz13 hqzz13 p_19; omega) | (clear hpz13 hpzz13 hqz13 hqzz13; omega) | (clear hpz13 hpzz13 hqz13 p_17 p_18 p_19; omega) | omega)) (v := v9) e10 (s_x0k (pc := 340) rw_0_340 hL (A := v9.toInt) rfl (by (first | (clear hpz13 hpzz13 hqz13 hqzz13 p_17 p_18 p_19; omega) | (clear hpz13 hpzz13 hqz13 hqzz13 p_19; omega) | (clear hpz13 hpzz13 hqz13 hqzz13; omega) | (clear hpz13 hpzz13 hqz13 p_17 p_18 p_19; omega) | omega)) (by (first | (clear hpz13 hpzz13 hqz13 hqzz13 p_17 p_18 p_19; omega) | (clear hpz13 hpzz13 hqz13 hqzz13 p_19; omega) | (clear hpz13 hpzz13 hqz13 hqzz13; omega) | (clear hpz13 hpzz13 hqz13 p_17 p_18 p_19; omega) | omega)) (v := v11) e12 (s_v (pc := 341) rw_0_341 (dp0 hd (by decide)) (ls0 := [.ref 77, .int v11]) rfl (Nat.le_of_ble_eq_true rfl) (Nat.le_of_ble_eq_true rfl) rfl (to_rc rfl rfl rfl (g_o hG16 rfl)) rfl ?_))))))
  have c_29 : M20.2.1 77 4 = (M.2.1 77 4) := (F_n F15 (show ¬ (77 < 0) by decide) rfl)
  have t_30 : (M20.2.1 77 4).toInt = (M.2.1 77 4).toInt := congrArg Int32.toInt c_29
  have c_31 : M20.2.1 77 5 = (M.2.1 77 5) := (F_n F15 (show ¬ (77 < 0) by decide) rfl)
  have t_32 : (M20.2.1 77 5).toInt = (M.2.1 77 5).toInt := congrArg Int32.toInt c_31
  refine E_174 hX (dp1 hd (by decide)) hG16 (w := v11) (fun r33 M39 hG35 F34 p_36 p_37 p_38 => ?_)
  have n_40 : M39.1.2.1 = M20.1.2.1 ∧ M39.1.2.2.1 = M20.1.2.2.1 := by rw [F34.1]; exact ⟨rfl, rfl⟩
  have c_42 : M39.2.1 77 4 = (M.2.1 77 4) := (F_n F34 (show ¬ (77 = 77 ∧ 4 = 2) by decide) c_29)
  have t_43 : (M39.2.1 77 4).toInt = (M.2.1 77 4).toInt := congrArg Int32.toInt c_42
  have c_44 : M39.2.1 77 5 = (M.2.1 77 5) := (F_n F34 (show ¬ (77 = 77 ∧ 5 = 2) by decide) c_31)
  have t_45 : (M39.2.1 77 5).toInt = (M.2.1 77 5).toInt := congrArg Int32.toInt c_44
  refine b_ceq (pc := 344) rw_0_344 (A := r14.toInt) (B := r33.toInt) rfl rfl (fun h46 => ?_) (fun h46 => ?_)
  · have c_47 : M39.2.1 77 7 = (M.2.1 77 7) := (F_n F34 (show ¬ (77 = 77 ∧ 7 = 2) by decide) (F_n F15 (show ¬ (77 < 0) by decide) rfl))
    have t_48 : (M39.2.1 77 7).toInt = (M.2.1 77 7).toInt := congrArg Int32.toInt c_47
    have c_49 : M39.2.1 77 6 = (M.2.1 77 6) := (F_n F34 (show ¬ (77 = 77 ∧ 6 = 2) by decide) (F_n F15 (show ¬ (77 < 0) by decide) rfl))
    have t_50 : (M39.2.1 77 6).toInt = (M.2.1 77 6).toInt := congrArg Int32.toInt c_49
    have c_51 : M39.2.1 1 1 = (M.2.1 1 1) := (F_n F34 (show ¬ (1 = 77 ∧ 1 = 2) by decide) (F_n F15 (show ¬ (1 < 0) by decide) rfl))
    have t_52 : (M39.2.1 1 1).toInt = (M.2.1 1 1).toInt := congrArg Int32.toInt c_51
    have c_53 : M39.2.1 77 1 = (M.2.1 77 1) := (F_n F34 (show ¬ (77 = 77 ∧ 1 = 2) by decide) (F_n F15 (show ¬ (77 < 0) by decide) rfl))
    have t_54 : (M39.2.1 77 1).toInt = (M.2.1 77 1).toInt := congrArg Int32.toInt c_53
    have c_55 : M39.2.1 0 12 = (M.2.1 0 12) := (F_n F34 (show ¬ (0 = 77 ∧ 12 = 2) by decide) (F_n F15 (show ¬ (0 < 0) by decide) rfl))
    have t_56 : (M39.2.1 0 12).toInt = (M.2.1 0 12).toInt := congrArg Int32.toInt c_55
    have c_57 : M39.2.1 77 28 = (M.2.1 77 28) := (F_n F34 (show ¬ (77 = 77 ∧ 28 = 2) by decide) (F_n F15 (show ¬ (77 < 0) by decide) rfl))
    have t_58 : (M39.2.1 77 28).toInt = (M.2.1 77 28).toInt := congrArg Int32.toInt c_57
    have c_59 : M39.2.1 17 4 = (M.2.1 17 4) := (F_n F34 (show ¬ (17 = 77 ∧ 4 = 2) by decide) (F_n F15 (show ¬ (17 < 0) by decide) rfl))
    have t_60 : (M39.2.1 17 4).toInt = (M.2.1 17 4).toInt := congrArg Int32.toInt c_59
    have c_61 : M39.2.1 77 41 = (M.2.1 77 41) := (F_n F34 (show ¬ (77 = 77 ∧ 41 = 2) by decide) (F_n F15 (show ¬ (77 < 0) by decide) rfl))
    have t_62 : (M39.2.1 77 41).toInt = (M.2.1 77 41).toInt := congrArg Int32.toInt c_61
    have c_63 : M39.2.1 6 0 = (M.2.1 6 0) := (F_n F34 (show ¬ (6 = 77 ∧ 0 = 2) by decide) (F_n F15 (show ¬ (6 < 0) by decide) rfl))
    have t_64 : (M39.2.1 6 0).toInt = (M.2.1 6 0).toInt := congrArg Int32.toInt c_63
    have c_65 : M39.2.1 77 29 = (M.2.1 77 29) := (F_n F34 (show ¬ (77 = 77 ∧ 29 = 2) by decide) (F_n F15 (show ¬ (77 < 0) by decide) rfl))
    have t_66 : (M39.2.1 77 29).toInt = (M.2.1 77 29).toInt := congrArg Int32.toInt c_65
    have c_67 : M39.2.1 1 10 = (M.2.1 1 10) := (F_n F34 (show ¬ (1 = 77 ∧ 10 = 2) by decide) c_23)
    have t_68 : (M39.2.1 1 10).toInt = (M.2.1 1 10).toInt := congrArg Int32.toInt c_67
    have c_69 : M39.2.1 1 11 = (M.2.1 1 11) := (F_n F34 (show ¬ (1 = 77 ∧ 11 = 2) by decide) c_25)
    have t_70 : (M39.2.1 1 11).toInt = (M.2.1 1 11).toInt := congrArg Int32.toInt c_69
    have j_71 := (PI_f (tg_565 F34) (PI_f (tg_99 F15) jPI))
    have j_72 := (NI_f (tg_566 F34) (NI_f (tg_98 F15) jNI))
    have j_73 := (QI_f (tg_567 F34) (QI_f (tg_100 F15) jQI))
    have j_74 := (PQE_r F34.2.1 (PQE_r F15.2.1 jPQE))
    have j_75 := (FA_f (tg_568 F34) (FA_f (tg_307 F15) jFA))
    have j_76 := (WC_f (tg_569 F34) (WC_f (tg_570 F15) jWC))
    have j_77 := (NJ_f (tg_571 F34) (NJ_f (tg_102 F15) jNJ))
    have j_78 := (PS_f (tg_572 F34) (PS_f (tg_573 F15) jPS))
    have j_79 := (KQ_f (tg_574 F34) (KQ_f (tg_424 F15) jKQ))
    have j_80 := (TP_f (tg_575 F34) (TP_f (tg_576 F15) jTP))
    have j_81 := (W9_f (tg_577 F34) (W9_f (tg_43 F15) jW9))
    have j_82 := (AN_F F34 tg_641 (AN_F F15 tg_642 jAN))
    have j_83 := (NE_r F34.2.1 (NE_r F15.2.1 jNE))
    have j_84 := (W8_f (tg_578 F34) (W8_f (tg_579 F15) jW8))
    exact h M39 (u5) (u6) ⟨⟨⟨⟨⟨⟨⟨⟨⟨hG35, ⟨j_71, j_72, j_73, j_74⟩, ⟨j_75, j_76, j_77, j_78, j_79⟩, by (first | (clear hpz13 hpzz13 hqz13 hqzz13 p_17 p_18 p_19 p_36 p_37 p_38; omega) | (clear hpz13 hpzz13 hqz13 hqzz13 p_19 p_38; omega) | (clear hpz13 hpzz13 hqz13 hqzz13; omega) | (clear hpz13 hpzz13 hqz13 p_17 p_18 p_19 p_36 p_37 p_38; omega) | omega), by (first | (clear hpz13 hpzz13 hqz13 hqzz13 p_17 p_18 p_19 p_36 p_37 p_38; omega) | (clear hpz13 hpzz13 hqz13 hqzz13 p_19 p_38; omega) | (clear hpz13 hpzz13 hqz13 hqzz13; omega) | (clear hpz13 hpzz13 hqz13 p_17 p_18 p_19 p_36 p_37 p_38; omega) | omega)⟩, j_80, j_81⟩, j_83, by (first | (clear hpz13 hpzz13 hqz13 hqzz13 p_17 p_18 p_19 p_36 p_37 p_38; omega) | (clear hpz13 hpzz13 hqz13 hqzz13 p_19 p_38; omega) | (clear hpz13 hpzz13 hqz13 hqzz13; omega) | (clear hpz13 hpzz13 hqz13 p_17 p_18 p_19 p_36 p_37 p_38; omega) | omega)⟩, AN_a j_82⟩, by (first | (clear hpz13 hpzz13 hqz13 hqzz13 p_17 p_18 p_19 p_36 p_37 p_38; omega) | (clear hpz13 hpzz13 hqz13 hqzz13 p_19 p_38; omega) | (clear hpz13 hpzz13 hqz13 hqzz13; omega) | (clear hpz13 hpzz13 hqz13 p_17 p_18 p_19 p_36 p_37 p_38; omega) | omega)⟩, j_84⟩, by (first | (clear hpz13 hpzz13 hqz13 hqzz13 p_17 p_18 p_19 p_36 p_37 p_38; omega) | (clear hpz13 hpzz13 hqz13 hqzz13 p_19 p_38; omega) | (clear hpz13 hpzz13 hqz13 hqzz13; omega) | (clear hpz13 hpzz13 hqz13 p_17 p_18 p_19 p_36 p_37 p_38; omega) | omega)⟩, j_82⟩, by (first | (clear hpz13 hpzz13 hqz13 hqzz13 p_17 p_18 p_19 p_36 p_37 p_38; omega) | (clear hpz13 hpzz13 hqz13 hqzz13 p_19 p_38; omega) | (clear hpz13 hpzz13 hqz13 hqzz13; omega) | (clear hpz13 hpzz13 hqz13 p_17 p_18 p_19 p_36 p_37 p_38; omega) | omega), by (first | (clear hpz13 hpzz13 hqz13 hqzz13 p_17 p_18 p_19 p_36 p_37 p_38; omega) | (clear hpz13 hpzz13 hqz13 hqzz13 p_19 p_38; omega) | (clear hpz13 hpzz13 hqz13 hqzz13; omega) | (clear hpz13 hpzz13 hqz13 p_17 p_18 p_19 p_36 p_37 p_38; omega) | omega)⟩ (by (first | (clear hpz13 hpzz13 hqz13 hqzz13 p_17 p_18 p_19 p_36 p_37 p_38; omega) | (clear hpz13 hpzz13 hqz13 hqzz13 p_19 p_38; omega) | (clear hpz13 hpzz13 hqz13 hqzz13; omega) | (clear hpz13 hpzz13 hqz13 p_17 p_18 p_19 p_36 p_37 p_38; omega) | omega)) (by (first | (clear hpz13 hpzz13 hqz13 hqzz13 p_17 p_18 p_19 p_36 p_37 p_38; omega) | (clear hpz13 hpzz13 hqz13 hqzz13 p_19 p_38; omega) | (clear hpz13 hpzz13 hqz13 hqzz13; omega) | (clear hpz13 hpzz13 hqz13 p_17 p_18 p_19 p_36 p_37 p_38; omega) | omega))
  · exfalso; omega
