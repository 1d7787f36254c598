set_option maxRecDepth 4000 in
set_option maxHeartbeats 0 in
theorem LW_2 {X : mm_X} {d L : Nat} {M : mm_M} {Q : Option Value → mm_M → Prop} {i : Int32} {u5 u6 : Value} (hX : g_X X) (hW : g_W X) (hW2 : g_W2 X) (hL : (X 0).1 = L) (h3 : L ≤ 3072) (hd : 40 ≤ d) (hi : 0 ≤ i.toInt) (hi2 : i.toInt + 6 ≤ (L : Int)) (H : LI10 M) (h : ∀ (M1 : mm_M) (v5 v6 : Value), LI10 M1 → M1.1.2.1 ≤ M.1.2.1 + 1 → M1.1.2.2.1 ≤ M.1.2.2.1 + 6 → mm_T X d 0 1313 [.ref mm_ext, .ref 0, .ref 77, .ref 125, .int i, v5, v6] [] M1 Q) : mm_T X d 0 274 [.ref mm_ext, .ref 0, .ref 77, .ref 125, .int i, u5, u6] [] M Q := by
  obtain ⟨⟨⟨⟨⟨⟨⟨⟨⟨hG, ⟨jPI, jNI, jQI, jPQE⟩, ⟨jFA, jWC, jNJ, jPS, jKQ⟩, jJ, jE⟩, jTP, jW9⟩, jNE, jCC⟩, -⟩, jOV⟩, jW8⟩, jNN⟩, jAN⟩, jQAL⟩ := H
  have b_1 := g_b hG (a := 77) (i := 7) (lo := 0) (hi := 500) rfl rfl
  have b_2 := g_b hG (a := 77) (i := 6) (lo := 0) (hi := 500) rfl rfl
  have b_3 := g_b hG (a := 1) (i := 1) (lo := 0) (hi := 500) rfl rfl
  have b_4 := g_b hG (a := 77) (i := 1) (lo := 0) (hi := 500) rfl rfl
  have b_5 := g_b hG (a := 0) (i := 12) (lo := 0) (hi := 30) rfl rfl
  have b_6 := g_b hG (a := 77) (i := 28) (lo := 0) (hi := 30) rfl rfl
  have b_7 := g_b hG (a := 6) (i := 0) (lo := 0) (hi := 150) rfl rfl
  have b_8 := g_b hG (a := 77) (i := 29) (lo := 0) (hi := 150) rfl rfl
  refine to_an (pc := 274) rw_0_274 rfl (to_an (pc := 275) rw_0_275 rfl (to_i (pc := 276) rw_0_276 rfl (to_c (pc := 278) rw_0_278 (x := (1 : Int32)) rfl rfl (s_add (pc := 279) rw_0_279 (A := i.toInt) (B := 1) rfl rfl (by omega) (fun v9 e10 => s_x0 (pc := 280) rw_0_280 hL (A := v9.toInt) rfl (by omega) (by omega) (fun v11 e12 => s_v (pc := 281) rw_0_281 (dp0 hd (by decide)) (ls0 := [.ref 0, .int v11]) rfl (Nat.le_of_ble_eq_true rfl) (Nat.le_of_ble_eq_true rfl) rfl (to_rc rfl rfl rfl (g_o hG rfl)) rfl ?_))))))
  obtain ⟨pz13, pzz13, qz13, qzz13, hpz13, hpzz13, hqz13, hqzz13, hpqz13⟩ := id jPQE
  refine C_112 hX (dp1 hd (by decide)) hG hpz13 hpzz13 hqz13 hqzz13 hpqz13 jNI jPI jQI (n := v11) (p := pz13) (pz := pzz13) (q := qz13) (qz := qzz13) (fun r14 M22 hG16 F15 p_17 p_18 p_19 p_20 p_21 => ?_)
  have n_23 : M22.1.2.1 = M.1.2.1 ∧ M22.1.2.2.1 = M.1.2.2.1 := by rw [F15.1]; exact ⟨rfl, rfl⟩
  have b_25 := g_b hG16 (a := 1) (i := 1) (lo := 0) (hi := 500) rfl rfl
  have z_26 := TP_s jTP (by (first | (clear hpz13 hpzz13 hqz13 hqzz13 p_17 p_18; omega) | (clear hpz13 hpzz13 hqz13 hqzz13; omega) | (clear hpz13 hpzz13 hqz13 p_17 p_18; omega) | omega)) (fun a i z => (F_n F15 (show ¬ (a = 1 ∨ 3 ≤ a ∧ a ≤ 5 ∨ 11 ≤ a ∧ a ≤ 16 ∨ 18 ≤ a ∧ a ≤ 48) by (first | (clear hpz13 hpzz13 hqz13 hqzz13 p_17 p_18; omega) | (clear hpz13 hpzz13 hqz13 hqzz13; omega) | (clear hpz13 hpzz13 hqz13 p_17 p_18; omega) | omega)) rfl))
  refine to_popi (pc := 284) rw_0_284 (to_an (pc := 285) rw_0_285 rfl (to_an (pc := 286) rw_0_286 rfl (to_i (pc := 287) rw_0_287 rfl (to_c (pc := 289) rw_0_289 (x := (1 : Int32)) rfl rfl (s_addk (pc := 290) rw_0_290 (A := i.toInt) (B := 1) rfl rfl (by (first | (clear hpz13 hpzz13 hqz13 hqzz13 p_17 p_18; omega) | (clear hpz13 hpzz13 hqz13 hqzz13; omega) | (clear hpz13 hpzz13 hqz13 p_17 p_18; omega) | omega)) (v := v9) e10 (s_x0k (pc := 291) rw_0_291 hL (A := v9.toInt) rfl (by (first | (clear hpz13 hpzz13 hqz13 hqzz13 p_17 p_18; omega) | (clear hpz13 hpzz13 hqz13 hqzz13; omega) | (clear hpz13 hpzz13 hqz13 p_17 p_18; omega) | omega)) (by (first | (clear hpz13 hpzz13 hqz13 hqzz13 p_17 p_18; omega) | (clear hpz13 hpzz13 hqz13 hqzz13; omega) | (clear hpz13 hpzz13 hqz13 p_17 p_18; omega) | omega)) (v := v11) e12 (s_v (pc := 292) rw_0_292 (dp0 hd (by decide)) (ls0 := [.ref 77, .int v11]) rfl (Nat.le_of_ble_eq_true rfl) (Nat.le_of_ble_eq_true rfl) rfl (to_rc rfl rfl rfl (g_o hG16 rfl)) rfl ?_)))))))
  have c_29 : M22.2.1 77 1 = (M.2.1 77 1) := (F_n F15 (show ¬ (77 = 1 ∨ 3 ≤ 77 ∧ 77 ≤ 5 ∨ 11 ≤ 77 ∧ 77 ≤ 16 ∨ 18 ≤ 77 ∧ 77 ≤ 48) by decide) rfl)
  have t_30 : (M22.2.1 77 1).toInt = (M.2.1 77 1).toInt := congrArg Int32.toInt c_29
  have c_31 : M22.2.1 77 7 = (M.2.1 77 7) := (F_n F15 (show ¬ (77 = 1 ∨ 3 ≤ 77 ∧ 77 ≤ 5 ∨ 11 ≤ 77 ∧ 77 ≤ 16 ∨ 18 ≤ 77 ∧ 77 ≤ 48) by decide) rfl)
  have t_32 : (M22.2.1 77 7).toInt = (M.2.1 77 7).toInt := congrArg Int32.toInt c_31
  have c_33 : M22.2.1 77 6 = (M.2.1 77 6) := (F_n F15 (show ¬ (77 = 1 ∨ 3 ≤ 77 ∧ 77 ≤ 5 ∨ 11 ≤ 77 ∧ 77 ≤ 16 ∨ 18 ≤ 77 ∧ 77 ≤ 48) by decide) rfl)
  have t_34 : (M22.2.1 77 6).toInt = (M.2.1 77 6).toInt := congrArg Int32.toInt c_33
  have j_35 := (FA_f (tg_469 F15) jFA)
  have j_36 := (WC_f (tg_470 F15) jWC)
  have j_37 := (NJ_f (tg_471 F15) jNJ)
  have j_38 := (PS_f (tg_472 F15) jPS)
  have j_39 := (KQ_f (tg_473 F15) jKQ)
  refine C_219 hX (dp1 hd (by decide)) hG16 (by (first | (clear hpz13 hpzz13 hqz13 hqzz13 p_17 p_18; omega) | (clear hpz13 hpzz13 hqz13 hqzz13; omega) | (clear hpz13 hpzz13 hqz13 p_17 p_18; omega) | omega)) j_35 j_36 j_37 j_38 j_39 (n := v11) (fun r40 M51 hG42 F41 p_43 p_44 p_45 p_46 p_47 p_48 p_49 p_50 => ?_)
  have n_52 : M51.1.2.1 = M22.1.2.1 ∧ M51.1.2.2.1 = M22.1.2.2.1 := by rw [F41.1]; exact ⟨rfl, rfl⟩
  have b_54 := g_b hG42 (a := 77) (i := 7) (lo := 0) (hi := 500) rfl rfl
  have b_55 := g_b hG42 (a := 77) (i := 6) (lo := 0) (hi := 500) rfl rfl
  have b_56 := g_b hG42 (a := 77) (i := 1) (lo := 0) (hi := 500) rfl rfl
  refine to_popi (pc := 295) rw_0_295 (to_go (pc := 296) rw_0_296 ?_)
  have c_57 : M51.2.1 1 1 = (M22.2.1 1 1) := (F_n F41 (show ¬ (1 = 77 ∧ (1 ≤ 1 ∧ 1 ≤ 2 ∨ 4 ≤ 1 ∧ 1 ≤ 10 ∨ 42 ≤ 1 ∧ 1 ≤ 44 ∨ 1 = 52) ∨ 94 ≤ 1 ∧ 1 ≤ 111) by decide) rfl)
  have t_58 : (M51.2.1 1 1).toInt = (M22.2.1 1 1).toInt := congrArg Int32.toInt c_57
  have c_59 : M51.2.1 0 12 = (M.2.1 0 12) := (F_n F41 (show ¬ (0 = 77 ∧ (1 ≤ 12 ∧ 12 ≤ 2 ∨ 4 ≤ 12 ∧ 12 ≤ 10 ∨ 42 ≤ 12 ∧ 12 ≤ 44 ∨ 12 = 52) ∨ 94 ≤ 0 ∧ 0 ≤ 111) by decide) (F_n F15 (show ¬ (0 = 1 ∨ 3 ≤ 0 ∧ 0 ≤ 5 ∨ 11 ≤ 0 ∧ 0 ≤ 16 ∨ 18 ≤ 0 ∧ 0 ≤ 48) by decide) rfl))
  have t_60 : (M51.2.1 0 12).toInt = (M.2.1 0 12).toInt := congrArg Int32.toInt c_59
  have c_61 : M51.2.1 77 28 = (M.2.1 77 28) := (F_n F41 (show ¬ (77 = 77 ∧ (1 ≤ 28 ∧ 28 ≤ 2 ∨ 4 ≤ 28 ∧ 28 ≤ 10 ∨ 42 ≤ 28 ∧ 28 ≤ 44 ∨ 28 = 52) ∨ 94 ≤ 77 ∧ 77 ≤ 111) by decide) (F_n F15 (show ¬ (77 = 1 ∨ 3 ≤ 77 ∧ 77 ≤ 5 ∨ 11 ≤ 77 ∧ 77 ≤ 16 ∨ 18 ≤ 77 ∧ 77 ≤ 48) by decide) rfl))
  have t_62 : (M51.2.1 77 28).toInt = (M.2.1 77 28).toInt := congrArg Int32.toInt c_61
  have c_63 : M51.2.1 17 4 = (M.2.1 17 4) := (F_n F41 (show ¬ (17 = 77 ∧ (1 ≤ 4 ∧ 4 ≤ 2 ∨ 4 ≤ 4 ∧ 4 ≤ 10 ∨ 42 ≤ 4 ∧ 4 ≤ 44 ∨ 4 = 52) ∨ 94 ≤ 17 ∧ 17 ≤ 111) by decide) (F_n F15 (show ¬ (17 = 1 ∨ 3 ≤ 17 ∧ 17 ≤ 5 ∨ 11 ≤ 17 ∧ 17 ≤ 16 ∨ 18 ≤ 17 ∧ 17 ≤ 48) by decide) rfl))
  have t_64 : (M51.2.1 17 4).toInt = (M.2.1 17 4).toInt := congrArg Int32.toInt c_63
  have c_65 : M51.2.1 77 41 = (M.2.1 77 41) := (F_n F41 (show ¬ (77 = 77 ∧ (1 ≤ 41 ∧ 41 ≤ 2 ∨ 4 ≤ 41 ∧ 41 ≤ 10 ∨ 42 ≤ 41 ∧ 41 ≤ 44 ∨ 41 = 52) ∨ 94 ≤ 77 ∧ 77 ≤ 111) by decide) (F_n F15 (show ¬ (77 = 1 ∨ 3 ≤ 77 ∧ 77 ≤ 5 ∨ 11 ≤ 77 ∧ 77 ≤ 16 ∨ 18 ≤ 77 ∧ 77 ≤ 48) by decide) rfl))
  have t_66 : (M51.2.1 77 41).toInt = (M.2.1 77 41).toInt := congrArg Int32.toInt c_65
  have c_67 : M51.2.1 6 0 = (M.2.1 6 0) := (F_n F41 (show ¬ (6 = 77 ∧ (1 ≤ 0 ∧ 0 ≤ 2 ∨ 4 ≤ 0 ∧ 0 ≤ 10 ∨ 42 ≤ 0 ∧ 0 ≤ 44 ∨ 0 = 52) ∨ 94 ≤ 6 ∧ 6 ≤ 111) by decide) (F_n F15 (show ¬ (6 = 1 ∨ 3 ≤ 6 ∧ 6 ≤ 5 ∨ 11 ≤ 6 ∧ 6 ≤ 16 ∨ 18 ≤ 6 ∧ 6 ≤ 48) by decide) rfl))
  have t_68 : (M51.2.1 6 0).toInt = (M.2.1 6 0).toInt := congrArg Int32.toInt c_67
  have c_69 : M51.2.1 77 29 = (M.2.1 77 29) := (F_n F41 (show ¬ (77 = 77 ∧ (1 ≤ 29 ∧ 29 ≤ 2 ∨ 4 ≤ 29 ∧ 29 ≤ 10 ∨ 42 ≤ 29 ∧ 29 ≤ 44 ∨ 29 = 52) ∨ 94 ≤ 77 ∧ 77 ≤ 111) by decide) (F_n F15 (show ¬ (77 = 1 ∨ 3 ≤ 77 ∧ 77 ≤ 5 ∨ 11 ≤ 77 ∧ 77 ≤ 16 ∨ 18 ≤ 77 ∧ 77 ≤ 48) by decide) rfl))
  have t_70 : (M51.2.1 77 29).toInt = (M.2.1 77 29).toInt := congrArg Int32.toInt c_69
  have j_71 := (PI_f (tg_474 F41) p_19)
  have j_72 := (NI_f (tg_475 F41) p_20)
  have j_73 := (QI_f (tg_476 F41) p_21)
  have j_74 := (PQE_r F41.2.1 (PQE_r F15.2.1 jPQE))
  have j_75 := (TP_f (tg_477 F41) z_26)
  have j_76 := (W9_f (tg_478 F41) (W9_f (tg_479 F15) jW9))
  have j_77 := (AN_F F41 tg_571 (AN_F F15 tg_572 jAN))
  have j_78 := (QAL_F F41 (fun a i z => show ¬ (a = 77 ∧ (1 ≤ i ∧ i ≤ 2 ∨ 4 ≤ i ∧ i ≤ 10 ∨ 42 ≤ i ∧ i ≤ 44 ∨ i = 52) ∨ 94 ≤ a ∧ a ≤ 111) by (first | (clear hpz13 hpzz13 hqz13 hqzz13 p_17 p_18 p_49 p_50; omega) | (clear hpz13 hpzz13 hqz13 hqzz13; omega) | (clear hpz13 hpzz13 hqz13 p_17 p_18 p_49 p_50; omega) | omega)) (QAL_F F15 (fun a i z => show ¬ (a = 1 ∨ 3 ≤ a ∧ a ≤ 5 ∨ 11 ≤ a ∧ a ≤ 16 ∨ 18 ≤ a ∧ a ≤ 48) by (first | (clear hpz13 hpzz13 hqz13 hqzz13 p_17 p_18 p_49 p_50; omega) | (clear hpz13 hpzz13 hqz13 hqzz13; omega) | (clear hpz13 hpzz13 hqz13 p_17 p_18 p_49 p_50; omega) | omega)) jQAL))
  have j_79 := (NE_r F41.2.1 (NE_r F15.2.1 jNE))
  have j_80 := (W8_f (tg_480 F41) (W8_f (tg_481 F15) jW8))
  exact h M51 (u5) (u6) ⟨⟨⟨⟨⟨⟨⟨⟨⟨hG42, ⟨j_71, j_72, j_73, j_74⟩, ⟨p_44, p_45, p_46, p_47, p_48⟩, by (first | (clear hpz13 hpzz13 hqz13 hqzz13 p_17 p_18 p_49 p_50; omega) | (clear hpz13 hpzz13 hqz13 hqzz13; omega) | (clear hpz13 hpzz13 hqz13 p_17 p_18 p_49 p_50; omega) | omega), by (first | (clear hpz13 hpzz13 hqz13 hqzz13 p_17 p_18 p_49 p_50; omega) | (clear hpz13 hpzz13 hqz13 hqzz13; omega) | (clear hpz13 hpzz13 hqz13 p_17 p_18 p_49 p_50; omega) | omega)⟩, j_75, j_76⟩, j_79, by (first | (clear hpz13 hpzz13 hqz13 hqzz13 p_17 p_18 p_49 p_50; omega) | (clear hpz13 hpzz13 hqz13 hqzz13; omega) | (clear hpz13 hpzz13 hqz13 p_17 p_18 p_49 p_50; omega) | omega)⟩, AN_a j_77⟩, by (first | (clear hpz13 hpzz13 hqz13 hqzz13 p_17 p_18 p_49 p_50; omega) | (clear hpz13 hpzz13 hqz13 hqzz13; omega) | (clear hpz13 hpzz13 hqz13 p_17 p_18 p_49 p_50; omega) | omega)⟩, j_80⟩, by (first | (clear hpz13 hpzz13 hqz13 hqzz13 p_17 p_18 p_49 p_50; omega) | (clear hpz13 hpzz13 hqz13 hqzz13; omega) | (clear hpz13 hpzz13 hqz13 p_17 p_18 p_49 p_50; omega) | omega)⟩, j_77⟩, j_78⟩ (by (first | (clear hpz13 hpzz13 hqz13 hqzz13 p_17 p_18 p_49 p_50; omega) | (clear hpz13 hpzz13 hqz13 hqzz13; omega) | (clear hpz13 hpzz13 hqz13 p_17 p_18 p_49 p_50; omega) | omega)) (by (first | (clear hpz13 hpzz13 hqz13 hqzz13 p_17 p_18 p_49 p_50; omega) | (clear hpz13 hpzz13 hqz13 hqzz13; omega) | (clear hpz13 hpzz13 hqz13 p_17 p_18 p_49 p_50; omega) | omega))
