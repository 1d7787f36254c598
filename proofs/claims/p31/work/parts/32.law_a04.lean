set_option maxRecDepth 4000 in
set_option maxHeartbeats 0 in
theorem LW_4 {X : mm_X} {d L : Nat} {M : mm_M} {Q : Option Value → mm_M → Prop} {i : Int32} {u5 u6 : Value} (hX : g_X X) (hW : g_W X) (hW2 : g_W2 X) (hL : (X 0).1 = L) (h3 : L ≤ 3072) (hd : 40 ≤ d) (hi : 0 ≤ i.toInt) (hi2 : i.toInt + 6 ≤ (L : Int)) (H : LI10 M) (h : ∀ (M1 : mm_M) (v5 v6 : Value), LI10 M1 → M1.1.2.1 ≤ M.1.2.1 + 1 → M1.1.2.2.1 ≤ M.1.2.2.1 + 6 → mm_T X d 0 1313 [.ref mm_ext, .ref 0, .ref 77, .ref 125, .int i, v5, v6] [] M1 Q) : mm_T X d 0 324 [.ref mm_ext, .ref 0, .ref 77, .ref 125, .int i, u5, u6] [] M Q := by
  obtain ⟨⟨⟨⟨⟨⟨⟨⟨⟨hG, ⟨jPI, jNI, jQI, jPQE⟩, ⟨jFA, jWC, jNJ, jPS, jKQ⟩, jJ, jE⟩, jTP, jW9⟩, jNE, jCC⟩, -⟩, jOV⟩, jW8⟩, jNN⟩, jAN⟩, jKNA, jDN, jPN⟩ := H
  have b_1 := g_b hG (a := 77) (i := 7) (lo := 0) (hi := 500) rfl rfl
  have b_2 := g_b hG (a := 77) (i := 6) (lo := 0) (hi := 500) rfl rfl
  have b_3 := g_b hG (a := 1) (i := 1) (lo := 0) (hi := 500) rfl rfl
  have b_4 := g_b hG (a := 77) (i := 1) (lo := 0) (hi := 500) rfl rfl
  have b_5 := g_b hG (a := 0) (i := 12) (lo := 0) (hi := 30) rfl rfl
  have b_6 := g_b hG (a := 77) (i := 28) (lo := 0) (hi := 30) rfl rfl
  have b_7 := g_b hG (a := 6) (i := 0) (lo := 0) (hi := 150) rfl rfl
  have b_8 := g_b hG (a := 77) (i := 29) (lo := 0) (hi := 150) rfl rfl
  have b_9 := g_b hG (a := 28) (i := 8) (lo := 0) (hi := 3000) rfl rfl
  have b_10 := g_b hG (a := 77) (i := 43) (lo := 0) (hi := 3000) rfl rfl
  refine to_an (pc := 324) rw_0_324 rfl (to_an (pc := 325) rw_0_325 rfl (to_i (pc := 326) rw_0_326 rfl (to_c (pc := 328) rw_0_328 (x := (1 : Int32)) rfl rfl (s_add (pc := 329) rw_0_329 (A := i.toInt) (B := 1) rfl rfl (by omega) (fun v11 e12 => s_x0 (pc := 330) rw_0_330 hL (A := v11.toInt) rfl (by omega) (by omega) (fun v13 e14 => s_v (pc := 331) rw_0_331 (dp0 hd (by decide)) (ls0 := [.ref 0, .int v13]) rfl (Nat.le_of_ble_eq_true rfl) (Nat.le_of_ble_eq_true rfl) rfl (to_rc rfl rfl rfl (g_o hG rfl)) rfl ?_))))))
  obtain ⟨pz15, pzz15, qz15, qzz15, hpz15, hpzz15, hqz15, hqzz15, hpqz15⟩ := id jPQE
  refine C_114 hX (dp1 hd (by decide)) hG hpz15 hpzz15 hqz15 hqzz15 hpqz15 (w := v13) (p := pz15) (pz := pzz15) (q := qz15) (qz := qzz15) (fun r16 M19 hG18 F17 => ?_)
  have n_20 : M19.1.2.1 = M.1.2.1 ∧ M19.1.2.2.1 = M.1.2.2.1 := by rw [F17.1]; exact ⟨rfl, rfl⟩
  refine to_popi (pc := 334) rw_0_334 (to_an (pc := 335) rw_0_335 rfl (to_an (pc := 336) rw_0_336 rfl (to_i (pc := 337) rw_0_337 rfl (to_c (pc := 339) rw_0_339 (x := (1 : Int32)) rfl rfl (s_addk (pc := 340) rw_0_340 (A := i.toInt) (B := 1) rfl rfl (by (first | (clear hpz15 hpzz15 hqz15 hqzz15; omega) | (clear hpz15 hpzz15 hqz15; omega) | omega)) (v := v11) e12 (s_x0k (pc := 341) rw_0_341 hL (A := v11.toInt) rfl (by (first | (clear hpz15 hpzz15 hqz15 hqzz15; omega) | (clear hpz15 hpzz15 hqz15; omega) | omega)) (by (first | (clear hpz15 hpzz15 hqz15 hqzz15; omega) | (clear hpz15 hpzz15 hqz15; omega) | omega)) (v := v13) e14 (s_v (pc := 342) rw_0_342 (dp0 hd (by decide)) (ls0 := [.ref 77, .int v13]) rfl (Nat.le_of_ble_eq_true rfl) (Nat.le_of_ble_eq_true rfl) rfl (to_rc rfl rfl rfl (g_o hG18 rfl)) rfl (C_174 hX (dp1 hd (by decide)) hG18 (w := v13) (fun r24 M27 hG26 F25 => ?_)))))))))
  have n_28 : M27.1.2.1 = M19.1.2.1 ∧ M27.1.2.2.1 = M19.1.2.2.1 := by rw [F25.1]; exact ⟨rfl, rfl⟩
  refine to_popi (pc := 345) rw_0_345 (to_go (pc := 346) rw_0_346 ?_)
  have c_30 : M27.2.1 77 7 = (M.2.1 77 7) := (F_n F25 (show ¬ (77 = 77 ∧ 7 = 2) by decide) (F_n F17 (show ¬ (77 < 0) by decide) rfl))
  have t_31 : (M27.2.1 77 7).toInt = (M.2.1 77 7).toInt := congrArg Int32.toInt c_30
  have c_32 : M27.2.1 77 6 = (M.2.1 77 6) := (F_n F25 (show ¬ (77 = 77 ∧ 6 = 2) by decide) (F_n F17 (show ¬ (77 < 0) by decide) rfl))
  have t_33 : (M27.2.1 77 6).toInt = (M.2.1 77 6).toInt := congrArg Int32.toInt c_32
  have c_34 : M27.2.1 1 1 = (M.2.1 1 1) := (F_n F25 (show ¬ (1 = 77 ∧ 1 = 2) by decide) (F_n F17 (show ¬ (1 < 0) by decide) rfl))
  have t_35 : (M27.2.1 1 1).toInt = (M.2.1 1 1).toInt := congrArg Int32.toInt c_34
  have c_36 : M27.2.1 77 1 = (M.2.1 77 1) := (F_n F25 (show ¬ (77 = 77 ∧ 1 = 2) by decide) (F_n F17 (show ¬ (77 < 0) by decide) rfl))
  have t_37 : (M27.2.1 77 1).toInt = (M.2.1 77 1).toInt := congrArg Int32.toInt c_36
  have c_38 : M27.2.1 0 12 = (M.2.1 0 12) := (F_n F25 (show ¬ (0 = 77 ∧ 12 = 2) by decide) (F_n F17 (show ¬ (0 < 0) by decide) rfl))
  have t_39 : (M27.2.1 0 12).toInt = (M.2.1 0 12).toInt := congrArg Int32.toInt c_38
  have c_40 : M27.2.1 77 28 = (M.2.1 77 28) := (F_n F25 (show ¬ (77 = 77 ∧ 28 = 2) by decide) (F_n F17 (show ¬ (77 < 0) by decide) rfl))
  have t_41 : (M27.2.1 77 28).toInt = (M.2.1 77 28).toInt := congrArg Int32.toInt c_40
  have c_42 : M27.2.1 17 4 = (M.2.1 17 4) := (F_n F25 (show ¬ (17 = 77 ∧ 4 = 2) by decide) (F_n F17 (show ¬ (17 < 0) by decide) rfl))
  have t_43 : (M27.2.1 17 4).toInt = (M.2.1 17 4).toInt := congrArg Int32.toInt c_42
  have c_44 : M27.2.1 77 41 = (M.2.1 77 41) := (F_n F25 (show ¬ (77 = 77 ∧ 41 = 2) by decide) (F_n F17 (show ¬ (77 < 0) by decide) rfl))
  have t_45 : (M27.2.1 77 41).toInt = (M.2.1 77 41).toInt := congrArg Int32.toInt c_44
  have c_46 : M27.2.1 6 0 = (M.2.1 6 0) := (F_n F25 (show ¬ (6 = 77 ∧ 0 = 2) by decide) (F_n F17 (show ¬ (6 < 0) by decide) rfl))
  have t_47 : (M27.2.1 6 0).toInt = (M.2.1 6 0).toInt := congrArg Int32.toInt c_46
  have c_48 : M27.2.1 77 29 = (M.2.1 77 29) := (F_n F25 (show ¬ (77 = 77 ∧ 29 = 2) by decide) (F_n F17 (show ¬ (77 < 0) by decide) rfl))
  have t_49 : (M27.2.1 77 29).toInt = (M.2.1 77 29).toInt := congrArg Int32.toInt c_48
  have c_50 : M27.2.1 28 8 = (M.2.1 28 8) := (F_n F25 (show ¬ (28 = 77 ∧ 8 = 2) by decide) (F_n F17 (show ¬ (28 < 0) by decide) rfl))
  have t_51 : (M27.2.1 28 8).toInt = (M.2.1 28 8).toInt := congrArg Int32.toInt c_50
  have c_52 : M27.2.1 77 43 = (M.2.1 77 43) := (F_n F25 (show ¬ (77 = 77 ∧ 43 = 2) by decide) (F_n F17 (show ¬ (77 < 0) by decide) rfl))
  have t_53 : (M27.2.1 77 43).toInt = (M.2.1 77 43).toInt := congrArg Int32.toInt c_52
  have c_54 : M27.2.1 28 9 = (M.2.1 28 9) := (F_n F25 (show ¬ (28 = 77 ∧ 9 = 2) by decide) (F_n F17 (show ¬ (28 < 0) by decide) rfl))
  have t_55 : (M27.2.1 28 9).toInt = (M.2.1 28 9).toInt := congrArg Int32.toInt c_54
  have c_56 : M27.2.1 77 42 = (M.2.1 77 42) := (F_n F25 (show ¬ (77 = 77 ∧ 42 = 2) by decide) (F_n F17 (show ¬ (77 < 0) by decide) rfl))
  have t_57 : (M27.2.1 77 42).toInt = (M.2.1 77 42).toInt := congrArg Int32.toInt c_56
  have j_58 := (PI_f (tg_557 F25) (PI_f (tg_99 F17) jPI))
  have j_59 := (NI_f (tg_558 F25) (NI_f (tg_98 F17) jNI))
  have j_60 := (QI_f (tg_559 F25) (QI_f (tg_100 F17) jQI))
  have j_61 := (PQE_r F25.2.1 (PQE_r F17.2.1 jPQE))
  have j_62 := (FA_f (tg_560 F25) (FA_f (tg_299 F17) jFA))
  have j_63 := (WC_f (tg_561 F25) (WC_f (tg_562 F17) jWC))
  have j_64 := (NJ_f (tg_563 F25) (NJ_f (tg_102 F17) jNJ))
  have j_65 := (PS_f (tg_564 F25) (PS_f (tg_565 F17) jPS))
  have j_66 := (KQ_f (tg_566 F25) (KQ_f (tg_416 F17) jKQ))
  have j_67 := (TP_f (tg_567 F25) (TP_f (tg_568 F17) jTP))
  have j_68 := (W9_f (tg_569 F25) (W9_f (tg_46 F17) jW9))
  have j_69 := (AN_F F25 tg_633 (AN_F F17 tg_634 jAN))
  have j_70 := (KNA_F F25 (fun a i z => show ¬ (a = 77 ∧ i = 2) by (first | (clear hpz15 hpzz15 hqz15 hqzz15; omega) | (clear hpz15 hpzz15 hqz15; omega) | omega)) (KNA_F F17 (fun a i z => show ¬ (a < 0) by (first | (clear hpz15 hpzz15 hqz15 hqzz15; omega) | (clear hpz15 hpzz15 hqz15; omega) | omega)) jKNA))
  have j_71 := (NE_r F25.2.1 (NE_r F17.2.1 jNE))
  have j_72 := (W8_f (tg_570 F25) (W8_f (tg_571 F17) jW8))
  exact h M27 (u5) (u6) ⟨⟨⟨⟨⟨⟨⟨⟨⟨hG26, ⟨j_58, j_59, j_60, j_61⟩, ⟨j_62, j_63, j_64, j_65, j_66⟩, by (first | (clear hpz15 hpzz15 hqz15 hqzz15; omega) | (clear hpz15 hpzz15 hqz15; omega) | omega), by (first | (clear hpz15 hpzz15 hqz15 hqzz15; omega) | (clear hpz15 hpzz15 hqz15; omega) | omega)⟩, j_67, j_68⟩, j_71, by (first | (clear hpz15 hpzz15 hqz15 hqzz15; omega) | (clear hpz15 hpzz15 hqz15; omega) | omega)⟩, AN_a j_69⟩, by (first | (clear hpz15 hpzz15 hqz15 hqzz15; omega) | (clear hpz15 hpzz15 hqz15; omega) | omega)⟩, j_72⟩, by (first | (clear hpz15 hpzz15 hqz15 hqzz15; omega) | (clear hpz15 hpzz15 hqz15; omega) | omega)⟩, j_69⟩, j_70, by (first | (clear hpz15 hpzz15 hqz15 hqzz15; omega) | (clear hpz15 hpzz15 hqz15; omega) | omega), by (first | (clear hpz15 hpzz15 hqz15 hqzz15; omega) | (clear hpz15 hpzz15 hqz15; omega) | omega)⟩ (by (first | (clear hpz15 hpzz15 hqz15 hqzz15; omega) | (clear hpz15 hpzz15 hqz15; omega) | omega)) (by (first | (clear hpz15 hpzz15 hqz15 hqzz15; omega) | (clear hpz15 hpzz15 hqz15; omega) | omega))
