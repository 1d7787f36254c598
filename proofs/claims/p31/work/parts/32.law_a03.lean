set_option maxRecDepth 4000 in
set_option maxHeartbeats 0 in
theorem LW_3 {X : mm_X} {d L : Nat} {M : mm_M} {Q : Option Value → mm_M → Prop} {i : Int32} {u5 u6 : Value} (hX : g_X X) (hW : g_W X) (hW2 : g_W2 X) (hL : (X 0).1 = L) (h3 : L ≤ 3072) (hd : 40 ≤ d) (hi : 0 ≤ i.toInt) (hi2 : i.toInt + 6 ≤ (L : Int)) (H : LI10 M) (h : ∀ (M1 : mm_M) (v5 v6 : Value), LI10 M1 → M1.1.2.1 ≤ M.1.2.1 + 1 → M1.1.2.2.1 ≤ M.1.2.2.1 + 6 → mm_T X d 0 1313 [.ref mm_ext, .ref 0, .ref 77, .ref 125, .int i, v5, v6] [] M1 Q) : mm_T X d 0 299 [.ref mm_ext, .ref 0, .ref 77, .ref 125, .int i, u5, u6] [] M Q := by
  obtain ⟨⟨⟨⟨⟨⟨⟨⟨⟨hG, ⟨jPI, jNI, jQI, jPQE⟩, ⟨jFA, jWC, jNJ, jPS, jKQ⟩, jJ, jE⟩, jTP, jW9⟩, jNE, jCC⟩, -⟩, jOV⟩, jW8⟩, jNN⟩, jAN⟩, jKNA, jDN, jPN⟩ := H
  have b_1 := g_b hG (a := 77) (i := 7) (lo := 0) (hi := 500) rfl rfl
  have b_2 := g_b hG (a := 77) (i := 6) (lo := 0) (hi := 500) rfl rfl
  have b_3 := g_b hG (a := 1) (i := 1) (lo := 0) (hi := 500) rfl rfl
  have b_4 := g_b hG (a := 77) (i := 1) (lo := 0) (hi := 500) rfl rfl
  have b_5 := g_b hG (a := 0) (i := 12) (lo := 0) (hi := 30) rfl rfl
  have b_6 := g_b hG (a := 77) (i := 28) (lo := 0) (hi := 30) rfl rfl
  have b_7 := g_b hG (a := 6) (i := 0) (lo := 0) (hi := 150) rfl rfl
  have b_8 := g_b hG (a := 77) (i := 29) (lo := 0) (hi := 150) rfl rfl
  have b_9 := g_b hG (a := 28) (i := 8) (lo := 0) (hi := 3000) rfl rfl
  have b_10 := g_b hG (a := 77) (i := 43) (lo := 0) (hi := 3000) rfl rfl
  refine to_an (pc := 299) rw_0_299 rfl (to_an (pc := 300) rw_0_300 rfl (to_i (pc := 301) rw_0_301 rfl (to_c (pc := 303) rw_0_303 (x := (1 : Int32)) rfl rfl (s_add (pc := 304) rw_0_304 (A := i.toInt) (B := 1) rfl rfl (by omega) (fun v11 e12 => s_x0 (pc := 305) rw_0_305 hL (A := v11.toInt) rfl (by omega) (by omega) (fun v13 e14 => s_v (pc := 306) rw_0_306 (dp0 hd (by decide)) (ls0 := [.ref 0, .int v13, .null]) rfl (Nat.le_of_ble_eq_true rfl) (Nat.le_of_ble_eq_true rfl) rfl (to_rc rfl rfl rfl (g_o hG rfl)) rfl ?_))))))
  obtain ⟨pz15, pzz15, qz15, qzz15, hpz15, hpzz15, hqz15, hqzz15, hpqz15⟩ := id jPQE
  have z_16 := KNA_u hpqz15 jKNA
  obtain ⟨sg, NN, nz, ca, hs1, hs2, hn1, hn2, hn3, hn4, hn5⟩ := AN_u jAN hpqz15
  obtain ⟨t, nn, hn1, hT1, hR1⟩ := TP_X (n := v13.toInt) jTP
  refine D_113 hX (dp1 hd (by decide)) hG hpz15 hpzz15 hqz15 hqzz15 hpqz15 jQI jPI jNI (by (first | (clear hpz15 hpzz15 hqz15 hqzz15 z_16; omega) | (clear hpz15 hpzz15 hqz15 z_16; omega) | omega)) hT1 hW hs1.1 z_16.1 (n := v13) (t := t) (nn := nn) (sg := sg) (p := pz15) (pz := pzz15) (q := qz15) (qz := qzz15) (fun r17 M29 hG19 F18 p_20 p_21 p_22 p_23 p_24 p_25 p_26 p_27 p_28 => ?_)
  have n_30 : M29.1.2.1 = M.1.2.1 ∧ M29.1.2.2.1 = M.1.2.2.1 := by rw [F18.1]; exact ⟨rfl, rfl⟩
  have b_32 := g_b hG19 (a := 1) (i := 1) (lo := 0) (hi := 500) rfl rfl
  have z_33 := TP_s jTP (by (first | (clear hpz15 hpzz15 hqz15 hqzz15 z_16 p_20 p_21 p_26 p_27 p_28; omega) | (clear hpz15 hpzz15 hqz15 hqzz15 z_16 p_28; omega) | (clear hpz15 hpzz15 hqz15 z_16 p_20 p_21 p_26 p_27 p_28; omega) | omega)) (fun a i z => (Fx_n F18 (show ¬ (a = 1 ∨ 3 ≤ a ∧ a ≤ 5 ∨ 67 ≤ a ∧ a ≤ 76) by (first | (clear hpz15 hpzz15 hqz15 hqzz15 z_16 p_20 p_21 p_26 p_27 p_28; omega) | (clear hpz15 hpzz15 hqz15 hqzz15 z_16 p_28; omega) | (clear hpz15 hpzz15 hqz15 z_16 p_20 p_21 p_26 p_27 p_28; omega) | omega)) rfl))
  have z_34 := AN_X F18 (fun a i z => show ¬ (a = 1 ∨ 3 ≤ a ∧ a ≤ 5 ∨ 67 ≤ a ∧ a ≤ 76) by (first | (clear hpz15 hpzz15 hqz15 hqzz15 z_16 p_20 p_21 p_26 p_27 p_28; omega) | (clear hpz15 hpzz15 hqz15 hqzz15 z_16 p_28; omega) | (clear hpz15 hpzz15 hqz15 z_16 p_20 p_21 p_26 p_27 p_28; omega) | omega)) (QQ_8 hpqz15 p_23) jAN
  refine to_popi (pc := 309) rw_0_309 (to_an (pc := 310) rw_0_310 rfl (to_an (pc := 311) rw_0_311 rfl (to_i (pc := 312) rw_0_312 rfl (to_c (pc := 314) rw_0_314 (x := (1 : Int32)) rfl rfl (s_addk (pc := 315) rw_0_315 (A := i.toInt) (B := 1) rfl rfl (by (first | (clear hpz15 hpzz15 hqz15 hqzz15 z_16 p_20 p_21 p_26 p_27 p_28; omega) | (clear hpz15 hpzz15 hqz15 hqzz15 z_16 p_28; omega) | (clear hpz15 hpzz15 hqz15 z_16 p_20 p_21 p_26 p_27 p_28; omega) | omega)) (v := v11) e12 (s_x0k (pc := 316) rw_0_316 hL (A := v11.toInt) rfl (by (first | (clear hpz15 hpzz15 hqz15 hqzz15 z_16 p_20 p_21 p_26 p_27 p_28; omega) | (clear hpz15 hpzz15 hqz15 hqzz15 z_16 p_28; omega) | (clear hpz15 hpzz15 hqz15 z_16 p_20 p_21 p_26 p_27 p_28; omega) | omega)) (by (first | (clear hpz15 hpzz15 hqz15 hqzz15 z_16 p_20 p_21 p_26 p_27 p_28; omega) | (clear hpz15 hpzz15 hqz15 hqzz15 z_16 p_28; omega) | (clear hpz15 hpzz15 hqz15 z_16 p_20 p_21 p_26 p_27 p_28; omega) | omega)) (v := v13) e14 (s_v (pc := 317) rw_0_317 (dp0 hd (by decide)) (ls0 := [.ref 77, .int v13, .null]) rfl (Nat.le_of_ble_eq_true rfl) (Nat.le_of_ble_eq_true rfl) rfl (to_rc rfl rfl rfl (g_o hG19 rfl)) rfl ?_)))))))
  have c_37 : M29.2.1 77 1 = (M.2.1 77 1) := (Fx_n F18 (show ¬ (77 = 1 ∨ 3 ≤ 77 ∧ 77 ≤ 5 ∨ 67 ≤ 77 ∧ 77 ≤ 76) by decide) rfl)
  have t_38 : (M29.2.1 77 1).toInt = (M.2.1 77 1).toInt := congrArg Int32.toInt c_37
  have c_39 : M29.2.1 77 58 = (M.2.1 77 58) := (Fx_n F18 (show ¬ (77 = 1 ∨ 3 ≤ 77 ∧ 77 ≤ 5 ∨ 67 ≤ 77 ∧ 77 ≤ 76) by decide) rfl)
  have b_40 := g_b hG (a := 77) (i := 58) (lo := 0) (hi := 40) rfl rfl
  have t_41 : (M29.2.1 77 58).toInt = (M.2.1 77 58).toInt := congrArg Int32.toInt c_39
  have c_42 : M29.2.1 77 7 = (M.2.1 77 7) := (Fx_n F18 (show ¬ (77 = 1 ∨ 3 ≤ 77 ∧ 77 ≤ 5 ∨ 67 ≤ 77 ∧ 77 ≤ 76) by decide) rfl)
  have t_43 : (M29.2.1 77 7).toInt = (M.2.1 77 7).toInt := congrArg Int32.toInt c_42
  have c_44 : M29.2.1 77 6 = (M.2.1 77 6) := (Fx_n F18 (show ¬ (77 = 1 ∨ 3 ≤ 77 ∧ 77 ≤ 5 ∨ 67 ≤ 77 ∧ 77 ≤ 76) by decide) rfl)
  have t_45 : (M29.2.1 77 6).toInt = (M.2.1 77 6).toInt := congrArg Int32.toInt c_44
  have j_46 := (FA_f (tg_542 F18) jFA)
  have j_47 := (WC_f (tg_543 F18) jWC)
  have j_48 := (NJ_f (tg_544 F18) jNJ)
  have j_49 := (PS_f (tg_545 F18) jPS)
  have j_50 := (KQ_f (tg_546 F18) jKQ)
  have j_51 := (TR_f (tg_547 F18) hR1)
  have j_52 := (W9_f (tg_548 F18) jW9)
  have j_53 := (PLk_f (tg_549 F18) hs2.1)
  refine D_227 hX (dp1 hd (by decide)) hG19 (by (first | (clear hpz15 hpzz15 hqz15 hqzz15 z_16 p_20 p_21 p_26 p_27 p_28; omega) | (clear hpz15 hpzz15 hqz15 hqzz15 z_16 p_28; omega) | (clear hpz15 hpzz15 hqz15 z_16 p_20 p_21 p_26 p_27 p_28; omega) | omega)) j_46 j_47 j_48 j_49 j_50 (by (first | (clear hpz15 hpzz15 hqz15 hqzz15 z_16 p_20 p_21 p_26 p_27 p_28; omega) | (clear hpz15 hpzz15 hqz15 hqzz15 z_16 p_28; omega) | (clear hpz15 hpzz15 hqz15 z_16 p_20 p_21 p_26 p_27 p_28; omega) | omega)) j_51 j_52 j_53 (n := v13) (t := t) (nn := nn) (sg := sg) (fun r54 M69 hG56 F55 p_57 p_58 p_59 p_60 p_61 p_62 p_63 p_64 p_65 p_66 p_67 p_68 => ?_)
  have n_70 : M69.1.2.1 = M29.1.2.1 ∧ M69.1.2.2.1 = M29.1.2.2.1 := by rw [F55.1]; exact ⟨rfl, rfl⟩
  have b_72 := g_b hG56 (a := 77) (i := 7) (lo := 0) (hi := 500) rfl rfl
  have b_73 := g_b hG56 (a := 77) (i := 6) (lo := 0) (hi := 500) rfl rfl
  have b_74 := g_b hG56 (a := 77) (i := 1) (lo := 0) (hi := 500) rfl rfl
  have b_75 := g_b hG56 (a := 77) (i := 58) (lo := 0) (hi := 40) rfl rfl
  have z_76 := QAN_q (h1 := (M.2.1 1 1).toInt) (h2 := (M29.2.1 77 1).toInt) (by (first | (clear hpz15 hpzz15 hqz15 hqzz15 z_16 p_20 p_21 p_26 p_27 p_28 p_63 p_64 p_65 p_66 p_67 p_68; omega) | (clear hpz15 hpzz15 hqz15 hqzz15 z_16 p_28 p_67 p_68; omega) | (clear hpz15 hpzz15 hqz15 z_16 p_20 p_21 p_26 p_27 p_28 p_63 p_64 p_65 p_66 p_67 p_68; omega) | omega)) p_26 p_65 p_27 p_66
  have z_77 := KNA_q hqz15 hqzz15 z_16 z_76  p_28 (congrArg Int32.toInt (Fx_n F18 (show ¬ (77 = 1 ∨ 3 ≤ 77 ∧ 77 ≤ 5 ∨ 67 ≤ 77 ∧ 77 ≤ 76) by decide) rfl)) F55 (fun a i z => show ¬ (a = 77 ∧ (1 ≤ i ∧ i ≤ 2 ∨ 4 ≤ i ∧ i ≤ 10 ∨ 57 ≤ i ∧ i ≤ 59 ∨ 65 ≤ i ∧ i ≤ 69) ∨ 112 ≤ a ∧ a ≤ 116) by (first | (clear hpz15 hpzz15 hqz15 hqzz15 z_16 p_20 p_21 p_26 p_27 p_28 p_63 p_64 p_65 p_66 p_67 p_68; omega) | (clear hpz15 hpzz15 hqz15 hqzz15 z_16 p_28 p_67 p_68; omega) | (clear hpz15 hpzz15 hqz15 z_16 p_20 p_21 p_26 p_27 p_28 p_63 p_64 p_65 p_66 p_67 p_68; omega) | omega)) p_67 p_68
  refine to_popi (pc := 320) rw_0_320 (to_go (pc := 321) rw_0_321 ?_)
  have c_78 : M69.2.1 1 1 = (M29.2.1 1 1) := (F_n F55 (show ¬ (1 = 77 ∧ (1 ≤ 1 ∧ 1 ≤ 2 ∨ 4 ≤ 1 ∧ 1 ≤ 10 ∨ 57 ≤ 1 ∧ 1 ≤ 59 ∨ 65 ≤ 1 ∧ 1 ≤ 69) ∨ 112 ≤ 1 ∧ 1 ≤ 116) by decide) rfl)
  have t_79 : (M69.2.1 1 1).toInt = (M29.2.1 1 1).toInt := congrArg Int32.toInt c_78
  have c_80 : M69.2.1 0 12 = (M.2.1 0 12) := (F_n F55 (show ¬ (0 = 77 ∧ (1 ≤ 12 ∧ 12 ≤ 2 ∨ 4 ≤ 12 ∧ 12 ≤ 10 ∨ 57 ≤ 12 ∧ 12 ≤ 59 ∨ 65 ≤ 12 ∧ 12 ≤ 69) ∨ 112 ≤ 0 ∧ 0 ≤ 116) by decide) (Fx_n F18 (show ¬ (0 = 1 ∨ 3 ≤ 0 ∧ 0 ≤ 5 ∨ 67 ≤ 0 ∧ 0 ≤ 76) by decide) rfl))
  have t_81 : (M69.2.1 0 12).toInt = (M.2.1 0 12).toInt := congrArg Int32.toInt c_80
  have c_82 : M69.2.1 77 28 = (M.2.1 77 28) := (F_n F55 (show ¬ (77 = 77 ∧ (1 ≤ 28 ∧ 28 ≤ 2 ∨ 4 ≤ 28 ∧ 28 ≤ 10 ∨ 57 ≤ 28 ∧ 28 ≤ 59 ∨ 65 ≤ 28 ∧ 28 ≤ 69) ∨ 112 ≤ 77 ∧ 77 ≤ 116) by decide) (Fx_n F18 (show ¬ (77 = 1 ∨ 3 ≤ 77 ∧ 77 ≤ 5 ∨ 67 ≤ 77 ∧ 77 ≤ 76) by decide) rfl))
  have t_83 : (M69.2.1 77 28).toInt = (M.2.1 77 28).toInt := congrArg Int32.toInt c_82
  have c_84 : M69.2.1 17 4 = (M.2.1 17 4) := (F_n F55 (show ¬ (17 = 77 ∧ (1 ≤ 4 ∧ 4 ≤ 2 ∨ 4 ≤ 4 ∧ 4 ≤ 10 ∨ 57 ≤ 4 ∧ 4 ≤ 59 ∨ 65 ≤ 4 ∧ 4 ≤ 69) ∨ 112 ≤ 17 ∧ 17 ≤ 116) by decide) (Fx_n F18 (show ¬ (17 = 1 ∨ 3 ≤ 17 ∧ 17 ≤ 5 ∨ 67 ≤ 17 ∧ 17 ≤ 76) by decide) rfl))
  have t_85 : (M69.2.1 17 4).toInt = (M.2.1 17 4).toInt := congrArg Int32.toInt c_84
  have c_86 : M69.2.1 77 41 = (M.2.1 77 41) := (F_n F55 (show ¬ (77 = 77 ∧ (1 ≤ 41 ∧ 41 ≤ 2 ∨ 4 ≤ 41 ∧ 41 ≤ 10 ∨ 57 ≤ 41 ∧ 41 ≤ 59 ∨ 65 ≤ 41 ∧ 41 ≤ 69) ∨ 112 ≤ 77 ∧ 77 ≤ 116) by decide) (Fx_n F18 (show ¬ (77 = 1 ∨ 3 ≤ 77 ∧ 77 ≤ 5 ∨ 67 ≤ 77 ∧ 77 ≤ 76) by decide) rfl))
  have t_87 : (M69.2.1 77 41).toInt = (M.2.1 77 41).toInt := congrArg Int32.toInt c_86
  have c_88 : M69.2.1 6 0 = (M.2.1 6 0) := (F_n F55 (show ¬ (6 = 77 ∧ (1 ≤ 0 ∧ 0 ≤ 2 ∨ 4 ≤ 0 ∧ 0 ≤ 10 ∨ 57 ≤ 0 ∧ 0 ≤ 59 ∨ 65 ≤ 0 ∧ 0 ≤ 69) ∨ 112 ≤ 6 ∧ 6 ≤ 116) by decide) (Fx_n F18 (show ¬ (6 = 1 ∨ 3 ≤ 6 ∧ 6 ≤ 5 ∨ 67 ≤ 6 ∧ 6 ≤ 76) by decide) rfl))
  have t_89 : (M69.2.1 6 0).toInt = (M.2.1 6 0).toInt := congrArg Int32.toInt c_88
  have c_90 : M69.2.1 77 29 = (M.2.1 77 29) := (F_n F55 (show ¬ (77 = 77 ∧ (1 ≤ 29 ∧ 29 ≤ 2 ∨ 4 ≤ 29 ∧ 29 ≤ 10 ∨ 57 ≤ 29 ∧ 29 ≤ 59 ∨ 65 ≤ 29 ∧ 29 ≤ 69) ∨ 112 ≤ 77 ∧ 77 ≤ 116) by decide) (Fx_n F18 (show ¬ (77 = 1 ∨ 3 ≤ 77 ∧ 77 ≤ 5 ∨ 67 ≤ 77 ∧ 77 ≤ 76) by decide) rfl))
  have t_91 : (M69.2.1 77 29).toInt = (M.2.1 77 29).toInt := congrArg Int32.toInt c_90
  have c_92 : M69.2.1 28 8 = (M.2.1 28 8) := (F_n F55 (show ¬ (28 = 77 ∧ (1 ≤ 8 ∧ 8 ≤ 2 ∨ 4 ≤ 8 ∧ 8 ≤ 10 ∨ 57 ≤ 8 ∧ 8 ≤ 59 ∨ 65 ≤ 8 ∧ 8 ≤ 69) ∨ 112 ≤ 28 ∧ 28 ≤ 116) by decide) (Fx_n F18 (show ¬ (28 = 1 ∨ 3 ≤ 28 ∧ 28 ≤ 5 ∨ 67 ≤ 28 ∧ 28 ≤ 76) by decide) rfl))
  have t_93 : (M69.2.1 28 8).toInt = (M.2.1 28 8).toInt := congrArg Int32.toInt c_92
  have c_94 : M69.2.1 77 43 = (M.2.1 77 43) := (F_n F55 (show ¬ (77 = 77 ∧ (1 ≤ 43 ∧ 43 ≤ 2 ∨ 4 ≤ 43 ∧ 43 ≤ 10 ∨ 57 ≤ 43 ∧ 43 ≤ 59 ∨ 65 ≤ 43 ∧ 43 ≤ 69) ∨ 112 ≤ 77 ∧ 77 ≤ 116) by decide) (Fx_n F18 (show ¬ (77 = 1 ∨ 3 ≤ 77 ∧ 77 ≤ 5 ∨ 67 ≤ 77 ∧ 77 ≤ 76) by decide) rfl))
  have t_95 : (M69.2.1 77 43).toInt = (M.2.1 77 43).toInt := congrArg Int32.toInt c_94
  have c_96 : M69.2.1 28 9 = (M.2.1 28 9) := (F_n F55 (show ¬ (28 = 77 ∧ (1 ≤ 9 ∧ 9 ≤ 2 ∨ 4 ≤ 9 ∧ 9 ≤ 10 ∨ 57 ≤ 9 ∧ 9 ≤ 59 ∨ 65 ≤ 9 ∧ 9 ≤ 69) ∨ 112 ≤ 28 ∧ 28 ≤ 116) by decide) (Fx_n F18 (show ¬ (28 = 1 ∨ 3 ≤ 28 ∧ 28 ≤ 5 ∨ 67 ≤ 28 ∧ 28 ≤ 76) by decide) rfl))
  have t_97 : (M69.2.1 28 9).toInt = (M.2.1 28 9).toInt := congrArg Int32.toInt c_96
  have c_98 : M69.2.1 77 42 = (M.2.1 77 42) := (F_n F55 (show ¬ (77 = 77 ∧ (1 ≤ 42 ∧ 42 ≤ 2 ∨ 4 ≤ 42 ∧ 42 ≤ 10 ∨ 57 ≤ 42 ∧ 42 ≤ 59 ∨ 65 ≤ 42 ∧ 42 ≤ 69) ∨ 112 ≤ 77 ∧ 77 ≤ 116) by decide) (Fx_n F18 (show ¬ (77 = 1 ∨ 3 ≤ 77 ∧ 77 ≤ 5 ∨ 67 ≤ 77 ∧ 77 ≤ 76) by decide) rfl))
  have t_99 : (M69.2.1 77 42).toInt = (M.2.1 77 42).toInt := congrArg Int32.toInt c_98
  have j_100 := (PI_f (tg_550 F55) p_24)
  have j_101 := (NI_f (tg_551 F55) p_25)
  have j_102 := (QI_f (tg_552 F55) p_22)
  have j_103 := (PQE_r F55.2.1 (PQE_qq hpz15 hpzz15 hqz15 hqzz15 p_23))
  have j_104 := (TP_f (tg_553 F55) z_33)
  have j_105 := (W9_f (tg_554 F55) j_52)
  have j_106 := (AN_F F55 tg_632 z_34)
  have j_107 := (NE_r F55.2.1 (NE_q hpqz15 p_23 jNE))
  have j_108 := (W8_f (tg_555 F55) (W8_f (tg_556 F18) jW8))
  exact h M69 (u5) (u6) ⟨⟨⟨⟨⟨⟨⟨⟨⟨hG56, ⟨j_100, j_101, j_102, j_103⟩, ⟨p_58, p_59, p_60, p_61, p_62⟩, by (first | (clear hpz15 hpzz15 hqz15 hqzz15 z_16 p_20 p_21 p_26 p_27 p_28 p_63 p_64 p_65 p_66 p_67 p_68; omega) | (clear hpz15 hpzz15 hqz15 hqzz15 z_16 p_28 p_67 p_68; omega) | (clear hpz15 hpzz15 hqz15 z_16 p_20 p_21 p_26 p_27 p_28 p_63 p_64 p_65 p_66 p_67 p_68; omega) | omega), by (first | (clear hpz15 hpzz15 hqz15 hqzz15 z_16 p_20 p_21 p_26 p_27 p_28 p_63 p_64 p_65 p_66 p_67 p_68; omega) | (clear hpz15 hpzz15 hqz15 hqzz15 z_16 p_28 p_67 p_68; omega) | (clear hpz15 hpzz15 hqz15 z_16 p_20 p_21 p_26 p_27 p_28 p_63 p_64 p_65 p_66 p_67 p_68; omega) | omega)⟩, j_104, j_105⟩, j_107, by (first | (clear hpz15 hpzz15 hqz15 hqzz15 z_16 p_20 p_21 p_26 p_27 p_28 p_63 p_64 p_65 p_66 p_67 p_68; omega) | (clear hpz15 hpzz15 hqz15 hqzz15 z_16 p_28 p_67 p_68; omega) | (clear hpz15 hpzz15 hqz15 z_16 p_20 p_21 p_26 p_27 p_28 p_63 p_64 p_65 p_66 p_67 p_68; omega) | omega)⟩, AN_a j_106⟩, by (first | (clear hpz15 hpzz15 hqz15 hqzz15 z_16 p_20 p_21 p_26 p_27 p_28 p_63 p_64 p_65 p_66 p_67 p_68; omega) | (clear hpz15 hpzz15 hqz15 hqzz15 z_16 p_28 p_67 p_68; omega) | (clear hpz15 hpzz15 hqz15 z_16 p_20 p_21 p_26 p_27 p_28 p_63 p_64 p_65 p_66 p_67 p_68; omega) | omega)⟩, j_108⟩, by (first | (clear hpz15 hpzz15 hqz15 hqzz15 z_16 p_20 p_21 p_26 p_27 p_28 p_63 p_64 p_65 p_66 p_67 p_68; omega) | (clear hpz15 hpzz15 hqz15 hqzz15 z_16 p_28 p_67 p_68; omega) | (clear hpz15 hpzz15 hqz15 z_16 p_20 p_21 p_26 p_27 p_28 p_63 p_64 p_65 p_66 p_67 p_68; omega) | omega)⟩, j_106⟩, z_77, by (first | (clear hpz15 hpzz15 hqz15 hqzz15 z_16 p_20 p_21 p_26 p_27 p_28 p_63 p_64 p_65 p_66 p_67 p_68; omega) | (clear hpz15 hpzz15 hqz15 hqzz15 z_16 p_28 p_67 p_68; omega) | (clear hpz15 hpzz15 hqz15 z_16 p_20 p_21 p_26 p_27 p_28 p_63 p_64 p_65 p_66 p_67 p_68; omega) | omega), by (first | (clear hpz15 hpzz15 hqz15 hqzz15 z_16 p_20 p_21 p_26 p_27 p_28 p_63 p_64 p_65 p_66 p_67 p_68; omega) | (clear hpz15 hpzz15 hqz15 hqzz15 z_16 p_28 p_67 p_68; omega) | (clear hpz15 hpzz15 hqz15 z_16 p_20 p_21 p_26 p_27 p_28 p_63 p_64 p_65 p_66 p_67 p_68; omega) | omega)⟩ (by (first | (clear hpz15 hpzz15 hqz15 hqzz15 z_16 p_20 p_21 p_26 p_27 p_28 p_63 p_64 p_65 p_66 p_67 p_68; omega) | (clear hpz15 hpzz15 hqz15 hqzz15 z_16 p_28 p_67 p_68; omega) | (clear hpz15 hpzz15 hqz15 z_16 p_20 p_21 p_26 p_27 p_28 p_63 p_64 p_65 p_66 p_67 p_68; omega) | omega)) (by (first | (clear hpz15 hpzz15 hqz15 hqzz15 z_16 p_20 p_21 p_26 p_27 p_28 p_63 p_64 p_65 p_66 p_67 p_68; omega) | (clear hpz15 hpzz15 hqz15 hqzz15 z_16 p_28 p_67 p_68; omega) | (clear hpz15 hpzz15 hqz15 z_16 p_20 p_21 p_26 p_27 p_28 p_63 p_64 p_65 p_66 p_67 p_68; omega) | omega))
