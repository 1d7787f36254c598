set_option maxRecDepth 4000 in
set_option maxHeartbeats 0 in
theorem LW_3 {X : mm_X} {d L : Nat} {M : mm_M} {Q : Option Value → mm_M → Prop} {i : Int32} {u5 u6 : Value} (hX : g_X X) (hW : g_W X) (hW2 : g_W2 X) (hL : (X 0).1 = L) (h3 : L ≤ 3072) (hd : 40 ≤ d) (hi : 0 ≤ i.toInt) (hi2 : i.toInt + 6 ≤ (L : Int)) (H : LI10 M) (h : ∀ (M1 : mm_M) (v5 v6 : Value), LI10 M1 → M1.1.2.1 ≤ M.1.2.1 + 1 → M1.1.2.2.1 ≤ M.1.2.2.1 + 6 → mm_T X d 0 1313 [.ref mm_ext, .ref 0, .ref 77, .ref 125, .int i, v5, v6] [] M1 Q) : mm_T X d 0 299 [.ref mm_ext, .ref 0, .ref 77, .ref 125, .int i, u5, u6] [] M Q := by
  obtain ⟨⟨⟨⟨⟨⟨⟨⟨⟨hG, ⟨jPI, jNI, jQI, jPQE⟩, ⟨jFA, jWC, jNJ, jPS, jKQ⟩, jJ, jE⟩, jTP, jW9⟩, jNE, jCC⟩, -⟩, jOV⟩, jW8⟩, jNN⟩, jAN⟩, jQAL⟩ := H
  have b_1 := g_b hG (a := 77) (i := 7) (lo := 0) (hi := 500) rfl rfl
  have b_2 := g_b hG (a := 77) (i := 6) (lo := 0) (hi := 500) rfl rfl
  have b_3 := g_b hG (a := 1) (i := 1) (lo := 0) (hi := 500) rfl rfl
  have b_4 := g_b hG (a := 77) (i := 1) (lo := 0) (hi := 500) rfl rfl
  have b_5 := g_b hG (a := 0) (i := 12) (lo := 0) (hi := 30) rfl rfl
  have b_6 := g_b hG (a := 77) (i := 28) (lo := 0) (hi := 30) rfl rfl
  have b_7 := g_b hG (a := 6) (i := 0) (lo := 0) (hi := 150) rfl rfl
  have b_8 := g_b hG (a := 77) (i := 29) (lo := 0) (hi := 150) rfl rfl
  refine to_an (pc := 299) rw_0_299 rfl (to_an (pc := 300) rw_0_300 rfl (to_i (pc := 301) rw_0_301 rfl (to_c (pc := 303) rw_0_303 (x := (1 : Int32)) rfl rfl (s_add (pc := 304) rw_0_304 (A := i.toInt) (B := 1) rfl rfl (by omega) (fun v9 e10 => s_x0 (pc := 305) rw_0_305 hL (A := v9.toInt) rfl (by omega) (by omega) (fun v11 e12 => s_v (pc := 306) rw_0_306 (dp0 hd (by decide)) (ls0 := [.ref 0, .int v11, .null]) rfl (Nat.le_of_ble_eq_true rfl) (Nat.le_of_ble_eq_true rfl) rfl (to_rc rfl rfl rfl (g_o hG rfl)) rfl ?_))))))
  obtain ⟨pz13, pzz13, qz13, qzz13, hpz13, hpzz13, hqz13, hqzz13, hpqz13⟩ := id jPQE
  have b_14 := g_b hG (a := 77) (i := 58) (lo := 0) (hi := 40) rfl rfl
  have b_15 := g_b hG (a := 77) (i := 57) (lo := 0) (hi := 1) rfl rfl
  have z_16 := QAL_ne hpqz13 jQAL
  obtain ⟨sg, NN, nz, ca, hs1, hs2, hn1, hn2, hn3, hn4, hn5⟩ := AN_u jAN hpqz13
  obtain ⟨t, nn, hn1, hT1, hR1⟩ := TP_X (n := v11.toInt) jTP
  refine D_113 hX (dp1 hd (by decide)) hG hpz13 hpzz13 hqz13 hqzz13 hpqz13 jQI jPI jNI (by (first | (clear hpz13 hpzz13 hqz13 hqzz13 z_16; omega) | (clear hpz13 hpzz13 hqz13 hqzz13; omega) | (clear hpz13 hpzz13 hqz13 z_16; omega) | omega)) hT1 hW hs1.1 z_16 (n := v11) (t := t) (nn := nn) (sg := sg) (p := pz13) (pz := pzz13) (q := qz13) (qz := qzz13) (fun r17 M30 hG19 F18 p_20 p_21 p_22 p_23 p_24 p_25 p_26 p_27 p_28 p_29 => ?_)
  have n_31 : M30.1.2.1 = M.1.2.1 ∧ M30.1.2.2.1 = M.1.2.2.1 := by rw [F18.1]; exact ⟨rfl, rfl⟩
  have b_33 := g_b hG19 (a := 1) (i := 1) (lo := 0) (hi := 500) rfl rfl
  have z_34 := TP_s jTP (by (first | (clear hpz13 hpzz13 hqz13 hqzz13 z_16 p_20 p_21 p_26 p_29; omega) | (clear hpz13 hpzz13 hqz13 hqzz13 p_29; omega) | (clear hpz13 hpzz13 hqz13 z_16 p_20 p_21 p_26 p_29; omega) | omega)) (fun a i z => (Fx_n F18 (show ¬ (a = 1 ∨ 3 ≤ a ∧ a ≤ 5 ∨ 67 ≤ a ∧ a ≤ 76) by (first | (clear hpz13 hpzz13 hqz13 hqzz13 z_16 p_20 p_21 p_26 p_29; omega) | (clear hpz13 hpzz13 hqz13 hqzz13 p_29; omega) | (clear hpz13 hpzz13 hqz13 z_16 p_20 p_21 p_26 p_29; omega) | omega)) rfl))
  have z_35 := AN_X F18 (fun a i z => show ¬ (a = 1 ∨ 3 ≤ a ∧ a ≤ 5 ∨ 67 ≤ a ∧ a ≤ 76) by (first | (clear hpz13 hpzz13 hqz13 hqzz13 z_16 p_20 p_21 p_26 p_29; omega) | (clear hpz13 hpzz13 hqz13 hqzz13 p_29; omega) | (clear hpz13 hpzz13 hqz13 z_16 p_20 p_21 p_26 p_29; omega) | omega)) (QQ_8 hpqz13 p_23) jAN
  refine to_popi (pc := 309) rw_0_309 (to_an (pc := 310) rw_0_310 rfl (to_an (pc := 311) rw_0_311 rfl (to_i (pc := 312) rw_0_312 rfl (to_c (pc := 314) rw_0_314 (x := (1 : Int32)) rfl rfl (s_addk (pc := 315) rw_0_315 (A := i.toInt) (B := 1) rfl rfl (by (first | (clear hpz13 hpzz13 hqz13 hqzz13 z_16 p_20 p_21 p_26 p_29; omega) | (clear hpz13 hpzz13 hqz13 hqzz13 p_29; omega) | (clear hpz13 hpzz13 hqz13 z_16 p_20 p_21 p_26 p_29; omega) | omega)) (v := v9) e10 (s_x0k (pc := 316) rw_0_316 hL (A := v9.toInt) rfl (by (first | (clear hpz13 hpzz13 hqz13 hqzz13 z_16 p_20 p_21 p_26 p_29; omega) | (clear hpz13 hpzz13 hqz13 hqzz13 p_29; omega) | (clear hpz13 hpzz13 hqz13 z_16 p_20 p_21 p_26 p_29; omega) | omega)) (by (first | (clear hpz13 hpzz13 hqz13 hqzz13 z_16 p_20 p_21 p_26 p_29; omega) | (clear hpz13 hpzz13 hqz13 hqzz13 p_29; omega) | (clear hpz13 hpzz13 hqz13 z_16 p_20 p_21 p_26 p_29; omega) | omega)) (v := v11) e12 (s_v (pc := 317) rw_0_317 (dp0 hd (by decide)) (ls0 := [.ref 77, .int v11, .null]) rfl (Nat.le_of_ble_eq_true rfl) (Nat.le_of_ble_eq_true rfl) rfl (to_rc rfl rfl rfl (g_o hG19 rfl)) rfl ?_)))))))
  have c_38 : M30.2.1 77 1 = (M.2.1 77 1) := (Fx_n F18 (show ¬ (77 = 1 ∨ 3 ≤ 77 ∧ 77 ≤ 5 ∨ 67 ≤ 77 ∧ 77 ≤ 76) by decide) rfl)
  have t_39 : (M30.2.1 77 1).toInt = (M.2.1 77 1).toInt := congrArg Int32.toInt c_38
  have c_40 : M30.2.1 77 58 = (M.2.1 77 58) := (Fx_n F18 (show ¬ (77 = 1 ∨ 3 ≤ 77 ∧ 77 ≤ 5 ∨ 67 ≤ 77 ∧ 77 ≤ 76) by decide) rfl)
  have t_41 : (M30.2.1 77 58).toInt = (M.2.1 77 58).toInt := congrArg Int32.toInt c_40
  have c_42 : M30.2.1 77 57 = (M.2.1 77 57) := (Fx_n F18 (show ¬ (77 = 1 ∨ 3 ≤ 77 ∧ 77 ≤ 5 ∨ 67 ≤ 77 ∧ 77 ≤ 76) by decide) rfl)
  have t_43 : (M30.2.1 77 57).toInt = (M.2.1 77 57).toInt := congrArg Int32.toInt c_42
  have c_44 : M30.2.1 77 7 = (M.2.1 77 7) := (Fx_n F18 (show ¬ (77 = 1 ∨ 3 ≤ 77 ∧ 77 ≤ 5 ∨ 67 ≤ 77 ∧ 77 ≤ 76) by decide) rfl)
  have t_45 : (M30.2.1 77 7).toInt = (M.2.1 77 7).toInt := congrArg Int32.toInt c_44
  have c_46 : M30.2.1 77 6 = (M.2.1 77 6) := (Fx_n F18 (show ¬ (77 = 1 ∨ 3 ≤ 77 ∧ 77 ≤ 5 ∨ 67 ≤ 77 ∧ 77 ≤ 76) by decide) rfl)
  have t_47 : (M30.2.1 77 6).toInt = (M.2.1 77 6).toInt := congrArg Int32.toInt c_46
  have j_48 := (FA_f (tg_482 F18) jFA)
  have j_49 := (WC_f (tg_483 F18) jWC)
  have j_50 := (NJ_f (tg_484 F18) jNJ)
  have j_51 := (PS_f (tg_485 F18) jPS)
  have j_52 := (KQ_f (tg_486 F18) jKQ)
  have j_53 := (TR_f (tg_487 F18) hR1)
  have j_54 := (W9_f (tg_488 F18) jW9)
  have j_55 := (PLk_f (tg_489 F18) hs2.1)
  refine D_227 hX (dp1 hd (by decide)) hG19 (by (first | (clear hpz13 hpzz13 hqz13 hqzz13 z_16 p_20 p_21 p_26 p_29; omega) | (clear hpz13 hpzz13 hqz13 hqzz13 p_29; omega) | (clear hpz13 hpzz13 hqz13 z_16 p_20 p_21 p_26 p_29; omega) | omega)) j_48 j_49 j_50 j_51 j_52 (by (first | (clear hpz13 hpzz13 hqz13 hqzz13 z_16 p_20 p_21 p_26 p_29; omega) | (clear hpz13 hpzz13 hqz13 hqzz13 p_29; omega) | (clear hpz13 hpzz13 hqz13 z_16 p_20 p_21 p_26 p_29; omega) | omega)) j_53 j_54 j_55 (n := v11) (t := t) (nn := nn) (sg := sg) (fun r56 M73 hG58 F57 p_59 p_60 p_61 p_62 p_63 p_64 p_65 p_66 p_67 p_68 p_69 p_70 p_71 p_72 => ?_)
  have n_74 : M73.1.2.1 = M30.1.2.1 ∧ M73.1.2.2.1 = M30.1.2.2.1 := by rw [F57.1]; exact ⟨rfl, rfl⟩
  have b_76 := g_b hG58 (a := 77) (i := 7) (lo := 0) (hi := 500) rfl rfl
  have b_77 := g_b hG58 (a := 77) (i := 6) (lo := 0) (hi := 500) rfl rfl
  have b_78 := g_b hG58 (a := 77) (i := 1) (lo := 0) (hi := 500) rfl rfl
  have b_79 := g_b hG58 (a := 77) (i := 58) (lo := 0) (hi := 40) rfl rfl
  have b_80 := g_b hG58 (a := 77) (i := 57) (lo := 0) (hi := 1) rfl rfl
  have z_81 := QG_q (h1 := (M.2.1 1 1).toInt) (h2 := (M30.2.1 77 1).toInt) (by (first | (clear hpz13 hpzz13 hqz13 hqzz13 z_16 p_20 p_21 p_26 p_29 p_65 p_66 p_67 p_71 p_72; omega) | (clear hpz13 hpzz13 hqz13 hqzz13 p_29 p_71 p_72; omega) | (clear hpz13 hpzz13 hqz13 z_16 p_20 p_21 p_26 p_29 p_65 p_66 p_67 p_71 p_72; omega) | omega)) p_26 p_67 p_28 p_69
  have z_82 := z_81.1
  have z_83 := QAL_q jQAL hpqz13 hqz13 hqzz13 hpz13 hs1 F18 (fun a i z => show ¬ (a = 1 ∨ 3 ≤ a ∧ a ≤ 5 ∨ 67 ≤ a ∧ a ≤ 76) by (first | (clear hpz13 hpzz13 hqz13 hqzz13 z_16 p_20 p_21 p_26 p_29 p_65 p_66 p_67 p_71 p_72; omega) | (clear hpz13 hpzz13 hqz13 hqzz13 p_29 p_71 p_72; omega) | (clear hpz13 hpzz13 hqz13 z_16 p_20 p_21 p_26 p_29 p_65 p_66 p_67 p_71 p_72; omega) | omega)) (QQ_8 hpqz13 p_23) F57 (fun a i z => show ¬ (a = 77 ∧ (1 ≤ i ∧ i ≤ 2 ∨ 4 ≤ i ∧ i ≤ 10 ∨ 57 ≤ i ∧ i ≤ 59 ∨ 65 ≤ i ∧ i ≤ 69) ∨ 112 ≤ a ∧ a ≤ 116) by (first | (clear hpz13 hpzz13 hqz13 hqzz13 z_16 p_20 p_21 p_26 p_29 p_65 p_66 p_67 p_71 p_72; omega) | (clear hpz13 hpzz13 hqz13 hqzz13 p_29 p_71 p_72; omega) | (clear hpz13 hpzz13 hqz13 z_16 p_20 p_21 p_26 p_29 p_65 p_66 p_67 p_71 p_72; omega) | omega)) z_81.1 z_81.2 (fun z => by (first | (clear hpz13 hpzz13 hqz13 hqzz13 z_16 p_20 p_21 p_26 p_29 p_65 p_66 p_67 p_71 p_72; omega) | (clear hpz13 hpzz13 hqz13 hqzz13 p_29 p_71 p_72; omega) | (clear hpz13 hpzz13 hqz13 z_16 p_20 p_21 p_26 p_29 p_65 p_66 p_67 p_71 p_72; omega) | omega)) p_29 p_70 p_71 p_72 (by (first | (clear hpz13 hpzz13 hqz13 hqzz13 z_16 p_20 p_21 p_26 p_29 p_65 p_66 p_67 p_71 p_72; omega) | (clear hpz13 hpzz13 hqz13 hqzz13 p_29 p_71 p_72; omega) | (clear hpz13 hpzz13 hqz13 z_16 p_20 p_21 p_26 p_29 p_65 p_66 p_67 p_71 p_72; omega) | omega))
  refine to_popi (pc := 320) rw_0_320 (to_go (pc := 321) rw_0_321 ?_)
  have c_84 : M73.2.1 1 1 = (M30.2.1 1 1) := (F_n F57 (show ¬ (1 = 77 ∧ (1 ≤ 1 ∧ 1 ≤ 2 ∨ 4 ≤ 1 ∧ 1 ≤ 10 ∨ 57 ≤ 1 ∧ 1 ≤ 59 ∨ 65 ≤ 1 ∧ 1 ≤ 69) ∨ 112 ≤ 1 ∧ 1 ≤ 116) by decide) rfl)
  have t_85 : (M73.2.1 1 1).toInt = (M30.2.1 1 1).toInt := congrArg Int32.toInt c_84
  have c_86 : M73.2.1 0 12 = (M.2.1 0 12) := (F_n F57 (show ¬ (0 = 77 ∧ (1 ≤ 12 ∧ 12 ≤ 2 ∨ 4 ≤ 12 ∧ 12 ≤ 10 ∨ 57 ≤ 12 ∧ 12 ≤ 59 ∨ 65 ≤ 12 ∧ 12 ≤ 69) ∨ 112 ≤ 0 ∧ 0 ≤ 116) by decide) (Fx_n F18 (show ¬ (0 = 1 ∨ 3 ≤ 0 ∧ 0 ≤ 5 ∨ 67 ≤ 0 ∧ 0 ≤ 76) by decide) rfl))
  have t_87 : (M73.2.1 0 12).toInt = (M.2.1 0 12).toInt := congrArg Int32.toInt c_86
  have c_88 : M73.2.1 77 28 = (M.2.1 77 28) := (F_n F57 (show ¬ (77 = 77 ∧ (1 ≤ 28 ∧ 28 ≤ 2 ∨ 4 ≤ 28 ∧ 28 ≤ 10 ∨ 57 ≤ 28 ∧ 28 ≤ 59 ∨ 65 ≤ 28 ∧ 28 ≤ 69) ∨ 112 ≤ 77 ∧ 77 ≤ 116) by decide) (Fx_n F18 (show ¬ (77 = 1 ∨ 3 ≤ 77 ∧ 77 ≤ 5 ∨ 67 ≤ 77 ∧ 77 ≤ 76) by decide) rfl))
  have t_89 : (M73.2.1 77 28).toInt = (M.2.1 77 28).toInt := congrArg Int32.toInt c_88
  have c_90 : M73.2.1 17 4 = (M.2.1 17 4) := (F_n F57 (show ¬ (17 = 77 ∧ (1 ≤ 4 ∧ 4 ≤ 2 ∨ 4 ≤ 4 ∧ 4 ≤ 10 ∨ 57 ≤ 4 ∧ 4 ≤ 59 ∨ 65 ≤ 4 ∧ 4 ≤ 69) ∨ 112 ≤ 17 ∧ 17 ≤ 116) by decide) (Fx_n F18 (show ¬ (17 = 1 ∨ 3 ≤ 17 ∧ 17 ≤ 5 ∨ 67 ≤ 17 ∧ 17 ≤ 76) by decide) rfl))
  have t_91 : (M73.2.1 17 4).toInt = (M.2.1 17 4).toInt := congrArg Int32.toInt c_90
  have c_92 : M73.2.1 77 41 = (M.2.1 77 41) := (F_n F57 (show ¬ (77 = 77 ∧ (1 ≤ 41 ∧ 41 ≤ 2 ∨ 4 ≤ 41 ∧ 41 ≤ 10 ∨ 57 ≤ 41 ∧ 41 ≤ 59 ∨ 65 ≤ 41 ∧ 41 ≤ 69) ∨ 112 ≤ 77 ∧ 77 ≤ 116) by decide) (Fx_n F18 (show ¬ (77 = 1 ∨ 3 ≤ 77 ∧ 77 ≤ 5 ∨ 67 ≤ 77 ∧ 77 ≤ 76) by decide) rfl))
  have t_93 : (M73.2.1 77 41).toInt = (M.2.1 77 41).toInt := congrArg Int32.toInt c_92
  have c_94 : M73.2.1 6 0 = (M.2.1 6 0) := (F_n F57 (show ¬ (6 = 77 ∧ (1 ≤ 0 ∧ 0 ≤ 2 ∨ 4 ≤ 0 ∧ 0 ≤ 10 ∨ 57 ≤ 0 ∧ 0 ≤ 59 ∨ 65 ≤ 0 ∧ 0 ≤ 69) ∨ 112 ≤ 6 ∧ 6 ≤ 116) by decide) (Fx_n F18 (show ¬ (6 = 1 ∨ 3 ≤ 6 ∧ 6 ≤ 5 ∨ 67 ≤ 6 ∧ 6 ≤ 76) by decide) rfl))
  have t_95 : (M73.2.1 6 0).toInt = (M.2.1 6 0).toInt := congrArg Int32.toInt c_94
  have c_96 : M73.2.1 77 29 = (M.2.1 77 29) := (F_n F57 (show ¬ (77 = 77 ∧ (1 ≤ 29 ∧ 29 ≤ 2 ∨ 4 ≤ 29 ∧ 29 ≤ 10 ∨ 57 ≤ 29 ∧ 29 ≤ 59 ∨ 65 ≤ 29 ∧ 29 ≤ 69) ∨ 112 ≤ 77 ∧ 77 ≤ 116) by decide) (Fx_n F18 (show ¬ (77 = 1 ∨ 3 ≤ 77 ∧ 77 ≤ 5 ∨ 67 ≤ 77 ∧ 77 ≤ 76) by decide) rfl))
  have t_97 : (M73.2.1 77 29).toInt = (M.2.1 77 29).toInt := congrArg Int32.toInt c_96
  have j_98 := (PI_f (tg_490 F57) p_24)
  have j_99 := (NI_f (tg_491 F57) p_25)
  have j_100 := (QI_f (tg_492 F57) p_22)
  have j_101 := (PQE_r F57.2.1 (PQE_qq hpz13 hpzz13 hqz13 hqzz13 p_23))
  have j_102 := (TP_f (tg_493 F57) z_34)
  have j_103 := (W9_f (tg_494 F57) j_54)
  have j_104 := (AN_F F57 tg_573 z_35)
  have j_105 := (NE_r F57.2.1 (NE_q hpqz13 p_23 jNE))
  have j_106 := (W8_f (tg_495 F57) (W8_f (tg_496 F18) jW8))
  exact h M73 (u5) (u6) ⟨⟨⟨⟨⟨⟨⟨⟨⟨hG58, ⟨j_98, j_99, j_100, j_101⟩, ⟨p_60, p_61, p_62, p_63, p_64⟩, by (first | (clear hpz13 hpzz13 hqz13 hqzz13 z_16 p_20 p_21 p_26 p_29 p_65 p_66 p_67 p_71 p_72; omega) | (clear hpz13 hpzz13 hqz13 hqzz13 p_29 p_71 p_72; omega) | (clear hpz13 hpzz13 hqz13 z_16 p_20 p_21 p_26 p_29 p_65 p_66 p_67 p_71 p_72; omega) | omega), by (first | (clear hpz13 hpzz13 hqz13 hqzz13 z_16 p_20 p_21 p_26 p_29 p_65 p_66 p_67 p_71 p_72; omega) | (clear hpz13 hpzz13 hqz13 hqzz13 p_29 p_71 p_72; omega) | (clear hpz13 hpzz13 hqz13 z_16 p_20 p_21 p_26 p_29 p_65 p_66 p_67 p_71 p_72; omega) | omega)⟩, j_102, j_103⟩, j_105, by (first | (clear hpz13 hpzz13 hqz13 hqzz13 z_16 p_20 p_21 p_26 p_29 p_65 p_66 p_67 p_71 p_72; omega) | (clear hpz13 hpzz13 hqz13 hqzz13 p_29 p_71 p_72; omega) | (clear hpz13 hpzz13 hqz13 z_16 p_20 p_21 p_26 p_29 p_65 p_66 p_67 p_71 p_72; omega) | omega)⟩, AN_a j_104⟩, by (first | (clear hpz13 hpzz13 hqz13 hqzz13 z_16 p_20 p_21 p_26 p_29 p_65 p_66 p_67 p_71 p_72; omega) | (clear hpz13 hpzz13 hqz13 hqzz13 p_29 p_71 p_72; omega) | (clear hpz13 hpzz13 hqz13 z_16 p_20 p_21 p_26 p_29 p_65 p_66 p_67 p_71 p_72; omega) | omega)⟩, j_106⟩, by (first | (clear hpz13 hpzz13 hqz13 hqzz13 z_16 p_20 p_21 p_26 p_29 p_65 p_66 p_67 p_71 p_72; omega) | (clear hpz13 hpzz13 hqz13 hqzz13 p_29 p_71 p_72; omega) | (clear hpz13 hpzz13 hqz13 z_16 p_20 p_21 p_26 p_29 p_65 p_66 p_67 p_71 p_72; omega) | omega)⟩, j_104⟩, z_83⟩ (by (first | (clear hpz13 hpzz13 hqz13 hqzz13 z_16 p_20 p_21 p_26 p_29 p_65 p_66 p_67 p_71 p_72; omega) | (clear hpz13 hpzz13 hqz13 hqzz13 p_29 p_71 p_72; omega) | (clear hpz13 hpzz13 hqz13 z_16 p_20 p_21 p_26 p_29 p_65 p_66 p_67 p_71 p_72; omega) | omega)) (by (first | (clear hpz13 hpzz13 hqz13 hqzz13 z_16 p_20 p_21 p_26 p_29 p_65 p_66 p_67 p_71 p_72; omega) | (clear hpz13 hpzz13 hqz13 hqzz13 p_29 p_71 p_72; omega) | (clear hpz13 hpzz13 hqz13 z_16 p_20 p_21 p_26 p_29 p_65 p_66 p_67 p_71 p_72; omega) | omega))
