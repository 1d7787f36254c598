set_option maxRecDepth 4000 in
set_option maxHeartbeats 0 in
theorem LW_3 {X : mm_X} {d L : Nat} {M : mm_M} {Q : Option Value → mm_M → Prop} {i : Int32} {u5 u6 : Value} (hX : g_X X) (hW : g_W X) (hW2 : g_W2 X) (hL : (X 0).1 = L) (h3 : L ≤ 3072) (hd : 40 ≤ d) (hi : 0 ≤ i.toInt) (hi2 : i.toInt + 6 ≤ (L : Int)) (H : LI10 M) (h : ∀ (M1 : mm_M) (v5 v6 : Value), LI10 M1 → M1.1.2.1 ≤ M.1.2.1 + 1 → M1.1.2.2.1 ≤ M.1.2.2.1 + 6 → mm_T X d 0 1313 [.ref mm_ext, .ref 0, .ref 77, .ref 125, .int i, v5, v6] [] M1 Q) : mm_T X d 0 299 [.ref mm_ext, .ref 0, .ref 77, .ref 125, .int i, u5, u6] [] M Q := by
  obtain ⟨⟨⟨⟨⟨⟨⟨⟨⟨hG, ⟨jPI, jNI, jQI, jPQE⟩, ⟨jFA, jWC, jNJ, jPS, jKQ⟩, jJ, jE⟩, jTP, jW9⟩, jNE, jCC⟩, -⟩, jOV⟩, jW8⟩, jNN⟩, jAN⟩, jFF, jFP⟩ := H
  have b_1 := g_b hG (a := 77) (i := 7) (lo := 0) (hi := 500) rfl rfl
  have b_2 := g_b hG (a := 77) (i := 6) (lo := 0) (hi := 500) rfl rfl
  have b_3 := g_b hG (a := 1) (i := 1) (lo := 0) (hi := 500) rfl rfl
  have b_4 := g_b hG (a := 77) (i := 1) (lo := 0) (hi := 500) rfl rfl
  have b_5 := g_b hG (a := 0) (i := 12) (lo := 0) (hi := 30) rfl rfl
  have b_6 := g_b hG (a := 77) (i := 28) (lo := 0) (hi := 30) rfl rfl
  have b_7 := g_b hG (a := 6) (i := 0) (lo := 0) (hi := 150) rfl rfl
  have b_8 := g_b hG (a := 77) (i := 29) (lo := 0) (hi := 150) rfl rfl
  refine to_an (pc := 299) rw_0_299 rfl (to_an (pc := 300) rw_0_300 rfl (to_i (pc := 301) rw_0_301 rfl (to_c (pc := 303) rw_0_303 (x := (1 : Int32)) rfl rfl (s_add (pc := 304) rw_0_304 (A := i.toInt) (B := 1) rfl rfl (by omega) (fun v9 e10 => s_x0 (pc := 305) rw_0_305 hL (A := v9.toInt) rfl (by omega) (by omega) (fun v11 e12 => s_v (pc := 306) rw_0_306 (dp0 hd (by decide)) (ls0 := [.ref 0, .int v11, .null]) rfl (Nat.le_of_ble_eq_true rfl) (Nat.le_of_ble_eq_true rfl) rfl (to_rc rfl rfl rfl (g_o hG rfl)) rfl ?_))))))
  obtain ⟨pz13, pzz13, qz13, qzz13, hpz13, hpzz13, hqz13, hqzz13, hpqz13⟩ := id jPQE
  obtain ⟨sg, NN, nz, ca, hs1, hs2, hn1, hn2, hn3, hn4, hn5⟩ := AN_u jAN hpqz13
  obtain ⟨t, nn, hn1, hT1, hR1⟩ := TP_X (n := v11.toInt) jTP
  refine D_113 hX (dp1 hd (by decide)) hG hpz13 hpzz13 hqz13 hqzz13 hpqz13 jQI jPI jNI (by (first | (clear hpz13 hpzz13 hqz13 hqzz13; omega) | (clear hpz13 hpzz13 hqz13; omega) | omega)) hT1 hW hs1.1 (n := v11) (t := t) (nn := nn) (sg := sg) (p := pz13) (pz := pzz13) (q := qz13) (qz := qzz13) (fun r14 M30 hG16 F15 p_17 p_18 p_19 p_20 p_21 p_22 p_23 p_24 p_25 p_26 p_27 p_28 p_29 => ?_)
  have n_31 : M30.1.2.1 = M.1.2.1 ∧ M30.1.2.2.1 = M.1.2.2.1 := by rw [F15.1]; exact ⟨rfl, rfl⟩
  have b_33 := g_b hG16 (a := 1) (i := 1) (lo := 0) (hi := 500) rfl rfl
  have z_34 := FQ_c p_24 p_23 p_27 p_29
  clear p_24 p_23 p_27 p_29
  have z_35 := TP_s jTP (by (first | (clear hpz13 hpzz13 hqz13 hqzz13 p_17 p_18 p_25 p_26; omega) | (clear hpz13 hpzz13 hqz13 hqzz13; omega) | (clear hpz13 hpzz13 hqz13 p_17 p_18 p_25 p_26; omega) | omega)) (fun a i z => (Fx_n F15 (show ¬ (a = 1 ∨ 3 ≤ a ∧ a ≤ 5 ∨ 67 ≤ a ∧ a ≤ 76) by (first | (clear hpz13 hpzz13 hqz13 hqzz13 p_17 p_18 p_25 p_26; omega) | (clear hpz13 hpzz13 hqz13 hqzz13; omega) | (clear hpz13 hpzz13 hqz13 p_17 p_18 p_25 p_26; omega) | omega)) rfl))
  have z_36 := AN_X F15 (fun a i z => show ¬ (a = 1 ∨ 3 ≤ a ∧ a ≤ 5 ∨ 67 ≤ a ∧ a ≤ 76) by (first | (clear hpz13 hpzz13 hqz13 hqzz13 p_17 p_18 p_25 p_26; omega) | (clear hpz13 hpzz13 hqz13 hqzz13; omega) | (clear hpz13 hpzz13 hqz13 p_17 p_18 p_25 p_26; omega) | omega)) (QQ_8 hpqz13 p_20) jAN
  refine to_popi (pc := 309) rw_0_309 (to_an (pc := 310) rw_0_310 rfl (to_an (pc := 311) rw_0_311 rfl (to_i (pc := 312) rw_0_312 rfl (to_c (pc := 314) rw_0_314 (x := (1 : Int32)) rfl rfl (s_addk (pc := 315) rw_0_315 (A := i.toInt) (B := 1) rfl rfl (by (first | (clear hpz13 hpzz13 hqz13 hqzz13 p_17 p_18 p_25 p_26; omega) | (clear hpz13 hpzz13 hqz13 hqzz13; omega) | (clear hpz13 hpzz13 hqz13 p_17 p_18 p_25 p_26; omega) | omega)) (v := v9) e10 (s_x0k (pc := 316) rw_0_316 hL (A := v9.toInt) rfl (by (first | (clear hpz13 hpzz13 hqz13 hqzz13 p_17 p_18 p_25 p_26; omega) | (clear hpz13 hpzz13 hqz13 hqzz13; omega) | (clear hpz13 hpzz13 hqz13 p_17 p_18 p_25 p_26; omega) | omega)) (by (first | (clear hpz13 hpzz13 hqz13 hqzz13 p_17 p_18 p_25 p_26; omega) | (clear hpz13 hpzz13 hqz13 hqzz13; omega) | (clear hpz13 hpzz13 hqz13 p_17 p_18 p_25 p_26; omega) | omega)) (v := v11) e12 (s_v (pc := 317) rw_0_317 (dp0 hd (by decide)) (ls0 := [.ref 77, .int v11, .null]) rfl (Nat.le_of_ble_eq_true rfl) (Nat.le_of_ble_eq_true rfl) rfl (to_rc rfl rfl rfl (g_o hG16 rfl)) rfl ?_)))))))
  have c_39 : M30.2.1 77 1 = (M.2.1 77 1) := (Fx_n F15 (show ¬ (77 = 1 ∨ 3 ≤ 77 ∧ 77 ≤ 5 ∨ 67 ≤ 77 ∧ 77 ≤ 76) by decide) rfl)
  have t_40 : (M30.2.1 77 1).toInt = (M.2.1 77 1).toInt := congrArg Int32.toInt c_39
  have c_41 : M30.2.1 77 4 = (M.2.1 77 4) := (Fx_n F15 (show ¬ (77 = 1 ∨ 3 ≤ 77 ∧ 77 ≤ 5 ∨ 67 ≤ 77 ∧ 77 ≤ 76) by decide) rfl)
  have t_42 : (M30.2.1 77 4).toInt = (M.2.1 77 4).toInt := congrArg Int32.toInt c_41
  have c_43 : M30.2.1 77 5 = (M.2.1 77 5) := (Fx_n F15 (show ¬ (77 = 1 ∨ 3 ≤ 77 ∧ 77 ≤ 5 ∨ 67 ≤ 77 ∧ 77 ≤ 76) by decide) rfl)
  have t_44 : (M30.2.1 77 5).toInt = (M.2.1 77 5).toInt := congrArg Int32.toInt c_43
  have c_45 : M30.2.1 77 7 = (M.2.1 77 7) := (Fx_n F15 (show ¬ (77 = 1 ∨ 3 ≤ 77 ∧ 77 ≤ 5 ∨ 67 ≤ 77 ∧ 77 ≤ 76) by decide) rfl)
  have t_46 : (M30.2.1 77 7).toInt = (M.2.1 77 7).toInt := congrArg Int32.toInt c_45
  have c_47 : M30.2.1 77 6 = (M.2.1 77 6) := (Fx_n F15 (show ¬ (77 = 1 ∨ 3 ≤ 77 ∧ 77 ≤ 5 ∨ 67 ≤ 77 ∧ 77 ≤ 76) by decide) rfl)
  have t_48 : (M30.2.1 77 6).toInt = (M.2.1 77 6).toInt := congrArg Int32.toInt c_47
  have j_49 := (FA_f (tg_550 F15) jFA)
  have j_50 := (WC_f (tg_551 F15) jWC)
  have j_51 := (NJ_f (tg_552 F15) jNJ)
  have j_52 := (PS_f (tg_553 F15) jPS)
  have j_53 := (KQ_f (tg_554 F15) jKQ)
  have j_54 := (TR_f (tg_555 F15) hR1)
  have j_55 := (W9_f (tg_556 F15) jW9)
  have j_56 := (PLk_f (tg_557 F15) hs2.1)
  refine D_227 hX (dp1 hd (by decide)) hG16 (by (first | (clear hpz13 hpzz13 hqz13 hqzz13 p_17 p_18 p_25 p_26; omega) | (clear hpz13 hpzz13 hqz13 hqzz13; omega) | (clear hpz13 hpzz13 hqz13 p_17 p_18 p_25 p_26; omega) | omega)) j_49 j_50 j_51 j_52 j_53 (by (first | (clear hpz13 hpzz13 hqz13 hqzz13 p_17 p_18 p_25 p_26; omega) | (clear hpz13 hpzz13 hqz13 hqzz13; omega) | (clear hpz13 hpzz13 hqz13 p_17 p_18 p_25 p_26; omega) | omega)) j_54 j_55 j_56 (n := v11) (t := t) (nn := nn) (sg := sg) (fun r57 M74 hG59 F58 p_60 p_61 p_62 p_63 p_64 p_65 p_66 p_67 p_68 p_69 p_70 p_71 p_72 p_73 => ?_)
  have n_75 : M74.1.2.1 = M30.1.2.1 ∧ M74.1.2.2.1 = M30.1.2.2.1 := by rw [F58.1]; exact ⟨rfl, rfl⟩
  have b_77 := g_b hG59 (a := 77) (i := 7) (lo := 0) (hi := 500) rfl rfl
  have b_78 := g_b hG59 (a := 77) (i := 6) (lo := 0) (hi := 500) rfl rfl
  have b_79 := g_b hG59 (a := 77) (i := 1) (lo := 0) (hi := 500) rfl rfl
  have z_80 := QAN_q (h1 := (M.2.1 1 1).toInt) (h2 := (M30.2.1 77 1).toInt) (by (first | (clear hpz13 hpzz13 hqz13 hqzz13 p_17 p_18 p_25 p_26 p_66 p_67 p_68 p_69 p_70 p_71 p_73; omega) | (clear hpz13 hpzz13 hqz13 hqzz13 p_17 p_18 p_25 p_26 p_66 p_67 p_69 p_70 p_71 p_73; omega) | (clear hpz13 hpzz13 hqz13 hqzz13; omega) | (clear hpz13 hpzz13 hqz13 p_17 p_18 p_25 p_26 p_66 p_67 p_68 p_69 p_70 p_71 p_73; omega) | omega)) p_25 p_70 p_26 p_71
  have z_81 := FL_q (h1 := (M.2.1 1 1).toInt) (h2 := (M30.2.1 77 1).toInt) (by (first | (clear hpz13 hpzz13 hqz13 hqzz13 p_17 p_18 p_25 p_26 p_66 p_67 p_68 p_69 p_70 p_71 p_73; omega) | (clear hpz13 hpzz13 hqz13 hqzz13 p_17 p_18 p_25 p_26 p_66 p_67 p_69 p_70 p_71 p_73; omega) | (clear hpz13 hpzz13 hqz13 hqzz13; omega) | (clear hpz13 hpzz13 hqz13 p_17 p_18 p_25 p_26 p_66 p_67 p_68 p_69 p_70 p_71 p_73; omega) | omega)) z_80 (by (first | (clear hpz13 hpzz13 hqz13 hqzz13 p_17 p_18 p_25 p_26 p_66 p_67 p_68 p_69 p_70 p_71 p_73; omega) | (clear hpz13 hpzz13 hqz13 hqzz13 p_17 p_18 p_25 p_26 p_66 p_67 p_69 p_70 p_71 p_73; omega) | (clear hpz13 hpzz13 hqz13 hqzz13; omega) | (clear hpz13 hpzz13 hqz13 p_17 p_18 p_25 p_26 p_66 p_67 p_68 p_69 p_70 p_71 p_73; omega) | omega)) z_34.1 p_69 p_25 (by (first | (clear hpz13 hpzz13 hqz13 hqzz13 p_17 p_18 p_25 p_26 p_66 p_67 p_68 p_69 p_70 p_71 p_73; omega) | (clear hpz13 hpzz13 hqz13 hqzz13 p_17 p_18 p_25 p_26 p_66 p_67 p_69 p_70 p_71 p_73; omega) | (clear hpz13 hpzz13 hqz13 hqzz13; omega) | (clear hpz13 hpzz13 hqz13 p_17 p_18 p_25 p_26 p_66 p_67 p_68 p_69 p_70 p_71 p_73; omega) | omega)) (by (first | (clear hpz13 hpzz13 hqz13 hqzz13 p_17 p_18 p_25 p_26 p_66 p_67 p_68 p_69 p_70 p_71 p_73; omega) | (clear hpz13 hpzz13 hqz13 hqzz13 p_17 p_18 p_25 p_26 p_66 p_67 p_69 p_70 p_71 p_73; omega) | (clear hpz13 hpzz13 hqz13 hqzz13; omega) | (clear hpz13 hpzz13 hqz13 p_17 p_18 p_25 p_26 p_66 p_67 p_68 p_69 p_70 p_71 p_73; omega) | omega)) z_34.2.1 p_68 z_34.2.2.1 p_73 (fun z => by have z2 := z_34.2.2.2 z; omega)
  clear p_69 p_68 p_73
  refine to_popi (pc := 320) rw_0_320 (to_go (pc := 321) rw_0_321 ?_)
  have c_82 : M74.2.1 1 1 = (M30.2.1 1 1) := (F_n F58 (show ¬ (1 = 77 ∧ (1 ≤ 1 ∧ 1 ≤ 2 ∨ 4 ≤ 1 ∧ 1 ≤ 10 ∨ 57 ≤ 1 ∧ 1 ≤ 59 ∨ 65 ≤ 1 ∧ 1 ≤ 69) ∨ 112 ≤ 1 ∧ 1 ≤ 116) by decide) rfl)
  have t_83 : (M74.2.1 1 1).toInt = (M30.2.1 1 1).toInt := congrArg Int32.toInt c_82
  have c_84 : M74.2.1 0 12 = (M.2.1 0 12) := (F_n F58 (show ¬ (0 = 77 ∧ (1 ≤ 12 ∧ 12 ≤ 2 ∨ 4 ≤ 12 ∧ 12 ≤ 10 ∨ 57 ≤ 12 ∧ 12 ≤ 59 ∨ 65 ≤ 12 ∧ 12 ≤ 69) ∨ 112 ≤ 0 ∧ 0 ≤ 116) by decide) (Fx_n F15 (show ¬ (0 = 1 ∨ 3 ≤ 0 ∧ 0 ≤ 5 ∨ 67 ≤ 0 ∧ 0 ≤ 76) by decide) rfl))
  have t_85 : (M74.2.1 0 12).toInt = (M.2.1 0 12).toInt := congrArg Int32.toInt c_84
  have c_86 : M74.2.1 77 28 = (M.2.1 77 28) := (F_n F58 (show ¬ (77 = 77 ∧ (1 ≤ 28 ∧ 28 ≤ 2 ∨ 4 ≤ 28 ∧ 28 ≤ 10 ∨ 57 ≤ 28 ∧ 28 ≤ 59 ∨ 65 ≤ 28 ∧ 28 ≤ 69) ∨ 112 ≤ 77 ∧ 77 ≤ 116) by decide) (Fx_n F15 (show ¬ (77 = 1 ∨ 3 ≤ 77 ∧ 77 ≤ 5 ∨ 67 ≤ 77 ∧ 77 ≤ 76) by decide) rfl))
  have t_87 : (M74.2.1 77 28).toInt = (M.2.1 77 28).toInt := congrArg Int32.toInt c_86
  have c_88 : M74.2.1 17 4 = (M.2.1 17 4) := (F_n F58 (show ¬ (17 = 77 ∧ (1 ≤ 4 ∧ 4 ≤ 2 ∨ 4 ≤ 4 ∧ 4 ≤ 10 ∨ 57 ≤ 4 ∧ 4 ≤ 59 ∨ 65 ≤ 4 ∧ 4 ≤ 69) ∨ 112 ≤ 17 ∧ 17 ≤ 116) by decide) (Fx_n F15 (show ¬ (17 = 1 ∨ 3 ≤ 17 ∧ 17 ≤ 5 ∨ 67 ≤ 17 ∧ 17 ≤ 76) by decide) rfl))
  have t_89 : (M74.2.1 17 4).toInt = (M.2.1 17 4).toInt := congrArg Int32.toInt c_88
  have c_90 : M74.2.1 77 41 = (M.2.1 77 41) := (F_n F58 (show ¬ (77 = 77 ∧ (1 ≤ 41 ∧ 41 ≤ 2 ∨ 4 ≤ 41 ∧ 41 ≤ 10 ∨ 57 ≤ 41 ∧ 41 ≤ 59 ∨ 65 ≤ 41 ∧ 41 ≤ 69) ∨ 112 ≤ 77 ∧ 77 ≤ 116) by decide) (Fx_n F15 (show ¬ (77 = 1 ∨ 3 ≤ 77 ∧ 77 ≤ 5 ∨ 67 ≤ 77 ∧ 77 ≤ 76) by decide) rfl))
  have t_91 : (M74.2.1 77 41).toInt = (M.2.1 77 41).toInt := congrArg Int32.toInt c_90
  have c_92 : M74.2.1 6 0 = (M.2.1 6 0) := (F_n F58 (show ¬ (6 = 77 ∧ (1 ≤ 0 ∧ 0 ≤ 2 ∨ 4 ≤ 0 ∧ 0 ≤ 10 ∨ 57 ≤ 0 ∧ 0 ≤ 59 ∨ 65 ≤ 0 ∧ 0 ≤ 69) ∨ 112 ≤ 6 ∧ 6 ≤ 116) by decide) (Fx_n F15 (show ¬ (6 = 1 ∨ 3 ≤ 6 ∧ 6 ≤ 5 ∨ 67 ≤ 6 ∧ 6 ≤ 76) by decide) rfl))
  have t_93 : (M74.2.1 6 0).toInt = (M.2.1 6 0).toInt := congrArg Int32.toInt c_92
  have c_94 : M74.2.1 77 29 = (M.2.1 77 29) := (F_n F58 (show ¬ (77 = 77 ∧ (1 ≤ 29 ∧ 29 ≤ 2 ∨ 4 ≤ 29 ∧ 29 ≤ 10 ∨ 57 ≤ 29 ∧ 29 ≤ 59 ∨ 65 ≤ 29 ∧ 29 ≤ 69) ∨ 112 ≤ 77 ∧ 77 ≤ 116) by decide) (Fx_n F15 (show ¬ (77 = 1 ∨ 3 ≤ 77 ∧ 77 ≤ 5 ∨ 67 ≤ 77 ∧ 77 ≤ 76) by decide) rfl))
  have t_95 : (M74.2.1 77 29).toInt = (M.2.1 77 29).toInt := congrArg Int32.toInt c_94
  have c_96 : M74.2.1 1 10 = (M30.2.1 1 10) := (F_n F58 (show ¬ (1 = 77 ∧ (1 ≤ 10 ∧ 10 ≤ 2 ∨ 4 ≤ 10 ∧ 10 ≤ 10 ∨ 57 ≤ 10 ∧ 10 ≤ 59 ∨ 65 ≤ 10 ∧ 10 ≤ 69) ∨ 112 ≤ 1 ∧ 1 ≤ 116) by decide) rfl)
  have t_97 : (M74.2.1 1 10).toInt = (M30.2.1 1 10).toInt := congrArg Int32.toInt c_96
  have c_98 : M74.2.1 1 11 = (M30.2.1 1 11) := (F_n F58 (show ¬ (1 = 77 ∧ (1 ≤ 11 ∧ 11 ≤ 2 ∨ 4 ≤ 11 ∧ 11 ≤ 10 ∨ 57 ≤ 11 ∧ 11 ≤ 59 ∨ 65 ≤ 11 ∧ 11 ≤ 69) ∨ 112 ≤ 1 ∧ 1 ≤ 116) by decide) rfl)
  have t_99 : (M74.2.1 1 11).toInt = (M30.2.1 1 11).toInt := congrArg Int32.toInt c_98
  have j_100 := (PI_f (tg_558 F58) p_21)
  have j_101 := (NI_f (tg_559 F58) p_22)
  have j_102 := (QI_f (tg_560 F58) p_19)
  have j_103 := (PQE_r F58.2.1 (PQE_qq hpz13 hpzz13 hqz13 hqzz13 p_20))
  have j_104 := (TP_f (tg_561 F58) z_35)
  have j_105 := (W9_f (tg_562 F58) j_55)
  have j_106 := (AN_F F58 tg_640 z_36)
  have j_107 := (NE_r F58.2.1 (NE_q hpqz13 p_20 jNE))
  have j_108 := (W8_f (tg_563 F58) (W8_f (tg_564 F15) jW8))
  exact h M74 (u5) (u6) ⟨⟨⟨⟨⟨⟨⟨⟨⟨hG59, ⟨j_100, j_101, j_102, j_103⟩, ⟨p_61, p_62, p_63, p_64, p_65⟩, by (first | (clear hpz13 hpzz13 hqz13 hqzz13 p_17 p_18 p_25 p_26 p_66 p_67 p_70 p_71; omega) | (clear hpz13 hpzz13 hqz13 hqzz13; omega) | (clear hpz13 hpzz13 hqz13 p_17 p_18 p_25 p_26 p_66 p_67 p_70 p_71; omega) | omega), by (first | (clear hpz13 hpzz13 hqz13 hqzz13 p_17 p_18 p_25 p_26 p_66 p_67 p_70 p_71; omega) | (clear hpz13 hpzz13 hqz13 hqzz13; omega) | (clear hpz13 hpzz13 hqz13 p_17 p_18 p_25 p_26 p_66 p_67 p_70 p_71; omega) | omega)⟩, j_104, j_105⟩, j_107, by (first | (clear hpz13 hpzz13 hqz13 hqzz13 p_17 p_18 p_25 p_26 p_66 p_67 p_70 p_71; omega) | (clear hpz13 hpzz13 hqz13 hqzz13; omega) | (clear hpz13 hpzz13 hqz13 p_17 p_18 p_25 p_26 p_66 p_67 p_70 p_71; omega) | omega)⟩, AN_a j_106⟩, by (first | (clear hpz13 hpzz13 hqz13 hqzz13 p_17 p_18 p_25 p_26 p_66 p_67 p_70 p_71; omega) | (clear hpz13 hpzz13 hqz13 hqzz13; omega) | (clear hpz13 hpzz13 hqz13 p_17 p_18 p_25 p_26 p_66 p_67 p_70 p_71; omega) | omega)⟩, j_108⟩, by (first | (clear hpz13 hpzz13 hqz13 hqzz13 p_17 p_18 p_25 p_26 p_66 p_67 p_70 p_71; omega) | (clear hpz13 hpzz13 hqz13 hqzz13; omega) | (clear hpz13 hpzz13 hqz13 p_17 p_18 p_25 p_26 p_66 p_67 p_70 p_71; omega) | omega)⟩, j_106⟩, by (first | (clear hpz13 hpzz13 hqz13 hqzz13 p_17 p_18 p_25 p_26 p_66 p_67 p_70 p_71; omega) | (clear hpz13 hpzz13 hqz13 hqzz13; omega) | (clear hpz13 hpzz13 hqz13 p_17 p_18 p_25 p_26 p_66 p_67 p_70 p_71; omega) | omega), by (first | (clear hpz13 hpzz13 hqz13 hqzz13 p_17 p_18 p_25 p_26 p_66 p_67 p_70 p_71; omega) | (clear hpz13 hpzz13 hqz13 hqzz13; omega) | (clear hpz13 hpzz13 hqz13 p_17 p_18 p_25 p_26 p_66 p_67 p_70 p_71; omega) | omega)⟩ (by (first | (clear hpz13 hpzz13 hqz13 hqzz13 p_17 p_18 p_25 p_26 p_66 p_67 p_70 p_71; omega) | (clear hpz13 hpzz13 hqz13 hqzz13; omega) | (clear hpz13 hpzz13 hqz13 p_17 p_18 p_25 p_26 p_66 p_67 p_70 p_71; omega) | omega)) (by (first | (clear hpz13 hpzz13 hqz13 hqzz13 p_17 p_18 p_25 p_26 p_66 p_67 p_70 p_71; omega) | (clear hpz13 hpzz13 hqz13 hqzz13; omega) | (clear hpz13 hpzz13 hqz13 p_17 p_18 p_25 p_26 p_66 p_67 p_70 p_71; omega) | omega))
