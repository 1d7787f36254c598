set_option maxRecDepth 4000 in
set_option maxHeartbeats 0 in
theorem LW_2 {X : mm_X} {d L : Nat} {M : mm_M} {Q : Option Value → mm_M → Prop} {i : Int32} {u5 u6 : Value} (hX : g_X X) (hW : g_W X) (hW2 : g_W2 X) (hL : (X 0).1 = L) (h3 : L ≤ 3072) (hd : 40 ≤ d) (hi : 0 ≤ i.toInt) (hi2 : i.toInt + 6 ≤ (L : Int)) (H : LI10 M) (h : ∀ (M1 : mm_M) (v5 v6 : Value), LI10 M1 → M1.1.2.1 ≤ M.1.2.1 + 1 → M1.1.2.2.1 ≤ M.1.2.2.1 + 6 → mm_T X d 0 1313 [.ref mm_ext, .ref 0, .ref 77, .ref 125, .int i, v5, v6] [] M1 Q) : mm_T X d 0 274 [.ref mm_ext, .ref 0, .ref 77, .ref 125, .int i, u5, u6] [] M Q := by
  obtain ⟨⟨⟨⟨⟨⟨⟨⟨⟨hG, ⟨jPI, jNI, jQI, jPQE⟩, ⟨jFA, jWC, jNJ, jPS, jKQ⟩, jJ, jE⟩, jTP, jW9⟩, jNE, jCC⟩, -⟩, jOV⟩, jW8⟩, jNN⟩, jAN⟩, jFF, jFP⟩ := H
  have b_1 := g_b hG (a := 77) (i := 7) (lo := 0) (hi := 500) rfl rfl
  have b_2 := g_b hG (a := 77) (i := 6) (lo := 0) (hi := 500) rfl rfl
  have b_3 := g_b hG (a := 1) (i := 1) (lo := 0) (hi := 500) rfl rfl
  have b_4 := g_b hG (a := 77) (i := 1) (lo := 0) (hi := 500) rfl rfl
  have b_5 := g_b hG (a := 0) (i := 12) (lo := 0) (hi := 30) rfl rfl
  have b_6 := g_b hG (a := 77) (i := 28) (lo := 0) (hi := 30) rfl rfl
  have b_7 := g_b hG (a := 6) (i := 0) (lo := 0) (hi := 150) rfl rfl
  have b_8 := g_b hG (a := 77) (i := 29) (lo := 0) (hi := 150) rfl rfl
  refine to_an (pc := 274) rw_0_274 rfl (to_an (pc := 275) rw_0_275 rfl (to_i (pc := 276) rw_0_276 rfl (to_c (pc := 278) rw_0_278 (x := (1 : Int32)) rfl rfl (s_add (pc := 279) rw_0_279 (A := i.toInt) (B := 1) rfl rfl (by omega) (fun v9 e10 => s_x0 (pc := 280) rw_0_280 hL (A := v9.toInt) rfl (by omega) (by omega) (fun v11 e12 => s_v (pc := 281) rw_0_281 (dp0 hd (by decide)) (ls0 := [.ref 0, .int v11]) rfl (Nat.le_of_ble_eq_true rfl) (Nat.le_of_ble_eq_true rfl) rfl (to_rc rfl rfl rfl (g_o hG rfl)) rfl ?_))))))
  obtain ⟨pz13, pzz13, qz13, qzz13, hpz13, hpzz13, hqz13, hqzz13, hpqz13⟩ := id jPQE
  obtain ⟨sg, NN, nz, ca, hs1, hs2, hn1, hn2, hn3, hn4, hn5⟩ := AN_u jAN hpqz13
  obtain ⟨t, nn, hn1, hT1, hR1⟩ := TP_X (n := v11.toInt) jTP
  refine E_112 hX (dp1 hd (by decide)) hG hpz13 hpzz13 hqz13 hqzz13 hpqz13 jNI jPI jQI (by (first | (clear hpz13 hpzz13 hqz13 hqzz13; omega) | (clear hpz13 hpzz13 hqz13; omega) | omega)) hT1 hW hs1.1 (n := v11) (t := t) (nn := nn) (sg := sg) (p := pz13) (pz := pzz13) (q := qz13) (qz := qzz13) (fun r14 M29 hG16 F15 p_17 p_18 p_19 p_20 p_21 p_22 p_23 p_24 p_25 p_26 p_27 p_28 => ?_)
  have n_30 : M29.1.2.1 = M.1.2.1 ∧ M29.1.2.2.1 = M.1.2.2.1 := by rw [F15.1]; exact ⟨rfl, rfl⟩
  have b_32 := g_b hG16 (a := 1) (i := 1) (lo := 0) (hi := 500) rfl rfl
  have z_33 := FQ_c p_23 p_22 p_27 p_28
  clear p_23 p_22 p_27 p_28
  have z_34 := TP_s jTP (by (first | (clear hpz13 hpzz13 hqz13 hqzz13 p_17 p_18 p_24 p_26; omega) | (clear hpz13 hpzz13 hqz13 hqzz13; omega) | (clear hpz13 hpzz13 hqz13 p_17 p_18 p_24 p_26; omega) | omega)) (fun a i z => (F_n F15 (show ¬ (a = 1 ∨ 3 ≤ a ∧ a ≤ 5 ∨ 11 ≤ a ∧ a ≤ 16 ∨ 18 ≤ a ∧ a ≤ 48) by (first | (clear hpz13 hpzz13 hqz13 hqzz13 p_17 p_18 p_24 p_26; omega) | (clear hpz13 hpzz13 hqz13 hqzz13; omega) | (clear hpz13 hpzz13 hqz13 p_17 p_18 p_24 p_26; omega) | omega)) rfl))
  refine to_popi (pc := 284) rw_0_284 (to_an (pc := 285) rw_0_285 rfl (to_an (pc := 286) rw_0_286 rfl (to_i (pc := 287) rw_0_287 rfl (to_c (pc := 289) rw_0_289 (x := (1 : Int32)) rfl rfl (s_addk (pc := 290) rw_0_290 (A := i.toInt) (B := 1) rfl rfl (by (first | (clear hpz13 hpzz13 hqz13 hqzz13 p_17 p_18 p_24 p_26; omega) | (clear hpz13 hpzz13 hqz13 hqzz13; omega) | (clear hpz13 hpzz13 hqz13 p_17 p_18 p_24 p_26; omega) | omega)) (v := v9) e10 (s_x0k (pc := 291) rw_0_291 hL (A := v9.toInt) rfl (by (first | (clear hpz13 hpzz13 hqz13 hqzz13 p_17 p_18 p_24 p_26; omega) | (clear hpz13 hpzz13 hqz13 hqzz13; omega) | (clear hpz13 hpzz13 hqz13 p_17 p_18 p_24 p_26; omega) | omega)) (by (first | (clear hpz13 hpzz13 hqz13 hqzz13 p_17 p_18 p_24 p_26; omega) | (clear hpz13 hpzz13 hqz13 hqzz13; omega) | (clear hpz13 hpzz13 hqz13 p_17 p_18 p_24 p_26; omega) | omega)) (v := v11) e12 (s_v (pc := 292) rw_0_292 (dp0 hd (by decide)) (ls0 := [.ref 77, .int v11]) rfl (Nat.le_of_ble_eq_true rfl) (Nat.le_of_ble_eq_true rfl) rfl (to_rc rfl rfl rfl (g_o hG16 rfl)) rfl ?_)))))))
  have c_37 : M29.2.1 77 1 = (M.2.1 77 1) := (F_n F15 (show ¬ (77 = 1 ∨ 3 ≤ 77 ∧ 77 ≤ 5 ∨ 11 ≤ 77 ∧ 77 ≤ 16 ∨ 18 ≤ 77 ∧ 77 ≤ 48) by decide) rfl)
  have t_38 : (M29.2.1 77 1).toInt = (M.2.1 77 1).toInt := congrArg Int32.toInt c_37
  have c_39 : M29.2.1 77 4 = (M.2.1 77 4) := (F_n F15 (show ¬ (77 = 1 ∨ 3 ≤ 77 ∧ 77 ≤ 5 ∨ 11 ≤ 77 ∧ 77 ≤ 16 ∨ 18 ≤ 77 ∧ 77 ≤ 48) by decide) rfl)
  have t_40 : (M29.2.1 77 4).toInt = (M.2.1 77 4).toInt := congrArg Int32.toInt c_39
  have c_41 : M29.2.1 77 5 = (M.2.1 77 5) := (F_n F15 (show ¬ (77 = 1 ∨ 3 ≤ 77 ∧ 77 ≤ 5 ∨ 11 ≤ 77 ∧ 77 ≤ 16 ∨ 18 ≤ 77 ∧ 77 ≤ 48) by decide) rfl)
  have t_42 : (M29.2.1 77 5).toInt = (M.2.1 77 5).toInt := congrArg Int32.toInt c_41
  have c_43 : M29.2.1 77 42 = (M.2.1 77 42) := (F_n F15 (show ¬ (77 = 1 ∨ 3 ≤ 77 ∧ 77 ≤ 5 ∨ 11 ≤ 77 ∧ 77 ≤ 16 ∨ 18 ≤ 77 ∧ 77 ≤ 48) by decide) rfl)
  have t_44 : (M29.2.1 77 42).toInt = (M.2.1 77 42).toInt := congrArg Int32.toInt c_43
  have c_45 : M29.2.1 77 43 = (M.2.1 77 43) := (F_n F15 (show ¬ (77 = 1 ∨ 3 ≤ 77 ∧ 77 ≤ 5 ∨ 11 ≤ 77 ∧ 77 ≤ 16 ∨ 18 ≤ 77 ∧ 77 ≤ 48) by decide) rfl)
  have b_46 := g_b hG (a := 77) (i := 43) (lo := 0) (hi := 3000) rfl rfl
  have t_47 : (M29.2.1 77 43).toInt = (M.2.1 77 43).toInt := congrArg Int32.toInt c_45
  have c_48 : M29.2.1 77 7 = (M.2.1 77 7) := (F_n F15 (show ¬ (77 = 1 ∨ 3 ≤ 77 ∧ 77 ≤ 5 ∨ 11 ≤ 77 ∧ 77 ≤ 16 ∨ 18 ≤ 77 ∧ 77 ≤ 48) by decide) rfl)
  have t_49 : (M29.2.1 77 7).toInt = (M.2.1 77 7).toInt := congrArg Int32.toInt c_48
  have c_50 : M29.2.1 77 6 = (M.2.1 77 6) := (F_n F15 (show ¬ (77 = 1 ∨ 3 ≤ 77 ∧ 77 ≤ 5 ∨ 11 ≤ 77 ∧ 77 ≤ 16 ∨ 18 ≤ 77 ∧ 77 ≤ 48) by decide) rfl)
  have t_51 : (M29.2.1 77 6).toInt = (M.2.1 77 6).toInt := congrArg Int32.toInt c_50
  have j_52 := (FA_f (tg_535 F15) jFA)
  have j_53 := (WC_f (tg_536 F15) jWC)
  have j_54 := (NJ_f (tg_537 F15) jNJ)
  have j_55 := (PS_f (tg_538 F15) jPS)
  have j_56 := (KQ_f (tg_539 F15) jKQ)
  have j_57 := (TR_f (tg_540 F15) hR1)
  have j_58 := (W9_f (tg_541 F15) jW9)
  have j_59 := (PLk_f (tg_542 F15) hs2.1)
  refine E_219 hX (dp1 hd (by decide)) hG16 (by (first | (clear hpz13 hpzz13 hqz13 hqzz13 p_17 p_18 p_24 p_26; omega) | (clear hpz13 hpzz13 hqz13 hqzz13; omega) | (clear hpz13 hpzz13 hqz13 p_17 p_18 p_24 p_26; omega) | omega)) j_52 j_53 j_54 j_55 j_56 (by (first | (clear hpz13 hpzz13 hqz13 hqzz13 p_17 p_18 p_24 p_26; omega) | (clear hpz13 hpzz13 hqz13 hqzz13; omega) | (clear hpz13 hpzz13 hqz13 p_17 p_18 p_24 p_26; omega) | omega)) j_57 j_58 j_59 (n := v11) (t := t) (nn := nn) (sg := sg) (fun r60 M78 hG62 F61 p_63 p_64 p_65 p_66 p_67 p_68 p_69 p_70 p_71 p_72 p_73 p_74 p_75 p_76 p_77 => ?_)
  have n_79 : M78.1.2.1 = M29.1.2.1 ∧ M78.1.2.2.1 = M29.1.2.2.1 := by rw [F61.1]; exact ⟨rfl, rfl⟩
  have b_81 := g_b hG62 (a := 77) (i := 7) (lo := 0) (hi := 500) rfl rfl
  have b_82 := g_b hG62 (a := 77) (i := 6) (lo := 0) (hi := 500) rfl rfl
  have b_83 := g_b hG62 (a := 77) (i := 1) (lo := 0) (hi := 500) rfl rfl
  have b_84 := g_b hG62 (a := 77) (i := 43) (lo := 0) (hi := 3000) rfl rfl
  have z_85 := WAN_q (h1 := (M.2.1 1 1).toInt) (h2 := (M29.2.1 77 1).toInt) (by (first | (clear hpz13 hpzz13 hqz13 hqzz13 p_17 p_18 p_24 p_26 p_69 p_70 p_71 p_72 p_73 p_75 p_76 p_77; omega) | (clear hpz13 hpzz13 hqz13 hqzz13 p_17 p_18 p_24 p_26 p_69 p_70 p_72 p_73 p_76 p_77; omega) | (clear hpz13 hpzz13 hqz13 hqzz13; omega) | (clear hpz13 hpzz13 hqz13 p_17 p_18 p_24 p_26 p_69 p_70 p_71 p_72 p_73 p_75 p_76 p_77; omega) | omega)) p_24 p_73 p_26 p_76
  have z_86 := z_85.1
  have z_87 := FL_q (h1 := (M.2.1 1 1).toInt) (h2 := (M29.2.1 77 1).toInt) (by (first | (clear hpz13 hpzz13 hqz13 hqzz13 p_17 p_18 p_24 p_26 p_69 p_70 p_71 p_72 p_73 p_75 p_76 p_77 z_85; omega) | (clear hpz13 hpzz13 hqz13 hqzz13 p_17 p_18 p_24 p_26 p_69 p_70 p_72 p_73 p_76 p_77 z_85; omega) | (clear hpz13 hpzz13 hqz13 hqzz13; omega) | (clear hpz13 hpzz13 hqz13 p_17 p_18 p_24 p_26 p_69 p_70 p_71 p_72 p_73 p_75 p_76 p_77 z_85; omega) | omega)) z_85.1 (by (first | (clear hpz13 hpzz13 hqz13 hqzz13 p_17 p_18 p_24 p_26 p_69 p_70 p_71 p_72 p_73 p_75 p_76 p_77 z_85; omega) | (clear hpz13 hpzz13 hqz13 hqzz13 p_17 p_18 p_24 p_26 p_69 p_70 p_72 p_73 p_76 p_77 z_85; omega) | (clear hpz13 hpzz13 hqz13 hqzz13; omega) | (clear hpz13 hpzz13 hqz13 p_17 p_18 p_24 p_26 p_69 p_70 p_71 p_72 p_73 p_75 p_76 p_77 z_85; omega) | omega)) z_33.1 p_72 p_24 (by (first | (clear hpz13 hpzz13 hqz13 hqzz13 p_17 p_18 p_24 p_26 p_69 p_70 p_71 p_72 p_73 p_75 p_76 p_77 z_85; omega) | (clear hpz13 hpzz13 hqz13 hqzz13 p_17 p_18 p_24 p_26 p_69 p_70 p_72 p_73 p_76 p_77 z_85; omega) | (clear hpz13 hpzz13 hqz13 hqzz13; omega) | (clear hpz13 hpzz13 hqz13 p_17 p_18 p_24 p_26 p_69 p_70 p_71 p_72 p_73 p_75 p_76 p_77 z_85; omega) | omega)) (by (first | (clear hpz13 hpzz13 hqz13 hqzz13 p_17 p_18 p_24 p_26 p_69 p_70 p_71 p_72 p_73 p_75 p_76 p_77 z_85; omega) | (clear hpz13 hpzz13 hqz13 hqzz13 p_17 p_18 p_24 p_26 p_69 p_70 p_72 p_73 p_76 p_77 z_85; omega) | (clear hpz13 hpzz13 hqz13 hqzz13; omega) | (clear hpz13 hpzz13 hqz13 p_17 p_18 p_24 p_26 p_69 p_70 p_71 p_72 p_73 p_75 p_76 p_77 z_85; omega) | omega)) z_33.2.1 p_71 z_33.2.2.1 p_77 (fun z => by have z2 := z_33.2.2.2 z; omega)
  clear p_72 p_71 p_77
  refine to_popi (pc := 295) rw_0_295 (to_go (pc := 296) rw_0_296 ?_)
  have c_88 : M78.2.1 1 1 = (M29.2.1 1 1) := (F_n F61 (show ¬ (1 = 77 ∧ (1 ≤ 1 ∧ 1 ≤ 2 ∨ 4 ≤ 1 ∧ 1 ≤ 10 ∨ 42 ≤ 1 ∧ 1 ≤ 44 ∨ 1 = 52) ∨ 94 ≤ 1 ∧ 1 ≤ 111) by decide) rfl)
  have t_89 : (M78.2.1 1 1).toInt = (M29.2.1 1 1).toInt := congrArg Int32.toInt c_88
  have c_90 : M78.2.1 0 12 = (M.2.1 0 12) := (F_n F61 (show ¬ (0 = 77 ∧ (1 ≤ 12 ∧ 12 ≤ 2 ∨ 4 ≤ 12 ∧ 12 ≤ 10 ∨ 42 ≤ 12 ∧ 12 ≤ 44 ∨ 12 = 52) ∨ 94 ≤ 0 ∧ 0 ≤ 111) by decide) (F_n F15 (show ¬ (0 = 1 ∨ 3 ≤ 0 ∧ 0 ≤ 5 ∨ 11 ≤ 0 ∧ 0 ≤ 16 ∨ 18 ≤ 0 ∧ 0 ≤ 48) by decide) rfl))
  have t_91 : (M78.2.1 0 12).toInt = (M.2.1 0 12).toInt := congrArg Int32.toInt c_90
  have c_92 : M78.2.1 77 28 = (M.2.1 77 28) := (F_n F61 (show ¬ (77 = 77 ∧ (1 ≤ 28 ∧ 28 ≤ 2 ∨ 4 ≤ 28 ∧ 28 ≤ 10 ∨ 42 ≤ 28 ∧ 28 ≤ 44 ∨ 28 = 52) ∨ 94 ≤ 77 ∧ 77 ≤ 111) by decide) (F_n F15 (show ¬ (77 = 1 ∨ 3 ≤ 77 ∧ 77 ≤ 5 ∨ 11 ≤ 77 ∧ 77 ≤ 16 ∨ 18 ≤ 77 ∧ 77 ≤ 48) by decide) rfl))
  have t_93 : (M78.2.1 77 28).toInt = (M.2.1 77 28).toInt := congrArg Int32.toInt c_92
  have c_94 : M78.2.1 17 4 = (M.2.1 17 4) := (F_n F61 (show ¬ (17 = 77 ∧ (1 ≤ 4 ∧ 4 ≤ 2 ∨ 4 ≤ 4 ∧ 4 ≤ 10 ∨ 42 ≤ 4 ∧ 4 ≤ 44 ∨ 4 = 52) ∨ 94 ≤ 17 ∧ 17 ≤ 111) by decide) (F_n F15 (show ¬ (17 = 1 ∨ 3 ≤ 17 ∧ 17 ≤ 5 ∨ 11 ≤ 17 ∧ 17 ≤ 16 ∨ 18 ≤ 17 ∧ 17 ≤ 48) by decide) rfl))
  have t_95 : (M78.2.1 17 4).toInt = (M.2.1 17 4).toInt := congrArg Int32.toInt c_94
  have c_96 : M78.2.1 77 41 = (M.2.1 77 41) := (F_n F61 (show ¬ (77 = 77 ∧ (1 ≤ 41 ∧ 41 ≤ 2 ∨ 4 ≤ 41 ∧ 41 ≤ 10 ∨ 42 ≤ 41 ∧ 41 ≤ 44 ∨ 41 = 52) ∨ 94 ≤ 77 ∧ 77 ≤ 111) by decide) (F_n F15 (show ¬ (77 = 1 ∨ 3 ≤ 77 ∧ 77 ≤ 5 ∨ 11 ≤ 77 ∧ 77 ≤ 16 ∨ 18 ≤ 77 ∧ 77 ≤ 48) by decide) rfl))
  have t_97 : (M78.2.1 77 41).toInt = (M.2.1 77 41).toInt := congrArg Int32.toInt c_96
  have c_98 : M78.2.1 6 0 = (M.2.1 6 0) := (F_n F61 (show ¬ (6 = 77 ∧ (1 ≤ 0 ∧ 0 ≤ 2 ∨ 4 ≤ 0 ∧ 0 ≤ 10 ∨ 42 ≤ 0 ∧ 0 ≤ 44 ∨ 0 = 52) ∨ 94 ≤ 6 ∧ 6 ≤ 111) by decide) (F_n F15 (show ¬ (6 = 1 ∨ 3 ≤ 6 ∧ 6 ≤ 5 ∨ 11 ≤ 6 ∧ 6 ≤ 16 ∨ 18 ≤ 6 ∧ 6 ≤ 48) by decide) rfl))
  have t_99 : (M78.2.1 6 0).toInt = (M.2.1 6 0).toInt := congrArg Int32.toInt c_98
  have c_100 : M78.2.1 77 29 = (M.2.1 77 29) := (F_n F61 (show ¬ (77 = 77 ∧ (1 ≤ 29 ∧ 29 ≤ 2 ∨ 4 ≤ 29 ∧ 29 ≤ 10 ∨ 42 ≤ 29 ∧ 29 ≤ 44 ∨ 29 = 52) ∨ 94 ≤ 77 ∧ 77 ≤ 111) by decide) (F_n F15 (show ¬ (77 = 1 ∨ 3 ≤ 77 ∧ 77 ≤ 5 ∨ 11 ≤ 77 ∧ 77 ≤ 16 ∨ 18 ≤ 77 ∧ 77 ≤ 48) by decide) rfl))
  have t_101 : (M78.2.1 77 29).toInt = (M.2.1 77 29).toInt := congrArg Int32.toInt c_100
  have c_102 : M78.2.1 1 10 = (M29.2.1 1 10) := (F_n F61 (show ¬ (1 = 77 ∧ (1 ≤ 10 ∧ 10 ≤ 2 ∨ 4 ≤ 10 ∧ 10 ≤ 10 ∨ 42 ≤ 10 ∧ 10 ≤ 44 ∨ 10 = 52) ∨ 94 ≤ 1 ∧ 1 ≤ 111) by decide) rfl)
  have t_103 : (M78.2.1 1 10).toInt = (M29.2.1 1 10).toInt := congrArg Int32.toInt c_102
  have c_104 : M78.2.1 1 11 = (M29.2.1 1 11) := (F_n F61 (show ¬ (1 = 77 ∧ (1 ≤ 11 ∧ 11 ≤ 2 ∨ 4 ≤ 11 ∧ 11 ≤ 10 ∨ 42 ≤ 11 ∧ 11 ≤ 44 ∨ 11 = 52) ∨ 94 ≤ 1 ∧ 1 ≤ 111) by decide) rfl)
  have t_105 : (M78.2.1 1 11).toInt = (M29.2.1 1 11).toInt := congrArg Int32.toInt c_104
  have j_106 := (PI_f (tg_543 F61) p_19)
  have j_107 := (NI_f (tg_544 F61) p_20)
  have j_108 := (QI_f (tg_545 F61) p_21)
  have j_109 := (PQE_r F61.2.1 (PQE_r F15.2.1 jPQE))
  have j_110 := (TP_f (tg_546 F61) z_34)
  have j_111 := (W9_f (tg_547 F61) j_58)
  have j_112 := (AN_F F61 tg_638 (AN_F F15 tg_639 jAN))
  have j_113 := (NE_r F61.2.1 (NE_r F15.2.1 jNE))
  have j_114 := (W8_f (tg_548 F61) (W8_f (tg_549 F15) jW8))
  exact h M78 (u5) (u6) ⟨⟨⟨⟨⟨⟨⟨⟨⟨hG62, ⟨j_106, j_107, j_108, j_109⟩, ⟨p_64, p_65, p_66, p_67, p_68⟩, by (first | (clear hpz13 hpzz13 hqz13 hqzz13 p_17 p_18 p_24 p_26 p_69 p_70 p_73 p_75 p_76 z_85; omega) | (clear hpz13 hpzz13 hqz13 hqzz13 p_17 p_18 p_24 p_26 p_69 p_70 p_73 p_76 z_85; omega) | (clear hpz13 hpzz13 hqz13 hqzz13; omega) | (clear hpz13 hpzz13 hqz13 p_17 p_18 p_24 p_26 p_69 p_70 p_73 p_75 p_76 z_85; omega) | omega), by (first | (clear hpz13 hpzz13 hqz13 hqzz13 p_17 p_18 p_24 p_26 p_69 p_70 p_73 p_75 p_76 z_85; omega) | (clear hpz13 hpzz13 hqz13 hqzz13 p_17 p_18 p_24 p_26 p_69 p_70 p_73 p_76 z_85; omega) | (clear hpz13 hpzz13 hqz13 hqzz13; omega) | (clear hpz13 hpzz13 hqz13 p_17 p_18 p_24 p_26 p_69 p_70 p_73 p_75 p_76 z_85; omega) | omega)⟩, j_110, j_111⟩, j_113, by (first | (clear hpz13 hpzz13 hqz13 hqzz13 p_17 p_18 p_24 p_26 p_69 p_70 p_73 p_75 p_76 z_85; omega) | (clear hpz13 hpzz13 hqz13 hqzz13 p_17 p_18 p_24 p_26 p_69 p_70 p_73 p_76 z_85; omega) | (clear hpz13 hpzz13 hqz13 hqzz13; omega) | (clear hpz13 hpzz13 hqz13 p_17 p_18 p_24 p_26 p_69 p_70 p_73 p_75 p_76 z_85; omega) | omega)⟩, AN_a j_112⟩, by (first | (clear hpz13 hpzz13 hqz13 hqzz13 p_17 p_18 p_24 p_26 p_69 p_70 p_73 p_75 p_76 z_85; omega) | (clear hpz13 hpzz13 hqz13 hqzz13 p_17 p_18 p_24 p_26 p_69 p_70 p_73 p_76 z_85; omega) | (clear hpz13 hpzz13 hqz13 hqzz13; omega) | (clear hpz13 hpzz13 hqz13 p_17 p_18 p_24 p_26 p_69 p_70 p_73 p_75 p_76 z_85; omega) | omega)⟩, j_114⟩, by (first | (clear hpz13 hpzz13 hqz13 hqzz13 p_17 p_18 p_24 p_26 p_69 p_70 p_73 p_75 p_76 z_85; omega) | (clear hpz13 hpzz13 hqz13 hqzz13 p_17 p_18 p_24 p_26 p_69 p_70 p_73 p_76 z_85; omega) | (clear hpz13 hpzz13 hqz13 hqzz13; omega) | (clear hpz13 hpzz13 hqz13 p_17 p_18 p_24 p_26 p_69 p_70 p_73 p_75 p_76 z_85; omega) | omega)⟩, j_112⟩, by (first | (clear hpz13 hpzz13 hqz13 hqzz13 p_17 p_18 p_24 p_26 p_69 p_70 p_73 p_75 p_76 z_85; omega) | (clear hpz13 hpzz13 hqz13 hqzz13 p_17 p_18 p_24 p_26 p_69 p_70 p_73 p_76 z_85; omega) | (clear hpz13 hpzz13 hqz13 hqzz13; omega) | (clear hpz13 hpzz13 hqz13 p_17 p_18 p_24 p_26 p_69 p_70 p_73 p_75 p_76 z_85; omega) | omega), by (first | (clear hpz13 hpzz13 hqz13 hqzz13 p_17 p_18 p_24 p_26 p_69 p_70 p_73 p_75 p_76 z_85; omega) | (clear hpz13 hpzz13 hqz13 hqzz13 p_17 p_18 p_24 p_26 p_69 p_70 p_73 p_76 z_85; omega) | (clear hpz13 hpzz13 hqz13 hqzz13; omega) | (clear hpz13 hpzz13 hqz13 p_17 p_18 p_24 p_26 p_69 p_70 p_73 p_75 p_76 z_85; omega) | omega)⟩ (by (first | (clear hpz13 hpzz13 hqz13 hqzz13 p_17 p_18 p_24 p_26 p_69 p_70 p_73 p_75 p_76 z_85; omega) | (clear hpz13 hpzz13 hqz13 hqzz13 p_17 p_18 p_24 p_26 p_69 p_70 p_73 p_76 z_85; omega) | (clear hpz13 hpzz13 hqz13 hqzz13; omega) | (clear hpz13 hpzz13 hqz13 p_17 p_18 p_24 p_26 p_69 p_70 p_73 p_75 p_76 z_85; omega) | omega)) (by (first | (clear hpz13 hpzz13 hqz13 hqzz13 p_17 p_18 p_24 p_26 p_69 p_70 p_73 p_75 p_76 z_85; omega) | (clear hpz13 hpzz13 hqz13 hqzz13 p_17 p_18 p_24 p_26 p_69 p_70 p_73 p_76 z_85; omega) | (clear hpz13 hpzz13 hqz13 hqzz13; omega) | (clear hpz13 hpzz13 hqz13 p_17 p_18 p_24 p_26 p_69 p_70 p_73 p_75 p_76 z_85; omega) | omega))
