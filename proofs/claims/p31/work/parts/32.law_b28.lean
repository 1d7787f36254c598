set_option maxRecDepth 4000 in
set_option maxHeartbeats 0 in
theorem LW_28 {X : mm_X} {d L : Nat} {M : mm_M} {Q : Option Value → mm_M → Prop} {i : Int32} {u5 u6 : Value} (hX : g_X X) (hW : g_W X) (hW2 : g_W2 X) (hL : (X 0).1 = L) (h3 : L ≤ 3072) (hd : 40 ≤ d) (hi : 0 ≤ i.toInt) (hi2 : i.toInt + 6 ≤ (L : Int)) (H : LI10 M) (h : ∀ (M1 : mm_M) (v5 v6 : Value), LI10 M1 → M1.1.2.1 ≤ M.1.2.1 + 1 → M1.1.2.2.1 ≤ M.1.2.2.1 + 6 → mm_T X d 0 1313 [.ref mm_ext, .ref 0, .ref 77, .ref 125, .int i, v5, v6] [] M1 Q) : mm_T X d 0 1239 [.ref mm_ext, .ref 0, .ref 77, .ref 125, .int i, u5, u6] [] M Q := by
  obtain ⟨⟨⟨⟨⟨⟨⟨⟨⟨hG, ⟨jPI, jNI, jQI, jPQE⟩, ⟨jFA, jWC, jNJ, jPS, jKQ⟩, jJ, jE⟩, jTP, jW9⟩, jNE, jCC⟩, -⟩, jOV⟩, jW8⟩, jNN⟩, jAN⟩, jKNA, jDN, jPN⟩ := H
  have b_1 := g_b hG (a := 77) (i := 7) (lo := 0) (hi := 500) rfl rfl
  have b_2 := g_b hG (a := 77) (i := 6) (lo := 0) (hi := 500) rfl rfl
  have b_3 := g_b hG (a := 1) (i := 1) (lo := 0) (hi := 500) rfl rfl
  have b_4 := g_b hG (a := 77) (i := 1) (lo := 0) (hi := 500) rfl rfl
  have b_5 := g_b hG (a := 0) (i := 12) (lo := 0) (hi := 30) rfl rfl
  have b_6 := g_b hG (a := 77) (i := 28) (lo := 0) (hi := 30) rfl rfl
  have b_7 := g_b hG (a := 6) (i := 0) (lo := 0) (hi := 150) rfl rfl
  have b_8 := g_b hG (a := 77) (i := 29) (lo := 0) (hi := 150) rfl rfl
  have b_9 := g_b hG (a := 28) (i := 8) (lo := 0) (hi := 3000) rfl rfl
  have b_10 := g_b hG (a := 77) (i := 43) (lo := 0) (hi := 3000) rfl rfl
  refine to_an (pc := 1239) rw_0_1239 rfl (to_an (pc := 1240) rw_0_1240 rfl (to_i (pc := 1241) rw_0_1241 rfl (to_c (pc := 1243) rw_0_1243 (x := (1 : Int32)) rfl rfl (s_add (pc := 1244) rw_0_1244 (A := i.toInt) (B := 1) rfl rfl (by omega) (fun v11 e12 => s_x0 (pc := 1245) rw_0_1245 hL (A := v11.toInt) rfl (by omega) (by omega) (fun v13 e14 => to_an (pc := 1246) rw_0_1246 rfl (to_i (pc := 1247) rw_0_1247 rfl (to_c (pc := 1249) rw_0_1249 (x := (2 : Int32)) rfl rfl (s_add (pc := 1250) rw_0_1250 (A := i.toInt) (B := 2) rfl rfl (by omega) (fun v15 e16 => s_x0 (pc := 1251) rw_0_1251 hL (A := v15.toInt) rfl (by omega) (by omega) (fun v17 e18 => to_an (pc := 1252) rw_0_1252 rfl ?_)))))))))))
  refine to_i (pc := 1253) rw_0_1253 rfl (to_c (pc := 1255) rw_0_1255 (x := (3 : Int32)) rfl rfl (s_add (pc := 1256) rw_0_1256 (A := i.toInt) (B := 3) rfl rfl (by omega) (fun v19 e20 => s_x0 (pc := 1257) rw_0_1257 hL (A := v19.toInt) rfl (by omega) (by omega) (fun v21 e22 => s_v (pc := 1258) rw_0_1258 (dp0 hd (by decide)) (ls0 := [.ref 0, .int v13, .int v17, .int v21]) rfl (Nat.le_of_ble_eq_true rfl) (Nat.le_of_ble_eq_true rfl) rfl (to_rc rfl rfl rfl (g_o hG rfl)) rfl ?_))))
  obtain ⟨pz23, pzz23, qz23, qzz23, hpz23, hpzz23, hqz23, hqzz23, hpqz23⟩ := id jPQE
  refine C_137 hX (dp1 hd (by decide)) hG hpz23 hpzz23 hqz23 hqzz23 hpqz23 jNI jPI jQI (k := v13) (f := v17) (w := v21) (p := pz23) (pz := pzz23) (q := qz23) (qz := qzz23) (fun r24 M30 hG26 F25 p_27 p_28 p_29 => ?_)
  have n_31 : M30.1.2.1 = M.1.2.1 ∧ M30.1.2.2.1 = M.1.2.2.1 := by rw [F25.1]; exact ⟨rfl, rfl⟩
  refine to_popi (pc := 1261) rw_0_1261 (to_an (pc := 1262) rw_0_1262 rfl (to_an (pc := 1263) rw_0_1263 rfl (to_i (pc := 1264) rw_0_1264 rfl (to_c (pc := 1266) rw_0_1266 (x := (1 : Int32)) rfl rfl (s_addk (pc := 1267) rw_0_1267 (A := i.toInt) (B := 1) rfl rfl (by (first | (clear hpz23 hpzz23 hqz23 hqzz23; omega) | (clear hpz23 hpzz23 hqz23; omega) | omega)) (v := v11) e12 (s_x0k (pc := 1268) rw_0_1268 hL (A := v11.toInt) rfl (by (first | (clear hpz23 hpzz23 hqz23 hqzz23; omega) | (clear hpz23 hpzz23 hqz23; omega) | omega)) (by (first | (clear hpz23 hpzz23 hqz23 hqzz23; omega) | (clear hpz23 hpzz23 hqz23; omega) | omega)) (v := v13) e14 (to_an (pc := 1269) rw_0_1269 rfl (to_i (pc := 1270) rw_0_1270 rfl (to_c (pc := 1272) rw_0_1272 (x := (2 : Int32)) rfl rfl (s_addk (pc := 1273) rw_0_1273 (A := i.toInt) (B := 2) rfl rfl (by (first | (clear hpz23 hpzz23 hqz23 hqzz23; omega) | (clear hpz23 hpzz23 hqz23; omega) | omega)) (v := v15) e16 (s_x0k (pc := 1274) rw_0_1274 hL (A := v15.toInt) rfl (by (first | (clear hpz23 hpzz23 hqz23 hqzz23; omega) | (clear hpz23 hpzz23 hqz23; omega) | omega)) (by (first | (clear hpz23 hpzz23 hqz23 hqzz23; omega) | (clear hpz23 hpzz23 hqz23; omega) | omega)) (v := v17) e18 ?_)))))))))))
  refine to_an (pc := 1275) rw_0_1275 rfl (to_i (pc := 1276) rw_0_1276 rfl (to_c (pc := 1278) rw_0_1278 (x := (3 : Int32)) rfl rfl (s_addk (pc := 1279) rw_0_1279 (A := i.toInt) (B := 3) rfl rfl (by (first | (clear hpz23 hpzz23 hqz23 hqzz23; omega) | (clear hpz23 hpzz23 hqz23; omega) | omega)) (v := v19) e20 (s_x0k (pc := 1280) rw_0_1280 hL (A := v19.toInt) rfl (by (first | (clear hpz23 hpzz23 hqz23 hqzz23; omega) | (clear hpz23 hpzz23 hqz23; omega) | omega)) (by (first | (clear hpz23 hpzz23 hqz23 hqzz23; omega) | (clear hpz23 hpzz23 hqz23; omega) | omega)) (v := v21) e22 (s_v (pc := 1281) rw_0_1281 (dp0 hd (by decide)) (ls0 := [.ref 77, .int v13, .int v17, .int v21, .null, .null, .null]) rfl (Nat.le_of_ble_eq_true rfl) (Nat.le_of_ble_eq_true rfl) rfl (to_rc rfl rfl rfl (g_o hG26 rfl)) rfl ?_)))))
  have j_39 := (NJ_f (tg_572 F25) jNJ)
  have j_40 := (FA_f (tg_577 F25) jFA)
  refine C_245 hX (dp1 hd (by decide)) hG26 j_39 j_40 (p := v13) (f := v17) (w := v21) (fun r41 M44 hG43 F42 => ?_)
  have n_45 : M44.1.2.1 = M30.1.2.1 ∧ M44.1.2.2.1 = M30.1.2.2.1 := by rw [F42.1]; exact ⟨rfl, rfl⟩
  refine to_popi (pc := 1284) rw_0_1284 (to_go (pc := 1285) rw_0_1285 ?_)
  have c_47 : M44.2.1 77 7 = (M.2.1 77 7) := (F_n F42 (show ¬ (77 = 77 ∧ 7 = 2 ∨ 94 ≤ 77 ∧ 77 ≤ 98 ∨ 121 ≤ 77 ∧ 77 ≤ 124) by decide) (F_n F25 (show ¬ (11 ≤ 77 ∧ 77 ≤ 16 ∨ 18 ≤ 77 ∧ 77 ≤ 27 ∨ 36 ≤ 77 ∧ 77 ≤ 48) by decide) rfl))
  have t_48 : (M44.2.1 77 7).toInt = (M.2.1 77 7).toInt := congrArg Int32.toInt c_47
  have c_49 : M44.2.1 77 6 = (M.2.1 77 6) := (F_n F42 (show ¬ (77 = 77 ∧ 6 = 2 ∨ 94 ≤ 77 ∧ 77 ≤ 98 ∨ 121 ≤ 77 ∧ 77 ≤ 124) by decide) (F_n F25 (show ¬ (11 ≤ 77 ∧ 77 ≤ 16 ∨ 18 ≤ 77 ∧ 77 ≤ 27 ∨ 36 ≤ 77 ∧ 77 ≤ 48) by decide) rfl))
  have t_50 : (M44.2.1 77 6).toInt = (M.2.1 77 6).toInt := congrArg Int32.toInt c_49
  have c_51 : M44.2.1 1 1 = (M.2.1 1 1) := (F_n F42 (show ¬ (1 = 77 ∧ 1 = 2 ∨ 94 ≤ 1 ∧ 1 ≤ 98 ∨ 121 ≤ 1 ∧ 1 ≤ 124) by decide) (F_n F25 (show ¬ (11 ≤ 1 ∧ 1 ≤ 16 ∨ 18 ≤ 1 ∧ 1 ≤ 27 ∨ 36 ≤ 1 ∧ 1 ≤ 48) by decide) rfl))
  have t_52 : (M44.2.1 1 1).toInt = (M.2.1 1 1).toInt := congrArg Int32.toInt c_51
  have c_53 : M44.2.1 77 1 = (M.2.1 77 1) := (F_n F42 (show ¬ (77 = 77 ∧ 1 = 2 ∨ 94 ≤ 77 ∧ 77 ≤ 98 ∨ 121 ≤ 77 ∧ 77 ≤ 124) by decide) (F_n F25 (show ¬ (11 ≤ 77 ∧ 77 ≤ 16 ∨ 18 ≤ 77 ∧ 77 ≤ 27 ∨ 36 ≤ 77 ∧ 77 ≤ 48) by decide) rfl))
  have t_54 : (M44.2.1 77 1).toInt = (M.2.1 77 1).toInt := congrArg Int32.toInt c_53
  have c_55 : M44.2.1 0 12 = (M.2.1 0 12) := (F_n F42 (show ¬ (0 = 77 ∧ 12 = 2 ∨ 94 ≤ 0 ∧ 0 ≤ 98 ∨ 121 ≤ 0 ∧ 0 ≤ 124) by decide) (F_n F25 (show ¬ (11 ≤ 0 ∧ 0 ≤ 16 ∨ 18 ≤ 0 ∧ 0 ≤ 27 ∨ 36 ≤ 0 ∧ 0 ≤ 48) by decide) rfl))
  have t_56 : (M44.2.1 0 12).toInt = (M.2.1 0 12).toInt := congrArg Int32.toInt c_55
  have c_57 : M44.2.1 77 28 = (M.2.1 77 28) := (F_n F42 (show ¬ (77 = 77 ∧ 28 = 2 ∨ 94 ≤ 77 ∧ 77 ≤ 98 ∨ 121 ≤ 77 ∧ 77 ≤ 124) by decide) (F_n F25 (show ¬ (11 ≤ 77 ∧ 77 ≤ 16 ∨ 18 ≤ 77 ∧ 77 ≤ 27 ∨ 36 ≤ 77 ∧ 77 ≤ 48) by decide) rfl))
  have t_58 : (M44.2.1 77 28).toInt = (M.2.1 77 28).toInt := congrArg Int32.toInt c_57
  have c_59 : M44.2.1 17 4 = (M.2.1 17 4) := (F_n F42 (show ¬ (17 = 77 ∧ 4 = 2 ∨ 94 ≤ 17 ∧ 17 ≤ 98 ∨ 121 ≤ 17 ∧ 17 ≤ 124) by decide) (F_n F25 (show ¬ (11 ≤ 17 ∧ 17 ≤ 16 ∨ 18 ≤ 17 ∧ 17 ≤ 27 ∨ 36 ≤ 17 ∧ 17 ≤ 48) by decide) rfl))
  have t_60 : (M44.2.1 17 4).toInt = (M.2.1 17 4).toInt := congrArg Int32.toInt c_59
  have c_61 : M44.2.1 77 41 = (M.2.1 77 41) := (F_n F42 (show ¬ (77 = 77 ∧ 41 = 2 ∨ 94 ≤ 77 ∧ 77 ≤ 98 ∨ 121 ≤ 77 ∧ 77 ≤ 124) by decide) (F_n F25 (show ¬ (11 ≤ 77 ∧ 77 ≤ 16 ∨ 18 ≤ 77 ∧ 77 ≤ 27 ∨ 36 ≤ 77 ∧ 77 ≤ 48) by decide) rfl))
  have t_62 : (M44.2.1 77 41).toInt = (M.2.1 77 41).toInt := congrArg Int32.toInt c_61
  have c_63 : M44.2.1 6 0 = (M.2.1 6 0) := (F_n F42 (show ¬ (6 = 77 ∧ 0 = 2 ∨ 94 ≤ 6 ∧ 6 ≤ 98 ∨ 121 ≤ 6 ∧ 6 ≤ 124) by decide) (F_n F25 (show ¬ (11 ≤ 6 ∧ 6 ≤ 16 ∨ 18 ≤ 6 ∧ 6 ≤ 27 ∨ 36 ≤ 6 ∧ 6 ≤ 48) by decide) rfl))
  have t_64 : (M44.2.1 6 0).toInt = (M.2.1 6 0).toInt := congrArg Int32.toInt c_63
  have c_65 : M44.2.1 77 29 = (M.2.1 77 29) := (F_n F42 (show ¬ (77 = 77 ∧ 29 = 2 ∨ 94 ≤ 77 ∧ 77 ≤ 98 ∨ 121 ≤ 77 ∧ 77 ≤ 124) by decide) (F_n F25 (show ¬ (11 ≤ 77 ∧ 77 ≤ 16 ∨ 18 ≤ 77 ∧ 77 ≤ 27 ∨ 36 ≤ 77 ∧ 77 ≤ 48) by decide) rfl))
  have t_66 : (M44.2.1 77 29).toInt = (M.2.1 77 29).toInt := congrArg Int32.toInt c_65
  have c_67 : M44.2.1 28 8 = (M.2.1 28 8) := (F_n F42 (show ¬ (28 = 77 ∧ 8 = 2 ∨ 94 ≤ 28 ∧ 28 ≤ 98 ∨ 121 ≤ 28 ∧ 28 ≤ 124) by decide) (F_n F25 (show ¬ (11 ≤ 28 ∧ 28 ≤ 16 ∨ 18 ≤ 28 ∧ 28 ≤ 27 ∨ 36 ≤ 28 ∧ 28 ≤ 48) by decide) rfl))
  have t_68 : (M44.2.1 28 8).toInt = (M.2.1 28 8).toInt := congrArg Int32.toInt c_67
  have c_69 : M44.2.1 77 43 = (M.2.1 77 43) := (F_n F42 (show ¬ (77 = 77 ∧ 43 = 2 ∨ 94 ≤ 77 ∧ 77 ≤ 98 ∨ 121 ≤ 77 ∧ 77 ≤ 124) by decide) (F_n F25 (show ¬ (11 ≤ 77 ∧ 77 ≤ 16 ∨ 18 ≤ 77 ∧ 77 ≤ 27 ∨ 36 ≤ 77 ∧ 77 ≤ 48) by decide) rfl))
  have t_70 : (M44.2.1 77 43).toInt = (M.2.1 77 43).toInt := congrArg Int32.toInt c_69
  have c_71 : M44.2.1 28 9 = (M.2.1 28 9) := (F_n F42 (show ¬ (28 = 77 ∧ 9 = 2 ∨ 94 ≤ 28 ∧ 28 ≤ 98 ∨ 121 ≤ 28 ∧ 28 ≤ 124) by decide) (F_n F25 (show ¬ (11 ≤ 28 ∧ 28 ≤ 16 ∨ 18 ≤ 28 ∧ 28 ≤ 27 ∨ 36 ≤ 28 ∧ 28 ≤ 48) by decide) rfl))
  have t_72 : (M44.2.1 28 9).toInt = (M.2.1 28 9).toInt := congrArg Int32.toInt c_71
  have c_73 : M44.2.1 77 42 = (M.2.1 77 42) := (F_n F42 (show ¬ (77 = 77 ∧ 42 = 2 ∨ 94 ≤ 77 ∧ 77 ≤ 98 ∨ 121 ≤ 77 ∧ 77 ≤ 124) by decide) (F_n F25 (show ¬ (11 ≤ 77 ∧ 77 ≤ 16 ∨ 18 ≤ 77 ∧ 77 ≤ 27 ∨ 36 ≤ 77 ∧ 77 ≤ 48) by decide) rfl))
  have t_74 : (M44.2.1 77 42).toInt = (M.2.1 77 42).toInt := congrArg Int32.toInt c_73
  have j_75 := (PI_f (tg_729 F42) p_27)
  have j_76 := (NI_f (tg_730 F42) p_28)
  have j_77 := (QI_f (tg_731 F42) p_29)
  have j_78 := (PQE_r F42.2.1 (PQE_r F25.2.1 jPQE))
  have j_79 := (FA_f (tg_732 F42) j_40)
  have j_80 := (WC_f (tg_733 F42) (WC_f (tg_579 F25) jWC))
  have j_81 := (NJ_f (tg_734 F42) j_39)
  have j_82 := (PS_f (tg_735 F42) (PS_f (tg_582 F25) jPS))
  have j_83 := (KQ_f (tg_736 F42) (KQ_f (tg_584 F25) jKQ))
  have j_84 := (TP_f (tg_737 F42) (TP_f (tg_586 F25) jTP))
  have j_85 := (W9_f (tg_738 F42) (W9_f (tg_588 F25) jW9))
  have j_86 := (AN_F F42 tg_750 (AN_F F25 tg_636 jAN))
  have j_87 := (KNA_F F42 (fun a i z => show ¬ (a = 77 ∧ i = 2 ∨ 94 ≤ a ∧ a ≤ 98 ∨ 121 ≤ a ∧ a ≤ 124) by (first | (clear hpz23 hpzz23 hqz23 hqzz23; omega) | (clear hpz23 hpzz23 hqz23; omega) | omega)) (KNA_F F25 (fun a i z => show ¬ (11 ≤ a ∧ a ≤ 16 ∨ 18 ≤ a ∧ a ≤ 27 ∨ 36 ≤ a ∧ a ≤ 48) by (first | (clear hpz23 hpzz23 hqz23 hqzz23; omega) | (clear hpz23 hpzz23 hqz23; omega) | omega)) jKNA))
  have j_88 := (NE_r F42.2.1 (NE_r F25.2.1 jNE))
  have j_89 := (W8_f (tg_739 F42) (W8_f (tg_590 F25) jW8))
  exact h M44 (u5) (u6) ⟨⟨⟨⟨⟨⟨⟨⟨⟨hG43, ⟨j_75, j_76, j_77, j_78⟩, ⟨j_79, j_80, j_81, j_82, j_83⟩, by (first | (clear hpz23 hpzz23 hqz23 hqzz23; omega) | (clear hpz23 hpzz23 hqz23; omega) | omega), by (first | (clear hpz23 hpzz23 hqz23 hqzz23; omega) | (clear hpz23 hpzz23 hqz23; omega) | omega)⟩, j_84, j_85⟩, j_88, by (first | (clear hpz23 hpzz23 hqz23 hqzz23; omega) | (clear hpz23 hpzz23 hqz23; omega) | omega)⟩, AN_a j_86⟩, by (first | (clear hpz23 hpzz23 hqz23 hqzz23; omega) | (clear hpz23 hpzz23 hqz23; omega) | omega)⟩, j_89⟩, by (first | (clear hpz23 hpzz23 hqz23 hqzz23; omega) | (clear hpz23 hpzz23 hqz23; omega) | omega)⟩, j_86⟩, j_87, by (first | (clear hpz23 hpzz23 hqz23 hqzz23; omega) | (clear hpz23 hpzz23 hqz23; omega) | omega), by (first | (clear hpz23 hpzz23 hqz23 hqzz23; omega) | (clear hpz23 hpzz23 hqz23; omega) | omega)⟩ (by (first | (clear hpz23 hpzz23 hqz23 hqzz23; omega) | (clear hpz23 hpzz23 hqz23; omega) | omega)) (by (first | (clear hpz23 hpzz23 hqz23 hqzz23; omega) | (clear hpz23 hpzz23 hqz23; omega) | omega))
