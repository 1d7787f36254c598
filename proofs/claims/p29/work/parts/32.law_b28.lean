set_option maxRecDepth 4000 in
set_option maxHeartbeats 0 in
theorem LW_28 {X : mm_X} {d L : Nat} {M : mm_M} {Q : Option Value → mm_M → Prop} {i : Int32} {u5 u6 : Value} (hX : g_X X) (hW : g_W X) (hW2 : g_W2 X) (hL : (X 0).1 = L) (h3 : L ≤ 3072) (hd : 40 ≤ d) (hi : 0 ≤ i.toInt) (hi2 : i.toInt + 6 ≤ (L : Int)) (H : LI10 M) (h : ∀ (M1 : mm_M) (v5 v6 : Value), LI10 M1 → M1.1.2.1 ≤ M.1.2.1 + 1 → M1.1.2.2.1 ≤ M.1.2.2.1 + 6 → mm_T X d 0 1313 [.ref mm_ext, .ref 0, .ref 77, .ref 125, .int i, v5, v6] [] M1 Q) : mm_T X d 0 1239 [.ref mm_ext, .ref 0, .ref 77, .ref 125, .int i, u5, u6] [] M Q := by
  obtain ⟨⟨⟨⟨⟨⟨⟨⟨⟨hG, ⟨jPI, jNI, jQI, jPQE⟩, ⟨jFA, jWC, jNJ, jPS, jKQ⟩, jJ, jE⟩, jTP, jW9⟩, jNE, jCC⟩, -⟩, jOV⟩, jW8⟩, jNN⟩, jAN⟩, jG8, jPKA⟩ := H
  have b_1 := g_b hG (a := 77) (i := 7) (lo := 0) (hi := 500) rfl rfl
  have b_2 := g_b hG (a := 77) (i := 6) (lo := 0) (hi := 500) rfl rfl
  have b_3 := g_b hG (a := 1) (i := 1) (lo := 0) (hi := 500) rfl rfl
  have b_4 := g_b hG (a := 77) (i := 1) (lo := 0) (hi := 500) rfl rfl
  have b_5 := g_b hG (a := 0) (i := 12) (lo := 0) (hi := 30) rfl rfl
  have b_6 := g_b hG (a := 77) (i := 28) (lo := 0) (hi := 30) rfl rfl
  have b_7 := g_b hG (a := 6) (i := 0) (lo := 0) (hi := 150) rfl rfl
  have b_8 := g_b hG (a := 77) (i := 29) (lo := 0) (hi := 150) rfl rfl
  refine to_an (pc := 1239) rw_0_1239 rfl (to_an (pc := 1240) rw_0_1240 rfl (to_i (pc := 1241) rw_0_1241 rfl (to_c (pc := 1243) rw_0_1243 (x := (1 : Int32)) rfl rfl (s_add (pc := 1244) rw_0_1244 (A := i.toInt) (B := 1) rfl rfl (by omega) (fun v9 e10 => s_x0 (pc := 1245) rw_0_1245 hL (A := v9.toInt) rfl (by omega) (by omega) (fun v11 e12 => to_an (pc := 1246) rw_0_1246 rfl (to_i (pc := 1247) rw_0_1247 rfl (to_c (pc := 1249) rw_0_1249 (x := (2 : Int32)) rfl rfl (s_add (pc := 1250) rw_0_1250 (A := i.toInt) (B := 2) rfl rfl (by omega) (fun v13 e14 => s_x0 (pc := 1251) rw_0_1251 hL (A := v13.toInt) rfl (by omega) (by omega) (fun v15 e16 => to_an (pc := 1252) rw_0_1252 rfl ?_)))))))))))
  refine to_i (pc := 1253) rw_0_1253 rfl (to_c (pc := 1255) rw_0_1255 (x := (3 : Int32)) rfl rfl (s_add (pc := 1256) rw_0_1256 (A := i.toInt) (B := 3) rfl rfl (by omega) (fun v17 e18 => s_x0 (pc := 1257) rw_0_1257 hL (A := v17.toInt) rfl (by omega) (by omega) (fun v19 e20 => s_v (pc := 1258) rw_0_1258 (dp0 hd (by decide)) (ls0 := [.ref 0, .int v11, .int v15, .int v19]) rfl (Nat.le_of_ble_eq_true rfl) (Nat.le_of_ble_eq_true rfl) rfl (to_rc rfl rfl rfl (g_o hG rfl)) rfl ?_))))
  obtain ⟨pz21, pzz21, qz21, qzz21, hpz21, hpzz21, hqz21, hqzz21, hpqz21⟩ := id jPQE
  refine C_137 hX (dp1 hd (by decide)) hG hpz21 hpzz21 hqz21 hqzz21 hpqz21 jNI jPI jQI (k := v11) (f := v15) (w := v19) (p := pz21) (pz := pzz21) (q := qz21) (qz := qzz21) (fun r22 M28 hG24 F23 p_25 p_26 p_27 => ?_)
  have n_29 : M28.1.2.1 = M.1.2.1 ∧ M28.1.2.2.1 = M.1.2.2.1 := by rw [F23.1]; exact ⟨rfl, rfl⟩
  refine to_popi (pc := 1261) rw_0_1261 (to_an (pc := 1262) rw_0_1262 rfl (to_an (pc := 1263) rw_0_1263 rfl (to_i (pc := 1264) rw_0_1264 rfl (to_c (pc := 1266) rw_0_1266 (x := (1 : Int32)) rfl rfl (s_addk (pc := 1267) rw_0_1267 (A := i.toInt) (B := 1) rfl rfl (by (first | (clear hpz21 hpzz21 hqz21 hqzz21; omega) | (clear hpz21 hpzz21 hqz21; omega) | omega)) (v := v9) e10 (s_x0k (pc := 1268) rw_0_1268 hL (A := v9.toInt) rfl (by (first | (clear hpz21 hpzz21 hqz21 hqzz21; omega) | (clear hpz21 hpzz21 hqz21; omega) | omega)) (by (first | (clear hpz21 hpzz21 hqz21 hqzz21; omega) | (clear hpz21 hpzz21 hqz21; omega) | omega)) (v := v11) e12 (to_an (pc := 1269) rw_0_1269 rfl (to_i (pc := 1270) rw_0_1270 rfl (to_c (pc := 1272) rw_0_1272 (x := (2 : Int32)) rfl rfl (s_addk (pc := 1273) rw_0_1273 (A := i.toInt) (B := 2) rfl rfl (by (first | (clear hpz21 hpzz21 hqz21 hqzz21; omega) | (clear hpz21 hpzz21 hqz21; omega) | omega)) (v := v13) e14 (s_x0k (pc := 1274) rw_0_1274 hL (A := v13.toInt) rfl (by (first | (clear hpz21 hpzz21 hqz21 hqzz21; omega) | (clear hpz21 hpzz21 hqz21; omega) | omega)) (by (first | (clear hpz21 hpzz21 hqz21 hqzz21; omega) | (clear hpz21 hpzz21 hqz21; omega) | omega)) (v := v15) e16 ?_)))))))))))
  refine to_an (pc := 1275) rw_0_1275 rfl (to_i (pc := 1276) rw_0_1276 rfl (to_c (pc := 1278) rw_0_1278 (x := (3 : Int32)) rfl rfl (s_addk (pc := 1279) rw_0_1279 (A := i.toInt) (B := 3) rfl rfl (by (first | (clear hpz21 hpzz21 hqz21 hqzz21; omega) | (clear hpz21 hpzz21 hqz21; omega) | omega)) (v := v17) e18 (s_x0k (pc := 1280) rw_0_1280 hL (A := v17.toInt) rfl (by (first | (clear hpz21 hpzz21 hqz21 hqzz21; omega) | (clear hpz21 hpzz21 hqz21; omega) | omega)) (by (first | (clear hpz21 hpzz21 hqz21 hqzz21; omega) | (clear hpz21 hpzz21 hqz21; omega) | omega)) (v := v19) e20 (s_v (pc := 1281) rw_0_1281 (dp0 hd (by decide)) (ls0 := [.ref 77, .int v11, .int v15, .int v19, .null, .null, .null]) rfl (Nat.le_of_ble_eq_true rfl) (Nat.le_of_ble_eq_true rfl) rfl (to_rc rfl rfl rfl (g_o hG24 rfl)) rfl ?_)))))
  have j_37 := (NJ_f (tg_658 F23) jNJ)
  have j_38 := (FA_f (tg_650 F23) jFA)
  refine C_245 hX (dp1 hd (by decide)) hG24 j_37 j_38 (p := v11) (f := v15) (w := v19) (fun r39 M42 hG41 F40 => ?_)
  have n_43 : M42.1.2.1 = M28.1.2.1 ∧ M42.1.2.2.1 = M28.1.2.2.1 := by rw [F40.1]; exact ⟨rfl, rfl⟩
  refine to_popi (pc := 1284) rw_0_1284 (to_go (pc := 1285) rw_0_1285 ?_)
  have c_45 : M42.2.1 77 7 = (M.2.1 77 7) := (F_n F40 (show ¬ (77 = 77 ∧ 7 = 2 ∨ 94 ≤ 77 ∧ 77 ≤ 98 ∨ 121 ≤ 77 ∧ 77 ≤ 124) by decide) (F_n F23 (show ¬ (11 ≤ 77 ∧ 77 ≤ 16 ∨ 77 = 27 ∨ 36 ≤ 77 ∧ 77 ≤ 48) by decide) rfl))
  have t_46 : (M42.2.1 77 7).toInt = (M.2.1 77 7).toInt := congrArg Int32.toInt c_45
  have c_47 : M42.2.1 77 6 = (M.2.1 77 6) := (F_n F40 (show ¬ (77 = 77 ∧ 6 = 2 ∨ 94 ≤ 77 ∧ 77 ≤ 98 ∨ 121 ≤ 77 ∧ 77 ≤ 124) by decide) (F_n F23 (show ¬ (11 ≤ 77 ∧ 77 ≤ 16 ∨ 77 = 27 ∨ 36 ≤ 77 ∧ 77 ≤ 48) by decide) rfl))
  have t_48 : (M42.2.1 77 6).toInt = (M.2.1 77 6).toInt := congrArg Int32.toInt c_47
  have c_49 : M42.2.1 1 1 = (M.2.1 1 1) := (F_n F40 (show ¬ (1 = 77 ∧ 1 = 2 ∨ 94 ≤ 1 ∧ 1 ≤ 98 ∨ 121 ≤ 1 ∧ 1 ≤ 124) by decide) (F_n F23 (show ¬ (11 ≤ 1 ∧ 1 ≤ 16 ∨ 1 = 27 ∨ 36 ≤ 1 ∧ 1 ≤ 48) by decide) rfl))
  have t_50 : (M42.2.1 1 1).toInt = (M.2.1 1 1).toInt := congrArg Int32.toInt c_49
  have c_51 : M42.2.1 77 1 = (M.2.1 77 1) := (F_n F40 (show ¬ (77 = 77 ∧ 1 = 2 ∨ 94 ≤ 77 ∧ 77 ≤ 98 ∨ 121 ≤ 77 ∧ 77 ≤ 124) by decide) (F_n F23 (show ¬ (11 ≤ 77 ∧ 77 ≤ 16 ∨ 77 = 27 ∨ 36 ≤ 77 ∧ 77 ≤ 48) by decide) rfl))
  have t_52 : (M42.2.1 77 1).toInt = (M.2.1 77 1).toInt := congrArg Int32.toInt c_51
  have c_53 : M42.2.1 0 12 = (M.2.1 0 12) := (F_n F40 (show ¬ (0 = 77 ∧ 12 = 2 ∨ 94 ≤ 0 ∧ 0 ≤ 98 ∨ 121 ≤ 0 ∧ 0 ≤ 124) by decide) (F_n F23 (show ¬ (11 ≤ 0 ∧ 0 ≤ 16 ∨ 0 = 27 ∨ 36 ≤ 0 ∧ 0 ≤ 48) by decide) rfl))
  have t_54 : (M42.2.1 0 12).toInt = (M.2.1 0 12).toInt := congrArg Int32.toInt c_53
  have c_55 : M42.2.1 77 28 = (M.2.1 77 28) := (F_n F40 (show ¬ (77 = 77 ∧ 28 = 2 ∨ 94 ≤ 77 ∧ 77 ≤ 98 ∨ 121 ≤ 77 ∧ 77 ≤ 124) by decide) (F_n F23 (show ¬ (11 ≤ 77 ∧ 77 ≤ 16 ∨ 77 = 27 ∨ 36 ≤ 77 ∧ 77 ≤ 48) by decide) rfl))
  have t_56 : (M42.2.1 77 28).toInt = (M.2.1 77 28).toInt := congrArg Int32.toInt c_55
  have c_57 : M42.2.1 17 4 = (M.2.1 17 4) := (F_n F40 (show ¬ (17 = 77 ∧ 4 = 2 ∨ 94 ≤ 17 ∧ 17 ≤ 98 ∨ 121 ≤ 17 ∧ 17 ≤ 124) by decide) (F_n F23 (show ¬ (11 ≤ 17 ∧ 17 ≤ 16 ∨ 17 = 27 ∨ 36 ≤ 17 ∧ 17 ≤ 48) by decide) rfl))
  have t_58 : (M42.2.1 17 4).toInt = (M.2.1 17 4).toInt := congrArg Int32.toInt c_57
  have c_59 : M42.2.1 77 41 = (M.2.1 77 41) := (F_n F40 (show ¬ (77 = 77 ∧ 41 = 2 ∨ 94 ≤ 77 ∧ 77 ≤ 98 ∨ 121 ≤ 77 ∧ 77 ≤ 124) by decide) (F_n F23 (show ¬ (11 ≤ 77 ∧ 77 ≤ 16 ∨ 77 = 27 ∨ 36 ≤ 77 ∧ 77 ≤ 48) by decide) rfl))
  have t_60 : (M42.2.1 77 41).toInt = (M.2.1 77 41).toInt := congrArg Int32.toInt c_59
  have c_61 : M42.2.1 6 0 = (M.2.1 6 0) := (F_n F40 (show ¬ (6 = 77 ∧ 0 = 2 ∨ 94 ≤ 6 ∧ 6 ≤ 98 ∨ 121 ≤ 6 ∧ 6 ≤ 124) by decide) (F_n F23 (show ¬ (11 ≤ 6 ∧ 6 ≤ 16 ∨ 6 = 27 ∨ 36 ≤ 6 ∧ 6 ≤ 48) by decide) rfl))
  have t_62 : (M42.2.1 6 0).toInt = (M.2.1 6 0).toInt := congrArg Int32.toInt c_61
  have c_63 : M42.2.1 77 29 = (M.2.1 77 29) := (F_n F40 (show ¬ (77 = 77 ∧ 29 = 2 ∨ 94 ≤ 77 ∧ 77 ≤ 98 ∨ 121 ≤ 77 ∧ 77 ≤ 124) by decide) (F_n F23 (show ¬ (11 ≤ 77 ∧ 77 ≤ 16 ∨ 77 = 27 ∨ 36 ≤ 77 ∧ 77 ≤ 48) by decide) rfl))
  have t_64 : (M42.2.1 77 29).toInt = (M.2.1 77 29).toInt := congrArg Int32.toInt c_63
  have j_65 := (PI_f (tg_735 F40) p_25)
  have j_66 := (NI_f (tg_736 F40) p_26)
  have j_67 := (QI_f (tg_737 F40) p_27)
  have j_68 := (PQE_r F40.2.1 (PQE_r F23.2.1 jPQE))
  have j_69 := (FA_f (tg_738 F40) j_38)
  have j_70 := (WC_f (tg_739 F40) (WC_f (tg_657 F23) jWC))
  have j_71 := (NJ_f (tg_740 F40) j_37)
  have j_72 := (PS_f (tg_741 F40) (PS_f (tg_659 F23) jPS))
  have j_73 := (KQ_f (tg_742 F40) (KQ_f (tg_660 F23) jKQ))
  have j_74 := (TP_f (tg_743 F40) (TP_f (tg_661 F23) jTP))
  have j_75 := (W9_f (tg_744 F40) (W9_f (tg_662 F23) jW9))
  have j_76 := (AN_F F40 tg_756 (AN_F F23 tg_748 jAN))
  have j_77 := (G8_F F40 (fun a i z => show ¬ (a = 77 ∧ i = 2 ∨ 94 ≤ a ∧ a ≤ 98 ∨ 121 ≤ a ∧ a ≤ 124) by (first | (clear hpz21 hpzz21 hqz21 hqzz21; omega) | (clear hpz21 hpzz21 hqz21; omega) | omega)) (G8_F F23 (fun a i z => show ¬ (11 ≤ a ∧ a ≤ 16 ∨ a = 27 ∨ 36 ≤ a ∧ a ≤ 48) by (first | (clear hpz21 hpzz21 hqz21 hqzz21; omega) | (clear hpz21 hpzz21 hqz21; omega) | omega)) jG8))
  have j_78 := (PKA_F F40 (fun a i z => show ¬ (a = 77 ∧ i = 2 ∨ 94 ≤ a ∧ a ≤ 98 ∨ 121 ≤ a ∧ a ≤ 124) by (first | (clear hpz21 hpzz21 hqz21 hqzz21; omega) | (clear hpz21 hpzz21 hqz21; omega) | omega)) (PKA_F F23 (fun a i z => show ¬ (11 ≤ a ∧ a ≤ 16 ∨ a = 27 ∨ 36 ≤ a ∧ a ≤ 48) by (first | (clear hpz21 hpzz21 hqz21 hqzz21; omega) | (clear hpz21 hpzz21 hqz21; omega) | omega)) jPKA))
  have j_79 := (NE_r F40.2.1 (NE_r F23.2.1 jNE))
  have j_80 := (W8_f (tg_745 F40) (W8_f (tg_652 F23) jW8))
  exact h M42 (u5) (u6) ⟨⟨⟨⟨⟨⟨⟨⟨⟨hG41, ⟨j_65, j_66, j_67, j_68⟩, ⟨j_69, j_70, j_71, j_72, j_73⟩, by (first | (clear hpz21 hpzz21 hqz21 hqzz21; omega) | (clear hpz21 hpzz21 hqz21; omega) | omega), by (first | (clear hpz21 hpzz21 hqz21 hqzz21; omega) | (clear hpz21 hpzz21 hqz21; omega) | omega)⟩, j_74, j_75⟩, j_79, by (first | (clear hpz21 hpzz21 hqz21 hqzz21; omega) | (clear hpz21 hpzz21 hqz21; omega) | omega)⟩, AN_a j_76⟩, by (first | (clear hpz21 hpzz21 hqz21 hqzz21; omega) | (clear hpz21 hpzz21 hqz21; omega) | omega)⟩, j_80⟩, by (first | (clear hpz21 hpzz21 hqz21 hqzz21; omega) | (clear hpz21 hpzz21 hqz21; omega) | omega)⟩, j_76⟩, j_77, j_78⟩ (by (first | (clear hpz21 hpzz21 hqz21 hqzz21; omega) | (clear hpz21 hpzz21 hqz21; omega) | omega)) (by (first | (clear hpz21 hpzz21 hqz21 hqzz21; omega) | (clear hpz21 hpzz21 hqz21; omega) | omega))
