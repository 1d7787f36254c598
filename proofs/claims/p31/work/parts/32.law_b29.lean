set_option maxRecDepth 4000 in
set_option maxHeartbeats 0 in
theorem LW_29 {X : mm_X} {d L : Nat} {M : mm_M} {Q : Option Value → mm_M → Prop} {i : Int32} {u5 u6 : Value} (hX : g_X X) (hW : g_W X) (hW2 : g_W2 X) (hL : (X 0).1 = L) (h3 : L ≤ 3072) (hd : 40 ≤ d) (hi : 0 ≤ i.toInt) (hi2 : i.toInt + 6 ≤ (L : Int)) (H : LI10 M) (h : ∀ (M1 : mm_M) (v5 v6 : Value), LI10 M1 → M1.1.2.1 ≤ M.1.2.1 + 1 → M1.1.2.2.1 ≤ M.1.2.2.1 + 6 → mm_T X d 0 1313 [.ref mm_ext, .ref 0, .ref 77, .ref 125, .int i, v5, v6] [] M1 Q) : mm_T X d 0 1288 [.ref mm_ext, .ref 0, .ref 77, .ref 125, .int i, u5, u6] [] M Q := by
  obtain ⟨⟨⟨⟨⟨⟨⟨⟨⟨hG, ⟨jPI, jNI, jQI, jPQE⟩, ⟨jFA, jWC, jNJ, jPS, jKQ⟩, jJ, jE⟩, jTP, jW9⟩, jNE, jCC⟩, -⟩, jOV⟩, jW8⟩, jNN⟩, jAN⟩, jKNA, jDN, jPN⟩ := H
  have b_1 := g_b hG (a := 77) (i := 7) (lo := 0) (hi := 500) rfl rfl
  have b_2 := g_b hG (a := 77) (i := 6) (lo := 0) (hi := 500) rfl rfl
  have b_3 := g_b hG (a := 1) (i := 1) (lo := 0) (hi := 500) rfl rfl
  have b_4 := g_b hG (a := 77) (i := 1) (lo := 0) (hi := 500) rfl rfl
  have b_5 := g_b hG (a := 0) (i := 12) (lo := 0) (hi := 30) rfl rfl
  have b_6 := g_b hG (a := 77) (i := 28) (lo := 0) (hi := 30) rfl rfl
  have b_7 := g_b hG (a := 6) (i := 0) (lo := 0) (hi := 150) rfl rfl
  have b_8 := g_b hG (a := 77) (i := 29) (lo := 0) (hi := 150) rfl rfl
  have b_9 := g_b hG (a := 28) (i := 8) (lo := 0) (hi := 3000) rfl rfl
  have b_10 := g_b hG (a := 77) (i := 43) (lo := 0) (hi := 3000) rfl rfl
  refine to_an (pc := 1288) rw_0_1288 rfl (to_an (pc := 1289) rw_0_1289 rfl (to_i (pc := 1290) rw_0_1290 rfl (to_c (pc := 1292) rw_0_1292 (x := (1 : Int32)) rfl rfl (s_add (pc := 1293) rw_0_1293 (A := i.toInt) (B := 1) rfl rfl (by omega) (fun v11 e12 => s_x0 (pc := 1294) rw_0_1294 hL (A := v11.toInt) rfl (by omega) (by omega) (fun v13 e14 => s_v (pc := 1295) rw_0_1295 (dp0 hd (by decide)) (ls0 := [.ref 0, .int v13]) rfl (Nat.le_of_ble_eq_true rfl) (Nat.le_of_ble_eq_true rfl) rfl (to_rc rfl rfl rfl (g_o hG rfl)) rfl ?_))))))
  obtain ⟨pz15, pzz15, qz15, qzz15, hpz15, hpzz15, hqz15, hqzz15, hpqz15⟩ := id jPQE
  have z_16 := KNA_u hpqz15 jKNA
  obtain ⟨sg, NN, nz, ca, hs1, hs2, hn1, hn2, hn3, hn4, hn5⟩ := AN_u jAN hpqz15
  refine E_138 hX (dp1 hd (by decide)) hG hpz15 hpzz15 hqz15 hqzz15 hpqz15 (w := v13) (p := pz15) (pz := pzz15) (q := qz15) (qz := qzz15) (fun r17 M21 hG19 F18 p_20 => ?_)
  have n_22 : M21.1.2.1 = M.1.2.1 ∧ M21.1.2.2.1 = M.1.2.2.1 := by rw [F18.1]; exact ⟨rfl, rfl⟩
  have j_24 := (PLs_f (fun a i z => F_n F18 (show ¬ (a < 0) by (first | (clear hpz15 hpzz15 hqz15 hqzz15 z_16; omega) | (clear hpz15 hpzz15 hqz15 z_16; omega) | omega)) rfl) hs1.1)
  have c_25 : M21.2.1 0 12 = (M.2.1 0 12) := (F_n F18 (show ¬ (0 < 0) by decide) rfl)
  have t_26 : (M21.2.1 0 12).toInt = (M.2.1 0 12).toInt := congrArg Int32.toInt c_25
  have c_27 : M21.2.1 6 0 = (M.2.1 6 0) := (F_n F18 (show ¬ (6 < 0) by decide) rfl)
  have t_28 : (M21.2.1 6 0).toInt = (M.2.1 6 0).toInt := congrArg Int32.toInt c_27
  have c_29 : M21.2.1 28 9 = (M.2.1 28 9) := (F_n F18 (show ¬ (28 < 0) by decide) rfl)
  have t_30 : (M21.2.1 28 9).toInt = (M.2.1 28 9).toInt := congrArg Int32.toInt c_29
  have c_31 : M21.2.1 28 8 = (M.2.1 28 8) := (F_n F18 (show ¬ (28 < 0) by decide) rfl)
  have t_32 : (M21.2.1 28 8).toInt = (M.2.1 28 8).toInt := congrArg Int32.toInt c_31
  refine to_an (pc := 1298) rw_0_1298 rfl (to_an (pc := 1299) rw_0_1299 rfl (to_i (pc := 1300) rw_0_1300 rfl (to_c (pc := 1302) rw_0_1302 (x := (1 : Int32)) rfl rfl (s_addk (pc := 1303) rw_0_1303 (A := i.toInt) (B := 1) rfl rfl (by (first | (clear hpz15 hpzz15 hqz15 hqzz15 z_16; omega) | (clear hpz15 hpzz15 hqz15 z_16; omega) | omega)) (v := v11) e12 (s_x0k (pc := 1304) rw_0_1304 hL (A := v11.toInt) rfl (by (first | (clear hpz15 hpzz15 hqz15 hqzz15 z_16; omega) | (clear hpz15 hpzz15 hqz15 z_16; omega) | omega)) (by (first | (clear hpz15 hpzz15 hqz15 hqzz15 z_16; omega) | (clear hpz15 hpzz15 hqz15 z_16; omega) | omega)) (v := v13) e14 (s_v (pc := 1305) rw_0_1305 (dp0 hd (by decide)) (ls0 := [.ref 77, .int v13]) rfl (Nat.le_of_ble_eq_true rfl) (Nat.le_of_ble_eq_true rfl) rfl (to_rc rfl rfl rfl (g_o hG19 rfl)) rfl (E_246 hX (dp1 hd (by decide)) hG19 (w := v13) (fun r35 M39 hG37 F36 p_38 => ?_))))))))
  have n_40 : M39.1.2.1 = M21.1.2.1 ∧ M39.1.2.2.1 = M21.1.2.2.1 := by rw [F36.1]; exact ⟨rfl, rfl⟩
  have j_42 := (PLk_f (tg_740 F36) (PLk_f (tg_101 F18) hs2.1))
  have c_43 : M39.2.1 77 28 = (M.2.1 77 28) := (F_n F36 (show ¬ (77 = 77 ∧ 28 = 2) by decide) (F_n F18 (show ¬ (77 < 0) by decide) rfl))
  have t_44 : (M39.2.1 77 28).toInt = (M.2.1 77 28).toInt := congrArg Int32.toInt c_43
  have c_45 : M39.2.1 77 29 = (M.2.1 77 29) := (F_n F36 (show ¬ (77 = 77 ∧ 29 = 2) by decide) (F_n F18 (show ¬ (77 < 0) by decide) rfl))
  have t_46 : (M39.2.1 77 29).toInt = (M.2.1 77 29).toInt := congrArg Int32.toInt c_45
  have c_47 : M39.2.1 77 42 = (M.2.1 77 42) := (F_n F36 (show ¬ (77 = 77 ∧ 42 = 2) by decide) (F_n F18 (show ¬ (77 < 0) by decide) rfl))
  have t_48 : (M39.2.1 77 42).toInt = (M.2.1 77 42).toInt := congrArg Int32.toInt c_47
  have c_49 : M39.2.1 77 43 = (M.2.1 77 43) := (F_n F36 (show ¬ (77 = 77 ∧ 43 = 2) by decide) (F_n F18 (show ¬ (77 < 0) by decide) rfl))
  have t_50 : (M39.2.1 77 43).toInt = (M.2.1 77 43).toInt := congrArg Int32.toInt c_49
  have z_51 := x_cnt_q p_20 p_38 (j_24.2.1.trans j_42.2.1.symm) (j_24.2.2.1.trans j_42.2.2.1.symm) (j_24.2.2.2.1.trans j_42.2.2.2.1.symm) (by (first | (clear hpz15 hpzz15 hqz15 hqzz15 z_16; omega) | (clear hpz15 hpzz15 hqz15 z_16; omega) | omega)) (by (first | (clear hpz15 hpzz15 hqz15 hqzz15 z_16; omega) | (clear hpz15 hpzz15 hqz15 z_16; omega) | omega)) (((congrArg Int32.toInt (F_n F18 (show ¬ (qz15 < 0) by (first | (clear hpz15 hpzz15 hqz15 hqzz15 z_16; omega) | (clear hpz15 hpzz15 hqz15 z_16; omega) | omega)) rfl)).trans z_16.2).trans (congrArg Int32.toInt (F_n F36 (show ¬ (77 = 77 ∧ 58 = 2) by decide) (F_n F18 (show ¬ (77 < 0) by decide) rfl))).symm) (by (first | (clear hpz15 hpzz15 hqz15 hqzz15 z_16; omega) | (clear hpz15 hpzz15 hqz15 z_16; omega) | omega)) (by (first | (clear hpz15 hpzz15 hqz15 hqzz15 z_16; omega) | (clear hpz15 hpzz15 hqz15 z_16; omega) | omega))
  refine b_ceq (pc := 1308) rw_0_1308 (A := r17.toInt) (B := r35.toInt) rfl rfl (fun h52 => ?_) (fun h52 => ?_)
  · have c_53 : M39.2.1 77 7 = (M.2.1 77 7) := (F_n F36 (show ¬ (77 = 77 ∧ 7 = 2) by decide) (F_n F18 (show ¬ (77 < 0) by decide) rfl))
    have t_54 : (M39.2.1 77 7).toInt = (M.2.1 77 7).toInt := congrArg Int32.toInt c_53
    have c_55 : M39.2.1 77 6 = (M.2.1 77 6) := (F_n F36 (show ¬ (77 = 77 ∧ 6 = 2) by decide) (F_n F18 (show ¬ (77 < 0) by decide) rfl))
    have t_56 : (M39.2.1 77 6).toInt = (M.2.1 77 6).toInt := congrArg Int32.toInt c_55
    have c_57 : M39.2.1 1 1 = (M.2.1 1 1) := (F_n F36 (show ¬ (1 = 77 ∧ 1 = 2) by decide) (F_n F18 (show ¬ (1 < 0) by decide) rfl))
    have t_58 : (M39.2.1 1 1).toInt = (M.2.1 1 1).toInt := congrArg Int32.toInt c_57
    have c_59 : M39.2.1 77 1 = (M.2.1 77 1) := (F_n F36 (show ¬ (77 = 77 ∧ 1 = 2) by decide) (F_n F18 (show ¬ (77 < 0) by decide) rfl))
    have t_60 : (M39.2.1 77 1).toInt = (M.2.1 77 1).toInt := congrArg Int32.toInt c_59
    have c_61 : M39.2.1 0 12 = (M.2.1 0 12) := (F_n F36 (show ¬ (0 = 77 ∧ 12 = 2) by decide) c_25)
    have t_62 : (M39.2.1 0 12).toInt = (M.2.1 0 12).toInt := congrArg Int32.toInt c_61
    have c_63 : M39.2.1 17 4 = (M.2.1 17 4) := (F_n F36 (show ¬ (17 = 77 ∧ 4 = 2) by decide) (F_n F18 (show ¬ (17 < 0) by decide) rfl))
    have t_64 : (M39.2.1 17 4).toInt = (M.2.1 17 4).toInt := congrArg Int32.toInt c_63
    have c_65 : M39.2.1 77 41 = (M.2.1 77 41) := (F_n F36 (show ¬ (77 = 77 ∧ 41 = 2) by decide) (F_n F18 (show ¬ (77 < 0) by decide) rfl))
    have t_66 : (M39.2.1 77 41).toInt = (M.2.1 77 41).toInt := congrArg Int32.toInt c_65
    have c_67 : M39.2.1 6 0 = (M.2.1 6 0) := (F_n F36 (show ¬ (6 = 77 ∧ 0 = 2) by decide) c_27)
    have t_68 : (M39.2.1 6 0).toInt = (M.2.1 6 0).toInt := congrArg Int32.toInt c_67
    have c_69 : M39.2.1 28 8 = (M.2.1 28 8) := (F_n F36 (show ¬ (28 = 77 ∧ 8 = 2) by decide) c_31)
    have t_70 : (M39.2.1 28 8).toInt = (M.2.1 28 8).toInt := congrArg Int32.toInt c_69
    have c_71 : M39.2.1 28 9 = (M.2.1 28 9) := (F_n F36 (show ¬ (28 = 77 ∧ 9 = 2) by decide) c_29)
    have t_72 : (M39.2.1 28 9).toInt = (M.2.1 28 9).toInt := congrArg Int32.toInt c_71
    have j_73 := (PI_f (tg_557 F36) (PI_f (tg_99 F18) jPI))
    have j_74 := (NI_f (tg_558 F36) (NI_f (tg_98 F18) jNI))
    have j_75 := (QI_f (tg_559 F36) (QI_f (tg_100 F18) jQI))
    have j_76 := (PQE_r F36.2.1 (PQE_r F18.2.1 jPQE))
    have j_77 := (FA_f (tg_560 F36) (FA_f (tg_299 F18) jFA))
    have j_78 := (WC_f (tg_561 F36) (WC_f (tg_562 F18) jWC))
    have j_79 := (NJ_f (tg_563 F36) (NJ_f (tg_102 F18) jNJ))
    have j_80 := (PS_f (tg_564 F36) (PS_f (tg_565 F18) jPS))
    have j_81 := (KQ_f (tg_566 F36) (KQ_f (tg_416 F18) jKQ))
    have j_82 := (TP_f (tg_567 F36) (TP_f (tg_568 F18) jTP))
    have j_83 := (W9_f (tg_569 F36) (W9_f (tg_46 F18) jW9))
    have j_84 := (AN_F F36 tg_633 (AN_F F18 tg_634 jAN))
    have j_85 := (KNA_F F36 (fun a i z => show ¬ (a = 77 ∧ i = 2) by (first | (clear hpz15 hpzz15 hqz15 hqzz15 z_16; omega) | (clear hpz15 hpzz15 hqz15 z_16; omega) | omega)) (KNA_F F18 (fun a i z => show ¬ (a < 0) by (first | (clear hpz15 hpzz15 hqz15 hqzz15 z_16; omega) | (clear hpz15 hpzz15 hqz15 z_16; omega) | omega)) jKNA))
    have j_86 := (NE_r F36.2.1 (NE_r F18.2.1 jNE))
    have j_87 := (W8_f (tg_570 F36) (W8_f (tg_571 F18) jW8))
    exact h M39 (u5) (u6) ⟨⟨⟨⟨⟨⟨⟨⟨⟨hG37, ⟨j_73, j_74, j_75, j_76⟩, ⟨j_77, j_78, j_79, j_80, j_81⟩, by (first | (clear hpz15 hpzz15 hqz15 hqzz15 z_16; omega) | (clear hpz15 hpzz15 hqz15 z_16; omega) | omega), by (first | (clear hpz15 hpzz15 hqz15 hqzz15 z_16; omega) | (clear hpz15 hpzz15 hqz15 z_16; omega) | omega)⟩, j_82, j_83⟩, j_86, by (first | (clear hpz15 hpzz15 hqz15 hqzz15 z_16; omega) | (clear hpz15 hpzz15 hqz15 z_16; omega) | omega)⟩, AN_a j_84⟩, by (first | (clear hpz15 hpzz15 hqz15 hqzz15 z_16; omega) | (clear hpz15 hpzz15 hqz15 z_16; omega) | omega)⟩, j_87⟩, by (first | (clear hpz15 hpzz15 hqz15 hqzz15 z_16; omega) | (clear hpz15 hpzz15 hqz15 z_16; omega) | omega)⟩, j_84⟩, j_85, by (first | (clear hpz15 hpzz15 hqz15 hqzz15 z_16; omega) | (clear hpz15 hpzz15 hqz15 z_16; omega) | omega), by (first | (clear hpz15 hpzz15 hqz15 hqzz15 z_16; omega) | (clear hpz15 hpzz15 hqz15 z_16; omega) | omega)⟩ (by (first | (clear hpz15 hpzz15 hqz15 hqzz15 z_16; omega) | (clear hpz15 hpzz15 hqz15 z_16; omega) | omega)) (by (first | (clear hpz15 hpzz15 hqz15 hqzz15 z_16; omega) | (clear hpz15 hpzz15 hqz15 z_16; omega) | omega))
  · exfalso; omega
