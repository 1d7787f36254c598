set_option maxRecDepth 4000 in
set_option maxHeartbeats 0 in
theorem LW_2 {X : mm_X} {d L : Nat} {M : mm_M} {Q : Option Value → mm_M → Prop} {i : Int32} {u5 u6 : Value} (hX : g_X X) (hW : g_W X) (hW2 : g_W2 X) (hL : (X 0).1 = L) (h3 : L ≤ 3072) (hd : 40 ≤ d) (hi : 0 ≤ i.toInt) (hi2 : i.toInt + 6 ≤ (L : Int)) (H : LI10 M) (h : ∀ (M1 : mm_M) (v5 v6 : Value), LI10 M1 → M1.1.2.1 ≤ M.1.2.1 + 1 → M1.1.2.2.1 ≤ M.1.2.2.1 + 6 → mm_T X d 0 1313 [.ref mm_ext, .ref 0, .ref 77, .ref 125, .int i, v5, v6] [] M1 Q) : mm_T X d 0 274 [.ref mm_ext, .ref 0, .ref 77, .ref 125, .int i, u5, u6] [] M Q := by
  obtain ⟨⟨⟨⟨⟨⟨⟨⟨⟨hG, ⟨jPI, jNI, jQI, jPQE⟩, ⟨jFA, jWC, jNJ, jPS, jKQ⟩, jJ, jE⟩, jTP, jW9⟩, jNE, jCC⟩, -⟩, jOV⟩, jW8⟩, jNN⟩, jAN⟩, jG8, jPKA⟩ := H
  have b_1 := g_b hG (a := 77) (i := 7) (lo := 0) (hi := 500) rfl rfl
  have b_2 := g_b hG (a := 77) (i := 6) (lo := 0) (hi := 500) rfl rfl
  have b_3 := g_b hG (a := 1) (i := 1) (lo := 0) (hi := 500) rfl rfl
  have b_4 := g_b hG (a := 77) (i := 1) (lo := 0) (hi := 500) rfl rfl
  have b_5 := g_b hG (a := 0) (i := 12) (lo := 0) (hi := 30) rfl rfl
  have b_6 := g_b hG (a := 77) (i := 28) (lo := 0) (hi := 30) rfl rfl
  have b_7 := g_b hG (a := 6) (i := 0) (lo := 0) (hi := 150) rfl rfl
  have b_8 := g_b hG (a := 77) (i := 29) (lo := 0) (hi := 150) rfl rfl
  refine to_an (pc := 274) rw_0_274 rfl (to_an (pc := 275) rw_0_275 rfl (to_i (pc := 276) rw_0_276 rfl (to_c (pc := 278) rw_0_278 (x := (1 : Int32)) rfl rfl (s_add (pc := 279) rw_0_279 (A := i.toInt) (B := 1) rfl rfl (by omega) (fun v9 e10 => s_x0 (pc := 280) rw_0_280 hL (A := v9.toInt) rfl (by omega) (by omega) (fun v11 e12 => s_v (pc := 281) rw_0_281 (dp0 hd (by decide)) (ls0 := [.ref 0, .int v11]) rfl (Nat.le_of_ble_eq_true rfl) (Nat.le_of_ble_eq_true rfl) rfl (to_rc rfl rfl rfl (g_o hG rfl)) rfl ?_))))))
  obtain ⟨pz13, pzz13, qz13, qzz13, hpz13, hpzz13, hqz13, hqzz13, hpqz13⟩ := id jPQE
  obtain ⟨sg, NN, nz, ca, hs1, hs2, hn1, hn2, hn3, hn4, hn5⟩ := AN_u jAN hpqz13
  have z_14 := G8_u jG8 hpqz13 hs1 hn1 hn4
  obtain ⟨P9, pk1, pk2, pk3⟩ := PKA_u jPKA hn5
  obtain ⟨n9, hn9⟩ : ∃ z : Int, z = ca := ⟨_, rfl⟩
  obtain ⟨ov, hov⟩ : ∃ o : Int32, M.2.1 17 4 = o := ⟨_, rfl⟩
  have z_15 := congrArg Int32.toInt hov
  obtain ⟨t, nn, hnT1, hT1, hR1⟩ := TP_X (n := v11.toInt) jTP
  refine D_112 hX (dp1 hd (by decide)) hG hpz13 hpzz13 hqz13 hqzz13 hpqz13 jNI jPI jQI (by (first | (clear hpz13 hpzz13 hqz13 hqzz13; omega) | (clear hpz13 hpzz13 hqz13; omega) | omega)) hT1 hW hs1.1 hs1.2 hW2 hn1 hn3 (by (first | (clear hpz13 hpzz13 hqz13 hqzz13; omega) | (clear hpz13 hpzz13 hqz13; omega) | omega)) (by (first | (clear hpz13 hpzz13 hqz13 hqzz13; omega) | (clear hpz13 hpzz13 hqz13; omega) | omega)) (by (first | (clear hpz13 hpzz13 hqz13 hqzz13; omega) | (clear hpz13 hpzz13 hqz13; omega) | omega)) hov pk1 pk3 z_14 (n := v11) (t := t) (nn := nn) (sg := sg) (NN := NN) (nz := nz) (ca := ca) (P9 := P9) (ov := ov) (p := pz13) (pz := pzz13) (q := qz13) (qz := qzz13) (fun r16 M28 hG18 F17 p_19 p_20 p_21 p_22 p_23 p_24 p_25 p_26 p_27 => ?_)
  have n_29 : M28.1.2.1 = M.1.2.1 ∧ M28.1.2.2.1 = M.1.2.2.1 := by rw [F17.1]; exact ⟨rfl, rfl⟩
  have b_31 := g_b hG18 (a := 1) (i := 1) (lo := 0) (hi := 500) rfl rfl
  have z_32 := TP_s jTP (by (first | (clear hpz13 hpzz13 hqz13 hqzz13 p_19 p_20 p_24 p_26 p_27; omega) | (clear hpz13 hpzz13 hqz13 hqzz13 p_19 p_20 p_24 p_27; omega) | (clear hpz13 hpzz13 hqz13 hqzz13; omega) | (clear hpz13 hpzz13 hqz13 p_19 p_20 p_24 p_26 p_27; omega) | omega)) (fun a i z => (F_n F17 (show ¬ (a = 1 ∨ 3 ≤ a ∧ a ≤ 5 ∨ 11 ≤ a ∧ a ≤ 16 ∨ 18 ≤ a ∧ a ≤ 48) by (first | (clear hpz13 hpzz13 hqz13 hqzz13 p_19 p_20 p_24 p_26 p_27; omega) | (clear hpz13 hpzz13 hqz13 hqzz13 p_19 p_20 p_24 p_27; omega) | (clear hpz13 hpzz13 hqz13 hqzz13; omega) | (clear hpz13 hpzz13 hqz13 p_19 p_20 p_24 p_26 p_27; omega) | omega)) rfl))
  refine to_popi (pc := 284) rw_0_284 (to_an (pc := 285) rw_0_285 rfl (to_an (pc := 286) rw_0_286 rfl (to_i (pc := 287) rw_0_287 rfl (to_c (pc := 289) rw_0_289 (x := (1 : Int32)) rfl rfl (s_addk (pc := 290) rw_0_290 (A := i.toInt) (B := 1) rfl rfl (by (first | (clear hpz13 hpzz13 hqz13 hqzz13 p_19 p_20 p_24 p_26 p_27; omega) | (clear hpz13 hpzz13 hqz13 hqzz13 p_19 p_20 p_24 p_27; omega) | (clear hpz13 hpzz13 hqz13 hqzz13; omega) | (clear hpz13 hpzz13 hqz13 p_19 p_20 p_24 p_26 p_27; omega) | omega)) (v := v9) e10 (s_x0k (pc := 291) rw_0_291 hL (A := v9.toInt) rfl (by (first | (clear hpz13 hpzz13 hqz13 hqzz13 p_19 p_20 p_24 p_26 p_27; omega) | (clear hpz13 hpzz13 hqz13 hqzz13 p_19 p_20 p_24 p_27; omega) | (clear hpz13 hpzz13 hqz13 hqzz13; omega) | (clear hpz13 hpzz13 hqz13 p_19 p_20 p_24 p_26 p_27; omega) | omega)) (by (first | (clear hpz13 hpzz13 hqz13 hqzz13 p_19 p_20 p_24 p_26 p_27; omega) | (clear hpz13 hpzz13 hqz13 hqzz13 p_19 p_20 p_24 p_27; omega) | (clear hpz13 hpzz13 hqz13 hqzz13; omega) | (clear hpz13 hpzz13 hqz13 p_19 p_20 p_24 p_26 p_27; omega) | omega)) (v := v11) e12 (s_v (pc := 292) rw_0_292 (dp0 hd (by decide)) (ls0 := [.ref 77, .int v11]) rfl (Nat.le_of_ble_eq_true rfl) (Nat.le_of_ble_eq_true rfl) rfl (to_rc rfl rfl rfl (g_o hG18 rfl)) rfl ?_)))))))
  have c_35 : M28.2.1 77 1 = (M.2.1 77 1) := (F_n F17 (show ¬ (77 = 1 ∨ 3 ≤ 77 ∧ 77 ≤ 5 ∨ 11 ≤ 77 ∧ 77 ≤ 16 ∨ 18 ≤ 77 ∧ 77 ≤ 48) by decide) rfl)
  have t_36 : (M28.2.1 77 1).toInt = (M.2.1 77 1).toInt := congrArg Int32.toInt c_35
  have c_37 : M28.2.1 77 28 = (M.2.1 77 28) := (F_n F17 (show ¬ (77 = 1 ∨ 3 ≤ 77 ∧ 77 ≤ 5 ∨ 11 ≤ 77 ∧ 77 ≤ 16 ∨ 18 ≤ 77 ∧ 77 ≤ 48) by decide) rfl)
  have t_38 : (M28.2.1 77 28).toInt = (M.2.1 77 28).toInt := congrArg Int32.toInt c_37
  have c_39 : M28.2.1 77 41 = (M.2.1 77 41) := (F_n F17 (show ¬ (77 = 1 ∨ 3 ≤ 77 ∧ 77 ≤ 5 ∨ 11 ≤ 77 ∧ 77 ≤ 16 ∨ 18 ≤ 77 ∧ 77 ≤ 48) by decide) rfl)
  have t_40 : (M28.2.1 77 41).toInt = (M.2.1 77 41).toInt := congrArg Int32.toInt c_39
  have c_41 : M28.2.1 77 7 = (M.2.1 77 7) := (F_n F17 (show ¬ (77 = 1 ∨ 3 ≤ 77 ∧ 77 ≤ 5 ∨ 11 ≤ 77 ∧ 77 ≤ 16 ∨ 18 ≤ 77 ∧ 77 ≤ 48) by decide) rfl)
  have t_42 : (M28.2.1 77 7).toInt = (M.2.1 77 7).toInt := congrArg Int32.toInt c_41
  have c_43 : M28.2.1 77 6 = (M.2.1 77 6) := (F_n F17 (show ¬ (77 = 1 ∨ 3 ≤ 77 ∧ 77 ≤ 5 ∨ 11 ≤ 77 ∧ 77 ≤ 16 ∨ 18 ≤ 77 ∧ 77 ≤ 48) by decide) rfl)
  have t_44 : (M28.2.1 77 6).toInt = (M.2.1 77 6).toInt := congrArg Int32.toInt c_43
  have j_45 := (FA_f (tg_519 F17) jFA)
  have j_46 := (WC_f (tg_520 F17) jWC)
  have j_47 := (NJ_f (tg_521 F17) jNJ)
  have j_48 := (PS_f (tg_522 F17) jPS)
  have j_49 := (KQ_f (tg_523 F17) jKQ)
  have j_50 := (TR_f (tg_524 F17) hR1)
  have j_51 := (W9_f (tg_525 F17) jW9)
  have j_52 := (PKr_f (fun a i z => F_n F17 (show ¬ (a = 1 ∨ 3 ≤ a ∧ a ≤ 5 ∨ 11 ≤ a ∧ a ≤ 16 ∨ 18 ≤ a ∧ a ≤ 48) by (first | (clear hpz13 hpzz13 hqz13 hqzz13 p_19 p_20 p_24 p_26 p_27; omega) | (clear hpz13 hpzz13 hqz13 hqzz13 p_19 p_20 p_24 p_27; omega) | (clear hpz13 hpzz13 hqz13 hqzz13; omega) | (clear hpz13 hpzz13 hqz13 p_19 p_20 p_24 p_26 p_27; omega) | omega)) rfl) pk2)
  have c_53 : M28.2.1 77 29 = (M.2.1 77 29) := (F_n F17 (show ¬ (77 = 1 ∨ 3 ≤ 77 ∧ 77 ≤ 5 ∨ 11 ≤ 77 ∧ 77 ≤ 16 ∨ 18 ≤ 77 ∧ 77 ≤ 48) by decide) rfl)
  have t_54 : (M28.2.1 77 29).toInt = (M.2.1 77 29).toInt := congrArg Int32.toInt c_53
  have j_55 := (CWk_f (fun k hk9 => F_nl F17 (show ¬ (87 = 1 ∨ 3 ≤ 87 ∧ 87 ≤ 5 ∨ 11 ≤ 87 ∧ 87 ≤ 16 ∨ 18 ≤ 87 ∧ 87 ≤ 48) by decide) rfl) hs2.2)
  have j_56 := (PLk_f (tg_526 F17) hs2.1)
  have j_57 := (W8_f (tg_527 F17) jW8)
  have j_58 := (NTr_f (tg_528 F17) hn2)
  refine E_219 hX (dp1 hd (by decide)) hG18 (by (first | (clear hpz13 hpzz13 hqz13 hqzz13 p_19 p_20 p_24 p_26 p_27; omega) | (clear hpz13 hpzz13 hqz13 hqzz13 p_19 p_20 p_24 p_27; omega) | (clear hpz13 hpzz13 hqz13 hqzz13; omega) | (clear hpz13 hpzz13 hqz13 p_19 p_20 p_24 p_26 p_27; omega) | omega)) j_45 j_46 j_47 j_48 j_49 (by (first | (clear hpz13 hpzz13 hqz13 hqzz13 p_19 p_20 p_24 p_26 p_27; omega) | (clear hpz13 hpzz13 hqz13 hqzz13 p_19 p_20 p_24 p_27; omega) | (clear hpz13 hpzz13 hqz13 hqzz13; omega) | (clear hpz13 hpzz13 hqz13 p_19 p_20 p_24 p_26 p_27; omega) | omega)) j_50 j_51 (show M28.2.1 77 41 = ov from Int32.toInt_inj.mp (by (first | (clear hpz13 hpzz13 hqz13 hqzz13 p_19 p_20 p_24 p_26 p_27; omega) | (clear hpz13 hpzz13 hqz13 hqzz13 p_19 p_20 p_24 p_27; omega) | (clear hpz13 hpzz13 hqz13 hqzz13; omega) | (clear hpz13 hpzz13 hqz13 p_19 p_20 p_24 p_26 p_27; omega) | omega))) j_52 pk3 z_14 hn3 (by (first | (clear hpz13 hpzz13 hqz13 hqzz13 p_19 p_20 p_24 p_26 p_27; omega) | (clear hpz13 hpzz13 hqz13 hqzz13 p_19 p_20 p_24 p_27; omega) | (clear hpz13 hpzz13 hqz13 hqzz13; omega) | (clear hpz13 hpzz13 hqz13 p_19 p_20 p_24 p_26 p_27; omega) | omega)) (by (first | (clear hpz13 hpzz13 hqz13 hqzz13 p_19 p_20 p_24 p_26 p_27; omega) | (clear hpz13 hpzz13 hqz13 hqzz13 p_19 p_20 p_24 p_27; omega) | (clear hpz13 hpzz13 hqz13 hqzz13; omega) | (clear hpz13 hpzz13 hqz13 p_19 p_20 p_24 p_26 p_27; omega) | omega)) (by (first | (clear hpz13 hpzz13 hqz13 hqzz13 p_19 p_20 p_24 p_26 p_27; omega) | (clear hpz13 hpzz13 hqz13 hqzz13 p_19 p_20 p_24 p_27; omega) | (clear hpz13 hpzz13 hqz13 hqzz13; omega) | (clear hpz13 hpzz13 hqz13 p_19 p_20 p_24 p_26 p_27; omega) | omega)) j_55 j_56 j_57 j_58 (n := v11) (t := t) (nn := nn) (sg := sg) (NN := NN) (nz := nz) (ca := ca) (P9 := P9) (ov := ov) (fun r59 M74 hG61 F60 p_62 p_63 p_64 p_65 p_66 p_67 p_68 p_69 p_70 p_71 p_72 p_73 => ?_)
  have n_75 : M74.1.2.1 = M28.1.2.1 ∧ M74.1.2.2.1 = M28.1.2.2.1 := by rw [F60.1]; exact ⟨rfl, rfl⟩
  have b_77 := g_b hG61 (a := 77) (i := 7) (lo := 0) (hi := 500) rfl rfl
  have b_78 := g_b hG61 (a := 77) (i := 6) (lo := 0) (hi := 500) rfl rfl
  have b_79 := g_b hG61 (a := 77) (i := 1) (lo := 0) (hi := 500) rfl rfl
  have c_80 : M74.2.1 0 12 = (M.2.1 0 12) := (F_n F60 (show ¬ (0 = 77 ∧ (1 ≤ 12 ∧ 12 ≤ 2 ∨ 4 ≤ 12 ∧ 12 ≤ 10 ∨ 42 ≤ 12 ∧ 12 ≤ 44 ∨ 12 = 52) ∨ 94 ≤ 0 ∧ 0 ≤ 111) by decide) (F_n F17 (show ¬ (0 = 1 ∨ 3 ≤ 0 ∧ 0 ≤ 5 ∨ 11 ≤ 0 ∧ 0 ≤ 16 ∨ 18 ≤ 0 ∧ 0 ≤ 48) by decide) rfl))
  have t_81 : (M74.2.1 0 12).toInt = (M.2.1 0 12).toInt := congrArg Int32.toInt c_80
  have z_82 := PW_q (h1 := (M.2.1 1 1).toInt) (h2 := (M28.2.1 77 1).toInt) (by (first | (clear hpz13 hpzz13 hqz13 hqzz13 p_19 p_20 p_24 p_26 p_27 p_68 p_69 p_70 p_72 p_73; omega) | (clear hpz13 hpzz13 hqz13 hqzz13 p_19 p_20 p_24 p_27 p_68 p_69 p_70 p_73; omega) | (clear hpz13 hpzz13 hqz13 hqzz13; omega) | (clear hpz13 hpzz13 hqz13 p_19 p_20 p_24 p_26 p_27 p_68 p_69 p_70 p_72 p_73; omega) | omega)) p_24 p_70 p_27 p_73 p_26 p_72 pk3
  have z_83 := z_82.1
  obtain ⟨Pw, pw1, pw2, pw3⟩ := z_82.2
  have z_84 := PKA_i (ca := ca) (by (first | (clear hpz13 hpzz13 hqz13 hqzz13 p_19 p_20 p_24 p_26 p_27 p_68 p_69 p_70 p_72 p_73; omega) | (clear hpz13 hpzz13 hqz13 hqzz13 p_19 p_20 p_24 p_27 p_68 p_69 p_70 p_73; omega) | (clear hpz13 hpzz13 hqz13 hqzz13; omega) | (clear hpz13 hpzz13 hqz13 p_19 p_20 p_24 p_26 p_27 p_68 p_69 p_70 p_72 p_73; omega) | omega)) (PKc_f (fun a i z => (F_n F60 (show ¬ (a = 77 ∧ (1 ≤ i ∧ i ≤ 2 ∨ 4 ≤ i ∧ i ≤ 10 ∨ 42 ≤ i ∧ i ≤ 44 ∨ i = 52) ∨ 94 ≤ a ∧ a ≤ 111) by (first | (clear hpz13 hpzz13 hqz13 hqzz13 p_19 p_20 p_24 p_26 p_27 p_68 p_69 p_70 p_72 p_73; omega) | (clear hpz13 hpzz13 hqz13 hqzz13 p_19 p_20 p_24 p_27 p_68 p_69 p_70 p_73; omega) | (clear hpz13 hpzz13 hqz13 hqzz13; omega) | (clear hpz13 hpzz13 hqz13 p_19 p_20 p_24 p_26 p_27 p_68 p_69 p_70 p_72 p_73; omega) | omega)) rfl)) pw1) pw2 pw3
  refine to_popi (pc := 295) rw_0_295 (to_go (pc := 296) rw_0_296 ?_)
  have c_85 : M74.2.1 1 1 = (M28.2.1 1 1) := (F_n F60 (show ¬ (1 = 77 ∧ (1 ≤ 1 ∧ 1 ≤ 2 ∨ 4 ≤ 1 ∧ 1 ≤ 10 ∨ 42 ≤ 1 ∧ 1 ≤ 44 ∨ 1 = 52) ∨ 94 ≤ 1 ∧ 1 ≤ 111) by decide) rfl)
  have t_86 : (M74.2.1 1 1).toInt = (M28.2.1 1 1).toInt := congrArg Int32.toInt c_85
  have c_87 : M74.2.1 77 28 = (M.2.1 77 28) := (F_n F60 (show ¬ (77 = 77 ∧ (1 ≤ 28 ∧ 28 ≤ 2 ∨ 4 ≤ 28 ∧ 28 ≤ 10 ∨ 42 ≤ 28 ∧ 28 ≤ 44 ∨ 28 = 52) ∨ 94 ≤ 77 ∧ 77 ≤ 111) by decide) c_37)
  have t_88 : (M74.2.1 77 28).toInt = (M.2.1 77 28).toInt := congrArg Int32.toInt c_87
  have c_89 : M74.2.1 17 4 = (M.2.1 17 4) := (F_n F60 (show ¬ (17 = 77 ∧ (1 ≤ 4 ∧ 4 ≤ 2 ∨ 4 ≤ 4 ∧ 4 ≤ 10 ∨ 42 ≤ 4 ∧ 4 ≤ 44 ∨ 4 = 52) ∨ 94 ≤ 17 ∧ 17 ≤ 111) by decide) (F_n F17 (show ¬ (17 = 1 ∨ 3 ≤ 17 ∧ 17 ≤ 5 ∨ 11 ≤ 17 ∧ 17 ≤ 16 ∨ 18 ≤ 17 ∧ 17 ≤ 48) by decide) rfl))
  have t_90 : (M74.2.1 17 4).toInt = (M.2.1 17 4).toInt := congrArg Int32.toInt c_89
  have c_91 : M74.2.1 77 41 = (M.2.1 77 41) := (F_n F60 (show ¬ (77 = 77 ∧ (1 ≤ 41 ∧ 41 ≤ 2 ∨ 4 ≤ 41 ∧ 41 ≤ 10 ∨ 42 ≤ 41 ∧ 41 ≤ 44 ∨ 41 = 52) ∨ 94 ≤ 77 ∧ 77 ≤ 111) by decide) c_39)
  have t_92 : (M74.2.1 77 41).toInt = (M.2.1 77 41).toInt := congrArg Int32.toInt c_91
  have c_93 : M74.2.1 6 0 = (M.2.1 6 0) := (F_n F60 (show ¬ (6 = 77 ∧ (1 ≤ 0 ∧ 0 ≤ 2 ∨ 4 ≤ 0 ∧ 0 ≤ 10 ∨ 42 ≤ 0 ∧ 0 ≤ 44 ∨ 0 = 52) ∨ 94 ≤ 6 ∧ 6 ≤ 111) by decide) (F_n F17 (show ¬ (6 = 1 ∨ 3 ≤ 6 ∧ 6 ≤ 5 ∨ 11 ≤ 6 ∧ 6 ≤ 16 ∨ 18 ≤ 6 ∧ 6 ≤ 48) by decide) rfl))
  have t_94 : (M74.2.1 6 0).toInt = (M.2.1 6 0).toInt := congrArg Int32.toInt c_93
  have c_95 : M74.2.1 77 29 = (M.2.1 77 29) := (F_n F60 (show ¬ (77 = 77 ∧ (1 ≤ 29 ∧ 29 ≤ 2 ∨ 4 ≤ 29 ∧ 29 ≤ 10 ∨ 42 ≤ 29 ∧ 29 ≤ 44 ∨ 29 = 52) ∨ 94 ≤ 77 ∧ 77 ≤ 111) by decide) c_53)
  have t_96 : (M74.2.1 77 29).toInt = (M.2.1 77 29).toInt := congrArg Int32.toInt c_95
  have j_97 := (PI_f (tg_529 F60) p_21)
  have j_98 := (NI_f (tg_530 F60) p_22)
  have j_99 := (QI_f (tg_531 F60) p_23)
  have j_100 := (PQE_r F60.2.1 (PQE_r F17.2.1 jPQE))
  have j_101 := (TP_f (tg_532 F60) z_32)
  have j_102 := (W9_f (tg_533 F60) j_51)
  have j_103 := (AN_F F60 tg_623 (AN_F F17 tg_624 jAN))
  have j_104 := (G8_F F60 (fun a i z => show ¬ (a = 77 ∧ (1 ≤ i ∧ i ≤ 2 ∨ 4 ≤ i ∧ i ≤ 10 ∨ 42 ≤ i ∧ i ≤ 44 ∨ i = 52) ∨ 94 ≤ a ∧ a ≤ 111) by (first | (clear hpz13 hpzz13 hqz13 hqzz13 p_19 p_20 p_24 p_26 p_27 p_68 p_69 p_70 p_72 p_73; omega) | (clear hpz13 hpzz13 hqz13 hqzz13 p_19 p_20 p_24 p_27 p_68 p_69 p_70 p_73; omega) | (clear hpz13 hpzz13 hqz13 hqzz13; omega) | (clear hpz13 hpzz13 hqz13 p_19 p_20 p_24 p_26 p_27 p_68 p_69 p_70 p_72 p_73; omega) | omega)) (G8_F F17 (fun a i z => show ¬ (a = 1 ∨ 3 ≤ a ∧ a ≤ 5 ∨ 11 ≤ a ∧ a ≤ 16 ∨ 18 ≤ a ∧ a ≤ 48) by (first | (clear hpz13 hpzz13 hqz13 hqzz13 p_19 p_20 p_24 p_26 p_27 p_68 p_69 p_70 p_72 p_73; omega) | (clear hpz13 hpzz13 hqz13 hqzz13 p_19 p_20 p_24 p_27 p_68 p_69 p_70 p_73; omega) | (clear hpz13 hpzz13 hqz13 hqzz13; omega) | (clear hpz13 hpzz13 hqz13 p_19 p_20 p_24 p_26 p_27 p_68 p_69 p_70 p_72 p_73; omega) | omega)) jG8))
  have j_105 := (NE_r F60.2.1 (NE_r F17.2.1 jNE))
  have j_106 := (W8_f (tg_534 F60) j_57)
  exact h M74 (u5) (u6) ⟨⟨⟨⟨⟨⟨⟨⟨⟨hG61, ⟨j_97, j_98, j_99, j_100⟩, ⟨p_63, p_64, p_65, p_66, p_67⟩, by (first | (clear hpz13 hpzz13 hqz13 hqzz13 p_19 p_20 p_24 p_26 p_27 p_68 p_69 p_70 p_72 p_73; omega) | (clear hpz13 hpzz13 hqz13 hqzz13 p_19 p_20 p_24 p_27 p_68 p_69 p_70 p_73; omega) | (clear hpz13 hpzz13 hqz13 hqzz13; omega) | (clear hpz13 hpzz13 hqz13 p_19 p_20 p_24 p_26 p_27 p_68 p_69 p_70 p_72 p_73; omega) | omega), by (first | (clear hpz13 hpzz13 hqz13 hqzz13 p_19 p_20 p_24 p_26 p_27 p_68 p_69 p_70 p_72 p_73; omega) | (clear hpz13 hpzz13 hqz13 hqzz13 p_19 p_20 p_24 p_27 p_68 p_69 p_70 p_73; omega) | (clear hpz13 hpzz13 hqz13 hqzz13; omega) | (clear hpz13 hpzz13 hqz13 p_19 p_20 p_24 p_26 p_27 p_68 p_69 p_70 p_72 p_73; omega) | omega)⟩, j_101, j_102⟩, j_105, by (first | (clear hpz13 hpzz13 hqz13 hqzz13 p_19 p_20 p_24 p_26 p_27 p_68 p_69 p_70 p_72 p_73; omega) | (clear hpz13 hpzz13 hqz13 hqzz13 p_19 p_20 p_24 p_27 p_68 p_69 p_70 p_73; omega) | (clear hpz13 hpzz13 hqz13 hqzz13; omega) | (clear hpz13 hpzz13 hqz13 p_19 p_20 p_24 p_26 p_27 p_68 p_69 p_70 p_72 p_73; omega) | omega)⟩, AN_a j_103⟩, by (first | (clear hpz13 hpzz13 hqz13 hqzz13 p_19 p_20 p_24 p_26 p_27 p_68 p_69 p_70 p_72 p_73; omega) | (clear hpz13 hpzz13 hqz13 hqzz13 p_19 p_20 p_24 p_27 p_68 p_69 p_70 p_73; omega) | (clear hpz13 hpzz13 hqz13 hqzz13; omega) | (clear hpz13 hpzz13 hqz13 p_19 p_20 p_24 p_26 p_27 p_68 p_69 p_70 p_72 p_73; omega) | omega)⟩, j_106⟩, by (first | (clear hpz13 hpzz13 hqz13 hqzz13 p_19 p_20 p_24 p_26 p_27 p_68 p_69 p_70 p_72 p_73; omega) | (clear hpz13 hpzz13 hqz13 hqzz13 p_19 p_20 p_24 p_27 p_68 p_69 p_70 p_73; omega) | (clear hpz13 hpzz13 hqz13 hqzz13; omega) | (clear hpz13 hpzz13 hqz13 p_19 p_20 p_24 p_26 p_27 p_68 p_69 p_70 p_72 p_73; omega) | omega)⟩, j_103⟩, j_104, z_84⟩ (by (first | (clear hpz13 hpzz13 hqz13 hqzz13 p_19 p_20 p_24 p_26 p_27 p_68 p_69 p_70 p_72 p_73; omega) | (clear hpz13 hpzz13 hqz13 hqzz13 p_19 p_20 p_24 p_27 p_68 p_69 p_70 p_73; omega) | (clear hpz13 hpzz13 hqz13 hqzz13; omega) | (clear hpz13 hpzz13 hqz13 p_19 p_20 p_24 p_26 p_27 p_68 p_69 p_70 p_72 p_73; omega) | omega)) (by (first | (clear hpz13 hpzz13 hqz13 hqzz13 p_19 p_20 p_24 p_26 p_27 p_68 p_69 p_70 p_72 p_73; omega) | (clear hpz13 hpzz13 hqz13 hqzz13 p_19 p_20 p_24 p_27 p_68 p_69 p_70 p_73; omega) | (clear hpz13 hpzz13 hqz13 hqzz13; omega) | (clear hpz13 hpzz13 hqz13 p_19 p_20 p_24 p_26 p_27 p_68 p_69 p_70 p_72 p_73; omega) | omega))
