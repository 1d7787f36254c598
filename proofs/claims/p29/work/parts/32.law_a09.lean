set_option maxRecDepth 4000 in
set_option maxHeartbeats 0 in
theorem LW_9 {X : mm_X} {d L : Nat} {M : mm_M} {Q : Option Value → mm_M → Prop} {i : Int32} {u5 u6 : Value} (hX : g_X X) (hW : g_W X) (hW2 : g_W2 X) (hL : (X 0).1 = L) (h3 : L ≤ 3072) (hd : 40 ≤ d) (hi : 0 ≤ i.toInt) (hi2 : i.toInt + 6 ≤ (L : Int)) (H : LI10 M) (h : ∀ (M1 : mm_M) (v5 v6 : Value), LI10 M1 → M1.1.2.1 ≤ M.1.2.1 + 1 → M1.1.2.2.1 ≤ M.1.2.2.1 + 6 → mm_T X d 0 1313 [.ref mm_ext, .ref 0, .ref 77, .ref 125, .int i, v5, v6] [] M1 Q) : mm_T X d 0 500 [.ref mm_ext, .ref 0, .ref 77, .ref 125, .int i, u5, u6] [] M Q := by
  obtain ⟨⟨⟨⟨⟨⟨⟨⟨⟨hG, ⟨jPI, jNI, jQI, jPQE⟩, ⟨jFA, jWC, jNJ, jPS, jKQ⟩, jJ, jE⟩, jTP, jW9⟩, jNE, jCC⟩, -⟩, jOV⟩, jW8⟩, jNN⟩, jAN⟩, jG8, jPKA⟩ := H
  have b_1 := g_b hG (a := 77) (i := 7) (lo := 0) (hi := 500) rfl rfl
  have b_2 := g_b hG (a := 77) (i := 6) (lo := 0) (hi := 500) rfl rfl
  have b_3 := g_b hG (a := 1) (i := 1) (lo := 0) (hi := 500) rfl rfl
  have b_4 := g_b hG (a := 77) (i := 1) (lo := 0) (hi := 500) rfl rfl
  have b_5 := g_b hG (a := 0) (i := 12) (lo := 0) (hi := 30) rfl rfl
  have b_6 := g_b hG (a := 77) (i := 28) (lo := 0) (hi := 30) rfl rfl
  have b_7 := g_b hG (a := 6) (i := 0) (lo := 0) (hi := 150) rfl rfl
  have b_8 := g_b hG (a := 77) (i := 29) (lo := 0) (hi := 150) rfl rfl
  refine to_an (pc := 500) rw_0_500 rfl (s_v (pc := 501) rw_0_501 (dp0 hd (by decide)) (ls0 := [.ref 0]) rfl (Nat.le_of_ble_eq_true rfl) (Nat.le_of_ble_eq_true rfl) rfl (to_rc rfl rfl rfl (g_o hG rfl)) rfl ?_)
  obtain ⟨pz9, pzz9, qz9, qzz9, hpz9, hpzz9, hqz9, hqzz9, hpqz9⟩ := id jPQE
  obtain ⟨ca, hn5⟩ : ∃ z : Int, (M.2.1 0 12).toInt = z := ⟨_, rfl⟩
  obtain ⟨P9, pk1, pk2, pk3⟩ := PKA_u jPKA hn5
  obtain ⟨n9, hn9⟩ : ∃ z : Int, z = ca := ⟨_, rfl⟩
  refine D_118 hX (dp1 hd (by decide)) hG hpz9 hpzz9 hqz9 hqzz9 hpqz9 jPI jNI jQI pk1 (by rw [hn9]; exact pk3) (by (first | (clear hpz9 hpzz9 hqz9 hqzz9; omega) | (clear hpz9 hpzz9 hqz9; omega) | omega)) (P9 := P9) (ca := ca) (n9 := n9) (p := pz9) (pz := pzz9) (q := qz9) (qz := qzz9) (fun r10 M20 hG12 F11 p_13 p_14 p_15 p_16 p_17 p_18 p_19 => ?_)
  have n_21 : M20.1.2.1 = M.1.2.1 ∧ M20.1.2.2.1 = M.1.2.2.1 := by rw [F11.1]; exact ⟨rfl, rfl⟩
  have b_23 := g_b hG12 (a := 0) (i := 12) (lo := 0) (hi := 30) rfl rfl
  have z_24 := AN_C F11 (fun a i z => show ¬ (a = 0 ∧ i = 12 ∨ 18 ≤ a ∧ a ≤ 27) by (first | (clear hpz9 hpzz9 hqz9 hqzz9 p_13 p_14 p_18 p_19; omega) | (clear hpz9 hpzz9 hqz9 hqzz9 p_18; omega) | (clear hpz9 hpzz9 hqz9 hqzz9; omega) | (clear hpz9 hpzz9 hqz9 p_13 p_14 p_18 p_19; omega) | omega)) (by (first | (clear hpz9 hpzz9 hqz9 hqzz9 p_13 p_14 p_18 p_19; omega) | (clear hpz9 hpzz9 hqz9 hqzz9 p_18; omega) | (clear hpz9 hpzz9 hqz9 hqzz9; omega) | (clear hpz9 hpzz9 hqz9 p_13 p_14 p_18 p_19; omega) | omega)) jAN
  refine to_popi (pc := 504) rw_0_504 (to_an (pc := 505) rw_0_505 rfl (s_v (pc := 506) rw_0_506 (dp0 hd (by decide)) (ls0 := [.ref 77]) rfl (Nat.le_of_ble_eq_true rfl) (Nat.le_of_ble_eq_true rfl) rfl (to_rc rfl rfl rfl (g_o hG12 rfl)) rfl ?_))
  have c_25 : M20.2.1 77 28 = (M.2.1 77 28) := (F_n F11 (show ¬ (77 = 0 ∧ 28 = 12 ∨ 18 ≤ 77 ∧ 77 ≤ 27) by decide) rfl)
  have t_26 : (M20.2.1 77 28).toInt = (M.2.1 77 28).toInt := congrArg Int32.toInt c_25
  have c_27 : M20.2.1 77 41 = (M.2.1 77 41) := (F_n F11 (show ¬ (77 = 0 ∧ 41 = 12 ∨ 18 ≤ 77 ∧ 77 ≤ 27) by decide) rfl)
  have t_28 : (M20.2.1 77 41).toInt = (M.2.1 77 41).toInt := congrArg Int32.toInt c_27
  have j_29 := (PS_f (tg_584 F11) jPS)
  have j_30 := (PKr_f (fun a i z => F_n F11 (show ¬ (a = 0 ∧ i = 12 ∨ 18 ≤ a ∧ a ≤ 27) by (first | (clear hpz9 hpzz9 hqz9 hqzz9 p_13 p_14 p_18 p_19; omega) | (clear hpz9 hpzz9 hqz9 hqzz9 p_18; omega) | (clear hpz9 hpzz9 hqz9 hqzz9; omega) | (clear hpz9 hpzz9 hqz9 p_13 p_14 p_18 p_19; omega) | omega)) rfl) pk2)
  refine D_193 hX (dp1 hd (by decide)) hG12 j_29 j_30 (by rw [hn9]; exact pk3) (by (first | (clear hpz9 hpzz9 hqz9 hqzz9 p_13 p_14 p_18 p_19; omega) | (clear hpz9 hpzz9 hqz9 hqzz9 p_18; omega) | (clear hpz9 hpzz9 hqz9 hqzz9; omega) | (clear hpz9 hpzz9 hqz9 p_13 p_14 p_18 p_19; omega) | omega)) (by (first | (clear hpz9 hpzz9 hqz9 hqzz9 p_13 p_14 p_18 p_19; omega) | (clear hpz9 hpzz9 hqz9 hqzz9 p_18; omega) | (clear hpz9 hpzz9 hqz9 hqzz9; omega) | (clear hpz9 hpzz9 hqz9 p_13 p_14 p_18 p_19; omega) | omega)) (P9 := P9) (ca := ca) (n9 := n9) (fun r31 M39 hG33 F32 p_34 p_35 p_36 p_37 p_38 => ?_)
  have n_40 : M39.1.2.1 = M20.1.2.1 ∧ M39.1.2.2.1 = M20.1.2.2.1 := by rw [F32.1]; exact ⟨rfl, rfl⟩
  have b_42 := g_b hG33 (a := 77) (i := 28) (lo := 0) (hi := 30) rfl rfl
  have c_43 : M39.2.1 0 12 = (M20.2.1 0 12) := (F_n F32 (show ¬ (0 = 77 ∧ (12 = 2 ∨ 12 = 28) ∨ 0 = 99 ∨ 0 = 100) by decide) rfl)
  have t_44 : (M39.2.1 0 12).toInt = (M20.2.1 0 12).toInt := congrArg Int32.toInt c_43
  have z_45 : PKA M39 := PK_cd (n := ca) (by (first | (clear hpz9 hpzz9 hqz9 hqzz9 p_13 p_14 p_18 p_19 p_34 p_35 p_37 p_38; omega) | (clear hpz9 hpzz9 hqz9 hqzz9 p_18 p_37; omega) | (clear hpz9 hpzz9 hqz9 hqzz9; omega) | (clear hpz9 hpzz9 hqz9 p_13 p_14 p_18 p_19 p_34 p_35 p_37 p_38; omega) | omega)) (fun z => (PKc_f (fun a i z => (F_n F32 (show ¬ (a = 77 ∧ (i = 2 ∨ i = 28) ∨ a = 99 ∨ a = 100) by (first | (clear hpz9 hpzz9 hqz9 hqzz9 p_13 p_14 p_18 p_19 p_34 p_35 p_37 p_38; omega) | (clear hpz9 hpzz9 hqz9 hqzz9 p_18 p_37; omega) | (clear hpz9 hpzz9 hqz9 hqzz9; omega) | (clear hpz9 hpzz9 hqz9 p_13 p_14 p_18 p_19 p_34 p_35 p_37 p_38; omega) | omega)) rfl)) (by rw [← hn9]; exact p_18 (by (first | (clear hpz9 hpzz9 hqz9 hqzz9 p_13 p_14 p_18 p_19 p_34 p_35 p_37 p_38; omega) | (clear hpz9 hpzz9 hqz9 hqzz9 p_18 p_37; omega) | (clear hpz9 hpzz9 hqz9 hqzz9; omega) | (clear hpz9 hpzz9 hqz9 p_13 p_14 p_18 p_19 p_34 p_35 p_37 p_38; omega) | omega))))) (fun z => (PKc_f (fun a i z => (F_n F32 (show ¬ (a = 77 ∧ (i = 2 ∨ i = 28) ∨ a = 99 ∨ a = 100) by (first | (clear hpz9 hpzz9 hqz9 hqzz9 p_13 p_14 p_18 p_19 p_34 p_35 p_37 p_38; omega) | (clear hpz9 hpzz9 hqz9 hqzz9 p_18 p_37; omega) | (clear hpz9 hpzz9 hqz9 hqzz9; omega) | (clear hpz9 hpzz9 hqz9 p_13 p_14 p_18 p_19 p_34 p_35 p_37 p_38; omega) | omega)) rfl)) (p_19 (by (first | (clear hpz9 hpzz9 hqz9 hqzz9 p_13 p_14 p_18 p_19 p_34 p_35 p_37 p_38; omega) | (clear hpz9 hpzz9 hqz9 hqzz9 p_18 p_37; omega) | (clear hpz9 hpzz9 hqz9 hqzz9; omega) | (clear hpz9 hpzz9 hqz9 p_13 p_14 p_18 p_19 p_34 p_35 p_37 p_38; omega) | omega))))) (fun z => (by rw [← hn9]; exact p_37 (by (first | (clear hpz9 hpzz9 hqz9 hqzz9 p_13 p_14 p_18 p_19 p_34 p_35 p_37 p_38; omega) | (clear hpz9 hpzz9 hqz9 hqzz9 p_18 p_37; omega) | (clear hpz9 hpzz9 hqz9 hqzz9; omega) | (clear hpz9 hpzz9 hqz9 p_13 p_14 p_18 p_19 p_34 p_35 p_37 p_38; omega) | omega)))) (fun z => (p_38 (by (first | (clear hpz9 hpzz9 hqz9 hqzz9 p_13 p_14 p_18 p_19 p_34 p_35 p_37 p_38; omega) | (clear hpz9 hpzz9 hqz9 hqzz9 p_18 p_37; omega) | (clear hpz9 hpzz9 hqz9 hqzz9; omega) | (clear hpz9 hpzz9 hqz9 p_13 p_14 p_18 p_19 p_34 p_35 p_37 p_38; omega) | omega)))) pk3 (fun z => by (first | (clear hpz9 hpzz9 hqz9 hqzz9 p_13 p_14 p_18 p_19 p_34 p_35 p_37 p_38; omega) | (clear hpz9 hpzz9 hqz9 hqzz9 p_18 p_37; omega) | (clear hpz9 hpzz9 hqz9 hqzz9; omega) | (clear hpz9 hpzz9 hqz9 p_13 p_14 p_18 p_19 p_34 p_35 p_37 p_38; omega) | omega)) (fun z => by (first | (clear hpz9 hpzz9 hqz9 hqzz9 p_13 p_14 p_18 p_19 p_34 p_35 p_37 p_38; omega) | (clear hpz9 hpzz9 hqz9 hqzz9 p_18 p_37; omega) | (clear hpz9 hpzz9 hqz9 hqzz9; omega) | (clear hpz9 hpzz9 hqz9 p_13 p_14 p_18 p_19 p_34 p_35 p_37 p_38; omega) | omega))
  refine to_popi (pc := 509) rw_0_509 (to_go (pc := 510) rw_0_510 ?_)
  have c_46 : M39.2.1 77 7 = (M.2.1 77 7) := (F_n F32 (show ¬ (77 = 77 ∧ (7 = 2 ∨ 7 = 28) ∨ 77 = 99 ∨ 77 = 100) by decide) (F_n F11 (show ¬ (77 = 0 ∧ 7 = 12 ∨ 18 ≤ 77 ∧ 77 ≤ 27) by decide) rfl))
  have t_47 : (M39.2.1 77 7).toInt = (M.2.1 77 7).toInt := congrArg Int32.toInt c_46
  have c_48 : M39.2.1 77 6 = (M.2.1 77 6) := (F_n F32 (show ¬ (77 = 77 ∧ (6 = 2 ∨ 6 = 28) ∨ 77 = 99 ∨ 77 = 100) by decide) (F_n F11 (show ¬ (77 = 0 ∧ 6 = 12 ∨ 18 ≤ 77 ∧ 77 ≤ 27) by decide) rfl))
  have t_49 : (M39.2.1 77 6).toInt = (M.2.1 77 6).toInt := congrArg Int32.toInt c_48
  have c_50 : M39.2.1 1 1 = (M.2.1 1 1) := (F_n F32 (show ¬ (1 = 77 ∧ (1 = 2 ∨ 1 = 28) ∨ 1 = 99 ∨ 1 = 100) by decide) (F_n F11 (show ¬ (1 = 0 ∧ 1 = 12 ∨ 18 ≤ 1 ∧ 1 ≤ 27) by decide) rfl))
  have t_51 : (M39.2.1 1 1).toInt = (M.2.1 1 1).toInt := congrArg Int32.toInt c_50
  have c_52 : M39.2.1 77 1 = (M.2.1 77 1) := (F_n F32 (show ¬ (77 = 77 ∧ (1 = 2 ∨ 1 = 28) ∨ 77 = 99 ∨ 77 = 100) by decide) (F_n F11 (show ¬ (77 = 0 ∧ 1 = 12 ∨ 18 ≤ 77 ∧ 77 ≤ 27) by decide) rfl))
  have t_53 : (M39.2.1 77 1).toInt = (M.2.1 77 1).toInt := congrArg Int32.toInt c_52
  have c_54 : M39.2.1 17 4 = (M.2.1 17 4) := (F_n F32 (show ¬ (17 = 77 ∧ (4 = 2 ∨ 4 = 28) ∨ 17 = 99 ∨ 17 = 100) by decide) (F_n F11 (show ¬ (17 = 0 ∧ 4 = 12 ∨ 18 ≤ 17 ∧ 17 ≤ 27) by decide) rfl))
  have t_55 : (M39.2.1 17 4).toInt = (M.2.1 17 4).toInt := congrArg Int32.toInt c_54
  have c_56 : M39.2.1 77 41 = (M.2.1 77 41) := (F_n F32 (show ¬ (77 = 77 ∧ (41 = 2 ∨ 41 = 28) ∨ 77 = 99 ∨ 77 = 100) by decide) c_27)
  have t_57 : (M39.2.1 77 41).toInt = (M.2.1 77 41).toInt := congrArg Int32.toInt c_56
  have c_58 : M39.2.1 6 0 = (M.2.1 6 0) := (F_n F32 (show ¬ (6 = 77 ∧ (0 = 2 ∨ 0 = 28) ∨ 6 = 99 ∨ 6 = 100) by decide) (F_n F11 (show ¬ (6 = 0 ∧ 0 = 12 ∨ 18 ≤ 6 ∧ 6 ≤ 27) by decide) rfl))
  have t_59 : (M39.2.1 6 0).toInt = (M.2.1 6 0).toInt := congrArg Int32.toInt c_58
  have c_60 : M39.2.1 77 29 = (M.2.1 77 29) := (F_n F32 (show ¬ (77 = 77 ∧ (29 = 2 ∨ 29 = 28) ∨ 77 = 99 ∨ 77 = 100) by decide) (F_n F11 (show ¬ (77 = 0 ∧ 29 = 12 ∨ 18 ≤ 77 ∧ 77 ≤ 27) by decide) rfl))
  have t_61 : (M39.2.1 77 29).toInt = (M.2.1 77 29).toInt := congrArg Int32.toInt c_60
  have j_62 := (PI_f (tg_585 F32) p_15)
  have j_63 := (NI_f (tg_586 F32) p_16)
  have j_64 := (QI_f (tg_587 F32) p_17)
  have j_65 := (PQE_r F32.2.1 (PQE_r F11.2.1 jPQE))
  have j_66 := (FA_f (tg_588 F32) (FA_f (tg_589 F11) jFA))
  have j_67 := (WC_f (tg_590 F32) (WC_f (tg_591 F11) jWC))
  have j_68 := (NJ_f (tg_592 F32) (NJ_f (tg_593 F11) jNJ))
  have j_69 := (KQ_f (tg_594 F32) (KQ_f (tg_595 F11) jKQ))
  have j_70 := (TP_f (tg_596 F32) (TP_f (tg_597 F11) jTP))
  have j_71 := (W9_f (tg_598 F32) (W9_f (tg_599 F11) jW9))
  have j_72 := (AN_F F32 tg_630 z_24)
  have j_73 := (G8_F F32 (fun a i z => show ¬ (a = 77 ∧ (i = 2 ∨ i = 28) ∨ a = 99 ∨ a = 100) by (first | (clear hpz9 hpzz9 hqz9 hqzz9 p_13 p_14 p_18 p_19 p_34 p_35 p_37 p_38; omega) | (clear hpz9 hpzz9 hqz9 hqzz9 p_18 p_37; omega) | (clear hpz9 hpzz9 hqz9 hqzz9; omega) | (clear hpz9 hpzz9 hqz9 p_13 p_14 p_18 p_19 p_34 p_35 p_37 p_38; omega) | omega)) (G8_F F11 (fun a i z => show ¬ (a = 0 ∧ i = 12 ∨ 18 ≤ a ∧ a ≤ 27) by (first | (clear hpz9 hpzz9 hqz9 hqzz9 p_13 p_14 p_18 p_19 p_34 p_35 p_37 p_38; omega) | (clear hpz9 hpzz9 hqz9 hqzz9 p_18 p_37; omega) | (clear hpz9 hpzz9 hqz9 hqzz9; omega) | (clear hpz9 hpzz9 hqz9 p_13 p_14 p_18 p_19 p_34 p_35 p_37 p_38; omega) | omega)) jG8))
  have j_74 := (NE_r F32.2.1 (NE_r F11.2.1 jNE))
  have j_75 := (W8_f (tg_600 F32) (W8_f (tg_601 F11) jW8))
  exact h M39 (u5) (u6) ⟨⟨⟨⟨⟨⟨⟨⟨⟨hG33, ⟨j_62, j_63, j_64, j_65⟩, ⟨j_66, j_67, j_68, p_36, j_69⟩, by (first | (clear hpz9 hpzz9 hqz9 hqzz9 p_13 p_14 p_18 p_19 p_34 p_35 p_37 p_38; omega) | (clear hpz9 hpzz9 hqz9 hqzz9 p_18 p_37; omega) | (clear hpz9 hpzz9 hqz9 hqzz9; omega) | (clear hpz9 hpzz9 hqz9 p_13 p_14 p_18 p_19 p_34 p_35 p_37 p_38; omega) | omega), by (first | (clear hpz9 hpzz9 hqz9 hqzz9 p_13 p_14 p_18 p_19 p_34 p_35 p_37 p_38; omega) | (clear hpz9 hpzz9 hqz9 hqzz9 p_18 p_37; omega) | (clear hpz9 hpzz9 hqz9 hqzz9; omega) | (clear hpz9 hpzz9 hqz9 p_13 p_14 p_18 p_19 p_34 p_35 p_37 p_38; omega) | omega)⟩, j_70, j_71⟩, j_74, by (first | (clear hpz9 hpzz9 hqz9 hqzz9 p_13 p_14 p_18 p_19 p_34 p_35 p_37 p_38; omega) | (clear hpz9 hpzz9 hqz9 hqzz9 p_18 p_37; omega) | (clear hpz9 hpzz9 hqz9 hqzz9; omega) | (clear hpz9 hpzz9 hqz9 p_13 p_14 p_18 p_19 p_34 p_35 p_37 p_38; omega) | omega)⟩, AN_a j_72⟩, by (first | (clear hpz9 hpzz9 hqz9 hqzz9 p_13 p_14 p_18 p_19 p_34 p_35 p_37 p_38; omega) | (clear hpz9 hpzz9 hqz9 hqzz9 p_18 p_37; omega) | (clear hpz9 hpzz9 hqz9 hqzz9; omega) | (clear hpz9 hpzz9 hqz9 p_13 p_14 p_18 p_19 p_34 p_35 p_37 p_38; omega) | omega)⟩, j_75⟩, by (first | (clear hpz9 hpzz9 hqz9 hqzz9 p_13 p_14 p_18 p_19 p_34 p_35 p_37 p_38; omega) | (clear hpz9 hpzz9 hqz9 hqzz9 p_18 p_37; omega) | (clear hpz9 hpzz9 hqz9 hqzz9; omega) | (clear hpz9 hpzz9 hqz9 p_13 p_14 p_18 p_19 p_34 p_35 p_37 p_38; omega) | omega)⟩, j_72⟩, j_73, z_45⟩ (by (first | (clear hpz9 hpzz9 hqz9 hqzz9 p_13 p_14 p_18 p_19 p_34 p_35 p_37 p_38; omega) | (clear hpz9 hpzz9 hqz9 hqzz9 p_18 p_37; omega) | (clear hpz9 hpzz9 hqz9 hqzz9; omega) | (clear hpz9 hpzz9 hqz9 p_13 p_14 p_18 p_19 p_34 p_35 p_37 p_38; omega) | omega)) (by (first | (clear hpz9 hpzz9 hqz9 hqzz9 p_13 p_14 p_18 p_19 p_34 p_35 p_37 p_38; omega) | (clear hpz9 hpzz9 hqz9 hqzz9 p_18 p_37; omega) | (clear hpz9 hpzz9 hqz9 hqzz9; omega) | (clear hpz9 hpzz9 hqz9 p_13 p_14 p_18 p_19 p_34 p_35 p_37 p_38; omega) | omega))
