set_option maxRecDepth 4000 in
set_option maxHeartbeats 0 in
theorem LW_16 {X : mm_X} {d L : Nat} {M : mm_M} {Q : Option Value → mm_M → Prop} {i : Int32} {u5 u6 : Value} (hX : g_X X) (hW : g_W X) (hW2 : g_W2 X) (hL : (X 0).1 = L) (h3 : L ≤ 3072) (hd : 40 ≤ d) (hi : 0 ≤ i.toInt) (hi2 : i.toInt + 6 ≤ (L : Int)) (H : LI10 M) (h : ∀ (M1 : mm_M) (v5 v6 : Value), LI10 M1 → M1.1.2.1 ≤ M.1.2.1 + 1 → M1.1.2.2.1 ≤ M.1.2.2.1 + 6 → mm_T X d 0 1313 [.ref mm_ext, .ref 0, .ref 77, .ref 125, .int i, v5, v6] [] M1 Q) : mm_T X d 0 763 [.ref mm_ext, .ref 0, .ref 77, .ref 125, .int i, u5, u6] [] M Q := by
  obtain ⟨⟨⟨⟨⟨⟨⟨⟨⟨hG, ⟨jPI, jNI, jQI, jPQE⟩, ⟨jFA, jWC, jNJ, jPS, jKQ⟩, jJ, jE⟩, jTP, jW9⟩, jNE, jCC⟩, -⟩, jOV⟩, jW8⟩, jNN⟩, jAN⟩, jKNA, jDN, jPN⟩ := H
  have b_1 := g_b hG (a := 77) (i := 7) (lo := 0) (hi := 500) rfl rfl
  have b_2 := g_b hG (a := 77) (i := 6) (lo := 0) (hi := 500) rfl rfl
  have b_3 := g_b hG (a := 1) (i := 1) (lo := 0) (hi := 500) rfl rfl
  have b_4 := g_b hG (a := 77) (i := 1) (lo := 0) (hi := 500) rfl rfl
  have b_5 := g_b hG (a := 0) (i := 12) (lo := 0) (hi := 30) rfl rfl
  have b_6 := g_b hG (a := 77) (i := 28) (lo := 0) (hi := 30) rfl rfl
  have b_7 := g_b hG (a := 6) (i := 0) (lo := 0) (hi := 150) rfl rfl
  have b_8 := g_b hG (a := 77) (i := 29) (lo := 0) (hi := 150) rfl rfl
  have b_9 := g_b hG (a := 28) (i := 8) (lo := 0) (hi := 3000) rfl rfl
  have b_10 := g_b hG (a := 77) (i := 43) (lo := 0) (hi := 3000) rfl rfl
  refine to_an (pc := 763) rw_0_763 rfl (to_an (pc := 764) rw_0_764 rfl (to_i (pc := 765) rw_0_765 rfl (to_c (pc := 767) rw_0_767 (x := (1 : Int32)) rfl rfl (s_add (pc := 768) rw_0_768 (A := i.toInt) (B := 1) rfl rfl (by omega) (fun v11 e12 => s_x0 (pc := 769) rw_0_769 hL (A := v11.toInt) rfl (by omega) (by omega) (fun v13 e14 => to_an (pc := 770) rw_0_770 rfl (to_i (pc := 771) rw_0_771 rfl (to_c (pc := 773) rw_0_773 (x := (2 : Int32)) rfl rfl (s_add (pc := 774) rw_0_774 (A := i.toInt) (B := 2) rfl rfl (by omega) (fun v15 e16 => s_x0 (pc := 775) rw_0_775 hL (A := v15.toInt) rfl (by omega) (by omega) (fun v17 e18 => to_an (pc := 776) rw_0_776 rfl ?_)))))))))))
  refine to_i (pc := 777) rw_0_777 rfl (to_c (pc := 779) rw_0_779 (x := (3 : Int32)) rfl rfl (s_add (pc := 780) rw_0_780 (A := i.toInt) (B := 3) rfl rfl (by omega) (fun v19 e20 => s_x0 (pc := 781) rw_0_781 hL (A := v19.toInt) rfl (by omega) (by omega) (fun v21 e22 => s_v (pc := 782) rw_0_782 (dp0 hd (by decide)) (ls0 := [.ref 0, .int v13, .int v17, .int v21]) rfl (Nat.le_of_ble_eq_true rfl) (Nat.le_of_ble_eq_true rfl) rfl (to_rc rfl rfl rfl (g_o hG rfl)) rfl ?_))))
  obtain ⟨pz23, pzz23, qz23, qzz23, hpz23, hpzz23, hqz23, hqzz23, hpqz23⟩ := id jPQE
  refine C_125 hX (dp1 hd (by decide)) hG hpz23 hpzz23 hqz23 hqzz23 hpqz23 jNI jPI jQI (n := v13) (c := v17) (f := v21) (p := pz23) (pz := pzz23) (q := qz23) (qz := qzz23) (fun r24 M30 hG26 F25 p_27 p_28 p_29 => ?_)
  have n_31 : M30.1.2.1 = M.1.2.1 ∧ M30.1.2.2.1 = M.1.2.2.1 := by rw [F25.1]; exact ⟨rfl, rfl⟩
  refine to_popi (pc := 785) rw_0_785 (to_an (pc := 786) rw_0_786 rfl (to_an (pc := 787) rw_0_787 rfl (to_i (pc := 788) rw_0_788 rfl (to_c (pc := 790) rw_0_790 (x := (1 : Int32)) rfl rfl (s_addk (pc := 791) rw_0_791 (A := i.toInt) (B := 1) rfl rfl (by (first | (clear hpz23 hpzz23 hqz23 hqzz23; omega) | (clear hpz23 hpzz23 hqz23; omega) | omega)) (v := v11) e12 (s_x0k (pc := 792) rw_0_792 hL (A := v11.toInt) rfl (by (first | (clear hpz23 hpzz23 hqz23 hqzz23; omega) | (clear hpz23 hpzz23 hqz23; omega) | omega)) (by (first | (clear hpz23 hpzz23 hqz23 hqzz23; omega) | (clear hpz23 hpzz23 hqz23; omega) | omega)) (v := v13) e14 (to_an (pc := 793) rw_0_793 rfl (to_i (pc := 794) rw_0_794 rfl (to_c (pc := 796) rw_0_796 (x := (2 : Int32)) rfl rfl (s_addk (pc := 797) rw_0_797 (A := i.toInt) (B := 2) rfl rfl (by (first | (clear hpz23 hpzz23 hqz23 hqzz23; omega) | (clear hpz23 hpzz23 hqz23; omega) | omega)) (v := v15) e16 (s_x0k (pc := 798) rw_0_798 hL (A := v15.toInt) rfl (by (first | (clear hpz23 hpzz23 hqz23 hqzz23; omega) | (clear hpz23 hpzz23 hqz23; omega) | omega)) (by (first | (clear hpz23 hpzz23 hqz23 hqzz23; omega) | (clear hpz23 hpzz23 hqz23; omega) | omega)) (v := v17) e18 ?_)))))))))))
  refine to_an (pc := 799) rw_0_799 rfl (to_i (pc := 800) rw_0_800 rfl (to_c (pc := 802) rw_0_802 (x := (3 : Int32)) rfl rfl (s_addk (pc := 803) rw_0_803 (A := i.toInt) (B := 3) rfl rfl (by (first | (clear hpz23 hpzz23 hqz23 hqzz23; omega) | (clear hpz23 hpzz23 hqz23; omega) | omega)) (v := v19) e20 (s_x0k (pc := 804) rw_0_804 hL (A := v19.toInt) rfl (by (first | (clear hpz23 hpzz23 hqz23 hqzz23; omega) | (clear hpz23 hpzz23 hqz23; omega) | omega)) (by (first | (clear hpz23 hpzz23 hqz23 hqzz23; omega) | (clear hpz23 hpzz23 hqz23; omega) | omega)) (v := v21) e22 (s_v (pc := 805) rw_0_805 (dp0 hd (by decide)) (ls0 := [.ref 77, .int v13, .int v17, .int v21]) rfl (Nat.le_of_ble_eq_true rfl) (Nat.le_of_ble_eq_true rfl) rfl (to_rc rfl rfl rfl (g_o hG26 rfl)) rfl ?_)))))
  have j_39 := (NJ_f (tg_572 F25) jNJ)
  refine C_202 hX (dp1 hd (by decide)) hG26 j_39 (n := v13) (c := v17) (f := v21) (fun r40 M43 hG42 F41 => ?_)
  have n_44 : M43.1.2.1 = M30.1.2.1 ∧ M43.1.2.2.1 = M30.1.2.2.1 := by rw [F41.1]; exact ⟨rfl, rfl⟩
  refine to_popi (pc := 808) rw_0_808 (to_go (pc := 809) rw_0_809 ?_)
  have c_46 : M43.2.1 77 7 = (M.2.1 77 7) := (F_n F41 (show ¬ (77 = 77 ∧ 7 = 2 ∨ 94 ≤ 77 ∧ 77 ≤ 98) by decide) (F_n F25 (show ¬ (11 ≤ 77 ∧ 77 ≤ 16 ∨ 18 ≤ 77 ∧ 77 ≤ 27 ∨ 36 ≤ 77 ∧ 77 ≤ 48) by decide) rfl))
  have t_47 : (M43.2.1 77 7).toInt = (M.2.1 77 7).toInt := congrArg Int32.toInt c_46
  have c_48 : M43.2.1 77 6 = (M.2.1 77 6) := (F_n F41 (show ¬ (77 = 77 ∧ 6 = 2 ∨ 94 ≤ 77 ∧ 77 ≤ 98) by decide) (F_n F25 (show ¬ (11 ≤ 77 ∧ 77 ≤ 16 ∨ 18 ≤ 77 ∧ 77 ≤ 27 ∨ 36 ≤ 77 ∧ 77 ≤ 48) by decide) rfl))
  have t_49 : (M43.2.1 77 6).toInt = (M.2.1 77 6).toInt := congrArg Int32.toInt c_48
  have c_50 : M43.2.1 1 1 = (M.2.1 1 1) := (F_n F41 (show ¬ (1 = 77 ∧ 1 = 2 ∨ 94 ≤ 1 ∧ 1 ≤ 98) by decide) (F_n F25 (show ¬ (11 ≤ 1 ∧ 1 ≤ 16 ∨ 18 ≤ 1 ∧ 1 ≤ 27 ∨ 36 ≤ 1 ∧ 1 ≤ 48) by decide) rfl))
  have t_51 : (M43.2.1 1 1).toInt = (M.2.1 1 1).toInt := congrArg Int32.toInt c_50
  have c_52 : M43.2.1 77 1 = (M.2.1 77 1) := (F_n F41 (show ¬ (77 = 77 ∧ 1 = 2 ∨ 94 ≤ 77 ∧ 77 ≤ 98) by decide) (F_n F25 (show ¬ (11 ≤ 77 ∧ 77 ≤ 16 ∨ 18 ≤ 77 ∧ 77 ≤ 27 ∨ 36 ≤ 77 ∧ 77 ≤ 48) by decide) rfl))
  have t_53 : (M43.2.1 77 1).toInt = (M.2.1 77 1).toInt := congrArg Int32.toInt c_52
  have c_54 : M43.2.1 0 12 = (M.2.1 0 12) := (F_n F41 (show ¬ (0 = 77 ∧ 12 = 2 ∨ 94 ≤ 0 ∧ 0 ≤ 98) by decide) (F_n F25 (show ¬ (11 ≤ 0 ∧ 0 ≤ 16 ∨ 18 ≤ 0 ∧ 0 ≤ 27 ∨ 36 ≤ 0 ∧ 0 ≤ 48) by decide) rfl))
  have t_55 : (M43.2.1 0 12).toInt = (M.2.1 0 12).toInt := congrArg Int32.toInt c_54
  have c_56 : M43.2.1 77 28 = (M.2.1 77 28) := (F_n F41 (show ¬ (77 = 77 ∧ 28 = 2 ∨ 94 ≤ 77 ∧ 77 ≤ 98) by decide) (F_n F25 (show ¬ (11 ≤ 77 ∧ 77 ≤ 16 ∨ 18 ≤ 77 ∧ 77 ≤ 27 ∨ 36 ≤ 77 ∧ 77 ≤ 48) by decide) rfl))
  have t_57 : (M43.2.1 77 28).toInt = (M.2.1 77 28).toInt := congrArg Int32.toInt c_56
  have c_58 : M43.2.1 17 4 = (M.2.1 17 4) := (F_n F41 (show ¬ (17 = 77 ∧ 4 = 2 ∨ 94 ≤ 17 ∧ 17 ≤ 98) by decide) (F_n F25 (show ¬ (11 ≤ 17 ∧ 17 ≤ 16 ∨ 18 ≤ 17 ∧ 17 ≤ 27 ∨ 36 ≤ 17 ∧ 17 ≤ 48) by decide) rfl))
  have t_59 : (M43.2.1 17 4).toInt = (M.2.1 17 4).toInt := congrArg Int32.toInt c_58
  have c_60 : M43.2.1 77 41 = (M.2.1 77 41) := (F_n F41 (show ¬ (77 = 77 ∧ 41 = 2 ∨ 94 ≤ 77 ∧ 77 ≤ 98) by decide) (F_n F25 (show ¬ (11 ≤ 77 ∧ 77 ≤ 16 ∨ 18 ≤ 77 ∧ 77 ≤ 27 ∨ 36 ≤ 77 ∧ 77 ≤ 48) by decide) rfl))
  have t_61 : (M43.2.1 77 41).toInt = (M.2.1 77 41).toInt := congrArg Int32.toInt c_60
  have c_62 : M43.2.1 6 0 = (M.2.1 6 0) := (F_n F41 (show ¬ (6 = 77 ∧ 0 = 2 ∨ 94 ≤ 6 ∧ 6 ≤ 98) by decide) (F_n F25 (show ¬ (11 ≤ 6 ∧ 6 ≤ 16 ∨ 18 ≤ 6 ∧ 6 ≤ 27 ∨ 36 ≤ 6 ∧ 6 ≤ 48) by decide) rfl))
  have t_63 : (M43.2.1 6 0).toInt = (M.2.1 6 0).toInt := congrArg Int32.toInt c_62
  have c_64 : M43.2.1 77 29 = (M.2.1 77 29) := (F_n F41 (show ¬ (77 = 77 ∧ 29 = 2 ∨ 94 ≤ 77 ∧ 77 ≤ 98) by decide) (F_n F25 (show ¬ (11 ≤ 77 ∧ 77 ≤ 16 ∨ 18 ≤ 77 ∧ 77 ≤ 27 ∨ 36 ≤ 77 ∧ 77 ≤ 48) by decide) rfl))
  have t_65 : (M43.2.1 77 29).toInt = (M.2.1 77 29).toInt := congrArg Int32.toInt c_64
  have c_66 : M43.2.1 28 8 = (M.2.1 28 8) := (F_n F41 (show ¬ (28 = 77 ∧ 8 = 2 ∨ 94 ≤ 28 ∧ 28 ≤ 98) by decide) (F_n F25 (show ¬ (11 ≤ 28 ∧ 28 ≤ 16 ∨ 18 ≤ 28 ∧ 28 ≤ 27 ∨ 36 ≤ 28 ∧ 28 ≤ 48) by decide) rfl))
  have t_67 : (M43.2.1 28 8).toInt = (M.2.1 28 8).toInt := congrArg Int32.toInt c_66
  have c_68 : M43.2.1 77 43 = (M.2.1 77 43) := (F_n F41 (show ¬ (77 = 77 ∧ 43 = 2 ∨ 94 ≤ 77 ∧ 77 ≤ 98) by decide) (F_n F25 (show ¬ (11 ≤ 77 ∧ 77 ≤ 16 ∨ 18 ≤ 77 ∧ 77 ≤ 27 ∨ 36 ≤ 77 ∧ 77 ≤ 48) by decide) rfl))
  have t_69 : (M43.2.1 77 43).toInt = (M.2.1 77 43).toInt := congrArg Int32.toInt c_68
  have c_70 : M43.2.1 28 9 = (M.2.1 28 9) := (F_n F41 (show ¬ (28 = 77 ∧ 9 = 2 ∨ 94 ≤ 28 ∧ 28 ≤ 98) by decide) (F_n F25 (show ¬ (11 ≤ 28 ∧ 28 ≤ 16 ∨ 18 ≤ 28 ∧ 28 ≤ 27 ∨ 36 ≤ 28 ∧ 28 ≤ 48) by decide) rfl))
  have t_71 : (M43.2.1 28 9).toInt = (M.2.1 28 9).toInt := congrArg Int32.toInt c_70
  have c_72 : M43.2.1 77 42 = (M.2.1 77 42) := (F_n F41 (show ¬ (77 = 77 ∧ 42 = 2 ∨ 94 ≤ 77 ∧ 77 ≤ 98) by decide) (F_n F25 (show ¬ (11 ≤ 77 ∧ 77 ≤ 16 ∨ 18 ≤ 77 ∧ 77 ≤ 27 ∨ 36 ≤ 77 ∧ 77 ≤ 48) by decide) rfl))
  have t_73 : (M43.2.1 77 42).toInt = (M.2.1 77 42).toInt := congrArg Int32.toInt c_72
  have j_74 := (PI_f (tg_573 F41) p_27)
  have j_75 := (NI_f (tg_574 F41) p_28)
  have j_76 := (QI_f (tg_575 F41) p_29)
  have j_77 := (PQE_r F41.2.1 (PQE_r F25.2.1 jPQE))
  have j_78 := (FA_f (tg_576 F41) (FA_f (tg_577 F25) jFA))
  have j_79 := (WC_f (tg_578 F41) (WC_f (tg_579 F25) jWC))
  have j_80 := (NJ_f (tg_580 F41) j_39)
  have j_81 := (PS_f (tg_581 F41) (PS_f (tg_582 F25) jPS))
  have j_82 := (KQ_f (tg_583 F41) (KQ_f (tg_584 F25) jKQ))
  have j_83 := (TP_f (tg_585 F41) (TP_f (tg_586 F25) jTP))
  have j_84 := (W9_f (tg_587 F41) (W9_f (tg_588 F25) jW9))
  have j_85 := (AN_F F41 tg_635 (AN_F F25 tg_636 jAN))
  have j_86 := (KNA_F F41 (fun a i z => show ¬ (a = 77 ∧ i = 2 ∨ 94 ≤ a ∧ a ≤ 98) by (first | (clear hpz23 hpzz23 hqz23 hqzz23; omega) | (clear hpz23 hpzz23 hqz23; omega) | omega)) (KNA_F F25 (fun a i z => show ¬ (11 ≤ a ∧ a ≤ 16 ∨ 18 ≤ a ∧ a ≤ 27 ∨ 36 ≤ a ∧ a ≤ 48) by (first | (clear hpz23 hpzz23 hqz23 hqzz23; omega) | (clear hpz23 hpzz23 hqz23; omega) | omega)) jKNA))
  have j_87 := (NE_r F41.2.1 (NE_r F25.2.1 jNE))
  have j_88 := (W8_f (tg_589 F41) (W8_f (tg_590 F25) jW8))
  exact h M43 (u5) (u6) ⟨⟨⟨⟨⟨⟨⟨⟨⟨hG42, ⟨j_74, j_75, j_76, j_77⟩, ⟨j_78, j_79, j_80, j_81, j_82⟩, by (first | (clear hpz23 hpzz23 hqz23 hqzz23; omega) | (clear hpz23 hpzz23 hqz23; omega) | omega), by (first | (clear hpz23 hpzz23 hqz23 hqzz23; omega) | (clear hpz23 hpzz23 hqz23; omega) | omega)⟩, j_83, j_84⟩, j_87, by (first | (clear hpz23 hpzz23 hqz23 hqzz23; omega) | (clear hpz23 hpzz23 hqz23; omega) | omega)⟩, AN_a j_85⟩, by (first | (clear hpz23 hpzz23 hqz23 hqzz23; omega) | (clear hpz23 hpzz23 hqz23; omega) | omega)⟩, j_88⟩, by (first | (clear hpz23 hpzz23 hqz23 hqzz23; omega) | (clear hpz23 hpzz23 hqz23; omega) | omega)⟩, j_85⟩, j_86, by (first | (clear hpz23 hpzz23 hqz23 hqzz23; omega) | (clear hpz23 hpzz23 hqz23; omega) | omega), by (first | (clear hpz23 hpzz23 hqz23 hqzz23; omega) | (clear hpz23 hpzz23 hqz23; omega) | omega)⟩ (by (first | (clear hpz23 hpzz23 hqz23 hqzz23; omega) | (clear hpz23 hpzz23 hqz23; omega) | omega)) (by (first | (clear hpz23 hpzz23 hqz23 hqzz23; omega) | (clear hpz23 hpzz23 hqz23; omega) | omega))
