set_option maxRecDepth 4000 in
set_option maxHeartbeats 0 in
theorem LW_16 {X : mm_X} {d L : Nat} {M : mm_M} {Q : Option Value → mm_M → Prop} {i : Int32} {u5 u6 : Value} (hX : g_X X) (hW : g_W X) (hW2 : g_W2 X) (hL : (X 0).1 = L) (h3 : L ≤ 3072) (hd : 40 ≤ d) (hi : 0 ≤ i.toInt) (hi2 : i.toInt + 6 ≤ (L : Int)) (H : LI10 M) (h : ∀ (M1 : mm_M) (v5 v6 : Value), LI10 M1 → M1.1.2.1 ≤ M.1.2.1 + 1 → M1.1.2.2.1 ≤ M.1.2.2.1 + 6 → mm_T X d 0 1313 [.ref mm_ext, .ref 0, .ref 77, .ref 125, .int i, v5, v6] [] M1 Q) : mm_T X d 0 763 [.ref mm_ext, .ref 0, .ref 77, .ref 125, .int i, u5, u6] [] M Q := by
  obtain ⟨⟨⟨⟨⟨⟨⟨⟨⟨hG, ⟨jPI, jNI, jQI, jPQE⟩, ⟨jFA, jWC, jNJ, jPS, jKQ⟩, jJ, jE⟩, jTP, jW9⟩, jNE, jCC⟩, -⟩, jOV⟩, jW8⟩, jNN⟩, jAN⟩, jFF, jFP⟩ := H
  have b_1 := g_b hG (a := 77) (i := 7) (lo := 0) (hi := 500) rfl rfl
  have b_2 := g_b hG (a := 77) (i := 6) (lo := 0) (hi := 500) rfl rfl
  have b_3 := g_b hG (a := 1) (i := 1) (lo := 0) (hi := 500) rfl rfl
  have b_4 := g_b hG (a := 77) (i := 1) (lo := 0) (hi := 500) rfl rfl
  have b_5 := g_b hG (a := 0) (i := 12) (lo := 0) (hi := 30) rfl rfl
  have b_6 := g_b hG (a := 77) (i := 28) (lo := 0) (hi := 30) rfl rfl
  have b_7 := g_b hG (a := 6) (i := 0) (lo := 0) (hi := 150) rfl rfl
  have b_8 := g_b hG (a := 77) (i := 29) (lo := 0) (hi := 150) rfl rfl
  refine to_an (pc := 763) rw_0_763 rfl (to_an (pc := 764) rw_0_764 rfl (to_i (pc := 765) rw_0_765 rfl (to_c (pc := 767) rw_0_767 (x := (1 : Int32)) rfl rfl (s_add (pc := 768) rw_0_768 (A := i.toInt) (B := 1) rfl rfl (by omega) (fun v9 e10 => s_x0 (pc := 769) rw_0_769 hL (A := v9.toInt) rfl (by omega) (by omega) (fun v11 e12 => to_an (pc := 770) rw_0_770 rfl (to_i (pc := 771) rw_0_771 rfl (to_c (pc := 773) rw_0_773 (x := (2 : Int32)) rfl rfl (s_add (pc := 774) rw_0_774 (A := i.toInt) (B := 2) rfl rfl (by omega) (fun v13 e14 => s_x0 (pc := 775) rw_0_775 hL (A := v13.toInt) rfl (by omega) (by omega) (fun v15 e16 => to_an (pc := 776) rw_0_776 rfl ?_)))))))))))
  refine to_i (pc := 777) rw_0_777 rfl (to_c (pc := 779) rw_0_779 (x := (3 : Int32)) rfl rfl (s_add (pc := 780) rw_0_780 (A := i.toInt) (B := 3) rfl rfl (by omega) (fun v17 e18 => s_x0 (pc := 781) rw_0_781 hL (A := v17.toInt) rfl (by omega) (by omega) (fun v19 e20 => s_v (pc := 782) rw_0_782 (dp0 hd (by decide)) (ls0 := [.ref 0, .int v11, .int v15, .int v19]) rfl (Nat.le_of_ble_eq_true rfl) (Nat.le_of_ble_eq_true rfl) rfl (to_rc rfl rfl rfl (g_o hG rfl)) rfl ?_))))
  obtain ⟨pz21, pzz21, qz21, qzz21, hpz21, hpzz21, hqz21, hqzz21, hpqz21⟩ := id jPQE
  refine C_125 hX (dp1 hd (by decide)) hG hpz21 hpzz21 hqz21 hqzz21 hpqz21 jNI jPI jQI (n := v11) (c := v15) (f := v19) (p := pz21) (pz := pzz21) (q := qz21) (qz := qzz21) (fun r22 M28 hG24 F23 p_25 p_26 p_27 => ?_)
  have n_29 : M28.1.2.1 = M.1.2.1 ∧ M28.1.2.2.1 = M.1.2.2.1 := by rw [F23.1]; exact ⟨rfl, rfl⟩
  refine to_popi (pc := 785) rw_0_785 (to_an (pc := 786) rw_0_786 rfl (to_an (pc := 787) rw_0_787 rfl (to_i (pc := 788) rw_0_788 rfl (to_c (pc := 790) rw_0_790 (x := (1 : Int32)) rfl rfl (s_addk (pc := 791) rw_0_791 (A := i.toInt) (B := 1) rfl rfl (by (first | (clear hpz21 hpzz21 hqz21 hqzz21; omega) | (clear hpz21 hpzz21 hqz21; omega) | omega)) (v := v9) e10 (s_x0k (pc := 792) rw_0_792 hL (A := v9.toInt) rfl (by (first | (clear hpz21 hpzz21 hqz21 hqzz21; omega) | (clear hpz21 hpzz21 hqz21; omega) | omega)) (by (first | (clear hpz21 hpzz21 hqz21 hqzz21; omega) | (clear hpz21 hpzz21 hqz21; omega) | omega)) (v := v11) e12 (to_an (pc := 793) rw_0_793 rfl (to_i (pc := 794) rw_0_794 rfl (to_c (pc := 796) rw_0_796 (x := (2 : Int32)) rfl rfl (s_addk (pc := 797) rw_0_797 (A := i.toInt) (B := 2) rfl rfl (by (first | (clear hpz21 hpzz21 hqz21 hqzz21; omega) | (clear hpz21 hpzz21 hqz21; omega) | omega)) (v := v13) e14 (s_x0k (pc := 798) rw_0_798 hL (A := v13.toInt) rfl (by (first | (clear hpz21 hpzz21 hqz21 hqzz21; omega) | (clear hpz21 hpzz21 hqz21; omega) | omega)) (by (first | (clear hpz21 hpzz21 hqz21 hqzz21; omega) | (clear hpz21 hpzz21 hqz21; omega) | omega)) (v := v15) e16 ?_)))))))))))
  refine to_an (pc := 799) rw_0_799 rfl (to_i (pc := 800) rw_0_800 rfl (to_c (pc := 802) rw_0_802 (x := (3 : Int32)) rfl rfl (s_addk (pc := 803) rw_0_803 (A := i.toInt) (B := 3) rfl rfl (by (first | (clear hpz21 hpzz21 hqz21 hqzz21; omega) | (clear hpz21 hpzz21 hqz21; omega) | omega)) (v := v17) e18 (s_x0k (pc := 804) rw_0_804 hL (A := v17.toInt) rfl (by (first | (clear hpz21 hpzz21 hqz21 hqzz21; omega) | (clear hpz21 hpzz21 hqz21; omega) | omega)) (by (first | (clear hpz21 hpzz21 hqz21 hqzz21; omega) | (clear hpz21 hpzz21 hqz21; omega) | omega)) (v := v19) e20 (s_v (pc := 805) rw_0_805 (dp0 hd (by decide)) (ls0 := [.ref 77, .int v11, .int v15, .int v19]) rfl (Nat.le_of_ble_eq_true rfl) (Nat.le_of_ble_eq_true rfl) rfl (to_rc rfl rfl rfl (g_o hG24 rfl)) rfl ?_)))))
  have j_37 := (NJ_f (tg_580 F23) jNJ)
  refine C_202 hX (dp1 hd (by decide)) hG24 j_37 (n := v11) (c := v15) (f := v19) (fun r38 M41 hG40 F39 => ?_)
  have n_42 : M41.1.2.1 = M28.1.2.1 ∧ M41.1.2.2.1 = M28.1.2.2.1 := by rw [F39.1]; exact ⟨rfl, rfl⟩
  refine to_popi (pc := 808) rw_0_808 (to_go (pc := 809) rw_0_809 ?_)
  have c_44 : M41.2.1 77 7 = (M.2.1 77 7) := (F_n F39 (show ¬ (77 = 77 ∧ 7 = 2 ∨ 94 ≤ 77 ∧ 77 ≤ 98) by decide) (F_n F23 (show ¬ (11 ≤ 77 ∧ 77 ≤ 16 ∨ 18 ≤ 77 ∧ 77 ≤ 48 ∨ 67 ≤ 77 ∧ 77 ≤ 76) by decide) rfl))
  have t_45 : (M41.2.1 77 7).toInt = (M.2.1 77 7).toInt := congrArg Int32.toInt c_44
  have c_46 : M41.2.1 77 6 = (M.2.1 77 6) := (F_n F39 (show ¬ (77 = 77 ∧ 6 = 2 ∨ 94 ≤ 77 ∧ 77 ≤ 98) by decide) (F_n F23 (show ¬ (11 ≤ 77 ∧ 77 ≤ 16 ∨ 18 ≤ 77 ∧ 77 ≤ 48 ∨ 67 ≤ 77 ∧ 77 ≤ 76) by decide) rfl))
  have t_47 : (M41.2.1 77 6).toInt = (M.2.1 77 6).toInt := congrArg Int32.toInt c_46
  have c_48 : M41.2.1 1 1 = (M.2.1 1 1) := (F_n F39 (show ¬ (1 = 77 ∧ 1 = 2 ∨ 94 ≤ 1 ∧ 1 ≤ 98) by decide) (F_n F23 (show ¬ (11 ≤ 1 ∧ 1 ≤ 16 ∨ 18 ≤ 1 ∧ 1 ≤ 48 ∨ 67 ≤ 1 ∧ 1 ≤ 76) by decide) rfl))
  have t_49 : (M41.2.1 1 1).toInt = (M.2.1 1 1).toInt := congrArg Int32.toInt c_48
  have c_50 : M41.2.1 77 1 = (M.2.1 77 1) := (F_n F39 (show ¬ (77 = 77 ∧ 1 = 2 ∨ 94 ≤ 77 ∧ 77 ≤ 98) by decide) (F_n F23 (show ¬ (11 ≤ 77 ∧ 77 ≤ 16 ∨ 18 ≤ 77 ∧ 77 ≤ 48 ∨ 67 ≤ 77 ∧ 77 ≤ 76) by decide) rfl))
  have t_51 : (M41.2.1 77 1).toInt = (M.2.1 77 1).toInt := congrArg Int32.toInt c_50
  have c_52 : M41.2.1 0 12 = (M.2.1 0 12) := (F_n F39 (show ¬ (0 = 77 ∧ 12 = 2 ∨ 94 ≤ 0 ∧ 0 ≤ 98) by decide) (F_n F23 (show ¬ (11 ≤ 0 ∧ 0 ≤ 16 ∨ 18 ≤ 0 ∧ 0 ≤ 48 ∨ 67 ≤ 0 ∧ 0 ≤ 76) by decide) rfl))
  have t_53 : (M41.2.1 0 12).toInt = (M.2.1 0 12).toInt := congrArg Int32.toInt c_52
  have c_54 : M41.2.1 77 28 = (M.2.1 77 28) := (F_n F39 (show ¬ (77 = 77 ∧ 28 = 2 ∨ 94 ≤ 77 ∧ 77 ≤ 98) by decide) (F_n F23 (show ¬ (11 ≤ 77 ∧ 77 ≤ 16 ∨ 18 ≤ 77 ∧ 77 ≤ 48 ∨ 67 ≤ 77 ∧ 77 ≤ 76) by decide) rfl))
  have t_55 : (M41.2.1 77 28).toInt = (M.2.1 77 28).toInt := congrArg Int32.toInt c_54
  have c_56 : M41.2.1 17 4 = (M.2.1 17 4) := (F_n F39 (show ¬ (17 = 77 ∧ 4 = 2 ∨ 94 ≤ 17 ∧ 17 ≤ 98) by decide) (F_n F23 (show ¬ (11 ≤ 17 ∧ 17 ≤ 16 ∨ 18 ≤ 17 ∧ 17 ≤ 48 ∨ 67 ≤ 17 ∧ 17 ≤ 76) by decide) rfl))
  have t_57 : (M41.2.1 17 4).toInt = (M.2.1 17 4).toInt := congrArg Int32.toInt c_56
  have c_58 : M41.2.1 77 41 = (M.2.1 77 41) := (F_n F39 (show ¬ (77 = 77 ∧ 41 = 2 ∨ 94 ≤ 77 ∧ 77 ≤ 98) by decide) (F_n F23 (show ¬ (11 ≤ 77 ∧ 77 ≤ 16 ∨ 18 ≤ 77 ∧ 77 ≤ 48 ∨ 67 ≤ 77 ∧ 77 ≤ 76) by decide) rfl))
  have t_59 : (M41.2.1 77 41).toInt = (M.2.1 77 41).toInt := congrArg Int32.toInt c_58
  have c_60 : M41.2.1 6 0 = (M.2.1 6 0) := (F_n F39 (show ¬ (6 = 77 ∧ 0 = 2 ∨ 94 ≤ 6 ∧ 6 ≤ 98) by decide) (F_n F23 (show ¬ (11 ≤ 6 ∧ 6 ≤ 16 ∨ 18 ≤ 6 ∧ 6 ≤ 48 ∨ 67 ≤ 6 ∧ 6 ≤ 76) by decide) rfl))
  have t_61 : (M41.2.1 6 0).toInt = (M.2.1 6 0).toInt := congrArg Int32.toInt c_60
  have c_62 : M41.2.1 77 29 = (M.2.1 77 29) := (F_n F39 (show ¬ (77 = 77 ∧ 29 = 2 ∨ 94 ≤ 77 ∧ 77 ≤ 98) by decide) (F_n F23 (show ¬ (11 ≤ 77 ∧ 77 ≤ 16 ∨ 18 ≤ 77 ∧ 77 ≤ 48 ∨ 67 ≤ 77 ∧ 77 ≤ 76) by decide) rfl))
  have t_63 : (M41.2.1 77 29).toInt = (M.2.1 77 29).toInt := congrArg Int32.toInt c_62
  have c_64 : M41.2.1 1 10 = (M.2.1 1 10) := (F_n F39 (show ¬ (1 = 77 ∧ 10 = 2 ∨ 94 ≤ 1 ∧ 1 ≤ 98) by decide) (F_n F23 (show ¬ (11 ≤ 1 ∧ 1 ≤ 16 ∨ 18 ≤ 1 ∧ 1 ≤ 48 ∨ 67 ≤ 1 ∧ 1 ≤ 76) by decide) rfl))
  have t_65 : (M41.2.1 1 10).toInt = (M.2.1 1 10).toInt := congrArg Int32.toInt c_64
  have c_66 : M41.2.1 77 4 = (M.2.1 77 4) := (F_n F39 (show ¬ (77 = 77 ∧ 4 = 2 ∨ 94 ≤ 77 ∧ 77 ≤ 98) by decide) (F_n F23 (show ¬ (11 ≤ 77 ∧ 77 ≤ 16 ∨ 18 ≤ 77 ∧ 77 ≤ 48 ∨ 67 ≤ 77 ∧ 77 ≤ 76) by decide) rfl))
  have t_67 : (M41.2.1 77 4).toInt = (M.2.1 77 4).toInt := congrArg Int32.toInt c_66
  have c_68 : M41.2.1 1 11 = (M.2.1 1 11) := (F_n F39 (show ¬ (1 = 77 ∧ 11 = 2 ∨ 94 ≤ 1 ∧ 1 ≤ 98) by decide) (F_n F23 (show ¬ (11 ≤ 1 ∧ 1 ≤ 16 ∨ 18 ≤ 1 ∧ 1 ≤ 48 ∨ 67 ≤ 1 ∧ 1 ≤ 76) by decide) rfl))
  have t_69 : (M41.2.1 1 11).toInt = (M.2.1 1 11).toInt := congrArg Int32.toInt c_68
  have c_70 : M41.2.1 77 5 = (M.2.1 77 5) := (F_n F39 (show ¬ (77 = 77 ∧ 5 = 2 ∨ 94 ≤ 77 ∧ 77 ≤ 98) by decide) (F_n F23 (show ¬ (11 ≤ 77 ∧ 77 ≤ 16 ∨ 18 ≤ 77 ∧ 77 ≤ 48 ∨ 67 ≤ 77 ∧ 77 ≤ 76) by decide) rfl))
  have t_71 : (M41.2.1 77 5).toInt = (M.2.1 77 5).toInt := congrArg Int32.toInt c_70
  have j_72 := (PI_f (tg_581 F39) p_25)
  have j_73 := (NI_f (tg_582 F39) p_26)
  have j_74 := (QI_f (tg_583 F39) p_27)
  have j_75 := (PQE_r F39.2.1 (PQE_r F23.2.1 jPQE))
  have j_76 := (FA_f (tg_584 F39) (FA_f (tg_585 F23) jFA))
  have j_77 := (WC_f (tg_586 F39) (WC_f (tg_587 F23) jWC))
  have j_78 := (NJ_f (tg_588 F39) j_37)
  have j_79 := (PS_f (tg_589 F39) (PS_f (tg_590 F23) jPS))
  have j_80 := (KQ_f (tg_591 F39) (KQ_f (tg_592 F23) jKQ))
  have j_81 := (TP_f (tg_593 F39) (TP_f (tg_594 F23) jTP))
  have j_82 := (W9_f (tg_595 F39) (W9_f (tg_596 F23) jW9))
  have j_83 := (AN_F F39 tg_643 (AN_F F23 tg_644 jAN))
  have j_84 := (NE_r F39.2.1 (NE_r F23.2.1 jNE))
  have j_85 := (W8_f (tg_597 F39) (W8_f (tg_598 F23) jW8))
  exact h M41 (u5) (u6) ⟨⟨⟨⟨⟨⟨⟨⟨⟨hG40, ⟨j_72, j_73, j_74, j_75⟩, ⟨j_76, j_77, j_78, j_79, j_80⟩, by (first | (clear hpz21 hpzz21 hqz21 hqzz21; omega) | (clear hpz21 hpzz21 hqz21; omega) | omega), by (first | (clear hpz21 hpzz21 hqz21 hqzz21; omega) | (clear hpz21 hpzz21 hqz21; omega) | omega)⟩, j_81, j_82⟩, j_84, by (first | (clear hpz21 hpzz21 hqz21 hqzz21; omega) | (clear hpz21 hpzz21 hqz21; omega) | omega)⟩, AN_a j_83⟩, by (first | (clear hpz21 hpzz21 hqz21 hqzz21; omega) | (clear hpz21 hpzz21 hqz21; omega) | omega)⟩, j_85⟩, by (first | (clear hpz21 hpzz21 hqz21 hqzz21; omega) | (clear hpz21 hpzz21 hqz21; omega) | omega)⟩, j_83⟩, by (first | (clear hpz21 hpzz21 hqz21 hqzz21; omega) | (clear hpz21 hpzz21 hqz21; omega) | omega), by (first | (clear hpz21 hpzz21 hqz21 hqzz21; omega) | (clear hpz21 hpzz21 hqz21; omega) | omega)⟩ (by (first | (clear hpz21 hpzz21 hqz21 hqzz21; omega) | (clear hpz21 hpzz21 hqz21; omega) | omega)) (by (first | (clear hpz21 hpzz21 hqz21 hqzz21; omega) | (clear hpz21 hpzz21 hqz21; omega) | omega))
