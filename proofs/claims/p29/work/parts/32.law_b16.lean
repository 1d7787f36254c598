set_option maxRecDepth 4000 in
set_option maxHeartbeats 0 in
theorem LW_16 {X : mm_X} {d L : Nat} {M : mm_M} {Q : Option Value → mm_M → Prop} {i : Int32} {u5 u6 : Value} (hX : g_X X) (hW : g_W X) (hW2 : g_W2 X) (hL : (X 0).1 = L) (h3 : L ≤ 3072) (hd : 40 ≤ d) (hi : 0 ≤ i.toInt) (hi2 : i.toInt + 6 ≤ (L : Int)) (H : LI10 M) (h : ∀ (M1 : mm_M) (v5 v6 : Value), LI10 M1 → M1.1.2.1 ≤ M.1.2.1 + 1 → M1.1.2.2.1 ≤ M.1.2.2.1 + 6 → mm_T X d 0 1313 [.ref mm_ext, .ref 0, .ref 77, .ref 125, .int i, v5, v6] [] M1 Q) : mm_T X d 0 763 [.ref mm_ext, .ref 0, .ref 77, .ref 125, .int i, u5, u6] [] M Q := by
  obtain ⟨⟨⟨⟨⟨⟨⟨⟨⟨hG, ⟨jPI, jNI, jQI, jPQE⟩, ⟨jFA, jWC, jNJ, jPS, jKQ⟩, jJ, jE⟩, jTP, jW9⟩, jNE, jCC⟩, -⟩, jOV⟩, jW8⟩, jNN⟩, jAN⟩, jG8, jPKA⟩ := H
  have b_1 := g_b hG (a := 77) (i := 7) (lo := 0) (hi := 500) rfl rfl
  have b_2 := g_b hG (a := 77) (i := 6) (lo := 0) (hi := 500) rfl rfl
  have b_3 := g_b hG (a := 1) (i := 1) (lo := 0) (hi := 500) rfl rfl
  have b_4 := g_b hG (a := 77) (i := 1) (lo := 0) (hi := 500) rfl rfl
  have b_5 := g_b hG (a := 0) (i := 12) (lo := 0) (hi := 30) rfl rfl
  have b_6 := g_b hG (a := 77) (i := 28) (lo := 0) (hi := 30) rfl rfl
  have b_7 := g_b hG (a := 6) (i := 0) (lo := 0) (hi := 150) rfl rfl
  have b_8 := g_b hG (a := 77) (i := 29) (lo := 0) (hi := 150) rfl rfl
  refine to_an (pc := 763) rw_0_763 rfl (to_an (pc := 764) rw_0_764 rfl (to_i (pc := 765) rw_0_765 rfl (to_c (pc := 767) rw_0_767 (x := (1 : Int32)) rfl rfl (s_add (pc := 768) rw_0_768 (A := i.toInt) (B := 1) rfl rfl (by omega) (fun v9 e10 => s_x0 (pc := 769) rw_0_769 hL (A := v9.toInt) rfl (by omega) (by omega) (fun v11 e12 => to_an (pc := 770) rw_0_770 rfl (to_i (pc := 771) rw_0_771 rfl (to_c (pc := 773) rw_0_773 (x := (2 : Int32)) rfl rfl (s_add (pc := 774) rw_0_774 (A := i.toInt) (B := 2) rfl rfl (by omega) (fun v13 e14 => s_x0 (pc := 775) rw_0_775 hL (A := v13.toInt) rfl (by omega) (by omega) (fun v15 e16 => to_an (pc := 776) rw_0_776 rfl ?_)))))))))))
  refine to_i (pc := 777) rw_0_777 rfl (to_c (pc := 779) rw_0_779 (x := (3 : Int32)) rfl rfl (s_add (pc := 780) rw_0_780 (A := i.toInt) (B := 3) rfl rfl (by omega) (fun v17 e18 => s_x0 (pc := 781) rw_0_781 hL (A := v17.toInt) rfl (by omega) (by omega) (fun v19 e20 => s_v (pc := 782) rw_0_782 (dp0 hd (by decide)) (ls0 := [.ref 0, .int v11, .int v15, .int v19]) rfl (Nat.le_of_ble_eq_true rfl) (Nat.le_of_ble_eq_true rfl) rfl (to_rc rfl rfl rfl (g_o hG rfl)) rfl ?_))))
  obtain ⟨pz21, pzz21, qz21, qzz21, hpz21, hpzz21, hqz21, hqzz21, hpqz21⟩ := id jPQE
  obtain ⟨sg, NN, nz, ca, hs1, hs2, hn1, hn2, hn3, hn4, hn5⟩ := AN_u jAN hpqz21
  refine E_125 hX (dp1 hd (by decide)) hG hpz21 hpzz21 hqz21 hqzz21 hpqz21 hs1.1 hs1.2 hW2 hn1 hn3 (by (first | (clear hpz21 hpzz21 hqz21 hqzz21; omega) | (clear hpz21 hpzz21 hqz21; omega) | omega)) (by (first | (clear hpz21 hpzz21 hqz21 hqzz21; omega) | (clear hpz21 hpzz21 hqz21; omega) | omega)) (by (first | (clear hpz21 hpzz21 hqz21 hqzz21; omega) | (clear hpz21 hpzz21 hqz21; omega) | omega)) (n := v11) (c := v15) (f := v19) (sg := sg) (NN := NN) (nz := nz) (ca := ca) (p := pz21) (pz := pzz21) (q := qz21) (qz := qzz21) (fun r22 M26 hG24 F23 p_25 => ?_)
  have n_27 : M26.1.2.1 = M.1.2.1 ∧ M26.1.2.2.1 = M.1.2.2.1 := by rw [F23.1]; exact ⟨rfl, rfl⟩
  refine to_popi (pc := 785) rw_0_785 (to_an (pc := 786) rw_0_786 rfl (to_an (pc := 787) rw_0_787 rfl (to_i (pc := 788) rw_0_788 rfl (to_c (pc := 790) rw_0_790 (x := (1 : Int32)) rfl rfl (s_addk (pc := 791) rw_0_791 (A := i.toInt) (B := 1) rfl rfl (by (first | (clear hpz21 hpzz21 hqz21 hqzz21; omega) | (clear hpz21 hpzz21 hqz21; omega) | omega)) (v := v9) e10 (s_x0k (pc := 792) rw_0_792 hL (A := v9.toInt) rfl (by (first | (clear hpz21 hpzz21 hqz21 hqzz21; omega) | (clear hpz21 hpzz21 hqz21; omega) | omega)) (by (first | (clear hpz21 hpzz21 hqz21 hqzz21; omega) | (clear hpz21 hpzz21 hqz21; omega) | omega)) (v := v11) e12 (to_an (pc := 793) rw_0_793 rfl (to_i (pc := 794) rw_0_794 rfl (to_c (pc := 796) rw_0_796 (x := (2 : Int32)) rfl rfl (s_addk (pc := 797) rw_0_797 (A := i.toInt) (B := 2) rfl rfl (by (first | (clear hpz21 hpzz21 hqz21 hqzz21; omega) | (clear hpz21 hpzz21 hqz21; omega) | omega)) (v := v13) e14 (s_x0k (pc := 798) rw_0_798 hL (A := v13.toInt) rfl (by (first | (clear hpz21 hpzz21 hqz21 hqzz21; omega) | (clear hpz21 hpzz21 hqz21; omega) | omega)) (by (first | (clear hpz21 hpzz21 hqz21 hqzz21; omega) | (clear hpz21 hpzz21 hqz21; omega) | omega)) (v := v15) e16 ?_)))))))))))
  refine to_an (pc := 799) rw_0_799 rfl (to_i (pc := 800) rw_0_800 rfl (to_c (pc := 802) rw_0_802 (x := (3 : Int32)) rfl rfl (s_addk (pc := 803) rw_0_803 (A := i.toInt) (B := 3) rfl rfl (by (first | (clear hpz21 hpzz21 hqz21 hqzz21; omega) | (clear hpz21 hpzz21 hqz21; omega) | omega)) (v := v17) e18 (s_x0k (pc := 804) rw_0_804 hL (A := v17.toInt) rfl (by (first | (clear hpz21 hpzz21 hqz21 hqzz21; omega) | (clear hpz21 hpzz21 hqz21; omega) | omega)) (by (first | (clear hpz21 hpzz21 hqz21 hqzz21; omega) | (clear hpz21 hpzz21 hqz21; omega) | omega)) (v := v19) e20 (s_v (pc := 805) rw_0_805 (dp0 hd (by decide)) (ls0 := [.ref 77, .int v11, .int v15, .int v19]) rfl (Nat.le_of_ble_eq_true rfl) (Nat.le_of_ble_eq_true rfl) rfl (to_rc rfl rfl rfl (g_o hG24 rfl)) rfl ?_)))))
  have c_35 : M26.2.1 77 29 = (M.2.1 77 29) := (F_n F23 (show ¬ (11 ≤ 77 ∧ 77 ≤ 16) by decide) rfl)
  have t_36 : (M26.2.1 77 29).toInt = (M.2.1 77 29).toInt := congrArg Int32.toInt c_35
  have c_37 : M26.2.1 77 28 = (M.2.1 77 28) := (F_n F23 (show ¬ (11 ≤ 77 ∧ 77 ≤ 16) by decide) rfl)
  have t_38 : (M26.2.1 77 28).toInt = (M.2.1 77 28).toInt := congrArg Int32.toInt c_37
  have j_39 := (CWk_f (fun k hk9 => F_nl F23 (show ¬ (11 ≤ 87 ∧ 87 ≤ 16) by decide) rfl) hs2.2)
  have j_40 := (FA_f (tg_563 F23) jFA)
  have j_41 := (PLk_f (tg_564 F23) hs2.1)
  have j_42 := (W8_f (tg_565 F23) jW8)
  have j_43 := (NTr_f (tg_566 F23) hn2)
  refine E_202 hX (dp1 hd (by decide)) hG24 hn3 (by (first | (clear hpz21 hpzz21 hqz21 hqzz21; omega) | (clear hpz21 hpzz21 hqz21; omega) | omega)) (by (first | (clear hpz21 hpzz21 hqz21 hqzz21; omega) | (clear hpz21 hpzz21 hqz21; omega) | omega)) (by (first | (clear hpz21 hpzz21 hqz21 hqzz21; omega) | (clear hpz21 hpzz21 hqz21; omega) | omega)) j_39 j_40 j_41 j_42 j_43 (n := v11) (c := v15) (f := v19) (sg := sg) (NN := NN) (nz := nz) (ca := ca) (fun r44 M48 hG46 F45 p_47 => ?_)
  have n_49 : M48.1.2.1 = M26.1.2.1 ∧ M48.1.2.2.1 = M26.1.2.2.1 := by rw [F45.1]; exact ⟨rfl, rfl⟩
  have z_51 := congrArg Int32.toInt (p_25.trans p_47.symm)
  refine to_popi (pc := 808) rw_0_808 (to_go (pc := 809) rw_0_809 ?_)
  have c_52 : M48.2.1 77 7 = (M.2.1 77 7) := (F_n F45 (show ¬ (77 = 77 ∧ 7 = 2 ∨ 94 ≤ 77 ∧ 77 ≤ 98) by decide) (F_n F23 (show ¬ (11 ≤ 77 ∧ 77 ≤ 16) by decide) rfl))
  have t_53 : (M48.2.1 77 7).toInt = (M.2.1 77 7).toInt := congrArg Int32.toInt c_52
  have c_54 : M48.2.1 77 6 = (M.2.1 77 6) := (F_n F45 (show ¬ (77 = 77 ∧ 6 = 2 ∨ 94 ≤ 77 ∧ 77 ≤ 98) by decide) (F_n F23 (show ¬ (11 ≤ 77 ∧ 77 ≤ 16) by decide) rfl))
  have t_55 : (M48.2.1 77 6).toInt = (M.2.1 77 6).toInt := congrArg Int32.toInt c_54
  have c_56 : M48.2.1 1 1 = (M.2.1 1 1) := (F_n F45 (show ¬ (1 = 77 ∧ 1 = 2 ∨ 94 ≤ 1 ∧ 1 ≤ 98) by decide) (F_n F23 (show ¬ (11 ≤ 1 ∧ 1 ≤ 16) by decide) rfl))
  have t_57 : (M48.2.1 1 1).toInt = (M.2.1 1 1).toInt := congrArg Int32.toInt c_56
  have c_58 : M48.2.1 77 1 = (M.2.1 77 1) := (F_n F45 (show ¬ (77 = 77 ∧ 1 = 2 ∨ 94 ≤ 77 ∧ 77 ≤ 98) by decide) (F_n F23 (show ¬ (11 ≤ 77 ∧ 77 ≤ 16) by decide) rfl))
  have t_59 : (M48.2.1 77 1).toInt = (M.2.1 77 1).toInt := congrArg Int32.toInt c_58
  have c_60 : M48.2.1 0 12 = (M.2.1 0 12) := (F_n F45 (show ¬ (0 = 77 ∧ 12 = 2 ∨ 94 ≤ 0 ∧ 0 ≤ 98) by decide) (F_n F23 (show ¬ (11 ≤ 0 ∧ 0 ≤ 16) by decide) rfl))
  have t_61 : (M48.2.1 0 12).toInt = (M.2.1 0 12).toInt := congrArg Int32.toInt c_60
  have c_62 : M48.2.1 77 28 = (M.2.1 77 28) := (F_n F45 (show ¬ (77 = 77 ∧ 28 = 2 ∨ 94 ≤ 77 ∧ 77 ≤ 98) by decide) c_37)
  have t_63 : (M48.2.1 77 28).toInt = (M.2.1 77 28).toInt := congrArg Int32.toInt c_62
  have c_64 : M48.2.1 17 4 = (M.2.1 17 4) := (F_n F45 (show ¬ (17 = 77 ∧ 4 = 2 ∨ 94 ≤ 17 ∧ 17 ≤ 98) by decide) (F_n F23 (show ¬ (11 ≤ 17 ∧ 17 ≤ 16) by decide) rfl))
  have t_65 : (M48.2.1 17 4).toInt = (M.2.1 17 4).toInt := congrArg Int32.toInt c_64
  have c_66 : M48.2.1 77 41 = (M.2.1 77 41) := (F_n F45 (show ¬ (77 = 77 ∧ 41 = 2 ∨ 94 ≤ 77 ∧ 77 ≤ 98) by decide) (F_n F23 (show ¬ (11 ≤ 77 ∧ 77 ≤ 16) by decide) rfl))
  have t_67 : (M48.2.1 77 41).toInt = (M.2.1 77 41).toInt := congrArg Int32.toInt c_66
  have c_68 : M48.2.1 6 0 = (M.2.1 6 0) := (F_n F45 (show ¬ (6 = 77 ∧ 0 = 2 ∨ 94 ≤ 6 ∧ 6 ≤ 98) by decide) (F_n F23 (show ¬ (11 ≤ 6 ∧ 6 ≤ 16) by decide) rfl))
  have t_69 : (M48.2.1 6 0).toInt = (M.2.1 6 0).toInt := congrArg Int32.toInt c_68
  have c_70 : M48.2.1 77 29 = (M.2.1 77 29) := (F_n F45 (show ¬ (77 = 77 ∧ 29 = 2 ∨ 94 ≤ 77 ∧ 77 ≤ 98) by decide) c_35)
  have t_71 : (M48.2.1 77 29).toInt = (M.2.1 77 29).toInt := congrArg Int32.toInt c_70
  have j_72 := (PI_f (tg_567 F45) (PI_f (tg_302 F23) jPI))
  have j_73 := (NI_f (tg_568 F45) (NI_f (tg_258 F23) jNI))
  have j_74 := (QI_f (tg_569 F45) (QI_f (tg_309 F23) jQI))
  have j_75 := (PQE_r F45.2.1 (PQE_r F23.2.1 jPQE))
  have j_76 := (FA_f (tg_570 F45) j_40)
  have j_77 := (WC_f (tg_571 F45) (WC_f (tg_572 F23) jWC))
  have j_78 := (NJ_f (tg_573 F45) (NJ_f (tg_574 F23) jNJ))
  have j_79 := (PS_f (tg_575 F45) (PS_f (tg_576 F23) jPS))
  have j_80 := (KQ_f (tg_577 F45) (KQ_f (tg_578 F23) jKQ))
  have j_81 := (TP_f (tg_579 F45) (TP_f (tg_580 F23) jTP))
  have j_82 := (W9_f (tg_581 F45) (W9_f (tg_582 F23) jW9))
  have j_83 := (AN_F F45 tg_628 (AN_F F23 tg_629 jAN))
  have j_84 := (G8_F F45 (fun a i z => show ¬ (a = 77 ∧ i = 2 ∨ 94 ≤ a ∧ a ≤ 98) by (first | (clear hpz21 hpzz21 hqz21 hqzz21; omega) | (clear hpz21 hpzz21 hqz21; omega) | omega)) (G8_F F23 (fun a i z => show ¬ (11 ≤ a ∧ a ≤ 16) by (first | (clear hpz21 hpzz21 hqz21 hqzz21; omega) | (clear hpz21 hpzz21 hqz21; omega) | omega)) jG8))
  have j_85 := (PKA_F F45 (fun a i z => show ¬ (a = 77 ∧ i = 2 ∨ 94 ≤ a ∧ a ≤ 98) by (first | (clear hpz21 hpzz21 hqz21 hqzz21; omega) | (clear hpz21 hpzz21 hqz21; omega) | omega)) (PKA_F F23 (fun a i z => show ¬ (11 ≤ a ∧ a ≤ 16) by (first | (clear hpz21 hpzz21 hqz21 hqzz21; omega) | (clear hpz21 hpzz21 hqz21; omega) | omega)) jPKA))
  have j_86 := (NE_r F45.2.1 (NE_r F23.2.1 jNE))
  have j_87 := (W8_f (tg_583 F45) j_42)
  exact h M48 (u5) (u6) ⟨⟨⟨⟨⟨⟨⟨⟨⟨hG46, ⟨j_72, j_73, j_74, j_75⟩, ⟨j_76, j_77, j_78, j_79, j_80⟩, by (first | (clear hpz21 hpzz21 hqz21 hqzz21; omega) | (clear hpz21 hpzz21 hqz21; omega) | omega), by (first | (clear hpz21 hpzz21 hqz21 hqzz21; omega) | (clear hpz21 hpzz21 hqz21; omega) | omega)⟩, j_81, j_82⟩, j_86, by (first | (clear hpz21 hpzz21 hqz21 hqzz21; omega) | (clear hpz21 hpzz21 hqz21; omega) | omega)⟩, AN_a j_83⟩, by (first | (clear hpz21 hpzz21 hqz21 hqzz21; omega) | (clear hpz21 hpzz21 hqz21; omega) | omega)⟩, j_87⟩, by (first | (clear hpz21 hpzz21 hqz21 hqzz21; omega) | (clear hpz21 hpzz21 hqz21; omega) | omega)⟩, j_83⟩, j_84, j_85⟩ (by (first | (clear hpz21 hpzz21 hqz21 hqzz21; omega) | (clear hpz21 hpzz21 hqz21; omega) | omega)) (by (first | (clear hpz21 hpzz21 hqz21 hqzz21; omega) | (clear hpz21 hpzz21 hqz21; omega) | omega))
