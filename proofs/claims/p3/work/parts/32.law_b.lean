set_option maxRecDepth 4000 in
set_option maxHeartbeats 0 in
theorem LW_15 {X : mm_X} {d L : Nat} {M : mm_M} {Q : Option Value → mm_M → Prop} {i : Int32} {u5 u6 : Value} (hX : g_X X) (hW : g_W X) (hL : (X 0).1 = L) (h3 : L ≤ 3072) (hd : 40 ≤ d) (hi : 0 ≤ i.toInt) (hi2 : i.toInt + 6 ≤ (L : Int)) (H : LI3 M) (h : ∀ (M1 : mm_M) (v5 v6 : Value), LI3 M1 → M1.1.2.1 ≤ M.1.2.1 + 1 → M1.1.2.2.1 ≤ M.1.2.2.1 + 6 → mm_T X d 0 1313 [.ref mm_ext, .ref 0, .ref 77, .ref 125, .int i, v5, v6] [] M1 Q) : mm_T X d 0 726 [.ref mm_ext, .ref 0, .ref 77, .ref 125, .int i, u5, u6] [] M Q := by
  obtain ⟨⟨hG, ⟨jPI, jNI, jQI, jPQE⟩, ⟨jFA, jWC, jNJ, jPS, jKQ⟩, jJ, jE⟩, jTP, jW9⟩ := H
  have b_1 := g_b hG (a := 77) (i := 7) (lo := 0) (hi := 500) rfl rfl
  have b_2 := g_b hG (a := 77) (i := 6) (lo := 0) (hi := 500) rfl rfl
  have b_3 := g_b hG (a := 1) (i := 1) (lo := 0) (hi := 500) rfl rfl
  have b_4 := g_b hG (a := 77) (i := 1) (lo := 0) (hi := 500) rfl rfl
  refine to_an (pc := 726) rw_0_726 rfl ?_
  refine to_an (pc := 727) rw_0_727 rfl ?_
  refine to_i (pc := 728) rw_0_728 rfl ?_
  refine to_c (pc := 730) rw_0_730 (x := (1 : Int32)) rfl rfl ?_
  refine s_add (pc := 731) rw_0_731 (A := i.toInt) (B := 1) rfl rfl (by omega) (fun v5 e6 => ?_)
  refine s_x0 (pc := 732) rw_0_732 hL (A := v5.toInt) rfl (by omega) (by omega) (fun v7 e8 => ?_)
  refine to_an (pc := 733) rw_0_733 rfl ?_
  refine to_i (pc := 734) rw_0_734 rfl ?_
  refine to_c (pc := 736) rw_0_736 (x := (2 : Int32)) rfl rfl ?_
  refine s_add (pc := 737) rw_0_737 (A := i.toInt) (B := 2) rfl rfl (by omega) (fun v9 e10 => ?_)
  refine s_x0 (pc := 738) rw_0_738 hL (A := v9.toInt) rfl (by omega) (by omega) (fun v11 e12 => ?_)
  refine s_v (pc := 739) rw_0_739 (by omega) (ls0 := [.ref 0, .int v7, .int v11]) rfl (Nat.le_of_ble_eq_true rfl) (Nat.le_of_ble_eq_true rfl) rfl (to_rc rfl rfl rfl (g_o hG rfl)) rfl ?_
  obtain ⟨pz13, pzz13, qz13, qzz13, hpz13, hpzz13, hqz13, hqzz13, hpqz13⟩ := id jPQE
  refine C_124 hX (by omega) hG hpz13 hpzz13 hqz13 hqzz13 hpqz13 jNI jPI jQI (n := v7) (c := v11) (p := pz13) (pz := pzz13) (q := qz13) (qz := qzz13) (fun r14 M20 hG16 F15 p_17 p_18 p_19 => ?_)
  have n_21 : M20.1.2.1 = M.1.2.1 ∧ M20.1.2.2.1 = M.1.2.2.1 := by rw [F15.1]; exact ⟨rfl, rfl⟩
  refine s_pop2 (pc := 742) rw_0_742 ?_
  refine to_an (pc := 743) rw_0_743 rfl ?_
  refine to_an (pc := 744) rw_0_744 rfl ?_
  refine to_i (pc := 745) rw_0_745 rfl ?_
  refine to_c (pc := 747) rw_0_747 (x := (1 : Int32)) rfl rfl ?_
  refine s_addk (pc := 748) rw_0_748 (A := i.toInt) (B := 1) rfl rfl (by omega) (v := v5) e6 ?_
  refine s_x0k (pc := 749) rw_0_749 hL (A := v5.toInt) rfl (by omega) (by omega) (v := v7) e8 ?_
  refine to_an (pc := 750) rw_0_750 rfl ?_
  refine to_i (pc := 751) rw_0_751 rfl ?_
  refine to_c (pc := 753) rw_0_753 (x := (2 : Int32)) rfl rfl ?_
  refine s_addk (pc := 754) rw_0_754 (A := i.toInt) (B := 2) rfl rfl (by omega) (v := v9) e10 ?_
  refine s_x0k (pc := 755) rw_0_755 hL (A := v9.toInt) rfl (by omega) (by omega) (v := v11) e12 ?_
  refine s_v (pc := 756) rw_0_756 (by omega) (ls0 := [.ref 77, .int v7, .int v11]) rfl (Nat.le_of_ble_eq_true rfl) (Nat.le_of_ble_eq_true rfl) rfl (to_rc rfl rfl rfl (g_o hG16 rfl)) rfl ?_
  have j_27 := (NJ_f (fun a i z => F_n F15 (show ¬ (a = 0 ∨ 6 ≤ a ∧ a ≤ 76) by omega) rfl) jNJ)
  refine C_200 hX (by omega) hG16 j_27 (n := v7) (c := v11) (fun r28 M31 hG30 F29 => ?_)
  have n_32 : M31.1.2.1 = M20.1.2.1 ∧ M31.1.2.2.1 = M20.1.2.2.1 := by rw [F29.1]; exact ⟨rfl, rfl⟩
  refine s_pop2 (pc := 759) rw_0_759 ?_
  refine to_go (pc := 760) rw_0_760 ?_
  have c_34 : M31.2.1 77 7 = (M.2.1 77 7) := (F_n F29 (show ¬ (77 = 77 ∧ 7 = 2 ∨ 94 ≤ 77 ∧ 77 ≤ 98) by omega) (F_n F15 (show ¬ (77 = 0 ∨ 6 ≤ 77 ∧ 77 ≤ 76) by omega) rfl))
  have t_35 : (M31.2.1 77 7).toInt = (M.2.1 77 7).toInt := congrArg Int32.toInt c_34
  have c_36 : M31.2.1 77 6 = (M.2.1 77 6) := (F_n F29 (show ¬ (77 = 77 ∧ 6 = 2 ∨ 94 ≤ 77 ∧ 77 ≤ 98) by omega) (F_n F15 (show ¬ (77 = 0 ∨ 6 ≤ 77 ∧ 77 ≤ 76) by omega) rfl))
  have t_37 : (M31.2.1 77 6).toInt = (M.2.1 77 6).toInt := congrArg Int32.toInt c_36
  have c_38 : M31.2.1 1 1 = (M.2.1 1 1) := (F_n F29 (show ¬ (1 = 77 ∧ 1 = 2 ∨ 94 ≤ 1 ∧ 1 ≤ 98) by omega) (F_n F15 (show ¬ (1 = 0 ∨ 6 ≤ 1 ∧ 1 ≤ 76) by omega) rfl))
  have t_39 : (M31.2.1 1 1).toInt = (M.2.1 1 1).toInt := congrArg Int32.toInt c_38
  have c_40 : M31.2.1 77 1 = (M.2.1 77 1) := (F_n F29 (show ¬ (77 = 77 ∧ 1 = 2 ∨ 94 ≤ 77 ∧ 77 ≤ 98) by omega) (F_n F15 (show ¬ (77 = 0 ∨ 6 ≤ 77 ∧ 77 ≤ 76) by omega) rfl))
  have t_41 : (M31.2.1 77 1).toInt = (M.2.1 77 1).toInt := congrArg Int32.toInt c_40
  have j_42 := (PI_f (fun a i z => F_n F29 (show ¬ (a = 77 ∧ i = 2 ∨ 94 ≤ a ∧ a ≤ 98) by omega) rfl) p_17)
  have j_43 := (NI_f (fun a i z => F_n F29 (show ¬ (a = 77 ∧ i = 2 ∨ 94 ≤ a ∧ a ≤ 98) by omega) rfl) p_18)
  have j_44 := (QI_f (fun a i z => F_n F29 (show ¬ (a = 77 ∧ i = 2 ∨ 94 ≤ a ∧ a ≤ 98) by omega) rfl) p_19)
  have j_45 := (PQE_r F29.2.1 (PQE_r F15.2.1 jPQE))
  have j_46 := (FA_f (fun a i z => F_n F29 (show ¬ (a = 77 ∧ i = 2 ∨ 94 ≤ a ∧ a ≤ 98) by omega) rfl) (FA_f (fun a i z => F_n F15 (show ¬ (a = 0 ∨ 6 ≤ a ∧ a ≤ 76) by omega) rfl) jFA))
  have j_47 := (WC_f (fun a i z => F_n F29 (show ¬ (a = 77 ∧ i = 2 ∨ 94 ≤ a ∧ a ≤ 98) by omega) rfl) (WC_f (fun a i z => F_n F15 (show ¬ (a = 0 ∨ 6 ≤ a ∧ a ≤ 76) by omega) rfl) jWC))
  have j_48 := (NJ_f (fun a i z => F_n F29 (show ¬ (a = 77 ∧ i = 2 ∨ 94 ≤ a ∧ a ≤ 98) by omega) rfl) j_27)
  have j_49 := (PS_f (fun a i z => F_n F29 (show ¬ (a = 77 ∧ i = 2 ∨ 94 ≤ a ∧ a ≤ 98) by omega) rfl) (PS_f (fun a i z => F_n F15 (show ¬ (a = 0 ∨ 6 ≤ a ∧ a ≤ 76) by omega) rfl) jPS))
  have j_50 := (KQ_f (fun a i z => F_n F29 (show ¬ (a = 77 ∧ i = 2 ∨ 94 ≤ a ∧ a ≤ 98) by omega) rfl) (KQ_f (fun a i z => F_n F15 (show ¬ (a = 0 ∨ 6 ≤ a ∧ a ≤ 76) by omega) rfl) jKQ))
  have j_51 := (TP_f (fun a i z => F_n F29 (show ¬ (a = 77 ∧ i = 2 ∨ 94 ≤ a ∧ a ≤ 98) by omega) rfl) (TP_f (fun a i z => F_n F15 (show ¬ (a = 0 ∨ 6 ≤ a ∧ a ≤ 76) by omega) rfl) jTP))
  have j_52 := (W9_f (fun a i z => F_n F29 (show ¬ (a = 77 ∧ i = 2 ∨ 94 ≤ a ∧ a ≤ 98) by omega) rfl) (W9_f (fun a i z => F_n F15 (show ¬ (a = 0 ∨ 6 ≤ a ∧ a ≤ 76) by omega) rfl) jW9))
  exact h M31 (u5) (u6) ⟨⟨hG30, ⟨j_42, j_43, j_44, j_45⟩, ⟨j_46, j_47, j_48, j_49, j_50⟩, by omega, by omega⟩, j_51, j_52⟩ (by omega) (by omega)
set_option maxRecDepth 4000 in
set_option maxHeartbeats 0 in
theorem LW_16 {X : mm_X} {d L : Nat} {M : mm_M} {Q : Option Value → mm_M → Prop} {i : Int32} {u5 u6 : Value} (hX : g_X X) (hW : g_W X) (hL : (X 0).1 = L) (h3 : L ≤ 3072) (hd : 40 ≤ d) (hi : 0 ≤ i.toInt) (hi2 : i.toInt + 6 ≤ (L : Int)) (H : LI3 M) (h : ∀ (M1 : mm_M) (v5 v6 : Value), LI3 M1 → M1.1.2.1 ≤ M.1.2.1 + 1 → M1.1.2.2.1 ≤ M.1.2.2.1 + 6 → mm_T X d 0 1313 [.ref mm_ext, .ref 0, .ref 77, .ref 125, .int i, v5, v6] [] M1 Q) : mm_T X d 0 763 [.ref mm_ext, .ref 0, .ref 77, .ref 125, .int i, u5, u6] [] M Q := by
  obtain ⟨⟨hG, ⟨jPI, jNI, jQI, jPQE⟩, ⟨jFA, jWC, jNJ, jPS, jKQ⟩, jJ, jE⟩, jTP, jW9⟩ := H
  have b_1 := g_b hG (a := 77) (i := 7) (lo := 0) (hi := 500) rfl rfl
  have b_2 := g_b hG (a := 77) (i := 6) (lo := 0) (hi := 500) rfl rfl
  have b_3 := g_b hG (a := 1) (i := 1) (lo := 0) (hi := 500) rfl rfl
  have b_4 := g_b hG (a := 77) (i := 1) (lo := 0) (hi := 500) rfl rfl
  refine to_an (pc := 763) rw_0_763 rfl ?_
  refine to_an (pc := 764) rw_0_764 rfl ?_
  refine to_i (pc := 765) rw_0_765 rfl ?_
  refine to_c (pc := 767) rw_0_767 (x := (1 : Int32)) rfl rfl ?_
  refine s_add (pc := 768) rw_0_768 (A := i.toInt) (B := 1) rfl rfl (by omega) (fun v5 e6 => ?_)
  refine s_x0 (pc := 769) rw_0_769 hL (A := v5.toInt) rfl (by omega) (by omega) (fun v7 e8 => ?_)
  refine to_an (pc := 770) rw_0_770 rfl ?_
  refine to_i (pc := 771) rw_0_771 rfl ?_
  refine to_c (pc := 773) rw_0_773 (x := (2 : Int32)) rfl rfl ?_
  refine s_add (pc := 774) rw_0_774 (A := i.toInt) (B := 2) rfl rfl (by omega) (fun v9 e10 => ?_)
  refine s_x0 (pc := 775) rw_0_775 hL (A := v9.toInt) rfl (by omega) (by omega) (fun v11 e12 => ?_)
  refine to_an (pc := 776) rw_0_776 rfl ?_
  refine to_i (pc := 777) rw_0_777 rfl ?_
  refine to_c (pc := 779) rw_0_779 (x := (3 : Int32)) rfl rfl ?_
  refine s_add (pc := 780) rw_0_780 (A := i.toInt) (B := 3) rfl rfl (by omega) (fun v13 e14 => ?_)
  refine s_x0 (pc := 781) rw_0_781 hL (A := v13.toInt) rfl (by omega) (by omega) (fun v15 e16 => ?_)
  refine s_v (pc := 782) rw_0_782 (by omega) (ls0 := [.ref 0, .int v7, .int v11, .int v15]) rfl (Nat.le_of_ble_eq_true rfl) (Nat.le_of_ble_eq_true rfl) rfl (to_rc rfl rfl rfl (g_o hG rfl)) rfl ?_
  obtain ⟨pz17, pzz17, qz17, qzz17, hpz17, hpzz17, hqz17, hqzz17, hpqz17⟩ := id jPQE
  refine C_125 hX (by omega) hG hpz17 hpzz17 hqz17 hqzz17 hpqz17 jNI jPI jQI (n := v7) (c := v11) (f := v15) (p := pz17) (pz := pzz17) (q := qz17) (qz := qzz17) (fun r18 M24 hG20 F19 p_21 p_22 p_23 => ?_)
  have n_25 : M24.1.2.1 = M.1.2.1 ∧ M24.1.2.2.1 = M.1.2.2.1 := by rw [F19.1]; exact ⟨rfl, rfl⟩
  refine to_popi (pc := 785) rw_0_785 ?_
  refine to_an (pc := 786) rw_0_786 rfl ?_
  refine to_an (pc := 787) rw_0_787 rfl ?_
  refine to_i (pc := 788) rw_0_788 rfl ?_
  refine to_c (pc := 790) rw_0_790 (x := (1 : Int32)) rfl rfl ?_
  refine s_addk (pc := 791) rw_0_791 (A := i.toInt) (B := 1) rfl rfl (by omega) (v := v5) e6 ?_
  refine s_x0k (pc := 792) rw_0_792 hL (A := v5.toInt) rfl (by omega) (by omega) (v := v7) e8 ?_
  refine to_an (pc := 793) rw_0_793 rfl ?_
  refine to_i (pc := 794) rw_0_794 rfl ?_
  refine to_c (pc := 796) rw_0_796 (x := (2 : Int32)) rfl rfl ?_
  refine s_addk (pc := 797) rw_0_797 (A := i.toInt) (B := 2) rfl rfl (by omega) (v := v9) e10 ?_
  refine s_x0k (pc := 798) rw_0_798 hL (A := v9.toInt) rfl (by omega) (by omega) (v := v11) e12 ?_
  refine to_an (pc := 799) rw_0_799 rfl ?_
  refine to_i (pc := 800) rw_0_800 rfl ?_
  refine to_c (pc := 802) rw_0_802 (x := (3 : Int32)) rfl rfl ?_
  refine s_addk (pc := 803) rw_0_803 (A := i.toInt) (B := 3) rfl rfl (by omega) (v := v13) e14 ?_
  refine s_x0k (pc := 804) rw_0_804 hL (A := v13.toInt) rfl (by omega) (by omega) (v := v15) e16 ?_
  refine s_v (pc := 805) rw_0_805 (by omega) (ls0 := [.ref 77, .int v7, .int v11, .int v15]) rfl (Nat.le_of_ble_eq_true rfl) (Nat.le_of_ble_eq_true rfl) rfl (to_rc rfl rfl rfl (g_o hG20 rfl)) rfl ?_
  have j_33 := (NJ_f (fun a i z => F_n F19 (show ¬ (a = 0 ∨ 6 ≤ a ∧ a ≤ 76) by omega) rfl) jNJ)
  refine C_202 hX (by omega) hG20 j_33 (n := v7) (c := v11) (f := v15) (fun r34 M37 hG36 F35 => ?_)
  have n_38 : M37.1.2.1 = M24.1.2.1 ∧ M37.1.2.2.1 = M24.1.2.2.1 := by rw [F35.1]; exact ⟨rfl, rfl⟩
  refine to_popi (pc := 808) rw_0_808 ?_
  refine to_go (pc := 809) rw_0_809 ?_
  have c_40 : M37.2.1 77 7 = (M.2.1 77 7) := (F_n F35 (show ¬ (77 = 77 ∧ 7 = 2 ∨ 94 ≤ 77 ∧ 77 ≤ 98) by omega) (F_n F19 (show ¬ (77 = 0 ∨ 6 ≤ 77 ∧ 77 ≤ 76) by omega) rfl))
  have t_41 : (M37.2.1 77 7).toInt = (M.2.1 77 7).toInt := congrArg Int32.toInt c_40
  have c_42 : M37.2.1 77 6 = (M.2.1 77 6) := (F_n F35 (show ¬ (77 = 77 ∧ 6 = 2 ∨ 94 ≤ 77 ∧ 77 ≤ 98) by omega) (F_n F19 (show ¬ (77 = 0 ∨ 6 ≤ 77 ∧ 77 ≤ 76) by omega) rfl))
  have t_43 : (M37.2.1 77 6).toInt = (M.2.1 77 6).toInt := congrArg Int32.toInt c_42
  have c_44 : M37.2.1 1 1 = (M.2.1 1 1) := (F_n F35 (show ¬ (1 = 77 ∧ 1 = 2 ∨ 94 ≤ 1 ∧ 1 ≤ 98) by omega) (F_n F19 (show ¬ (1 = 0 ∨ 6 ≤ 1 ∧ 1 ≤ 76) by omega) rfl))
  have t_45 : (M37.2.1 1 1).toInt = (M.2.1 1 1).toInt := congrArg Int32.toInt c_44
  have c_46 : M37.2.1 77 1 = (M.2.1 77 1) := (F_n F35 (show ¬ (77 = 77 ∧ 1 = 2 ∨ 94 ≤ 77 ∧ 77 ≤ 98) by omega) (F_n F19 (show ¬ (77 = 0 ∨ 6 ≤ 77 ∧ 77 ≤ 76) by omega) rfl))
  have t_47 : (M37.2.1 77 1).toInt = (M.2.1 77 1).toInt := congrArg Int32.toInt c_46
  have j_48 := (PI_f (fun a i z => F_n F35 (show ¬ (a = 77 ∧ i = 2 ∨ 94 ≤ a ∧ a ≤ 98) by omega) rfl) p_21)
  have j_49 := (NI_f (fun a i z => F_n F35 (show ¬ (a = 77 ∧ i = 2 ∨ 94 ≤ a ∧ a ≤ 98) by omega) rfl) p_22)
  have j_50 := (QI_f (fun a i z => F_n F35 (show ¬ (a = 77 ∧ i = 2 ∨ 94 ≤ a ∧ a ≤ 98) by omega) rfl) p_23)
  have j_51 := (PQE_r F35.2.1 (PQE_r F19.2.1 jPQE))
  have j_52 := (FA_f (fun a i z => F_n F35 (show ¬ (a = 77 ∧ i = 2 ∨ 94 ≤ a ∧ a ≤ 98) by omega) rfl) (FA_f (fun a i z => F_n F19 (show ¬ (a = 0 ∨ 6 ≤ a ∧ a ≤ 76) by omega) rfl) jFA))
  have j_53 := (WC_f (fun a i z => F_n F35 (show ¬ (a = 77 ∧ i = 2 ∨ 94 ≤ a ∧ a ≤ 98) by omega) rfl) (WC_f (fun a i z => F_n F19 (show ¬ (a = 0 ∨ 6 ≤ a ∧ a ≤ 76) by omega) rfl) jWC))
  have j_54 := (NJ_f (fun a i z => F_n F35 (show ¬ (a = 77 ∧ i = 2 ∨ 94 ≤ a ∧ a ≤ 98) by omega) rfl) j_33)
  have j_55 := (PS_f (fun a i z => F_n F35 (show ¬ (a = 77 ∧ i = 2 ∨ 94 ≤ a ∧ a ≤ 98) by omega) rfl) (PS_f (fun a i z => F_n F19 (show ¬ (a = 0 ∨ 6 ≤ a ∧ a ≤ 76) by omega) rfl) jPS))
  have j_56 := (KQ_f (fun a i z => F_n F35 (show ¬ (a = 77 ∧ i = 2 ∨ 94 ≤ a ∧ a ≤ 98) by omega) rfl) (KQ_f (fun a i z => F_n F19 (show ¬ (a = 0 ∨ 6 ≤ a ∧ a ≤ 76) by omega) rfl) jKQ))
  have j_57 := (TP_f (fun a i z => F_n F35 (show ¬ (a = 77 ∧ i = 2 ∨ 94 ≤ a ∧ a ≤ 98) by omega) rfl) (TP_f (fun a i z => F_n F19 (show ¬ (a = 0 ∨ 6 ≤ a ∧ a ≤ 76) by omega) rfl) jTP))
  have j_58 := (W9_f (fun a i z => F_n F35 (show ¬ (a = 77 ∧ i = 2 ∨ 94 ≤ a ∧ a ≤ 98) by omega) rfl) (W9_f (fun a i z => F_n F19 (show ¬ (a = 0 ∨ 6 ≤ a ∧ a ≤ 76) by omega) rfl) jW9))
  exact h M37 (u5) (u6) ⟨⟨hG36, ⟨j_48, j_49, j_50, j_51⟩, ⟨j_52, j_53, j_54, j_55, j_56⟩, by omega, by omega⟩, j_57, j_58⟩ (by omega) (by omega)
set_option maxRecDepth 4000 in
set_option maxHeartbeats 0 in
theorem LW_17 {X : mm_X} {d L : Nat} {M : mm_M} {Q : Option Value → mm_M → Prop} {i : Int32} {u5 u6 : Value} (hX : g_X X) (hW : g_W X) (hL : (X 0).1 = L) (h3 : L ≤ 3072) (hd : 40 ≤ d) (hi : 0 ≤ i.toInt) (hi2 : i.toInt + 6 ≤ (L : Int)) (H : LI3 M) (h : ∀ (M1 : mm_M) (v5 v6 : Value), LI3 M1 → M1.1.2.1 ≤ M.1.2.1 + 1 → M1.1.2.2.1 ≤ M.1.2.2.1 + 6 → mm_T X d 0 1313 [.ref mm_ext, .ref 0, .ref 77, .ref 125, .int i, v5, v6] [] M1 Q) : mm_T X d 0 812 [.ref mm_ext, .ref 0, .ref 77, .ref 125, .int i, u5, u6] [] M Q := by
  obtain ⟨⟨hG, ⟨jPI, jNI, jQI, jPQE⟩, ⟨jFA, jWC, jNJ, jPS, jKQ⟩, jJ, jE⟩, jTP, jW9⟩ := H
  have b_1 := g_b hG (a := 77) (i := 7) (lo := 0) (hi := 500) rfl rfl
  have b_2 := g_b hG (a := 77) (i := 6) (lo := 0) (hi := 500) rfl rfl
  have b_3 := g_b hG (a := 1) (i := 1) (lo := 0) (hi := 500) rfl rfl
  have b_4 := g_b hG (a := 77) (i := 1) (lo := 0) (hi := 500) rfl rfl
  refine to_an (pc := 812) rw_0_812 rfl ?_
  refine to_an (pc := 813) rw_0_813 rfl ?_
  refine to_i (pc := 814) rw_0_814 rfl ?_
  refine to_c (pc := 816) rw_0_816 (x := (1 : Int32)) rfl rfl ?_
  refine s_add (pc := 817) rw_0_817 (A := i.toInt) (B := 1) rfl rfl (by omega) (fun v5 e6 => ?_)
  refine s_x0 (pc := 818) rw_0_818 hL (A := v5.toInt) rfl (by omega) (by omega) (fun v7 e8 => ?_)
  refine s_v (pc := 819) rw_0_819 (by omega) (ls0 := [.ref 0, .int v7]) rfl (Nat.le_of_ble_eq_true rfl) (Nat.le_of_ble_eq_true rfl) rfl (to_rc rfl rfl rfl (g_o hG rfl)) rfl ?_
  obtain ⟨pz9, pzz9, qz9, qzz9, hpz9, hpzz9, hqz9, hqzz9, hpqz9⟩ := id jPQE
  refine C_126 hX (by omega) hG hpz9 hpzz9 hqz9 hqzz9 hpqz9 jPI jNI jQI (c := v7) (p := pz9) (pz := pzz9) (q := qz9) (qz := qzz9) (fun r10 M18 hG12 F11 p_13 p_14 p_15 p_16 p_17 => ?_)
  have n_19 : M18.1.2.1 = M.1.2.1 ∧ M18.1.2.2.1 = M.1.2.2.1 := by rw [F11.1]; exact ⟨rfl, rfl⟩
  refine to_popi (pc := 822) rw_0_822 ?_
  refine to_an (pc := 823) rw_0_823 rfl ?_
  refine to_an (pc := 824) rw_0_824 rfl ?_
  refine to_i (pc := 825) rw_0_825 rfl ?_
  refine to_c (pc := 827) rw_0_827 (x := (1 : Int32)) rfl rfl ?_
  refine s_addk (pc := 828) rw_0_828 (A := i.toInt) (B := 1) rfl rfl (by omega) (v := v5) e6 ?_
  refine s_x0k (pc := 829) rw_0_829 hL (A := v5.toInt) rfl (by omega) (by omega) (v := v7) e8 ?_
  refine s_v (pc := 830) rw_0_830 (by omega) (ls0 := [.ref 77, .int v7]) rfl (Nat.le_of_ble_eq_true rfl) (Nat.le_of_ble_eq_true rfl) rfl (to_rc rfl rfl rfl (g_o hG12 rfl)) rfl ?_
  refine C_203 hX (by omega) hG12 (c := v7) (fun r23 M28 hG25 F24 p_26 p_27 => ?_)
  have n_29 : M28.1.2.1 = M18.1.2.1 ∧ M28.1.2.2.1 = M18.1.2.2.1 := by rw [F24.1]; exact ⟨rfl, rfl⟩
  refine to_popi (pc := 833) rw_0_833 ?_
  refine to_go (pc := 834) rw_0_834 ?_
  have c_31 : M28.2.1 77 7 = (M.2.1 77 7) := (F_n F24 (show ¬ (77 = 77 ∧ (7 = 2 ∨ 7 = 41)) by omega) (F_n F11 (show ¬ (77 = 0 ∨ 6 ≤ 77 ∧ 77 ≤ 76) by omega) rfl))
  have t_32 : (M28.2.1 77 7).toInt = (M.2.1 77 7).toInt := congrArg Int32.toInt c_31
  have c_33 : M28.2.1 77 6 = (M.2.1 77 6) := (F_n F24 (show ¬ (77 = 77 ∧ (6 = 2 ∨ 6 = 41)) by omega) (F_n F11 (show ¬ (77 = 0 ∨ 6 ≤ 77 ∧ 77 ≤ 76) by omega) rfl))
  have t_34 : (M28.2.1 77 6).toInt = (M.2.1 77 6).toInt := congrArg Int32.toInt c_33
  have c_35 : M28.2.1 1 1 = (M.2.1 1 1) := (F_n F24 (show ¬ (1 = 77 ∧ (1 = 2 ∨ 1 = 41)) by omega) (F_n F11 (show ¬ (1 = 0 ∨ 6 ≤ 1 ∧ 1 ≤ 76) by omega) rfl))
  have t_36 : (M28.2.1 1 1).toInt = (M.2.1 1 1).toInt := congrArg Int32.toInt c_35
  have c_37 : M28.2.1 77 1 = (M.2.1 77 1) := (F_n F24 (show ¬ (77 = 77 ∧ (1 = 2 ∨ 1 = 41)) by omega) (F_n F11 (show ¬ (77 = 0 ∨ 6 ≤ 77 ∧ 77 ≤ 76) by omega) rfl))
  have t_38 : (M28.2.1 77 1).toInt = (M.2.1 77 1).toInt := congrArg Int32.toInt c_37
  have j_39 := (PI_f (fun a i z => F_n F24 (show ¬ (a = 77 ∧ (i = 2 ∨ i = 41)) by omega) rfl) p_15)
  have j_40 := (NI_f (fun a i z => F_n F24 (show ¬ (a = 77 ∧ (i = 2 ∨ i = 41)) by omega) rfl) p_16)
  have j_41 := (QI_f (fun a i z => F_n F24 (show ¬ (a = 77 ∧ (i = 2 ∨ i = 41)) by omega) rfl) p_17)
  have j_42 := (PQE_r F24.2.1 (PQE_r F11.2.1 jPQE))
  have j_43 := (FA_f (fun a i z => F_n F24 (show ¬ (a = 77 ∧ (i = 2 ∨ i = 41)) by omega) rfl) (FA_f (fun a i z => F_n F11 (show ¬ (a = 0 ∨ 6 ≤ a ∧ a ≤ 76) by omega) rfl) jFA))
  have j_44 := (WC_f (fun a i z => F_n F24 (show ¬ (a = 77 ∧ (i = 2 ∨ i = 41)) by omega) rfl) (WC_f (fun a i z => F_n F11 (show ¬ (a = 0 ∨ 6 ≤ a ∧ a ≤ 76) by omega) rfl) jWC))
  have j_45 := (NJ_f (fun a i z => F_n F24 (show ¬ (a = 77 ∧ (i = 2 ∨ i = 41)) by omega) rfl) (NJ_f (fun a i z => F_n F11 (show ¬ (a = 0 ∨ 6 ≤ a ∧ a ≤ 76) by omega) rfl) jNJ))
  have j_46 := (PS_f (fun a i z => F_n F24 (show ¬ (a = 77 ∧ (i = 2 ∨ i = 41)) by omega) rfl) (PS_f (fun a i z => F_n F11 (show ¬ (a = 0 ∨ 6 ≤ a ∧ a ≤ 76) by omega) rfl) jPS))
  have j_47 := (KQ_f (fun a i z => F_n F24 (show ¬ (a = 77 ∧ (i = 2 ∨ i = 41)) by omega) rfl) (KQ_f (fun a i z => F_n F11 (show ¬ (a = 0 ∨ 6 ≤ a ∧ a ≤ 76) by omega) rfl) jKQ))
  have j_48 := (TP_f (fun a i z => F_n F24 (show ¬ (a = 77 ∧ (i = 2 ∨ i = 41)) by omega) rfl) (TP_f (fun a i z => F_n F11 (show ¬ (a = 0 ∨ 6 ≤ a ∧ a ≤ 76) by omega) rfl) jTP))
  have j_49 := (W9_f (fun a i z => F_n F24 (show ¬ (a = 77 ∧ (i = 2 ∨ i = 41)) by omega) rfl) (W9_f (fun a i z => F_n F11 (show ¬ (a = 0 ∨ 6 ≤ a ∧ a ≤ 76) by omega) rfl) jW9))
  exact h M28 (u5) (u6) ⟨⟨hG25, ⟨j_39, j_40, j_41, j_42⟩, ⟨j_43, j_44, j_45, j_46, j_47⟩, by omega, by omega⟩, j_48, j_49⟩ (by omega) (by omega)
set_option maxRecDepth 4000 in
set_option maxHeartbeats 0 in
theorem LW_18 {X : mm_X} {d L : Nat} {M : mm_M} {Q : Option Value → mm_M → Prop} {i : Int32} {u5 u6 : Value} (hX : g_X X) (hW : g_W X) (hL : (X 0).1 = L) (h3 : L ≤ 3072) (hd : 40 ≤ d) (hi : 0 ≤ i.toInt) (hi2 : i.toInt + 6 ≤ (L : Int)) (H : LI3 M) (h : ∀ (M1 : mm_M) (v5 v6 : Value), LI3 M1 → M1.1.2.1 ≤ M.1.2.1 + 1 → M1.1.2.2.1 ≤ M.1.2.2.1 + 6 → mm_T X d 0 1313 [.ref mm_ext, .ref 0, .ref 77, .ref 125, .int i, v5, v6] [] M1 Q) : mm_T X d 0 837 [.ref mm_ext, .ref 0, .ref 77, .ref 125, .int i, u5, u6] [] M Q := by
  obtain ⟨⟨hG, ⟨jPI, jNI, jQI, jPQE⟩, ⟨jFA, jWC, jNJ, jPS, jKQ⟩, jJ, jE⟩, jTP, jW9⟩ := H
  have b_1 := g_b hG (a := 77) (i := 7) (lo := 0) (hi := 500) rfl rfl
  have b_2 := g_b hG (a := 77) (i := 6) (lo := 0) (hi := 500) rfl rfl
  have b_3 := g_b hG (a := 1) (i := 1) (lo := 0) (hi := 500) rfl rfl
  have b_4 := g_b hG (a := 77) (i := 1) (lo := 0) (hi := 500) rfl rfl
  refine to_an (pc := 837) rw_0_837 rfl ?_
  refine s_v (pc := 838) rw_0_838 (by omega) (ls0 := [.ref 0]) rfl (Nat.le_of_ble_eq_true rfl) (Nat.le_of_ble_eq_true rfl) rfl (to_rc rfl rfl rfl (g_o hG rfl)) rfl ?_
  obtain ⟨pz5, pzz5, qz5, qzz5, hpz5, hpzz5, hqz5, hqzz5, hpqz5⟩ := id jPQE
  refine C_127 hX (by omega) hG hpz5 hpzz5 hqz5 hqzz5 hpqz5 (p := pz5) (pz := pzz5) (q := qz5) (qz := qzz5) (fun r6 M9 hG8 F7 => ?_)
  have n_10 : M9.1.2.1 = M.1.2.1 ∧ M9.1.2.2.1 = M.1.2.2.1 := by rw [F7.1]; exact ⟨rfl, rfl⟩
  refine to_popi (pc := 841) rw_0_841 ?_
  refine to_an (pc := 842) rw_0_842 rfl ?_
  refine s_v (pc := 843) rw_0_843 (by omega) (ls0 := [.ref 77]) rfl (Nat.le_of_ble_eq_true rfl) (Nat.le_of_ble_eq_true rfl) rfl (to_rc rfl rfl rfl (g_o hG8 rfl)) rfl ?_
  refine C_204 hX (by omega) hG8  (fun r12 M15 hG14 F13 => ?_)
  have n_16 : M15.1.2.1 = M9.1.2.1 ∧ M15.1.2.2.1 = M9.1.2.2.1 := by rw [F13.1]; exact ⟨rfl, rfl⟩
  refine to_popi (pc := 846) rw_0_846 ?_
  refine to_go (pc := 847) rw_0_847 ?_
  have c_18 : M15.2.1 77 7 = (M.2.1 77 7) := (F_n F13 (show ¬ (77 = 77 ∧ 7 = 2) by omega) (F_n F7 (show ¬ (77 < 0) by omega) rfl))
  have t_19 : (M15.2.1 77 7).toInt = (M.2.1 77 7).toInt := congrArg Int32.toInt c_18
  have c_20 : M15.2.1 77 6 = (M.2.1 77 6) := (F_n F13 (show ¬ (77 = 77 ∧ 6 = 2) by omega) (F_n F7 (show ¬ (77 < 0) by omega) rfl))
  have t_21 : (M15.2.1 77 6).toInt = (M.2.1 77 6).toInt := congrArg Int32.toInt c_20
  have c_22 : M15.2.1 1 1 = (M.2.1 1 1) := (F_n F13 (show ¬ (1 = 77 ∧ 1 = 2) by omega) (F_n F7 (show ¬ (1 < 0) by omega) rfl))
  have t_23 : (M15.2.1 1 1).toInt = (M.2.1 1 1).toInt := congrArg Int32.toInt c_22
  have c_24 : M15.2.1 77 1 = (M.2.1 77 1) := (F_n F13 (show ¬ (77 = 77 ∧ 1 = 2) by omega) (F_n F7 (show ¬ (77 < 0) by omega) rfl))
  have t_25 : (M15.2.1 77 1).toInt = (M.2.1 77 1).toInt := congrArg Int32.toInt c_24
  have j_26 := (PI_f (fun a i z => F_n F13 (show ¬ (a = 77 ∧ i = 2) by omega) rfl) (PI_f (fun a i z => F_n F7 (show ¬ (a < 0) by omega) rfl) jPI))
  have j_27 := (NI_f (fun a i z => F_n F13 (show ¬ (a = 77 ∧ i = 2) by omega) rfl) (NI_f (fun a i z => F_n F7 (show ¬ (a < 0) by omega) rfl) jNI))
  have j_28 := (QI_f (fun a i z => F_n F13 (show ¬ (a = 77 ∧ i = 2) by omega) rfl) (QI_f (fun a i z => F_n F7 (show ¬ (a < 0) by omega) rfl) jQI))
  have j_29 := (PQE_r F13.2.1 (PQE_r F7.2.1 jPQE))
  have j_30 := (FA_f (fun a i z => F_n F13 (show ¬ (a = 77 ∧ i = 2) by omega) rfl) (FA_f (fun a i z => F_n F7 (show ¬ (a < 0) by omega) rfl) jFA))
  have j_31 := (WC_f (fun a i z => F_n F13 (show ¬ (a = 77 ∧ i = 2) by omega) rfl) (WC_f (fun a i z => F_n F7 (show ¬ (a < 0) by omega) rfl) jWC))
  have j_32 := (NJ_f (fun a i z => F_n F13 (show ¬ (a = 77 ∧ i = 2) by omega) rfl) (NJ_f (fun a i z => F_n F7 (show ¬ (a < 0) by omega) rfl) jNJ))
  have j_33 := (PS_f (fun a i z => F_n F13 (show ¬ (a = 77 ∧ i = 2) by omega) rfl) (PS_f (fun a i z => F_n F7 (show ¬ (a < 0) by omega) rfl) jPS))
  have j_34 := (KQ_f (fun a i z => F_n F13 (show ¬ (a = 77 ∧ i = 2) by omega) rfl) (KQ_f (fun a i z => F_n F7 (show ¬ (a < 0) by omega) rfl) jKQ))
  have j_35 := (TP_f (fun a i z => F_n F13 (show ¬ (a = 77 ∧ i = 2) by omega) rfl) (TP_f (fun a i z => F_n F7 (show ¬ (a < 0) by omega) rfl) jTP))
  have j_36 := (W9_f (fun a i z => F_n F13 (show ¬ (a = 77 ∧ i = 2) by omega) rfl) (W9_f (fun a i z => F_n F7 (show ¬ (a < 0) by omega) rfl) jW9))
  exact h M15 (u5) (u6) ⟨⟨hG14, ⟨j_26, j_27, j_28, j_29⟩, ⟨j_30, j_31, j_32, j_33, j_34⟩, by omega, by omega⟩, j_35, j_36⟩ (by omega) (by omega)
set_option maxRecDepth 4000 in
set_option maxHeartbeats 0 in
theorem LW_19 {X : mm_X} {d L : Nat} {M : mm_M} {Q : Option Value → mm_M → Prop} {i : Int32} {u5 u6 : Value} (hX : g_X X) (hW : g_W X) (hL : (X 0).1 = L) (h3 : L ≤ 3072) (hd : 40 ≤ d) (hi : 0 ≤ i.toInt) (hi2 : i.toInt + 6 ≤ (L : Int)) (H : LI3 M) (h : ∀ (M1 : mm_M) (v5 v6 : Value), LI3 M1 → M1.1.2.1 ≤ M.1.2.1 + 1 → M1.1.2.2.1 ≤ M.1.2.2.1 + 6 → mm_T X d 0 1313 [.ref mm_ext, .ref 0, .ref 77, .ref 125, .int i, v5, v6] [] M1 Q) : mm_T X d 0 850 [.ref mm_ext, .ref 0, .ref 77, .ref 125, .int i, u5, u6] [] M Q := by
  obtain ⟨⟨hG, ⟨jPI, jNI, jQI, jPQE⟩, ⟨jFA, jWC, jNJ, jPS, jKQ⟩, jJ, jE⟩, jTP, jW9⟩ := H
  have b_1 := g_b hG (a := 77) (i := 7) (lo := 0) (hi := 500) rfl rfl
  have b_2 := g_b hG (a := 77) (i := 6) (lo := 0) (hi := 500) rfl rfl
  have b_3 := g_b hG (a := 1) (i := 1) (lo := 0) (hi := 500) rfl rfl
  have b_4 := g_b hG (a := 77) (i := 1) (lo := 0) (hi := 500) rfl rfl
  refine to_an (pc := 850) rw_0_850 rfl ?_
  refine to_an (pc := 851) rw_0_851 rfl ?_
  refine to_i (pc := 852) rw_0_852 rfl ?_
  refine to_c (pc := 854) rw_0_854 (x := (1 : Int32)) rfl rfl ?_
  refine s_add (pc := 855) rw_0_855 (A := i.toInt) (B := 1) rfl rfl (by omega) (fun v5 e6 => ?_)
  refine s_x0 (pc := 856) rw_0_856 hL (A := v5.toInt) rfl (by omega) (by omega) (fun v7 e8 => ?_)
  refine to_an (pc := 857) rw_0_857 rfl ?_
  refine to_i (pc := 858) rw_0_858 rfl ?_
  refine to_c (pc := 860) rw_0_860 (x := (2 : Int32)) rfl rfl ?_
  refine s_add (pc := 861) rw_0_861 (A := i.toInt) (B := 2) rfl rfl (by omega) (fun v9 e10 => ?_)
  refine s_x0 (pc := 862) rw_0_862 hL (A := v9.toInt) rfl (by omega) (by omega) (fun v11 e12 => ?_)
  refine s_v (pc := 863) rw_0_863 (by omega) (ls0 := [.ref 0, .int v7, .int v11]) rfl (Nat.le_of_ble_eq_true rfl) (Nat.le_of_ble_eq_true rfl) rfl (to_rc rfl rfl rfl (g_o hG rfl)) rfl ?_
  obtain ⟨pz13, pzz13, qz13, qzz13, hpz13, hpzz13, hqz13, hqzz13, hpqz13⟩ := id jPQE
  refine C_128 hX (by omega) hG hpz13 hpzz13 hqz13 hqzz13 hpqz13 (k := v7) (j := v11) (p := pz13) (pz := pzz13) (q := qz13) (qz := qzz13) (fun r14 M17 hG16 F15 => ?_)
  have n_18 : M17.1.2.1 = M.1.2.1 ∧ M17.1.2.2.1 = M.1.2.2.1 := by rw [F15.1]; exact ⟨rfl, rfl⟩
  refine to_popi (pc := 866) rw_0_866 ?_
  refine to_an (pc := 867) rw_0_867 rfl ?_
  refine to_an (pc := 868) rw_0_868 rfl ?_
  refine to_i (pc := 869) rw_0_869 rfl ?_
  refine to_c (pc := 871) rw_0_871 (x := (1 : Int32)) rfl rfl ?_
  refine s_addk (pc := 872) rw_0_872 (A := i.toInt) (B := 1) rfl rfl (by omega) (v := v5) e6 ?_
  refine s_x0k (pc := 873) rw_0_873 hL (A := v5.toInt) rfl (by omega) (by omega) (v := v7) e8 ?_
  refine to_an (pc := 874) rw_0_874 rfl ?_
  refine to_i (pc := 875) rw_0_875 rfl ?_
  refine to_c (pc := 877) rw_0_877 (x := (2 : Int32)) rfl rfl ?_
  refine s_addk (pc := 878) rw_0_878 (A := i.toInt) (B := 2) rfl rfl (by omega) (v := v9) e10 ?_
  refine s_x0k (pc := 879) rw_0_879 hL (A := v9.toInt) rfl (by omega) (by omega) (v := v11) e12 ?_
  refine s_v (pc := 880) rw_0_880 (by omega) (ls0 := [.ref 77, .int v7, .int v11]) rfl (Nat.le_of_ble_eq_true rfl) (Nat.le_of_ble_eq_true rfl) rfl (to_rc rfl rfl rfl (g_o hG16 rfl)) rfl ?_
  refine C_206 hX (by omega) hG16 (p := v7) (k := v11) (fun r24 M27 hG26 F25 => ?_)
  have n_28 : M27.1.2.1 = M17.1.2.1 ∧ M27.1.2.2.1 = M17.1.2.2.1 := by rw [F25.1]; exact ⟨rfl, rfl⟩
  refine to_popi (pc := 883) rw_0_883 ?_
  refine to_go (pc := 884) rw_0_884 ?_
  have c_30 : M27.2.1 77 7 = (M.2.1 77 7) := (F_n F25 (show ¬ (77 = 77 ∧ 7 = 2) by omega) (F_n F15 (show ¬ (77 < 0) by omega) rfl))
  have t_31 : (M27.2.1 77 7).toInt = (M.2.1 77 7).toInt := congrArg Int32.toInt c_30
  have c_32 : M27.2.1 77 6 = (M.2.1 77 6) := (F_n F25 (show ¬ (77 = 77 ∧ 6 = 2) by omega) (F_n F15 (show ¬ (77 < 0) by omega) rfl))
  have t_33 : (M27.2.1 77 6).toInt = (M.2.1 77 6).toInt := congrArg Int32.toInt c_32
  have c_34 : M27.2.1 1 1 = (M.2.1 1 1) := (F_n F25 (show ¬ (1 = 77 ∧ 1 = 2) by omega) (F_n F15 (show ¬ (1 < 0) by omega) rfl))
  have t_35 : (M27.2.1 1 1).toInt = (M.2.1 1 1).toInt := congrArg Int32.toInt c_34
  have c_36 : M27.2.1 77 1 = (M.2.1 77 1) := (F_n F25 (show ¬ (77 = 77 ∧ 1 = 2) by omega) (F_n F15 (show ¬ (77 < 0) by omega) rfl))
  have t_37 : (M27.2.1 77 1).toInt = (M.2.1 77 1).toInt := congrArg Int32.toInt c_36
  have j_38 := (PI_f (fun a i z => F_n F25 (show ¬ (a = 77 ∧ i = 2) by omega) rfl) (PI_f (fun a i z => F_n F15 (show ¬ (a < 0) by omega) rfl) jPI))
  have j_39 := (NI_f (fun a i z => F_n F25 (show ¬ (a = 77 ∧ i = 2) by omega) rfl) (NI_f (fun a i z => F_n F15 (show ¬ (a < 0) by omega) rfl) jNI))
  have j_40 := (QI_f (fun a i z => F_n F25 (show ¬ (a = 77 ∧ i = 2) by omega) rfl) (QI_f (fun a i z => F_n F15 (show ¬ (a < 0) by omega) rfl) jQI))
  have j_41 := (PQE_r F25.2.1 (PQE_r F15.2.1 jPQE))
  have j_42 := (FA_f (fun a i z => F_n F25 (show ¬ (a = 77 ∧ i = 2) by omega) rfl) (FA_f (fun a i z => F_n F15 (show ¬ (a < 0) by omega) rfl) jFA))
  have j_43 := (WC_f (fun a i z => F_n F25 (show ¬ (a = 77 ∧ i = 2) by omega) rfl) (WC_f (fun a i z => F_n F15 (show ¬ (a < 0) by omega) rfl) jWC))
  have j_44 := (NJ_f (fun a i z => F_n F25 (show ¬ (a = 77 ∧ i = 2) by omega) rfl) (NJ_f (fun a i z => F_n F15 (show ¬ (a < 0) by omega) rfl) jNJ))
  have j_45 := (PS_f (fun a i z => F_n F25 (show ¬ (a = 77 ∧ i = 2) by omega) rfl) (PS_f (fun a i z => F_n F15 (show ¬ (a < 0) by omega) rfl) jPS))
  have j_46 := (KQ_f (fun a i z => F_n F25 (show ¬ (a = 77 ∧ i = 2) by omega) rfl) (KQ_f (fun a i z => F_n F15 (show ¬ (a < 0) by omega) rfl) jKQ))
  have j_47 := (TP_f (fun a i z => F_n F25 (show ¬ (a = 77 ∧ i = 2) by omega) rfl) (TP_f (fun a i z => F_n F15 (show ¬ (a < 0) by omega) rfl) jTP))
  have j_48 := (W9_f (fun a i z => F_n F25 (show ¬ (a = 77 ∧ i = 2) by omega) rfl) (W9_f (fun a i z => F_n F15 (show ¬ (a < 0) by omega) rfl) jW9))
  exact h M27 (u5) (u6) ⟨⟨hG26, ⟨j_38, j_39, j_40, j_41⟩, ⟨j_42, j_43, j_44, j_45, j_46⟩, by omega, by omega⟩, j_47, j_48⟩ (by omega) (by omega)
set_option maxRecDepth 4000 in
set_option maxHeartbeats 0 in
theorem LW_20 {X : mm_X} {d L : Nat} {M : mm_M} {Q : Option Value → mm_M → Prop} {i : Int32} {u5 u6 : Value} (hX : g_X X) (hW : g_W X) (hL : (X 0).1 = L) (h3 : L ≤ 3072) (hd : 40 ≤ d) (hi : 0 ≤ i.toInt) (hi2 : i.toInt + 6 ≤ (L : Int)) (H : LI3 M) (h : ∀ (M1 : mm_M) (v5 v6 : Value), LI3 M1 → M1.1.2.1 ≤ M.1.2.1 + 1 → M1.1.2.2.1 ≤ M.1.2.2.1 + 6 → mm_T X d 0 1313 [.ref mm_ext, .ref 0, .ref 77, .ref 125, .int i, v5, v6] [] M1 Q) : mm_T X d 0 887 [.ref mm_ext, .ref 0, .ref 77, .ref 125, .int i, u5, u6] [] M Q := by
  obtain ⟨⟨hG, ⟨jPI, jNI, jQI, jPQE⟩, ⟨jFA, jWC, jNJ, jPS, jKQ⟩, jJ, jE⟩, jTP, jW9⟩ := H
  have b_1 := g_b hG (a := 77) (i := 7) (lo := 0) (hi := 500) rfl rfl
  have b_2 := g_b hG (a := 77) (i := 6) (lo := 0) (hi := 500) rfl rfl
  have b_3 := g_b hG (a := 1) (i := 1) (lo := 0) (hi := 500) rfl rfl
  have b_4 := g_b hG (a := 77) (i := 1) (lo := 0) (hi := 500) rfl rfl
  refine to_an (pc := 887) rw_0_887 rfl ?_
  refine to_an (pc := 888) rw_0_888 rfl ?_
  refine to_i (pc := 889) rw_0_889 rfl ?_
  refine to_c (pc := 891) rw_0_891 (x := (1 : Int32)) rfl rfl ?_
  refine s_add (pc := 892) rw_0_892 (A := i.toInt) (B := 1) rfl rfl (by omega) (fun v5 e6 => ?_)
  refine s_x0 (pc := 893) rw_0_893 hL (A := v5.toInt) rfl (by omega) (by omega) (fun v7 e8 => ?_)
  refine to_an (pc := 894) rw_0_894 rfl ?_
  refine to_i (pc := 895) rw_0_895 rfl ?_
  refine to_c (pc := 897) rw_0_897 (x := (2 : Int32)) rfl rfl ?_
  refine s_add (pc := 898) rw_0_898 (A := i.toInt) (B := 2) rfl rfl (by omega) (fun v9 e10 => ?_)
  refine s_x0 (pc := 899) rw_0_899 hL (A := v9.toInt) rfl (by omega) (by omega) (fun v11 e12 => ?_)
  refine s_i2l (pc := 900) rw_0_900 (fun l13 e14 => ?_)
  refine to_c (pc := 901) rw_0_901 (x := (32 : Int32)) rfl rfl ?_
  refine s_anyS (pc := 903) rw_0_903 (fun _ _ => rfl) (fun l15 => ?_)
  refine to_an (pc := 904) rw_0_904 rfl ?_
  refine to_i (pc := 905) rw_0_905 rfl ?_
  refine to_c (pc := 907) rw_0_907 (x := (3 : Int32)) rfl rfl ?_
  refine s_add (pc := 908) rw_0_908 (A := i.toInt) (B := 3) rfl rfl (by omega) (fun v16 e17 => ?_)
  refine s_x0 (pc := 909) rw_0_909 hL (A := v16.toInt) rfl (by omega) (by omega) (fun v18 e19 => ?_)
  refine s_i2l (pc := 910) rw_0_910 (fun l20 e21 => ?_)
  refine s_cl (pc := 911) rw_0_911 rfl (fun l22 => ?_)
  refine s_anyL (pc := 914) rw_0_914 (fun _ _ => rfl) (fun l23 => ?_)
  refine s_anyL (pc := 915) rw_0_915 (fun _ _ => rfl) (fun l24 => ?_)
  refine s_v (pc := 916) rw_0_916 (by omega) (ls0 := [.ref 0, .int v7, .long l24, .null]) rfl (Nat.le_of_ble_eq_true rfl) (Nat.le_of_ble_eq_true rfl) rfl (to_rc rfl rfl rfl (g_o hG rfl)) rfl ?_
  obtain ⟨pz25, pzz25, qz25, qzz25, hpz25, hpzz25, hqz25, hqzz25, hpqz25⟩ := id jPQE
  refine C_129 hX (by omega) hG hpz25 hpzz25 hqz25 hqzz25 hpqz25 jNI jPI jQI (k := v7) (x := l24) (p := pz25) (pz := pzz25) (q := qz25) (qz := qzz25) (fun r26 M32 hG28 F27 p_29 p_30 p_31 => ?_)
  have n_33 : M32.1.2.1 = M.1.2.1 ∧ M32.1.2.2.1 = M.1.2.2.1 := by rw [F27.1]; exact ⟨rfl, rfl⟩
  refine to_popi (pc := 919) rw_0_919 ?_
  refine to_an (pc := 920) rw_0_920 rfl ?_
  refine to_an (pc := 921) rw_0_921 rfl ?_
  refine to_i (pc := 922) rw_0_922 rfl ?_
  refine to_c (pc := 924) rw_0_924 (x := (1 : Int32)) rfl rfl ?_
  refine s_addk (pc := 925) rw_0_925 (A := i.toInt) (B := 1) rfl rfl (by omega) (v := v5) e6 ?_
  refine s_x0k (pc := 926) rw_0_926 hL (A := v5.toInt) rfl (by omega) (by omega) (v := v7) e8 ?_
  refine to_an (pc := 927) rw_0_927 rfl ?_
  refine to_i (pc := 928) rw_0_928 rfl ?_
  refine to_c (pc := 930) rw_0_930 (x := (2 : Int32)) rfl rfl ?_
  refine s_addk (pc := 931) rw_0_931 (A := i.toInt) (B := 2) rfl rfl (by omega) (v := v9) e10 ?_
  refine s_x0k (pc := 932) rw_0_932 hL (A := v9.toInt) rfl (by omega) (by omega) (v := v11) e12 ?_
  refine s_i2l (pc := 933) rw_0_933 (fun l39 e40 => ?_)
  refine to_c (pc := 934) rw_0_934 (x := (32 : Int32)) rfl rfl ?_
  refine s_anyS (pc := 936) rw_0_936 (fun _ _ => rfl) (fun l41 => ?_)
  refine to_an (pc := 937) rw_0_937 rfl ?_
  refine to_i (pc := 938) rw_0_938 rfl ?_
  refine to_c (pc := 940) rw_0_940 (x := (3 : Int32)) rfl rfl ?_
  refine s_addk (pc := 941) rw_0_941 (A := i.toInt) (B := 3) rfl rfl (by omega) (v := v16) e17 ?_
  refine s_x0k (pc := 942) rw_0_942 hL (A := v16.toInt) rfl (by omega) (by omega) (v := v18) e19 ?_
  refine s_i2l (pc := 943) rw_0_943 (fun l44 e45 => ?_)
  refine s_cl (pc := 944) rw_0_944 rfl (fun l46 => ?_)
  refine s_anyL (pc := 947) rw_0_947 (fun _ _ => rfl) (fun l47 => ?_)
  refine s_anyL (pc := 948) rw_0_948 (fun _ _ => rfl) (fun l48 => ?_)
  refine s_v (pc := 949) rw_0_949 (by omega) (ls0 := [.ref 77, .int v7, .long l48, .null, .null, .null]) rfl (Nat.le_of_ble_eq_true rfl) (Nat.le_of_ble_eq_true rfl) rfl (to_rc rfl rfl rfl (g_o hG28 rfl)) rfl ?_
  have j_49 := (NJ_f (fun a i z => F_n F27 (show ¬ (a = 0 ∨ 6 ≤ a ∧ a ≤ 76) by omega) rfl) jNJ)
  refine C_208 hX (by omega) hG28 j_49 (p := v7) (x := l48) (fun r50 M53 hG52 F51 => ?_)
  have n_54 : M53.1.2.1 = M32.1.2.1 ∧ M53.1.2.2.1 = M32.1.2.2.1 := by rw [F51.1]; exact ⟨rfl, rfl⟩
  refine to_popi (pc := 952) rw_0_952 ?_
  refine to_go (pc := 953) rw_0_953 ?_
  have c_56 : M53.2.1 77 7 = (M.2.1 77 7) := (F_n F51 (show ¬ (77 = 77 ∧ 7 = 2 ∨ 94 ≤ 77 ∧ 77 ≤ 98) by omega) (F_n F27 (show ¬ (77 = 0 ∨ 6 ≤ 77 ∧ 77 ≤ 76) by omega) rfl))
  have t_57 : (M53.2.1 77 7).toInt = (M.2.1 77 7).toInt := congrArg Int32.toInt c_56
  have c_58 : M53.2.1 77 6 = (M.2.1 77 6) := (F_n F51 (show ¬ (77 = 77 ∧ 6 = 2 ∨ 94 ≤ 77 ∧ 77 ≤ 98) by omega) (F_n F27 (show ¬ (77 = 0 ∨ 6 ≤ 77 ∧ 77 ≤ 76) by omega) rfl))
  have t_59 : (M53.2.1 77 6).toInt = (M.2.1 77 6).toInt := congrArg Int32.toInt c_58
  have c_60 : M53.2.1 1 1 = (M.2.1 1 1) := (F_n F51 (show ¬ (1 = 77 ∧ 1 = 2 ∨ 94 ≤ 1 ∧ 1 ≤ 98) by omega) (F_n F27 (show ¬ (1 = 0 ∨ 6 ≤ 1 ∧ 1 ≤ 76) by omega) rfl))
  have t_61 : (M53.2.1 1 1).toInt = (M.2.1 1 1).toInt := congrArg Int32.toInt c_60
  have c_62 : M53.2.1 77 1 = (M.2.1 77 1) := (F_n F51 (show ¬ (77 = 77 ∧ 1 = 2 ∨ 94 ≤ 77 ∧ 77 ≤ 98) by omega) (F_n F27 (show ¬ (77 = 0 ∨ 6 ≤ 77 ∧ 77 ≤ 76) by omega) rfl))
  have t_63 : (M53.2.1 77 1).toInt = (M.2.1 77 1).toInt := congrArg Int32.toInt c_62
  have j_64 := (PI_f (fun a i z => F_n F51 (show ¬ (a = 77 ∧ i = 2 ∨ 94 ≤ a ∧ a ≤ 98) by omega) rfl) p_29)
  have j_65 := (NI_f (fun a i z => F_n F51 (show ¬ (a = 77 ∧ i = 2 ∨ 94 ≤ a ∧ a ≤ 98) by omega) rfl) p_30)
  have j_66 := (QI_f (fun a i z => F_n F51 (show ¬ (a = 77 ∧ i = 2 ∨ 94 ≤ a ∧ a ≤ 98) by omega) rfl) p_31)
  have j_67 := (PQE_r F51.2.1 (PQE_r F27.2.1 jPQE))
  have j_68 := (FA_f (fun a i z => F_n F51 (show ¬ (a = 77 ∧ i = 2 ∨ 94 ≤ a ∧ a ≤ 98) by omega) rfl) (FA_f (fun a i z => F_n F27 (show ¬ (a = 0 ∨ 6 ≤ a ∧ a ≤ 76) by omega) rfl) jFA))
  have j_69 := (WC_f (fun a i z => F_n F51 (show ¬ (a = 77 ∧ i = 2 ∨ 94 ≤ a ∧ a ≤ 98) by omega) rfl) (WC_f (fun a i z => F_n F27 (show ¬ (a = 0 ∨ 6 ≤ a ∧ a ≤ 76) by omega) rfl) jWC))
  have j_70 := (NJ_f (fun a i z => F_n F51 (show ¬ (a = 77 ∧ i = 2 ∨ 94 ≤ a ∧ a ≤ 98) by omega) rfl) j_49)
  have j_71 := (PS_f (fun a i z => F_n F51 (show ¬ (a = 77 ∧ i = 2 ∨ 94 ≤ a ∧ a ≤ 98) by omega) rfl) (PS_f (fun a i z => F_n F27 (show ¬ (a = 0 ∨ 6 ≤ a ∧ a ≤ 76) by omega) rfl) jPS))
  have j_72 := (KQ_f (fun a i z => F_n F51 (show ¬ (a = 77 ∧ i = 2 ∨ 94 ≤ a ∧ a ≤ 98) by omega) rfl) (KQ_f (fun a i z => F_n F27 (show ¬ (a = 0 ∨ 6 ≤ a ∧ a ≤ 76) by omega) rfl) jKQ))
  have j_73 := (TP_f (fun a i z => F_n F51 (show ¬ (a = 77 ∧ i = 2 ∨ 94 ≤ a ∧ a ≤ 98) by omega) rfl) (TP_f (fun a i z => F_n F27 (show ¬ (a = 0 ∨ 6 ≤ a ∧ a ≤ 76) by omega) rfl) jTP))
  have j_74 := (W9_f (fun a i z => F_n F51 (show ¬ (a = 77 ∧ i = 2 ∨ 94 ≤ a ∧ a ≤ 98) by omega) rfl) (W9_f (fun a i z => F_n F27 (show ¬ (a = 0 ∨ 6 ≤ a ∧ a ≤ 76) by omega) rfl) jW9))
  exact h M53 (u5) (u6) ⟨⟨hG52, ⟨j_64, j_65, j_66, j_67⟩, ⟨j_68, j_69, j_70, j_71, j_72⟩, by omega, by omega⟩, j_73, j_74⟩ (by omega) (by omega)
set_option maxRecDepth 4000 in
set_option maxHeartbeats 0 in
theorem LW_21 {X : mm_X} {d L : Nat} {M : mm_M} {Q : Option Value → mm_M → Prop} {i : Int32} {u5 u6 : Value} (hX : g_X X) (hW : g_W X) (hL : (X 0).1 = L) (h3 : L ≤ 3072) (hd : 40 ≤ d) (hi : 0 ≤ i.toInt) (hi2 : i.toInt + 6 ≤ (L : Int)) (H : LI3 M) (h : ∀ (M1 : mm_M) (v5 v6 : Value), LI3 M1 → M1.1.2.1 ≤ M.1.2.1 + 1 → M1.1.2.2.1 ≤ M.1.2.2.1 + 6 → mm_T X d 0 1313 [.ref mm_ext, .ref 0, .ref 77, .ref 125, .int i, v5, v6] [] M1 Q) : mm_T X d 0 956 [.ref mm_ext, .ref 0, .ref 77, .ref 125, .int i, u5, u6] [] M Q := by
  obtain ⟨⟨hG, ⟨jPI, jNI, jQI, jPQE⟩, ⟨jFA, jWC, jNJ, jPS, jKQ⟩, jJ, jE⟩, jTP, jW9⟩ := H
  have b_1 := g_b hG (a := 77) (i := 7) (lo := 0) (hi := 500) rfl rfl
  have b_2 := g_b hG (a := 77) (i := 6) (lo := 0) (hi := 500) rfl rfl
  have b_3 := g_b hG (a := 1) (i := 1) (lo := 0) (hi := 500) rfl rfl
  have b_4 := g_b hG (a := 77) (i := 1) (lo := 0) (hi := 500) rfl rfl
  refine to_an (pc := 956) rw_0_956 rfl ?_
  refine s_v (pc := 957) rw_0_957 (by omega) (ls0 := [.ref 0, .null]) rfl (Nat.le_of_ble_eq_true rfl) (Nat.le_of_ble_eq_true rfl) rfl (to_rc rfl rfl rfl (g_o hG rfl)) rfl ?_
  obtain ⟨pz5, pzz5, qz5, qzz5, hpz5, hpzz5, hqz5, hqzz5, hpqz5⟩ := id jPQE
  refine C_130 hX (by omega) hG hpz5 hpzz5 hqz5 hqzz5 hpqz5 jPI jNI jQI (p := pz5) (pz := pzz5) (q := qz5) (qz := qzz5) (fun r6 M12 hG8 F7 p_9 p_10 p_11 => ?_)
  have n_13 : M12.1.2.1 = M.1.2.1 ∧ M12.1.2.2.1 = M.1.2.2.1 := by rw [F7.1]; exact ⟨rfl, rfl⟩
  refine to_popi (pc := 960) rw_0_960 ?_
  refine to_an (pc := 961) rw_0_961 rfl ?_
  refine s_v (pc := 962) rw_0_962 (by omega) (ls0 := [.ref 77, .null]) rfl (Nat.le_of_ble_eq_true rfl) (Nat.le_of_ble_eq_true rfl) rfl (to_rc rfl rfl rfl (g_o hG8 rfl)) rfl ?_
  refine C_209 hX (by omega) hG8  (fun r15 M19 hG17 F16 p_18 => ?_)
  have n_20 : M19.1.2.1 = M12.1.2.1 ∧ M19.1.2.2.1 = M12.1.2.2.1 := by rw [F16.1]; exact ⟨rfl, rfl⟩
  refine to_popi (pc := 965) rw_0_965 ?_
  refine to_go (pc := 966) rw_0_966 ?_
  have c_22 : M19.2.1 77 7 = (M.2.1 77 7) := (F_n F16 (show ¬ (77 = 77 ∧ (7 = 2 ∨ 7 = 41) ∨ 77 = 99 ∨ 77 = 100) by omega) (F_n F7 (show ¬ (77 = 0 ∨ 6 ≤ 77 ∧ 77 ≤ 76) by omega) rfl))
  have t_23 : (M19.2.1 77 7).toInt = (M.2.1 77 7).toInt := congrArg Int32.toInt c_22
  have c_24 : M19.2.1 77 6 = (M.2.1 77 6) := (F_n F16 (show ¬ (77 = 77 ∧ (6 = 2 ∨ 6 = 41) ∨ 77 = 99 ∨ 77 = 100) by omega) (F_n F7 (show ¬ (77 = 0 ∨ 6 ≤ 77 ∧ 77 ≤ 76) by omega) rfl))
  have t_25 : (M19.2.1 77 6).toInt = (M.2.1 77 6).toInt := congrArg Int32.toInt c_24
  have c_26 : M19.2.1 1 1 = (M.2.1 1 1) := (F_n F16 (show ¬ (1 = 77 ∧ (1 = 2 ∨ 1 = 41) ∨ 1 = 99 ∨ 1 = 100) by omega) (F_n F7 (show ¬ (1 = 0 ∨ 6 ≤ 1 ∧ 1 ≤ 76) by omega) rfl))
  have t_27 : (M19.2.1 1 1).toInt = (M.2.1 1 1).toInt := congrArg Int32.toInt c_26
  have c_28 : M19.2.1 77 1 = (M.2.1 77 1) := (F_n F16 (show ¬ (77 = 77 ∧ (1 = 2 ∨ 1 = 41) ∨ 77 = 99 ∨ 77 = 100) by omega) (F_n F7 (show ¬ (77 = 0 ∨ 6 ≤ 77 ∧ 77 ≤ 76) by omega) rfl))
  have t_29 : (M19.2.1 77 1).toInt = (M.2.1 77 1).toInt := congrArg Int32.toInt c_28
  have j_30 := (PI_f (fun a i z => F_n F16 (show ¬ (a = 77 ∧ (i = 2 ∨ i = 41) ∨ a = 99 ∨ a = 100) by omega) rfl) p_9)
  have j_31 := (NI_f (fun a i z => F_n F16 (show ¬ (a = 77 ∧ (i = 2 ∨ i = 41) ∨ a = 99 ∨ a = 100) by omega) rfl) p_10)
  have j_32 := (QI_f (fun a i z => F_n F16 (show ¬ (a = 77 ∧ (i = 2 ∨ i = 41) ∨ a = 99 ∨ a = 100) by omega) rfl) p_11)
  have j_33 := (PQE_r F16.2.1 (PQE_r F7.2.1 jPQE))
  have j_34 := (FA_f (fun a i z => F_n F16 (show ¬ (a = 77 ∧ (i = 2 ∨ i = 41) ∨ a = 99 ∨ a = 100) by omega) rfl) (FA_f (fun a i z => F_n F7 (show ¬ (a = 0 ∨ 6 ≤ a ∧ a ≤ 76) by omega) rfl) jFA))
  have j_35 := (WC_f (fun a i z => F_n F16 (show ¬ (a = 77 ∧ (i = 2 ∨ i = 41) ∨ a = 99 ∨ a = 100) by omega) rfl) (WC_f (fun a i z => F_n F7 (show ¬ (a = 0 ∨ 6 ≤ a ∧ a ≤ 76) by omega) rfl) jWC))
  have j_36 := (NJ_f (fun a i z => F_n F16 (show ¬ (a = 77 ∧ (i = 2 ∨ i = 41) ∨ a = 99 ∨ a = 100) by omega) rfl) (NJ_f (fun a i z => F_n F7 (show ¬ (a = 0 ∨ 6 ≤ a ∧ a ≤ 76) by omega) rfl) jNJ))
  have j_37 := (KQ_f (fun a i z => F_n F16 (show ¬ (a = 77 ∧ (i = 2 ∨ i = 41) ∨ a = 99 ∨ a = 100) by omega) rfl) (KQ_f (fun a i z => F_n F7 (show ¬ (a = 0 ∨ 6 ≤ a ∧ a ≤ 76) by omega) rfl) jKQ))
  have j_38 := (TP_f (fun a i z => F_n F16 (show ¬ (a = 77 ∧ (i = 2 ∨ i = 41) ∨ a = 99 ∨ a = 100) by omega) rfl) (TP_f (fun a i z => F_n F7 (show ¬ (a = 0 ∨ 6 ≤ a ∧ a ≤ 76) by omega) rfl) jTP))
  have j_39 := (W9_f (fun a i z => F_n F16 (show ¬ (a = 77 ∧ (i = 2 ∨ i = 41) ∨ a = 99 ∨ a = 100) by omega) rfl) (W9_f (fun a i z => F_n F7 (show ¬ (a = 0 ∨ 6 ≤ a ∧ a ≤ 76) by omega) rfl) jW9))
  exact h M19 (u5) (u6) ⟨⟨hG17, ⟨j_30, j_31, j_32, j_33⟩, ⟨j_34, j_35, j_36, p_18, j_37⟩, by omega, by omega⟩, j_38, j_39⟩ (by omega) (by omega)
set_option maxRecDepth 4000 in
set_option maxHeartbeats 0 in
theorem LW_22 {X : mm_X} {d L : Nat} {M : mm_M} {Q : Option Value → mm_M → Prop} {i : Int32} {u5 u6 : Value} (hX : g_X X) (hW : g_W X) (hL : (X 0).1 = L) (h3 : L ≤ 3072) (hd : 40 ≤ d) (hi : 0 ≤ i.toInt) (hi2 : i.toInt + 6 ≤ (L : Int)) (H : LI3 M) (h : ∀ (M1 : mm_M) (v5 v6 : Value), LI3 M1 → M1.1.2.1 ≤ M.1.2.1 + 1 → M1.1.2.2.1 ≤ M.1.2.2.1 + 6 → mm_T X d 0 1313 [.ref mm_ext, .ref 0, .ref 77, .ref 125, .int i, v5, v6] [] M1 Q) : mm_T X d 0 969 [.ref mm_ext, .ref 0, .ref 77, .ref 125, .int i, u5, u6] [] M Q := by
  obtain ⟨⟨hG, ⟨jPI, jNI, jQI, jPQE⟩, ⟨jFA, jWC, jNJ, jPS, jKQ⟩, jJ, jE⟩, jTP, jW9⟩ := H
  have b_1 := g_b hG (a := 77) (i := 7) (lo := 0) (hi := 500) rfl rfl
  have b_2 := g_b hG (a := 77) (i := 6) (lo := 0) (hi := 500) rfl rfl
  have b_3 := g_b hG (a := 1) (i := 1) (lo := 0) (hi := 500) rfl rfl
  have b_4 := g_b hG (a := 77) (i := 1) (lo := 0) (hi := 500) rfl rfl
  refine to_an (pc := 969) rw_0_969 rfl ?_
  refine to_an (pc := 970) rw_0_970 rfl ?_
  refine to_i (pc := 971) rw_0_971 rfl ?_
  refine to_c (pc := 973) rw_0_973 (x := (1 : Int32)) rfl rfl ?_
  refine s_add (pc := 974) rw_0_974 (A := i.toInt) (B := 1) rfl rfl (by omega) (fun v5 e6 => ?_)
  refine s_x0 (pc := 975) rw_0_975 hL (A := v5.toInt) rfl (by omega) (by omega) (fun v7 e8 => ?_)
  refine to_an (pc := 976) rw_0_976 rfl ?_
  refine to_i (pc := 977) rw_0_977 rfl ?_
  refine to_c (pc := 979) rw_0_979 (x := (2 : Int32)) rfl rfl ?_
  refine s_add (pc := 980) rw_0_980 (A := i.toInt) (B := 2) rfl rfl (by omega) (fun v9 e10 => ?_)
  refine s_x0 (pc := 981) rw_0_981 hL (A := v9.toInt) rfl (by omega) (by omega) (fun v11 e12 => ?_)
  refine s_v (pc := 982) rw_0_982 (by omega) (ls0 := [.ref 0, .int v7, .int v11, .null, .null]) rfl (Nat.le_of_ble_eq_true rfl) (Nat.le_of_ble_eq_true rfl) rfl (to_rc rfl rfl rfl (g_o hG rfl)) rfl ?_
  obtain ⟨pz13, pzz13, qz13, qzz13, hpz13, hpzz13, hqz13, hqzz13, hpqz13⟩ := id jPQE
  refine C_131 hX (by omega) hG hpz13 hpzz13 hqz13 hqzz13 hpqz13 jNI jQI (n := v7) (w := v11) (p := pz13) (pz := pzz13) (q := qz13) (qz := qzz13) (fun r14 M17 hG16 F15 => ?_)
  have n_18 : M17.1.2.1 = M.1.2.1 ∧ M17.1.2.2.1 = M.1.2.2.1 := by rw [F15.1]; exact ⟨rfl, rfl⟩
  refine to_popi (pc := 985) rw_0_985 ?_
  refine to_an (pc := 986) rw_0_986 rfl ?_
  refine to_an (pc := 987) rw_0_987 rfl ?_
  refine to_i (pc := 988) rw_0_988 rfl ?_
  refine to_c (pc := 990) rw_0_990 (x := (1 : Int32)) rfl rfl ?_
  refine s_addk (pc := 991) rw_0_991 (A := i.toInt) (B := 1) rfl rfl (by omega) (v := v5) e6 ?_
  refine s_x0k (pc := 992) rw_0_992 hL (A := v5.toInt) rfl (by omega) (by omega) (v := v7) e8 ?_
  refine to_an (pc := 993) rw_0_993 rfl ?_
  refine to_i (pc := 994) rw_0_994 rfl ?_
  refine to_c (pc := 996) rw_0_996 (x := (2 : Int32)) rfl rfl ?_
  refine s_addk (pc := 997) rw_0_997 (A := i.toInt) (B := 2) rfl rfl (by omega) (v := v9) e10 ?_
  refine s_x0k (pc := 998) rw_0_998 hL (A := v9.toInt) rfl (by omega) (by omega) (v := v11) e12 ?_
  refine s_v (pc := 999) rw_0_999 (by omega) (ls0 := [.ref 77, .int v7, .int v11, .null, .null, .null]) rfl (Nat.le_of_ble_eq_true rfl) (Nat.le_of_ble_eq_true rfl) rfl (to_rc rfl rfl rfl (g_o hG16 rfl)) rfl ?_
  have j_24 := (NJ_f (fun a i z => F_n F15 (show ¬ (11 ≤ a ∧ a ≤ 16 ∨ a = 71 ∨ a = 76) by omega) rfl) jNJ)
  have j_25 := (KQ_f (fun a i z => F_n F15 (show ¬ (11 ≤ a ∧ a ≤ 16 ∨ a = 71 ∨ a = 76) by omega) rfl) jKQ)
  refine C_229 hX (by omega) hG16 j_24 j_25 (n := v7) (w := v11) (fun r26 M29 hG28 F27 => ?_)
  have n_30 : M29.1.2.1 = M17.1.2.1 ∧ M29.1.2.2.1 = M17.1.2.2.1 := by rw [F27.1]; exact ⟨rfl, rfl⟩
  refine to_popi (pc := 1002) rw_0_1002 ?_
  refine to_go (pc := 1003) rw_0_1003 ?_
  have c_32 : M29.2.1 77 7 = (M.2.1 77 7) := (F_n F27 (show ¬ (77 = 77 ∧ 7 = 2 ∨ 94 ≤ 77 ∧ 77 ≤ 98 ∨ 77 = 117) by omega) (F_n F15 (show ¬ (11 ≤ 77 ∧ 77 ≤ 16 ∨ 77 = 71 ∨ 77 = 76) by omega) rfl))
  have t_33 : (M29.2.1 77 7).toInt = (M.2.1 77 7).toInt := congrArg Int32.toInt c_32
  have c_34 : M29.2.1 77 6 = (M.2.1 77 6) := (F_n F27 (show ¬ (77 = 77 ∧ 6 = 2 ∨ 94 ≤ 77 ∧ 77 ≤ 98 ∨ 77 = 117) by omega) (F_n F15 (show ¬ (11 ≤ 77 ∧ 77 ≤ 16 ∨ 77 = 71 ∨ 77 = 76) by omega) rfl))
  have t_35 : (M29.2.1 77 6).toInt = (M.2.1 77 6).toInt := congrArg Int32.toInt c_34
  have c_36 : M29.2.1 1 1 = (M.2.1 1 1) := (F_n F27 (show ¬ (1 = 77 ∧ 1 = 2 ∨ 94 ≤ 1 ∧ 1 ≤ 98 ∨ 1 = 117) by omega) (F_n F15 (show ¬ (11 ≤ 1 ∧ 1 ≤ 16 ∨ 1 = 71 ∨ 1 = 76) by omega) rfl))
  have t_37 : (M29.2.1 1 1).toInt = (M.2.1 1 1).toInt := congrArg Int32.toInt c_36
  have c_38 : M29.2.1 77 1 = (M.2.1 77 1) := (F_n F27 (show ¬ (77 = 77 ∧ 1 = 2 ∨ 94 ≤ 77 ∧ 77 ≤ 98 ∨ 77 = 117) by omega) (F_n F15 (show ¬ (11 ≤ 77 ∧ 77 ≤ 16 ∨ 77 = 71 ∨ 77 = 76) by omega) rfl))
  have t_39 : (M29.2.1 77 1).toInt = (M.2.1 77 1).toInt := congrArg Int32.toInt c_38
  have j_40 := (PI_f (fun a i z => F_n F27 (show ¬ (a = 77 ∧ i = 2 ∨ 94 ≤ a ∧ a ≤ 98 ∨ a = 117) by omega) rfl) (PI_f (fun a i z => F_n F15 (show ¬ (11 ≤ a ∧ a ≤ 16 ∨ a = 71 ∨ a = 76) by omega) rfl) jPI))
  have j_41 := (NI_f (fun a i z => F_n F27 (show ¬ (a = 77 ∧ i = 2 ∨ 94 ≤ a ∧ a ≤ 98 ∨ a = 117) by omega) rfl) (NI_f (fun a i z => F_n F15 (show ¬ (11 ≤ a ∧ a ≤ 16 ∨ a = 71 ∨ a = 76) by omega) rfl) jNI))
  have j_42 := (QI_f (fun a i z => F_n F27 (show ¬ (a = 77 ∧ i = 2 ∨ 94 ≤ a ∧ a ≤ 98 ∨ a = 117) by omega) rfl) (QI_f (fun a i z => F_n F15 (show ¬ (11 ≤ a ∧ a ≤ 16 ∨ a = 71 ∨ a = 76) by omega) rfl) jQI))
  have j_43 := (PQE_r F27.2.1 (PQE_r F15.2.1 jPQE))
  have j_44 := (FA_f (fun a i z => F_n F27 (show ¬ (a = 77 ∧ i = 2 ∨ 94 ≤ a ∧ a ≤ 98 ∨ a = 117) by omega) rfl) (FA_f (fun a i z => F_n F15 (show ¬ (11 ≤ a ∧ a ≤ 16 ∨ a = 71 ∨ a = 76) by omega) rfl) jFA))
  have j_45 := (WC_f (fun a i z => F_n F27 (show ¬ (a = 77 ∧ i = 2 ∨ 94 ≤ a ∧ a ≤ 98 ∨ a = 117) by omega) rfl) (WC_f (fun a i z => F_n F15 (show ¬ (11 ≤ a ∧ a ≤ 16 ∨ a = 71 ∨ a = 76) by omega) rfl) jWC))
  have j_46 := (NJ_f (fun a i z => F_n F27 (show ¬ (a = 77 ∧ i = 2 ∨ 94 ≤ a ∧ a ≤ 98 ∨ a = 117) by omega) rfl) j_24)
  have j_47 := (PS_f (fun a i z => F_n F27 (show ¬ (a = 77 ∧ i = 2 ∨ 94 ≤ a ∧ a ≤ 98 ∨ a = 117) by omega) rfl) (PS_f (fun a i z => F_n F15 (show ¬ (11 ≤ a ∧ a ≤ 16 ∨ a = 71 ∨ a = 76) by omega) rfl) jPS))
  have j_48 := (KQ_f (fun a i z => F_n F27 (show ¬ (a = 77 ∧ i = 2 ∨ 94 ≤ a ∧ a ≤ 98 ∨ a = 117) by omega) rfl) j_25)
  have j_49 := (TP_f (fun a i z => F_n F27 (show ¬ (a = 77 ∧ i = 2 ∨ 94 ≤ a ∧ a ≤ 98 ∨ a = 117) by omega) rfl) (TP_f (fun a i z => F_n F15 (show ¬ (11 ≤ a ∧ a ≤ 16 ∨ a = 71 ∨ a = 76) by omega) rfl) jTP))
  have j_50 := (W9_f (fun a i z => F_n F27 (show ¬ (a = 77 ∧ i = 2 ∨ 94 ≤ a ∧ a ≤ 98 ∨ a = 117) by omega) rfl) (W9_f (fun a i z => F_n F15 (show ¬ (11 ≤ a ∧ a ≤ 16 ∨ a = 71 ∨ a = 76) by omega) rfl) jW9))
  exact h M29 (u5) (u6) ⟨⟨hG28, ⟨j_40, j_41, j_42, j_43⟩, ⟨j_44, j_45, j_46, j_47, j_48⟩, by omega, by omega⟩, j_49, j_50⟩ (by omega) (by omega)
set_option maxRecDepth 4000 in
set_option maxHeartbeats 0 in
theorem LW_23 {X : mm_X} {d L : Nat} {M : mm_M} {Q : Option Value → mm_M → Prop} {i : Int32} {u5 u6 : Value} (hX : g_X X) (hW : g_W X) (hL : (X 0).1 = L) (h3 : L ≤ 3072) (hd : 40 ≤ d) (hi : 0 ≤ i.toInt) (hi2 : i.toInt + 6 ≤ (L : Int)) (H : LI3 M) (h : ∀ (M1 : mm_M) (v5 v6 : Value), LI3 M1 → M1.1.2.1 ≤ M.1.2.1 + 1 → M1.1.2.2.1 ≤ M.1.2.2.1 + 6 → mm_T X d 0 1313 [.ref mm_ext, .ref 0, .ref 77, .ref 125, .int i, v5, v6] [] M1 Q) : mm_T X d 0 1006 [.ref mm_ext, .ref 0, .ref 77, .ref 125, .int i, u5, u6] [] M Q := by
  obtain ⟨⟨hG, ⟨jPI, jNI, jQI, jPQE⟩, ⟨jFA, jWC, jNJ, jPS, jKQ⟩, jJ, jE⟩, jTP, jW9⟩ := H
  have b_1 := g_b hG (a := 77) (i := 7) (lo := 0) (hi := 500) rfl rfl
  have b_2 := g_b hG (a := 77) (i := 6) (lo := 0) (hi := 500) rfl rfl
  have b_3 := g_b hG (a := 1) (i := 1) (lo := 0) (hi := 500) rfl rfl
  have b_4 := g_b hG (a := 77) (i := 1) (lo := 0) (hi := 500) rfl rfl
  refine to_an (pc := 1006) rw_0_1006 rfl ?_
  refine to_an (pc := 1007) rw_0_1007 rfl ?_
  refine to_i (pc := 1008) rw_0_1008 rfl ?_
  refine to_c (pc := 1010) rw_0_1010 (x := (1 : Int32)) rfl rfl ?_
  refine s_add (pc := 1011) rw_0_1011 (A := i.toInt) (B := 1) rfl rfl (by omega) (fun v5 e6 => ?_)
  refine s_x0 (pc := 1012) rw_0_1012 hL (A := v5.toInt) rfl (by omega) (by omega) (fun v7 e8 => ?_)
  refine to_an (pc := 1013) rw_0_1013 rfl ?_
  refine to_i (pc := 1014) rw_0_1014 rfl ?_
  refine to_c (pc := 1016) rw_0_1016 (x := (2 : Int32)) rfl rfl ?_
  refine s_add (pc := 1017) rw_0_1017 (A := i.toInt) (B := 2) rfl rfl (by omega) (fun v9 e10 => ?_)
  refine s_x0 (pc := 1018) rw_0_1018 hL (A := v9.toInt) rfl (by omega) (by omega) (fun v11 e12 => ?_)
  refine to_an (pc := 1019) rw_0_1019 rfl ?_
  refine to_i (pc := 1020) rw_0_1020 rfl ?_
  refine to_c (pc := 1022) rw_0_1022 (x := (3 : Int32)) rfl rfl ?_
  refine s_add (pc := 1023) rw_0_1023 (A := i.toInt) (B := 3) rfl rfl (by omega) (fun v13 e14 => ?_)
  refine s_x0 (pc := 1024) rw_0_1024 hL (A := v13.toInt) rfl (by omega) (by omega) (fun v15 e16 => ?_)
  refine s_v (pc := 1025) rw_0_1025 (by omega) (ls0 := [.ref 0, .int v7, .int v11, .int v15, .null, .null, .null, .null, .null]) rfl (Nat.le_of_ble_eq_true rfl) (Nat.le_of_ble_eq_true rfl) rfl (to_rc rfl rfl rfl (g_o hG rfl)) rfl ?_
  obtain ⟨pz17, pzz17, qz17, qzz17, hpz17, hpzz17, hqz17, hqzz17, hpqz17⟩ := id jPQE
  refine C_132 hX (by omega) hG hpz17 hpzz17 hqz17 hqzz17 hpqz17 jNI jPI jQI (n := v7) (w := v11) (k := v15) (p := pz17) (pz := pzz17) (q := qz17) (qz := qzz17) (fun r18 M24 hG20 F19 p_21 p_22 p_23 => ?_)
  have n_25 : M24.1.2.1 = M.1.2.1 ∧ M24.1.2.2.1 = M.1.2.2.1 := by rw [F19.1]; exact ⟨rfl, rfl⟩
  refine s_pop2 (pc := 1028) rw_0_1028 ?_
  refine to_an (pc := 1029) rw_0_1029 rfl ?_
  refine to_an (pc := 1030) rw_0_1030 rfl ?_
  refine to_i (pc := 1031) rw_0_1031 rfl ?_
  refine to_c (pc := 1033) rw_0_1033 (x := (1 : Int32)) rfl rfl ?_
  refine s_addk (pc := 1034) rw_0_1034 (A := i.toInt) (B := 1) rfl rfl (by omega) (v := v5) e6 ?_
  refine s_x0k (pc := 1035) rw_0_1035 hL (A := v5.toInt) rfl (by omega) (by omega) (v := v7) e8 ?_
  refine to_an (pc := 1036) rw_0_1036 rfl ?_
  refine to_i (pc := 1037) rw_0_1037 rfl ?_
  refine to_c (pc := 1039) rw_0_1039 (x := (2 : Int32)) rfl rfl ?_
  refine s_addk (pc := 1040) rw_0_1040 (A := i.toInt) (B := 2) rfl rfl (by omega) (v := v9) e10 ?_
  refine s_x0k (pc := 1041) rw_0_1041 hL (A := v9.toInt) rfl (by omega) (by omega) (v := v11) e12 ?_
  refine to_an (pc := 1042) rw_0_1042 rfl ?_
  refine to_i (pc := 1043) rw_0_1043 rfl ?_
  refine to_c (pc := 1045) rw_0_1045 (x := (3 : Int32)) rfl rfl ?_
  refine s_addk (pc := 1046) rw_0_1046 (A := i.toInt) (B := 3) rfl rfl (by omega) (v := v13) e14 ?_
  refine s_x0k (pc := 1047) rw_0_1047 hL (A := v13.toInt) rfl (by omega) (by omega) (v := v15) e16 ?_
  refine s_v (pc := 1048) rw_0_1048 (by omega) (ls0 := [.ref 77, .int v7, .int v11, .int v15, .null, .null, .null, .null]) rfl (Nat.le_of_ble_eq_true rfl) (Nat.le_of_ble_eq_true rfl) rfl (to_rc rfl rfl rfl (g_o hG20 rfl)) rfl ?_
  have j_33 := (NJ_f (fun a i z => F_n F19 (show ¬ (a = 0 ∨ 6 ≤ a ∧ a ≤ 76) by omega) rfl) jNJ)
  refine C_233 hX (by omega) hG20 j_33 (n := v7) (w := v11) (k := v15) (fun r34 M37 hG36 F35 => ?_)
  have n_38 : M37.1.2.1 = M24.1.2.1 ∧ M37.1.2.2.1 = M24.1.2.2.1 := by rw [F35.1]; exact ⟨rfl, rfl⟩
  refine s_pop2 (pc := 1051) rw_0_1051 ?_
  refine to_go (pc := 1052) rw_0_1052 ?_
  have c_40 : M37.2.1 77 7 = (M.2.1 77 7) := (F_n F35 (show ¬ (77 = 77 ∧ 7 = 2 ∨ 94 ≤ 77 ∧ 77 ≤ 98) by omega) (F_n F19 (show ¬ (77 = 0 ∨ 6 ≤ 77 ∧ 77 ≤ 76) by omega) rfl))
  have t_41 : (M37.2.1 77 7).toInt = (M.2.1 77 7).toInt := congrArg Int32.toInt c_40
  have c_42 : M37.2.1 77 6 = (M.2.1 77 6) := (F_n F35 (show ¬ (77 = 77 ∧ 6 = 2 ∨ 94 ≤ 77 ∧ 77 ≤ 98) by omega) (F_n F19 (show ¬ (77 = 0 ∨ 6 ≤ 77 ∧ 77 ≤ 76) by omega) rfl))
  have t_43 : (M37.2.1 77 6).toInt = (M.2.1 77 6).toInt := congrArg Int32.toInt c_42
  have c_44 : M37.2.1 1 1 = (M.2.1 1 1) := (F_n F35 (show ¬ (1 = 77 ∧ 1 = 2 ∨ 94 ≤ 1 ∧ 1 ≤ 98) by omega) (F_n F19 (show ¬ (1 = 0 ∨ 6 ≤ 1 ∧ 1 ≤ 76) by omega) rfl))
  have t_45 : (M37.2.1 1 1).toInt = (M.2.1 1 1).toInt := congrArg Int32.toInt c_44
  have c_46 : M37.2.1 77 1 = (M.2.1 77 1) := (F_n F35 (show ¬ (77 = 77 ∧ 1 = 2 ∨ 94 ≤ 77 ∧ 77 ≤ 98) by omega) (F_n F19 (show ¬ (77 = 0 ∨ 6 ≤ 77 ∧ 77 ≤ 76) by omega) rfl))
  have t_47 : (M37.2.1 77 1).toInt = (M.2.1 77 1).toInt := congrArg Int32.toInt c_46
  have j_48 := (PI_f (fun a i z => F_n F35 (show ¬ (a = 77 ∧ i = 2 ∨ 94 ≤ a ∧ a ≤ 98) by omega) rfl) p_21)
  have j_49 := (NI_f (fun a i z => F_n F35 (show ¬ (a = 77 ∧ i = 2 ∨ 94 ≤ a ∧ a ≤ 98) by omega) rfl) p_22)
  have j_50 := (QI_f (fun a i z => F_n F35 (show ¬ (a = 77 ∧ i = 2 ∨ 94 ≤ a ∧ a ≤ 98) by omega) rfl) p_23)
  have j_51 := (PQE_r F35.2.1 (PQE_r F19.2.1 jPQE))
  have j_52 := (FA_f (fun a i z => F_n F35 (show ¬ (a = 77 ∧ i = 2 ∨ 94 ≤ a ∧ a ≤ 98) by omega) rfl) (FA_f (fun a i z => F_n F19 (show ¬ (a = 0 ∨ 6 ≤ a ∧ a ≤ 76) by omega) rfl) jFA))
  have j_53 := (WC_f (fun a i z => F_n F35 (show ¬ (a = 77 ∧ i = 2 ∨ 94 ≤ a ∧ a ≤ 98) by omega) rfl) (WC_f (fun a i z => F_n F19 (show ¬ (a = 0 ∨ 6 ≤ a ∧ a ≤ 76) by omega) rfl) jWC))
  have j_54 := (NJ_f (fun a i z => F_n F35 (show ¬ (a = 77 ∧ i = 2 ∨ 94 ≤ a ∧ a ≤ 98) by omega) rfl) j_33)
  have j_55 := (PS_f (fun a i z => F_n F35 (show ¬ (a = 77 ∧ i = 2 ∨ 94 ≤ a ∧ a ≤ 98) by omega) rfl) (PS_f (fun a i z => F_n F19 (show ¬ (a = 0 ∨ 6 ≤ a ∧ a ≤ 76) by omega) rfl) jPS))
  have j_56 := (KQ_f (fun a i z => F_n F35 (show ¬ (a = 77 ∧ i = 2 ∨ 94 ≤ a ∧ a ≤ 98) by omega) rfl) (KQ_f (fun a i z => F_n F19 (show ¬ (a = 0 ∨ 6 ≤ a ∧ a ≤ 76) by omega) rfl) jKQ))
  have j_57 := (TP_f (fun a i z => F_n F35 (show ¬ (a = 77 ∧ i = 2 ∨ 94 ≤ a ∧ a ≤ 98) by omega) rfl) (TP_f (fun a i z => F_n F19 (show ¬ (a = 0 ∨ 6 ≤ a ∧ a ≤ 76) by omega) rfl) jTP))
  have j_58 := (W9_f (fun a i z => F_n F35 (show ¬ (a = 77 ∧ i = 2 ∨ 94 ≤ a ∧ a ≤ 98) by omega) rfl) (W9_f (fun a i z => F_n F19 (show ¬ (a = 0 ∨ 6 ≤ a ∧ a ≤ 76) by omega) rfl) jW9))
  exact h M37 (u5) (u6) ⟨⟨hG36, ⟨j_48, j_49, j_50, j_51⟩, ⟨j_52, j_53, j_54, j_55, j_56⟩, by omega, by omega⟩, j_57, j_58⟩ (by omega) (by omega)
set_option maxRecDepth 4000 in
set_option maxHeartbeats 0 in
theorem LW_24 {X : mm_X} {d L : Nat} {M : mm_M} {Q : Option Value → mm_M → Prop} {i : Int32} {u5 u6 : Value} (hX : g_X X) (hW : g_W X) (hL : (X 0).1 = L) (h3 : L ≤ 3072) (hd : 40 ≤ d) (hi : 0 ≤ i.toInt) (hi2 : i.toInt + 6 ≤ (L : Int)) (H : LI3 M) (h : ∀ (M1 : mm_M) (v5 v6 : Value), LI3 M1 → M1.1.2.1 ≤ M.1.2.1 + 1 → M1.1.2.2.1 ≤ M.1.2.2.1 + 6 → mm_T X d 0 1313 [.ref mm_ext, .ref 0, .ref 77, .ref 125, .int i, v5, v6] [] M1 Q) : mm_T X d 0 1055 [.ref mm_ext, .ref 0, .ref 77, .ref 125, .int i, u5, u6] [] M Q := by
  obtain ⟨⟨hG, ⟨jPI, jNI, jQI, jPQE⟩, ⟨jFA, jWC, jNJ, jPS, jKQ⟩, jJ, jE⟩, jTP, jW9⟩ := H
  have b_1 := g_b hG (a := 77) (i := 7) (lo := 0) (hi := 500) rfl rfl
  have b_2 := g_b hG (a := 77) (i := 6) (lo := 0) (hi := 500) rfl rfl
  have b_3 := g_b hG (a := 1) (i := 1) (lo := 0) (hi := 500) rfl rfl
  have b_4 := g_b hG (a := 77) (i := 1) (lo := 0) (hi := 500) rfl rfl
  refine to_an (pc := 1055) rw_0_1055 rfl ?_
  refine to_an (pc := 1056) rw_0_1056 rfl ?_
  refine to_i (pc := 1057) rw_0_1057 rfl ?_
  refine to_c (pc := 1059) rw_0_1059 (x := (1 : Int32)) rfl rfl ?_
  refine s_add (pc := 1060) rw_0_1060 (A := i.toInt) (B := 1) rfl rfl (by omega) (fun v5 e6 => ?_)
  refine s_x0 (pc := 1061) rw_0_1061 hL (A := v5.toInt) rfl (by omega) (by omega) (fun v7 e8 => ?_)
  refine to_an (pc := 1062) rw_0_1062 rfl ?_
  refine to_i (pc := 1063) rw_0_1063 rfl ?_
  refine to_c (pc := 1065) rw_0_1065 (x := (2 : Int32)) rfl rfl ?_
  refine s_add (pc := 1066) rw_0_1066 (A := i.toInt) (B := 2) rfl rfl (by omega) (fun v9 e10 => ?_)
  refine s_x0 (pc := 1067) rw_0_1067 hL (A := v9.toInt) rfl (by omega) (by omega) (fun v11 e12 => ?_)
  refine s_v (pc := 1068) rw_0_1068 (by omega) (ls0 := [.ref 0, .int v7, .int v11, .null, .null]) rfl (Nat.le_of_ble_eq_true rfl) (Nat.le_of_ble_eq_true rfl) rfl (to_rc rfl rfl rfl (g_o hG rfl)) rfl ?_
  obtain ⟨pz13, pzz13, qz13, qzz13, hpz13, hpzz13, hqz13, hqzz13, hpqz13⟩ := id jPQE
  refine C_133 hX (by omega) hG hpz13 hpzz13 hqz13 hqzz13 hpqz13 jNI jPI jQI (n := v7) (w := v11) (p := pz13) (pz := pzz13) (q := qz13) (qz := qzz13) (fun r14 M20 hG16 F15 p_17 p_18 p_19 => ?_)
  have n_21 : M20.1.2.1 = M.1.2.1 ∧ M20.1.2.2.1 = M.1.2.2.1 := by rw [F15.1]; exact ⟨rfl, rfl⟩
  refine to_popi (pc := 1071) rw_0_1071 ?_
  refine to_an (pc := 1072) rw_0_1072 rfl ?_
  refine to_an (pc := 1073) rw_0_1073 rfl ?_
  refine to_i (pc := 1074) rw_0_1074 rfl ?_
  refine to_c (pc := 1076) rw_0_1076 (x := (1 : Int32)) rfl rfl ?_
  refine s_addk (pc := 1077) rw_0_1077 (A := i.toInt) (B := 1) rfl rfl (by omega) (v := v5) e6 ?_
  refine s_x0k (pc := 1078) rw_0_1078 hL (A := v5.toInt) rfl (by omega) (by omega) (v := v7) e8 ?_
  refine to_an (pc := 1079) rw_0_1079 rfl ?_
  refine to_i (pc := 1080) rw_0_1080 rfl ?_
  refine to_c (pc := 1082) rw_0_1082 (x := (2 : Int32)) rfl rfl ?_
  refine s_addk (pc := 1083) rw_0_1083 (A := i.toInt) (B := 2) rfl rfl (by omega) (v := v9) e10 ?_
  refine s_x0k (pc := 1084) rw_0_1084 hL (A := v9.toInt) rfl (by omega) (by omega) (v := v11) e12 ?_
  refine s_v (pc := 1085) rw_0_1085 (by omega) (ls0 := [.ref 77, .int v7, .int v11]) rfl (Nat.le_of_ble_eq_true rfl) (Nat.le_of_ble_eq_true rfl) rfl (to_rc rfl rfl rfl (g_o hG16 rfl)) rfl ?_
  have j_27 := (NJ_f (fun a i z => F_n F15 (show ¬ (a = 0 ∨ 6 ≤ a ∧ a ≤ 76) by omega) rfl) jNJ)
  refine C_235 hX (by omega) hG16 j_27 (n := v7) (w := v11) (fun r28 M31 hG30 F29 => ?_)
  have n_32 : M31.1.2.1 = M20.1.2.1 ∧ M31.1.2.2.1 = M20.1.2.2.1 := by rw [F29.1]; exact ⟨rfl, rfl⟩
  refine to_popi (pc := 1088) rw_0_1088 ?_
  refine to_go (pc := 1089) rw_0_1089 ?_
  have c_34 : M31.2.1 77 7 = (M.2.1 77 7) := (F_n F29 (show ¬ (77 = 77 ∧ 7 = 2 ∨ 94 ≤ 77 ∧ 77 ≤ 98) by omega) (F_n F15 (show ¬ (77 = 0 ∨ 6 ≤ 77 ∧ 77 ≤ 76) by omega) rfl))
  have t_35 : (M31.2.1 77 7).toInt = (M.2.1 77 7).toInt := congrArg Int32.toInt c_34
  have c_36 : M31.2.1 77 6 = (M.2.1 77 6) := (F_n F29 (show ¬ (77 = 77 ∧ 6 = 2 ∨ 94 ≤ 77 ∧ 77 ≤ 98) by omega) (F_n F15 (show ¬ (77 = 0 ∨ 6 ≤ 77 ∧ 77 ≤ 76) by omega) rfl))
  have t_37 : (M31.2.1 77 6).toInt = (M.2.1 77 6).toInt := congrArg Int32.toInt c_36
  have c_38 : M31.2.1 1 1 = (M.2.1 1 1) := (F_n F29 (show ¬ (1 = 77 ∧ 1 = 2 ∨ 94 ≤ 1 ∧ 1 ≤ 98) by omega) (F_n F15 (show ¬ (1 = 0 ∨ 6 ≤ 1 ∧ 1 ≤ 76) by omega) rfl))
  have t_39 : (M31.2.1 1 1).toInt = (M.2.1 1 1).toInt := congrArg Int32.toInt c_38
  have c_40 : M31.2.1 77 1 = (M.2.1 77 1) := (F_n F29 (show ¬ (77 = 77 ∧ 1 = 2 ∨ 94 ≤ 77 ∧ 77 ≤ 98) by omega) (F_n F15 (show ¬ (77 = 0 ∨ 6 ≤ 77 ∧ 77 ≤ 76) by omega) rfl))
  have t_41 : (M31.2.1 77 1).toInt = (M.2.1 77 1).toInt := congrArg Int32.toInt c_40
  have j_42 := (PI_f (fun a i z => F_n F29 (show ¬ (a = 77 ∧ i = 2 ∨ 94 ≤ a ∧ a ≤ 98) by omega) rfl) p_17)
  have j_43 := (NI_f (fun a i z => F_n F29 (show ¬ (a = 77 ∧ i = 2 ∨ 94 ≤ a ∧ a ≤ 98) by omega) rfl) p_18)
  have j_44 := (QI_f (fun a i z => F_n F29 (show ¬ (a = 77 ∧ i = 2 ∨ 94 ≤ a ∧ a ≤ 98) by omega) rfl) p_19)
  have j_45 := (PQE_r F29.2.1 (PQE_r F15.2.1 jPQE))
  have j_46 := (FA_f (fun a i z => F_n F29 (show ¬ (a = 77 ∧ i = 2 ∨ 94 ≤ a ∧ a ≤ 98) by omega) rfl) (FA_f (fun a i z => F_n F15 (show ¬ (a = 0 ∨ 6 ≤ a ∧ a ≤ 76) by omega) rfl) jFA))
  have j_47 := (WC_f (fun a i z => F_n F29 (show ¬ (a = 77 ∧ i = 2 ∨ 94 ≤ a ∧ a ≤ 98) by omega) rfl) (WC_f (fun a i z => F_n F15 (show ¬ (a = 0 ∨ 6 ≤ a ∧ a ≤ 76) by omega) rfl) jWC))
  have j_48 := (NJ_f (fun a i z => F_n F29 (show ¬ (a = 77 ∧ i = 2 ∨ 94 ≤ a ∧ a ≤ 98) by omega) rfl) j_27)
  have j_49 := (PS_f (fun a i z => F_n F29 (show ¬ (a = 77 ∧ i = 2 ∨ 94 ≤ a ∧ a ≤ 98) by omega) rfl) (PS_f (fun a i z => F_n F15 (show ¬ (a = 0 ∨ 6 ≤ a ∧ a ≤ 76) by omega) rfl) jPS))
  have j_50 := (KQ_f (fun a i z => F_n F29 (show ¬ (a = 77 ∧ i = 2 ∨ 94 ≤ a ∧ a ≤ 98) by omega) rfl) (KQ_f (fun a i z => F_n F15 (show ¬ (a = 0 ∨ 6 ≤ a ∧ a ≤ 76) by omega) rfl) jKQ))
  have j_51 := (TP_f (fun a i z => F_n F29 (show ¬ (a = 77 ∧ i = 2 ∨ 94 ≤ a ∧ a ≤ 98) by omega) rfl) (TP_f (fun a i z => F_n F15 (show ¬ (a = 0 ∨ 6 ≤ a ∧ a ≤ 76) by omega) rfl) jTP))
  have j_52 := (W9_f (fun a i z => F_n F29 (show ¬ (a = 77 ∧ i = 2 ∨ 94 ≤ a ∧ a ≤ 98) by omega) rfl) (W9_f (fun a i z => F_n F15 (show ¬ (a = 0 ∨ 6 ≤ a ∧ a ≤ 76) by omega) rfl) jW9))
  exact h M31 (u5) (u6) ⟨⟨hG30, ⟨j_42, j_43, j_44, j_45⟩, ⟨j_46, j_47, j_48, j_49, j_50⟩, by omega, by omega⟩, j_51, j_52⟩ (by omega) (by omega)
set_option maxRecDepth 4000 in
set_option maxHeartbeats 0 in
theorem LW_25 {X : mm_X} {d L : Nat} {M : mm_M} {Q : Option Value → mm_M → Prop} {i : Int32} {u5 u6 : Value} (hX : g_X X) (hW : g_W X) (hL : (X 0).1 = L) (h3 : L ≤ 3072) (hd : 40 ≤ d) (hi : 0 ≤ i.toInt) (hi2 : i.toInt + 6 ≤ (L : Int)) (H : LI3 M) (h : ∀ (M1 : mm_M) (v5 v6 : Value), LI3 M1 → M1.1.2.1 ≤ M.1.2.1 + 1 → M1.1.2.2.1 ≤ M.1.2.2.1 + 6 → mm_T X d 0 1313 [.ref mm_ext, .ref 0, .ref 77, .ref 125, .int i, v5, v6] [] M1 Q) : mm_T X d 0 1092 [.ref mm_ext, .ref 0, .ref 77, .ref 125, .int i, u5, u6] [] M Q := by
  obtain ⟨⟨hG, ⟨jPI, jNI, jQI, jPQE⟩, ⟨jFA, jWC, jNJ, jPS, jKQ⟩, jJ, jE⟩, jTP, jW9⟩ := H
  have b_1 := g_b hG (a := 77) (i := 7) (lo := 0) (hi := 500) rfl rfl
  have b_2 := g_b hG (a := 77) (i := 6) (lo := 0) (hi := 500) rfl rfl
  have b_3 := g_b hG (a := 1) (i := 1) (lo := 0) (hi := 500) rfl rfl
  have b_4 := g_b hG (a := 77) (i := 1) (lo := 0) (hi := 500) rfl rfl
  refine to_an (pc := 1092) rw_0_1092 rfl ?_
  refine to_an (pc := 1093) rw_0_1093 rfl ?_
  refine to_i (pc := 1094) rw_0_1094 rfl ?_
  refine to_c (pc := 1096) rw_0_1096 (x := (1 : Int32)) rfl rfl ?_
  refine s_add (pc := 1097) rw_0_1097 (A := i.toInt) (B := 1) rfl rfl (by omega) (fun v5 e6 => ?_)
  refine s_x0 (pc := 1098) rw_0_1098 hL (A := v5.toInt) rfl (by omega) (by omega) (fun v7 e8 => ?_)
  refine to_an (pc := 1099) rw_0_1099 rfl ?_
  refine to_i (pc := 1100) rw_0_1100 rfl ?_
  refine to_c (pc := 1102) rw_0_1102 (x := (2 : Int32)) rfl rfl ?_
  refine s_add (pc := 1103) rw_0_1103 (A := i.toInt) (B := 2) rfl rfl (by omega) (fun v9 e10 => ?_)
  refine s_x0 (pc := 1104) rw_0_1104 hL (A := v9.toInt) rfl (by omega) (by omega) (fun v11 e12 => ?_)
  refine s_v (pc := 1105) rw_0_1105 (by omega) (ls0 := [.ref 0, .int v7, .int v11]) rfl (Nat.le_of_ble_eq_true rfl) (Nat.le_of_ble_eq_true rfl) rfl (to_rc rfl rfl rfl (g_o hG rfl)) rfl ?_
  obtain ⟨pz13, pzz13, qz13, qzz13, hpz13, hpzz13, hqz13, hqzz13, hpqz13⟩ := id jPQE
  refine C_134 hX (by omega) hG hpz13 hpzz13 hqz13 hqzz13 hpqz13 jNI jPI jQI (n := v7) (w := v11) (p := pz13) (pz := pzz13) (q := qz13) (qz := qzz13) (fun r14 M20 hG16 F15 p_17 p_18 p_19 => ?_)
  have n_21 : M20.1.2.1 = M.1.2.1 ∧ M20.1.2.2.1 = M.1.2.2.1 := by rw [F15.1]; exact ⟨rfl, rfl⟩
  refine to_popi (pc := 1108) rw_0_1108 ?_
  refine to_an (pc := 1109) rw_0_1109 rfl ?_
  refine to_an (pc := 1110) rw_0_1110 rfl ?_
  refine to_i (pc := 1111) rw_0_1111 rfl ?_
  refine to_c (pc := 1113) rw_0_1113 (x := (1 : Int32)) rfl rfl ?_
  refine s_addk (pc := 1114) rw_0_1114 (A := i.toInt) (B := 1) rfl rfl (by omega) (v := v5) e6 ?_
  refine s_x0k (pc := 1115) rw_0_1115 hL (A := v5.toInt) rfl (by omega) (by omega) (v := v7) e8 ?_
  refine to_an (pc := 1116) rw_0_1116 rfl ?_
  refine to_i (pc := 1117) rw_0_1117 rfl ?_
  refine to_c (pc := 1119) rw_0_1119 (x := (2 : Int32)) rfl rfl ?_
  refine s_addk (pc := 1120) rw_0_1120 (A := i.toInt) (B := 2) rfl rfl (by omega) (v := v9) e10 ?_
  refine s_x0k (pc := 1121) rw_0_1121 hL (A := v9.toInt) rfl (by omega) (by omega) (v := v11) e12 ?_
  refine s_v (pc := 1122) rw_0_1122 (by omega) (ls0 := [.ref 77, .int v7, .int v11, .null, .null, .null, .null, .null, .null, .null, .null, .null, .null, .null]) rfl (Nat.le_of_ble_eq_true rfl) (Nat.le_of_ble_eq_true rfl) rfl (to_rc rfl rfl rfl (g_o hG16 rfl)) rfl ?_
  have j_27 := (NJ_f (fun a i z => F_n F15 (show ¬ (a = 0 ∨ 6 ≤ a ∧ a ≤ 76) by omega) rfl) jNJ)
  have j_28 := (FA_f (fun a i z => F_n F15 (show ¬ (a = 0 ∨ 6 ≤ a ∧ a ≤ 76) by omega) rfl) jFA)
  have j_29 := (WC_f (fun a i z => F_n F15 (show ¬ (a = 0 ∨ 6 ≤ a ∧ a ≤ 76) by omega) rfl) jWC)
  refine C_237 hX (by omega) hG16 j_27 j_28 j_29 (n := v7) (w := v11) (fun r30 M33 hG32 F31 => ?_)
  have n_34 : M33.1.2.1 = M20.1.2.1 ∧ M33.1.2.2.1 = M20.1.2.2.1 := by rw [F31.1]; exact ⟨rfl, rfl⟩
  refine to_popi (pc := 1125) rw_0_1125 ?_
  refine to_go (pc := 1126) rw_0_1126 ?_
  have c_36 : M33.2.1 77 7 = (M.2.1 77 7) := (F_n F31 (show ¬ (77 = 77 ∧ 7 = 2 ∨ 94 ≤ 77 ∧ 77 ≤ 98 ∨ 77 = 118) by omega) (F_n F15 (show ¬ (77 = 0 ∨ 6 ≤ 77 ∧ 77 ≤ 76) by omega) rfl))
  have t_37 : (M33.2.1 77 7).toInt = (M.2.1 77 7).toInt := congrArg Int32.toInt c_36
  have c_38 : M33.2.1 77 6 = (M.2.1 77 6) := (F_n F31 (show ¬ (77 = 77 ∧ 6 = 2 ∨ 94 ≤ 77 ∧ 77 ≤ 98 ∨ 77 = 118) by omega) (F_n F15 (show ¬ (77 = 0 ∨ 6 ≤ 77 ∧ 77 ≤ 76) by omega) rfl))
  have t_39 : (M33.2.1 77 6).toInt = (M.2.1 77 6).toInt := congrArg Int32.toInt c_38
  have c_40 : M33.2.1 1 1 = (M.2.1 1 1) := (F_n F31 (show ¬ (1 = 77 ∧ 1 = 2 ∨ 94 ≤ 1 ∧ 1 ≤ 98 ∨ 1 = 118) by omega) (F_n F15 (show ¬ (1 = 0 ∨ 6 ≤ 1 ∧ 1 ≤ 76) by omega) rfl))
  have t_41 : (M33.2.1 1 1).toInt = (M.2.1 1 1).toInt := congrArg Int32.toInt c_40
  have c_42 : M33.2.1 77 1 = (M.2.1 77 1) := (F_n F31 (show ¬ (77 = 77 ∧ 1 = 2 ∨ 94 ≤ 77 ∧ 77 ≤ 98 ∨ 77 = 118) by omega) (F_n F15 (show ¬ (77 = 0 ∨ 6 ≤ 77 ∧ 77 ≤ 76) by omega) rfl))
  have t_43 : (M33.2.1 77 1).toInt = (M.2.1 77 1).toInt := congrArg Int32.toInt c_42
  have j_44 := (PI_f (fun a i z => F_n F31 (show ¬ (a = 77 ∧ i = 2 ∨ 94 ≤ a ∧ a ≤ 98 ∨ a = 118) by omega) rfl) p_17)
  have j_45 := (NI_f (fun a i z => F_n F31 (show ¬ (a = 77 ∧ i = 2 ∨ 94 ≤ a ∧ a ≤ 98 ∨ a = 118) by omega) rfl) p_18)
  have j_46 := (QI_f (fun a i z => F_n F31 (show ¬ (a = 77 ∧ i = 2 ∨ 94 ≤ a ∧ a ≤ 98 ∨ a = 118) by omega) rfl) p_19)
  have j_47 := (PQE_r F31.2.1 (PQE_r F15.2.1 jPQE))
  have j_48 := (FA_f (fun a i z => F_n F31 (show ¬ (a = 77 ∧ i = 2 ∨ 94 ≤ a ∧ a ≤ 98 ∨ a = 118) by omega) rfl) j_28)
  have j_49 := (WC_f (fun a i z => F_n F31 (show ¬ (a = 77 ∧ i = 2 ∨ 94 ≤ a ∧ a ≤ 98 ∨ a = 118) by omega) rfl) j_29)
  have j_50 := (NJ_f (fun a i z => F_n F31 (show ¬ (a = 77 ∧ i = 2 ∨ 94 ≤ a ∧ a ≤ 98 ∨ a = 118) by omega) rfl) j_27)
  have j_51 := (PS_f (fun a i z => F_n F31 (show ¬ (a = 77 ∧ i = 2 ∨ 94 ≤ a ∧ a ≤ 98 ∨ a = 118) by omega) rfl) (PS_f (fun a i z => F_n F15 (show ¬ (a = 0 ∨ 6 ≤ a ∧ a ≤ 76) by omega) rfl) jPS))
  have j_52 := (KQ_f (fun a i z => F_n F31 (show ¬ (a = 77 ∧ i = 2 ∨ 94 ≤ a ∧ a ≤ 98 ∨ a = 118) by omega) rfl) (KQ_f (fun a i z => F_n F15 (show ¬ (a = 0 ∨ 6 ≤ a ∧ a ≤ 76) by omega) rfl) jKQ))
  have j_53 := (TP_f (fun a i z => F_n F31 (show ¬ (a = 77 ∧ i = 2 ∨ 94 ≤ a ∧ a ≤ 98 ∨ a = 118) by omega) rfl) (TP_f (fun a i z => F_n F15 (show ¬ (a = 0 ∨ 6 ≤ a ∧ a ≤ 76) by omega) rfl) jTP))
  have j_54 := (W9_f (fun a i z => F_n F31 (show ¬ (a = 77 ∧ i = 2 ∨ 94 ≤ a ∧ a ≤ 98 ∨ a = 118) by omega) rfl) (W9_f (fun a i z => F_n F15 (show ¬ (a = 0 ∨ 6 ≤ a ∧ a ≤ 76) by omega) rfl) jW9))
  exact h M33 (u5) (u6) ⟨⟨hG32, ⟨j_44, j_45, j_46, j_47⟩, ⟨j_48, j_49, j_50, j_51, j_52⟩, by omega, by omega⟩, j_53, j_54⟩ (by omega) (by omega)
set_option maxRecDepth 4000 in
set_option maxHeartbeats 0 in
theorem LW_26 {X : mm_X} {d L : Nat} {M : mm_M} {Q : Option Value → mm_M → Prop} {i : Int32} {u5 u6 : Value} (hX : g_X X) (hW : g_W X) (hL : (X 0).1 = L) (h3 : L ≤ 3072) (hd : 40 ≤ d) (hi : 0 ≤ i.toInt) (hi2 : i.toInt + 6 ≤ (L : Int)) (H : LI3 M) (h : ∀ (M1 : mm_M) (v5 v6 : Value), LI3 M1 → M1.1.2.1 ≤ M.1.2.1 + 1 → M1.1.2.2.1 ≤ M.1.2.2.1 + 6 → mm_T X d 0 1313 [.ref mm_ext, .ref 0, .ref 77, .ref 125, .int i, v5, v6] [] M1 Q) : mm_T X d 0 1129 [.ref mm_ext, .ref 0, .ref 77, .ref 125, .int i, u5, u6] [] M Q := by
  obtain ⟨⟨hG, ⟨jPI, jNI, jQI, jPQE⟩, ⟨jFA, jWC, jNJ, jPS, jKQ⟩, jJ, jE⟩, jTP, jW9⟩ := H
  have b_1 := g_b hG (a := 77) (i := 7) (lo := 0) (hi := 500) rfl rfl
  have b_2 := g_b hG (a := 77) (i := 6) (lo := 0) (hi := 500) rfl rfl
  have b_3 := g_b hG (a := 1) (i := 1) (lo := 0) (hi := 500) rfl rfl
  have b_4 := g_b hG (a := 77) (i := 1) (lo := 0) (hi := 500) rfl rfl
  refine to_an (pc := 1129) rw_0_1129 rfl ?_
  refine to_an (pc := 1130) rw_0_1130 rfl ?_
  refine to_i (pc := 1131) rw_0_1131 rfl ?_
  refine to_c (pc := 1133) rw_0_1133 (x := (1 : Int32)) rfl rfl ?_
  refine s_add (pc := 1134) rw_0_1134 (A := i.toInt) (B := 1) rfl rfl (by omega) (fun v5 e6 => ?_)
  refine s_x0 (pc := 1135) rw_0_1135 hL (A := v5.toInt) rfl (by omega) (by omega) (fun v7 e8 => ?_)
  refine to_an (pc := 1136) rw_0_1136 rfl ?_
  refine to_i (pc := 1137) rw_0_1137 rfl ?_
  refine to_c (pc := 1139) rw_0_1139 (x := (2 : Int32)) rfl rfl ?_
  refine s_add (pc := 1140) rw_0_1140 (A := i.toInt) (B := 2) rfl rfl (by omega) (fun v9 e10 => ?_)
  refine s_x0 (pc := 1141) rw_0_1141 hL (A := v9.toInt) rfl (by omega) (by omega) (fun v11 e12 => ?_)
  refine to_an (pc := 1142) rw_0_1142 rfl ?_
  refine to_i (pc := 1143) rw_0_1143 rfl ?_
  refine to_c (pc := 1145) rw_0_1145 (x := (3 : Int32)) rfl rfl ?_
  refine s_add (pc := 1146) rw_0_1146 (A := i.toInt) (B := 3) rfl rfl (by omega) (fun v13 e14 => ?_)
  refine s_x0 (pc := 1147) rw_0_1147 hL (A := v13.toInt) rfl (by omega) (by omega) (fun v15 e16 => ?_)
  refine to_an (pc := 1148) rw_0_1148 rfl ?_
  refine to_i (pc := 1149) rw_0_1149 rfl ?_
  refine to_c (pc := 1151) rw_0_1151 (x := (4 : Int32)) rfl rfl ?_
  refine s_add (pc := 1152) rw_0_1152 (A := i.toInt) (B := 4) rfl rfl (by omega) (fun v17 e18 => ?_)
  refine s_x0 (pc := 1153) rw_0_1153 hL (A := v17.toInt) rfl (by omega) (by omega) (fun v19 e20 => ?_)
  refine to_an (pc := 1154) rw_0_1154 rfl ?_
  refine to_i (pc := 1155) rw_0_1155 rfl ?_
  refine to_c (pc := 1157) rw_0_1157 (x := (5 : Int32)) rfl rfl ?_
  refine s_add (pc := 1158) rw_0_1158 (A := i.toInt) (B := 5) rfl rfl (by omega) (fun v21 e22 => ?_)
  refine s_x0 (pc := 1159) rw_0_1159 hL (A := v21.toInt) rfl (by omega) (by omega) (fun v23 e24 => ?_)
  refine s_v (pc := 1160) rw_0_1160 (by omega) (ls0 := [.ref 0, .int v7, .int v11, .int v15, .int v19, .int v23]) rfl (Nat.le_of_ble_eq_true rfl) (Nat.le_of_ble_eq_true rfl) rfl (to_rc rfl rfl rfl (g_o hG rfl)) rfl ?_
  obtain ⟨pz25, pzz25, qz25, qzz25, hpz25, hpzz25, hqz25, hqzz25, hpqz25⟩ := id jPQE
  refine C_135 hX (by omega) hG hpz25 hpzz25 hqz25 hqzz25 hpqz25 jNI jPI jQI (n := v7) (c := v11) (f := v15) (t := v19) (w := v23) (p := pz25) (pz := pzz25) (q := qz25) (qz := qzz25) (fun r26 M32 hG28 F27 p_29 p_30 p_31 => ?_)
  have n_33 : M32.1.2.1 = M.1.2.1 ∧ M32.1.2.2.1 = M.1.2.2.1 := by rw [F27.1]; exact ⟨rfl, rfl⟩
  refine to_popi (pc := 1163) rw_0_1163 ?_
  refine to_an (pc := 1164) rw_0_1164 rfl ?_
  refine to_an (pc := 1165) rw_0_1165 rfl ?_
  refine to_i (pc := 1166) rw_0_1166 rfl ?_
  refine to_c (pc := 1168) rw_0_1168 (x := (1 : Int32)) rfl rfl ?_
  refine s_addk (pc := 1169) rw_0_1169 (A := i.toInt) (B := 1) rfl rfl (by omega) (v := v5) e6 ?_
  refine s_x0k (pc := 1170) rw_0_1170 hL (A := v5.toInt) rfl (by omega) (by omega) (v := v7) e8 ?_
  refine to_an (pc := 1171) rw_0_1171 rfl ?_
  refine to_i (pc := 1172) rw_0_1172 rfl ?_
  refine to_c (pc := 1174) rw_0_1174 (x := (2 : Int32)) rfl rfl ?_
  refine s_addk (pc := 1175) rw_0_1175 (A := i.toInt) (B := 2) rfl rfl (by omega) (v := v9) e10 ?_
  refine s_x0k (pc := 1176) rw_0_1176 hL (A := v9.toInt) rfl (by omega) (by omega) (v := v11) e12 ?_
  refine to_an (pc := 1177) rw_0_1177 rfl ?_
  refine to_i (pc := 1178) rw_0_1178 rfl ?_
  refine to_c (pc := 1180) rw_0_1180 (x := (3 : Int32)) rfl rfl ?_
  refine s_addk (pc := 1181) rw_0_1181 (A := i.toInt) (B := 3) rfl rfl (by omega) (v := v13) e14 ?_
  refine s_x0k (pc := 1182) rw_0_1182 hL (A := v13.toInt) rfl (by omega) (by omega) (v := v15) e16 ?_
  refine to_an (pc := 1183) rw_0_1183 rfl ?_
  refine to_i (pc := 1184) rw_0_1184 rfl ?_
  refine to_c (pc := 1186) rw_0_1186 (x := (4 : Int32)) rfl rfl ?_
  refine s_addk (pc := 1187) rw_0_1187 (A := i.toInt) (B := 4) rfl rfl (by omega) (v := v17) e18 ?_
  refine s_x0k (pc := 1188) rw_0_1188 hL (A := v17.toInt) rfl (by omega) (by omega) (v := v19) e20 ?_
  refine to_an (pc := 1189) rw_0_1189 rfl ?_
  refine to_i (pc := 1190) rw_0_1190 rfl ?_
  refine to_c (pc := 1192) rw_0_1192 (x := (5 : Int32)) rfl rfl ?_
  refine s_addk (pc := 1193) rw_0_1193 (A := i.toInt) (B := 5) rfl rfl (by omega) (v := v21) e22 ?_
  refine s_x0k (pc := 1194) rw_0_1194 hL (A := v21.toInt) rfl (by omega) (by omega) (v := v23) e24 ?_
  refine s_v (pc := 1195) rw_0_1195 (by omega) (ls0 := [.ref 77, .int v7, .int v11, .int v15, .int v19, .int v23]) rfl (Nat.le_of_ble_eq_true rfl) (Nat.le_of_ble_eq_true rfl) rfl (to_rc rfl rfl rfl (g_o hG28 rfl)) rfl ?_
  have j_45 := (NJ_f (fun a i z => F_n F27 (show ¬ (a = 0 ∨ 6 ≤ a ∧ a ≤ 76) by omega) rfl) jNJ)
  have j_46 := (FA_f (fun a i z => F_n F27 (show ¬ (a = 0 ∨ 6 ≤ a ∧ a ≤ 76) by omega) rfl) jFA)
  refine C_238 hX (by omega) hG28 j_45 j_46 (n := v7) (c := v11) (f := v15) (t := v19) (w := v23) (fun r47 M50 hG49 F48 => ?_)
  have n_51 : M50.1.2.1 = M32.1.2.1 ∧ M50.1.2.2.1 = M32.1.2.2.1 := by rw [F48.1]; exact ⟨rfl, rfl⟩
  refine to_popi (pc := 1198) rw_0_1198 ?_
  refine to_go (pc := 1199) rw_0_1199 ?_
  have c_53 : M50.2.1 77 7 = (M.2.1 77 7) := (F_n F48 (show ¬ (77 = 77 ∧ 7 = 2 ∨ 94 ≤ 77 ∧ 77 ≤ 98 ∨ 77 = 119) by omega) (F_n F27 (show ¬ (77 = 0 ∨ 6 ≤ 77 ∧ 77 ≤ 76) by omega) rfl))
  have t_54 : (M50.2.1 77 7).toInt = (M.2.1 77 7).toInt := congrArg Int32.toInt c_53
  have c_55 : M50.2.1 77 6 = (M.2.1 77 6) := (F_n F48 (show ¬ (77 = 77 ∧ 6 = 2 ∨ 94 ≤ 77 ∧ 77 ≤ 98 ∨ 77 = 119) by omega) (F_n F27 (show ¬ (77 = 0 ∨ 6 ≤ 77 ∧ 77 ≤ 76) by omega) rfl))
  have t_56 : (M50.2.1 77 6).toInt = (M.2.1 77 6).toInt := congrArg Int32.toInt c_55
  have c_57 : M50.2.1 1 1 = (M.2.1 1 1) := (F_n F48 (show ¬ (1 = 77 ∧ 1 = 2 ∨ 94 ≤ 1 ∧ 1 ≤ 98 ∨ 1 = 119) by omega) (F_n F27 (show ¬ (1 = 0 ∨ 6 ≤ 1 ∧ 1 ≤ 76) by omega) rfl))
  have t_58 : (M50.2.1 1 1).toInt = (M.2.1 1 1).toInt := congrArg Int32.toInt c_57
  have c_59 : M50.2.1 77 1 = (M.2.1 77 1) := (F_n F48 (show ¬ (77 = 77 ∧ 1 = 2 ∨ 94 ≤ 77 ∧ 77 ≤ 98 ∨ 77 = 119) by omega) (F_n F27 (show ¬ (77 = 0 ∨ 6 ≤ 77 ∧ 77 ≤ 76) by omega) rfl))
  have t_60 : (M50.2.1 77 1).toInt = (M.2.1 77 1).toInt := congrArg Int32.toInt c_59
  have j_61 := (PI_f (fun a i z => F_n F48 (show ¬ (a = 77 ∧ i = 2 ∨ 94 ≤ a ∧ a ≤ 98 ∨ a = 119) by omega) rfl) p_29)
  have j_62 := (NI_f (fun a i z => F_n F48 (show ¬ (a = 77 ∧ i = 2 ∨ 94 ≤ a ∧ a ≤ 98 ∨ a = 119) by omega) rfl) p_30)
  have j_63 := (QI_f (fun a i z => F_n F48 (show ¬ (a = 77 ∧ i = 2 ∨ 94 ≤ a ∧ a ≤ 98 ∨ a = 119) by omega) rfl) p_31)
  have j_64 := (PQE_r F48.2.1 (PQE_r F27.2.1 jPQE))
  have j_65 := (FA_f (fun a i z => F_n F48 (show ¬ (a = 77 ∧ i = 2 ∨ 94 ≤ a ∧ a ≤ 98 ∨ a = 119) by omega) rfl) j_46)
  have j_66 := (WC_f (fun a i z => F_n F48 (show ¬ (a = 77 ∧ i = 2 ∨ 94 ≤ a ∧ a ≤ 98 ∨ a = 119) by omega) rfl) (WC_f (fun a i z => F_n F27 (show ¬ (a = 0 ∨ 6 ≤ a ∧ a ≤ 76) by omega) rfl) jWC))
  have j_67 := (NJ_f (fun a i z => F_n F48 (show ¬ (a = 77 ∧ i = 2 ∨ 94 ≤ a ∧ a ≤ 98 ∨ a = 119) by omega) rfl) j_45)
  have j_68 := (PS_f (fun a i z => F_n F48 (show ¬ (a = 77 ∧ i = 2 ∨ 94 ≤ a ∧ a ≤ 98 ∨ a = 119) by omega) rfl) (PS_f (fun a i z => F_n F27 (show ¬ (a = 0 ∨ 6 ≤ a ∧ a ≤ 76) by omega) rfl) jPS))
  have j_69 := (KQ_f (fun a i z => F_n F48 (show ¬ (a = 77 ∧ i = 2 ∨ 94 ≤ a ∧ a ≤ 98 ∨ a = 119) by omega) rfl) (KQ_f (fun a i z => F_n F27 (show ¬ (a = 0 ∨ 6 ≤ a ∧ a ≤ 76) by omega) rfl) jKQ))
  have j_70 := (TP_f (fun a i z => F_n F48 (show ¬ (a = 77 ∧ i = 2 ∨ 94 ≤ a ∧ a ≤ 98 ∨ a = 119) by omega) rfl) (TP_f (fun a i z => F_n F27 (show ¬ (a = 0 ∨ 6 ≤ a ∧ a ≤ 76) by omega) rfl) jTP))
  have j_71 := (W9_f (fun a i z => F_n F48 (show ¬ (a = 77 ∧ i = 2 ∨ 94 ≤ a ∧ a ≤ 98 ∨ a = 119) by omega) rfl) (W9_f (fun a i z => F_n F27 (show ¬ (a = 0 ∨ 6 ≤ a ∧ a ≤ 76) by omega) rfl) jW9))
  exact h M50 (u5) (u6) ⟨⟨hG49, ⟨j_61, j_62, j_63, j_64⟩, ⟨j_65, j_66, j_67, j_68, j_69⟩, by omega, by omega⟩, j_70, j_71⟩ (by omega) (by omega)
set_option maxRecDepth 4000 in
set_option maxHeartbeats 0 in
theorem LW_27 {X : mm_X} {d L : Nat} {M : mm_M} {Q : Option Value → mm_M → Prop} {i : Int32} {u5 u6 : Value} (hX : g_X X) (hW : g_W X) (hL : (X 0).1 = L) (h3 : L ≤ 3072) (hd : 40 ≤ d) (hi : 0 ≤ i.toInt) (hi2 : i.toInt + 6 ≤ (L : Int)) (H : LI3 M) (h : ∀ (M1 : mm_M) (v5 v6 : Value), LI3 M1 → M1.1.2.1 ≤ M.1.2.1 + 1 → M1.1.2.2.1 ≤ M.1.2.2.1 + 6 → mm_T X d 0 1313 [.ref mm_ext, .ref 0, .ref 77, .ref 125, .int i, v5, v6] [] M1 Q) : mm_T X d 0 1202 [.ref mm_ext, .ref 0, .ref 77, .ref 125, .int i, u5, u6] [] M Q := by
  obtain ⟨⟨hG, ⟨jPI, jNI, jQI, jPQE⟩, ⟨jFA, jWC, jNJ, jPS, jKQ⟩, jJ, jE⟩, jTP, jW9⟩ := H
  have b_1 := g_b hG (a := 77) (i := 7) (lo := 0) (hi := 500) rfl rfl
  have b_2 := g_b hG (a := 77) (i := 6) (lo := 0) (hi := 500) rfl rfl
  have b_3 := g_b hG (a := 1) (i := 1) (lo := 0) (hi := 500) rfl rfl
  have b_4 := g_b hG (a := 77) (i := 1) (lo := 0) (hi := 500) rfl rfl
  refine to_an (pc := 1202) rw_0_1202 rfl ?_
  refine to_an (pc := 1203) rw_0_1203 rfl ?_
  refine to_i (pc := 1204) rw_0_1204 rfl ?_
  refine to_c (pc := 1206) rw_0_1206 (x := (1 : Int32)) rfl rfl ?_
  refine s_add (pc := 1207) rw_0_1207 (A := i.toInt) (B := 1) rfl rfl (by omega) (fun v5 e6 => ?_)
  refine s_x0 (pc := 1208) rw_0_1208 hL (A := v5.toInt) rfl (by omega) (by omega) (fun v7 e8 => ?_)
  refine to_an (pc := 1209) rw_0_1209 rfl ?_
  refine to_i (pc := 1210) rw_0_1210 rfl ?_
  refine to_c (pc := 1212) rw_0_1212 (x := (2 : Int32)) rfl rfl ?_
  refine s_add (pc := 1213) rw_0_1213 (A := i.toInt) (B := 2) rfl rfl (by omega) (fun v9 e10 => ?_)
  refine s_x0 (pc := 1214) rw_0_1214 hL (A := v9.toInt) rfl (by omega) (by omega) (fun v11 e12 => ?_)
  refine s_v (pc := 1215) rw_0_1215 (by omega) (ls0 := [.ref 0, .int v7, .int v11]) rfl (Nat.le_of_ble_eq_true rfl) (Nat.le_of_ble_eq_true rfl) rfl (to_rc rfl rfl rfl (g_o hG rfl)) rfl ?_
  obtain ⟨pz13, pzz13, qz13, qzz13, hpz13, hpzz13, hqz13, hqzz13, hpqz13⟩ := id jPQE
  refine C_136 hX (by omega) hG hpz13 hpzz13 hqz13 hqzz13 hpqz13 jNI jPI jQI (k := v7) (f := v11) (p := pz13) (pz := pzz13) (q := qz13) (qz := qzz13) (fun r14 M20 hG16 F15 p_17 p_18 p_19 => ?_)
  have n_21 : M20.1.2.1 = M.1.2.1 ∧ M20.1.2.2.1 = M.1.2.2.1 := by rw [F15.1]; exact ⟨rfl, rfl⟩
  refine to_popi (pc := 1218) rw_0_1218 ?_
  refine to_an (pc := 1219) rw_0_1219 rfl ?_
  refine to_an (pc := 1220) rw_0_1220 rfl ?_
  refine to_i (pc := 1221) rw_0_1221 rfl ?_
  refine to_c (pc := 1223) rw_0_1223 (x := (1 : Int32)) rfl rfl ?_
  refine s_addk (pc := 1224) rw_0_1224 (A := i.toInt) (B := 1) rfl rfl (by omega) (v := v5) e6 ?_
  refine s_x0k (pc := 1225) rw_0_1225 hL (A := v5.toInt) rfl (by omega) (by omega) (v := v7) e8 ?_
  refine to_an (pc := 1226) rw_0_1226 rfl ?_
  refine to_i (pc := 1227) rw_0_1227 rfl ?_
  refine to_c (pc := 1229) rw_0_1229 (x := (2 : Int32)) rfl rfl ?_
  refine s_addk (pc := 1230) rw_0_1230 (A := i.toInt) (B := 2) rfl rfl (by omega) (v := v9) e10 ?_
  refine s_x0k (pc := 1231) rw_0_1231 hL (A := v9.toInt) rfl (by omega) (by omega) (v := v11) e12 ?_
  refine s_v (pc := 1232) rw_0_1232 (by omega) (ls0 := [.ref 77, .int v7, .int v11, .null, .null, .null]) rfl (Nat.le_of_ble_eq_true rfl) (Nat.le_of_ble_eq_true rfl) rfl (to_rc rfl rfl rfl (g_o hG16 rfl)) rfl ?_
  have j_27 := (NJ_f (fun a i z => F_n F15 (show ¬ (a = 0 ∨ 6 ≤ a ∧ a ≤ 76) by omega) rfl) jNJ)
  refine C_242 hX (by omega) hG16 j_27 (p := v7) (f := v11) (fun r28 M31 hG30 F29 => ?_)
  have n_32 : M31.1.2.1 = M20.1.2.1 ∧ M31.1.2.2.1 = M20.1.2.2.1 := by rw [F29.1]; exact ⟨rfl, rfl⟩
  refine to_popi (pc := 1235) rw_0_1235 ?_
  refine to_go (pc := 1236) rw_0_1236 ?_
  have c_34 : M31.2.1 77 7 = (M.2.1 77 7) := (F_n F29 (show ¬ (77 = 77 ∧ 7 = 2 ∨ 94 ≤ 77 ∧ 77 ≤ 98 ∨ 77 = 120) by omega) (F_n F15 (show ¬ (77 = 0 ∨ 6 ≤ 77 ∧ 77 ≤ 76) by omega) rfl))
  have t_35 : (M31.2.1 77 7).toInt = (M.2.1 77 7).toInt := congrArg Int32.toInt c_34
  have c_36 : M31.2.1 77 6 = (M.2.1 77 6) := (F_n F29 (show ¬ (77 = 77 ∧ 6 = 2 ∨ 94 ≤ 77 ∧ 77 ≤ 98 ∨ 77 = 120) by omega) (F_n F15 (show ¬ (77 = 0 ∨ 6 ≤ 77 ∧ 77 ≤ 76) by omega) rfl))
  have t_37 : (M31.2.1 77 6).toInt = (M.2.1 77 6).toInt := congrArg Int32.toInt c_36
  have c_38 : M31.2.1 1 1 = (M.2.1 1 1) := (F_n F29 (show ¬ (1 = 77 ∧ 1 = 2 ∨ 94 ≤ 1 ∧ 1 ≤ 98 ∨ 1 = 120) by omega) (F_n F15 (show ¬ (1 = 0 ∨ 6 ≤ 1 ∧ 1 ≤ 76) by omega) rfl))
  have t_39 : (M31.2.1 1 1).toInt = (M.2.1 1 1).toInt := congrArg Int32.toInt c_38
  have c_40 : M31.2.1 77 1 = (M.2.1 77 1) := (F_n F29 (show ¬ (77 = 77 ∧ 1 = 2 ∨ 94 ≤ 77 ∧ 77 ≤ 98 ∨ 77 = 120) by omega) (F_n F15 (show ¬ (77 = 0 ∨ 6 ≤ 77 ∧ 77 ≤ 76) by omega) rfl))
  have t_41 : (M31.2.1 77 1).toInt = (M.2.1 77 1).toInt := congrArg Int32.toInt c_40
  have j_42 := (PI_f (fun a i z => F_n F29 (show ¬ (a = 77 ∧ i = 2 ∨ 94 ≤ a ∧ a ≤ 98 ∨ a = 120) by omega) rfl) p_17)
  have j_43 := (NI_f (fun a i z => F_n F29 (show ¬ (a = 77 ∧ i = 2 ∨ 94 ≤ a ∧ a ≤ 98 ∨ a = 120) by omega) rfl) p_18)
  have j_44 := (QI_f (fun a i z => F_n F29 (show ¬ (a = 77 ∧ i = 2 ∨ 94 ≤ a ∧ a ≤ 98 ∨ a = 120) by omega) rfl) p_19)
  have j_45 := (PQE_r F29.2.1 (PQE_r F15.2.1 jPQE))
  have j_46 := (FA_f (fun a i z => F_n F29 (show ¬ (a = 77 ∧ i = 2 ∨ 94 ≤ a ∧ a ≤ 98 ∨ a = 120) by omega) rfl) (FA_f (fun a i z => F_n F15 (show ¬ (a = 0 ∨ 6 ≤ a ∧ a ≤ 76) by omega) rfl) jFA))
  have j_47 := (WC_f (fun a i z => F_n F29 (show ¬ (a = 77 ∧ i = 2 ∨ 94 ≤ a ∧ a ≤ 98 ∨ a = 120) by omega) rfl) (WC_f (fun a i z => F_n F15 (show ¬ (a = 0 ∨ 6 ≤ a ∧ a ≤ 76) by omega) rfl) jWC))
  have j_48 := (NJ_f (fun a i z => F_n F29 (show ¬ (a = 77 ∧ i = 2 ∨ 94 ≤ a ∧ a ≤ 98 ∨ a = 120) by omega) rfl) j_27)
  have j_49 := (PS_f (fun a i z => F_n F29 (show ¬ (a = 77 ∧ i = 2 ∨ 94 ≤ a ∧ a ≤ 98 ∨ a = 120) by omega) rfl) (PS_f (fun a i z => F_n F15 (show ¬ (a = 0 ∨ 6 ≤ a ∧ a ≤ 76) by omega) rfl) jPS))
  have j_50 := (KQ_f (fun a i z => F_n F29 (show ¬ (a = 77 ∧ i = 2 ∨ 94 ≤ a ∧ a ≤ 98 ∨ a = 120) by omega) rfl) (KQ_f (fun a i z => F_n F15 (show ¬ (a = 0 ∨ 6 ≤ a ∧ a ≤ 76) by omega) rfl) jKQ))
  have j_51 := (TP_f (fun a i z => F_n F29 (show ¬ (a = 77 ∧ i = 2 ∨ 94 ≤ a ∧ a ≤ 98 ∨ a = 120) by omega) rfl) (TP_f (fun a i z => F_n F15 (show ¬ (a = 0 ∨ 6 ≤ a ∧ a ≤ 76) by omega) rfl) jTP))
  have j_52 := (W9_f (fun a i z => F_n F29 (show ¬ (a = 77 ∧ i = 2 ∨ 94 ≤ a ∧ a ≤ 98 ∨ a = 120) by omega) rfl) (W9_f (fun a i z => F_n F15 (show ¬ (a = 0 ∨ 6 ≤ a ∧ a ≤ 76) by omega) rfl) jW9))
  exact h M31 (u5) (u6) ⟨⟨hG30, ⟨j_42, j_43, j_44, j_45⟩, ⟨j_46, j_47, j_48, j_49, j_50⟩, by omega, by omega⟩, j_51, j_52⟩ (by omega) (by omega)
set_option maxRecDepth 4000 in
set_option maxHeartbeats 0 in
theorem LW_28 {X : mm_X} {d L : Nat} {M : mm_M} {Q : Option Value → mm_M → Prop} {i : Int32} {u5 u6 : Value} (hX : g_X X) (hW : g_W X) (hL : (X 0).1 = L) (h3 : L ≤ 3072) (hd : 40 ≤ d) (hi : 0 ≤ i.toInt) (hi2 : i.toInt + 6 ≤ (L : Int)) (H : LI3 M) (h : ∀ (M1 : mm_M) (v5 v6 : Value), LI3 M1 → M1.1.2.1 ≤ M.1.2.1 + 1 → M1.1.2.2.1 ≤ M.1.2.2.1 + 6 → mm_T X d 0 1313 [.ref mm_ext, .ref 0, .ref 77, .ref 125, .int i, v5, v6] [] M1 Q) : mm_T X d 0 1239 [.ref mm_ext, .ref 0, .ref 77, .ref 125, .int i, u5, u6] [] M Q := by
  obtain ⟨⟨hG, ⟨jPI, jNI, jQI, jPQE⟩, ⟨jFA, jWC, jNJ, jPS, jKQ⟩, jJ, jE⟩, jTP, jW9⟩ := H
  have b_1 := g_b hG (a := 77) (i := 7) (lo := 0) (hi := 500) rfl rfl
  have b_2 := g_b hG (a := 77) (i := 6) (lo := 0) (hi := 500) rfl rfl
  have b_3 := g_b hG (a := 1) (i := 1) (lo := 0) (hi := 500) rfl rfl
  have b_4 := g_b hG (a := 77) (i := 1) (lo := 0) (hi := 500) rfl rfl
  refine to_an (pc := 1239) rw_0_1239 rfl ?_
  refine to_an (pc := 1240) rw_0_1240 rfl ?_
  refine to_i (pc := 1241) rw_0_1241 rfl ?_
  refine to_c (pc := 1243) rw_0_1243 (x := (1 : Int32)) rfl rfl ?_
  refine s_add (pc := 1244) rw_0_1244 (A := i.toInt) (B := 1) rfl rfl (by omega) (fun v5 e6 => ?_)
  refine s_x0 (pc := 1245) rw_0_1245 hL (A := v5.toInt) rfl (by omega) (by omega) (fun v7 e8 => ?_)
  refine to_an (pc := 1246) rw_0_1246 rfl ?_
  refine to_i (pc := 1247) rw_0_1247 rfl ?_
  refine to_c (pc := 1249) rw_0_1249 (x := (2 : Int32)) rfl rfl ?_
  refine s_add (pc := 1250) rw_0_1250 (A := i.toInt) (B := 2) rfl rfl (by omega) (fun v9 e10 => ?_)
  refine s_x0 (pc := 1251) rw_0_1251 hL (A := v9.toInt) rfl (by omega) (by omega) (fun v11 e12 => ?_)
  refine to_an (pc := 1252) rw_0_1252 rfl ?_
  refine to_i (pc := 1253) rw_0_1253 rfl ?_
  refine to_c (pc := 1255) rw_0_1255 (x := (3 : Int32)) rfl rfl ?_
  refine s_add (pc := 1256) rw_0_1256 (A := i.toInt) (B := 3) rfl rfl (by omega) (fun v13 e14 => ?_)
  refine s_x0 (pc := 1257) rw_0_1257 hL (A := v13.toInt) rfl (by omega) (by omega) (fun v15 e16 => ?_)
  refine s_v (pc := 1258) rw_0_1258 (by omega) (ls0 := [.ref 0, .int v7, .int v11, .int v15]) rfl (Nat.le_of_ble_eq_true rfl) (Nat.le_of_ble_eq_true rfl) rfl (to_rc rfl rfl rfl (g_o hG rfl)) rfl ?_
  obtain ⟨pz17, pzz17, qz17, qzz17, hpz17, hpzz17, hqz17, hqzz17, hpqz17⟩ := id jPQE
  refine C_137 hX (by omega) hG hpz17 hpzz17 hqz17 hqzz17 hpqz17 jNI jPI jQI (k := v7) (f := v11) (w := v15) (p := pz17) (pz := pzz17) (q := qz17) (qz := qzz17) (fun r18 M24 hG20 F19 p_21 p_22 p_23 => ?_)
  have n_25 : M24.1.2.1 = M.1.2.1 ∧ M24.1.2.2.1 = M.1.2.2.1 := by rw [F19.1]; exact ⟨rfl, rfl⟩
  refine to_popi (pc := 1261) rw_0_1261 ?_
  refine to_an (pc := 1262) rw_0_1262 rfl ?_
  refine to_an (pc := 1263) rw_0_1263 rfl ?_
  refine to_i (pc := 1264) rw_0_1264 rfl ?_
  refine to_c (pc := 1266) rw_0_1266 (x := (1 : Int32)) rfl rfl ?_
  refine s_addk (pc := 1267) rw_0_1267 (A := i.toInt) (B := 1) rfl rfl (by omega) (v := v5) e6 ?_
  refine s_x0k (pc := 1268) rw_0_1268 hL (A := v5.toInt) rfl (by omega) (by omega) (v := v7) e8 ?_
  refine to_an (pc := 1269) rw_0_1269 rfl ?_
  refine to_i (pc := 1270) rw_0_1270 rfl ?_
  refine to_c (pc := 1272) rw_0_1272 (x := (2 : Int32)) rfl rfl ?_
  refine s_addk (pc := 1273) rw_0_1273 (A := i.toInt) (B := 2) rfl rfl (by omega) (v := v9) e10 ?_
  refine s_x0k (pc := 1274) rw_0_1274 hL (A := v9.toInt) rfl (by omega) (by omega) (v := v11) e12 ?_
  refine to_an (pc := 1275) rw_0_1275 rfl ?_
  refine to_i (pc := 1276) rw_0_1276 rfl ?_
  refine to_c (pc := 1278) rw_0_1278 (x := (3 : Int32)) rfl rfl ?_
  refine s_addk (pc := 1279) rw_0_1279 (A := i.toInt) (B := 3) rfl rfl (by omega) (v := v13) e14 ?_
  refine s_x0k (pc := 1280) rw_0_1280 hL (A := v13.toInt) rfl (by omega) (by omega) (v := v15) e16 ?_
  refine s_v (pc := 1281) rw_0_1281 (by omega) (ls0 := [.ref 77, .int v7, .int v11, .int v15, .null, .null, .null]) rfl (Nat.le_of_ble_eq_true rfl) (Nat.le_of_ble_eq_true rfl) rfl (to_rc rfl rfl rfl (g_o hG20 rfl)) rfl ?_
  have j_33 := (NJ_f (fun a i z => F_n F19 (show ¬ (a = 0 ∨ 6 ≤ a ∧ a ≤ 76) by omega) rfl) jNJ)
  have j_34 := (FA_f (fun a i z => F_n F19 (show ¬ (a = 0 ∨ 6 ≤ a ∧ a ≤ 76) by omega) rfl) jFA)
  refine C_245 hX (by omega) hG20 j_33 j_34 (p := v7) (f := v11) (w := v15) (fun r35 M38 hG37 F36 => ?_)
  have n_39 : M38.1.2.1 = M24.1.2.1 ∧ M38.1.2.2.1 = M24.1.2.2.1 := by rw [F36.1]; exact ⟨rfl, rfl⟩
  refine to_popi (pc := 1284) rw_0_1284 ?_
  refine to_go (pc := 1285) rw_0_1285 ?_
  have c_41 : M38.2.1 77 7 = (M.2.1 77 7) := (F_n F36 (show ¬ (77 = 77 ∧ 7 = 2 ∨ 94 ≤ 77 ∧ 77 ≤ 98 ∨ 121 ≤ 77 ∧ 77 ≤ 124) by omega) (F_n F19 (show ¬ (77 = 0 ∨ 6 ≤ 77 ∧ 77 ≤ 76) by omega) rfl))
  have t_42 : (M38.2.1 77 7).toInt = (M.2.1 77 7).toInt := congrArg Int32.toInt c_41
  have c_43 : M38.2.1 77 6 = (M.2.1 77 6) := (F_n F36 (show ¬ (77 = 77 ∧ 6 = 2 ∨ 94 ≤ 77 ∧ 77 ≤ 98 ∨ 121 ≤ 77 ∧ 77 ≤ 124) by omega) (F_n F19 (show ¬ (77 = 0 ∨ 6 ≤ 77 ∧ 77 ≤ 76) by omega) rfl))
  have t_44 : (M38.2.1 77 6).toInt = (M.2.1 77 6).toInt := congrArg Int32.toInt c_43
  have c_45 : M38.2.1 1 1 = (M.2.1 1 1) := (F_n F36 (show ¬ (1 = 77 ∧ 1 = 2 ∨ 94 ≤ 1 ∧ 1 ≤ 98 ∨ 121 ≤ 1 ∧ 1 ≤ 124) by omega) (F_n F19 (show ¬ (1 = 0 ∨ 6 ≤ 1 ∧ 1 ≤ 76) by omega) rfl))
  have t_46 : (M38.2.1 1 1).toInt = (M.2.1 1 1).toInt := congrArg Int32.toInt c_45
  have c_47 : M38.2.1 77 1 = (M.2.1 77 1) := (F_n F36 (show ¬ (77 = 77 ∧ 1 = 2 ∨ 94 ≤ 77 ∧ 77 ≤ 98 ∨ 121 ≤ 77 ∧ 77 ≤ 124) by omega) (F_n F19 (show ¬ (77 = 0 ∨ 6 ≤ 77 ∧ 77 ≤ 76) by omega) rfl))
  have t_48 : (M38.2.1 77 1).toInt = (M.2.1 77 1).toInt := congrArg Int32.toInt c_47
  have j_49 := (PI_f (fun a i z => F_n F36 (show ¬ (a = 77 ∧ i = 2 ∨ 94 ≤ a ∧ a ≤ 98 ∨ 121 ≤ a ∧ a ≤ 124) by omega) rfl) p_21)
  have j_50 := (NI_f (fun a i z => F_n F36 (show ¬ (a = 77 ∧ i = 2 ∨ 94 ≤ a ∧ a ≤ 98 ∨ 121 ≤ a ∧ a ≤ 124) by omega) rfl) p_22)
  have j_51 := (QI_f (fun a i z => F_n F36 (show ¬ (a = 77 ∧ i = 2 ∨ 94 ≤ a ∧ a ≤ 98 ∨ 121 ≤ a ∧ a ≤ 124) by omega) rfl) p_23)
  have j_52 := (PQE_r F36.2.1 (PQE_r F19.2.1 jPQE))
  have j_53 := (FA_f (fun a i z => F_n F36 (show ¬ (a = 77 ∧ i = 2 ∨ 94 ≤ a ∧ a ≤ 98 ∨ 121 ≤ a ∧ a ≤ 124) by omega) rfl) j_34)
  have j_54 := (WC_f (fun a i z => F_n F36 (show ¬ (a = 77 ∧ i = 2 ∨ 94 ≤ a ∧ a ≤ 98 ∨ 121 ≤ a ∧ a ≤ 124) by omega) rfl) (WC_f (fun a i z => F_n F19 (show ¬ (a = 0 ∨ 6 ≤ a ∧ a ≤ 76) by omega) rfl) jWC))
  have j_55 := (NJ_f (fun a i z => F_n F36 (show ¬ (a = 77 ∧ i = 2 ∨ 94 ≤ a ∧ a ≤ 98 ∨ 121 ≤ a ∧ a ≤ 124) by omega) rfl) j_33)
  have j_56 := (PS_f (fun a i z => F_n F36 (show ¬ (a = 77 ∧ i = 2 ∨ 94 ≤ a ∧ a ≤ 98 ∨ 121 ≤ a ∧ a ≤ 124) by omega) rfl) (PS_f (fun a i z => F_n F19 (show ¬ (a = 0 ∨ 6 ≤ a ∧ a ≤ 76) by omega) rfl) jPS))
  have j_57 := (KQ_f (fun a i z => F_n F36 (show ¬ (a = 77 ∧ i = 2 ∨ 94 ≤ a ∧ a ≤ 98 ∨ 121 ≤ a ∧ a ≤ 124) by omega) rfl) (KQ_f (fun a i z => F_n F19 (show ¬ (a = 0 ∨ 6 ≤ a ∧ a ≤ 76) by omega) rfl) jKQ))
  have j_58 := (TP_f (fun a i z => F_n F36 (show ¬ (a = 77 ∧ i = 2 ∨ 94 ≤ a ∧ a ≤ 98 ∨ 121 ≤ a ∧ a ≤ 124) by omega) rfl) (TP_f (fun a i z => F_n F19 (show ¬ (a = 0 ∨ 6 ≤ a ∧ a ≤ 76) by omega) rfl) jTP))
  have j_59 := (W9_f (fun a i z => F_n F36 (show ¬ (a = 77 ∧ i = 2 ∨ 94 ≤ a ∧ a ≤ 98 ∨ 121 ≤ a ∧ a ≤ 124) by omega) rfl) (W9_f (fun a i z => F_n F19 (show ¬ (a = 0 ∨ 6 ≤ a ∧ a ≤ 76) by omega) rfl) jW9))
  exact h M38 (u5) (u6) ⟨⟨hG37, ⟨j_49, j_50, j_51, j_52⟩, ⟨j_53, j_54, j_55, j_56, j_57⟩, by omega, by omega⟩, j_58, j_59⟩ (by omega) (by omega)
set_option maxRecDepth 4000 in
set_option maxHeartbeats 0 in
theorem LW_29 {X : mm_X} {d L : Nat} {M : mm_M} {Q : Option Value → mm_M → Prop} {i : Int32} {u5 u6 : Value} (hX : g_X X) (hW : g_W X) (hL : (X 0).1 = L) (h3 : L ≤ 3072) (hd : 40 ≤ d) (hi : 0 ≤ i.toInt) (hi2 : i.toInt + 6 ≤ (L : Int)) (H : LI3 M) (h : ∀ (M1 : mm_M) (v5 v6 : Value), LI3 M1 → M1.1.2.1 ≤ M.1.2.1 + 1 → M1.1.2.2.1 ≤ M.1.2.2.1 + 6 → mm_T X d 0 1313 [.ref mm_ext, .ref 0, .ref 77, .ref 125, .int i, v5, v6] [] M1 Q) : mm_T X d 0 1288 [.ref mm_ext, .ref 0, .ref 77, .ref 125, .int i, u5, u6] [] M Q := by
  obtain ⟨⟨hG, ⟨jPI, jNI, jQI, jPQE⟩, ⟨jFA, jWC, jNJ, jPS, jKQ⟩, jJ, jE⟩, jTP, jW9⟩ := H
  have b_1 := g_b hG (a := 77) (i := 7) (lo := 0) (hi := 500) rfl rfl
  have b_2 := g_b hG (a := 77) (i := 6) (lo := 0) (hi := 500) rfl rfl
  have b_3 := g_b hG (a := 1) (i := 1) (lo := 0) (hi := 500) rfl rfl
  have b_4 := g_b hG (a := 77) (i := 1) (lo := 0) (hi := 500) rfl rfl
  refine to_an (pc := 1288) rw_0_1288 rfl ?_
  refine to_an (pc := 1289) rw_0_1289 rfl ?_
  refine to_i (pc := 1290) rw_0_1290 rfl ?_
  refine to_c (pc := 1292) rw_0_1292 (x := (1 : Int32)) rfl rfl ?_
  refine s_add (pc := 1293) rw_0_1293 (A := i.toInt) (B := 1) rfl rfl (by omega) (fun v5 e6 => ?_)
  refine s_x0 (pc := 1294) rw_0_1294 hL (A := v5.toInt) rfl (by omega) (by omega) (fun v7 e8 => ?_)
  refine s_v (pc := 1295) rw_0_1295 (by omega) (ls0 := [.ref 0, .int v7]) rfl (Nat.le_of_ble_eq_true rfl) (Nat.le_of_ble_eq_true rfl) rfl (to_rc rfl rfl rfl (g_o hG rfl)) rfl ?_
  obtain ⟨pz9, pzz9, qz9, qzz9, hpz9, hpzz9, hqz9, hqzz9, hpqz9⟩ := id jPQE
  refine C_138 hX (by omega) hG hpz9 hpzz9 hqz9 hqzz9 hpqz9 (w := v7) (p := pz9) (pz := pzz9) (q := qz9) (qz := qzz9) (fun r10 M13 hG12 F11 => ?_)
  have n_14 : M13.1.2.1 = M.1.2.1 ∧ M13.1.2.2.1 = M.1.2.2.1 := by rw [F11.1]; exact ⟨rfl, rfl⟩
  refine to_popi (pc := 1298) rw_0_1298 ?_
  refine to_an (pc := 1299) rw_0_1299 rfl ?_
  refine to_an (pc := 1300) rw_0_1300 rfl ?_
  refine to_i (pc := 1301) rw_0_1301 rfl ?_
  refine to_c (pc := 1303) rw_0_1303 (x := (1 : Int32)) rfl rfl ?_
  refine s_addk (pc := 1304) rw_0_1304 (A := i.toInt) (B := 1) rfl rfl (by omega) (v := v5) e6 ?_
  refine s_x0k (pc := 1305) rw_0_1305 hL (A := v5.toInt) rfl (by omega) (by omega) (v := v7) e8 ?_
  refine s_v (pc := 1306) rw_0_1306 (by omega) (ls0 := [.ref 77, .int v7]) rfl (Nat.le_of_ble_eq_true rfl) (Nat.le_of_ble_eq_true rfl) rfl (to_rc rfl rfl rfl (g_o hG12 rfl)) rfl ?_
  refine C_246 hX (by omega) hG12 (w := v7) (fun r18 M21 hG20 F19 => ?_)
  have n_22 : M21.1.2.1 = M13.1.2.1 ∧ M21.1.2.2.1 = M13.1.2.2.1 := by rw [F19.1]; exact ⟨rfl, rfl⟩
  refine to_popi (pc := 1309) rw_0_1309 ?_
  refine to_go (pc := 1310) rw_0_1310 ?_
  have c_24 : M21.2.1 77 7 = (M.2.1 77 7) := (F_n F19 (show ¬ (77 = 77 ∧ 7 = 2) by omega) (F_n F11 (show ¬ (77 < 0) by omega) rfl))
  have t_25 : (M21.2.1 77 7).toInt = (M.2.1 77 7).toInt := congrArg Int32.toInt c_24
  have c_26 : M21.2.1 77 6 = (M.2.1 77 6) := (F_n F19 (show ¬ (77 = 77 ∧ 6 = 2) by omega) (F_n F11 (show ¬ (77 < 0) by omega) rfl))
  have t_27 : (M21.2.1 77 6).toInt = (M.2.1 77 6).toInt := congrArg Int32.toInt c_26
  have c_28 : M21.2.1 1 1 = (M.2.1 1 1) := (F_n F19 (show ¬ (1 = 77 ∧ 1 = 2) by omega) (F_n F11 (show ¬ (1 < 0) by omega) rfl))
  have t_29 : (M21.2.1 1 1).toInt = (M.2.1 1 1).toInt := congrArg Int32.toInt c_28
  have c_30 : M21.2.1 77 1 = (M.2.1 77 1) := (F_n F19 (show ¬ (77 = 77 ∧ 1 = 2) by omega) (F_n F11 (show ¬ (77 < 0) by omega) rfl))
  have t_31 : (M21.2.1 77 1).toInt = (M.2.1 77 1).toInt := congrArg Int32.toInt c_30
  have j_32 := (PI_f (fun a i z => F_n F19 (show ¬ (a = 77 ∧ i = 2) by omega) rfl) (PI_f (fun a i z => F_n F11 (show ¬ (a < 0) by omega) rfl) jPI))
  have j_33 := (NI_f (fun a i z => F_n F19 (show ¬ (a = 77 ∧ i = 2) by omega) rfl) (NI_f (fun a i z => F_n F11 (show ¬ (a < 0) by omega) rfl) jNI))
  have j_34 := (QI_f (fun a i z => F_n F19 (show ¬ (a = 77 ∧ i = 2) by omega) rfl) (QI_f (fun a i z => F_n F11 (show ¬ (a < 0) by omega) rfl) jQI))
  have j_35 := (PQE_r F19.2.1 (PQE_r F11.2.1 jPQE))
  have j_36 := (FA_f (fun a i z => F_n F19 (show ¬ (a = 77 ∧ i = 2) by omega) rfl) (FA_f (fun a i z => F_n F11 (show ¬ (a < 0) by omega) rfl) jFA))
  have j_37 := (WC_f (fun a i z => F_n F19 (show ¬ (a = 77 ∧ i = 2) by omega) rfl) (WC_f (fun a i z => F_n F11 (show ¬ (a < 0) by omega) rfl) jWC))
  have j_38 := (NJ_f (fun a i z => F_n F19 (show ¬ (a = 77 ∧ i = 2) by omega) rfl) (NJ_f (fun a i z => F_n F11 (show ¬ (a < 0) by omega) rfl) jNJ))
  have j_39 := (PS_f (fun a i z => F_n F19 (show ¬ (a = 77 ∧ i = 2) by omega) rfl) (PS_f (fun a i z => F_n F11 (show ¬ (a < 0) by omega) rfl) jPS))
  have j_40 := (KQ_f (fun a i z => F_n F19 (show ¬ (a = 77 ∧ i = 2) by omega) rfl) (KQ_f (fun a i z => F_n F11 (show ¬ (a < 0) by omega) rfl) jKQ))
  have j_41 := (TP_f (fun a i z => F_n F19 (show ¬ (a = 77 ∧ i = 2) by omega) rfl) (TP_f (fun a i z => F_n F11 (show ¬ (a < 0) by omega) rfl) jTP))
  have j_42 := (W9_f (fun a i z => F_n F19 (show ¬ (a = 77 ∧ i = 2) by omega) rfl) (W9_f (fun a i z => F_n F11 (show ¬ (a < 0) by omega) rfl) jW9))
  exact h M21 (u5) (u6) ⟨⟨hG20, ⟨j_32, j_33, j_34, j_35⟩, ⟨j_36, j_37, j_38, j_39, j_40⟩, by omega, by omega⟩, j_41, j_42⟩ (by omega) (by omega)
