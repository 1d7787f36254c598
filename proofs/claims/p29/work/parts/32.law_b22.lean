set_option maxRecDepth 4000 in
set_option maxHeartbeats 0 in
theorem LW_22 {X : mm_X} {d L : Nat} {M : mm_M} {Q : Option Value → mm_M → Prop} {i : Int32} {u5 u6 : Value} (hX : g_X X) (hW : g_W X) (hW2 : g_W2 X) (hL : (X 0).1 = L) (h3 : L ≤ 3072) (hd : 40 ≤ d) (hi : 0 ≤ i.toInt) (hi2 : i.toInt + 6 ≤ (L : Int)) (H : LI10 M) (h : ∀ (M1 : mm_M) (v5 v6 : Value), LI10 M1 → M1.1.2.1 ≤ M.1.2.1 + 1 → M1.1.2.2.1 ≤ M.1.2.2.1 + 6 → mm_T X d 0 1313 [.ref mm_ext, .ref 0, .ref 77, .ref 125, .int i, v5, v6] [] M1 Q) : mm_T X d 0 969 [.ref mm_ext, .ref 0, .ref 77, .ref 125, .int i, u5, u6] [] M Q := by
  obtain ⟨⟨⟨⟨⟨⟨⟨⟨⟨hG, ⟨jPI, jNI, jQI, jPQE⟩, ⟨jFA, jWC, jNJ, jPS, jKQ⟩, jJ, jE⟩, jTP, jW9⟩, jNE, jCC⟩, -⟩, jOV⟩, jW8⟩, jNN⟩, jAN⟩, jG8, jPKA⟩ := H
  have b_1 := g_b hG (a := 77) (i := 7) (lo := 0) (hi := 500) rfl rfl
  have b_2 := g_b hG (a := 77) (i := 6) (lo := 0) (hi := 500) rfl rfl
  have b_3 := g_b hG (a := 1) (i := 1) (lo := 0) (hi := 500) rfl rfl
  have b_4 := g_b hG (a := 77) (i := 1) (lo := 0) (hi := 500) rfl rfl
  have b_5 := g_b hG (a := 0) (i := 12) (lo := 0) (hi := 30) rfl rfl
  have b_6 := g_b hG (a := 77) (i := 28) (lo := 0) (hi := 30) rfl rfl
  have b_7 := g_b hG (a := 6) (i := 0) (lo := 0) (hi := 150) rfl rfl
  have b_8 := g_b hG (a := 77) (i := 29) (lo := 0) (hi := 150) rfl rfl
  refine to_an (pc := 969) rw_0_969 rfl (to_an (pc := 970) rw_0_970 rfl (to_i (pc := 971) rw_0_971 rfl (to_c (pc := 973) rw_0_973 (x := (1 : Int32)) rfl rfl (s_add (pc := 974) rw_0_974 (A := i.toInt) (B := 1) rfl rfl (by omega) (fun v9 e10 => s_x0 (pc := 975) rw_0_975 hL (A := v9.toInt) rfl (by omega) (by omega) (fun v11 e12 => to_an (pc := 976) rw_0_976 rfl (to_i (pc := 977) rw_0_977 rfl (to_c (pc := 979) rw_0_979 (x := (2 : Int32)) rfl rfl (s_add (pc := 980) rw_0_980 (A := i.toInt) (B := 2) rfl rfl (by omega) (fun v13 e14 => s_x0 (pc := 981) rw_0_981 hL (A := v13.toInt) rfl (by omega) (by omega) (fun v15 e16 => s_v (pc := 982) rw_0_982 (dp0 hd (by decide)) (ls0 := [.ref 0, .int v11, .int v15, .null, .null]) rfl (Nat.le_of_ble_eq_true rfl) (Nat.le_of_ble_eq_true rfl) rfl (to_rc rfl rfl rfl (g_o hG rfl)) rfl ?_)))))))))))
  obtain ⟨pz17, pzz17, qz17, qzz17, hpz17, hpzz17, hqz17, hqzz17, hpqz17⟩ := id jPQE
  refine C_131 hX (dp1 hd (by decide)) hG hpz17 hpzz17 hqz17 hqzz17 hpqz17 jNI jQI (n := v11) (w := v15) (p := pz17) (pz := pzz17) (q := qz17) (qz := qzz17) (fun r18 M21 hG20 F19 => ?_)
  have n_22 : M21.1.2.1 = M.1.2.1 ∧ M21.1.2.2.1 = M.1.2.2.1 := by rw [F19.1]; exact ⟨rfl, rfl⟩
  refine to_popi (pc := 985) rw_0_985 (to_an (pc := 986) rw_0_986 rfl (to_an (pc := 987) rw_0_987 rfl (to_i (pc := 988) rw_0_988 rfl (to_c (pc := 990) rw_0_990 (x := (1 : Int32)) rfl rfl (s_addk (pc := 991) rw_0_991 (A := i.toInt) (B := 1) rfl rfl (by (first | (clear hpz17 hpzz17 hqz17 hqzz17; omega) | (clear hpz17 hpzz17 hqz17; omega) | omega)) (v := v9) e10 (s_x0k (pc := 992) rw_0_992 hL (A := v9.toInt) rfl (by (first | (clear hpz17 hpzz17 hqz17 hqzz17; omega) | (clear hpz17 hpzz17 hqz17; omega) | omega)) (by (first | (clear hpz17 hpzz17 hqz17 hqzz17; omega) | (clear hpz17 hpzz17 hqz17; omega) | omega)) (v := v11) e12 (to_an (pc := 993) rw_0_993 rfl (to_i (pc := 994) rw_0_994 rfl (to_c (pc := 996) rw_0_996 (x := (2 : Int32)) rfl rfl (s_addk (pc := 997) rw_0_997 (A := i.toInt) (B := 2) rfl rfl (by (first | (clear hpz17 hpzz17 hqz17 hqzz17; omega) | (clear hpz17 hpzz17 hqz17; omega) | omega)) (v := v13) e14 (s_x0k (pc := 998) rw_0_998 hL (A := v13.toInt) rfl (by (first | (clear hpz17 hpzz17 hqz17 hqzz17; omega) | (clear hpz17 hpzz17 hqz17; omega) | omega)) (by (first | (clear hpz17 hpzz17 hqz17 hqzz17; omega) | (clear hpz17 hpzz17 hqz17; omega) | omega)) (v := v15) e16 ?_)))))))))))
  refine s_v (pc := 999) rw_0_999 (dp0 hd (by decide)) (ls0 := [.ref 77, .int v11, .int v15, .null, .null, .null]) rfl (Nat.le_of_ble_eq_true rfl) (Nat.le_of_ble_eq_true rfl) rfl (to_rc rfl rfl rfl (g_o hG20 rfl)) rfl ?_
  have j_28 := (NJ_f (tg_680 F19) jNJ)
  have j_29 := (KQ_f (tg_681 F19) jKQ)
  refine C_229 hX (dp1 hd (by decide)) hG20 j_28 j_29 (n := v11) (w := v15) (fun r30 M33 hG32 F31 => ?_)
  have n_34 : M33.1.2.1 = M21.1.2.1 ∧ M33.1.2.2.1 = M21.1.2.2.1 := by rw [F31.1]; exact ⟨rfl, rfl⟩
  refine to_popi (pc := 1002) rw_0_1002 (to_go (pc := 1003) rw_0_1003 ?_)
  have c_36 : M33.2.1 77 7 = (M.2.1 77 7) := (F_n F31 (show ¬ (77 = 77 ∧ 7 = 2 ∨ 94 ≤ 77 ∧ 77 ≤ 98 ∨ 77 = 117) by decide) (F_n F19 (show ¬ (11 ≤ 77 ∧ 77 ≤ 16 ∨ 77 = 71 ∨ 77 = 76) by decide) rfl))
  have t_37 : (M33.2.1 77 7).toInt = (M.2.1 77 7).toInt := congrArg Int32.toInt c_36
  have c_38 : M33.2.1 77 6 = (M.2.1 77 6) := (F_n F31 (show ¬ (77 = 77 ∧ 6 = 2 ∨ 94 ≤ 77 ∧ 77 ≤ 98 ∨ 77 = 117) by decide) (F_n F19 (show ¬ (11 ≤ 77 ∧ 77 ≤ 16 ∨ 77 = 71 ∨ 77 = 76) by decide) rfl))
  have t_39 : (M33.2.1 77 6).toInt = (M.2.1 77 6).toInt := congrArg Int32.toInt c_38
  have c_40 : M33.2.1 1 1 = (M.2.1 1 1) := (F_n F31 (show ¬ (1 = 77 ∧ 1 = 2 ∨ 94 ≤ 1 ∧ 1 ≤ 98 ∨ 1 = 117) by decide) (F_n F19 (show ¬ (11 ≤ 1 ∧ 1 ≤ 16 ∨ 1 = 71 ∨ 1 = 76) by decide) rfl))
  have t_41 : (M33.2.1 1 1).toInt = (M.2.1 1 1).toInt := congrArg Int32.toInt c_40
  have c_42 : M33.2.1 77 1 = (M.2.1 77 1) := (F_n F31 (show ¬ (77 = 77 ∧ 1 = 2 ∨ 94 ≤ 77 ∧ 77 ≤ 98 ∨ 77 = 117) by decide) (F_n F19 (show ¬ (11 ≤ 77 ∧ 77 ≤ 16 ∨ 77 = 71 ∨ 77 = 76) by decide) rfl))
  have t_43 : (M33.2.1 77 1).toInt = (M.2.1 77 1).toInt := congrArg Int32.toInt c_42
  have c_44 : M33.2.1 0 12 = (M.2.1 0 12) := (F_n F31 (show ¬ (0 = 77 ∧ 12 = 2 ∨ 94 ≤ 0 ∧ 0 ≤ 98 ∨ 0 = 117) by decide) (F_n F19 (show ¬ (11 ≤ 0 ∧ 0 ≤ 16 ∨ 0 = 71 ∨ 0 = 76) by decide) rfl))
  have t_45 : (M33.2.1 0 12).toInt = (M.2.1 0 12).toInt := congrArg Int32.toInt c_44
  have c_46 : M33.2.1 77 28 = (M.2.1 77 28) := (F_n F31 (show ¬ (77 = 77 ∧ 28 = 2 ∨ 94 ≤ 77 ∧ 77 ≤ 98 ∨ 77 = 117) by decide) (F_n F19 (show ¬ (11 ≤ 77 ∧ 77 ≤ 16 ∨ 77 = 71 ∨ 77 = 76) by decide) rfl))
  have t_47 : (M33.2.1 77 28).toInt = (M.2.1 77 28).toInt := congrArg Int32.toInt c_46
  have c_48 : M33.2.1 17 4 = (M.2.1 17 4) := (F_n F31 (show ¬ (17 = 77 ∧ 4 = 2 ∨ 94 ≤ 17 ∧ 17 ≤ 98 ∨ 17 = 117) by decide) (F_n F19 (show ¬ (11 ≤ 17 ∧ 17 ≤ 16 ∨ 17 = 71 ∨ 17 = 76) by decide) rfl))
  have t_49 : (M33.2.1 17 4).toInt = (M.2.1 17 4).toInt := congrArg Int32.toInt c_48
  have c_50 : M33.2.1 77 41 = (M.2.1 77 41) := (F_n F31 (show ¬ (77 = 77 ∧ 41 = 2 ∨ 94 ≤ 77 ∧ 77 ≤ 98 ∨ 77 = 117) by decide) (F_n F19 (show ¬ (11 ≤ 77 ∧ 77 ≤ 16 ∨ 77 = 71 ∨ 77 = 76) by decide) rfl))
  have t_51 : (M33.2.1 77 41).toInt = (M.2.1 77 41).toInt := congrArg Int32.toInt c_50
  have c_52 : M33.2.1 6 0 = (M.2.1 6 0) := (F_n F31 (show ¬ (6 = 77 ∧ 0 = 2 ∨ 94 ≤ 6 ∧ 6 ≤ 98 ∨ 6 = 117) by decide) (F_n F19 (show ¬ (11 ≤ 6 ∧ 6 ≤ 16 ∨ 6 = 71 ∨ 6 = 76) by decide) rfl))
  have t_53 : (M33.2.1 6 0).toInt = (M.2.1 6 0).toInt := congrArg Int32.toInt c_52
  have c_54 : M33.2.1 77 29 = (M.2.1 77 29) := (F_n F31 (show ¬ (77 = 77 ∧ 29 = 2 ∨ 94 ≤ 77 ∧ 77 ≤ 98 ∨ 77 = 117) by decide) (F_n F19 (show ¬ (11 ≤ 77 ∧ 77 ≤ 16 ∨ 77 = 71 ∨ 77 = 76) by decide) rfl))
  have t_55 : (M33.2.1 77 29).toInt = (M.2.1 77 29).toInt := congrArg Int32.toInt c_54
  have j_56 := (PI_f (tg_682 F31) (PI_f (tg_683 F19) jPI))
  have j_57 := (NI_f (tg_684 F31) (NI_f (tg_685 F19) jNI))
  have j_58 := (QI_f (tg_686 F31) (QI_f (tg_687 F19) jQI))
  have j_59 := (PQE_r F31.2.1 (PQE_r F19.2.1 jPQE))
  have j_60 := (FA_f (tg_688 F31) (FA_f (tg_689 F19) jFA))
  have j_61 := (WC_f (tg_690 F31) (WC_f (tg_691 F19) jWC))
  have j_62 := (NJ_f (tg_692 F31) j_28)
  have j_63 := (PS_f (tg_693 F31) (PS_f (tg_694 F19) jPS))
  have j_64 := (KQ_f (tg_695 F31) j_29)
  have j_65 := (TP_f (tg_696 F31) (TP_f (tg_697 F19) jTP))
  have j_66 := (W9_f (tg_698 F31) (W9_f (tg_699 F19) jW9))
  have j_67 := (AN_F F31 tg_751 (AN_F F19 tg_752 jAN))
  have j_68 := (G8_F F31 (fun a i z => show ¬ (a = 77 ∧ i = 2 ∨ 94 ≤ a ∧ a ≤ 98 ∨ a = 117) by (first | (clear hpz17 hpzz17 hqz17 hqzz17; omega) | (clear hpz17 hpzz17 hqz17; omega) | omega)) (G8_F F19 (fun a i z => show ¬ (11 ≤ a ∧ a ≤ 16 ∨ a = 71 ∨ a = 76) by (first | (clear hpz17 hpzz17 hqz17 hqzz17; omega) | (clear hpz17 hpzz17 hqz17; omega) | omega)) jG8))
  have j_69 := (PKA_F F31 (fun a i z => show ¬ (a = 77 ∧ i = 2 ∨ 94 ≤ a ∧ a ≤ 98 ∨ a = 117) by (first | (clear hpz17 hpzz17 hqz17 hqzz17; omega) | (clear hpz17 hpzz17 hqz17; omega) | omega)) (PKA_F F19 (fun a i z => show ¬ (11 ≤ a ∧ a ≤ 16 ∨ a = 71 ∨ a = 76) by (first | (clear hpz17 hpzz17 hqz17 hqzz17; omega) | (clear hpz17 hpzz17 hqz17; omega) | omega)) jPKA))
  have j_70 := (NE_r F31.2.1 (NE_r F19.2.1 jNE))
  have j_71 := (W8_f (tg_700 F31) (W8_f (tg_701 F19) jW8))
  exact h M33 (u5) (u6) ⟨⟨⟨⟨⟨⟨⟨⟨⟨hG32, ⟨j_56, j_57, j_58, j_59⟩, ⟨j_60, j_61, j_62, j_63, j_64⟩, by (first | (clear hpz17 hpzz17 hqz17 hqzz17; omega) | (clear hpz17 hpzz17 hqz17; omega) | omega), by (first | (clear hpz17 hpzz17 hqz17 hqzz17; omega) | (clear hpz17 hpzz17 hqz17; omega) | omega)⟩, j_65, j_66⟩, j_70, by (first | (clear hpz17 hpzz17 hqz17 hqzz17; omega) | (clear hpz17 hpzz17 hqz17; omega) | omega)⟩, AN_a j_67⟩, by (first | (clear hpz17 hpzz17 hqz17 hqzz17; omega) | (clear hpz17 hpzz17 hqz17; omega) | omega)⟩, j_71⟩, by (first | (clear hpz17 hpzz17 hqz17 hqzz17; omega) | (clear hpz17 hpzz17 hqz17; omega) | omega)⟩, j_67⟩, j_68, j_69⟩ (by (first | (clear hpz17 hpzz17 hqz17 hqzz17; omega) | (clear hpz17 hpzz17 hqz17; omega) | omega)) (by (first | (clear hpz17 hpzz17 hqz17 hqzz17; omega) | (clear hpz17 hpzz17 hqz17; omega) | omega))
