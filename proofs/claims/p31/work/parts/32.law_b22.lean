set_option maxRecDepth 4000 in
set_option maxHeartbeats 0 in
theorem LW_22 {X : mm_X} {d L : Nat} {M : mm_M} {Q : Option Value → mm_M → Prop} {i : Int32} {u5 u6 : Value} (hX : g_X X) (hW : g_W X) (hW2 : g_W2 X) (hL : (X 0).1 = L) (h3 : L ≤ 3072) (hd : 40 ≤ d) (hi : 0 ≤ i.toInt) (hi2 : i.toInt + 6 ≤ (L : Int)) (H : LI10 M) (h : ∀ (M1 : mm_M) (v5 v6 : Value), LI10 M1 → M1.1.2.1 ≤ M.1.2.1 + 1 → M1.1.2.2.1 ≤ M.1.2.2.1 + 6 → mm_T X d 0 1313 [.ref mm_ext, .ref 0, .ref 77, .ref 125, .int i, v5, v6] [] M1 Q) : mm_T X d 0 969 [.ref mm_ext, .ref 0, .ref 77, .ref 125, .int i, u5, u6] [] M Q := by
  obtain ⟨⟨⟨⟨⟨⟨⟨⟨⟨hG, ⟨jPI, jNI, jQI, jPQE⟩, ⟨jFA, jWC, jNJ, jPS, jKQ⟩, jJ, jE⟩, jTP, jW9⟩, jNE, jCC⟩, -⟩, jOV⟩, jW8⟩, jNN⟩, jAN⟩, jKNA, jDN, jPN⟩ := H
  have b_1 := g_b hG (a := 77) (i := 7) (lo := 0) (hi := 500) rfl rfl
  have b_2 := g_b hG (a := 77) (i := 6) (lo := 0) (hi := 500) rfl rfl
  have b_3 := g_b hG (a := 1) (i := 1) (lo := 0) (hi := 500) rfl rfl
  have b_4 := g_b hG (a := 77) (i := 1) (lo := 0) (hi := 500) rfl rfl
  have b_5 := g_b hG (a := 0) (i := 12) (lo := 0) (hi := 30) rfl rfl
  have b_6 := g_b hG (a := 77) (i := 28) (lo := 0) (hi := 30) rfl rfl
  have b_7 := g_b hG (a := 6) (i := 0) (lo := 0) (hi := 150) rfl rfl
  have b_8 := g_b hG (a := 77) (i := 29) (lo := 0) (hi := 150) rfl rfl
  have b_9 := g_b hG (a := 28) (i := 8) (lo := 0) (hi := 3000) rfl rfl
  have b_10 := g_b hG (a := 77) (i := 43) (lo := 0) (hi := 3000) rfl rfl
  refine to_an (pc := 969) rw_0_969 rfl (to_an (pc := 970) rw_0_970 rfl (to_i (pc := 971) rw_0_971 rfl (to_c (pc := 973) rw_0_973 (x := (1 : Int32)) rfl rfl (s_add (pc := 974) rw_0_974 (A := i.toInt) (B := 1) rfl rfl (by omega) (fun v11 e12 => s_x0 (pc := 975) rw_0_975 hL (A := v11.toInt) rfl (by omega) (by omega) (fun v13 e14 => to_an (pc := 976) rw_0_976 rfl (to_i (pc := 977) rw_0_977 rfl (to_c (pc := 979) rw_0_979 (x := (2 : Int32)) rfl rfl (s_add (pc := 980) rw_0_980 (A := i.toInt) (B := 2) rfl rfl (by omega) (fun v15 e16 => s_x0 (pc := 981) rw_0_981 hL (A := v15.toInt) rfl (by omega) (by omega) (fun v17 e18 => s_v (pc := 982) rw_0_982 (dp0 hd (by decide)) (ls0 := [.ref 0, .int v13, .int v17, .null, .null]) rfl (Nat.le_of_ble_eq_true rfl) (Nat.le_of_ble_eq_true rfl) rfl (to_rc rfl rfl rfl (g_o hG rfl)) rfl ?_)))))))))))
  obtain ⟨pz19, pzz19, qz19, qzz19, hpz19, hpzz19, hqz19, hqzz19, hpqz19⟩ := id jPQE
  refine C_131 hX (dp1 hd (by decide)) hG hpz19 hpzz19 hqz19 hqzz19 hpqz19 jNI jQI (n := v13) (w := v17) (p := pz19) (pz := pzz19) (q := qz19) (qz := qzz19) (fun r20 M23 hG22 F21 => ?_)
  have n_24 : M23.1.2.1 = M.1.2.1 ∧ M23.1.2.2.1 = M.1.2.2.1 := by rw [F21.1]; exact ⟨rfl, rfl⟩
  refine to_popi (pc := 985) rw_0_985 (to_an (pc := 986) rw_0_986 rfl (to_an (pc := 987) rw_0_987 rfl (to_i (pc := 988) rw_0_988 rfl (to_c (pc := 990) rw_0_990 (x := (1 : Int32)) rfl rfl (s_addk (pc := 991) rw_0_991 (A := i.toInt) (B := 1) rfl rfl (by (first | (clear hpz19 hpzz19 hqz19 hqzz19; omega) | (clear hpz19 hpzz19 hqz19; omega) | omega)) (v := v11) e12 (s_x0k (pc := 992) rw_0_992 hL (A := v11.toInt) rfl (by (first | (clear hpz19 hpzz19 hqz19 hqzz19; omega) | (clear hpz19 hpzz19 hqz19; omega) | omega)) (by (first | (clear hpz19 hpzz19 hqz19 hqzz19; omega) | (clear hpz19 hpzz19 hqz19; omega) | omega)) (v := v13) e14 (to_an (pc := 993) rw_0_993 rfl (to_i (pc := 994) rw_0_994 rfl (to_c (pc := 996) rw_0_996 (x := (2 : Int32)) rfl rfl (s_addk (pc := 997) rw_0_997 (A := i.toInt) (B := 2) rfl rfl (by (first | (clear hpz19 hpzz19 hqz19 hqzz19; omega) | (clear hpz19 hpzz19 hqz19; omega) | omega)) (v := v15) e16 (s_x0k (pc := 998) rw_0_998 hL (A := v15.toInt) rfl (by (first | (clear hpz19 hpzz19 hqz19 hqzz19; omega) | (clear hpz19 hpzz19 hqz19; omega) | omega)) (by (first | (clear hpz19 hpzz19 hqz19 hqzz19; omega) | (clear hpz19 hpzz19 hqz19; omega) | omega)) (v := v17) e18 ?_)))))))))))
  refine s_v (pc := 999) rw_0_999 (dp0 hd (by decide)) (ls0 := [.ref 77, .int v13, .int v17, .null, .null, .null]) rfl (Nat.le_of_ble_eq_true rfl) (Nat.le_of_ble_eq_true rfl) rfl (to_rc rfl rfl rfl (g_o hG22 rfl)) rfl ?_
  have j_30 := (NJ_f (tg_674 F21) jNJ)
  have j_31 := (KQ_f (tg_675 F21) jKQ)
  refine C_229 hX (dp1 hd (by decide)) hG22 j_30 j_31 (n := v13) (w := v17) (fun r32 M35 hG34 F33 => ?_)
  have n_36 : M35.1.2.1 = M23.1.2.1 ∧ M35.1.2.2.1 = M23.1.2.2.1 := by rw [F33.1]; exact ⟨rfl, rfl⟩
  refine to_popi (pc := 1002) rw_0_1002 (to_go (pc := 1003) rw_0_1003 ?_)
  have c_38 : M35.2.1 77 7 = (M.2.1 77 7) := (F_n F33 (show ¬ (77 = 77 ∧ 7 = 2 ∨ 94 ≤ 77 ∧ 77 ≤ 98 ∨ 77 = 117) by decide) (F_n F21 (show ¬ (11 ≤ 77 ∧ 77 ≤ 16 ∨ 77 = 71 ∨ 77 = 76) by decide) rfl))
  have t_39 : (M35.2.1 77 7).toInt = (M.2.1 77 7).toInt := congrArg Int32.toInt c_38
  have c_40 : M35.2.1 77 6 = (M.2.1 77 6) := (F_n F33 (show ¬ (77 = 77 ∧ 6 = 2 ∨ 94 ≤ 77 ∧ 77 ≤ 98 ∨ 77 = 117) by decide) (F_n F21 (show ¬ (11 ≤ 77 ∧ 77 ≤ 16 ∨ 77 = 71 ∨ 77 = 76) by decide) rfl))
  have t_41 : (M35.2.1 77 6).toInt = (M.2.1 77 6).toInt := congrArg Int32.toInt c_40
  have c_42 : M35.2.1 1 1 = (M.2.1 1 1) := (F_n F33 (show ¬ (1 = 77 ∧ 1 = 2 ∨ 94 ≤ 1 ∧ 1 ≤ 98 ∨ 1 = 117) by decide) (F_n F21 (show ¬ (11 ≤ 1 ∧ 1 ≤ 16 ∨ 1 = 71 ∨ 1 = 76) by decide) rfl))
  have t_43 : (M35.2.1 1 1).toInt = (M.2.1 1 1).toInt := congrArg Int32.toInt c_42
  have c_44 : M35.2.1 77 1 = (M.2.1 77 1) := (F_n F33 (show ¬ (77 = 77 ∧ 1 = 2 ∨ 94 ≤ 77 ∧ 77 ≤ 98 ∨ 77 = 117) by decide) (F_n F21 (show ¬ (11 ≤ 77 ∧ 77 ≤ 16 ∨ 77 = 71 ∨ 77 = 76) by decide) rfl))
  have t_45 : (M35.2.1 77 1).toInt = (M.2.1 77 1).toInt := congrArg Int32.toInt c_44
  have c_46 : M35.2.1 0 12 = (M.2.1 0 12) := (F_n F33 (show ¬ (0 = 77 ∧ 12 = 2 ∨ 94 ≤ 0 ∧ 0 ≤ 98 ∨ 0 = 117) by decide) (F_n F21 (show ¬ (11 ≤ 0 ∧ 0 ≤ 16 ∨ 0 = 71 ∨ 0 = 76) by decide) rfl))
  have t_47 : (M35.2.1 0 12).toInt = (M.2.1 0 12).toInt := congrArg Int32.toInt c_46
  have c_48 : M35.2.1 77 28 = (M.2.1 77 28) := (F_n F33 (show ¬ (77 = 77 ∧ 28 = 2 ∨ 94 ≤ 77 ∧ 77 ≤ 98 ∨ 77 = 117) by decide) (F_n F21 (show ¬ (11 ≤ 77 ∧ 77 ≤ 16 ∨ 77 = 71 ∨ 77 = 76) by decide) rfl))
  have t_49 : (M35.2.1 77 28).toInt = (M.2.1 77 28).toInt := congrArg Int32.toInt c_48
  have c_50 : M35.2.1 17 4 = (M.2.1 17 4) := (F_n F33 (show ¬ (17 = 77 ∧ 4 = 2 ∨ 94 ≤ 17 ∧ 17 ≤ 98 ∨ 17 = 117) by decide) (F_n F21 (show ¬ (11 ≤ 17 ∧ 17 ≤ 16 ∨ 17 = 71 ∨ 17 = 76) by decide) rfl))
  have t_51 : (M35.2.1 17 4).toInt = (M.2.1 17 4).toInt := congrArg Int32.toInt c_50
  have c_52 : M35.2.1 77 41 = (M.2.1 77 41) := (F_n F33 (show ¬ (77 = 77 ∧ 41 = 2 ∨ 94 ≤ 77 ∧ 77 ≤ 98 ∨ 77 = 117) by decide) (F_n F21 (show ¬ (11 ≤ 77 ∧ 77 ≤ 16 ∨ 77 = 71 ∨ 77 = 76) by decide) rfl))
  have t_53 : (M35.2.1 77 41).toInt = (M.2.1 77 41).toInt := congrArg Int32.toInt c_52
  have c_54 : M35.2.1 6 0 = (M.2.1 6 0) := (F_n F33 (show ¬ (6 = 77 ∧ 0 = 2 ∨ 94 ≤ 6 ∧ 6 ≤ 98 ∨ 6 = 117) by decide) (F_n F21 (show ¬ (11 ≤ 6 ∧ 6 ≤ 16 ∨ 6 = 71 ∨ 6 = 76) by decide) rfl))
  have t_55 : (M35.2.1 6 0).toInt = (M.2.1 6 0).toInt := congrArg Int32.toInt c_54
  have c_56 : M35.2.1 77 29 = (M.2.1 77 29) := (F_n F33 (show ¬ (77 = 77 ∧ 29 = 2 ∨ 94 ≤ 77 ∧ 77 ≤ 98 ∨ 77 = 117) by decide) (F_n F21 (show ¬ (11 ≤ 77 ∧ 77 ≤ 16 ∨ 77 = 71 ∨ 77 = 76) by decide) rfl))
  have t_57 : (M35.2.1 77 29).toInt = (M.2.1 77 29).toInt := congrArg Int32.toInt c_56
  have c_58 : M35.2.1 28 8 = (M.2.1 28 8) := (F_n F33 (show ¬ (28 = 77 ∧ 8 = 2 ∨ 94 ≤ 28 ∧ 28 ≤ 98 ∨ 28 = 117) by decide) (F_n F21 (show ¬ (11 ≤ 28 ∧ 28 ≤ 16 ∨ 28 = 71 ∨ 28 = 76) by decide) rfl))
  have t_59 : (M35.2.1 28 8).toInt = (M.2.1 28 8).toInt := congrArg Int32.toInt c_58
  have c_60 : M35.2.1 77 43 = (M.2.1 77 43) := (F_n F33 (show ¬ (77 = 77 ∧ 43 = 2 ∨ 94 ≤ 77 ∧ 77 ≤ 98 ∨ 77 = 117) by decide) (F_n F21 (show ¬ (11 ≤ 77 ∧ 77 ≤ 16 ∨ 77 = 71 ∨ 77 = 76) by decide) rfl))
  have t_61 : (M35.2.1 77 43).toInt = (M.2.1 77 43).toInt := congrArg Int32.toInt c_60
  have c_62 : M35.2.1 28 9 = (M.2.1 28 9) := (F_n F33 (show ¬ (28 = 77 ∧ 9 = 2 ∨ 94 ≤ 28 ∧ 28 ≤ 98 ∨ 28 = 117) by decide) (F_n F21 (show ¬ (11 ≤ 28 ∧ 28 ≤ 16 ∨ 28 = 71 ∨ 28 = 76) by decide) rfl))
  have t_63 : (M35.2.1 28 9).toInt = (M.2.1 28 9).toInt := congrArg Int32.toInt c_62
  have c_64 : M35.2.1 77 42 = (M.2.1 77 42) := (F_n F33 (show ¬ (77 = 77 ∧ 42 = 2 ∨ 94 ≤ 77 ∧ 77 ≤ 98 ∨ 77 = 117) by decide) (F_n F21 (show ¬ (11 ≤ 77 ∧ 77 ≤ 16 ∨ 77 = 71 ∨ 77 = 76) by decide) rfl))
  have t_65 : (M35.2.1 77 42).toInt = (M.2.1 77 42).toInt := congrArg Int32.toInt c_64
  have j_66 := (PI_f (tg_676 F33) (PI_f (tg_677 F21) jPI))
  have j_67 := (NI_f (tg_678 F33) (NI_f (tg_679 F21) jNI))
  have j_68 := (QI_f (tg_680 F33) (QI_f (tg_681 F21) jQI))
  have j_69 := (PQE_r F33.2.1 (PQE_r F21.2.1 jPQE))
  have j_70 := (FA_f (tg_682 F33) (FA_f (tg_683 F21) jFA))
  have j_71 := (WC_f (tg_684 F33) (WC_f (tg_685 F21) jWC))
  have j_72 := (NJ_f (tg_686 F33) j_30)
  have j_73 := (PS_f (tg_687 F33) (PS_f (tg_688 F21) jPS))
  have j_74 := (KQ_f (tg_689 F33) j_31)
  have j_75 := (TP_f (tg_690 F33) (TP_f (tg_691 F21) jTP))
  have j_76 := (W9_f (tg_692 F33) (W9_f (tg_693 F21) jW9))
  have j_77 := (AN_F F33 tg_745 (AN_F F21 tg_746 jAN))
  have j_78 := (KNA_F F33 (fun a i z => show ¬ (a = 77 ∧ i = 2 ∨ 94 ≤ a ∧ a ≤ 98 ∨ a = 117) by (first | (clear hpz19 hpzz19 hqz19 hqzz19; omega) | (clear hpz19 hpzz19 hqz19; omega) | omega)) (KNA_F F21 (fun a i z => show ¬ (11 ≤ a ∧ a ≤ 16 ∨ a = 71 ∨ a = 76) by (first | (clear hpz19 hpzz19 hqz19 hqzz19; omega) | (clear hpz19 hpzz19 hqz19; omega) | omega)) jKNA))
  have j_79 := (NE_r F33.2.1 (NE_r F21.2.1 jNE))
  have j_80 := (W8_f (tg_694 F33) (W8_f (tg_695 F21) jW8))
  exact h M35 (u5) (u6) ⟨⟨⟨⟨⟨⟨⟨⟨⟨hG34, ⟨j_66, j_67, j_68, j_69⟩, ⟨j_70, j_71, j_72, j_73, j_74⟩, by (first | (clear hpz19 hpzz19 hqz19 hqzz19; omega) | (clear hpz19 hpzz19 hqz19; omega) | omega), by (first | (clear hpz19 hpzz19 hqz19 hqzz19; omega) | (clear hpz19 hpzz19 hqz19; omega) | omega)⟩, j_75, j_76⟩, j_79, by (first | (clear hpz19 hpzz19 hqz19 hqzz19; omega) | (clear hpz19 hpzz19 hqz19; omega) | omega)⟩, AN_a j_77⟩, by (first | (clear hpz19 hpzz19 hqz19 hqzz19; omega) | (clear hpz19 hpzz19 hqz19; omega) | omega)⟩, j_80⟩, by (first | (clear hpz19 hpzz19 hqz19 hqzz19; omega) | (clear hpz19 hpzz19 hqz19; omega) | omega)⟩, j_77⟩, j_78, by (first | (clear hpz19 hpzz19 hqz19 hqzz19; omega) | (clear hpz19 hpzz19 hqz19; omega) | omega), by (first | (clear hpz19 hpzz19 hqz19 hqzz19; omega) | (clear hpz19 hpzz19 hqz19; omega) | omega)⟩ (by (first | (clear hpz19 hpzz19 hqz19 hqzz19; omega) | (clear hpz19 hpzz19 hqz19; omega) | omega)) (by (first | (clear hpz19 hpzz19 hqz19 hqzz19; omega) | (clear hpz19 hpzz19 hqz19; omega) | omega))
