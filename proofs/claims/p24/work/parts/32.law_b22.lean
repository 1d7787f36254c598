set_option maxRecDepth 4000 in
set_option maxHeartbeats 0 in
theorem LW_22 {X : mm_X} {d L : Nat} {M : mm_M} {Q : Option Value → mm_M → Prop} {i : Int32} {u5 u6 : Value} (hX : g_X X) (hW : g_W X) (hW2 : g_W2 X) (hL : (X 0).1 = L) (h3 : L ≤ 3072) (hd : 40 ≤ d) (hi : 0 ≤ i.toInt) (hi2 : i.toInt + 6 ≤ (L : Int)) (H : LI10 M) (h : ∀ (M1 : mm_M) (v5 v6 : Value), LI10 M1 → M1.1.2.1 ≤ M.1.2.1 + 1 → M1.1.2.2.1 ≤ M.1.2.2.1 + 6 → mm_T X d 0 1313 [.ref mm_ext, .ref 0, .ref 77, .ref 125, .int i, v5, v6] [] M1 Q) : mm_T X d 0 969 [.ref mm_ext, .ref 0, .ref 77, .ref 125, .int i, u5, u6] [] M Q := by
  obtain ⟨⟨⟨⟨⟨⟨⟨⟨⟨hG, ⟨jPI, jNI, jQI, jPQE⟩, ⟨jFA, jWC, jNJ, jPS, jKQ⟩, jJ, jE⟩, jTP, jW9⟩, jNE, jCC⟩, -⟩, jOV⟩, jW8⟩, jNN⟩, jAN⟩, jQAL⟩ := H
  have b_1 := g_b hG (a := 77) (i := 7) (lo := 0) (hi := 500) rfl rfl
  have b_2 := g_b hG (a := 77) (i := 6) (lo := 0) (hi := 500) rfl rfl
  have b_3 := g_b hG (a := 1) (i := 1) (lo := 0) (hi := 500) rfl rfl
  have b_4 := g_b hG (a := 77) (i := 1) (lo := 0) (hi := 500) rfl rfl
  have b_5 := g_b hG (a := 0) (i := 12) (lo := 0) (hi := 30) rfl rfl
  have b_6 := g_b hG (a := 77) (i := 28) (lo := 0) (hi := 30) rfl rfl
  have b_7 := g_b hG (a := 6) (i := 0) (lo := 0) (hi := 150) rfl rfl
  have b_8 := g_b hG (a := 77) (i := 29) (lo := 0) (hi := 150) rfl rfl
  refine to_an (pc := 969) rw_0_969 rfl (to_an (pc := 970) rw_0_970 rfl (to_i (pc := 971) rw_0_971 rfl (to_c (pc := 973) rw_0_973 (x := (1 : Int32)) rfl rfl (s_add (pc := 974) rw_0_974 (A := i.toInt) (B := 1) rfl rfl (by omega) (fun v9 e10 => s_x0 (pc := 975) rw_0_975 hL (A := v9.toInt) rfl (by omega) (by omega) (fun v11 e12 => to_an (pc := 976) rw_0_976 rfl (to_i (pc := 977) rw_0_977 rfl (to_c (pc := 979) rw_0_979 (x := (2 : Int32)) rfl rfl (s_add (pc := 980) rw_0_980 (A := i.toInt) (B := 2) rfl rfl (by omega) (fun v13 e14 => s_x0 (pc := 981) rw_0_981 hL (A := v13.toInt) rfl (by omega) (by omega) (fun v15 e16 => s_v (pc := 982) rw_0_982 (dp0 hd (by decide)) (ls0 := [.ref 0, .int v11, .int v15, .null, .null]) rfl (Nat.le_of_ble_eq_true rfl) (Nat.le_of_ble_eq_true rfl) rfl (to_rc rfl rfl rfl (g_o hG rfl)) rfl ?_)))))))))))
  obtain ⟨pz17, pzz17, qz17, qzz17, hpz17, hpzz17, hqz17, hqzz17, hpqz17⟩ := id jPQE
  have b_18 := g_b hG (a := 77) (i := 58) (lo := 0) (hi := 40) rfl rfl
  have b_19 := g_b hG (a := 77) (i := 57) (lo := 0) (hi := 1) rfl rfl
  obtain ⟨sg, NN, nz, ca, hs1, hs2, hn1, hn2, hn3, hn4, hn5⟩ := AN_u jAN hpqz17
  obtain ⟨P9, ⟨qx0, qx40, qx4, qx58, qx57⟩, qa2, qa3⟩ := QAL_u hpqz17 jQAL hs1
  refine E_131 hX (dp1 hd (by decide)) hG hpz17 hpzz17 hqz17 hqzz17 hpqz17 hs1.1 hs1.2 hW2 hn1 hn3 (by (first | (clear hpz17 hpzz17 hqz17 hqzz17; omega) | (clear hpz17 hpzz17 hqz17; omega) | omega)) (by (first | (clear hpz17 hpzz17 hqz17 hqzz17; omega) | (clear hpz17 hpzz17 hqz17; omega) | omega)) (by (first | (clear hpz17 hpzz17 hqz17 hqzz17; omega) | (clear hpz17 hpzz17 hqz17; omega) | omega)) qa2 qx4 (by (first | (clear hpz17 hpzz17 hqz17 hqzz17; omega) | (clear hpz17 hpzz17 hqz17; omega) | omega)) (by (first | (clear hpz17 hpzz17 hqz17 hqzz17; omega) | (clear hpz17 hpzz17 hqz17; omega) | omega)) (n := v11) (w := v15) (sg := sg) (NN := NN) (nz := nz) (ca := ca) (P9 := P9) (p := pz17) (pz := pzz17) (q := qz17) (qz := qzz17) (fun r20 M24 hG22 F21 p_23 => ?_)
  have n_25 : M24.1.2.1 = M.1.2.1 ∧ M24.1.2.2.1 = M.1.2.2.1 := by rw [F21.1]; exact ⟨rfl, rfl⟩
  refine to_an (pc := 985) rw_0_985 rfl (to_an (pc := 986) rw_0_986 rfl (to_i (pc := 987) rw_0_987 rfl (to_c (pc := 989) rw_0_989 (x := (1 : Int32)) rfl rfl (s_addk (pc := 990) rw_0_990 (A := i.toInt) (B := 1) rfl rfl (by (first | (clear hpz17 hpzz17 hqz17 hqzz17; omega) | (clear hpz17 hpzz17 hqz17; omega) | omega)) (v := v9) e10 (s_x0k (pc := 991) rw_0_991 hL (A := v9.toInt) rfl (by (first | (clear hpz17 hpzz17 hqz17 hqzz17; omega) | (clear hpz17 hpzz17 hqz17; omega) | omega)) (by (first | (clear hpz17 hpzz17 hqz17 hqzz17; omega) | (clear hpz17 hpzz17 hqz17; omega) | omega)) (v := v11) e12 (to_an (pc := 992) rw_0_992 rfl (to_i (pc := 993) rw_0_993 rfl (to_c (pc := 995) rw_0_995 (x := (2 : Int32)) rfl rfl (s_addk (pc := 996) rw_0_996 (A := i.toInt) (B := 2) rfl rfl (by (first | (clear hpz17 hpzz17 hqz17 hqzz17; omega) | (clear hpz17 hpzz17 hqz17; omega) | omega)) (v := v13) e14 (s_x0k (pc := 997) rw_0_997 hL (A := v13.toInt) rfl (by (first | (clear hpz17 hpzz17 hqz17 hqzz17; omega) | (clear hpz17 hpzz17 hqz17; omega) | omega)) (by (first | (clear hpz17 hpzz17 hqz17 hqzz17; omega) | (clear hpz17 hpzz17 hqz17; omega) | omega)) (v := v15) e16 (s_v (pc := 998) rw_0_998 (dp0 hd (by decide)) (ls0 := [.ref 77, .int v11, .int v15, .null, .null, .null]) rfl (Nat.le_of_ble_eq_true rfl) (Nat.le_of_ble_eq_true rfl) rfl (to_rc rfl rfl rfl (g_o hG22 rfl)) rfl ?_)))))))))))
  have c_31 : M24.2.1 77 58 = (M.2.1 77 58) := (F_n F21 (show ¬ (11 ≤ 77 ∧ 77 ≤ 16 ∨ 77 = 71 ∨ 77 = 76) by decide) rfl)
  have t_32 : (M24.2.1 77 58).toInt = (M.2.1 77 58).toInt := congrArg Int32.toInt c_31
  have c_33 : M24.2.1 77 57 = (M.2.1 77 57) := (F_n F21 (show ¬ (11 ≤ 77 ∧ 77 ≤ 16 ∨ 77 = 71 ∨ 77 = 76) by decide) rfl)
  have t_34 : (M24.2.1 77 57).toInt = (M.2.1 77 57).toInt := congrArg Int32.toInt c_33
  have c_35 : M24.2.1 77 29 = (M.2.1 77 29) := (F_n F21 (show ¬ (11 ≤ 77 ∧ 77 ≤ 16 ∨ 77 = 71 ∨ 77 = 76) by decide) rfl)
  have t_36 : (M24.2.1 77 29).toInt = (M.2.1 77 29).toInt := congrArg Int32.toInt c_35
  have c_37 : M24.2.1 77 28 = (M.2.1 77 28) := (F_n F21 (show ¬ (11 ≤ 77 ∧ 77 ≤ 16 ∨ 77 = 71 ∨ 77 = 76) by decide) rfl)
  have t_38 : (M24.2.1 77 28).toInt = (M.2.1 77 28).toInt := congrArg Int32.toInt c_37
  have j_39 := (CWk_f (fun k hk9 => F_nl F21 (show ¬ (11 ≤ 87 ∧ 87 ≤ 16 ∨ 87 = 71 ∨ 87 = 76) by decide) rfl) hs2.2)
  have j_40 := (FA_f (tg_623 F21) jFA)
  have j_41 := (PLk_f (tg_624 F21) hs2.1)
  have j_42 := (W8_f (tg_625 F21) jW8)
  have j_43 := (NTr_f (tg_626 F21) hn2)
  refine E_229 hX (dp1 hd (by decide)) hG22 hn3 (by (first | (clear hpz17 hpzz17 hqz17 hqzz17; omega) | (clear hpz17 hpzz17 hqz17; omega) | omega)) (by (first | (clear hpz17 hpzz17 hqz17 hqzz17; omega) | (clear hpz17 hpzz17 hqz17; omega) | omega)) (by (first | (clear hpz17 hpzz17 hqz17 hqzz17; omega) | (clear hpz17 hpzz17 hqz17; omega) | omega)) j_39 j_40 j_41 j_42 j_43 (by (first | (clear hpz17 hpzz17 hqz17 hqzz17; omega) | (clear hpz17 hpzz17 hqz17; omega) | omega)) (by (first | (clear hpz17 hpzz17 hqz17 hqzz17; omega) | (clear hpz17 hpzz17 hqz17; omega) | omega)) (by (first | (clear hpz17 hpzz17 hqz17 hqzz17; omega) | (clear hpz17 hpzz17 hqz17; omega) | omega)) (by (first | (clear hpz17 hpzz17 hqz17 hqzz17; omega) | (clear hpz17 hpzz17 hqz17; omega) | omega)) (Or.imp_right (fun z => ⟨LQK_f (fun r i hr _ => (F_n F21 (show ¬ (11 ≤ r ∧ r ≤ 16 ∨ r = 71 ∨ r = 76) by (first | (clear hpz17 hpzz17 hqz17 hqzz17; omega) | (clear hpz17 hpzz17 hqz17; omega) | omega)) rfl)) z.1, z.2⟩) qa3) (n := v11) (w := v15) (sg := sg) (NN := NN) (nz := nz) (ca := ca) (P9 := P9) (fun r44 M48 hG46 F45 p_47 => ?_)
  have n_49 : M48.1.2.1 = M24.1.2.1 ∧ M48.1.2.2.1 = M24.1.2.2.1 := by rw [F45.1]; exact ⟨rfl, rfl⟩
  have z_51 := congrArg Int32.toInt (p_23.trans p_47.symm)
  refine b_ceq (pc := 1001) rw_0_1001 (A := r20.toInt) (B := r44.toInt) rfl rfl (fun h52 => ?_) (fun h52 => ?_)
  · have c_53 : M48.2.1 77 7 = (M.2.1 77 7) := (F_n F45 (show ¬ (77 = 77 ∧ 7 = 2 ∨ 94 ≤ 77 ∧ 77 ≤ 98 ∨ 77 = 117) by decide) (F_n F21 (show ¬ (11 ≤ 77 ∧ 77 ≤ 16 ∨ 77 = 71 ∨ 77 = 76) by decide) rfl))
    have t_54 : (M48.2.1 77 7).toInt = (M.2.1 77 7).toInt := congrArg Int32.toInt c_53
    have c_55 : M48.2.1 77 6 = (M.2.1 77 6) := (F_n F45 (show ¬ (77 = 77 ∧ 6 = 2 ∨ 94 ≤ 77 ∧ 77 ≤ 98 ∨ 77 = 117) by decide) (F_n F21 (show ¬ (11 ≤ 77 ∧ 77 ≤ 16 ∨ 77 = 71 ∨ 77 = 76) by decide) rfl))
    have t_56 : (M48.2.1 77 6).toInt = (M.2.1 77 6).toInt := congrArg Int32.toInt c_55
    have c_57 : M48.2.1 1 1 = (M.2.1 1 1) := (F_n F45 (show ¬ (1 = 77 ∧ 1 = 2 ∨ 94 ≤ 1 ∧ 1 ≤ 98 ∨ 1 = 117) by decide) (F_n F21 (show ¬ (11 ≤ 1 ∧ 1 ≤ 16 ∨ 1 = 71 ∨ 1 = 76) by decide) rfl))
    have t_58 : (M48.2.1 1 1).toInt = (M.2.1 1 1).toInt := congrArg Int32.toInt c_57
    have c_59 : M48.2.1 77 1 = (M.2.1 77 1) := (F_n F45 (show ¬ (77 = 77 ∧ 1 = 2 ∨ 94 ≤ 77 ∧ 77 ≤ 98 ∨ 77 = 117) by decide) (F_n F21 (show ¬ (11 ≤ 77 ∧ 77 ≤ 16 ∨ 77 = 71 ∨ 77 = 76) by decide) rfl))
    have t_60 : (M48.2.1 77 1).toInt = (M.2.1 77 1).toInt := congrArg Int32.toInt c_59
    have c_61 : M48.2.1 0 12 = (M.2.1 0 12) := (F_n F45 (show ¬ (0 = 77 ∧ 12 = 2 ∨ 94 ≤ 0 ∧ 0 ≤ 98 ∨ 0 = 117) by decide) (F_n F21 (show ¬ (11 ≤ 0 ∧ 0 ≤ 16 ∨ 0 = 71 ∨ 0 = 76) by decide) rfl))
    have t_62 : (M48.2.1 0 12).toInt = (M.2.1 0 12).toInt := congrArg Int32.toInt c_61
    have c_63 : M48.2.1 77 28 = (M.2.1 77 28) := (F_n F45 (show ¬ (77 = 77 ∧ 28 = 2 ∨ 94 ≤ 77 ∧ 77 ≤ 98 ∨ 77 = 117) by decide) c_37)
    have t_64 : (M48.2.1 77 28).toInt = (M.2.1 77 28).toInt := congrArg Int32.toInt c_63
    have c_65 : M48.2.1 17 4 = (M.2.1 17 4) := (F_n F45 (show ¬ (17 = 77 ∧ 4 = 2 ∨ 94 ≤ 17 ∧ 17 ≤ 98 ∨ 17 = 117) by decide) (F_n F21 (show ¬ (11 ≤ 17 ∧ 17 ≤ 16 ∨ 17 = 71 ∨ 17 = 76) by decide) rfl))
    have t_66 : (M48.2.1 17 4).toInt = (M.2.1 17 4).toInt := congrArg Int32.toInt c_65
    have c_67 : M48.2.1 77 41 = (M.2.1 77 41) := (F_n F45 (show ¬ (77 = 77 ∧ 41 = 2 ∨ 94 ≤ 77 ∧ 77 ≤ 98 ∨ 77 = 117) by decide) (F_n F21 (show ¬ (11 ≤ 77 ∧ 77 ≤ 16 ∨ 77 = 71 ∨ 77 = 76) by decide) rfl))
    have t_68 : (M48.2.1 77 41).toInt = (M.2.1 77 41).toInt := congrArg Int32.toInt c_67
    have c_69 : M48.2.1 6 0 = (M.2.1 6 0) := (F_n F45 (show ¬ (6 = 77 ∧ 0 = 2 ∨ 94 ≤ 6 ∧ 6 ≤ 98 ∨ 6 = 117) by decide) (F_n F21 (show ¬ (11 ≤ 6 ∧ 6 ≤ 16 ∨ 6 = 71 ∨ 6 = 76) by decide) rfl))
    have t_70 : (M48.2.1 6 0).toInt = (M.2.1 6 0).toInt := congrArg Int32.toInt c_69
    have c_71 : M48.2.1 77 29 = (M.2.1 77 29) := (F_n F45 (show ¬ (77 = 77 ∧ 29 = 2 ∨ 94 ≤ 77 ∧ 77 ≤ 98 ∨ 77 = 117) by decide) c_35)
    have t_72 : (M48.2.1 77 29).toInt = (M.2.1 77 29).toInt := congrArg Int32.toInt c_71
    have j_73 := (PI_f (tg_627 F45) (PI_f (tg_628 F21) jPI))
    have j_74 := (NI_f (tg_629 F45) (NI_f (tg_630 F21) jNI))
    have j_75 := (QI_f (tg_631 F45) (QI_f (tg_632 F21) jQI))
    have j_76 := (PQE_r F45.2.1 (PQE_r F21.2.1 jPQE))
    have j_77 := (FA_f (tg_633 F45) j_40)
    have j_78 := (WC_f (tg_634 F45) (WC_f (tg_635 F21) jWC))
    have j_79 := (NJ_f (tg_636 F45) (NJ_f (tg_637 F21) jNJ))
    have j_80 := (PS_f (tg_638 F45) (PS_f (tg_639 F21) jPS))
    have j_81 := (KQ_f (tg_640 F45) (KQ_f (tg_641 F21) jKQ))
    have j_82 := (TP_f (tg_642 F45) (TP_f (tg_643 F21) jTP))
    have j_83 := (W9_f (tg_644 F45) (W9_f (tg_645 F21) jW9))
    have j_84 := (AN_F F45 tg_696 (AN_F F21 tg_697 jAN))
    have j_85 := (QAL_F F45 (fun a i z => show ¬ (a = 77 ∧ i = 2 ∨ 94 ≤ a ∧ a ≤ 98 ∨ a = 117) by (first | (clear hpz17 hpzz17 hqz17 hqzz17; omega) | (clear hpz17 hpzz17 hqz17; omega) | omega)) (QAL_F F21 (fun a i z => show ¬ (11 ≤ a ∧ a ≤ 16 ∨ a = 71 ∨ a = 76) by (first | (clear hpz17 hpzz17 hqz17 hqzz17; omega) | (clear hpz17 hpzz17 hqz17; omega) | omega)) jQAL))
    have j_86 := (NE_r F45.2.1 (NE_r F21.2.1 jNE))
    have j_87 := (W8_f (tg_646 F45) j_42)
    exact h M48 (u5) (u6) ⟨⟨⟨⟨⟨⟨⟨⟨⟨hG46, ⟨j_73, j_74, j_75, j_76⟩, ⟨j_77, j_78, j_79, j_80, j_81⟩, by (first | (clear hpz17 hpzz17 hqz17 hqzz17; omega) | (clear hpz17 hpzz17 hqz17; omega) | omega), by (first | (clear hpz17 hpzz17 hqz17 hqzz17; omega) | (clear hpz17 hpzz17 hqz17; omega) | omega)⟩, j_82, j_83⟩, j_86, by (first | (clear hpz17 hpzz17 hqz17 hqzz17; omega) | (clear hpz17 hpzz17 hqz17; omega) | omega)⟩, AN_a j_84⟩, by (first | (clear hpz17 hpzz17 hqz17 hqzz17; omega) | (clear hpz17 hpzz17 hqz17; omega) | omega)⟩, j_87⟩, by (first | (clear hpz17 hpzz17 hqz17 hqzz17; omega) | (clear hpz17 hpzz17 hqz17; omega) | omega)⟩, j_84⟩, j_85⟩ (by (first | (clear hpz17 hpzz17 hqz17 hqzz17; omega) | (clear hpz17 hpzz17 hqz17; omega) | omega)) (by (first | (clear hpz17 hpzz17 hqz17 hqzz17; omega) | (clear hpz17 hpzz17 hqz17; omega) | omega))
  · exfalso; omega
