set_option maxRecDepth 4000 in
set_option maxHeartbeats 0 in
theorem LW_27 {X : mm_X} {d L : Nat} {M : mm_M} {Q : Option Value → mm_M → Prop} {i : Int32} {u5 u6 : Value} (hX : g_X X) (hW : g_W X) (hW2 : g_W2 X) (hL : (X 0).1 = L) (h3 : L ≤ 3072) (hd : 40 ≤ d) (hi : 0 ≤ i.toInt) (hi2 : i.toInt + 6 ≤ (L : Int)) (H : LI10 M) (h : ∀ (M1 : mm_M) (v5 v6 : Value), LI10 M1 → M1.1.2.1 ≤ M.1.2.1 + 1 → M1.1.2.2.1 ≤ M.1.2.2.1 + 6 → mm_T X d 0 1313 [.ref mm_ext, .ref 0, .ref 77, .ref 125, .int i, v5, v6] [] M1 Q) : mm_T X d 0 1202 [.ref mm_ext, .ref 0, .ref 77, .ref 125, .int i, u5, u6] [] M Q := by
  obtain ⟨⟨⟨⟨⟨⟨⟨⟨⟨hG, ⟨jPI, jNI, jQI, jPQE⟩, ⟨jFA, jWC, jNJ, jPS, jKQ⟩, jJ, jE⟩, jTP, jW9⟩, jNE, jCC⟩, -⟩, jOV⟩, jW8⟩, jNN⟩, jAN⟩, jG8, jPKA⟩ := H
  have b_1 := g_b hG (a := 77) (i := 7) (lo := 0) (hi := 500) rfl rfl
  have b_2 := g_b hG (a := 77) (i := 6) (lo := 0) (hi := 500) rfl rfl
  have b_3 := g_b hG (a := 1) (i := 1) (lo := 0) (hi := 500) rfl rfl
  have b_4 := g_b hG (a := 77) (i := 1) (lo := 0) (hi := 500) rfl rfl
  have b_5 := g_b hG (a := 0) (i := 12) (lo := 0) (hi := 30) rfl rfl
  have b_6 := g_b hG (a := 77) (i := 28) (lo := 0) (hi := 30) rfl rfl
  have b_7 := g_b hG (a := 6) (i := 0) (lo := 0) (hi := 150) rfl rfl
  have b_8 := g_b hG (a := 77) (i := 29) (lo := 0) (hi := 150) rfl rfl
  refine to_an (pc := 1202) rw_0_1202 rfl (to_an (pc := 1203) rw_0_1203 rfl (to_i (pc := 1204) rw_0_1204 rfl (to_c (pc := 1206) rw_0_1206 (x := (1 : Int32)) rfl rfl (s_add (pc := 1207) rw_0_1207 (A := i.toInt) (B := 1) rfl rfl (by omega) (fun v9 e10 => s_x0 (pc := 1208) rw_0_1208 hL (A := v9.toInt) rfl (by omega) (by omega) (fun v11 e12 => to_an (pc := 1209) rw_0_1209 rfl (to_i (pc := 1210) rw_0_1210 rfl (to_c (pc := 1212) rw_0_1212 (x := (2 : Int32)) rfl rfl (s_add (pc := 1213) rw_0_1213 (A := i.toInt) (B := 2) rfl rfl (by omega) (fun v13 e14 => s_x0 (pc := 1214) rw_0_1214 hL (A := v13.toInt) rfl (by omega) (by omega) (fun v15 e16 => s_v (pc := 1215) rw_0_1215 (dp0 hd (by decide)) (ls0 := [.ref 0, .int v11, .int v15]) rfl (Nat.le_of_ble_eq_true rfl) (Nat.le_of_ble_eq_true rfl) rfl (to_rc rfl rfl rfl (g_o hG rfl)) rfl ?_)))))))))))
  obtain ⟨pz17, pzz17, qz17, qzz17, hpz17, hpzz17, hqz17, hqzz17, hpqz17⟩ := id jPQE
  obtain ⟨sg, NN, nz, ca, hs1, hs2, hn1, hn2, hn3, hn4, hn5⟩ := AN_u jAN hpqz17
  obtain ⟨P9, pk1, pk2, pk3⟩ := PKA_u jPKA hn5
  obtain ⟨n9, hn9⟩ : ∃ z : Int, z = ca := ⟨_, rfl⟩
  refine E_136 hX (dp1 hd (by decide)) hG hpz17 hpzz17 hqz17 hqzz17 hpqz17 hs1.1 hs1.2 hW2 hn1 hn3 (by (first | (clear hpz17 hpzz17 hqz17 hqzz17; omega) | (clear hpz17 hpzz17 hqz17; omega) | omega)) (by (first | (clear hpz17 hpzz17 hqz17 hqzz17; omega) | (clear hpz17 hpzz17 hqz17; omega) | omega)) (by (first | (clear hpz17 hpzz17 hqz17 hqzz17; omega) | (clear hpz17 hpzz17 hqz17; omega) | omega)) pk1 (by rw [hn9]; exact pk3) (by (first | (clear hpz17 hpzz17 hqz17 hqzz17; omega) | (clear hpz17 hpzz17 hqz17; omega) | omega)) (k := v11) (f := v15) (sg := sg) (NN := NN) (nz := nz) (ca := ca) (P9 := P9) (n9 := n9) (p := pz17) (pz := pzz17) (q := qz17) (qz := qzz17) (fun r18 M22 hG20 F19 p_21 => ?_)
  have n_23 : M22.1.2.1 = M.1.2.1 ∧ M22.1.2.2.1 = M.1.2.2.1 := by rw [F19.1]; exact ⟨rfl, rfl⟩
  refine to_an (pc := 1218) rw_0_1218 rfl (to_an (pc := 1219) rw_0_1219 rfl (to_i (pc := 1220) rw_0_1220 rfl (to_c (pc := 1222) rw_0_1222 (x := (1 : Int32)) rfl rfl (s_addk (pc := 1223) rw_0_1223 (A := i.toInt) (B := 1) rfl rfl (by (first | (clear hpz17 hpzz17 hqz17 hqzz17; omega) | (clear hpz17 hpzz17 hqz17; omega) | omega)) (v := v9) e10 (s_x0k (pc := 1224) rw_0_1224 hL (A := v9.toInt) rfl (by (first | (clear hpz17 hpzz17 hqz17 hqzz17; omega) | (clear hpz17 hpzz17 hqz17; omega) | omega)) (by (first | (clear hpz17 hpzz17 hqz17 hqzz17; omega) | (clear hpz17 hpzz17 hqz17; omega) | omega)) (v := v11) e12 (to_an (pc := 1225) rw_0_1225 rfl (to_i (pc := 1226) rw_0_1226 rfl (to_c (pc := 1228) rw_0_1228 (x := (2 : Int32)) rfl rfl (s_addk (pc := 1229) rw_0_1229 (A := i.toInt) (B := 2) rfl rfl (by (first | (clear hpz17 hpzz17 hqz17 hqzz17; omega) | (clear hpz17 hpzz17 hqz17; omega) | omega)) (v := v13) e14 (s_x0k (pc := 1230) rw_0_1230 hL (A := v13.toInt) rfl (by (first | (clear hpz17 hpzz17 hqz17 hqzz17; omega) | (clear hpz17 hpzz17 hqz17; omega) | omega)) (by (first | (clear hpz17 hpzz17 hqz17 hqzz17; omega) | (clear hpz17 hpzz17 hqz17; omega) | omega)) (v := v15) e16 (s_v (pc := 1231) rw_0_1231 (dp0 hd (by decide)) (ls0 := [.ref 77, .int v11, .int v15, .null, .null, .null]) rfl (Nat.le_of_ble_eq_true rfl) (Nat.le_of_ble_eq_true rfl) rfl (to_rc rfl rfl rfl (g_o hG20 rfl)) rfl ?_)))))))))))
  have c_29 : M22.2.1 77 29 = (M.2.1 77 29) := (F_n F19 (show ¬ (11 ≤ 77 ∧ 77 ≤ 16 ∨ 77 = 27 ∨ 36 ≤ 77 ∧ 77 ≤ 48) by decide) rfl)
  have t_30 : (M22.2.1 77 29).toInt = (M.2.1 77 29).toInt := congrArg Int32.toInt c_29
  have c_31 : M22.2.1 77 28 = (M.2.1 77 28) := (F_n F19 (show ¬ (11 ≤ 77 ∧ 77 ≤ 16 ∨ 77 = 27 ∨ 36 ≤ 77 ∧ 77 ≤ 48) by decide) rfl)
  have t_32 : (M22.2.1 77 28).toInt = (M.2.1 77 28).toInt := congrArg Int32.toInt c_31
  have j_33 := (CWk_f (fun k hk9 => F_nl F19 (show ¬ (11 ≤ 87 ∧ 87 ≤ 16 ∨ 87 = 27 ∨ 36 ≤ 87 ∧ 87 ≤ 48) by decide) rfl) hs2.2)
  have j_34 := (FA_f (tg_650 F19) jFA)
  have j_35 := (PLk_f (tg_651 F19) hs2.1)
  have j_36 := (W8_f (tg_652 F19) jW8)
  have j_37 := (NTr_f (tg_653 F19) hn2)
  have j_38 := (PKr_f (fun a i z => F_n F19 (show ¬ (11 ≤ a ∧ a ≤ 16 ∨ a = 27 ∨ 36 ≤ a ∧ a ≤ 48) by (first | (clear hpz17 hpzz17 hqz17 hqzz17; omega) | (clear hpz17 hpzz17 hqz17; omega) | omega)) rfl) pk2)
  refine E_242 hX (dp1 hd (by decide)) hG20 hn3 (by (first | (clear hpz17 hpzz17 hqz17 hqzz17; omega) | (clear hpz17 hpzz17 hqz17; omega) | omega)) (by (first | (clear hpz17 hpzz17 hqz17 hqzz17; omega) | (clear hpz17 hpzz17 hqz17; omega) | omega)) (by (first | (clear hpz17 hpzz17 hqz17 hqzz17; omega) | (clear hpz17 hpzz17 hqz17; omega) | omega)) j_33 j_34 j_35 j_36 j_37 j_38 (by rw [hn9]; exact pk3) (by (first | (clear hpz17 hpzz17 hqz17 hqzz17; omega) | (clear hpz17 hpzz17 hqz17; omega) | omega)) (p := v11) (f := v15) (sg := sg) (NN := NN) (nz := nz) (ca := ca) (P9 := P9) (n9 := n9) (fun r39 M43 hG41 F40 p_42 => ?_)
  have n_44 : M43.1.2.1 = M22.1.2.1 ∧ M43.1.2.2.1 = M22.1.2.2.1 := by rw [F40.1]; exact ⟨rfl, rfl⟩
  refine b_ceq (pc := 1234) rw_0_1234 (A := r18.toInt) (B := r39.toInt) rfl rfl (fun h46 => ?_) (fun h46 => ?_)
  · have c_47 : M43.2.1 77 7 = (M.2.1 77 7) := (F_n F40 (show ¬ (77 = 77 ∧ 7 = 2 ∨ 94 ≤ 77 ∧ 77 ≤ 98 ∨ 77 = 120) by decide) (F_n F19 (show ¬ (11 ≤ 77 ∧ 77 ≤ 16 ∨ 77 = 27 ∨ 36 ≤ 77 ∧ 77 ≤ 48) by decide) rfl))
    have t_48 : (M43.2.1 77 7).toInt = (M.2.1 77 7).toInt := congrArg Int32.toInt c_47
    have c_49 : M43.2.1 77 6 = (M.2.1 77 6) := (F_n F40 (show ¬ (77 = 77 ∧ 6 = 2 ∨ 94 ≤ 77 ∧ 77 ≤ 98 ∨ 77 = 120) by decide) (F_n F19 (show ¬ (11 ≤ 77 ∧ 77 ≤ 16 ∨ 77 = 27 ∨ 36 ≤ 77 ∧ 77 ≤ 48) by decide) rfl))
    have t_50 : (M43.2.1 77 6).toInt = (M.2.1 77 6).toInt := congrArg Int32.toInt c_49
    have c_51 : M43.2.1 1 1 = (M.2.1 1 1) := (F_n F40 (show ¬ (1 = 77 ∧ 1 = 2 ∨ 94 ≤ 1 ∧ 1 ≤ 98 ∨ 1 = 120) by decide) (F_n F19 (show ¬ (11 ≤ 1 ∧ 1 ≤ 16 ∨ 1 = 27 ∨ 36 ≤ 1 ∧ 1 ≤ 48) by decide) rfl))
    have t_52 : (M43.2.1 1 1).toInt = (M.2.1 1 1).toInt := congrArg Int32.toInt c_51
    have c_53 : M43.2.1 77 1 = (M.2.1 77 1) := (F_n F40 (show ¬ (77 = 77 ∧ 1 = 2 ∨ 94 ≤ 77 ∧ 77 ≤ 98 ∨ 77 = 120) by decide) (F_n F19 (show ¬ (11 ≤ 77 ∧ 77 ≤ 16 ∨ 77 = 27 ∨ 36 ≤ 77 ∧ 77 ≤ 48) by decide) rfl))
    have t_54 : (M43.2.1 77 1).toInt = (M.2.1 77 1).toInt := congrArg Int32.toInt c_53
    have c_55 : M43.2.1 0 12 = (M.2.1 0 12) := (F_n F40 (show ¬ (0 = 77 ∧ 12 = 2 ∨ 94 ≤ 0 ∧ 0 ≤ 98 ∨ 0 = 120) by decide) (F_n F19 (show ¬ (11 ≤ 0 ∧ 0 ≤ 16 ∨ 0 = 27 ∨ 36 ≤ 0 ∧ 0 ≤ 48) by decide) rfl))
    have t_56 : (M43.2.1 0 12).toInt = (M.2.1 0 12).toInt := congrArg Int32.toInt c_55
    have c_57 : M43.2.1 77 28 = (M.2.1 77 28) := (F_n F40 (show ¬ (77 = 77 ∧ 28 = 2 ∨ 94 ≤ 77 ∧ 77 ≤ 98 ∨ 77 = 120) by decide) c_31)
    have t_58 : (M43.2.1 77 28).toInt = (M.2.1 77 28).toInt := congrArg Int32.toInt c_57
    have c_59 : M43.2.1 17 4 = (M.2.1 17 4) := (F_n F40 (show ¬ (17 = 77 ∧ 4 = 2 ∨ 94 ≤ 17 ∧ 17 ≤ 98 ∨ 17 = 120) by decide) (F_n F19 (show ¬ (11 ≤ 17 ∧ 17 ≤ 16 ∨ 17 = 27 ∨ 36 ≤ 17 ∧ 17 ≤ 48) by decide) rfl))
    have t_60 : (M43.2.1 17 4).toInt = (M.2.1 17 4).toInt := congrArg Int32.toInt c_59
    have c_61 : M43.2.1 77 41 = (M.2.1 77 41) := (F_n F40 (show ¬ (77 = 77 ∧ 41 = 2 ∨ 94 ≤ 77 ∧ 77 ≤ 98 ∨ 77 = 120) by decide) (F_n F19 (show ¬ (11 ≤ 77 ∧ 77 ≤ 16 ∨ 77 = 27 ∨ 36 ≤ 77 ∧ 77 ≤ 48) by decide) rfl))
    have t_62 : (M43.2.1 77 41).toInt = (M.2.1 77 41).toInt := congrArg Int32.toInt c_61
    have c_63 : M43.2.1 6 0 = (M.2.1 6 0) := (F_n F40 (show ¬ (6 = 77 ∧ 0 = 2 ∨ 94 ≤ 6 ∧ 6 ≤ 98 ∨ 6 = 120) by decide) (F_n F19 (show ¬ (11 ≤ 6 ∧ 6 ≤ 16 ∨ 6 = 27 ∨ 36 ≤ 6 ∧ 6 ≤ 48) by decide) rfl))
    have t_64 : (M43.2.1 6 0).toInt = (M.2.1 6 0).toInt := congrArg Int32.toInt c_63
    have c_65 : M43.2.1 77 29 = (M.2.1 77 29) := (F_n F40 (show ¬ (77 = 77 ∧ 29 = 2 ∨ 94 ≤ 77 ∧ 77 ≤ 98 ∨ 77 = 120) by decide) c_29)
    have t_66 : (M43.2.1 77 29).toInt = (M.2.1 77 29).toInt := congrArg Int32.toInt c_65
    have j_67 := (PI_f (tg_724 F40) (PI_f (tg_654 F19) jPI))
    have j_68 := (NI_f (tg_725 F40) (NI_f (tg_655 F19) jNI))
    have j_69 := (QI_f (tg_726 F40) (QI_f (tg_656 F19) jQI))
    have j_70 := (PQE_r F40.2.1 (PQE_r F19.2.1 jPQE))
    have j_71 := (FA_f (tg_727 F40) j_34)
    have j_72 := (WC_f (tg_728 F40) (WC_f (tg_657 F19) jWC))
    have j_73 := (NJ_f (tg_729 F40) (NJ_f (tg_658 F19) jNJ))
    have j_74 := (PS_f (tg_730 F40) (PS_f (tg_659 F19) jPS))
    have j_75 := (KQ_f (tg_731 F40) (KQ_f (tg_660 F19) jKQ))
    have j_76 := (TP_f (tg_732 F40) (TP_f (tg_661 F19) jTP))
    have j_77 := (W9_f (tg_733 F40) (W9_f (tg_662 F19) jW9))
    have j_78 := (AN_F F40 tg_755 (AN_F F19 tg_748 jAN))
    have j_79 := (G8_F F40 (fun a i z => show ¬ (a = 77 ∧ i = 2 ∨ 94 ≤ a ∧ a ≤ 98 ∨ a = 120) by (first | (clear hpz17 hpzz17 hqz17 hqzz17; omega) | (clear hpz17 hpzz17 hqz17; omega) | omega)) (G8_F F19 (fun a i z => show ¬ (11 ≤ a ∧ a ≤ 16 ∨ a = 27 ∨ 36 ≤ a ∧ a ≤ 48) by (first | (clear hpz17 hpzz17 hqz17 hqzz17; omega) | (clear hpz17 hpzz17 hqz17; omega) | omega)) jG8))
    have j_80 := (PKA_F F40 (fun a i z => show ¬ (a = 77 ∧ i = 2 ∨ 94 ≤ a ∧ a ≤ 98 ∨ a = 120) by (first | (clear hpz17 hpzz17 hqz17 hqzz17; omega) | (clear hpz17 hpzz17 hqz17; omega) | omega)) (PKA_F F19 (fun a i z => show ¬ (11 ≤ a ∧ a ≤ 16 ∨ a = 27 ∨ 36 ≤ a ∧ a ≤ 48) by (first | (clear hpz17 hpzz17 hqz17 hqzz17; omega) | (clear hpz17 hpzz17 hqz17; omega) | omega)) jPKA))
    have j_81 := (NE_r F40.2.1 (NE_r F19.2.1 jNE))
    have j_82 := (W8_f (tg_734 F40) j_36)
    exact h M43 (u5) (u6) ⟨⟨⟨⟨⟨⟨⟨⟨⟨hG41, ⟨j_67, j_68, j_69, j_70⟩, ⟨j_71, j_72, j_73, j_74, j_75⟩, by (first | (clear hpz17 hpzz17 hqz17 hqzz17; omega) | (clear hpz17 hpzz17 hqz17; omega) | omega), by (first | (clear hpz17 hpzz17 hqz17 hqzz17; omega) | (clear hpz17 hpzz17 hqz17; omega) | omega)⟩, j_76, j_77⟩, j_81, by (first | (clear hpz17 hpzz17 hqz17 hqzz17; omega) | (clear hpz17 hpzz17 hqz17; omega) | omega)⟩, AN_a j_78⟩, by (first | (clear hpz17 hpzz17 hqz17 hqzz17; omega) | (clear hpz17 hpzz17 hqz17; omega) | omega)⟩, j_82⟩, by (first | (clear hpz17 hpzz17 hqz17 hqzz17; omega) | (clear hpz17 hpzz17 hqz17; omega) | omega)⟩, j_78⟩, j_79, j_80⟩ (by (first | (clear hpz17 hpzz17 hqz17 hqzz17; omega) | (clear hpz17 hpzz17 hqz17; omega) | omega)) (by (first | (clear hpz17 hpzz17 hqz17 hqzz17; omega) | (clear hpz17 hpzz17 hqz17; omega) | omega))
  · exfalso; omega
