set_option maxRecDepth 4000 in
set_option maxHeartbeats 0 in
theorem LW_20 {X : mm_X} {d L : Nat} {M : mm_M} {Q : Option Value → mm_M → Prop} {i : Int32} {u5 u6 : Value} (hX : g_X X) (hW : g_W X) (hW2 : g_W2 X) (hL : (X 0).1 = L) (h3 : L ≤ 3072) (hd : 40 ≤ d) (hi : 0 ≤ i.toInt) (hi2 : i.toInt + 6 ≤ (L : Int)) (H : LI10 M) (h : ∀ (M1 : mm_M) (v5 v6 : Value), LI10 M1 → M1.1.2.1 ≤ M.1.2.1 + 1 → M1.1.2.2.1 ≤ M.1.2.2.1 + 6 → mm_T X d 0 1313 [.ref mm_ext, .ref 0, .ref 77, .ref 125, .int i, v5, v6] [] M1 Q) : mm_T X d 0 887 [.ref mm_ext, .ref 0, .ref 77, .ref 125, .int i, u5, u6] [] M Q := by
  obtain ⟨⟨⟨⟨⟨⟨⟨⟨⟨hG, ⟨jPI, jNI, jQI, jPQE⟩, ⟨jFA, jWC, jNJ, jPS, jKQ⟩, jJ, jE⟩, jTP, jW9⟩, jNE, jCC⟩, -⟩, jOV⟩, jW8⟩, jNN⟩, jAN⟩, jG8, jPKA⟩ := H
  have b_1 := g_b hG (a := 77) (i := 7) (lo := 0) (hi := 500) rfl rfl
  have b_2 := g_b hG (a := 77) (i := 6) (lo := 0) (hi := 500) rfl rfl
  have b_3 := g_b hG (a := 1) (i := 1) (lo := 0) (hi := 500) rfl rfl
  have b_4 := g_b hG (a := 77) (i := 1) (lo := 0) (hi := 500) rfl rfl
  have b_5 := g_b hG (a := 0) (i := 12) (lo := 0) (hi := 30) rfl rfl
  have b_6 := g_b hG (a := 77) (i := 28) (lo := 0) (hi := 30) rfl rfl
  have b_7 := g_b hG (a := 6) (i := 0) (lo := 0) (hi := 150) rfl rfl
  have b_8 := g_b hG (a := 77) (i := 29) (lo := 0) (hi := 150) rfl rfl
  refine to_an (pc := 887) rw_0_887 rfl (to_an (pc := 888) rw_0_888 rfl (to_i (pc := 889) rw_0_889 rfl (to_c (pc := 891) rw_0_891 (x := (1 : Int32)) rfl rfl (s_add (pc := 892) rw_0_892 (A := i.toInt) (B := 1) rfl rfl (by omega) (fun v9 e10 => s_x0 (pc := 893) rw_0_893 hL (A := v9.toInt) rfl (by omega) (by omega) (fun v11 e12 => to_an (pc := 894) rw_0_894 rfl (to_i (pc := 895) rw_0_895 rfl (to_c (pc := 897) rw_0_897 (x := (2 : Int32)) rfl rfl (s_add (pc := 898) rw_0_898 (A := i.toInt) (B := 2) rfl rfl (by omega) (fun v13 e14 => s_x0 (pc := 899) rw_0_899 hL (A := v13.toInt) rfl (by omega) (by omega) (fun v15 e16 => to_i2l (pc := 900) rw_0_900 (v := (v15.toInt64)) rfl ?_)))))))))))
  refine to_c (pc := 901) rw_0_901 (x := (32 : Int32)) rfl rfl (to_2s (pc := 903) rw_0_903 (v := ((v15.toInt64) <<< ((32 : Int32).toInt64 &&& 63))) rfl ?_)
  have k_17 : (32 : Int32).toInt = 32 := rfl
  refine to_an (pc := 904) rw_0_904 rfl (to_i (pc := 905) rw_0_905 rfl (to_c (pc := 907) rw_0_907 (x := (3 : Int32)) rfl rfl (s_add (pc := 908) rw_0_908 (A := i.toInt) (B := 3) rfl rfl (by omega) (fun v18 e19 => s_x0 (pc := 909) rw_0_909 hL (A := v18.toInt) rfl (by omega) (by omega) (fun v20 e21 => to_i2l (pc := 910) rw_0_910 (v := (v20.toInt64)) rfl (to_cl (pc := 911) rw_0_911 rfl (x := (4294967295 : Int64)) rfl (to_2l (pc := 914) rw_0_914 (v := ((v20.toInt64) &&& (4294967295 : Int64))) rfl (to_2l (pc := 915) rw_0_915 (v := (((v15.toInt64) <<< ((32 : Int32).toInt64 &&& 63)) ||| ((v20.toInt64) &&& (4294967295 : Int64)))) rfl (s_v (pc := 916) rw_0_916 (dp0 hd (by decide)) (ls0 := [.ref 0, .int v11, .long (((v15.toInt64) <<< ((32 : Int32).toInt64 &&& 63)) ||| ((v20.toInt64) &&& (4294967295 : Int64))), .null]) rfl (Nat.le_of_ble_eq_true rfl) (Nat.le_of_ble_eq_true rfl) rfl (to_rc rfl rfl rfl (g_o hG rfl)) rfl ?_)))))))))
  obtain ⟨pz22, pzz22, qz22, qzz22, hpz22, hpzz22, hqz22, hqzz22, hpqz22⟩ := id jPQE
  obtain ⟨sg, NN, nz, ca, hs1, hs2, hn1, hn2, hn3, hn4, hn5⟩ := AN_u jAN hpqz22
  obtain ⟨P9, pk1, pk2, pk3⟩ := PKA_u jPKA hn5
  obtain ⟨n9, hn9⟩ : ∃ z : Int, z = ca := ⟨_, rfl⟩
  obtain ⟨ov, hov⟩ : ∃ o : Int32, M.2.1 17 4 = o := ⟨_, rfl⟩
  have z_23 := congrArg Int32.toInt hov
  refine E_129 hX (dp1 hd (by decide)) hG hpz22 hpzz22 hqz22 hqzz22 hpqz22 hs1.1 hs1.2 hW2 hn1 hn3 (by (first | (clear hpz22 hpzz22 hqz22 hqzz22; omega) | (clear hpz22 hpzz22 hqz22; omega) | omega)) (by (first | (clear hpz22 hpzz22 hqz22 hqzz22; omega) | (clear hpz22 hpzz22 hqz22; omega) | omega)) (by (first | (clear hpz22 hpzz22 hqz22 hqzz22; omega) | (clear hpz22 hpzz22 hqz22; omega) | omega)) pk1 (by rw [hn9]; exact pk3) (by (first | (clear hpz22 hpzz22 hqz22 hqzz22; omega) | (clear hpz22 hpzz22 hqz22; omega) | omega)) hov (k := v11) (x := (((v15.toInt64) <<< ((32 : Int32).toInt64 &&& 63)) ||| ((v20.toInt64) &&& (4294967295 : Int64)))) (sg := sg) (NN := NN) (nz := nz) (ca := ca) (P9 := P9) (ov := ov) (n9 := n9) (p := pz22) (pz := pzz22) (q := qz22) (qz := qzz22) (fun r24 M28 hG26 F25 p_27 => ?_)
  have n_29 : M28.1.2.1 = M.1.2.1 ∧ M28.1.2.2.1 = M.1.2.2.1 := by rw [F25.1]; exact ⟨rfl, rfl⟩
  refine to_popi (pc := 919) rw_0_919 (to_an (pc := 920) rw_0_920 rfl (to_an (pc := 921) rw_0_921 rfl (to_i (pc := 922) rw_0_922 rfl (to_c (pc := 924) rw_0_924 (x := (1 : Int32)) rfl rfl (s_addk (pc := 925) rw_0_925 (A := i.toInt) (B := 1) rfl rfl (by (first | (clear hpz22 hpzz22 hqz22 hqzz22; omega) | (clear hpz22 hpzz22 hqz22; omega) | omega)) (v := v9) e10 (s_x0k (pc := 926) rw_0_926 hL (A := v9.toInt) rfl (by (first | (clear hpz22 hpzz22 hqz22 hqzz22; omega) | (clear hpz22 hpzz22 hqz22; omega) | omega)) (by (first | (clear hpz22 hpzz22 hqz22 hqzz22; omega) | (clear hpz22 hpzz22 hqz22; omega) | omega)) (v := v11) e12 (to_an (pc := 927) rw_0_927 rfl (to_i (pc := 928) rw_0_928 rfl (to_c (pc := 930) rw_0_930 (x := (2 : Int32)) rfl rfl (s_addk (pc := 931) rw_0_931 (A := i.toInt) (B := 2) rfl rfl (by (first | (clear hpz22 hpzz22 hqz22 hqzz22; omega) | (clear hpz22 hpzz22 hqz22; omega) | omega)) (v := v13) e14 (s_x0k (pc := 932) rw_0_932 hL (A := v13.toInt) rfl (by (first | (clear hpz22 hpzz22 hqz22 hqzz22; omega) | (clear hpz22 hpzz22 hqz22; omega) | omega)) (by (first | (clear hpz22 hpzz22 hqz22 hqzz22; omega) | (clear hpz22 hpzz22 hqz22; omega) | omega)) (v := v15) e16 ?_)))))))))))
  refine to_i2l (pc := 933) rw_0_933 (v := (v15.toInt64)) rfl (to_c (pc := 934) rw_0_934 (x := (32 : Int32)) rfl rfl (to_2s (pc := 936) rw_0_936 (v := ((v15.toInt64) <<< ((32 : Int32).toInt64 &&& 63))) rfl (to_an (pc := 937) rw_0_937 rfl (to_i (pc := 938) rw_0_938 rfl (to_c (pc := 940) rw_0_940 (x := (3 : Int32)) rfl rfl (s_addk (pc := 941) rw_0_941 (A := i.toInt) (B := 3) rfl rfl (by (first | (clear hpz22 hpzz22 hqz22 hqzz22; omega) | (clear hpz22 hpzz22 hqz22; omega) | omega)) (v := v18) e19 (s_x0k (pc := 942) rw_0_942 hL (A := v18.toInt) rfl (by (first | (clear hpz22 hpzz22 hqz22 hqzz22; omega) | (clear hpz22 hpzz22 hqz22; omega) | omega)) (by (first | (clear hpz22 hpzz22 hqz22 hqzz22; omega) | (clear hpz22 hpzz22 hqz22; omega) | omega)) (v := v20) e21 (to_i2l (pc := 943) rw_0_943 (v := (v20.toInt64)) rfl (to_cl (pc := 944) rw_0_944 rfl (x := (4294967295 : Int64)) rfl (to_2l (pc := 947) rw_0_947 (v := ((v20.toInt64) &&& (4294967295 : Int64))) rfl (to_2l (pc := 948) rw_0_948 (v := (((v15.toInt64) <<< ((32 : Int32).toInt64 &&& 63)) ||| ((v20.toInt64) &&& (4294967295 : Int64)))) rfl ?_)))))))))))
  refine s_v (pc := 949) rw_0_949 (dp0 hd (by decide)) (ls0 := [.ref 77, .int v11, .long (((v15.toInt64) <<< ((32 : Int32).toInt64 &&& 63)) ||| ((v20.toInt64) &&& (4294967295 : Int64))), .null, .null, .null]) rfl (Nat.le_of_ble_eq_true rfl) (Nat.le_of_ble_eq_true rfl) rfl (to_rc rfl rfl rfl (g_o hG26 rfl)) rfl ?_
  have c_37 : M28.2.1 77 28 = (M.2.1 77 28) := (F_n F25 (show ¬ (11 ≤ 77 ∧ 77 ≤ 16 ∨ 77 = 27 ∨ 36 ≤ 77 ∧ 77 ≤ 48) by decide) rfl)
  have t_38 : (M28.2.1 77 28).toInt = (M.2.1 77 28).toInt := congrArg Int32.toInt c_37
  have c_39 : M28.2.1 77 41 = (M.2.1 77 41) := (F_n F25 (show ¬ (11 ≤ 77 ∧ 77 ≤ 16 ∨ 77 = 27 ∨ 36 ≤ 77 ∧ 77 ≤ 48) by decide) rfl)
  have t_40 : (M28.2.1 77 41).toInt = (M.2.1 77 41).toInt := congrArg Int32.toInt c_39
  have c_41 : M28.2.1 77 29 = (M.2.1 77 29) := (F_n F25 (show ¬ (11 ≤ 77 ∧ 77 ≤ 16 ∨ 77 = 27 ∨ 36 ≤ 77 ∧ 77 ≤ 48) by decide) rfl)
  have t_42 : (M28.2.1 77 29).toInt = (M.2.1 77 29).toInt := congrArg Int32.toInt c_41
  have j_43 := (CWk_f (fun k hk9 => F_nl F25 (show ¬ (11 ≤ 87 ∧ 87 ≤ 16 ∨ 87 = 27 ∨ 36 ≤ 87 ∧ 87 ≤ 48) by decide) rfl) hs2.2)
  have j_44 := (FA_f (tg_650 F25) jFA)
  have j_45 := (PLk_f (tg_651 F25) hs2.1)
  have j_46 := (W8_f (tg_652 F25) jW8)
  have j_47 := (NTr_f (tg_653 F25) hn2)
  have j_48 := (PKr_f (fun a i z => F_n F25 (show ¬ (11 ≤ a ∧ a ≤ 16 ∨ a = 27 ∨ 36 ≤ a ∧ a ≤ 48) by (first | (clear hpz22 hpzz22 hqz22 hqzz22; omega) | (clear hpz22 hpzz22 hqz22; omega) | omega)) rfl) pk2)
  refine E_208 hX (dp1 hd (by decide)) hG26 hn3 (by (first | (clear hpz22 hpzz22 hqz22 hqzz22; omega) | (clear hpz22 hpzz22 hqz22; omega) | omega)) (by (first | (clear hpz22 hpzz22 hqz22 hqzz22; omega) | (clear hpz22 hpzz22 hqz22; omega) | omega)) (by (first | (clear hpz22 hpzz22 hqz22 hqzz22; omega) | (clear hpz22 hpzz22 hqz22; omega) | omega)) j_43 j_44 j_45 j_46 j_47 j_48 (by rw [hn9]; exact pk3) (by (first | (clear hpz22 hpzz22 hqz22 hqzz22; omega) | (clear hpz22 hpzz22 hqz22; omega) | omega)) (show M28.2.1 77 41 = ov from Int32.toInt_inj.mp (by (first | (clear hpz22 hpzz22 hqz22 hqzz22; omega) | (clear hpz22 hpzz22 hqz22; omega) | omega))) (p := v11) (x := (((v15.toInt64) <<< ((32 : Int32).toInt64 &&& 63)) ||| ((v20.toInt64) &&& (4294967295 : Int64)))) (sg := sg) (NN := NN) (nz := nz) (ca := ca) (P9 := P9) (ov := ov) (n9 := n9) (fun r49 M53 hG51 F50 p_52 => ?_)
  have n_54 : M53.1.2.1 = M28.1.2.1 ∧ M53.1.2.2.1 = M28.1.2.2.1 := by rw [F50.1]; exact ⟨rfl, rfl⟩
  have z_56 := congrArg Int32.toInt (p_27.trans p_52.symm)
  refine to_popi (pc := 952) rw_0_952 (to_go (pc := 953) rw_0_953 ?_)
  have c_57 : M53.2.1 77 7 = (M.2.1 77 7) := (F_n F50 (show ¬ (77 = 77 ∧ 7 = 2 ∨ 94 ≤ 77 ∧ 77 ≤ 98) by decide) (F_n F25 (show ¬ (11 ≤ 77 ∧ 77 ≤ 16 ∨ 77 = 27 ∨ 36 ≤ 77 ∧ 77 ≤ 48) by decide) rfl))
  have t_58 : (M53.2.1 77 7).toInt = (M.2.1 77 7).toInt := congrArg Int32.toInt c_57
  have c_59 : M53.2.1 77 6 = (M.2.1 77 6) := (F_n F50 (show ¬ (77 = 77 ∧ 6 = 2 ∨ 94 ≤ 77 ∧ 77 ≤ 98) by decide) (F_n F25 (show ¬ (11 ≤ 77 ∧ 77 ≤ 16 ∨ 77 = 27 ∨ 36 ≤ 77 ∧ 77 ≤ 48) by decide) rfl))
  have t_60 : (M53.2.1 77 6).toInt = (M.2.1 77 6).toInt := congrArg Int32.toInt c_59
  have c_61 : M53.2.1 1 1 = (M.2.1 1 1) := (F_n F50 (show ¬ (1 = 77 ∧ 1 = 2 ∨ 94 ≤ 1 ∧ 1 ≤ 98) by decide) (F_n F25 (show ¬ (11 ≤ 1 ∧ 1 ≤ 16 ∨ 1 = 27 ∨ 36 ≤ 1 ∧ 1 ≤ 48) by decide) rfl))
  have t_62 : (M53.2.1 1 1).toInt = (M.2.1 1 1).toInt := congrArg Int32.toInt c_61
  have c_63 : M53.2.1 77 1 = (M.2.1 77 1) := (F_n F50 (show ¬ (77 = 77 ∧ 1 = 2 ∨ 94 ≤ 77 ∧ 77 ≤ 98) by decide) (F_n F25 (show ¬ (11 ≤ 77 ∧ 77 ≤ 16 ∨ 77 = 27 ∨ 36 ≤ 77 ∧ 77 ≤ 48) by decide) rfl))
  have t_64 : (M53.2.1 77 1).toInt = (M.2.1 77 1).toInt := congrArg Int32.toInt c_63
  have c_65 : M53.2.1 0 12 = (M.2.1 0 12) := (F_n F50 (show ¬ (0 = 77 ∧ 12 = 2 ∨ 94 ≤ 0 ∧ 0 ≤ 98) by decide) (F_n F25 (show ¬ (11 ≤ 0 ∧ 0 ≤ 16 ∨ 0 = 27 ∨ 36 ≤ 0 ∧ 0 ≤ 48) by decide) rfl))
  have t_66 : (M53.2.1 0 12).toInt = (M.2.1 0 12).toInt := congrArg Int32.toInt c_65
  have c_67 : M53.2.1 77 28 = (M.2.1 77 28) := (F_n F50 (show ¬ (77 = 77 ∧ 28 = 2 ∨ 94 ≤ 77 ∧ 77 ≤ 98) by decide) c_37)
  have t_68 : (M53.2.1 77 28).toInt = (M.2.1 77 28).toInt := congrArg Int32.toInt c_67
  have c_69 : M53.2.1 17 4 = (M.2.1 17 4) := (F_n F50 (show ¬ (17 = 77 ∧ 4 = 2 ∨ 94 ≤ 17 ∧ 17 ≤ 98) by decide) (F_n F25 (show ¬ (11 ≤ 17 ∧ 17 ≤ 16 ∨ 17 = 27 ∨ 36 ≤ 17 ∧ 17 ≤ 48) by decide) rfl))
  have t_70 : (M53.2.1 17 4).toInt = (M.2.1 17 4).toInt := congrArg Int32.toInt c_69
  have c_71 : M53.2.1 77 41 = (M.2.1 77 41) := (F_n F50 (show ¬ (77 = 77 ∧ 41 = 2 ∨ 94 ≤ 77 ∧ 77 ≤ 98) by decide) c_39)
  have t_72 : (M53.2.1 77 41).toInt = (M.2.1 77 41).toInt := congrArg Int32.toInt c_71
  have c_73 : M53.2.1 6 0 = (M.2.1 6 0) := (F_n F50 (show ¬ (6 = 77 ∧ 0 = 2 ∨ 94 ≤ 6 ∧ 6 ≤ 98) by decide) (F_n F25 (show ¬ (11 ≤ 6 ∧ 6 ≤ 16 ∨ 6 = 27 ∨ 36 ≤ 6 ∧ 6 ≤ 48) by decide) rfl))
  have t_74 : (M53.2.1 6 0).toInt = (M.2.1 6 0).toInt := congrArg Int32.toInt c_73
  have c_75 : M53.2.1 77 29 = (M.2.1 77 29) := (F_n F50 (show ¬ (77 = 77 ∧ 29 = 2 ∨ 94 ≤ 77 ∧ 77 ≤ 98) by decide) c_41)
  have t_76 : (M53.2.1 77 29).toInt = (M.2.1 77 29).toInt := congrArg Int32.toInt c_75
  have j_77 := (PI_f (tg_567 F50) (PI_f (tg_654 F25) jPI))
  have j_78 := (NI_f (tg_568 F50) (NI_f (tg_655 F25) jNI))
  have j_79 := (QI_f (tg_569 F50) (QI_f (tg_656 F25) jQI))
  have j_80 := (PQE_r F50.2.1 (PQE_r F25.2.1 jPQE))
  have j_81 := (FA_f (tg_570 F50) j_44)
  have j_82 := (WC_f (tg_571 F50) (WC_f (tg_657 F25) jWC))
  have j_83 := (NJ_f (tg_573 F50) (NJ_f (tg_658 F25) jNJ))
  have j_84 := (PS_f (tg_575 F50) (PS_f (tg_659 F25) jPS))
  have j_85 := (KQ_f (tg_577 F50) (KQ_f (tg_660 F25) jKQ))
  have j_86 := (TP_f (tg_579 F50) (TP_f (tg_661 F25) jTP))
  have j_87 := (W9_f (tg_581 F50) (W9_f (tg_662 F25) jW9))
  have j_88 := (AN_F F50 tg_628 (AN_F F25 tg_748 jAN))
  have j_89 := (G8_F F50 (fun a i z => show ¬ (a = 77 ∧ i = 2 ∨ 94 ≤ a ∧ a ≤ 98) by (first | (clear hpz22 hpzz22 hqz22 hqzz22; omega) | (clear hpz22 hpzz22 hqz22; omega) | omega)) (G8_F F25 (fun a i z => show ¬ (11 ≤ a ∧ a ≤ 16 ∨ a = 27 ∨ 36 ≤ a ∧ a ≤ 48) by (first | (clear hpz22 hpzz22 hqz22 hqzz22; omega) | (clear hpz22 hpzz22 hqz22; omega) | omega)) jG8))
  have j_90 := (PKA_F F50 (fun a i z => show ¬ (a = 77 ∧ i = 2 ∨ 94 ≤ a ∧ a ≤ 98) by (first | (clear hpz22 hpzz22 hqz22 hqzz22; omega) | (clear hpz22 hpzz22 hqz22; omega) | omega)) (PKA_F F25 (fun a i z => show ¬ (11 ≤ a ∧ a ≤ 16 ∨ a = 27 ∨ 36 ≤ a ∧ a ≤ 48) by (first | (clear hpz22 hpzz22 hqz22 hqzz22; omega) | (clear hpz22 hpzz22 hqz22; omega) | omega)) jPKA))
  have j_91 := (NE_r F50.2.1 (NE_r F25.2.1 jNE))
  have j_92 := (W8_f (tg_583 F50) j_46)
  exact h M53 (u5) (u6) ⟨⟨⟨⟨⟨⟨⟨⟨⟨hG51, ⟨j_77, j_78, j_79, j_80⟩, ⟨j_81, j_82, j_83, j_84, j_85⟩, by (first | (clear hpz22 hpzz22 hqz22 hqzz22; omega) | (clear hpz22 hpzz22 hqz22; omega) | omega), by (first | (clear hpz22 hpzz22 hqz22 hqzz22; omega) | (clear hpz22 hpzz22 hqz22; omega) | omega)⟩, j_86, j_87⟩, j_91, by (first | (clear hpz22 hpzz22 hqz22 hqzz22; omega) | (clear hpz22 hpzz22 hqz22; omega) | omega)⟩, AN_a j_88⟩, by (first | (clear hpz22 hpzz22 hqz22 hqzz22; omega) | (clear hpz22 hpzz22 hqz22; omega) | omega)⟩, j_92⟩, by (first | (clear hpz22 hpzz22 hqz22 hqzz22; omega) | (clear hpz22 hpzz22 hqz22; omega) | omega)⟩, j_88⟩, j_89, j_90⟩ (by (first | (clear hpz22 hpzz22 hqz22 hqzz22; omega) | (clear hpz22 hpzz22 hqz22; omega) | omega)) (by (first | (clear hpz22 hpzz22 hqz22 hqzz22; omega) | (clear hpz22 hpzz22 hqz22; omega) | omega))
