set_option maxRecDepth 4000 in
set_option maxHeartbeats 0 in
theorem LW_12 {X : mm_X} {d L : Nat} {M : mm_M} {Q : Option Value → mm_M → Prop} {i : Int32} {u5 u6 : Value} (hX : g_X X) (hW : g_W X) (hW2 : g_W2 X) (hL : (X 0).1 = L) (h3 : L ≤ 3072) (hd : 40 ≤ d) (hi : 0 ≤ i.toInt) (hi2 : i.toInt + 6 ≤ (L : Int)) (H : LI10 M) (h : ∀ (M1 : mm_M) (v5 v6 : Value), LI10 M1 → M1.1.2.1 ≤ M.1.2.1 + 1 → M1.1.2.2.1 ≤ M.1.2.2.1 + 6 → mm_T X d 0 1313 [.ref mm_ext, .ref 0, .ref 77, .ref 125, .int i, v5, v6] [] M1 Q) : mm_T X d 0 599 [.ref mm_ext, .ref 0, .ref 77, .ref 125, .int i, u5, u6] [] M Q := by
  obtain ⟨⟨⟨⟨⟨⟨⟨⟨⟨hG, ⟨jPI, jNI, jQI, jPQE⟩, ⟨jFA, jWC, jNJ, jPS, jKQ⟩, jJ, jE⟩, jTP, jW9⟩, jNE, jCC⟩, -⟩, jOV⟩, jW8⟩, jNN⟩, jAN⟩, jFF, jFP⟩ := H
  have b_1 := g_b hG (a := 77) (i := 7) (lo := 0) (hi := 500) rfl rfl
  have b_2 := g_b hG (a := 77) (i := 6) (lo := 0) (hi := 500) rfl rfl
  have b_3 := g_b hG (a := 1) (i := 1) (lo := 0) (hi := 500) rfl rfl
  have b_4 := g_b hG (a := 77) (i := 1) (lo := 0) (hi := 500) rfl rfl
  have b_5 := g_b hG (a := 0) (i := 12) (lo := 0) (hi := 30) rfl rfl
  have b_6 := g_b hG (a := 77) (i := 28) (lo := 0) (hi := 30) rfl rfl
  have b_7 := g_b hG (a := 6) (i := 0) (lo := 0) (hi := 150) rfl rfl
  have b_8 := g_b hG (a := 77) (i := 29) (lo := 0) (hi := 150) rfl rfl
  refine to_an (pc := 599) rw_0_599 rfl (to_an (pc := 600) rw_0_600 rfl (to_i (pc := 601) rw_0_601 rfl (to_c (pc := 603) rw_0_603 (x := (1 : Int32)) rfl rfl (s_add (pc := 604) rw_0_604 (A := i.toInt) (B := 1) rfl rfl (by omega) (fun v9 e10 => s_x0 (pc := 605) rw_0_605 hL (A := v9.toInt) rfl (by omega) (by omega) (fun v11 e12 => to_an (pc := 606) rw_0_606 rfl (to_i (pc := 607) rw_0_607 rfl (to_c (pc := 609) rw_0_609 (x := (2 : Int32)) rfl rfl (s_add (pc := 610) rw_0_610 (A := i.toInt) (B := 2) rfl rfl (by omega) (fun v13 e14 => s_x0 (pc := 611) rw_0_611 hL (A := v13.toInt) rfl (by omega) (by omega) (fun v15 e16 => to_an (pc := 612) rw_0_612 rfl ?_)))))))))))
  refine to_i (pc := 613) rw_0_613 rfl (to_c (pc := 615) rw_0_615 (x := (3 : Int32)) rfl rfl (s_add (pc := 616) rw_0_616 (A := i.toInt) (B := 3) rfl rfl (by omega) (fun v17 e18 => s_x0 (pc := 617) rw_0_617 hL (A := v17.toInt) rfl (by omega) (by omega) (fun v19 e20 => b_ieq (pc := 618) rw_0_618 (A := v19.toInt) rfl (fun h21 => ?_) (fun h21 => ?_)))))
  · refine to_c (pc := 625) rw_0_625 (x := (0 : Int32)) rfl rfl (s_v (pc := 626) rw_0_626 (dp0 hd (by decide)) (ls0 := [.ref 0, .int v11, .int v15, .int (0 : Int32)]) rfl (Nat.le_of_ble_eq_true rfl) (Nat.le_of_ble_eq_true rfl) rfl (to_rc rfl rfl rfl (g_o hG rfl)) rfl ?_)
    have k_22 : (0 : Int32).toInt = 0 := rfl
    obtain ⟨pz23, pzz23, qz23, qzz23, hpz23, hpzz23, hqz23, hqzz23, hpqz23⟩ := id jPQE
    obtain ⟨sg, NN, nz, ca, hs1, hs2, hn1, hn2, hn3, hn4, hn5⟩ := AN_u jAN hpqz23
    refine E_121 hX (dp1 hd (by decide)) hG hpz23 hpzz23 hqz23 hqzz23 hpqz23 (by (first | (clear hpz23 hpzz23 hqz23 hqzz23; omega) | (clear hpz23 hpzz23 hqz23; omega) | omega)) (by (first | (clear hpz23 hpzz23 hqz23 hqzz23; omega) | (clear hpz23 hpzz23 hqz23; omega) | omega)) jNI jPI jQI hs1.1 (c := v11) (e := v15) (m := (0 : Int32)) (sg := sg) (p := pz23) (pz := pzz23) (q := qz23) (qz := qzz23) (fun r24 M33 hG26 F25 p_27 p_28 p_29 p_30 p_31 p_32 => ?_)
    have n_34 : M33.1.2.1 = M.1.2.1 ∧ M33.1.2.2.1 = M.1.2.2.1 := by rw [F25.1]; exact ⟨rfl, rfl⟩
    have b_36 := g_b hG26 (a := 6) (i := 0) (lo := 0) (hi := 150) rfl rfl
    have c_37 : M33.2.1 77 29 = (M.2.1 77 29) := (F_n F25 (show ¬ (6 ≤ 77 ∧ 77 ≤ 10) by decide) rfl)
    have t_38 : (M33.2.1 77 29).toInt = (M.2.1 77 29).toInt := congrArg Int32.toInt c_37
    refine to_popi (pc := 629) rw_0_629 (to_an (pc := 630) rw_0_630 rfl (to_an (pc := 631) rw_0_631 rfl (to_i (pc := 632) rw_0_632 rfl (to_c (pc := 634) rw_0_634 (x := (1 : Int32)) rfl rfl (s_addk (pc := 635) rw_0_635 (A := i.toInt) (B := 1) rfl rfl (by (first | (clear hpz23 hpzz23 hqz23 hqzz23 p_30 p_31; omega) | (clear hpz23 hpzz23 hqz23 hqzz23; omega) | (clear hpz23 hpzz23 hqz23 p_30 p_31; omega) | omega)) (v := v9) e10 (s_x0k (pc := 636) rw_0_636 hL (A := v9.toInt) rfl (by (first | (clear hpz23 hpzz23 hqz23 hqzz23 p_30 p_31; omega) | (clear hpz23 hpzz23 hqz23 hqzz23; omega) | (clear hpz23 hpzz23 hqz23 p_30 p_31; omega) | omega)) (by (first | (clear hpz23 hpzz23 hqz23 hqzz23 p_30 p_31; omega) | (clear hpz23 hpzz23 hqz23 hqzz23; omega) | (clear hpz23 hpzz23 hqz23 p_30 p_31; omega) | omega)) (v := v11) e12 (to_an (pc := 637) rw_0_637 rfl (to_i (pc := 638) rw_0_638 rfl (to_c (pc := 640) rw_0_640 (x := (2 : Int32)) rfl rfl (s_addk (pc := 641) rw_0_641 (A := i.toInt) (B := 2) rfl rfl (by (first | (clear hpz23 hpzz23 hqz23 hqzz23 p_30 p_31; omega) | (clear hpz23 hpzz23 hqz23 hqzz23; omega) | (clear hpz23 hpzz23 hqz23 p_30 p_31; omega) | omega)) (v := v13) e14 (s_x0k (pc := 642) rw_0_642 hL (A := v13.toInt) rfl (by (first | (clear hpz23 hpzz23 hqz23 hqzz23 p_30 p_31; omega) | (clear hpz23 hpzz23 hqz23 hqzz23; omega) | (clear hpz23 hpzz23 hqz23 p_30 p_31; omega) | omega)) (by (first | (clear hpz23 hpzz23 hqz23 hqzz23 p_30 p_31; omega) | (clear hpz23 hpzz23 hqz23 hqzz23; omega) | (clear hpz23 hpzz23 hqz23 p_30 p_31; omega) | omega)) (v := v15) e16 ?_)))))))))))
    refine to_an (pc := 643) rw_0_643 rfl (to_i (pc := 644) rw_0_644 rfl (to_c (pc := 646) rw_0_646 (x := (3 : Int32)) rfl rfl (s_addk (pc := 647) rw_0_647 (A := i.toInt) (B := 3) rfl rfl (by (first | (clear hpz23 hpzz23 hqz23 hqzz23 p_30 p_31; omega) | (clear hpz23 hpzz23 hqz23 hqzz23; omega) | (clear hpz23 hpzz23 hqz23 p_30 p_31; omega) | omega)) (v := v17) e18 (s_x0k (pc := 648) rw_0_648 hL (A := v17.toInt) rfl (by (first | (clear hpz23 hpzz23 hqz23 hqzz23 p_30 p_31; omega) | (clear hpz23 hpzz23 hqz23 hqzz23; omega) | (clear hpz23 hpzz23 hqz23 p_30 p_31; omega) | omega)) (by (first | (clear hpz23 hpzz23 hqz23 hqzz23 p_30 p_31; omega) | (clear hpz23 hpzz23 hqz23 hqzz23; omega) | (clear hpz23 hpzz23 hqz23 p_30 p_31; omega) | omega)) (v := v19) e20 (b_ieq_t (pc := 649) rw_0_649 (A := v19.toInt) rfl (by (first | (clear hpz23 hpzz23 hqz23 hqzz23 p_30 p_31; omega) | (clear hpz23 hpzz23 hqz23 hqzz23; omega) | (clear hpz23 hpzz23 hqz23 p_30 p_31; omega) | omega)) (to_c (pc := 656) rw_0_656 (x := (0 : Int32)) rfl rfl (s_v (pc := 657) rw_0_657 (dp0 hd (by decide)) (ls0 := [.ref 77, .int v11, .int v15, .int (0 : Int32)]) rfl (Nat.le_of_ble_eq_true rfl) (Nat.le_of_ble_eq_true rfl) rfl (to_rc rfl rfl rfl (g_o hG26 rfl)) rfl ?_)))))))
    have c_45 : M33.2.1 77 28 = (M.2.1 77 28) := (F_n F25 (show ¬ (6 ≤ 77 ∧ 77 ≤ 10) by decide) rfl)
    have t_46 : (M33.2.1 77 28).toInt = (M.2.1 77 28).toInt := congrArg Int32.toInt c_45
    have j_47 := (NJ_f (tg_617 F25) jNJ)
    have j_48 := (PLk_f (tg_619 F25) hs2.1)
    refine E_196 hX (dp1 hd (by decide)) hG26 (by (first | (clear hpz23 hpzz23 hqz23 hqzz23 p_30 p_31; omega) | (clear hpz23 hpzz23 hqz23 hqzz23; omega) | (clear hpz23 hpzz23 hqz23 p_30 p_31; omega) | omega)) (by (first | (clear hpz23 hpzz23 hqz23 hqzz23 p_30 p_31; omega) | (clear hpz23 hpzz23 hqz23 hqzz23; omega) | (clear hpz23 hpzz23 hqz23 p_30 p_31; omega) | omega)) j_47 j_48 (c := v11) (e := v15) (m := (0 : Int32)) (sg := sg) (fun r49 M56 hG51 F50 p_52 p_53 p_54 p_55 => ?_)
    have n_57 : M56.1.2.1 = M33.1.2.1 ∧ M56.1.2.2.1 = M33.1.2.2.1 := by rw [F50.1]; exact ⟨rfl, rfl⟩
    have b_59 := g_b hG51 (a := 77) (i := 29) (lo := 0) (hi := 150) rfl rfl
    have k_60 : (1 : Int32).toInt = 1 := rfl
    have k_61 : (2 : Int32).toInt = 2 := rfl
    have k_62 : (3 : Int32).toInt = 3 := rfl
    have k_63 : (4 : Int32).toInt = 4 := rfl
    have k_64 : (5 : Int32).toInt = 5 := rfl
    have z_65 := x_tk_b (0 : Int32)
    have z_66 := AN_n hpz23 hpqz23 hs1 hs2 hn1 hn2 hn3 hn4 hn5 F25 (fun a i z => show ¬ (6 ≤ a ∧ a ≤ 10) by (first | (clear hpz23 hpzz23 hqz23 hqzz23 p_30 p_31 p_53 p_54 z_65; omega) | (clear hpz23 hpzz23 hqz23 hqzz23; omega) | (clear hpz23 hpzz23 hqz23 p_30 p_31 p_53 p_54 z_65; omega) | omega)) F50 (fun a i z => show ¬ (a = 77 ∧ (i = 2 ∨ i = 29) ∨ 90 ≤ a ∧ a ≤ 93) by (first | (clear hpz23 hpzz23 hqz23 hqzz23 p_30 p_31 p_53 p_54 z_65; omega) | (clear hpz23 hpzz23 hqz23 hqzz23; omega) | (clear hpz23 hpzz23 hqz23 p_30 p_31 p_53 p_54 z_65; omega) | omega)) p_32 p_55 (by (first | (clear hpz23 hpzz23 hqz23 hqzz23 p_30 p_31 p_53 p_54 z_65; omega) | (clear hpz23 hpzz23 hqz23 hqzz23; omega) | (clear hpz23 hpzz23 hqz23 p_30 p_31 p_53 p_54 z_65; omega) | omega)) (by (first | (clear hpz23 hpzz23 hqz23 hqzz23 p_30 p_31 p_53 p_54 z_65; omega) | (clear hpz23 hpzz23 hqz23 hqzz23; omega) | (clear hpz23 hpzz23 hqz23 p_30 p_31 p_53 p_54 z_65; omega) | omega)) (by (first | (clear hpz23 hpzz23 hqz23 hqzz23 p_30 p_31 p_53 p_54 z_65; omega) | (clear hpz23 hpzz23 hqz23 hqzz23; omega) | (clear hpz23 hpzz23 hqz23 p_30 p_31 p_53 p_54 z_65; omega) | omega)) (by (first | (clear hpz23 hpzz23 hqz23 hqzz23 p_30 p_31 p_53 p_54 z_65; omega) | (clear hpz23 hpzz23 hqz23 hqzz23; omega) | (clear hpz23 hpzz23 hqz23 p_30 p_31 p_53 p_54 z_65; omega) | omega)) (fun z9 => ⟨fun z => by (first | (clear hpz23 hpzz23 hqz23 hqzz23 p_30 p_31 p_53 p_54 z_65; omega) | (clear hpz23 hpzz23 hqz23 hqzz23; omega) | (clear hpz23 hpzz23 hqz23 p_30 p_31 p_53 p_54 z_65; omega) | omega), fun z => by (first | (clear hpz23 hpzz23 hqz23 hqzz23 p_30 p_31 p_53 p_54 z_65; omega) | (clear hpz23 hpzz23 hqz23 hqzz23; omega) | (clear hpz23 hpzz23 hqz23 p_30 p_31 p_53 p_54 z_65; omega) | omega), fun z => by (first | (clear hpz23 hpzz23 hqz23 hqzz23 p_30 p_31 p_53 p_54 z_65; omega) | (clear hpz23 hpzz23 hqz23 hqzz23; omega) | (clear hpz23 hpzz23 hqz23 p_30 p_31 p_53 p_54 z_65; omega) | omega), fun z => by (first | (clear hpz23 hpzz23 hqz23 hqzz23 p_30 p_31 p_53 p_54 z_65; omega) | (clear hpz23 hpzz23 hqz23 hqzz23; omega) | (clear hpz23 hpzz23 hqz23 p_30 p_31 p_53 p_54 z_65; omega) | omega), fun z => by (first | (clear hpz23 hpzz23 hqz23 hqzz23 p_30 p_31 p_53 p_54 z_65; omega) | (clear hpz23 hpzz23 hqz23 hqzz23; omega) | (clear hpz23 hpzz23 hqz23 p_30 p_31 p_53 p_54 z_65; omega) | omega)⟩)
    refine to_popi (pc := 660) rw_0_660 (to_go (pc := 661) rw_0_661 ?_)
    have c_67 : M56.2.1 77 7 = (M.2.1 77 7) := (F_n F50 (show ¬ (77 = 77 ∧ (7 = 2 ∨ 7 = 29) ∨ 90 ≤ 77 ∧ 77 ≤ 93) by decide) (F_n F25 (show ¬ (6 ≤ 77 ∧ 77 ≤ 10) by decide) rfl))
    have t_68 : (M56.2.1 77 7).toInt = (M.2.1 77 7).toInt := congrArg Int32.toInt c_67
    have c_69 : M56.2.1 77 6 = (M.2.1 77 6) := (F_n F50 (show ¬ (77 = 77 ∧ (6 = 2 ∨ 6 = 29) ∨ 90 ≤ 77 ∧ 77 ≤ 93) by decide) (F_n F25 (show ¬ (6 ≤ 77 ∧ 77 ≤ 10) by decide) rfl))
    have t_70 : (M56.2.1 77 6).toInt = (M.2.1 77 6).toInt := congrArg Int32.toInt c_69
    have c_71 : M56.2.1 1 1 = (M.2.1 1 1) := (F_n F50 (show ¬ (1 = 77 ∧ (1 = 2 ∨ 1 = 29) ∨ 90 ≤ 1 ∧ 1 ≤ 93) by decide) (F_n F25 (show ¬ (6 ≤ 1 ∧ 1 ≤ 10) by decide) rfl))
    have t_72 : (M56.2.1 1 1).toInt = (M.2.1 1 1).toInt := congrArg Int32.toInt c_71
    have c_73 : M56.2.1 77 1 = (M.2.1 77 1) := (F_n F50 (show ¬ (77 = 77 ∧ (1 = 2 ∨ 1 = 29) ∨ 90 ≤ 77 ∧ 77 ≤ 93) by decide) (F_n F25 (show ¬ (6 ≤ 77 ∧ 77 ≤ 10) by decide) rfl))
    have t_74 : (M56.2.1 77 1).toInt = (M.2.1 77 1).toInt := congrArg Int32.toInt c_73
    have c_75 : M56.2.1 0 12 = (M.2.1 0 12) := (F_n F50 (show ¬ (0 = 77 ∧ (12 = 2 ∨ 12 = 29) ∨ 90 ≤ 0 ∧ 0 ≤ 93) by decide) (F_n F25 (show ¬ (6 ≤ 0 ∧ 0 ≤ 10) by decide) rfl))
    have t_76 : (M56.2.1 0 12).toInt = (M.2.1 0 12).toInt := congrArg Int32.toInt c_75
    have c_77 : M56.2.1 77 28 = (M.2.1 77 28) := (F_n F50 (show ¬ (77 = 77 ∧ (28 = 2 ∨ 28 = 29) ∨ 90 ≤ 77 ∧ 77 ≤ 93) by decide) c_45)
    have t_78 : (M56.2.1 77 28).toInt = (M.2.1 77 28).toInt := congrArg Int32.toInt c_77
    have c_79 : M56.2.1 17 4 = (M.2.1 17 4) := (F_n F50 (show ¬ (17 = 77 ∧ (4 = 2 ∨ 4 = 29) ∨ 90 ≤ 17 ∧ 17 ≤ 93) by decide) (F_n F25 (show ¬ (6 ≤ 17 ∧ 17 ≤ 10) by decide) rfl))
    have t_80 : (M56.2.1 17 4).toInt = (M.2.1 17 4).toInt := congrArg Int32.toInt c_79
    have c_81 : M56.2.1 77 41 = (M.2.1 77 41) := (F_n F50 (show ¬ (77 = 77 ∧ (41 = 2 ∨ 41 = 29) ∨ 90 ≤ 77 ∧ 77 ≤ 93) by decide) (F_n F25 (show ¬ (6 ≤ 77 ∧ 77 ≤ 10) by decide) rfl))
    have t_82 : (M56.2.1 77 41).toInt = (M.2.1 77 41).toInt := congrArg Int32.toInt c_81
    have c_83 : M56.2.1 6 0 = (M33.2.1 6 0) := (F_n F50 (show ¬ (6 = 77 ∧ (0 = 2 ∨ 0 = 29) ∨ 90 ≤ 6 ∧ 6 ≤ 93) by decide) rfl)
    have t_84 : (M56.2.1 6 0).toInt = (M33.2.1 6 0).toInt := congrArg Int32.toInt c_83
    have c_85 : M56.2.1 1 10 = (M.2.1 1 10) := (F_n F50 (show ¬ (1 = 77 ∧ (10 = 2 ∨ 10 = 29) ∨ 90 ≤ 1 ∧ 1 ≤ 93) by decide) (F_n F25 (show ¬ (6 ≤ 1 ∧ 1 ≤ 10) by decide) rfl))
    have t_86 : (M56.2.1 1 10).toInt = (M.2.1 1 10).toInt := congrArg Int32.toInt c_85
    have c_87 : M56.2.1 77 4 = (M.2.1 77 4) := (F_n F50 (show ¬ (77 = 77 ∧ (4 = 2 ∨ 4 = 29) ∨ 90 ≤ 77 ∧ 77 ≤ 93) by decide) (F_n F25 (show ¬ (6 ≤ 77 ∧ 77 ≤ 10) by decide) rfl))
    have t_88 : (M56.2.1 77 4).toInt = (M.2.1 77 4).toInt := congrArg Int32.toInt c_87
    have c_89 : M56.2.1 1 11 = (M.2.1 1 11) := (F_n F50 (show ¬ (1 = 77 ∧ (11 = 2 ∨ 11 = 29) ∨ 90 ≤ 1 ∧ 1 ≤ 93) by decide) (F_n F25 (show ¬ (6 ≤ 1 ∧ 1 ≤ 10) by decide) rfl))
    have t_90 : (M56.2.1 1 11).toInt = (M.2.1 1 11).toInt := congrArg Int32.toInt c_89
    have c_91 : M56.2.1 77 5 = (M.2.1 77 5) := (F_n F50 (show ¬ (77 = 77 ∧ (5 = 2 ∨ 5 = 29) ∨ 90 ≤ 77 ∧ 77 ≤ 93) by decide) (F_n F25 (show ¬ (6 ≤ 77 ∧ 77 ≤ 10) by decide) rfl))
    have t_92 : (M56.2.1 77 5).toInt = (M.2.1 77 5).toInt := congrArg Int32.toInt c_91
    have j_93 := (PI_f (tg_620 F50) p_28)
    have j_94 := (NI_f (tg_621 F50) p_27)
    have j_95 := (QI_f (tg_622 F50) p_29)
    have j_96 := (PQE_r F50.2.1 (PQE_r F25.2.1 jPQE))
    have j_97 := (FA_f (tg_623 F50) (FA_f (tg_618 F25) jFA))
    have j_98 := (WC_f (tg_624 F50) (WC_f (tg_625 F25) jWC))
    have j_99 := (PS_f (tg_626 F50) (PS_f (tg_627 F25) jPS))
    have j_100 := (KQ_f (tg_628 F50) (KQ_f (tg_629 F25) jKQ))
    have j_101 := (TP_f (tg_630 F50) (TP_f (tg_631 F25) jTP))
    have j_102 := (W9_f (tg_632 F50) (W9_f (tg_633 F25) jW9))
    have j_103 := (NE_r F50.2.1 (NE_r F25.2.1 jNE))
    have j_104 := (W8_f (tg_634 F50) (W8_f (tg_635 F25) jW8))
    exact h M56 (u5) (u6) ⟨⟨⟨⟨⟨⟨⟨⟨⟨hG51, ⟨j_93, j_94, j_95, j_96⟩, ⟨j_97, j_98, p_52, j_99, j_100⟩, by (first | (clear hpz23 hpzz23 hqz23 hqzz23 p_30 p_31 p_53 p_54 z_65; omega) | (clear hpz23 hpzz23 hqz23 hqzz23; omega) | (clear hpz23 hpzz23 hqz23 p_30 p_31 p_53 p_54 z_65; omega) | omega), by (first | (clear hpz23 hpzz23 hqz23 hqzz23 p_30 p_31 p_53 p_54 z_65; omega) | (clear hpz23 hpzz23 hqz23 hqzz23; omega) | (clear hpz23 hpzz23 hqz23 p_30 p_31 p_53 p_54 z_65; omega) | omega)⟩, j_101, j_102⟩, j_103, by (first | (clear hpz23 hpzz23 hqz23 hqzz23 p_30 p_31 p_53 p_54 z_65; omega) | (clear hpz23 hpzz23 hqz23 hqzz23; omega) | (clear hpz23 hpzz23 hqz23 p_30 p_31 p_53 p_54 z_65; omega) | omega)⟩, AN_a z_66⟩, by (first | (clear hpz23 hpzz23 hqz23 hqzz23 p_30 p_31 p_53 p_54 z_65; omega) | (clear hpz23 hpzz23 hqz23 hqzz23; omega) | (clear hpz23 hpzz23 hqz23 p_30 p_31 p_53 p_54 z_65; omega) | omega)⟩, j_104⟩, by (first | (clear hpz23 hpzz23 hqz23 hqzz23 p_30 p_31 p_53 p_54 z_65; omega) | (clear hpz23 hpzz23 hqz23 hqzz23; omega) | (clear hpz23 hpzz23 hqz23 p_30 p_31 p_53 p_54 z_65; omega) | omega)⟩, z_66⟩, by (first | (clear hpz23 hpzz23 hqz23 hqzz23 p_30 p_31 p_53 p_54 z_65; omega) | (clear hpz23 hpzz23 hqz23 hqzz23; omega) | (clear hpz23 hpzz23 hqz23 p_30 p_31 p_53 p_54 z_65; omega) | omega), by (first | (clear hpz23 hpzz23 hqz23 hqzz23 p_30 p_31 p_53 p_54 z_65; omega) | (clear hpz23 hpzz23 hqz23 hqzz23; omega) | (clear hpz23 hpzz23 hqz23 p_30 p_31 p_53 p_54 z_65; omega) | omega)⟩ (by (first | (clear hpz23 hpzz23 hqz23 hqzz23 p_30 p_31 p_53 p_54 z_65; omega) | (clear hpz23 hpzz23 hqz23 hqzz23; omega) | (clear hpz23 hpzz23 hqz23 p_30 p_31 p_53 p_54 z_65; omega) | omega)) (by (first | (clear hpz23 hpzz23 hqz23 hqzz23 p_30 p_31 p_53 p_54 z_65; omega) | (clear hpz23 hpzz23 hqz23 hqzz23; omega) | (clear hpz23 hpzz23 hqz23 p_30 p_31 p_53 p_54 z_65; omega) | omega))
  · refine to_c (pc := 621) rw_0_621 (x := (1 : Int32)) rfl rfl (to_go (pc := 622) rw_0_622 (s_v (pc := 626) rw_0_626 (dp0 hd (by decide)) (ls0 := [.ref 0, .int v11, .int v15, .int (1 : Int32)]) rfl (Nat.le_of_ble_eq_true rfl) (Nat.le_of_ble_eq_true rfl) rfl (to_rc rfl rfl rfl (g_o hG rfl)) rfl ?_))
    have k_105 : (1 : Int32).toInt = 1 := rfl
    obtain ⟨pz106, pzz106, qz106, qzz106, hpz106, hpzz106, hqz106, hqzz106, hpqz106⟩ := id jPQE
    obtain ⟨sg, NN, nz, ca, hs1, hs2, hn1, hn2, hn3, hn4, hn5⟩ := AN_u jAN hpqz106
    refine E_121 hX (dp1 hd (by decide)) hG hpz106 hpzz106 hqz106 hqzz106 hpqz106 (by (first | (clear h21 hpz106 hpzz106 hqz106 hqzz106; omega) | (clear hpz106 hpzz106 hqz106 hqzz106; omega) | (clear h21 hpz106 hpzz106 hqz106; omega) | omega)) (by (first | (clear h21 hpz106 hpzz106 hqz106 hqzz106; omega) | (clear hpz106 hpzz106 hqz106 hqzz106; omega) | (clear h21 hpz106 hpzz106 hqz106; omega) | omega)) jNI jPI jQI hs1.1 (c := v11) (e := v15) (m := (1 : Int32)) (sg := sg) (p := pz106) (pz := pzz106) (q := qz106) (qz := qzz106) (fun r107 M116 hG109 F108 p_110 p_111 p_112 p_113 p_114 p_115 => ?_)
    have n_117 : M116.1.2.1 = M.1.2.1 ∧ M116.1.2.2.1 = M.1.2.2.1 := by rw [F108.1]; exact ⟨rfl, rfl⟩
    have b_119 := g_b hG109 (a := 6) (i := 0) (lo := 0) (hi := 150) rfl rfl
    have c_120 : M116.2.1 77 29 = (M.2.1 77 29) := (F_n F108 (show ¬ (6 ≤ 77 ∧ 77 ≤ 10) by decide) rfl)
    have t_121 : (M116.2.1 77 29).toInt = (M.2.1 77 29).toInt := congrArg Int32.toInt c_120
    refine to_popi (pc := 629) rw_0_629 (to_an (pc := 630) rw_0_630 rfl (to_an (pc := 631) rw_0_631 rfl (to_i (pc := 632) rw_0_632 rfl (to_c (pc := 634) rw_0_634 (x := (1 : Int32)) rfl rfl (s_addk (pc := 635) rw_0_635 (A := i.toInt) (B := 1) rfl rfl (by (first | (clear h21 hpz106 hpzz106 hqz106 hqzz106 p_113 p_114; omega) | (clear hpz106 hpzz106 hqz106 hqzz106; omega) | (clear h21 hpz106 hpzz106 hqz106 p_113 p_114; omega) | omega)) (v := v9) e10 (s_x0k (pc := 636) rw_0_636 hL (A := v9.toInt) rfl (by (first | (clear h21 hpz106 hpzz106 hqz106 hqzz106 p_113 p_114; omega) | (clear hpz106 hpzz106 hqz106 hqzz106; omega) | (clear h21 hpz106 hpzz106 hqz106 p_113 p_114; omega) | omega)) (by (first | (clear h21 hpz106 hpzz106 hqz106 hqzz106 p_113 p_114; omega) | (clear hpz106 hpzz106 hqz106 hqzz106; omega) | (clear h21 hpz106 hpzz106 hqz106 p_113 p_114; omega) | omega)) (v := v11) e12 (to_an (pc := 637) rw_0_637 rfl (to_i (pc := 638) rw_0_638 rfl (to_c (pc := 640) rw_0_640 (x := (2 : Int32)) rfl rfl (s_addk (pc := 641) rw_0_641 (A := i.toInt) (B := 2) rfl rfl (by (first | (clear h21 hpz106 hpzz106 hqz106 hqzz106 p_113 p_114; omega) | (clear hpz106 hpzz106 hqz106 hqzz106; omega) | (clear h21 hpz106 hpzz106 hqz106 p_113 p_114; omega) | omega)) (v := v13) e14 (s_x0k (pc := 642) rw_0_642 hL (A := v13.toInt) rfl (by (first | (clear h21 hpz106 hpzz106 hqz106 hqzz106 p_113 p_114; omega) | (clear hpz106 hpzz106 hqz106 hqzz106; omega) | (clear h21 hpz106 hpzz106 hqz106 p_113 p_114; omega) | omega)) (by (first | (clear h21 hpz106 hpzz106 hqz106 hqzz106 p_113 p_114; omega) | (clear hpz106 hpzz106 hqz106 hqzz106; omega) | (clear h21 hpz106 hpzz106 hqz106 p_113 p_114; omega) | omega)) (v := v15) e16 ?_)))))))))))
    refine to_an (pc := 643) rw_0_643 rfl (to_i (pc := 644) rw_0_644 rfl (to_c (pc := 646) rw_0_646 (x := (3 : Int32)) rfl rfl (s_addk (pc := 647) rw_0_647 (A := i.toInt) (B := 3) rfl rfl (by (first | (clear h21 hpz106 hpzz106 hqz106 hqzz106 p_113 p_114; omega) | (clear hpz106 hpzz106 hqz106 hqzz106; omega) | (clear h21 hpz106 hpzz106 hqz106 p_113 p_114; omega) | omega)) (v := v17) e18 (s_x0k (pc := 648) rw_0_648 hL (A := v17.toInt) rfl (by (first | (clear h21 hpz106 hpzz106 hqz106 hqzz106 p_113 p_114; omega) | (clear hpz106 hpzz106 hqz106 hqzz106; omega) | (clear h21 hpz106 hpzz106 hqz106 p_113 p_114; omega) | omega)) (by (first | (clear h21 hpz106 hpzz106 hqz106 hqzz106 p_113 p_114; omega) | (clear hpz106 hpzz106 hqz106 hqzz106; omega) | (clear h21 hpz106 hpzz106 hqz106 p_113 p_114; omega) | omega)) (v := v19) e20 (b_ieq (pc := 649) rw_0_649 (A := v19.toInt) rfl (fun h128 => ?_) (fun h128 => ?_))))))
    · refine to_c (pc := 656) rw_0_656 (x := (0 : Int32)) rfl rfl (s_v (pc := 657) rw_0_657 (dp0 hd (by decide)) (ls0 := [.ref 77, .int v11, .int v15, .int (0 : Int32)]) rfl (Nat.le_of_ble_eq_true rfl) (Nat.le_of_ble_eq_true rfl) rfl (to_rc rfl rfl rfl (g_o hG109 rfl)) rfl ?_)
      have k_129 : (0 : Int32).toInt = 0 := rfl
      have c_130 : M116.2.1 77 28 = (M.2.1 77 28) := (F_n F108 (show ¬ (6 ≤ 77 ∧ 77 ≤ 10) by decide) rfl)
      have t_131 : (M116.2.1 77 28).toInt = (M.2.1 77 28).toInt := congrArg Int32.toInt c_130
      have j_132 := (NJ_f (tg_617 F108) jNJ)
      have j_133 := (PLk_f (tg_619 F108) hs2.1)
      refine E_196 hX (dp1 hd (by decide)) hG109 (by (first | (clear h21 hpz106 hpzz106 hqz106 hqzz106 p_113 p_114; omega) | (clear hpz106 hpzz106 hqz106 hqzz106; omega) | (clear h21 hpz106 hpzz106 hqz106 p_113 p_114; omega) | omega)) (by (first | (clear h21 hpz106 hpzz106 hqz106 hqzz106 p_113 p_114; omega) | (clear hpz106 hpzz106 hqz106 hqzz106; omega) | (clear h21 hpz106 hpzz106 hqz106 p_113 p_114; omega) | omega)) j_132 j_133 (c := v11) (e := v15) (m := (0 : Int32)) (sg := sg) (fun r134 M141 hG136 F135 p_137 p_138 p_139 p_140 => ?_)
      have n_142 : M141.1.2.1 = M116.1.2.1 ∧ M141.1.2.2.1 = M116.1.2.2.1 := by rw [F135.1]; exact ⟨rfl, rfl⟩
      have b_144 := g_b hG136 (a := 77) (i := 29) (lo := 0) (hi := 150) rfl rfl
      have k_145 : (2 : Int32).toInt = 2 := rfl
      have k_146 : (3 : Int32).toInt = 3 := rfl
      have k_147 : (4 : Int32).toInt = 4 := rfl
      have k_148 : (5 : Int32).toInt = 5 := rfl
      have z_149 := x_tk_b (0 : Int32)
      have z_150 : AN M141 := by exfalso; omega
      refine to_popi (pc := 660) rw_0_660 (to_go (pc := 661) rw_0_661 ?_)
      have c_151 : M141.2.1 77 7 = (M.2.1 77 7) := (F_n F135 (show ¬ (77 = 77 ∧ (7 = 2 ∨ 7 = 29) ∨ 90 ≤ 77 ∧ 77 ≤ 93) by decide) (F_n F108 (show ¬ (6 ≤ 77 ∧ 77 ≤ 10) by decide) rfl))
      have t_152 : (M141.2.1 77 7).toInt = (M.2.1 77 7).toInt := congrArg Int32.toInt c_151
      have c_153 : M141.2.1 77 6 = (M.2.1 77 6) := (F_n F135 (show ¬ (77 = 77 ∧ (6 = 2 ∨ 6 = 29) ∨ 90 ≤ 77 ∧ 77 ≤ 93) by decide) (F_n F108 (show ¬ (6 ≤ 77 ∧ 77 ≤ 10) by decide) rfl))
      have t_154 : (M141.2.1 77 6).toInt = (M.2.1 77 6).toInt := congrArg Int32.toInt c_153
      have c_155 : M141.2.1 1 1 = (M.2.1 1 1) := (F_n F135 (show ¬ (1 = 77 ∧ (1 = 2 ∨ 1 = 29) ∨ 90 ≤ 1 ∧ 1 ≤ 93) by decide) (F_n F108 (show ¬ (6 ≤ 1 ∧ 1 ≤ 10) by decide) rfl))
      have t_156 : (M141.2.1 1 1).toInt = (M.2.1 1 1).toInt := congrArg Int32.toInt c_155
      have c_157 : M141.2.1 77 1 = (M.2.1 77 1) := (F_n F135 (show ¬ (77 = 77 ∧ (1 = 2 ∨ 1 = 29) ∨ 90 ≤ 77 ∧ 77 ≤ 93) by decide) (F_n F108 (show ¬ (6 ≤ 77 ∧ 77 ≤ 10) by decide) rfl))
      have t_158 : (M141.2.1 77 1).toInt = (M.2.1 77 1).toInt := congrArg Int32.toInt c_157
      have c_159 : M141.2.1 0 12 = (M.2.1 0 12) := (F_n F135 (show ¬ (0 = 77 ∧ (12 = 2 ∨ 12 = 29) ∨ 90 ≤ 0 ∧ 0 ≤ 93) by decide) (F_n F108 (show ¬ (6 ≤ 0 ∧ 0 ≤ 10) by decide) rfl))
      have t_160 : (M141.2.1 0 12).toInt = (M.2.1 0 12).toInt := congrArg Int32.toInt c_159
      have c_161 : M141.2.1 77 28 = (M.2.1 77 28) := (F_n F135 (show ¬ (77 = 77 ∧ (28 = 2 ∨ 28 = 29) ∨ 90 ≤ 77 ∧ 77 ≤ 93) by decide) c_130)
      have t_162 : (M141.2.1 77 28).toInt = (M.2.1 77 28).toInt := congrArg Int32.toInt c_161
      have c_163 : M141.2.1 17 4 = (M.2.1 17 4) := (F_n F135 (show ¬ (17 = 77 ∧ (4 = 2 ∨ 4 = 29) ∨ 90 ≤ 17 ∧ 17 ≤ 93) by decide) (F_n F108 (show ¬ (6 ≤ 17 ∧ 17 ≤ 10) by decide) rfl))
      have t_164 : (M141.2.1 17 4).toInt = (M.2.1 17 4).toInt := congrArg Int32.toInt c_163
      have c_165 : M141.2.1 77 41 = (M.2.1 77 41) := (F_n F135 (show ¬ (77 = 77 ∧ (41 = 2 ∨ 41 = 29) ∨ 90 ≤ 77 ∧ 77 ≤ 93) by decide) (F_n F108 (show ¬ (6 ≤ 77 ∧ 77 ≤ 10) by decide) rfl))
      have t_166 : (M141.2.1 77 41).toInt = (M.2.1 77 41).toInt := congrArg Int32.toInt c_165
      have c_167 : M141.2.1 6 0 = (M116.2.1 6 0) := (F_n F135 (show ¬ (6 = 77 ∧ (0 = 2 ∨ 0 = 29) ∨ 90 ≤ 6 ∧ 6 ≤ 93) by decide) rfl)
      have t_168 : (M141.2.1 6 0).toInt = (M116.2.1 6 0).toInt := congrArg Int32.toInt c_167
      have c_169 : M141.2.1 1 10 = (M.2.1 1 10) := (F_n F135 (show ¬ (1 = 77 ∧ (10 = 2 ∨ 10 = 29) ∨ 90 ≤ 1 ∧ 1 ≤ 93) by decide) (F_n F108 (show ¬ (6 ≤ 1 ∧ 1 ≤ 10) by decide) rfl))
      have t_170 : (M141.2.1 1 10).toInt = (M.2.1 1 10).toInt := congrArg Int32.toInt c_169
      have c_171 : M141.2.1 77 4 = (M.2.1 77 4) := (F_n F135 (show ¬ (77 = 77 ∧ (4 = 2 ∨ 4 = 29) ∨ 90 ≤ 77 ∧ 77 ≤ 93) by decide) (F_n F108 (show ¬ (6 ≤ 77 ∧ 77 ≤ 10) by decide) rfl))
      have t_172 : (M141.2.1 77 4).toInt = (M.2.1 77 4).toInt := congrArg Int32.toInt c_171
      have c_173 : M141.2.1 1 11 = (M.2.1 1 11) := (F_n F135 (show ¬ (1 = 77 ∧ (11 = 2 ∨ 11 = 29) ∨ 90 ≤ 1 ∧ 1 ≤ 93) by decide) (F_n F108 (show ¬ (6 ≤ 1 ∧ 1 ≤ 10) by decide) rfl))
      have t_174 : (M141.2.1 1 11).toInt = (M.2.1 1 11).toInt := congrArg Int32.toInt c_173
      have c_175 : M141.2.1 77 5 = (M.2.1 77 5) := (F_n F135 (show ¬ (77 = 77 ∧ (5 = 2 ∨ 5 = 29) ∨ 90 ≤ 77 ∧ 77 ≤ 93) by decide) (F_n F108 (show ¬ (6 ≤ 77 ∧ 77 ≤ 10) by decide) rfl))
      have t_176 : (M141.2.1 77 5).toInt = (M.2.1 77 5).toInt := congrArg Int32.toInt c_175
      have j_177 := (PI_f (tg_620 F135) p_111)
      have j_178 := (NI_f (tg_621 F135) p_110)
      have j_179 := (QI_f (tg_622 F135) p_112)
      have j_180 := (PQE_r F135.2.1 (PQE_r F108.2.1 jPQE))
      have j_181 := (FA_f (tg_623 F135) (FA_f (tg_618 F108) jFA))
      have j_182 := (WC_f (tg_624 F135) (WC_f (tg_625 F108) jWC))
      have j_183 := (PS_f (tg_626 F135) (PS_f (tg_627 F108) jPS))
      have j_184 := (KQ_f (tg_628 F135) (KQ_f (tg_629 F108) jKQ))
      have j_185 := (TP_f (tg_630 F135) (TP_f (tg_631 F108) jTP))
      have j_186 := (W9_f (tg_632 F135) (W9_f (tg_633 F108) jW9))
      have j_187 := (NE_r F135.2.1 (NE_r F108.2.1 jNE))
      have j_188 := (W8_f (tg_634 F135) (W8_f (tg_635 F108) jW8))
      exact h M141 (u5) (u6) ⟨⟨⟨⟨⟨⟨⟨⟨⟨hG136, ⟨j_177, j_178, j_179, j_180⟩, ⟨j_181, j_182, p_137, j_183, j_184⟩, by (first | (clear h21 hpz106 hpzz106 hqz106 hqzz106 p_113 p_114 p_138 p_139 z_149; omega) | (clear hpz106 hpzz106 hqz106 hqzz106; omega) | (clear h21 hpz106 hpzz106 hqz106 p_113 p_114 p_138 p_139 z_149; omega) | omega), by (first | (clear h21 hpz106 hpzz106 hqz106 hqzz106 p_113 p_114 p_138 p_139 z_149; omega) | (clear hpz106 hpzz106 hqz106 hqzz106; omega) | (clear h21 hpz106 hpzz106 hqz106 p_113 p_114 p_138 p_139 z_149; omega) | omega)⟩, j_185, j_186⟩, j_187, by (first | (clear h21 hpz106 hpzz106 hqz106 hqzz106 p_113 p_114 p_138 p_139 z_149; omega) | (clear hpz106 hpzz106 hqz106 hqzz106; omega) | (clear h21 hpz106 hpzz106 hqz106 p_113 p_114 p_138 p_139 z_149; omega) | omega)⟩, AN_a z_150⟩, by (first | (clear h21 hpz106 hpzz106 hqz106 hqzz106 p_113 p_114 p_138 p_139 z_149; omega) | (clear hpz106 hpzz106 hqz106 hqzz106; omega) | (clear h21 hpz106 hpzz106 hqz106 p_113 p_114 p_138 p_139 z_149; omega) | omega)⟩, j_188⟩, by (first | (clear h21 hpz106 hpzz106 hqz106 hqzz106 p_113 p_114 p_138 p_139 z_149; omega) | (clear hpz106 hpzz106 hqz106 hqzz106; omega) | (clear h21 hpz106 hpzz106 hqz106 p_113 p_114 p_138 p_139 z_149; omega) | omega)⟩, z_150⟩, by (first | (clear h21 hpz106 hpzz106 hqz106 hqzz106 p_113 p_114 p_138 p_139 z_149; omega) | (clear hpz106 hpzz106 hqz106 hqzz106; omega) | (clear h21 hpz106 hpzz106 hqz106 p_113 p_114 p_138 p_139 z_149; omega) | omega), by (first | (clear h21 hpz106 hpzz106 hqz106 hqzz106 p_113 p_114 p_138 p_139 z_149; omega) | (clear hpz106 hpzz106 hqz106 hqzz106; omega) | (clear h21 hpz106 hpzz106 hqz106 p_113 p_114 p_138 p_139 z_149; omega) | omega)⟩ (by (first | (clear h21 hpz106 hpzz106 hqz106 hqzz106 p_113 p_114 p_138 p_139 z_149; omega) | (clear hpz106 hpzz106 hqz106 hqzz106; omega) | (clear h21 hpz106 hpzz106 hqz106 p_113 p_114 p_138 p_139 z_149; omega) | omega)) (by (first | (clear h21 hpz106 hpzz106 hqz106 hqzz106 p_113 p_114 p_138 p_139 z_149; omega) | (clear hpz106 hpzz106 hqz106 hqzz106; omega) | (clear h21 hpz106 hpzz106 hqz106 p_113 p_114 p_138 p_139 z_149; omega) | omega))
    · refine to_c (pc := 652) rw_0_652 (x := (1 : Int32)) rfl rfl (to_go (pc := 653) rw_0_653 (s_v (pc := 657) rw_0_657 (dp0 hd (by decide)) (ls0 := [.ref 77, .int v11, .int v15, .int (1 : Int32)]) rfl (Nat.le_of_ble_eq_true rfl) (Nat.le_of_ble_eq_true rfl) rfl (to_rc rfl rfl rfl (g_o hG109 rfl)) rfl ?_))
      have c_189 : M116.2.1 77 28 = (M.2.1 77 28) := (F_n F108 (show ¬ (6 ≤ 77 ∧ 77 ≤ 10) by decide) rfl)
      have t_190 : (M116.2.1 77 28).toInt = (M.2.1 77 28).toInt := congrArg Int32.toInt c_189
      have j_191 := (NJ_f (tg_617 F108) jNJ)
      have j_192 := (PLk_f (tg_619 F108) hs2.1)
      refine E_196 hX (dp1 hd (by decide)) hG109 (by (first | (clear h21 hpz106 hpzz106 hqz106 hqzz106 p_113 p_114 h128; omega) | (clear hpz106 hpzz106 hqz106 hqzz106; omega) | (clear h21 hpz106 hpzz106 hqz106 hqzz106 p_113 p_114; omega) | omega)) (by (first | (clear h21 hpz106 hpzz106 hqz106 hqzz106 p_113 p_114 h128; omega) | (clear hpz106 hpzz106 hqz106 hqzz106; omega) | (clear h21 hpz106 hpzz106 hqz106 hqzz106 p_113 p_114; omega) | omega)) j_191 j_192 (c := v11) (e := v15) (m := (1 : Int32)) (sg := sg) (fun r193 M200 hG195 F194 p_196 p_197 p_198 p_199 => ?_)
      have n_201 : M200.1.2.1 = M116.1.2.1 ∧ M200.1.2.2.1 = M116.1.2.2.1 := by rw [F194.1]; exact ⟨rfl, rfl⟩
      have b_203 := g_b hG195 (a := 77) (i := 29) (lo := 0) (hi := 150) rfl rfl
      have k_204 : (0 : Int32).toInt = 0 := rfl
      have k_205 : (2 : Int32).toInt = 2 := rfl
      have k_206 : (3 : Int32).toInt = 3 := rfl
      have k_207 : (4 : Int32).toInt = 4 := rfl
      have k_208 : (5 : Int32).toInt = 5 := rfl
      have z_209 := x_tk_b (1 : Int32)
      have z_210 := AN_n hpz106 hpqz106 hs1 hs2 hn1 hn2 hn3 hn4 hn5 F108 (fun a i z => show ¬ (6 ≤ a ∧ a ≤ 10) by (first | (clear h21 hpz106 hpzz106 hqz106 hqzz106 p_113 p_114 h128 p_197 p_198 z_209; omega) | (clear hpz106 hpzz106 hqz106 hqzz106; omega) | (clear h21 hpz106 hpzz106 hqz106 hqzz106 p_113 p_114 p_197 p_198 z_209; omega) | omega)) F194 (fun a i z => show ¬ (a = 77 ∧ (i = 2 ∨ i = 29) ∨ 90 ≤ a ∧ a ≤ 93) by (first | (clear h21 hpz106 hpzz106 hqz106 hqzz106 p_113 p_114 h128 p_197 p_198 z_209; omega) | (clear hpz106 hpzz106 hqz106 hqzz106; omega) | (clear h21 hpz106 hpzz106 hqz106 hqzz106 p_113 p_114 p_197 p_198 z_209; omega) | omega)) p_115 p_199 (by (first | (clear h21 hpz106 hpzz106 hqz106 hqzz106 p_113 p_114 h128 p_197 p_198 z_209; omega) | (clear hpz106 hpzz106 hqz106 hqzz106; omega) | (clear h21 hpz106 hpzz106 hqz106 hqzz106 p_113 p_114 p_197 p_198 z_209; omega) | omega)) (by (first | (clear h21 hpz106 hpzz106 hqz106 hqzz106 p_113 p_114 h128 p_197 p_198 z_209; omega) | (clear hpz106 hpzz106 hqz106 hqzz106; omega) | (clear h21 hpz106 hpzz106 hqz106 hqzz106 p_113 p_114 p_197 p_198 z_209; omega) | omega)) (by (first | (clear h21 hpz106 hpzz106 hqz106 hqzz106 p_113 p_114 h128 p_197 p_198 z_209; omega) | (clear hpz106 hpzz106 hqz106 hqzz106; omega) | (clear h21 hpz106 hpzz106 hqz106 hqzz106 p_113 p_114 p_197 p_198 z_209; omega) | omega)) (by (first | (clear h21 hpz106 hpzz106 hqz106 hqzz106 p_113 p_114 h128 p_197 p_198 z_209; omega) | (clear hpz106 hpzz106 hqz106 hqzz106; omega) | (clear h21 hpz106 hpzz106 hqz106 hqzz106 p_113 p_114 p_197 p_198 z_209; omega) | omega)) (fun z9 => ⟨fun z => by (first | (clear h21 hpz106 hpzz106 hqz106 hqzz106 p_113 p_114 h128 p_197 p_198 z_209; omega) | (clear hpz106 hpzz106 hqz106 hqzz106; omega) | (clear h21 hpz106 hpzz106 hqz106 hqzz106 p_113 p_114 p_197 p_198 z_209; omega) | omega), fun z => by (first | (clear h21 hpz106 hpzz106 hqz106 hqzz106 p_113 p_114 h128 p_197 p_198 z_209; omega) | (clear hpz106 hpzz106 hqz106 hqzz106; omega) | (clear h21 hpz106 hpzz106 hqz106 hqzz106 p_113 p_114 p_197 p_198 z_209; omega) | omega), fun z => by (first | (clear h21 hpz106 hpzz106 hqz106 hqzz106 p_113 p_114 h128 p_197 p_198 z_209; omega) | (clear hpz106 hpzz106 hqz106 hqzz106; omega) | (clear h21 hpz106 hpzz106 hqz106 hqzz106 p_113 p_114 p_197 p_198 z_209; omega) | omega), fun z => by (first | (clear h21 hpz106 hpzz106 hqz106 hqzz106 p_113 p_114 h128 p_197 p_198 z_209; omega) | (clear hpz106 hpzz106 hqz106 hqzz106; omega) | (clear h21 hpz106 hpzz106 hqz106 hqzz106 p_113 p_114 p_197 p_198 z_209; omega) | omega), fun z => by (first | (clear h21 hpz106 hpzz106 hqz106 hqzz106 p_113 p_114 h128 p_197 p_198 z_209; omega) | (clear hpz106 hpzz106 hqz106 hqzz106; omega) | (clear h21 hpz106 hpzz106 hqz106 hqzz106 p_113 p_114 p_197 p_198 z_209; omega) | omega)⟩)
      refine to_popi (pc := 660) rw_0_660 (to_go (pc := 661) rw_0_661 ?_)
      have c_211 : M200.2.1 77 7 = (M.2.1 77 7) := (F_n F194 (show ¬ (77 = 77 ∧ (7 = 2 ∨ 7 = 29) ∨ 90 ≤ 77 ∧ 77 ≤ 93) by decide) (F_n F108 (show ¬ (6 ≤ 77 ∧ 77 ≤ 10) by decide) rfl))
      have t_212 : (M200.2.1 77 7).toInt = (M.2.1 77 7).toInt := congrArg Int32.toInt c_211
      have c_213 : M200.2.1 77 6 = (M.2.1 77 6) := (F_n F194 (show ¬ (77 = 77 ∧ (6 = 2 ∨ 6 = 29) ∨ 90 ≤ 77 ∧ 77 ≤ 93) by decide) (F_n F108 (show ¬ (6 ≤ 77 ∧ 77 ≤ 10) by decide) rfl))
      have t_214 : (M200.2.1 77 6).toInt = (M.2.1 77 6).toInt := congrArg Int32.toInt c_213
      have c_215 : M200.2.1 1 1 = (M.2.1 1 1) := (F_n F194 (show ¬ (1 = 77 ∧ (1 = 2 ∨ 1 = 29) ∨ 90 ≤ 1 ∧ 1 ≤ 93) by decide) (F_n F108 (show ¬ (6 ≤ 1 ∧ 1 ≤ 10) by decide) rfl))
      have t_216 : (M200.2.1 1 1).toInt = (M.2.1 1 1).toInt := congrArg Int32.toInt c_215
      have c_217 : M200.2.1 77 1 = (M.2.1 77 1) := (F_n F194 (show ¬ (77 = 77 ∧ (1 = 2 ∨ 1 = 29) ∨ 90 ≤ 77 ∧ 77 ≤ 93) by decide) (F_n F108 (show ¬ (6 ≤ 77 ∧ 77 ≤ 10) by decide) rfl))
      have t_218 : (M200.2.1 77 1).toInt = (M.2.1 77 1).toInt := congrArg Int32.toInt c_217
      have c_219 : M200.2.1 0 12 = (M.2.1 0 12) := (F_n F194 (show ¬ (0 = 77 ∧ (12 = 2 ∨ 12 = 29) ∨ 90 ≤ 0 ∧ 0 ≤ 93) by decide) (F_n F108 (show ¬ (6 ≤ 0 ∧ 0 ≤ 10) by decide) rfl))
      have t_220 : (M200.2.1 0 12).toInt = (M.2.1 0 12).toInt := congrArg Int32.toInt c_219
      have c_221 : M200.2.1 77 28 = (M.2.1 77 28) := (F_n F194 (show ¬ (77 = 77 ∧ (28 = 2 ∨ 28 = 29) ∨ 90 ≤ 77 ∧ 77 ≤ 93) by decide) c_189)
      have t_222 : (M200.2.1 77 28).toInt = (M.2.1 77 28).toInt := congrArg Int32.toInt c_221
      have c_223 : M200.2.1 17 4 = (M.2.1 17 4) := (F_n F194 (show ¬ (17 = 77 ∧ (4 = 2 ∨ 4 = 29) ∨ 90 ≤ 17 ∧ 17 ≤ 93) by decide) (F_n F108 (show ¬ (6 ≤ 17 ∧ 17 ≤ 10) by decide) rfl))
      have t_224 : (M200.2.1 17 4).toInt = (M.2.1 17 4).toInt := congrArg Int32.toInt c_223
      have c_225 : M200.2.1 77 41 = (M.2.1 77 41) := (F_n F194 (show ¬ (77 = 77 ∧ (41 = 2 ∨ 41 = 29) ∨ 90 ≤ 77 ∧ 77 ≤ 93) by decide) (F_n F108 (show ¬ (6 ≤ 77 ∧ 77 ≤ 10) by decide) rfl))
      have t_226 : (M200.2.1 77 41).toInt = (M.2.1 77 41).toInt := congrArg Int32.toInt c_225
      have c_227 : M200.2.1 6 0 = (M116.2.1 6 0) := (F_n F194 (show ¬ (6 = 77 ∧ (0 = 2 ∨ 0 = 29) ∨ 90 ≤ 6 ∧ 6 ≤ 93) by decide) rfl)
      have t_228 : (M200.2.1 6 0).toInt = (M116.2.1 6 0).toInt := congrArg Int32.toInt c_227
      have c_229 : M200.2.1 1 10 = (M.2.1 1 10) := (F_n F194 (show ¬ (1 = 77 ∧ (10 = 2 ∨ 10 = 29) ∨ 90 ≤ 1 ∧ 1 ≤ 93) by decide) (F_n F108 (show ¬ (6 ≤ 1 ∧ 1 ≤ 10) by decide) rfl))
      have t_230 : (M200.2.1 1 10).toInt = (M.2.1 1 10).toInt := congrArg Int32.toInt c_229
      have c_231 : M200.2.1 77 4 = (M.2.1 77 4) := (F_n F194 (show ¬ (77 = 77 ∧ (4 = 2 ∨ 4 = 29) ∨ 90 ≤ 77 ∧ 77 ≤ 93) by decide) (F_n F108 (show ¬ (6 ≤ 77 ∧ 77 ≤ 10) by decide) rfl))
      have t_232 : (M200.2.1 77 4).toInt = (M.2.1 77 4).toInt := congrArg Int32.toInt c_231
      have c_233 : M200.2.1 1 11 = (M.2.1 1 11) := (F_n F194 (show ¬ (1 = 77 ∧ (11 = 2 ∨ 11 = 29) ∨ 90 ≤ 1 ∧ 1 ≤ 93) by decide) (F_n F108 (show ¬ (6 ≤ 1 ∧ 1 ≤ 10) by decide) rfl))
      have t_234 : (M200.2.1 1 11).toInt = (M.2.1 1 11).toInt := congrArg Int32.toInt c_233
      have c_235 : M200.2.1 77 5 = (M.2.1 77 5) := (F_n F194 (show ¬ (77 = 77 ∧ (5 = 2 ∨ 5 = 29) ∨ 90 ≤ 77 ∧ 77 ≤ 93) by decide) (F_n F108 (show ¬ (6 ≤ 77 ∧ 77 ≤ 10) by decide) rfl))
      have t_236 : (M200.2.1 77 5).toInt = (M.2.1 77 5).toInt := congrArg Int32.toInt c_235
      have j_237 := (PI_f (tg_620 F194) p_111)
      have j_238 := (NI_f (tg_621 F194) p_110)
      have j_239 := (QI_f (tg_622 F194) p_112)
      have j_240 := (PQE_r F194.2.1 (PQE_r F108.2.1 jPQE))
      have j_241 := (FA_f (tg_623 F194) (FA_f (tg_618 F108) jFA))
      have j_242 := (WC_f (tg_624 F194) (WC_f (tg_625 F108) jWC))
      have j_243 := (PS_f (tg_626 F194) (PS_f (tg_627 F108) jPS))
      have j_244 := (KQ_f (tg_628 F194) (KQ_f (tg_629 F108) jKQ))
      have j_245 := (TP_f (tg_630 F194) (TP_f (tg_631 F108) jTP))
      have j_246 := (W9_f (tg_632 F194) (W9_f (tg_633 F108) jW9))
      have j_247 := (NE_r F194.2.1 (NE_r F108.2.1 jNE))
      have j_248 := (W8_f (tg_634 F194) (W8_f (tg_635 F108) jW8))
      exact h M200 (u5) (u6) ⟨⟨⟨⟨⟨⟨⟨⟨⟨hG195, ⟨j_237, j_238, j_239, j_240⟩, ⟨j_241, j_242, p_196, j_243, j_244⟩, by (first | (clear h21 hpz106 hpzz106 hqz106 hqzz106 p_113 p_114 h128 p_197 p_198 z_209; omega) | (clear hpz106 hpzz106 hqz106 hqzz106; omega) | (clear h21 hpz106 hpzz106 hqz106 hqzz106 p_113 p_114 p_197 p_198 z_209; omega) | omega), by (first | (clear h21 hpz106 hpzz106 hqz106 hqzz106 p_113 p_114 h128 p_197 p_198 z_209; omega) | (clear hpz106 hpzz106 hqz106 hqzz106; omega) | (clear h21 hpz106 hpzz106 hqz106 hqzz106 p_113 p_114 p_197 p_198 z_209; omega) | omega)⟩, j_245, j_246⟩, j_247, by (first | (clear h21 hpz106 hpzz106 hqz106 hqzz106 p_113 p_114 h128 p_197 p_198 z_209; omega) | (clear hpz106 hpzz106 hqz106 hqzz106; omega) | (clear h21 hpz106 hpzz106 hqz106 hqzz106 p_113 p_114 p_197 p_198 z_209; omega) | omega)⟩, AN_a z_210⟩, by (first | (clear h21 hpz106 hpzz106 hqz106 hqzz106 p_113 p_114 h128 p_197 p_198 z_209; omega) | (clear hpz106 hpzz106 hqz106 hqzz106; omega) | (clear h21 hpz106 hpzz106 hqz106 hqzz106 p_113 p_114 p_197 p_198 z_209; omega) | omega)⟩, j_248⟩, by (first | (clear h21 hpz106 hpzz106 hqz106 hqzz106 p_113 p_114 h128 p_197 p_198 z_209; omega) | (clear hpz106 hpzz106 hqz106 hqzz106; omega) | (clear h21 hpz106 hpzz106 hqz106 hqzz106 p_113 p_114 p_197 p_198 z_209; omega) | omega)⟩, z_210⟩, by (first | (clear h21 hpz106 hpzz106 hqz106 hqzz106 p_113 p_114 h128 p_197 p_198 z_209; omega) | (clear hpz106 hpzz106 hqz106 hqzz106; omega) | (clear h21 hpz106 hpzz106 hqz106 hqzz106 p_113 p_114 p_197 p_198 z_209; omega) | omega), by (first | (clear h21 hpz106 hpzz106 hqz106 hqzz106 p_113 p_114 h128 p_197 p_198 z_209; omega) | (clear hpz106 hpzz106 hqz106 hqzz106; omega) | (clear h21 hpz106 hpzz106 hqz106 hqzz106 p_113 p_114 p_197 p_198 z_209; omega) | omega)⟩ (by (first | (clear h21 hpz106 hpzz106 hqz106 hqzz106 p_113 p_114 h128 p_197 p_198 z_209; omega) | (clear hpz106 hpzz106 hqz106 hqzz106; omega) | (clear h21 hpz106 hpzz106 hqz106 hqzz106 p_113 p_114 p_197 p_198 z_209; omega) | omega)) (by (first | (clear h21 hpz106 hpzz106 hqz106 hqzz106 p_113 p_114 h128 p_197 p_198 z_209; omega) | (clear hpz106 hpzz106 hqz106 hqzz106; omega) | (clear h21 hpz106 hpzz106 hqz106 hqzz106 p_113 p_114 p_197 p_198 z_209; omega) | omega))
