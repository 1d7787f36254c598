theorem tg_3 {M M1 : mm_M} (F : FR (fun a i : Nat => a = 1 ∧ i = 5 ∨ 3 ≤ a ∧ a ≤ 5) M M1) : ∀ a i : Nat, a = 2 → M1.2.1 a i = M.2.1 a i := fun a i z => F_n F (show ¬ (a = 1 ∧ i = 5 ∨ 3 ≤ a ∧ a ≤ 5) by omega) rfl
theorem tg_4 : ∀ a i : Nat, (a = 1 ∧ i = 5 ∨ 3 ≤ a ∧ a ≤ 5) → (a = 1 ∨ 3 ≤ a ∧ a ≤ 5) := fun a i z => by omega
theorem tg_5 : ∀ a i : Nat, a = 2 → ¬ (a = 1 ∧ i = 5) := fun a i z => by omega
theorem tg_6 : ∀ a i : Nat, a = 2 → ¬ (a = 1 ∧ i = 11) := fun a i z => by omega
theorem tg_7 : ∀ a i : Nat, a = 2 → ¬ (a = 1 ∧ i = 10) := fun a i z => by omega
theorem tg_8 : ∀ a i : Nat, a = 2 → ¬ (a = 1 ∧ i = 1) := fun a i z => by omega
set_option maxRecDepth 4000 in
set_option maxHeartbeats 0 in
theorem U_79_0 {X : mm_X} {d : Nat} {M : mm_M} {Q : Option Value → mm_M → Prop} {n : Int32} {t : Nat → Int} {nn : Int} (hX : g_X X) (hd : 2 ≤ d) (q1 : 0 ≤ n.toInt) (q2 : n.toInt ≤ 500) (q3 : n.toInt = nn) (q4 : TT M t nn) (q5 : g_W X) (h : ∀ (M1 : mm_M), g_G M1 → FR md_ad M M1 → (1 ≤ (M1.2.1 1 5).toInt) → (TA M1 t nn) → Q (none) M1) : ∀ nn9 : Nat, (∀ (N : mm_M) (x2 : Int32) (u3 : Value) (u4 : Value), g_G N → FR md_ad M N → (0 ≤ x2.toInt) → (x2.toInt ≤ 500) → (x2.toInt ≤ nn) → (TB N t nn x2.toInt) → (TT N t nn) → 500 - x2.toInt < (nn9 : Int) → mm_T X d 79 7 [.ref 1, .int n, .int x2, u3, u4] [] N Q) := by
  intro nn9
  induction nn9 with
  | zero =>
    intro N x2 u3 u4 hG F0 g1 g2 g3 g4 g5 hm
    exfalso; omega
  | succ nn9 ih =>
    intro N x2 u3 u4 hG F0 g1 g2 g3 g4 g5 hm
    refine to_in (pc := 7) rw_79_7 rfl (to_in (pc := 8) rw_79_8 rfl (b_cge (pc := 9) rw_79_9 (A := x2.toInt) (B := n.toInt) rfl rfl (fun h1 => ?_) (fun h1 => ?_)))
    · refine to_an (pc := 96) rw_79_96 rfl (to_c (pc := 97) rw_79_97 (x := (0 : Int32)) rfl rfl (to_c (pc := 98) rw_79_98 (x := (0 : Int32)) rfl rfl (to_in (pc := 99) rw_79_99 rfl (s_v (pc := 100) rw_79_100 (dp0 hd (by decide)) (ls0 := [.ref 1, .int (0 : Int32), .int (0 : Int32), .int n]) rfl (Nat.le_of_ble_eq_true rfl) (Nat.le_of_ble_eq_true rfl) rfl (to_rc rfl rfl rfl (g_o hG rfl)) rfl ?_))))
      have k_2 : (0 : Int32).toInt = 0 := rfl
      have z_3 := g4.2.1
      have b_4 := g_b hG (a := 1) (i := 5) (lo := 0) (hi := 501) rfl rfl
      refine E_82 hX (dp1 hd (by decide)) hG (by omega) (k := (0 : Int32)) (v := (0 : Int32)) (w := n) (fun M8 hG6 F5 p_7 => ?_)
      have F9 := FR.c F0 F5 tg_2
      refine to_rv (pc := 103) rw_79_103 ?_
      have z_10 := p_7.1
      have z_11 := g4.1
      have b_12 := g_b hG6 (a := 1) (i := 5) (lo := 0) (hi := 501) rfl rfl
      exact h M8 hG6 F9 (by omega) (TA_e g4 (by omega) (by omega) (by omega) (show AD _ _ 0 0 nn from (show n.toInt = nn by omega) ▸ p_7))
    · refine to_an (pc := 12) rw_79_12 rfl (to_in (pc := 13) rw_79_13 rfl (s_v (pc := 14) rw_79_14 (dp0 hd (by decide)) (ls0 := [.ref 1, .int x2]) rfl (Nat.le_of_ble_eq_true rfl) (Nat.le_of_ble_eq_true rfl) rfl (to_rc rfl rfl rfl (g_o hG rfl)) rfl (to_in (pc := 0) rw_91_0 rfl (b_ilt_f (pc := 1) rw_91_1 (A := x2.toInt) rfl (by omega) (to_in (pc := 4) rw_91_4 rfl (to_an (pc := 5) rw_91_5 rfl (s_gR (pc := 6) rw_91_6 hG rfl (v := 2) rfl (s_len (pc := 9) rw_91_9 hG rfl rfl (n := 500) rfl (v := (500 : Int32)) rfl (b_cge_f (pc := 10) rw_91_10 (A := x2.toInt) (B := 500) rfl rfl (by omega) (to_an (pc := 13) rw_91_13 rfl (s_gR (pc := 14) rw_91_14 hG rfl (v := 2) rfl ?_)))))))))))
      refine to_in (pc := 17) rw_91_17 rfl (s_bal (pc := 18) rw_91_18 hG rfl (n := 500) rfl (A := x2.toInt) rfl (by omega) (by omega) (lo := -2147483648) (hi := 2147483647) rfl rfl (fun v13 w_14 _ _ => to_c (pc := 19) rw_91_19 (x := (255 : Int32)) rfl rfl (s_and (pc := 22) rw_91_22 (B := 255) rfl (by omega) (fun v15 e16 _ _ => ?_))))
      have z_17 := TT_u g5 (A := x2.toInt) (by omega) (by omega) w_14 e16
      refine to_go (pc := 23) rw_91_23 (to_r0 (pc := 27) rw_91_27 (to_isn (pc := 17) rw_79_17 (ls2 := [.ref 1, .int n, .int x2, .int v15, u4]) rfl rfl (to_in (pc := 18) rw_79_18 rfl (to_c (pc := 19) rw_79_19 (x := (1 : Int32)) rfl rfl (s_add (pc := 20) rw_79_20 (A := x2.toInt) (B := 1) rfl rfl (by omega) (fun v18 e19 => to_is (pc := 21) rw_79_21 (ls2 := [.ref 1, .int n, .int x2, .int v15, .int v18]) rfl rfl (to_in (pc := 23) rw_79_23 rfl (s_s (pc := 24) rw_79_24 (dp0 hd (by decide)) (ls0 := [.int v15]) rfl (Nat.le_of_ble_eq_true rfl) (Nat.le_of_ble_eq_true rfl) rfl (to_rcs rfl rfl) rfl (to_in (pc := 0) rw_93_0 rfl (to_c (pc := 1) rw_93_1 (x := (97 : Int32)) rfl rfl (b_clt (pc := 3) rw_93_3 (A := v15.toInt) (B := 97) rfl rfl (fun h20 => ?_) (fun h20 => ?_))))))))))))
      · refine to_c (pc := 16) rw_93_16 (x := (0 : Int32)) rfl rfl (s_r1 (pc := 17) rw_93_17 (A := 0) rfl (by decide) (b_ieq_t (pc := 27) rw_79_27 (A := 0) rfl (by decide) (to_in (pc := 41) rw_79_41 rfl (s_s (pc := 42) rw_79_42 (dp0 hd (by decide)) (ls0 := [.int v15]) rfl (Nat.le_of_ble_eq_true rfl) (Nat.le_of_ble_eq_true rfl) rfl (to_rcs rfl rfl) rfl (to_in (pc := 0) rw_94_0 rfl (to_c (pc := 1) rw_94_1 (x := (48 : Int32)) rfl rfl (b_clt (pc := 3) rw_94_3 (A := v15.toInt) (B := 48) rfl rfl (fun h21 => ?_) (fun h21 => ?_))))))))
        · refine to_c (pc := 16) rw_94_16 (x := (0 : Int32)) rfl rfl (s_r1 (pc := 17) rw_94_17 (A := 0) rfl (by decide) (b_ieq_t (pc := 45) rw_79_45 (A := 0) rfl (by decide) (to_in (pc := 59) rw_79_59 rfl (s_s (pc := 60) rw_79_60 (dp0 hd (by decide)) (ls0 := [.int v15]) rfl (Nat.le_of_ble_eq_true rfl) (Nat.le_of_ble_eq_true rfl) rfl (to_rcs rfl rfl) rfl (to_in (pc := 0) rw_92_0 rfl (to_c (pc := 1) rw_92_1 (x := (10 : Int32)) rfl rfl (b_ceq (pc := 3) rw_92_3 (A := v15.toInt) (B := 10) rfl rfl (fun h22 => ?_) (fun h22 => ?_))))))))
          · refine to_c (pc := 12) rw_92_12 (x := (1 : Int32)) rfl rfl (to_go (pc := 13) rw_92_13 (s_r1 (pc := 17) rw_92_17 (A := 1) rfl (by decide) (b_ine_t (pc := 63) rw_79_63 (A := 1) rfl (by decide) (to_in (pc := 84) rw_79_84 rfl (to_c (pc := 85) rw_79_85 (x := (1 : Int32)) rfl rfl (s_add (pc := 86) rw_79_86 (A := x2.toInt) (B := 1) rfl rfl (by omega) (fun v23 e24 => to_i (pc := 87) rw_79_87 rfl (s_max (pc := 89) rw_79_89 rfl (A := v23.toInt) (B := v18.toInt) rfl rfl (fun v25 _ _ _ => to_isn (pc := 92) rw_79_92 (ls2 := [.ref 1, .int n, .int v25, .int v15, .int v18]) rfl rfl (to_go (pc := 93) rw_79_93 ?_))))))))))
            exact ih N v25 (.int v15) (.int v18) hG F0 (by omega) (by omega) (by omega) (TB_s g4 (by omega) (by omega) (by omega) (by omega)) g5 (by omega)
          · refine to_in (pc := 6) rw_92_6 rfl (to_c (pc := 7) rw_92_7 (x := (32 : Int32)) rfl rfl (b_cne (pc := 9) rw_92_9 (A := v15.toInt) (B := 32) rfl rfl (fun h26 => ?_) (fun h26 => ?_)))
            · refine to_c (pc := 16) rw_92_16 (x := (0 : Int32)) rfl rfl (s_r1 (pc := 17) rw_92_17 (A := 0) rfl (by decide) (b_ine_f (pc := 63) rw_79_63 (A := 0) rfl (by decide) (to_an (pc := 66) rw_79_66 rfl (to_in (pc := 67) rw_79_67 rfl (s_s (pc := 68) rw_79_68 (dp0 hd (by decide)) (ls0 := [.int v15]) rfl (Nat.le_of_ble_eq_true rfl) (Nat.le_of_ble_eq_true rfl) rfl (to_rcs rfl rfl) rfl (to_in (pc := 0) rw_95_0 rfl (to_c (pc := 1) rw_95_1 (x := (59 : Int32)) rfl rfl (b_ceq_f (pc := 3) rw_95_3 (A := v15.toInt) (B := 59) rfl rfl (by omega) (to_in (pc := 6) rw_95_6 rfl (to_c (pc := 7) rw_95_7 (x := (40 : Int32)) rfl rfl (b_ceq (pc := 9) rw_95_9 (A := v15.toInt) (B := 40) rfl rfl (fun h27 => ?_) (fun h27 => ?_))))))))))))
              · refine to_c (pc := 24) rw_95_24 (x := (1 : Int32)) rfl rfl (to_go (pc := 25) rw_95_25 (s_r1 (pc := 29) rw_95_29 (A := 1) rfl (by decide) (b_ieq_f (pc := 71) rw_79_71 (A := 1) rfl (by decide) (to_in (pc := 74) rw_79_74 rfl (to_go (pc := 75) rw_79_75 (to_c (pc := 79) rw_79_79 (x := (0 : Int32)) rfl rfl (to_in (pc := 80) rw_79_80 rfl (s_v (pc := 81) rw_79_81 (dp0 hd (by decide)) (ls0 := [.ref 1, .int v15, .int (0 : Int32), .int x2]) rfl (Nat.le_of_ble_eq_true rfl) (Nat.le_of_ble_eq_true rfl) rfl (to_rc rfl rfl rfl (g_o hG rfl)) rfl ?_))))))))
                have k_28 : (0 : Int32).toInt = 0 := rfl
                have z_29 := g4.2.1
                have b_30 := g_b hG (a := 1) (i := 5) (lo := 0) (hi := 501) rfl rfl
                refine E_82 hX (dp1 hd (by decide)) hG (by omega) (k := v15) (v := (0 : Int32)) (w := x2) (fun M34 hG32 F31 p_33 => ?_)
                have F35 := FR.c F0 F31 tg_2
                refine to_in (pc := 84) rw_79_84 rfl (to_c (pc := 85) rw_79_85 (x := (1 : Int32)) rfl rfl (s_add (pc := 86) rw_79_86 (A := x2.toInt) (B := 1) rfl rfl (by omega) (fun v36 e37 => to_i (pc := 87) rw_79_87 rfl (s_max (pc := 89) rw_79_89 rfl (A := v36.toInt) (B := v18.toInt) rfl rfl (fun v38 _ _ _ => to_isn (pc := 92) rw_79_92 (ls2 := [.ref 1, .int n, .int v38, .int v15, .int v18]) rfl rfl (to_go (pc := 93) rw_79_93 ?_))))))
                have z_39 := (x_ts (t := t) (n := nn) (a := x2.toInt) (by omega) (by omega) (by omega)).2.2
                have z_40 := x_nx_b (t := t) (n := nn) (a := x2.toInt) (by omega) (by omega)
                have j_41 := (TT_f (tg_3 F31) g5)
                exact ih M34 v38 (.int v15) (.int v18) hG32 F35 (by omega) (by omega) (by omega) (TB_a g4 (by omega) (by omega) (by omega) (E79_a p_33 rfl rfl (x_C_s (by omega) (by omega) (by omega))) (by omega)) j_41 (by omega)
              · refine to_in (pc := 12) rw_95_12 rfl (to_c (pc := 13) rw_95_13 (x := (41 : Int32)) rfl rfl (b_ceq (pc := 15) rw_95_15 (A := v15.toInt) (B := 41) rfl rfl (fun h42 => ?_) (fun h42 => ?_)))
                · refine to_c (pc := 24) rw_95_24 (x := (1 : Int32)) rfl rfl (to_go (pc := 25) rw_95_25 (s_r1 (pc := 29) rw_95_29 (A := 1) rfl (by decide) (b_ieq_f (pc := 71) rw_79_71 (A := 1) rfl (by decide) (to_in (pc := 74) rw_79_74 rfl (to_go (pc := 75) rw_79_75 (to_c (pc := 79) rw_79_79 (x := (0 : Int32)) rfl rfl (to_in (pc := 80) rw_79_80 rfl (s_v (pc := 81) rw_79_81 (dp0 hd (by decide)) (ls0 := [.ref 1, .int v15, .int (0 : Int32), .int x2]) rfl (Nat.le_of_ble_eq_true rfl) (Nat.le_of_ble_eq_true rfl) rfl (to_rc rfl rfl rfl (g_o hG rfl)) rfl ?_))))))))
                  have k_43 : (0 : Int32).toInt = 0 := rfl
                  have z_44 := g4.2.1
                  have b_45 := g_b hG (a := 1) (i := 5) (lo := 0) (hi := 501) rfl rfl
                  refine E_82 hX (dp1 hd (by decide)) hG (by omega) (k := v15) (v := (0 : Int32)) (w := x2) (fun M49 hG47 F46 p_48 => ?_)
                  have F50 := FR.c F0 F46 tg_2
                  refine to_in (pc := 84) rw_79_84 rfl (to_c (pc := 85) rw_79_85 (x := (1 : Int32)) rfl rfl (s_add (pc := 86) rw_79_86 (A := x2.toInt) (B := 1) rfl rfl (by omega) (fun v51 e52 => to_i (pc := 87) rw_79_87 rfl (s_max (pc := 89) rw_79_89 rfl (A := v51.toInt) (B := v18.toInt) rfl rfl (fun v53 _ _ _ => to_isn (pc := 92) rw_79_92 (ls2 := [.ref 1, .int n, .int v53, .int v15, .int v18]) rfl rfl (to_go (pc := 93) rw_79_93 ?_))))))
                  have z_54 := (x_ts (t := t) (n := nn) (a := x2.toInt) (by omega) (by omega) (by omega)).2.2
                  have z_55 := x_nx_b (t := t) (n := nn) (a := x2.toInt) (by omega) (by omega)
                  have j_56 := (TT_f (tg_3 F46) g5)
                  exact ih M49 v53 (.int v15) (.int v18) hG47 F50 (by omega) (by omega) (by omega) (TB_a g4 (by omega) (by omega) (by omega) (E79_a p_48 rfl rfl (x_C_s (by omega) (by omega) (by omega))) (by omega)) j_56 (by omega)
                · refine to_in (pc := 18) rw_95_18 rfl (to_c (pc := 19) rw_95_19 (x := (61 : Int32)) rfl rfl (b_cne_t (pc := 21) rw_95_21 (A := v15.toInt) (B := 61) rfl rfl (by omega) (to_c (pc := 28) rw_95_28 (x := (0 : Int32)) rfl rfl (s_r1 (pc := 29) rw_95_29 (A := 0) rfl (by decide) (b_ieq_t (pc := 71) rw_79_71 (A := 0) rfl (by decide) (to_c (pc := 78) rw_79_78 (x := (1 : Int32)) rfl rfl (to_c (pc := 79) rw_79_79 (x := (0 : Int32)) rfl rfl (to_in (pc := 80) rw_79_80 rfl (s_v (pc := 81) rw_79_81 (dp0 hd (by decide)) (ls0 := [.ref 1, .int (1 : Int32), .int (0 : Int32), .int x2]) rfl (Nat.le_of_ble_eq_true rfl) (Nat.le_of_ble_eq_true rfl) rfl (to_rc rfl rfl rfl (g_o hG rfl)) rfl ?_)))))))))
                  have k_57 : (1 : Int32).toInt = 1 := rfl
                  have k_58 : (0 : Int32).toInt = 0 := rfl
                  have z_59 := g4.2.1
                  have b_60 := g_b hG (a := 1) (i := 5) (lo := 0) (hi := 501) rfl rfl
                  refine E_82 hX (dp1 hd (by decide)) hG (by omega) (k := (1 : Int32)) (v := (0 : Int32)) (w := x2) (fun M64 hG62 F61 p_63 => ?_)
                  have F65 := FR.c F0 F61 tg_2
                  refine to_in (pc := 84) rw_79_84 rfl (to_c (pc := 85) rw_79_85 (x := (1 : Int32)) rfl rfl (s_add (pc := 86) rw_79_86 (A := x2.toInt) (B := 1) rfl rfl (by omega) (fun v66 e67 => to_i (pc := 87) rw_79_87 rfl (s_max (pc := 89) rw_79_89 rfl (A := v66.toInt) (B := v18.toInt) rfl rfl (fun v68 _ _ _ => to_isn (pc := 92) rw_79_92 (ls2 := [.ref 1, .int n, .int v68, .int v15, .int v18]) rfl rfl (to_go (pc := 93) rw_79_93 ?_))))))
                  have z_69 := (x_ts (t := t) (n := nn) (a := x2.toInt) (by omega) (by omega) (by omega)).2.2
                  have z_70 := x_nx_b (t := t) (n := nn) (a := x2.toInt) (by omega) (by omega)
                  have j_71 := (TT_f (tg_3 F61) g5)
                  exact ih M64 v68 (.int v15) (.int v18) hG62 F65 (by omega) (by omega) (by omega) (TB_a g4 (by omega) (by omega) (by omega) (E79_a p_63 rfl rfl (x_C_b (by omega) (by omega) (by omega) (by omega))) (by omega)) j_71 (by omega)
            · refine to_c (pc := 12) rw_92_12 (x := (1 : Int32)) rfl rfl (to_go (pc := 13) rw_92_13 (s_r1 (pc := 17) rw_92_17 (A := 1) rfl (by decide) (b_ine_t (pc := 63) rw_79_63 (A := 1) rfl (by decide) (to_in (pc := 84) rw_79_84 rfl (to_c (pc := 85) rw_79_85 (x := (1 : Int32)) rfl rfl (s_add (pc := 86) rw_79_86 (A := x2.toInt) (B := 1) rfl rfl (by omega) (fun v72 e73 => to_i (pc := 87) rw_79_87 rfl (s_max (pc := 89) rw_79_89 rfl (A := v72.toInt) (B := v18.toInt) rfl rfl (fun v74 _ _ _ => to_isn (pc := 92) rw_79_92 (ls2 := [.ref 1, .int n, .int v74, .int v15, .int v18]) rfl rfl (to_go (pc := 93) rw_79_93 ?_))))))))))
              exact ih N v74 (.int v15) (.int v18) hG F0 (by omega) (by omega) (by omega) (TB_s g4 (by omega) (by omega) (by omega) (by omega)) g5 (by omega)
        · refine to_in (pc := 6) rw_94_6 rfl (to_c (pc := 7) rw_94_7 (x := (57 : Int32)) rfl rfl (b_cgt (pc := 9) rw_94_9 (A := v15.toInt) (B := 57) rfl rfl (fun h75 => ?_) (fun h75 => ?_)))
          · refine to_c (pc := 16) rw_94_16 (x := (0 : Int32)) rfl rfl (s_r1 (pc := 17) rw_94_17 (A := 0) rfl (by decide) (b_ieq_t (pc := 45) rw_79_45 (A := 0) rfl (by decide) (to_in (pc := 59) rw_79_59 rfl (s_s (pc := 60) rw_79_60 (dp0 hd (by decide)) (ls0 := [.int v15]) rfl (Nat.le_of_ble_eq_true rfl) (Nat.le_of_ble_eq_true rfl) rfl (to_rcs rfl rfl) rfl (to_in (pc := 0) rw_92_0 rfl (to_c (pc := 1) rw_92_1 (x := (10 : Int32)) rfl rfl (b_ceq_f (pc := 3) rw_92_3 (A := v15.toInt) (B := 10) rfl rfl (by omega) (to_in (pc := 6) rw_92_6 rfl (to_c (pc := 7) rw_92_7 (x := (32 : Int32)) rfl rfl (b_cne_t (pc := 9) rw_92_9 (A := v15.toInt) (B := 32) rfl rfl (by omega) (to_c (pc := 16) rw_92_16 (x := (0 : Int32)) rfl rfl ?_)))))))))))
            refine s_r1 (pc := 17) rw_92_17 (A := 0) rfl (by decide) (b_ine_f (pc := 63) rw_79_63 (A := 0) rfl (by decide) (to_an (pc := 66) rw_79_66 rfl (to_in (pc := 67) rw_79_67 rfl (s_s (pc := 68) rw_79_68 (dp0 hd (by decide)) (ls0 := [.int v15]) rfl (Nat.le_of_ble_eq_true rfl) (Nat.le_of_ble_eq_true rfl) rfl (to_rcs rfl rfl) rfl (to_in (pc := 0) rw_95_0 rfl (to_c (pc := 1) rw_95_1 (x := (59 : Int32)) rfl rfl (b_ceq (pc := 3) rw_95_3 (A := v15.toInt) (B := 59) rfl rfl (fun h76 => ?_) (fun h76 => ?_))))))))
            · refine to_c (pc := 24) rw_95_24 (x := (1 : Int32)) rfl rfl (to_go (pc := 25) rw_95_25 (s_r1 (pc := 29) rw_95_29 (A := 1) rfl (by decide) (b_ieq_f (pc := 71) rw_79_71 (A := 1) rfl (by decide) (to_in (pc := 74) rw_79_74 rfl (to_go (pc := 75) rw_79_75 (to_c (pc := 79) rw_79_79 (x := (0 : Int32)) rfl rfl (to_in (pc := 80) rw_79_80 rfl (s_v (pc := 81) rw_79_81 (dp0 hd (by decide)) (ls0 := [.ref 1, .int v15, .int (0 : Int32), .int x2]) rfl (Nat.le_of_ble_eq_true rfl) (Nat.le_of_ble_eq_true rfl) rfl (to_rc rfl rfl rfl (g_o hG rfl)) rfl ?_))))))))
              have k_77 : (0 : Int32).toInt = 0 := rfl
              have z_78 := g4.2.1
              have b_79 := g_b hG (a := 1) (i := 5) (lo := 0) (hi := 501) rfl rfl
              refine E_82 hX (dp1 hd (by decide)) hG (by omega) (k := v15) (v := (0 : Int32)) (w := x2) (fun M83 hG81 F80 p_82 => ?_)
              have F84 := FR.c F0 F80 tg_2
              refine to_in (pc := 84) rw_79_84 rfl (to_c (pc := 85) rw_79_85 (x := (1 : Int32)) rfl rfl (s_add (pc := 86) rw_79_86 (A := x2.toInt) (B := 1) rfl rfl (by omega) (fun v85 e86 => to_i (pc := 87) rw_79_87 rfl (s_max (pc := 89) rw_79_89 rfl (A := v85.toInt) (B := v18.toInt) rfl rfl (fun v87 _ _ _ => to_isn (pc := 92) rw_79_92 (ls2 := [.ref 1, .int n, .int v87, .int v15, .int v18]) rfl rfl (to_go (pc := 93) rw_79_93 ?_))))))
              have z_88 := (x_ts (t := t) (n := nn) (a := x2.toInt) (by omega) (by omega) (by omega)).2.2
              have z_89 := x_nx_b (t := t) (n := nn) (a := x2.toInt) (by omega) (by omega)
              have j_90 := (TT_f (tg_3 F80) g5)
              exact ih M83 v87 (.int v15) (.int v18) hG81 F84 (by omega) (by omega) (by omega) (TB_a g4 (by omega) (by omega) (by omega) (E79_a p_82 rfl rfl (x_C_s (by omega) (by omega) (by omega))) (by omega)) j_90 (by omega)
            · refine to_in (pc := 6) rw_95_6 rfl (to_c (pc := 7) rw_95_7 (x := (40 : Int32)) rfl rfl (b_ceq_f (pc := 9) rw_95_9 (A := v15.toInt) (B := 40) rfl rfl (by omega) (to_in (pc := 12) rw_95_12 rfl (to_c (pc := 13) rw_95_13 (x := (41 : Int32)) rfl rfl (b_ceq_f (pc := 15) rw_95_15 (A := v15.toInt) (B := 41) rfl rfl (by omega) (to_in (pc := 18) rw_95_18 rfl (to_c (pc := 19) rw_95_19 (x := (61 : Int32)) rfl rfl (b_cne (pc := 21) rw_95_21 (A := v15.toInt) (B := 61) rfl rfl (fun h91 => ?_) (fun h91 => ?_)))))))))
              · refine to_c (pc := 28) rw_95_28 (x := (0 : Int32)) rfl rfl (s_r1 (pc := 29) rw_95_29 (A := 0) rfl (by decide) (b_ieq_t (pc := 71) rw_79_71 (A := 0) rfl (by decide) (to_c (pc := 78) rw_79_78 (x := (1 : Int32)) rfl rfl (to_c (pc := 79) rw_79_79 (x := (0 : Int32)) rfl rfl (to_in (pc := 80) rw_79_80 rfl (s_v (pc := 81) rw_79_81 (dp0 hd (by decide)) (ls0 := [.ref 1, .int (1 : Int32), .int (0 : Int32), .int x2]) rfl (Nat.le_of_ble_eq_true rfl) (Nat.le_of_ble_eq_true rfl) rfl (to_rc rfl rfl rfl (g_o hG rfl)) rfl ?_))))))
                have k_92 : (1 : Int32).toInt = 1 := rfl
                have k_93 : (0 : Int32).toInt = 0 := rfl
                have z_94 := g4.2.1
                have b_95 := g_b hG (a := 1) (i := 5) (lo := 0) (hi := 501) rfl rfl
                refine E_82 hX (dp1 hd (by decide)) hG (by omega) (k := (1 : Int32)) (v := (0 : Int32)) (w := x2) (fun M99 hG97 F96 p_98 => ?_)
                have F100 := FR.c F0 F96 tg_2
                refine to_in (pc := 84) rw_79_84 rfl (to_c (pc := 85) rw_79_85 (x := (1 : Int32)) rfl rfl (s_add (pc := 86) rw_79_86 (A := x2.toInt) (B := 1) rfl rfl (by omega) (fun v101 e102 => to_i (pc := 87) rw_79_87 rfl (s_max (pc := 89) rw_79_89 rfl (A := v101.toInt) (B := v18.toInt) rfl rfl (fun v103 _ _ _ => to_isn (pc := 92) rw_79_92 (ls2 := [.ref 1, .int n, .int v103, .int v15, .int v18]) rfl rfl (to_go (pc := 93) rw_79_93 ?_))))))
                have z_104 := (x_ts (t := t) (n := nn) (a := x2.toInt) (by omega) (by omega) (by omega)).2.2
                have z_105 := x_nx_b (t := t) (n := nn) (a := x2.toInt) (by omega) (by omega)
                have j_106 := (TT_f (tg_3 F96) g5)
                exact ih M99 v103 (.int v15) (.int v18) hG97 F100 (by omega) (by omega) (by omega) (TB_a g4 (by omega) (by omega) (by omega) (E79_a p_98 rfl rfl (x_C_b (by omega) (by omega) (by omega) (by omega))) (by omega)) j_106 (by omega)
              · refine to_c (pc := 24) rw_95_24 (x := (1 : Int32)) rfl rfl (to_go (pc := 25) rw_95_25 (s_r1 (pc := 29) rw_95_29 (A := 1) rfl (by decide) (b_ieq_f (pc := 71) rw_79_71 (A := 1) rfl (by decide) (to_in (pc := 74) rw_79_74 rfl (to_go (pc := 75) rw_79_75 (to_c (pc := 79) rw_79_79 (x := (0 : Int32)) rfl rfl (to_in (pc := 80) rw_79_80 rfl (s_v (pc := 81) rw_79_81 (dp0 hd (by decide)) (ls0 := [.ref 1, .int v15, .int (0 : Int32), .int x2]) rfl (Nat.le_of_ble_eq_true rfl) (Nat.le_of_ble_eq_true rfl) rfl (to_rc rfl rfl rfl (g_o hG rfl)) rfl ?_))))))))
                have k_107 : (0 : Int32).toInt = 0 := rfl
                have z_108 := g4.2.1
                have b_109 := g_b hG (a := 1) (i := 5) (lo := 0) (hi := 501) rfl rfl
                refine E_82 hX (dp1 hd (by decide)) hG (by omega) (k := v15) (v := (0 : Int32)) (w := x2) (fun M113 hG111 F110 p_112 => ?_)
                have F114 := FR.c F0 F110 tg_2
                refine to_in (pc := 84) rw_79_84 rfl (to_c (pc := 85) rw_79_85 (x := (1 : Int32)) rfl rfl (s_add (pc := 86) rw_79_86 (A := x2.toInt) (B := 1) rfl rfl (by omega) (fun v115 e116 => to_i (pc := 87) rw_79_87 rfl (s_max (pc := 89) rw_79_89 rfl (A := v115.toInt) (B := v18.toInt) rfl rfl (fun v117 _ _ _ => to_isn (pc := 92) rw_79_92 (ls2 := [.ref 1, .int n, .int v117, .int v15, .int v18]) rfl rfl (to_go (pc := 93) rw_79_93 ?_))))))
                have z_118 := (x_ts (t := t) (n := nn) (a := x2.toInt) (by omega) (by omega) (by omega)).2.2
                have z_119 := x_nx_b (t := t) (n := nn) (a := x2.toInt) (by omega) (by omega)
                have j_120 := (TT_f (tg_3 F110) g5)
                exact ih M113 v117 (.int v15) (.int v18) hG111 F114 (by omega) (by omega) (by omega) (TB_a g4 (by omega) (by omega) (by omega) (E79_a p_112 rfl rfl (x_C_s (by omega) (by omega) (by omega))) (by omega)) j_120 (by omega)
          · refine to_c (pc := 12) rw_94_12 (x := (1 : Int32)) rfl rfl (to_go (pc := 13) rw_94_13 (s_r1 (pc := 17) rw_94_17 (A := 1) rfl (by decide) (b_ieq_f (pc := 45) rw_79_45 (A := 1) rfl (by decide) (to_an (pc := 48) rw_79_48 rfl (to_in (pc := 49) rw_79_49 rfl (to_in (pc := 50) rw_79_50 rfl (s_v (pc := 51) rw_79_51 (dp0 hd (by decide)) (ls0 := [.ref 1, .int x2, .int n, .null, .null]) rfl (Nat.le_of_ble_eq_true rfl) (Nat.le_of_ble_eq_true rfl) rfl (to_rc rfl rfl rfl (g_o hG rfl)) rfl ?_)))))))
            have z_121 := g4.2.1
            have b_122 := g_b hG (a := 1) (i := 5) (lo := 0) (hi := 501) rfl rfl
            refine E_81 hX (dp1 hd (by decide)) hG (by omega) (by omega) (by omega) (by omega) (by omega) (by omega) (by omega) (by omega) g5 (by omega) (by omega) (f := x2) (n := n) (fun r123 M128 hG125 F124 p_126 p_127 => ?_)
            have F129 := FR.c F0 F124 tg_2
            refine to_is (pc := 54) rw_79_54 (ls2 := [.ref 1, .int n, .int x2, .int v15, .int r123]) rfl rfl (to_go (pc := 56) rw_79_56 (to_in (pc := 84) rw_79_84 rfl (to_c (pc := 85) rw_79_85 (x := (1 : Int32)) rfl rfl (s_add (pc := 86) rw_79_86 (A := x2.toInt) (B := 1) rfl rfl (by omega) (fun v130 e131 => to_i (pc := 87) rw_79_87 rfl (s_max (pc := 89) rw_79_89 rfl (A := v130.toInt) (B := r123.toInt) rfl rfl (fun v132 _ _ _ => to_isn (pc := 92) rw_79_92 (ls2 := [.ref 1, .int n, .int v132, .int v15, .int r123]) rfl rfl (to_go (pc := 93) rw_79_93 ?_))))))))
            have z_133 := (x_td (t := t) (n := nn) (a := x2.toInt) (by omega) (by omega)).2.2
            have z_134 := x_nx_b (t := t) (n := nn) (a := x2.toInt) (by omega) (by omega)
            have j_135 := (TT_f (tg_3 F124) g5)
            exact ih M128 v132 (.int v15) (.int r123) hG125 F129 (by omega) (by omega) (by omega) (TB_a g4 (by omega) (by omega) (by omega) p_127 (by omega)) j_135 (by omega)
      · refine to_in (pc := 6) rw_93_6 rfl (to_c (pc := 7) rw_93_7 (x := (122 : Int32)) rfl rfl (b_cgt (pc := 9) rw_93_9 (A := v15.toInt) (B := 122) rfl rfl (fun h136 => ?_) (fun h136 => ?_)))
        · refine to_c (pc := 16) rw_93_16 (x := (0 : Int32)) rfl rfl (s_r1 (pc := 17) rw_93_17 (A := 0) rfl (by decide) (b_ieq_t (pc := 27) rw_79_27 (A := 0) rfl (by decide) (to_in (pc := 41) rw_79_41 rfl (s_s (pc := 42) rw_79_42 (dp0 hd (by decide)) (ls0 := [.int v15]) rfl (Nat.le_of_ble_eq_true rfl) (Nat.le_of_ble_eq_true rfl) rfl (to_rcs rfl rfl) rfl (to_in (pc := 0) rw_94_0 rfl (to_c (pc := 1) rw_94_1 (x := (48 : Int32)) rfl rfl (b_clt_f (pc := 3) rw_94_3 (A := v15.toInt) (B := 48) rfl rfl (by omega) (to_in (pc := 6) rw_94_6 rfl (to_c (pc := 7) rw_94_7 (x := (57 : Int32)) rfl rfl (b_cgt_t (pc := 9) rw_94_9 (A := v15.toInt) (B := 57) rfl rfl (by omega) (to_c (pc := 16) rw_94_16 (x := (0 : Int32)) rfl rfl ?_)))))))))))
          refine s_r1 (pc := 17) rw_94_17 (A := 0) rfl (by decide) (b_ieq_t (pc := 45) rw_79_45 (A := 0) rfl (by decide) (to_in (pc := 59) rw_79_59 rfl (s_s (pc := 60) rw_79_60 (dp0 hd (by decide)) (ls0 := [.int v15]) rfl (Nat.le_of_ble_eq_true rfl) (Nat.le_of_ble_eq_true rfl) rfl (to_rcs rfl rfl) rfl (to_in (pc := 0) rw_92_0 rfl (to_c (pc := 1) rw_92_1 (x := (10 : Int32)) rfl rfl (b_ceq_f (pc := 3) rw_92_3 (A := v15.toInt) (B := 10) rfl rfl (by omega) (to_in (pc := 6) rw_92_6 rfl (to_c (pc := 7) rw_92_7 (x := (32 : Int32)) rfl rfl (b_cne_t (pc := 9) rw_92_9 (A := v15.toInt) (B := 32) rfl rfl (by omega) (to_c (pc := 16) rw_92_16 (x := (0 : Int32)) rfl rfl (s_r1 (pc := 17) rw_92_17 (A := 0) rfl (by decide) ?_)))))))))))
          refine b_ine_f (pc := 63) rw_79_63 (A := 0) rfl (by decide) (to_an (pc := 66) rw_79_66 rfl (to_in (pc := 67) rw_79_67 rfl (s_s (pc := 68) rw_79_68 (dp0 hd (by decide)) (ls0 := [.int v15]) rfl (Nat.le_of_ble_eq_true rfl) (Nat.le_of_ble_eq_true rfl) rfl (to_rcs rfl rfl) rfl (to_in (pc := 0) rw_95_0 rfl (to_c (pc := 1) rw_95_1 (x := (59 : Int32)) rfl rfl (b_ceq_f (pc := 3) rw_95_3 (A := v15.toInt) (B := 59) rfl rfl (by omega) (to_in (pc := 6) rw_95_6 rfl (to_c (pc := 7) rw_95_7 (x := (40 : Int32)) rfl rfl (b_ceq_f (pc := 9) rw_95_9 (A := v15.toInt) (B := 40) rfl rfl (by omega) (to_in (pc := 12) rw_95_12 rfl (to_c (pc := 13) rw_95_13 (x := (41 : Int32)) rfl rfl ?_)))))))))))
          refine b_ceq_f (pc := 15) rw_95_15 (A := v15.toInt) (B := 41) rfl rfl (by omega) (to_in (pc := 18) rw_95_18 rfl (to_c (pc := 19) rw_95_19 (x := (61 : Int32)) rfl rfl (b_cne_t (pc := 21) rw_95_21 (A := v15.toInt) (B := 61) rfl rfl (by omega) (to_c (pc := 28) rw_95_28 (x := (0 : Int32)) rfl rfl (s_r1 (pc := 29) rw_95_29 (A := 0) rfl (by decide) (b_ieq_t (pc := 71) rw_79_71 (A := 0) rfl (by decide) (to_c (pc := 78) rw_79_78 (x := (1 : Int32)) rfl rfl (to_c (pc := 79) rw_79_79 (x := (0 : Int32)) rfl rfl (to_in (pc := 80) rw_79_80 rfl (s_v (pc := 81) rw_79_81 (dp0 hd (by decide)) (ls0 := [.ref 1, .int (1 : Int32), .int (0 : Int32), .int x2]) rfl (Nat.le_of_ble_eq_true rfl) (Nat.le_of_ble_eq_true rfl) rfl (to_rc rfl rfl rfl (g_o hG rfl)) rfl ?_))))))))))
          have k_137 : (1 : Int32).toInt = 1 := rfl
          have k_138 : (0 : Int32).toInt = 0 := rfl
          have z_139 := g4.2.1
          have b_140 := g_b hG (a := 1) (i := 5) (lo := 0) (hi := 501) rfl rfl
          refine E_82 hX (dp1 hd (by decide)) hG (by omega) (k := (1 : Int32)) (v := (0 : Int32)) (w := x2) (fun M144 hG142 F141 p_143 => ?_)
          have F145 := FR.c F0 F141 tg_2
          refine to_in (pc := 84) rw_79_84 rfl (to_c (pc := 85) rw_79_85 (x := (1 : Int32)) rfl rfl (s_add (pc := 86) rw_79_86 (A := x2.toInt) (B := 1) rfl rfl (by omega) (fun v146 e147 => to_i (pc := 87) rw_79_87 rfl (s_max (pc := 89) rw_79_89 rfl (A := v146.toInt) (B := v18.toInt) rfl rfl (fun v148 _ _ _ => to_isn (pc := 92) rw_79_92 (ls2 := [.ref 1, .int n, .int v148, .int v15, .int v18]) rfl rfl (to_go (pc := 93) rw_79_93 ?_))))))
          have z_149 := (x_ts (t := t) (n := nn) (a := x2.toInt) (by omega) (by omega) (by omega)).2.2
          have z_150 := x_nx_b (t := t) (n := nn) (a := x2.toInt) (by omega) (by omega)
          have j_151 := (TT_f (tg_3 F141) g5)
          exact ih M144 v148 (.int v15) (.int v18) hG142 F145 (by omega) (by omega) (by omega) (TB_a g4 (by omega) (by omega) (by omega) (E79_a p_143 rfl rfl (x_C_b (by omega) (by omega) (by omega) (by omega))) (by omega)) j_151 (by omega)
        · refine to_c (pc := 12) rw_93_12 (x := (1 : Int32)) rfl rfl (to_go (pc := 13) rw_93_13 (s_r1 (pc := 17) rw_93_17 (A := 1) rfl (by decide) (b_ieq_f (pc := 27) rw_79_27 (A := 1) rfl (by decide) (to_an (pc := 30) rw_79_30 rfl (to_in (pc := 31) rw_79_31 rfl (to_in (pc := 32) rw_79_32 rfl (s_v (pc := 33) rw_79_33 (dp0 hd (by decide)) (ls0 := [.ref 1, .int x2, .int n, .null, .null]) rfl (Nat.le_of_ble_eq_true rfl) (Nat.le_of_ble_eq_true rfl) rfl (to_rc rfl rfl rfl (g_o hG rfl)) rfl ?_)))))))
          have z_152 := g4.2.1
          have b_153 := g_b hG (a := 1) (i := 5) (lo := 0) (hi := 501) rfl rfl
          refine E_80 hX (dp1 hd (by decide)) hG (by omega) (by omega) (by omega) (by omega) (by omega) (by omega) (by omega) (by omega) g5 (by omega) (by omega) q5 (f := x2) (n := n) (fun r154 M159 hG156 F155 p_157 p_158 => ?_)
          have F160 := FR.c F0 F155 tg_2
          refine to_is (pc := 36) rw_79_36 (ls2 := [.ref 1, .int n, .int x2, .int v15, .int r154]) rfl rfl (to_go (pc := 38) rw_79_38 (to_in (pc := 84) rw_79_84 rfl (to_c (pc := 85) rw_79_85 (x := (1 : Int32)) rfl rfl (s_add (pc := 86) rw_79_86 (A := x2.toInt) (B := 1) rfl rfl (by omega) (fun v161 e162 => to_i (pc := 87) rw_79_87 rfl (s_max (pc := 89) rw_79_89 rfl (A := v161.toInt) (B := r154.toInt) rfl rfl (fun v163 _ _ _ => to_isn (pc := 92) rw_79_92 (ls2 := [.ref 1, .int n, .int v163, .int v15, .int r154]) rfl rfl (to_go (pc := 93) rw_79_93 ?_))))))))
          have z_164 := (x_tl (t := t) (n := nn) (a := x2.toInt) (by omega) (by omega)).2.2
          have z_165 := x_nx_b (t := t) (n := nn) (a := x2.toInt) (by omega) (by omega)
          have j_166 := (TT_f (tg_3 F155) g5)
          exact ih M159 v163 (.int v15) (.int r154) hG156 F160 (by omega) (by omega) (by omega) (TB_a g4 (by omega) (by omega) (by omega) p_158 (by omega)) j_166 (by omega)
set_option maxRecDepth 4000 in
set_option maxHeartbeats 0 in
theorem E_79 {X : mm_X} {d : Nat} {M : mm_M} {Q : Option Value → mm_M → Prop} {n : Int32} {t : Nat → Int} {nn : Int} (hX : g_X X) (hd : 2 ≤ d) (hG : g_G M) (q1 : 0 ≤ n.toInt) (q2 : n.toInt ≤ 500) (q3 : n.toInt = nn) (q4 : TT M t nn) (q5 : g_W X) (h : ∀ (M1 : mm_M), g_G M1 → FR md_ad M M1 → (1 ≤ (M1.2.1 1 5).toInt) → (TA M1 t nn) → Q (none) M1) : mm_T X d 79 0 [.ref 1, .int n, .null, .null, .null] [] M Q := by
  have F0 : FR md_ad M M := FR.rf
  refine to_an (pc := 0) rw_79_0 rfl (to_c (pc := 1) rw_79_1 (x := (0 : Int32)) rfl rfl (s_pI (pc := 2) rw_79_2 hG rfl (fun M168 W167 => ?_)))
  have hG169 := g_w hG W167 (A := 0) rfl (lo := 0) (hi := 501) rfl rfl (by omega) (by decide)
  have F170 := FR.w F0 W167 (show 1 = 1 ∧ 5 = 5 ∨ 3 ≤ 1 ∧ 1 ≤ 5 by decide)
  refine to_c (pc := 5) rw_79_5 (x := (0 : Int32)) rfl rfl (to_isn (pc := 6) rw_79_6 (ls2 := [.ref 1, .int n, .int (0 : Int32), .null, .null]) rfl rfl ?_)
  have k_171 : (0 : Int32).toInt = 0 := rfl
  have j_172 := (TT_f (fun a i z => W_n W167 (tg_5 a i z) rfl) q4)
  exact (U_79_0 (n := n) (t := t) (nn := nn) hX hd q1 q2 q3 q4 q5 h ((500 - (0 : Int32).toInt).toNat + 1)) M168 (0 : Int32) (.null) (.null) hG169 F170 (by omega) (by omega) (by omega) (TB_0 (by rw [W_e W167]; rfl)) j_172 (by omega)
set_option maxRecDepth 4000 in
set_option maxHeartbeats 0 in
theorem E_83 {X : mm_X} {d : Nat} {M : mm_M} {Q : Option Value → mm_M → Prop} {t : Nat → Int} {nn : Int} {a : Int} (hX : g_X X) (hd : 0 ≤ d) (hG : g_G M) (q1 : CS M t nn) (q2 : (M.2.1 1 9).toInt = a) (h : ∀ (M1 : mm_M), g_G M1 → FR md_av M M1 → CS M1 t nn → ((M1.2.1 1 9).toInt = x_ns t nn a) → Q (none) M1) : mm_T X d 83 0 [.ref 1] [] M Q := by
  have F0 : FR md_av M M := FR.rf
  have z_0 := q1.2.1; have z_1 := q1.2.2.1
  refine to_an (pc := 0) rw_83_0 rfl ?_
  have b_1 := g_b hG (a := 1) (i := 6) (lo := 0) (hi := 500) rfl rfl
  refine tt_gI (pc := 1) rw_83_1 (g_o hG rfl) (v := (M.2.1 1 6)) rfl (to_c (pc := 4) rw_83_4 (x := (1 : Int32)) rfl rfl (s_add (pc := 5) rw_83_5 (A := (M.2.1 1 6).toInt) (B := 1) rfl rfl (by omega) (fun v2 e3 => to_an (pc := 6) rw_83_6 rfl ?_)))
  have b_4 := g_b hG (a := 1) (i := 5) (lo := 0) (hi := 501) rfl rfl
  refine tt_gI (pc := 7) rw_83_7 (g_o hG rfl) (v := (M.2.1 1 5)) rfl (b_cge (pc := 10) rw_83_10 (A := v2.toInt) (B := (M.2.1 1 5).toInt) rfl rfl (fun h5 => ?_) (fun h5 => ?_))
  · refine to_an (pc := 23) rw_83_23 rfl (to_an (pc := 24) rw_83_24 rfl (s_gR (pc := 25) rw_83_25 hG rfl (v := 3) rfl (to_an (pc := 28) rw_83_28 rfl (tt_gI (pc := 29) rw_83_29 (g_o hG rfl) (v := (M.2.1 1 6)) rfl (s_ial (pc := 32) rw_83_32 hG rfl (n := 501) rfl rfl (A := (M.2.1 1 6).toInt) rfl (by omega) (by omega) (lo := -2147483648) (hi := 2147483647) rfl rfl (fun v6 w_7 _ _ => ?_))))))
    have l_8 : M.2.1 3 ((M.2.1 1 6).toInt).toNat = v6 := (show M.2.1 3 ((M.2.1 1 6).toInt).toNat = M.2.1 3 ((M.2.1 1 6).toInt).toNat from rfl).symm.trans w_7
    refine s_pI (pc := 33) rw_83_33 hG rfl (fun M10 W9 => ?_)
    have hG11 := g_wf hG W9 rfl rfl (by decide)
    have F12 := FR.w F0 W9 (show 1 = 1 ∧ 6 ≤ 7 ∧ 7 ≤ 9 by decide)
    refine to_an (pc := 36) rw_83_36 rfl (to_an (pc := 37) rw_83_37 rfl (s_gR (pc := 38) rw_83_38 hG11 rfl (v := 4) rfl (to_an (pc := 41) rw_83_41 rfl ?_)))
    have c_13 : M10.2.1 1 6 = (M.2.1 1 6) := (W_n W9 (by decide) rfl)
    refine tt_gI (pc := 42) rw_83_42 (g_o hG11 rfl) (v := (M.2.1 1 6)) c_13 (s_ial (pc := 45) rw_83_45 hG11 rfl (n := 501) rfl rfl (A := (M.2.1 1 6).toInt) rfl (by omega) (by omega) (lo := -2147483648) (hi := 2147483647) rfl rfl (fun v14 w_15 _ _ => ?_))
    have l_16 : M.2.1 4 ((M.2.1 1 6).toInt).toNat = v14 := (show M10.2.1 4 ((M.2.1 1 6).toInt).toNat = M.2.1 4 ((M.2.1 1 6).toInt).toNat from (W_n W9 (by omega) rfl)).symm.trans w_15
    refine s_pI (pc := 46) rw_83_46 hG11 rfl (fun M18 W17 => ?_)
    have hG19 := g_wf hG11 W17 rfl rfl (by decide)
    have F20 := FR.w F12 W17 (show 1 = 1 ∧ 6 ≤ 8 ∧ 8 ≤ 9 by decide)
    refine to_an (pc := 49) rw_83_49 rfl (to_an (pc := 50) rw_83_50 rfl (s_gR (pc := 51) rw_83_51 hG19 rfl (v := 5) rfl (to_an (pc := 54) rw_83_54 rfl ?_)))
    have c_21 : M18.2.1 1 6 = (M.2.1 1 6) := (W_n W17 (by decide) c_13)
    refine tt_gI (pc := 55) rw_83_55 (g_o hG19 rfl) (v := (M.2.1 1 6)) c_21 (s_ial (pc := 58) rw_83_58 hG19 rfl (n := 501) rfl rfl (A := (M.2.1 1 6).toInt) rfl (by omega) (by omega) (lo := -2147483648) (hi := 2147483647) rfl rfl (fun v22 w_23 _ _ => ?_))
    have l_24 : M.2.1 5 ((M.2.1 1 6).toInt).toNat = v22 := (show M18.2.1 5 ((M.2.1 1 6).toInt).toNat = M.2.1 5 ((M.2.1 1 6).toInt).toNat from (W_n W17 (by omega) (W_n W9 (by omega) rfl))).symm.trans w_23
    refine s_pI (pc := 59) rw_83_59 hG19 rfl (fun M26 W25 => ?_)
    have hG27 := g_wf hG19 W25 rfl rfl (by decide)
    have F28 := FR.w F20 W25 (show 1 = 1 ∧ 6 ≤ 9 ∧ 9 ≤ 9 by decide)
    refine to_rv (pc := 62) rw_83_62 ?_
    have c_29 : M26.2.1 1 5 = (M.2.1 1 5) := (W_n W25 (by decide) (W_n W17 (by decide) (W_n W9 (by decide) rfl)))
    have t_30 : (M26.2.1 1 5).toInt = (M.2.1 1 5).toInt := congrArg Int32.toInt c_29
    have c_31 : M26.2.1 1 6 = (M.2.1 1 6) := (W_n W25 (by decide) c_21)
    have t_32 : (M26.2.1 1 6).toInt = (M.2.1 1 6).toInt := congrArg Int32.toInt c_31
    have c_33 : M26.2.1 1 7 = v6 := (W_n W25 (by decide) (W_n W17 (by decide) (W_e W9)))
    have t_34 : (M26.2.1 1 7).toInt = v6.toInt := congrArg Int32.toInt c_33
    have c_35 : M26.2.1 1 8 = v14 := (W_n W25 (by decide) (W_e W17))
    have t_36 : (M26.2.1 1 8).toInt = v14.toInt := congrArg Int32.toInt c_35
    have c_37 : M26.2.1 1 9 = v22 := (W_e W25)
    have t_38 : (M26.2.1 1 9).toInt = v22.toInt := congrArg Int32.toInt c_37
    have h_39 : (M26.2.1 1 7).toInt = (M.2.1 3 (M26.2.1 1 6).toInt.toNat).toInt := by rw [c_33, c_31, l_8]
    have h_40 : (M26.2.1 1 8).toInt = (M.2.1 4 (M26.2.1 1 6).toInt.toNat).toInt := by rw [c_35, c_31, l_16]
    have h_41 : (M26.2.1 1 9).toInt = (M.2.1 5 (M26.2.1 1 6).toInt.toNat).toInt := by rw [c_37, c_31, l_24]
    have z_42 := (CS_n q1 (W_n W25 (by omega) (W_n W17 (by omega) (W_n W9 (by omega) rfl))) (fun a i z => (W_n W25 (by /-r1,9-/ omega) (W_n W17 (by /-r1,8-/ omega) (W_n W9 (by /-r1,7-/ omega) rfl)))) (by omega) h_39 h_40 h_41)
    exact h M26 hG27 F28 z_42.1 (z_42.2.trans (congrArg (x_ns t nn) (by omega)))
  · refine to_an (pc := 13) rw_83_13 rfl (to_dupr (pc := 14) rw_83_14 (tt_gI (pc := 15) rw_83_15 (g_o hG rfl) (v := (M.2.1 1 6)) rfl (to_c (pc := 18) rw_83_18 (x := (1 : Int32)) rfl rfl (s_add (pc := 19) rw_83_19 (A := (M.2.1 1 6).toInt) (B := 1) rfl rfl (by omega) (fun v43 e44 => s_pI (pc := 20) rw_83_20 hG rfl (fun M46 W45 => ?_))))))
    have hG47 := g_w hG W45 (A := v43.toInt) rfl (lo := 0) (hi := 500) rfl rfl (by omega) (by decide)
    have F48 := FR.w F0 W45 (show 1 = 1 ∧ 6 ≤ 6 ∧ 6 ≤ 9 by decide)
    refine to_an (pc := 23) rw_83_23 rfl (to_an (pc := 24) rw_83_24 rfl (s_gR (pc := 25) rw_83_25 hG47 rfl (v := 3) rfl (to_an (pc := 28) rw_83_28 rfl ?_)))
    have c_49 : M46.2.1 1 6 = v43 := (W_e W45)
    refine tt_gI (pc := 29) rw_83_29 (g_o hG47 rfl) (v := v43) c_49 (s_ial (pc := 32) rw_83_32 hG47 rfl (n := 501) rfl rfl (A := v43.toInt) rfl (by omega) (by omega) (lo := -2147483648) (hi := 2147483647) rfl rfl (fun v50 w_51 _ _ => ?_))
    have l_52 : M.2.1 3 (v43.toInt).toNat = v50 := (show M46.2.1 3 (v43.toInt).toNat = M.2.1 3 (v43.toInt).toNat from (W_n W45 (by omega) rfl)).symm.trans w_51
    refine s_pI (pc := 33) rw_83_33 hG47 rfl (fun M54 W53 => ?_)
    have hG55 := g_wf hG47 W53 rfl rfl (by decide)
    have F56 := FR.w F48 W53 (show 1 = 1 ∧ 6 ≤ 7 ∧ 7 ≤ 9 by decide)
    refine to_an (pc := 36) rw_83_36 rfl (to_an (pc := 37) rw_83_37 rfl (s_gR (pc := 38) rw_83_38 hG55 rfl (v := 4) rfl (to_an (pc := 41) rw_83_41 rfl ?_)))
    have c_57 : M54.2.1 1 6 = v43 := (W_n W53 (by decide) c_49)
    refine tt_gI (pc := 42) rw_83_42 (g_o hG55 rfl) (v := v43) c_57 (s_ial (pc := 45) rw_83_45 hG55 rfl (n := 501) rfl rfl (A := v43.toInt) rfl (by omega) (by omega) (lo := -2147483648) (hi := 2147483647) rfl rfl (fun v58 w_59 _ _ => ?_))
    have l_60 : M.2.1 4 (v43.toInt).toNat = v58 := (show M54.2.1 4 (v43.toInt).toNat = M.2.1 4 (v43.toInt).toNat from (W_n W53 (by omega) (W_n W45 (by omega) rfl))).symm.trans w_59
    refine s_pI (pc := 46) rw_83_46 hG55 rfl (fun M62 W61 => ?_)
    have hG63 := g_wf hG55 W61 rfl rfl (by decide)
    have F64 := FR.w F56 W61 (show 1 = 1 ∧ 6 ≤ 8 ∧ 8 ≤ 9 by decide)
    refine to_an (pc := 49) rw_83_49 rfl (to_an (pc := 50) rw_83_50 rfl (s_gR (pc := 51) rw_83_51 hG63 rfl (v := 5) rfl (to_an (pc := 54) rw_83_54 rfl ?_)))
    have c_65 : M62.2.1 1 6 = v43 := (W_n W61 (by decide) c_57)
    refine tt_gI (pc := 55) rw_83_55 (g_o hG63 rfl) (v := v43) c_65 (s_ial (pc := 58) rw_83_58 hG63 rfl (n := 501) rfl rfl (A := v43.toInt) rfl (by omega) (by omega) (lo := -2147483648) (hi := 2147483647) rfl rfl (fun v66 w_67 _ _ => ?_))
    have l_68 : M.2.1 5 (v43.toInt).toNat = v66 := (show M62.2.1 5 (v43.toInt).toNat = M.2.1 5 (v43.toInt).toNat from (W_n W61 (by omega) (W_n W53 (by omega) (W_n W45 (by omega) rfl)))).symm.trans w_67
    refine s_pI (pc := 59) rw_83_59 hG63 rfl (fun M70 W69 => ?_)
    have hG71 := g_wf hG63 W69 rfl rfl (by decide)
    have F72 := FR.w F64 W69 (show 1 = 1 ∧ 6 ≤ 9 ∧ 9 ≤ 9 by decide)
    refine to_rv (pc := 62) rw_83_62 ?_
    have c_73 : M70.2.1 1 5 = (M.2.1 1 5) := (W_n W69 (by decide) (W_n W61 (by decide) (W_n W53 (by decide) (W_n W45 (by decide) rfl))))
    have t_74 : (M70.2.1 1 5).toInt = (M.2.1 1 5).toInt := congrArg Int32.toInt c_73
    have c_75 : M70.2.1 1 6 = v43 := (W_n W69 (by decide) c_65)
    have t_76 : (M70.2.1 1 6).toInt = v43.toInt := congrArg Int32.toInt c_75
    have c_77 : M70.2.1 1 7 = v50 := (W_n W69 (by decide) (W_n W61 (by decide) (W_e W53)))
    have t_78 : (M70.2.1 1 7).toInt = v50.toInt := congrArg Int32.toInt c_77
    have c_79 : M70.2.1 1 8 = v58 := (W_n W69 (by decide) (W_e W61))
    have t_80 : (M70.2.1 1 8).toInt = v58.toInt := congrArg Int32.toInt c_79
    have c_81 : M70.2.1 1 9 = v66 := (W_e W69)
    have t_82 : (M70.2.1 1 9).toInt = v66.toInt := congrArg Int32.toInt c_81
    have h_83 : (M70.2.1 1 7).toInt = (M.2.1 3 (M70.2.1 1 6).toInt.toNat).toInt := by rw [c_77, c_75, l_52]
    have h_84 : (M70.2.1 1 8).toInt = (M.2.1 4 (M70.2.1 1 6).toInt.toNat).toInt := by rw [c_79, c_75, l_60]
    have h_85 : (M70.2.1 1 9).toInt = (M.2.1 5 (M70.2.1 1 6).toInt.toNat).toInt := by rw [c_81, c_75, l_68]
    have z_86 := (CS_n q1 (W_n W69 (by omega) (W_n W61 (by omega) (W_n W53 (by omega) (W_n W45 (by omega) rfl)))) (fun a i z => (W_n W69 (by /-r1,9-/ omega) (W_n W61 (by /-r1,8-/ omega) (W_n W53 (by /-r1,7-/ omega) (W_n W45 (by /-r1,6-/ omega) rfl))))) (by omega) h_83 h_84 h_85)
    exact h M70 hG71 F72 z_86.1 (z_86.2.trans (congrArg (x_ns t nn) (by omega)))
set_option maxRecDepth 4000 in
set_option maxHeartbeats 0 in
theorem E_78 {X : mm_X} {d : Nat} {M : mm_M} {Q : Option Value → mm_M → Prop} {n : Int32} {t : Nat → Int} {nn : Int} (hX : g_X X) (hd : 3 ≤ d) (hG : g_G M) (q1 : 0 ≤ n.toInt ∧ n.toInt ≤ (M.2.1 1 1).toInt → n.toInt = nn) (q2 : TT M t nn) (q3 : g_W X) (h : ∀ (r : Int32) (M1 : mm_M), g_G M1 → FR md_bg M M1 → (0 ≤ r.toInt) → (r.toInt ≤ 1) → (n.toInt < 0 ∨ (M.2.1 1 1).toInt < n.toInt → (M1.2.1 1 1).toInt = (M.2.1 1 1).toInt ∧ r.toInt = 0) → (0 ≤ n.toInt ∧ n.toInt ≤ (M.2.1 1 1).toInt → (M1.2.1 1 1).toInt = 0 ∧ r.toInt = 1) → ((r.toInt = 1 → CS M1 t nn ∧ (M1.2.1 1 9).toInt = x_sk t nn 0)) → Q (some (.int r)) M1) : mm_T X d 78 0 [.ref 1, .int n] [] M Q := by
  have F0 : FR md_bg M M := FR.rf
  have b_1 := g_b hG (a := 1) (i := 1) (lo := 0) (hi := 500) rfl rfl
  refine to_in (pc := 0) rw_78_0 rfl (b_ilt (pc := 1) rw_78_1 (A := n.toInt) rfl (fun h2 => ?_) (fun h2 => ?_))
  · refine to_c (pc := 12) rw_78_12 (x := (0 : Int32)) rfl rfl (s_r1 (pc := 13) rw_78_13 (A := 0) rfl (by decide) ?_)
    have k_3 : (0 : Int32).toInt = 0 := rfl
    exact h (0 : Int32) M hG F0 (by decide) (by decide) (by omega) (by omega) (fun z => absurd z (by decide))
  · refine to_in (pc := 4) rw_78_4 rfl (to_an (pc := 5) rw_78_5 rfl (tt_gI (pc := 6) rw_78_6 (g_o hG rfl) (v := (M.2.1 1 1)) rfl (b_cle (pc := 9) rw_78_9 (A := n.toInt) (B := (M.2.1 1 1).toInt) rfl rfl (fun h4 => ?_) (fun h4 => ?_))))
    · refine to_an (pc := 14) rw_78_14 rfl (to_c (pc := 15) rw_78_15 (x := (0 : Int32)) rfl rfl (s_pI (pc := 16) rw_78_16 hG rfl (fun M6 W5 => ?_)))
      have hG7 := g_w hG W5 (A := 0) rfl (lo := 0) (hi := 500) rfl rfl (by omega) (by decide)
      have F8 := FR.w F0 W5 (show 1 = 1 ∨ 3 ≤ 1 ∧ 1 ≤ 5 by decide)
      refine to_an (pc := 19) rw_78_19 rfl (to_c (pc := 20) rw_78_20 (x := (0 : Int32)) rfl rfl (s_pI (pc := 21) rw_78_21 hG7 rfl (fun M10 W9 => ?_)))
      have hG11 := g_wf hG7 W9 rfl rfl (by decide)
      have F12 := FR.w F8 W9 (show 1 = 1 ∨ 3 ≤ 1 ∧ 1 ≤ 5 by decide)
      refine to_an (pc := 24) rw_78_24 rfl (to_c (pc := 25) rw_78_25 (x := (-1 : Int32)) rfl rfl (s_pI (pc := 26) rw_78_26 hG11 rfl (fun M14 W13 => ?_)))
      have hG15 := g_wf hG11 W13 rfl rfl (by decide)
      have F16 := FR.w F12 W13 (show 1 = 1 ∨ 3 ≤ 1 ∧ 1 ≤ 5 by decide)
      refine to_an (pc := 29) rw_78_29 rfl (to_in (pc := 30) rw_78_30 rfl (s_v (pc := 31) rw_78_31 (dp0 hd (by decide)) (ls0 := [.ref 1, .int n, .null, .null, .null]) rfl (Nat.le_of_ble_eq_true rfl) (Nat.le_of_ble_eq_true rfl) rfl (to_rc rfl rfl rfl (g_o hG15 rfl)) rfl ?_))
      have j_17 := (TT_f (fun a i z => W_n W13 (tg_6 a i z) rfl) (TT_f (fun a i z => W_n W9 (tg_7 a i z) rfl) (TT_f (fun a i z => W_n W5 (tg_8 a i z) rfl) q2)))
      refine E_79 hX (dp1 hd (by decide)) hG15 (by omega) (by omega) (by omega) j_17 q3 (n := n) (fun M22 hG19 F18 p_20 p_21 => ?_)
      have F23 := FR.c F16 F18 tg_4
      have b_24 := g_b hG19 (a := 1) (i := 5) (lo := 0) (hi := 501) rfl rfl
      have z_25 := p_21.1
      refine to_an (pc := 34) rw_78_34 rfl (to_c (pc := 35) rw_78_35 (x := (-1 : Int32)) rfl rfl (s_pI (pc := 36) rw_78_36 hG19 rfl (fun M27 W26 => ?_)))
      have F29 := FR.w F23 W26 (show 1 = 1 ∨ 3 ≤ 1 ∧ 1 ≤ 5 by decide)
      refine to_an (pc := 39) rw_78_39 rfl (s_v (pc := 40) rw_78_40 (dp0 hd (by decide)) (ls0 := [.ref 1]) rfl (Nat.le_of_ble_eq_true rfl) (Nat.le_of_ble_eq_true rfl) rfl (to_rc rfl rfl rfl (g_oW hG19 W26 rfl)) rfl (to_an (pc := 0) rw_83_0 rfl ?_))
      have c_30 : M27.2.1 1 6 = (-1 : Int32) := (W_e W26)
      refine tt_gI (pc := 1) rw_83_1 (g_oW hG19 W26 rfl) (v := (-1 : Int32)) c_30 (to_c (pc := 4) rw_83_4 (x := (1 : Int32)) rfl rfl (s_add (pc := 5) rw_83_5 (A := -1) (B := 1) rfl rfl (by omega) (fun v31 e32 => to_an (pc := 6) rw_83_6 rfl ?_)))
      have c_33 : M27.2.1 1 5 = (M22.2.1 1 5) := (W_n W26 (by decide) rfl)
      refine tt_gI (pc := 7) rw_83_7 (g_oW hG19 W26 rfl) (v := (M22.2.1 1 5)) c_33 (b_cge_f (pc := 10) rw_83_10 (A := v31.toInt) (B := (M22.2.1 1 5).toInt) rfl rfl (by omega) (to_an (pc := 13) rw_83_13 rfl (to_dupr (pc := 14) rw_83_14 (tt_gI (pc := 15) rw_83_15 (g_oW hG19 W26 rfl) (v := (-1 : Int32)) c_30 (to_c (pc := 18) rw_83_18 (x := (1 : Int32)) rfl rfl (s_add (pc := 19) rw_83_19 (A := -1) (B := 1) rfl rfl (by omega) (fun v34 e35 => s_pI0 (pc := 20) rw_83_20 (g_oW hG19 W26 rfl) (fun M37 W36 => ?_))))))))
      have hG38 := g_w hG19 (W_ww W36 W26) (A := v34.toInt) rfl (lo := 0) (hi := 500) rfl rfl (by omega) (by decide)
      have F39 := FR.w F29 W36 (show 1 = 1 ∨ 3 ≤ 1 ∧ 1 ≤ 5 by decide)
      refine to_an (pc := 23) rw_83_23 rfl (to_an (pc := 24) rw_83_24 rfl (s_gR (pc := 25) rw_83_25 hG38 rfl (v := 3) rfl (to_an (pc := 28) rw_83_28 rfl ?_)))
      have c_40 : M37.2.1 1 6 = v34 := (W_e W36)
      refine tt_gI (pc := 29) rw_83_29 (g_o hG38 rfl) (v := v34) c_40 (s_ial (pc := 32) rw_83_32 hG38 rfl (n := 501) rfl rfl (A := v34.toInt) rfl (by omega) (by omega) (lo := -2147483648) (hi := 2147483647) rfl rfl (fun v41 w_42 _ _ => ?_))
      have l_43 : M22.2.1 3 (v34.toInt).toNat = v41 := (show M37.2.1 3 (v34.toInt).toNat = M22.2.1 3 (v34.toInt).toNat from (W_n W36 (by omega) (W_n W26 (by omega) rfl))).symm.trans w_42
      refine s_pI (pc := 33) rw_83_33 hG38 rfl (fun M45 W44 => ?_)
      have hG46 := g_wf hG38 W44 rfl rfl (by decide)
      have F47 := FR.w F39 W44 (show 1 = 1 ∨ 3 ≤ 1 ∧ 1 ≤ 5 by decide)
      refine to_an (pc := 36) rw_83_36 rfl (to_an (pc := 37) rw_83_37 rfl (s_gR (pc := 38) rw_83_38 hG46 rfl (v := 4) rfl (to_an (pc := 41) rw_83_41 rfl ?_)))
      have c_48 : M45.2.1 1 6 = v34 := (W_n W44 (by decide) c_40)
      refine tt_gI (pc := 42) rw_83_42 (g_o hG46 rfl) (v := v34) c_48 (s_ial (pc := 45) rw_83_45 hG46 rfl (n := 501) rfl rfl (A := v34.toInt) rfl (by omega) (by omega) (lo := -2147483648) (hi := 2147483647) rfl rfl (fun v49 w_50 _ _ => ?_))
      have l_51 : M22.2.1 4 (v34.toInt).toNat = v49 := (show M45.2.1 4 (v34.toInt).toNat = M22.2.1 4 (v34.toInt).toNat from (W_n W44 (by omega) (W_n W36 (by omega) (W_n W26 (by omega) rfl)))).symm.trans w_50
      refine s_pI (pc := 46) rw_83_46 hG46 rfl (fun M53 W52 => ?_)
      have hG54 := g_wf hG46 W52 rfl rfl (by decide)
      have F55 := FR.w F47 W52 (show 1 = 1 ∨ 3 ≤ 1 ∧ 1 ≤ 5 by decide)
      refine to_an (pc := 49) rw_83_49 rfl (to_an (pc := 50) rw_83_50 rfl (s_gR (pc := 51) rw_83_51 hG54 rfl (v := 5) rfl (to_an (pc := 54) rw_83_54 rfl ?_)))
      have c_56 : M53.2.1 1 6 = v34 := (W_n W52 (by decide) c_48)
      refine tt_gI (pc := 55) rw_83_55 (g_o hG54 rfl) (v := v34) c_56 (s_ial (pc := 58) rw_83_58 hG54 rfl (n := 501) rfl rfl (A := v34.toInt) rfl (by omega) (by omega) (lo := -2147483648) (hi := 2147483647) rfl rfl (fun v57 w_58 _ _ => ?_))
      have l_59 : M22.2.1 5 (v34.toInt).toNat = v57 := (show M53.2.1 5 (v34.toInt).toNat = M22.2.1 5 (v34.toInt).toNat from (W_n W52 (by omega) (W_n W44 (by omega) (W_n W36 (by omega) (W_n W26 (by omega) rfl))))).symm.trans w_58
      refine s_pI (pc := 59) rw_83_59 hG54 rfl (fun M61 W60 => ?_)
      have hG62 := g_wf hG54 W60 rfl rfl (by decide)
      have F63 := FR.w F55 W60 (show 1 = 1 ∨ 3 ≤ 1 ∧ 1 ≤ 5 by decide)
      refine to_rv (pc := 62) rw_83_62 (to_c (pc := 43) rw_78_43 (x := (1 : Int32)) rfl rfl (s_r1 (pc := 44) rw_78_44 (A := 1) rfl (by decide) ?_))
      have k_64 : (1 : Int32).toInt = 1 := rfl
      have c_65 : M61.2.1 1 1 = (0 : Int32) := (W_n W60 (by decide) (W_n W52 (by decide) (W_n W44 (by decide) (W_n W36 (by decide) (W_n W26 (by decide) (F_n F18 (show ¬ (1 = 1 ∧ 1 = 5 ∨ 3 ≤ 1 ∧ 1 ≤ 5) by decide) (W_n W13 (by decide) (W_n W9 (by decide) (W_e W5)))))))))
      have k_66 : (0 : Int32).toInt = 0 := rfl
      have t_67 : (M61.2.1 1 1).toInt = (0 : Int32).toInt := congrArg Int32.toInt c_65
      have c_68 : M61.2.1 1 5 = (M22.2.1 1 5) := (W_n W60 (by decide) (W_n W52 (by decide) (W_n W44 (by decide) (W_n W36 (by decide) c_33))))
      have t_69 : (M61.2.1 1 5).toInt = (M22.2.1 1 5).toInt := congrArg Int32.toInt c_68
      have c_70 : M61.2.1 1 6 = v34 := (W_n W60 (by decide) c_56)
      have t_71 : (M61.2.1 1 6).toInt = v34.toInt := congrArg Int32.toInt c_70
      have c_72 : M61.2.1 1 7 = v41 := (W_n W60 (by decide) (W_n W52 (by decide) (W_e W44)))
      have t_73 : (M61.2.1 1 7).toInt = v41.toInt := congrArg Int32.toInt c_72
      have c_74 : M61.2.1 1 8 = v49 := (W_n W60 (by decide) (W_e W52))
      have t_75 : (M61.2.1 1 8).toInt = v49.toInt := congrArg Int32.toInt c_74
      have c_76 : M61.2.1 1 9 = v57 := (W_e W60)
      have t_77 : (M61.2.1 1 9).toInt = v57.toInt := congrArg Int32.toInt c_76
      have h_78 : (M61.2.1 1 7).toInt = (M22.2.1 3 (M61.2.1 1 6).toInt.toNat).toInt := by rw [c_72, c_70, l_43]
      have h_79 : (M61.2.1 1 8).toInt = (M22.2.1 4 (M61.2.1 1 6).toInt.toNat).toInt := by rw [c_74, c_70, l_51]
      have h_80 : (M61.2.1 1 9).toInt = (M22.2.1 5 (M61.2.1 1 6).toInt.toNat).toInt := by rw [c_76, c_70, l_59]
      exact h (1 : Int32) M61 hG62 F63 (by decide) (by decide) (by omega) (by omega) (fun _ => (CS_b p_21 (W_n W60 (by omega) (W_n W52 (by omega) (W_n W44 (by omega) (W_n W36 (by omega) (W_n W26 (by omega) rfl))))) (fun a i z => (W_n W60 (by /-r1,9-/ omega) (W_n W52 (by /-r1,8-/ omega) (W_n W44 (by /-r1,7-/ omega) (W_n W36 (by /-r1,6-/ omega) (W_n W26 (by /-r1,6-/ omega) rfl)))))) (by omega) h_78 h_79 h_80))
    · refine to_c (pc := 12) rw_78_12 (x := (0 : Int32)) rfl rfl (s_r1 (pc := 13) rw_78_13 (A := 0) rfl (by decide) ?_)
      have k_81 : (0 : Int32).toInt = 0 := rfl
      exact h (0 : Int32) M hG F0 (by decide) (by decide) (by omega) (by omega) (fun z => absurd z (by decide))
