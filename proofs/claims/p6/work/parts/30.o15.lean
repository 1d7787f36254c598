set_option maxRecDepth 4000 in
set_option maxHeartbeats 0 in
theorem C_211 {X : mm_X} {d : Nat} {M : mm_M} {Q : Option Value → mm_M → Prop} (hX : g_X X) (hd : 1 ≤ d) (hG : g_G M) (h : ∀ (r : Int32) (M1 : mm_M), g_G M1 → FR md_wr2 M M1 → (-1 ≤ r.toInt) → (r.toInt ≤ 5) → (0 ≤ r.toInt → (M.2.1 77 8).toInt = 2) → (0 ≤ r.toInt → (M1.2.1 77 4).toInt = (M.2.1 77 4).toInt ∧ (M1.2.1 77 5).toInt = (M.2.1 77 5).toInt) → Q (some (.int r)) M1) : mm_T X d 210 0 [.ref 77, .null, .null] [] M Q := by
  have F0 : FR md_wr2 M M := FR.rf
  refine to_an (pc := 0) rw_211_0 rfl ?_
  have b_1 := g_b hG (a := 77) (i := 8) (lo := 0) (hi := 5) rfl rfl
  refine tt_gI (pc := 1) rw_211_1 (g_o hG rfl) (v := (M.2.1 77 8)) rfl (to_c (pc := 4) rw_211_4 (x := (2 : Int32)) rfl rfl (b_cne (pc := 5) rw_211_5 (A := (M.2.1 77 8).toInt) (B := 2) rfl rfl (fun h2 => ?_) (fun h2 => ?_)))
  · refine to_c (pc := 31) rw_211_31 (x := (-1 : Int32)) rfl rfl (to_isn (pc := 32) rw_211_32 (ls2 := [.ref 77, .int (-1 : Int32), .null]) rfl rfl (to_in (pc := 33) rw_211_33 rfl (b_ilt_t (pc := 34) rw_211_34 (A := -1) rfl (by decide) (to_an (pc := 42) rw_211_42 rfl (to_c (pc := 43) rw_211_43 (x := (1 : Int32)) rfl rfl (s_v (pc := 44) rw_211_44 (dp0 hd (by decide)) (ls0 := [.ref 77, .int (1 : Int32)]) rfl (Nat.le_of_ble_eq_true rfl) (Nat.le_of_ble_eq_true rfl) rfl (to_rc rfl rfl rfl (g_o hG rfl)) rfl (to_an (pc := 0) rw_152_0 rfl (to_in (pc := 1) rw_152_1 rfl (s_pI (pc := 2) rw_152_2 hG rfl (fun M4 W3 => ?_))))))))))
    have hG5 := g_wf hG W3 rfl rfl (by decide)
    have F6 := FR.w F0 W3 (show 77 = 77 ∧ (4 = 4 ∨ 4 = 5) by decide)
    refine to_an (pc := 5) rw_152_5 rfl (to_an (pc := 6) rw_152_6 rfl ?_)
    have c_7 : M4.2.1 77 10 = (M.2.1 77 10) := (W_n W3 (by decide) rfl)
    have b_8 := g_b hG (a := 77) (i := 10) (lo := 0) (hi := 500) rfl rfl
    refine tt_gI (pc := 7) rw_152_7 (g_o hG5 rfl) (v := (M.2.1 77 10)) c_7 (s_pI (pc := 10) rw_152_10 hG5 rfl (fun M10 W9 => ?_))
    have hG11 := g_wf hG5 W9 rfl rfl (by decide)
    have F12 := FR.w F6 W9 (show 77 = 77 ∧ (5 = 4 ∨ 5 = 5) by decide)
    refine to_c (pc := 13) rw_152_13 (x := (0 : Int32)) rfl rfl (s_r1 (pc := 14) rw_152_14 (A := 0) rfl (by decide) (to_isn (pc := 47) rw_211_47 (ls2 := [.ref 77, .int (-1 : Int32), .int (0 : Int32)]) rfl rfl (to_c (pc := 48) rw_211_48 (x := (-1 : Int32)) rfl rfl (to_r0 (pc := 49) rw_211_49 ?_))))
    have k_13 : (-1 : Int32).toInt = -1 := rfl
    have c_14 : M10.2.1 77 4 = (1 : Int32) := (W_n W9 (by decide) (W_e W3))
    have k_15 : (1 : Int32).toInt = 1 := rfl
    have t_16 : (M10.2.1 77 4).toInt = (1 : Int32).toInt := congrArg Int32.toInt c_14
    have c_17 : M10.2.1 77 5 = (M.2.1 77 10) := (W_e W9)
    have t_18 : (M10.2.1 77 5).toInt = (M.2.1 77 10).toInt := congrArg Int32.toInt c_17
    exact h (-1 : Int32) M10 hG11 F12 (by omega) (by omega) (by omega) (by omega)
  · refine to_an (pc := 8) rw_211_8 rfl (tt_gI (pc := 9) rw_211_9 (g_o hG rfl) (v := (M.2.1 77 9)) rfl (to_c (pc := 12) rw_211_12 (x := (33554431 : Int32)) rfl rfl (s_and (pc := 15) rw_211_15 (B := 33554431) rfl (by omega) (fun v19 e20 _ _ => b_ine (pc := 16) rw_211_16 (A := v19.toInt) rfl (fun h21 => ?_) (fun h21 => ?_)))))
    · refine to_c (pc := 31) rw_211_31 (x := (-1 : Int32)) rfl rfl (to_isn (pc := 32) rw_211_32 (ls2 := [.ref 77, .int (-1 : Int32), .null]) rfl rfl (to_in (pc := 33) rw_211_33 rfl (b_ilt_t (pc := 34) rw_211_34 (A := -1) rfl (by decide) (to_an (pc := 42) rw_211_42 rfl (to_c (pc := 43) rw_211_43 (x := (1 : Int32)) rfl rfl (s_v (pc := 44) rw_211_44 (dp0 hd (by decide)) (ls0 := [.ref 77, .int (1 : Int32)]) rfl (Nat.le_of_ble_eq_true rfl) (Nat.le_of_ble_eq_true rfl) rfl (to_rc rfl rfl rfl (g_o hG rfl)) rfl (to_an (pc := 0) rw_152_0 rfl (to_in (pc := 1) rw_152_1 rfl (s_pI (pc := 2) rw_152_2 hG rfl (fun M23 W22 => ?_))))))))))
      have hG24 := g_wf hG W22 rfl rfl (by decide)
      have F25 := FR.w F0 W22 (show 77 = 77 ∧ (4 = 4 ∨ 4 = 5) by decide)
      refine to_an (pc := 5) rw_152_5 rfl (to_an (pc := 6) rw_152_6 rfl ?_)
      have c_26 : M23.2.1 77 10 = (M.2.1 77 10) := (W_n W22 (by decide) rfl)
      have b_27 := g_b hG (a := 77) (i := 10) (lo := 0) (hi := 500) rfl rfl
      refine tt_gI (pc := 7) rw_152_7 (g_o hG24 rfl) (v := (M.2.1 77 10)) c_26 (s_pI (pc := 10) rw_152_10 hG24 rfl (fun M29 W28 => ?_))
      have hG30 := g_wf hG24 W28 rfl rfl (by decide)
      have F31 := FR.w F25 W28 (show 77 = 77 ∧ (5 = 4 ∨ 5 = 5) by decide)
      refine to_c (pc := 13) rw_152_13 (x := (0 : Int32)) rfl rfl (s_r1 (pc := 14) rw_152_14 (A := 0) rfl (by decide) (to_isn (pc := 47) rw_211_47 (ls2 := [.ref 77, .int (-1 : Int32), .int (0 : Int32)]) rfl rfl (to_c (pc := 48) rw_211_48 (x := (-1 : Int32)) rfl rfl (to_r0 (pc := 49) rw_211_49 ?_))))
      have k_32 : (-1 : Int32).toInt = -1 := rfl
      have c_33 : M29.2.1 77 4 = (1 : Int32) := (W_n W28 (by decide) (W_e W22))
      have k_34 : (1 : Int32).toInt = 1 := rfl
      have t_35 : (M29.2.1 77 4).toInt = (1 : Int32).toInt := congrArg Int32.toInt c_33
      have c_36 : M29.2.1 77 5 = (M.2.1 77 10) := (W_e W28)
      have t_37 : (M29.2.1 77 5).toInt = (M.2.1 77 10).toInt := congrArg Int32.toInt c_36
      exact h (-1 : Int32) M29 hG30 F31 (by omega) (by omega) (by omega) (by omega)
    · refine to_an (pc := 19) rw_211_19 rfl (tt_gI (pc := 20) rw_211_20 (g_o hG rfl) (v := (M.2.1 77 9)) rfl (to_c (pc := 23) rw_211_23 (x := (25 : Int32)) rfl rfl (s_any (pc := 25) rw_211_25 (fun _ _ => rfl) (fun v38 => to_c (pc := 26) rw_211_26 (x := (1 : Int32)) rfl rfl (s_any (pc := 27) rw_211_27 (fun _ _ => rfl) (fun v39 => to_go (pc := 28) rw_211_28 (to_isn (pc := 32) rw_211_32 (ls2 := [.ref 77, .int v39, .null]) rfl rfl (to_in (pc := 33) rw_211_33 rfl (b_ilt (pc := 34) rw_211_34 (A := v39.toInt) rfl (fun h40 => ?_) (fun h40 => ?_))))))))))
      · refine to_an (pc := 42) rw_211_42 rfl (to_c (pc := 43) rw_211_43 (x := (1 : Int32)) rfl rfl (s_v (pc := 44) rw_211_44 (dp0 hd (by decide)) (ls0 := [.ref 77, .int (1 : Int32)]) rfl (Nat.le_of_ble_eq_true rfl) (Nat.le_of_ble_eq_true rfl) rfl (to_rc rfl rfl rfl (g_o hG rfl)) rfl (to_an (pc := 0) rw_152_0 rfl (to_in (pc := 1) rw_152_1 rfl (s_pI (pc := 2) rw_152_2 hG rfl (fun M42 W41 => ?_))))))
        have hG43 := g_wf hG W41 rfl rfl (by decide)
        have F44 := FR.w F0 W41 (show 77 = 77 ∧ (4 = 4 ∨ 4 = 5) by decide)
        refine to_an (pc := 5) rw_152_5 rfl (to_an (pc := 6) rw_152_6 rfl ?_)
        have c_45 : M42.2.1 77 10 = (M.2.1 77 10) := (W_n W41 (by decide) rfl)
        have b_46 := g_b hG (a := 77) (i := 10) (lo := 0) (hi := 500) rfl rfl
        refine tt_gI (pc := 7) rw_152_7 (g_o hG43 rfl) (v := (M.2.1 77 10)) c_45 (s_pI (pc := 10) rw_152_10 hG43 rfl (fun M48 W47 => ?_))
        have hG49 := g_wf hG43 W47 rfl rfl (by decide)
        have F50 := FR.w F44 W47 (show 77 = 77 ∧ (5 = 4 ∨ 5 = 5) by decide)
        refine to_c (pc := 13) rw_152_13 (x := (0 : Int32)) rfl rfl (s_r1 (pc := 14) rw_152_14 (A := 0) rfl (by decide) (to_isn (pc := 47) rw_211_47 (ls2 := [.ref 77, .int v39, .int (0 : Int32)]) rfl rfl (to_c (pc := 48) rw_211_48 (x := (-1 : Int32)) rfl rfl (to_r0 (pc := 49) rw_211_49 ?_))))
        have k_51 : (-1 : Int32).toInt = -1 := rfl
        have c_52 : M48.2.1 77 4 = (1 : Int32) := (W_n W47 (by decide) (W_e W41))
        have k_53 : (1 : Int32).toInt = 1 := rfl
        have t_54 : (M48.2.1 77 4).toInt = (1 : Int32).toInt := congrArg Int32.toInt c_52
        have c_55 : M48.2.1 77 5 = (M.2.1 77 10) := (W_e W47)
        have t_56 : (M48.2.1 77 5).toInt = (M.2.1 77 10).toInt := congrArg Int32.toInt c_55
        exact h (-1 : Int32) M48 hG49 F50 (by omega) (by omega) (by omega) (by omega)
      · refine to_in (pc := 37) rw_211_37 rfl (to_c (pc := 38) rw_211_38 (x := (5 : Int32)) rfl rfl (b_cle (pc := 39) rw_211_39 (A := v39.toInt) (B := 5) rfl rfl (fun h57 => ?_) (fun h57 => ?_)))
        · refine to_in (pc := 50) rw_211_50 rfl (to_r0 (pc := 51) rw_211_51 ?_)
          exact h v39 M hG F0 (by omega) (by omega) (by omega) (by omega)
        · refine to_an (pc := 42) rw_211_42 rfl (to_c (pc := 43) rw_211_43 (x := (1 : Int32)) rfl rfl (s_v (pc := 44) rw_211_44 (dp0 hd (by decide)) (ls0 := [.ref 77, .int (1 : Int32)]) rfl (Nat.le_of_ble_eq_true rfl) (Nat.le_of_ble_eq_true rfl) rfl (to_rc rfl rfl rfl (g_o hG rfl)) rfl (to_an (pc := 0) rw_152_0 rfl (to_in (pc := 1) rw_152_1 rfl (s_pI (pc := 2) rw_152_2 hG rfl (fun M59 W58 => ?_))))))
          have hG60 := g_wf hG W58 rfl rfl (by decide)
          have F61 := FR.w F0 W58 (show 77 = 77 ∧ (4 = 4 ∨ 4 = 5) by decide)
          refine to_an (pc := 5) rw_152_5 rfl (to_an (pc := 6) rw_152_6 rfl ?_)
          have c_62 : M59.2.1 77 10 = (M.2.1 77 10) := (W_n W58 (by decide) rfl)
          have b_63 := g_b hG (a := 77) (i := 10) (lo := 0) (hi := 500) rfl rfl
          refine tt_gI (pc := 7) rw_152_7 (g_o hG60 rfl) (v := (M.2.1 77 10)) c_62 (s_pI (pc := 10) rw_152_10 hG60 rfl (fun M65 W64 => ?_))
          have hG66 := g_wf hG60 W64 rfl rfl (by decide)
          have F67 := FR.w F61 W64 (show 77 = 77 ∧ (5 = 4 ∨ 5 = 5) by decide)
          refine to_c (pc := 13) rw_152_13 (x := (0 : Int32)) rfl rfl (s_r1 (pc := 14) rw_152_14 (A := 0) rfl (by decide) (to_isn (pc := 47) rw_211_47 (ls2 := [.ref 77, .int v39, .int (0 : Int32)]) rfl rfl (to_c (pc := 48) rw_211_48 (x := (-1 : Int32)) rfl rfl (to_r0 (pc := 49) rw_211_49 ?_))))
          have k_68 : (-1 : Int32).toInt = -1 := rfl
          have c_69 : M65.2.1 77 4 = (1 : Int32) := (W_n W64 (by decide) (W_e W58))
          have k_70 : (1 : Int32).toInt = 1 := rfl
          have t_71 : (M65.2.1 77 4).toInt = (1 : Int32).toInt := congrArg Int32.toInt c_69
          have c_72 : M65.2.1 77 5 = (M.2.1 77 10) := (W_e W64)
          have t_73 : (M65.2.1 77 5).toInt = (M.2.1 77 10).toInt := congrArg Int32.toInt c_72
          exact h (-1 : Int32) M65 hG66 F67 (by omega) (by omega) (by omega) (by omega)
set_option maxRecDepth 4000 in
set_option maxHeartbeats 0 in
theorem C_212 {X : mm_X} {d : Nat} {M : mm_M} {Q : Option Value → mm_M → Prop} {a : Int32} (hX : g_X X) (hd : 2 ≤ d) (hG : g_G M) (q1 : 0 ≤ a.toInt) (q2 : a.toInt ≤ 39) (q3 : (M.2.1 77 7).toInt ≤ (M.2.1 77 6).toInt) (h : ∀ (r : Int32) (M1 : mm_M), g_G M1 → FR md_ho M M1 → (0 ≤ r.toInt) → (r.toInt ≤ 1) → ((M1.2.1 77 7).toInt ≤ (M1.2.1 77 6).toInt) → ((M.2.1 77 7).toInt ≤ (M1.2.1 77 7).toInt) → (r.toInt = 1 → (M1.2.1 77 8).toInt = 0 ∨ (M.2.1 77 7).toInt < (M1.2.1 77 7).toInt) → (r.toInt = 1 → (M1.2.1 77 4).toInt = (M.2.1 77 4).toInt ∧ (M1.2.1 77 5).toInt = (M.2.1 77 5).toInt) → Q (some (.int r)) M1) : mm_T X d 211 0 [.ref 77, .int a, .null, .null] [] M Q := by
  have F0 : FR md_ho M M := FR.rf
  have b_1 := g_b hG (a := 77) (i := 7) (lo := 0) (hi := 500) rfl rfl
  have b_2 := g_b hG (a := 77) (i := 6) (lo := 0) (hi := 500) rfl rfl
  refine to_an (pc := 0) rw_212_0 rfl ?_
  have b_3 := g_b hG (a := 77) (i := 8) (lo := 0) (hi := 5) rfl rfl
  refine tt_gI (pc := 1) rw_212_1 (g_o hG rfl) (v := (M.2.1 77 8)) rfl (to_c (pc := 4) rw_212_4 (x := (3 : Int32)) rfl rfl (b_cne (pc := 5) rw_212_5 (A := (M.2.1 77 8).toInt) (B := 3) rfl rfl (fun h4 => ?_) (fun h4 => ?_)))
  · refine to_an (pc := 45) rw_212_45 rfl (to_an (pc := 46) rw_212_46 rfl (tt_gI (pc := 47) rw_212_47 (g_o hG rfl) (v := (M.2.1 77 9)) rfl (s_v (pc := 50) rw_212_50 (dp0 hd (by decide)) (ls0 := [.ref 77, .int (M.2.1 77 9), .null]) rfl (Nat.le_of_ble_eq_true rfl) (Nat.le_of_ble_eq_true rfl) rfl (to_rc rfl rfl rfl (g_o hG rfl)) rfl ?_)))
    have b_5 := g_b hG (a := 77) (i := 12) (lo := 0) (hi := 8) rfl rfl
    refine C_175 hX (dp1 hd (by decide)) hG (n := (M.2.1 77 9)) (fun r6 M12 hG8 F7 p_9 p_10 p_11 => ?_)
    have F13 := FR.c F0 F7 tg_157
    refine to_isn (pc := 53) rw_212_53 (ls2 := [.ref 77, .int a, .int r6, .null]) rfl rfl (to_an (pc := 54) rw_212_54 rfl (to_an (pc := 55) rw_212_55 rfl ?_))
    have c_14 : M12.2.1 77 9 = (M.2.1 77 9) := (F_n F7 (show ¬ (77 < 0) by decide) rfl)
    refine tt_gI (pc := 56) rw_212_56 (g_o hG8 rfl) (v := (M.2.1 77 9)) c_14 (s_v (pc := 59) rw_212_59 (dp0 hd (by decide)) (ls0 := [.ref 77, .int (M.2.1 77 9), .null]) rfl (Nat.le_of_ble_eq_true rfl) (Nat.le_of_ble_eq_true rfl) rfl (to_rc rfl rfl rfl (g_o hG8 rfl)) rfl ?_)
    have c_15 : M12.2.1 77 13 = (M.2.1 77 13) := (F_n F7 (show ¬ (77 < 0) by decide) rfl)
    have b_16 := g_b hG (a := 77) (i := 13) (lo := 0) (hi := 12) rfl rfl
    have t_17 : (M12.2.1 77 13).toInt = (M.2.1 77 13).toInt := congrArg Int32.toInt c_15
    refine C_176 hX (dp1 hd (by decide)) hG8 (n := (M.2.1 77 9)) (fun r18 M24 hG20 F19 p_21 p_22 p_23 => ?_)
    have F25 := FR.c F13 F19 tg_157
    refine to_isn (pc := 62) rw_212_62 (ls2 := [.ref 77, .int a, .int r6, .int r18]) rfl rfl (to_in (pc := 63) rw_212_63 rfl (b_ige (pc := 64) rw_212_64 (A := r6.toInt) rfl (fun h26 => ?_) (fun h26 => ?_)))
    · refine to_an (pc := 77) rw_212_77 rfl (s_v (pc := 78) rw_212_78 (dp0 hd (by decide)) (ls0 := [.ref 77]) rfl (Nat.le_of_ble_eq_true rfl) (Nat.le_of_ble_eq_true rfl) rfl (to_rc rfl rfl rfl (g_o hG20 rfl)) rfl ?_)
      have c_27 : M24.2.1 77 7 = (M.2.1 77 7) := (F_n F19 (show ¬ (77 < 0) by decide) (F_n F7 (show ¬ (77 < 0) by decide) rfl))
      have t_28 : (M24.2.1 77 7).toInt = (M.2.1 77 7).toInt := congrArg Int32.toInt c_27
      have c_29 : M24.2.1 77 6 = (M.2.1 77 6) := (F_n F19 (show ¬ (77 < 0) by decide) (F_n F7 (show ¬ (77 < 0) by decide) rfl))
      have t_30 : (M24.2.1 77 6).toInt = (M.2.1 77 6).toInt := congrArg Int32.toInt c_29
      refine C_156 hX (dp1 hd (by decide)) hG20 (by omega)  (fun M36 hG32 F31 p_33 p_34 p_35 => ?_)
      have F37 := FR.c F25 F31 tg_158
      have b_38 := g_b hG32 (a := 77) (i := 7) (lo := 0) (hi := 500) rfl rfl
      have c_39 : M36.2.1 77 6 = (M.2.1 77 6) := (F_n F31 (show ¬ (77 = 77 ∧ 7 ≤ 6 ∧ 6 ≤ 10) by decide) c_29)
      have t_40 : (M36.2.1 77 6).toInt = (M.2.1 77 6).toInt := congrArg Int32.toInt c_39
      have b_41 := g_b hG32 (a := 77) (i := 8) (lo := 0) (hi := 5) rfl rfl
      refine to_in (pc := 81) rw_212_81 rfl (b_ilt (pc := 82) rw_212_82 (A := r18.toInt) rfl (fun h42 => ?_) (fun h42 => ?_))
      · refine to_an (pc := 99) rw_212_99 rfl (to_c (pc := 100) rw_212_100 (x := (0 : Int32)) rfl rfl (to_an (pc := 101) rw_212_101 rfl (s_gR (pc := 102) rw_212_102 hG32 rfl (v := 83) rfl (to_in (pc := 105) rw_212_105 rfl (s_ial (pc := 106) rw_212_106 hG32 rfl (n := 16) rfl rfl (A := r6.toInt) rfl (by omega) (by omega) (lo := 0) (hi := 63) rfl rfl (fun v43 w_44 _ _ => to_an (pc := 107) rw_212_107 rfl (s_gR (pc := 108) rw_212_108 hG32 rfl (v := 82) rfl (to_in (pc := 111) rw_212_111 rfl (s_ial (pc := 112) rw_212_112 hG32 rfl (n := 16) rfl rfl (A := r6.toInt) rfl (by omega) (by omega) (lo := 0) (hi := 59) rfl rfl (fun v45 w_46 _ _ => s_sub (pc := 113) rw_212_113 (A := v43.toInt) (B := v45.toInt) rfl rfl (by omega) (fun v47 e48 => s_v (pc := 114) rw_212_114 (dp0 hd (by decide)) (ls0 := [.ref 77, .int (0 : Int32), .int v47]) rfl (Nat.le_of_ble_eq_true rfl) (Nat.le_of_ble_eq_true rfl) rfl (to_rc rfl rfl rfl (g_o hG32 rfl)) rfl ?_)))))))))))
        refine to_an (pc := 0) rw_162_0 rfl (tt_gI (pc := 1) rw_162_1 (g_o hG32 rfl) (v := (M36.2.1 77 8)) rfl (to_c (pc := 4) rw_162_4 (x := (3 : Int32)) rfl rfl (b_ceq (pc := 5) rw_162_5 (A := (M36.2.1 77 8).toInt) (B := 3) rfl rfl (fun h49 => ?_) (fun h49 => ?_))))
        · refine to_an (pc := 14) rw_162_14 rfl (tt_gI (pc := 15) rw_162_15 (g_o hG32 rfl) (v := (M36.2.1 77 9)) rfl (to_in (pc := 18) rw_162_18 rfl (b_clt (pc := 19) rw_162_19 (A := (M36.2.1 77 9).toInt) (B := 0) rfl rfl (fun h50 => ?_) (fun h50 => ?_))))
          · refine to_an (pc := 30) rw_162_30 rfl (to_c (pc := 31) rw_162_31 (x := (2 : Int32)) rfl rfl (s_v (pc := 32) rw_162_32 (dp1 hd (by decide)) (ls0 := [.ref 77, .int (2 : Int32)]) rfl (Nat.le_of_ble_eq_true rfl) (Nat.le_of_ble_eq_true rfl) rfl (to_rc rfl rfl rfl (g_o hG32 rfl)) rfl (to_an (pc := 0) rw_152_0 rfl (to_in (pc := 1) rw_152_1 rfl (s_pI (pc := 2) rw_152_2 hG32 rfl (fun M52 W51 => ?_))))))
            have hG53 := g_wf hG32 W51 rfl rfl (by decide)
            have F54 := FR.w F37 W51 (show 77 = 77 ∧ (4 = 4 ∨ 4 = 5 ∨ 7 ≤ 4 ∧ 4 ≤ 10) ∨ 77 = 106 ∨ 77 = 107 by decide)
            refine to_an (pc := 5) rw_152_5 rfl (to_an (pc := 6) rw_152_6 rfl ?_)
            have c_55 : M52.2.1 77 10 = (M36.2.1 77 10) := (W_n W51 (by decide) rfl)
            have b_56 := g_b hG32 (a := 77) (i := 10) (lo := 0) (hi := 500) rfl rfl
            refine tt_gI (pc := 7) rw_152_7 (g_o hG53 rfl) (v := (M36.2.1 77 10)) c_55 (s_pI (pc := 10) rw_152_10 hG53 rfl (fun M58 W57 => ?_))
            have hG59 := g_wf hG53 W57 rfl rfl (by decide)
            have F60 := FR.w F54 W57 (show 77 = 77 ∧ (5 = 4 ∨ 5 = 5 ∨ 7 ≤ 5 ∧ 5 ≤ 10) ∨ 77 = 106 ∨ 77 = 107 by decide)
            refine to_c (pc := 13) rw_152_13 (x := (0 : Int32)) rfl rfl (s_r1 (pc := 14) rw_152_14 (A := 0) rfl (by decide) (b_ieq_t (pc := 35) rw_162_35 (A := 0) rfl (by decide) (to_c (pc := 42) rw_162_42 (x := (0 : Int32)) rfl rfl (s_r1 (pc := 43) rw_162_43 (A := 0) rfl (by decide) (b_ine_f (pc := 117) rw_212_117 (A := 0) rfl (by decide) (to_c (pc := 120) rw_212_120 (x := (0 : Int32)) rfl rfl (s_r1 (pc := 121) rw_212_121 (A := 0) rfl (by decide) ?_)))))))
            have k_61 : (0 : Int32).toInt = 0 := rfl
            have c_62 : M58.2.1 77 7 = (M36.2.1 77 7) := (W_n W57 (by decide) (W_n W51 (by decide) rfl))
            have t_63 : (M58.2.1 77 7).toInt = (M36.2.1 77 7).toInt := congrArg Int32.toInt c_62
            have c_64 : M58.2.1 77 6 = (M.2.1 77 6) := (W_n W57 (by decide) (W_n W51 (by decide) c_39))
            have t_65 : (M58.2.1 77 6).toInt = (M.2.1 77 6).toInt := congrArg Int32.toInt c_64
            have c_66 : M58.2.1 77 8 = (M36.2.1 77 8) := (W_n W57 (by decide) (W_n W51 (by decide) rfl))
            have t_67 : (M58.2.1 77 8).toInt = (M36.2.1 77 8).toInt := congrArg Int32.toInt c_66
            have c_68 : M58.2.1 77 4 = (2 : Int32) := (W_n W57 (by decide) (W_e W51))
            have k_69 : (2 : Int32).toInt = 2 := rfl
            have t_70 : (M58.2.1 77 4).toInt = (2 : Int32).toInt := congrArg Int32.toInt c_68
            have c_71 : M58.2.1 77 5 = (M36.2.1 77 10) := (W_e W57)
            have t_72 : (M58.2.1 77 5).toInt = (M36.2.1 77 10).toInt := congrArg Int32.toInt c_71
            exact h (0 : Int32) M58 hG59 F60 (by decide) (by decide) (by omega) (by omega) (by omega) (by omega)
          · refine to_an (pc := 22) rw_162_22 rfl (tt_gI (pc := 23) rw_162_23 (g_o hG32 rfl) (v := (M36.2.1 77 9)) rfl (to_in (pc := 26) rw_162_26 rfl (b_cle (pc := 27) rw_162_27 (A := (M36.2.1 77 9).toInt) (B := v47.toInt) rfl rfl (fun h73 => ?_) (fun h73 => ?_))))
            · refine to_c (pc := 38) rw_162_38 (x := (1 : Int32)) rfl rfl (to_go (pc := 39) rw_162_39 (s_r1 (pc := 43) rw_162_43 (A := 1) rfl (by decide) (b_ine_t (pc := 117) rw_212_117 (A := 1) rfl (by decide) (to_an (pc := 122) rw_212_122 rfl (s_gR (pc := 123) rw_212_123 hG32 rfl (v := 106) rfl (to_in (pc := 126) rw_212_126 rfl (to_dup2 (pc := 127) rw_212_127 (s_lal (pc := 128) rw_212_128 hG32 rfl (n := 40) rfl (A := a.toInt) rfl (by omega) (by omega) (fun l74 => s_cl (pc := 129) rw_212_129 rfl (fun l75 => to_an (pc := 130) rw_212_130 rfl (s_gR (pc := 131) rw_212_131 hG32 rfl (v := 82) rfl ?_)))))))))))
              refine to_in (pc := 134) rw_212_134 rfl (s_ialk (pc := 135) rw_212_135 hG32 rfl (n := 16) rfl rfl (A := r6.toInt) rfl (by omega) (by omega) (v := v45) w_46 (to_an (pc := 136) rw_212_136 rfl (tt_gI (pc := 137) rw_212_137 (g_o hG32 rfl) (v := (M36.2.1 77 9)) rfl (s_add (pc := 140) rw_212_140 (A := v45.toInt) (B := (M36.2.1 77 9).toInt) rfl rfl (by omega) (fun v78 e79 => s_anyS (pc := 141) rw_212_141 (fun _ _ => rfl) (fun l80 => s_anyL (pc := 142) rw_212_142 (fun _ _ => rfl) (fun l81 => s_las (pc := 143) rw_212_143 hG32 rfl (n := 40) rfl (A := a.toInt) rfl (by omega) (by omega) (fun M83 W82 => ?_))))))))
              have hG84 := g_wl hG32 W82
              have F85 := FR.wl F37 W82 (show 106 = 77 ∧ ((a.toInt).toNat = 4 ∨ (a.toInt).toNat = 5 ∨ 7 ≤ (a.toInt).toNat ∧ (a.toInt).toNat ≤ 10) ∨ 106 = 106 ∨ 106 = 107 by omega)
              refine to_an (pc := 144) rw_212_144 rfl (s_v (pc := 145) rw_212_145 (dp0 hd (by decide)) (ls0 := [.ref 77]) rfl (Nat.le_of_ble_eq_true rfl) (Nat.le_of_ble_eq_true rfl) rfl (to_rc rfl rfl rfl (g_o hG84 rfl)) rfl ?_)
              have c_86 : M83.2.1 77 7 = (M36.2.1 77 7) := (W_l W82 rfl)
              have t_87 : (M83.2.1 77 7).toInt = (M36.2.1 77 7).toInt := congrArg Int32.toInt c_86
              have c_88 : M83.2.1 77 6 = (M.2.1 77 6) := (W_l W82 c_39)
              have t_89 : (M83.2.1 77 6).toInt = (M.2.1 77 6).toInt := congrArg Int32.toInt c_88
              refine C_156 hX (dp1 hd (by decide)) hG84 (by omega)  (fun M95 hG91 F90 p_92 p_93 p_94 => ?_)
              have F96 := FR.c F85 F90 tg_158
              have b_97 := g_b hG91 (a := 77) (i := 7) (lo := 0) (hi := 500) rfl rfl
              have c_98 : M95.2.1 77 6 = (M.2.1 77 6) := (F_n F90 (show ¬ (77 = 77 ∧ 7 ≤ 6 ∧ 6 ≤ 10) by decide) c_88)
              have t_99 : (M95.2.1 77 6).toInt = (M.2.1 77 6).toInt := congrArg Int32.toInt c_98
              have b_100 := g_b hG91 (a := 77) (i := 8) (lo := 0) (hi := 5) rfl rfl
              refine to_c (pc := 148) rw_212_148 (x := (1 : Int32)) rfl rfl (s_r1 (pc := 149) rw_212_149 (A := 1) rfl (by decide) ?_)
              have k_101 : (1 : Int32).toInt = 1 := rfl
              have c_102 : M95.2.1 77 4 = (M.2.1 77 4) := (F_n F90 (show ¬ (77 = 77 ∧ 7 ≤ 4 ∧ 4 ≤ 10) by decide) (W_l W82 (F_n F31 (show ¬ (77 = 77 ∧ 7 ≤ 4 ∧ 4 ≤ 10) by decide) (F_n F19 (show ¬ (77 < 0) by decide) (F_n F7 (show ¬ (77 < 0) by decide) rfl)))))
              have t_103 : (M95.2.1 77 4).toInt = (M.2.1 77 4).toInt := congrArg Int32.toInt c_102
              have c_104 : M95.2.1 77 5 = (M.2.1 77 5) := (F_n F90 (show ¬ (77 = 77 ∧ 7 ≤ 5 ∧ 5 ≤ 10) by decide) (W_l W82 (F_n F31 (show ¬ (77 = 77 ∧ 7 ≤ 5 ∧ 5 ≤ 10) by decide) (F_n F19 (show ¬ (77 < 0) by decide) (F_n F7 (show ¬ (77 < 0) by decide) rfl)))))
              have t_105 : (M95.2.1 77 5).toInt = (M.2.1 77 5).toInt := congrArg Int32.toInt c_104
              exact h (1 : Int32) M95 hG91 F96 (by decide) (by decide) (by omega) (by omega) (by omega) (by omega)
            · refine to_an (pc := 30) rw_162_30 rfl (to_c (pc := 31) rw_162_31 (x := (2 : Int32)) rfl rfl (s_v (pc := 32) rw_162_32 (dp1 hd (by decide)) (ls0 := [.ref 77, .int (2 : Int32)]) rfl (Nat.le_of_ble_eq_true rfl) (Nat.le_of_ble_eq_true rfl) rfl (to_rc rfl rfl rfl (g_o hG32 rfl)) rfl (to_an (pc := 0) rw_152_0 rfl (to_in (pc := 1) rw_152_1 rfl (s_pI (pc := 2) rw_152_2 hG32 rfl (fun M107 W106 => ?_))))))
              have hG108 := g_wf hG32 W106 rfl rfl (by decide)
              have F109 := FR.w F37 W106 (show 77 = 77 ∧ (4 = 4 ∨ 4 = 5 ∨ 7 ≤ 4 ∧ 4 ≤ 10) ∨ 77 = 106 ∨ 77 = 107 by decide)
              refine to_an (pc := 5) rw_152_5 rfl (to_an (pc := 6) rw_152_6 rfl ?_)
              have c_110 : M107.2.1 77 10 = (M36.2.1 77 10) := (W_n W106 (by decide) rfl)
              have b_111 := g_b hG32 (a := 77) (i := 10) (lo := 0) (hi := 500) rfl rfl
              refine tt_gI (pc := 7) rw_152_7 (g_o hG108 rfl) (v := (M36.2.1 77 10)) c_110 (s_pI (pc := 10) rw_152_10 hG108 rfl (fun M113 W112 => ?_))
              have hG114 := g_wf hG108 W112 rfl rfl (by decide)
              have F115 := FR.w F109 W112 (show 77 = 77 ∧ (5 = 4 ∨ 5 = 5 ∨ 7 ≤ 5 ∧ 5 ≤ 10) ∨ 77 = 106 ∨ 77 = 107 by decide)
              refine to_c (pc := 13) rw_152_13 (x := (0 : Int32)) rfl rfl (s_r1 (pc := 14) rw_152_14 (A := 0) rfl (by decide) (b_ieq_t (pc := 35) rw_162_35 (A := 0) rfl (by decide) (to_c (pc := 42) rw_162_42 (x := (0 : Int32)) rfl rfl (s_r1 (pc := 43) rw_162_43 (A := 0) rfl (by decide) (b_ine_f (pc := 117) rw_212_117 (A := 0) rfl (by decide) (to_c (pc := 120) rw_212_120 (x := (0 : Int32)) rfl rfl (s_r1 (pc := 121) rw_212_121 (A := 0) rfl (by decide) ?_)))))))
              have k_116 : (0 : Int32).toInt = 0 := rfl
              have c_117 : M113.2.1 77 7 = (M36.2.1 77 7) := (W_n W112 (by decide) (W_n W106 (by decide) rfl))
              have t_118 : (M113.2.1 77 7).toInt = (M36.2.1 77 7).toInt := congrArg Int32.toInt c_117
              have c_119 : M113.2.1 77 6 = (M.2.1 77 6) := (W_n W112 (by decide) (W_n W106 (by decide) c_39))
              have t_120 : (M113.2.1 77 6).toInt = (M.2.1 77 6).toInt := congrArg Int32.toInt c_119
              have c_121 : M113.2.1 77 8 = (M36.2.1 77 8) := (W_n W112 (by decide) (W_n W106 (by decide) rfl))
              have t_122 : (M113.2.1 77 8).toInt = (M36.2.1 77 8).toInt := congrArg Int32.toInt c_121
              have c_123 : M113.2.1 77 4 = (2 : Int32) := (W_n W112 (by decide) (W_e W106))
              have k_124 : (2 : Int32).toInt = 2 := rfl
              have t_125 : (M113.2.1 77 4).toInt = (2 : Int32).toInt := congrArg Int32.toInt c_123
              have c_126 : M113.2.1 77 5 = (M36.2.1 77 10) := (W_e W112)
              have t_127 : (M113.2.1 77 5).toInt = (M36.2.1 77 10).toInt := congrArg Int32.toInt c_126
              exact h (0 : Int32) M113 hG114 F115 (by decide) (by decide) (by omega) (by omega) (by omega) (by omega)
        · refine to_an (pc := 8) rw_162_8 rfl (to_c (pc := 9) rw_162_9 (x := (1 : Int32)) rfl rfl (s_v (pc := 10) rw_162_10 (dp1 hd (by decide)) (ls0 := [.ref 77, .int (1 : Int32)]) rfl (Nat.le_of_ble_eq_true rfl) (Nat.le_of_ble_eq_true rfl) rfl (to_rc rfl rfl rfl (g_o hG32 rfl)) rfl (to_an (pc := 0) rw_152_0 rfl (to_in (pc := 1) rw_152_1 rfl (s_pI (pc := 2) rw_152_2 hG32 rfl (fun M129 W128 => ?_))))))
          have hG130 := g_wf hG32 W128 rfl rfl (by decide)
          have F131 := FR.w F37 W128 (show 77 = 77 ∧ (4 = 4 ∨ 4 = 5 ∨ 7 ≤ 4 ∧ 4 ≤ 10) ∨ 77 = 106 ∨ 77 = 107 by decide)
          refine to_an (pc := 5) rw_152_5 rfl (to_an (pc := 6) rw_152_6 rfl ?_)
          have c_132 : M129.2.1 77 10 = (M36.2.1 77 10) := (W_n W128 (by decide) rfl)
          have b_133 := g_b hG32 (a := 77) (i := 10) (lo := 0) (hi := 500) rfl rfl
          refine tt_gI (pc := 7) rw_152_7 (g_o hG130 rfl) (v := (M36.2.1 77 10)) c_132 (s_pI (pc := 10) rw_152_10 hG130 rfl (fun M135 W134 => ?_))
          have hG136 := g_wf hG130 W134 rfl rfl (by decide)
          have F137 := FR.w F131 W134 (show 77 = 77 ∧ (5 = 4 ∨ 5 = 5 ∨ 7 ≤ 5 ∧ 5 ≤ 10) ∨ 77 = 106 ∨ 77 = 107 by decide)
          refine to_c (pc := 13) rw_152_13 (x := (0 : Int32)) rfl rfl (s_r1 (pc := 14) rw_152_14 (A := 0) rfl (by decide) (s_r1 (pc := 13) rw_162_13 (A := 0) rfl (by decide) (b_ine_f (pc := 117) rw_212_117 (A := 0) rfl (by decide) (to_c (pc := 120) rw_212_120 (x := (0 : Int32)) rfl rfl (s_r1 (pc := 121) rw_212_121 (A := 0) rfl (by decide) ?_)))))
          have k_138 : (0 : Int32).toInt = 0 := rfl
          have c_139 : M135.2.1 77 7 = (M36.2.1 77 7) := (W_n W134 (by decide) (W_n W128 (by decide) rfl))
          have t_140 : (M135.2.1 77 7).toInt = (M36.2.1 77 7).toInt := congrArg Int32.toInt c_139
          have c_141 : M135.2.1 77 6 = (M.2.1 77 6) := (W_n W134 (by decide) (W_n W128 (by decide) c_39))
          have t_142 : (M135.2.1 77 6).toInt = (M.2.1 77 6).toInt := congrArg Int32.toInt c_141
          have c_143 : M135.2.1 77 8 = (M36.2.1 77 8) := (W_n W134 (by decide) (W_n W128 (by decide) rfl))
          have t_144 : (M135.2.1 77 8).toInt = (M36.2.1 77 8).toInt := congrArg Int32.toInt c_143
          have c_145 : M135.2.1 77 4 = (1 : Int32) := (W_n W134 (by decide) (W_e W128))
          have k_146 : (1 : Int32).toInt = 1 := rfl
          have t_147 : (M135.2.1 77 4).toInt = (1 : Int32).toInt := congrArg Int32.toInt c_145
          have c_148 : M135.2.1 77 5 = (M36.2.1 77 10) := (W_e W134)
          have t_149 : (M135.2.1 77 5).toInt = (M36.2.1 77 10).toInt := congrArg Int32.toInt c_148
          exact h (0 : Int32) M135 hG136 F137 (by decide) (by decide) (by omega) (by omega) (by omega) (by omega)
      · refine to_an (pc := 85) rw_212_85 rfl (s_gR (pc := 86) rw_212_86 hG32 rfl (v := 107) rfl (to_in (pc := 89) rw_212_89 rfl (to_dup2 (pc := 90) rw_212_90 (s_ial (pc := 91) rw_212_91 hG32 rfl (n := 40) rfl rfl (A := a.toInt) rfl (by omega) (by omega) (lo := -2147483648) (hi := 2147483647) rfl rfl (fun v150 w_151 _ _ => to_c (pc := 92) rw_212_92 (x := (1 : Int32)) rfl rfl (to_in (pc := 93) rw_212_93 rfl (s_any (pc := 94) rw_212_94 (fun _ _ => rfl) (fun v152 => s_any (pc := 95) rw_212_95 (fun _ _ => rfl) (fun v153 => s_ias (pc := 96) rw_212_96 hG32 rfl (n := 40) rfl (A := a.toInt) rfl (by omega) (by omega) (fun M155 W154 => ?_))))))))))
        have hG156 := g_wf hG32 W154 rfl rfl (by decide)
        have F157 := FR.w F37 W154 (show 107 = 77 ∧ ((a.toInt).toNat = 4 ∨ (a.toInt).toNat = 5 ∨ 7 ≤ (a.toInt).toNat ∧ (a.toInt).toNat ≤ 10) ∨ 107 = 106 ∨ 107 = 107 by omega)
        refine to_c (pc := 97) rw_212_97 (x := (1 : Int32)) rfl rfl (s_r1 (pc := 98) rw_212_98 (A := 1) rfl (by decide) ?_)
        have k_158 : (1 : Int32).toInt = 1 := rfl
        have c_159 : M155.2.1 77 7 = (M36.2.1 77 7) := (W_n W154 (fun z => absurd z.1 (by decide)) rfl)
        have t_160 : (M155.2.1 77 7).toInt = (M36.2.1 77 7).toInt := congrArg Int32.toInt c_159
        have c_161 : M155.2.1 77 6 = (M.2.1 77 6) := (W_n W154 (fun z => absurd z.1 (by decide)) c_39)
        have t_162 : (M155.2.1 77 6).toInt = (M.2.1 77 6).toInt := congrArg Int32.toInt c_161
        have c_163 : M155.2.1 77 8 = (M36.2.1 77 8) := (W_n W154 (fun z => absurd z.1 (by decide)) rfl)
        have t_164 : (M155.2.1 77 8).toInt = (M36.2.1 77 8).toInt := congrArg Int32.toInt c_163
        have c_165 : M155.2.1 77 4 = (M.2.1 77 4) := (W_n W154 (fun z => absurd z.1 (by decide)) (F_n F31 (show ¬ (77 = 77 ∧ 7 ≤ 4 ∧ 4 ≤ 10) by decide) (F_n F19 (show ¬ (77 < 0) by decide) (F_n F7 (show ¬ (77 < 0) by decide) rfl))))
        have t_166 : (M155.2.1 77 4).toInt = (M.2.1 77 4).toInt := congrArg Int32.toInt c_165
        have c_167 : M155.2.1 77 5 = (M.2.1 77 5) := (W_n W154 (fun z => absurd z.1 (by decide)) (F_n F31 (show ¬ (77 = 77 ∧ 7 ≤ 5 ∧ 5 ≤ 10) by decide) (F_n F19 (show ¬ (77 < 0) by decide) (F_n F7 (show ¬ (77 < 0) by decide) rfl))))
        have t_168 : (M155.2.1 77 5).toInt = (M.2.1 77 5).toInt := congrArg Int32.toInt c_167
        exact h (1 : Int32) M155 hG156 F157 (by decide) (by decide) (by omega) (by omega) (by omega) (by omega)
    · refine to_in (pc := 67) rw_212_67 rfl (b_ige (pc := 68) rw_212_68 (A := r18.toInt) rfl (fun h169 => ?_) (fun h169 => ?_))
      · refine to_an (pc := 77) rw_212_77 rfl (s_v (pc := 78) rw_212_78 (dp0 hd (by decide)) (ls0 := [.ref 77]) rfl (Nat.le_of_ble_eq_true rfl) (Nat.le_of_ble_eq_true rfl) rfl (to_rc rfl rfl rfl (g_o hG20 rfl)) rfl ?_)
        have c_170 : M24.2.1 77 7 = (M.2.1 77 7) := (F_n F19 (show ¬ (77 < 0) by decide) (F_n F7 (show ¬ (77 < 0) by decide) rfl))
        have t_171 : (M24.2.1 77 7).toInt = (M.2.1 77 7).toInt := congrArg Int32.toInt c_170
        have c_172 : M24.2.1 77 6 = (M.2.1 77 6) := (F_n F19 (show ¬ (77 < 0) by decide) (F_n F7 (show ¬ (77 < 0) by decide) rfl))
        have t_173 : (M24.2.1 77 6).toInt = (M.2.1 77 6).toInt := congrArg Int32.toInt c_172
        refine C_156 hX (dp1 hd (by decide)) hG20 (by omega)  (fun M179 hG175 F174 p_176 p_177 p_178 => ?_)
        have F180 := FR.c F25 F174 tg_158
        have b_181 := g_b hG175 (a := 77) (i := 7) (lo := 0) (hi := 500) rfl rfl
        have c_182 : M179.2.1 77 6 = (M.2.1 77 6) := (F_n F174 (show ¬ (77 = 77 ∧ 7 ≤ 6 ∧ 6 ≤ 10) by decide) c_172)
        have t_183 : (M179.2.1 77 6).toInt = (M.2.1 77 6).toInt := congrArg Int32.toInt c_182
        have b_184 := g_b hG175 (a := 77) (i := 8) (lo := 0) (hi := 5) rfl rfl
        refine to_in (pc := 81) rw_212_81 rfl (b_ilt_f (pc := 82) rw_212_82 (A := r18.toInt) rfl (by omega) (to_an (pc := 85) rw_212_85 rfl (s_gR (pc := 86) rw_212_86 hG175 rfl (v := 107) rfl (to_in (pc := 89) rw_212_89 rfl (to_dup2 (pc := 90) rw_212_90 (s_ial (pc := 91) rw_212_91 hG175 rfl (n := 40) rfl rfl (A := a.toInt) rfl (by omega) (by omega) (lo := -2147483648) (hi := 2147483647) rfl rfl (fun v185 w_186 _ _ => to_c (pc := 92) rw_212_92 (x := (1 : Int32)) rfl rfl (to_in (pc := 93) rw_212_93 rfl (s_any (pc := 94) rw_212_94 (fun _ _ => rfl) (fun v187 => s_any (pc := 95) rw_212_95 (fun _ _ => rfl) (fun v188 => s_ias (pc := 96) rw_212_96 hG175 rfl (n := 40) rfl (A := a.toInt) rfl (by omega) (by omega) (fun M190 W189 => ?_))))))))))))
        have hG191 := g_wf hG175 W189 rfl rfl (by decide)
        have F192 := FR.w F180 W189 (show 107 = 77 ∧ ((a.toInt).toNat = 4 ∨ (a.toInt).toNat = 5 ∨ 7 ≤ (a.toInt).toNat ∧ (a.toInt).toNat ≤ 10) ∨ 107 = 106 ∨ 107 = 107 by omega)
        refine to_c (pc := 97) rw_212_97 (x := (1 : Int32)) rfl rfl (s_r1 (pc := 98) rw_212_98 (A := 1) rfl (by decide) ?_)
        have k_193 : (1 : Int32).toInt = 1 := rfl
        have c_194 : M190.2.1 77 7 = (M179.2.1 77 7) := (W_n W189 (fun z => absurd z.1 (by decide)) rfl)
        have t_195 : (M190.2.1 77 7).toInt = (M179.2.1 77 7).toInt := congrArg Int32.toInt c_194
        have c_196 : M190.2.1 77 6 = (M.2.1 77 6) := (W_n W189 (fun z => absurd z.1 (by decide)) c_182)
        have t_197 : (M190.2.1 77 6).toInt = (M.2.1 77 6).toInt := congrArg Int32.toInt c_196
        have c_198 : M190.2.1 77 8 = (M179.2.1 77 8) := (W_n W189 (fun z => absurd z.1 (by decide)) rfl)
        have t_199 : (M190.2.1 77 8).toInt = (M179.2.1 77 8).toInt := congrArg Int32.toInt c_198
        have c_200 : M190.2.1 77 4 = (M.2.1 77 4) := (W_n W189 (fun z => absurd z.1 (by decide)) (F_n F174 (show ¬ (77 = 77 ∧ 7 ≤ 4 ∧ 4 ≤ 10) by decide) (F_n F19 (show ¬ (77 < 0) by decide) (F_n F7 (show ¬ (77 < 0) by decide) rfl))))
        have t_201 : (M190.2.1 77 4).toInt = (M.2.1 77 4).toInt := congrArg Int32.toInt c_200
        have c_202 : M190.2.1 77 5 = (M.2.1 77 5) := (W_n W189 (fun z => absurd z.1 (by decide)) (F_n F174 (show ¬ (77 = 77 ∧ 7 ≤ 5 ∧ 5 ≤ 10) by decide) (F_n F19 (show ¬ (77 < 0) by decide) (F_n F7 (show ¬ (77 < 0) by decide) rfl))))
        have t_203 : (M190.2.1 77 5).toInt = (M.2.1 77 5).toInt := congrArg Int32.toInt c_202
        exact h (1 : Int32) M190 hG191 F192 (by decide) (by decide) (by omega) (by omega) (by omega) (by omega)
      · refine to_an (pc := 71) rw_212_71 rfl (to_c (pc := 72) rw_212_72 (x := (4 : Int32)) rfl rfl (s_v (pc := 73) rw_212_73 (dp0 hd (by decide)) (ls0 := [.ref 77, .int (4 : Int32)]) rfl (Nat.le_of_ble_eq_true rfl) (Nat.le_of_ble_eq_true rfl) rfl (to_rc rfl rfl rfl (g_o hG20 rfl)) rfl (to_an (pc := 0) rw_152_0 rfl (to_in (pc := 1) rw_152_1 rfl (s_pI (pc := 2) rw_152_2 hG20 rfl (fun M205 W204 => ?_))))))
        have hG206 := g_wf hG20 W204 rfl rfl (by decide)
        have F207 := FR.w F25 W204 (show 77 = 77 ∧ (4 = 4 ∨ 4 = 5 ∨ 7 ≤ 4 ∧ 4 ≤ 10) ∨ 77 = 106 ∨ 77 = 107 by decide)
        refine to_an (pc := 5) rw_152_5 rfl (to_an (pc := 6) rw_152_6 rfl ?_)
        have c_208 : M205.2.1 77 10 = (M.2.1 77 10) := (W_n W204 (by decide) (F_n F19 (show ¬ (77 < 0) by decide) (F_n F7 (show ¬ (77 < 0) by decide) rfl)))
        have b_209 := g_b hG (a := 77) (i := 10) (lo := 0) (hi := 500) rfl rfl
        refine tt_gI (pc := 7) rw_152_7 (g_o hG206 rfl) (v := (M.2.1 77 10)) c_208 (s_pI (pc := 10) rw_152_10 hG206 rfl (fun M211 W210 => ?_))
        have hG212 := g_wf hG206 W210 rfl rfl (by decide)
        have F213 := FR.w F207 W210 (show 77 = 77 ∧ (5 = 4 ∨ 5 = 5 ∨ 7 ≤ 5 ∧ 5 ≤ 10) ∨ 77 = 106 ∨ 77 = 107 by decide)
        refine to_c (pc := 13) rw_152_13 (x := (0 : Int32)) rfl rfl (s_r1 (pc := 14) rw_152_14 (A := 0) rfl (by decide) (s_r1 (pc := 76) rw_212_76 (A := 0) rfl (by decide) ?_))
        have k_214 : (0 : Int32).toInt = 0 := rfl
        have c_215 : M211.2.1 77 7 = (M.2.1 77 7) := (W_n W210 (by decide) (W_n W204 (by decide) (F_n F19 (show ¬ (77 < 0) by decide) (F_n F7 (show ¬ (77 < 0) by decide) rfl))))
        have t_216 : (M211.2.1 77 7).toInt = (M.2.1 77 7).toInt := congrArg Int32.toInt c_215
        have c_217 : M211.2.1 77 6 = (M.2.1 77 6) := (W_n W210 (by decide) (W_n W204 (by decide) (F_n F19 (show ¬ (77 < 0) by decide) (F_n F7 (show ¬ (77 < 0) by decide) rfl))))
        have t_218 : (M211.2.1 77 6).toInt = (M.2.1 77 6).toInt := congrArg Int32.toInt c_217
        have c_219 : M211.2.1 77 8 = (M.2.1 77 8) := (W_n W210 (by decide) (W_n W204 (by decide) (F_n F19 (show ¬ (77 < 0) by decide) (F_n F7 (show ¬ (77 < 0) by decide) rfl))))
        have t_220 : (M211.2.1 77 8).toInt = (M.2.1 77 8).toInt := congrArg Int32.toInt c_219
        have c_221 : M211.2.1 77 4 = (4 : Int32) := (W_n W210 (by decide) (W_e W204))
        have k_222 : (4 : Int32).toInt = 4 := rfl
        have t_223 : (M211.2.1 77 4).toInt = (4 : Int32).toInt := congrArg Int32.toInt c_221
        have c_224 : M211.2.1 77 5 = (M.2.1 77 10) := (W_e W210)
        have t_225 : (M211.2.1 77 5).toInt = (M.2.1 77 10).toInt := congrArg Int32.toInt c_224
        exact h (0 : Int32) M211 hG212 F213 (by decide) (by decide) (by omega) (by omega) (by omega) (by omega)
  · refine to_an (pc := 8) rw_212_8 rfl (to_c (pc := 9) rw_212_9 (x := (0 : Int32)) rfl rfl (to_an (pc := 10) rw_212_10 rfl ?_))
    have b_226 := g_b hG (a := 77) (i := 11) (lo := 10) (hi := 60) rfl rfl
    refine tt_gI (pc := 11) rw_212_11 (g_o hG rfl) (v := (M.2.1 77 11)) rfl (to_c (pc := 14) rw_212_14 (x := (1 : Int32)) rfl rfl (s_sub (pc := 15) rw_212_15 (A := (M.2.1 77 11).toInt) (B := 1) rfl rfl (by omega) (fun v227 e228 => s_v (pc := 16) rw_212_16 (dp0 hd (by decide)) (ls0 := [.ref 77, .int (0 : Int32), .int v227]) rfl (Nat.le_of_ble_eq_true rfl) (Nat.le_of_ble_eq_true rfl) rfl (to_rc rfl rfl rfl (g_o hG rfl)) rfl (to_an (pc := 0) rw_162_0 rfl (tt_gI (pc := 1) rw_162_1 (g_o hG rfl) (v := (M.2.1 77 8)) rfl (to_c (pc := 4) rw_162_4 (x := (3 : Int32)) rfl rfl (b_ceq_t (pc := 5) rw_162_5 (A := (M.2.1 77 8).toInt) (B := 3) rfl rfl (by omega) (to_an (pc := 14) rw_162_14 rfl (tt_gI (pc := 15) rw_162_15 (g_o hG rfl) (v := (M.2.1 77 9)) rfl (to_in (pc := 18) rw_162_18 rfl (b_clt (pc := 19) rw_162_19 (A := (M.2.1 77 9).toInt) (B := 0) rfl rfl (fun h229 => ?_) (fun h229 => ?_))))))))))))
    · refine to_an (pc := 30) rw_162_30 rfl (to_c (pc := 31) rw_162_31 (x := (2 : Int32)) rfl rfl (s_v (pc := 32) rw_162_32 (dp1 hd (by decide)) (ls0 := [.ref 77, .int (2 : Int32)]) rfl (Nat.le_of_ble_eq_true rfl) (Nat.le_of_ble_eq_true rfl) rfl (to_rc rfl rfl rfl (g_o hG rfl)) rfl (to_an (pc := 0) rw_152_0 rfl (to_in (pc := 1) rw_152_1 rfl (s_pI (pc := 2) rw_152_2 hG rfl (fun M231 W230 => ?_))))))
      have hG232 := g_wf hG W230 rfl rfl (by decide)
      have F233 := FR.w F0 W230 (show 77 = 77 ∧ (4 = 4 ∨ 4 = 5 ∨ 7 ≤ 4 ∧ 4 ≤ 10) ∨ 77 = 106 ∨ 77 = 107 by decide)
      refine to_an (pc := 5) rw_152_5 rfl (to_an (pc := 6) rw_152_6 rfl ?_)
      have c_234 : M231.2.1 77 10 = (M.2.1 77 10) := (W_n W230 (by decide) rfl)
      have b_235 := g_b hG (a := 77) (i := 10) (lo := 0) (hi := 500) rfl rfl
      refine tt_gI (pc := 7) rw_152_7 (g_o hG232 rfl) (v := (M.2.1 77 10)) c_234 (s_pI (pc := 10) rw_152_10 hG232 rfl (fun M237 W236 => ?_))
      have hG238 := g_wf hG232 W236 rfl rfl (by decide)
      have F239 := FR.w F233 W236 (show 77 = 77 ∧ (5 = 4 ∨ 5 = 5 ∨ 7 ≤ 5 ∧ 5 ≤ 10) ∨ 77 = 106 ∨ 77 = 107 by decide)
      refine to_c (pc := 13) rw_152_13 (x := (0 : Int32)) rfl rfl (s_r1 (pc := 14) rw_152_14 (A := 0) rfl (by decide) (b_ieq_t (pc := 35) rw_162_35 (A := 0) rfl (by decide) (to_c (pc := 42) rw_162_42 (x := (0 : Int32)) rfl rfl (s_r1 (pc := 43) rw_162_43 (A := 0) rfl (by decide) (b_ine_f (pc := 19) rw_212_19 (A := 0) rfl (by decide) (to_c (pc := 22) rw_212_22 (x := (0 : Int32)) rfl rfl (s_r1 (pc := 23) rw_212_23 (A := 0) rfl (by decide) ?_)))))))
      have k_240 : (0 : Int32).toInt = 0 := rfl
      have c_241 : M237.2.1 77 7 = (M.2.1 77 7) := (W_n W236 (by decide) (W_n W230 (by decide) rfl))
      have t_242 : (M237.2.1 77 7).toInt = (M.2.1 77 7).toInt := congrArg Int32.toInt c_241
      have c_243 : M237.2.1 77 6 = (M.2.1 77 6) := (W_n W236 (by decide) (W_n W230 (by decide) rfl))
      have t_244 : (M237.2.1 77 6).toInt = (M.2.1 77 6).toInt := congrArg Int32.toInt c_243
      have c_245 : M237.2.1 77 8 = (M.2.1 77 8) := (W_n W236 (by decide) (W_n W230 (by decide) rfl))
      have t_246 : (M237.2.1 77 8).toInt = (M.2.1 77 8).toInt := congrArg Int32.toInt c_245
      have c_247 : M237.2.1 77 4 = (2 : Int32) := (W_n W236 (by decide) (W_e W230))
      have k_248 : (2 : Int32).toInt = 2 := rfl
      have t_249 : (M237.2.1 77 4).toInt = (2 : Int32).toInt := congrArg Int32.toInt c_247
      have c_250 : M237.2.1 77 5 = (M.2.1 77 10) := (W_e W236)
      have t_251 : (M237.2.1 77 5).toInt = (M.2.1 77 10).toInt := congrArg Int32.toInt c_250
      exact h (0 : Int32) M237 hG238 F239 (by decide) (by decide) (by omega) (by omega) (by omega) (by omega)
    · refine to_an (pc := 22) rw_162_22 rfl (tt_gI (pc := 23) rw_162_23 (g_o hG rfl) (v := (M.2.1 77 9)) rfl (to_in (pc := 26) rw_162_26 rfl (b_cle (pc := 27) rw_162_27 (A := (M.2.1 77 9).toInt) (B := v227.toInt) rfl rfl (fun h252 => ?_) (fun h252 => ?_))))
      · refine to_c (pc := 38) rw_162_38 (x := (1 : Int32)) rfl rfl (to_go (pc := 39) rw_162_39 (s_r1 (pc := 43) rw_162_43 (A := 1) rfl (by decide) (b_ine_t (pc := 19) rw_212_19 (A := 1) rfl (by decide) (to_an (pc := 24) rw_212_24 rfl (s_gR (pc := 25) rw_212_25 hG rfl (v := 106) rfl (to_in (pc := 28) rw_212_28 rfl (to_dup2 (pc := 29) rw_212_29 (s_lal (pc := 30) rw_212_30 hG rfl (n := 40) rfl (A := a.toInt) rfl (by omega) (by omega) (fun l253 => s_cl (pc := 31) rw_212_31 rfl (fun l254 => to_an (pc := 32) rw_212_32 rfl (tt_gI (pc := 33) rw_212_33 (g_o hG rfl) (v := (M.2.1 77 9)) rfl ?_)))))))))))
        refine s_anyS (pc := 36) rw_212_36 (fun _ _ => rfl) (fun l255 => s_anyL (pc := 37) rw_212_37 (fun _ _ => rfl) (fun l256 => s_las (pc := 38) rw_212_38 hG rfl (n := 40) rfl (A := a.toInt) rfl (by omega) (by omega) (fun M258 W257 => ?_)))
        have hG259 := g_wl hG W257
        have F260 := FR.wl F0 W257 (show 106 = 77 ∧ ((a.toInt).toNat = 4 ∨ (a.toInt).toNat = 5 ∨ 7 ≤ (a.toInt).toNat ∧ (a.toInt).toNat ≤ 10) ∨ 106 = 106 ∨ 106 = 107 by omega)
        refine to_an (pc := 39) rw_212_39 rfl (s_v (pc := 40) rw_212_40 (dp0 hd (by decide)) (ls0 := [.ref 77]) rfl (Nat.le_of_ble_eq_true rfl) (Nat.le_of_ble_eq_true rfl) rfl (to_rc rfl rfl rfl (g_o hG259 rfl)) rfl ?_)
        have c_261 : M258.2.1 77 7 = (M.2.1 77 7) := (W_l W257 rfl)
        have t_262 : (M258.2.1 77 7).toInt = (M.2.1 77 7).toInt := congrArg Int32.toInt c_261
        have c_263 : M258.2.1 77 6 = (M.2.1 77 6) := (W_l W257 rfl)
        have t_264 : (M258.2.1 77 6).toInt = (M.2.1 77 6).toInt := congrArg Int32.toInt c_263
        refine C_156 hX (dp1 hd (by decide)) hG259 (by omega)  (fun M270 hG266 F265 p_267 p_268 p_269 => ?_)
        have F271 := FR.c F260 F265 tg_158
        have b_272 := g_b hG266 (a := 77) (i := 7) (lo := 0) (hi := 500) rfl rfl
        have c_273 : M270.2.1 77 6 = (M.2.1 77 6) := (F_n F265 (show ¬ (77 = 77 ∧ 7 ≤ 6 ∧ 6 ≤ 10) by decide) c_263)
        have t_274 : (M270.2.1 77 6).toInt = (M.2.1 77 6).toInt := congrArg Int32.toInt c_273
        have b_275 := g_b hG266 (a := 77) (i := 8) (lo := 0) (hi := 5) rfl rfl
        refine to_c (pc := 43) rw_212_43 (x := (1 : Int32)) rfl rfl (s_r1 (pc := 44) rw_212_44 (A := 1) rfl (by decide) ?_)
        have k_276 : (1 : Int32).toInt = 1 := rfl
        have c_277 : M270.2.1 77 4 = (M.2.1 77 4) := (F_n F265 (show ¬ (77 = 77 ∧ 7 ≤ 4 ∧ 4 ≤ 10) by decide) (W_l W257 rfl))
        have t_278 : (M270.2.1 77 4).toInt = (M.2.1 77 4).toInt := congrArg Int32.toInt c_277
        have c_279 : M270.2.1 77 5 = (M.2.1 77 5) := (F_n F265 (show ¬ (77 = 77 ∧ 7 ≤ 5 ∧ 5 ≤ 10) by decide) (W_l W257 rfl))
        have t_280 : (M270.2.1 77 5).toInt = (M.2.1 77 5).toInt := congrArg Int32.toInt c_279
        exact h (1 : Int32) M270 hG266 F271 (by decide) (by decide) (by omega) (by omega) (by omega) (by omega)
      · refine to_an (pc := 30) rw_162_30 rfl (to_c (pc := 31) rw_162_31 (x := (2 : Int32)) rfl rfl (s_v (pc := 32) rw_162_32 (dp1 hd (by decide)) (ls0 := [.ref 77, .int (2 : Int32)]) rfl (Nat.le_of_ble_eq_true rfl) (Nat.le_of_ble_eq_true rfl) rfl (to_rc rfl rfl rfl (g_o hG rfl)) rfl (to_an (pc := 0) rw_152_0 rfl (to_in (pc := 1) rw_152_1 rfl (s_pI (pc := 2) rw_152_2 hG rfl (fun M282 W281 => ?_))))))
        have hG283 := g_wf hG W281 rfl rfl (by decide)
        have F284 := FR.w F0 W281 (show 77 = 77 ∧ (4 = 4 ∨ 4 = 5 ∨ 7 ≤ 4 ∧ 4 ≤ 10) ∨ 77 = 106 ∨ 77 = 107 by decide)
        refine to_an (pc := 5) rw_152_5 rfl (to_an (pc := 6) rw_152_6 rfl ?_)
        have c_285 : M282.2.1 77 10 = (M.2.1 77 10) := (W_n W281 (by decide) rfl)
        have b_286 := g_b hG (a := 77) (i := 10) (lo := 0) (hi := 500) rfl rfl
        refine tt_gI (pc := 7) rw_152_7 (g_o hG283 rfl) (v := (M.2.1 77 10)) c_285 (s_pI (pc := 10) rw_152_10 hG283 rfl (fun M288 W287 => ?_))
        have hG289 := g_wf hG283 W287 rfl rfl (by decide)
        have F290 := FR.w F284 W287 (show 77 = 77 ∧ (5 = 4 ∨ 5 = 5 ∨ 7 ≤ 5 ∧ 5 ≤ 10) ∨ 77 = 106 ∨ 77 = 107 by decide)
        refine to_c (pc := 13) rw_152_13 (x := (0 : Int32)) rfl rfl (s_r1 (pc := 14) rw_152_14 (A := 0) rfl (by decide) (b_ieq_t (pc := 35) rw_162_35 (A := 0) rfl (by decide) (to_c (pc := 42) rw_162_42 (x := (0 : Int32)) rfl rfl (s_r1 (pc := 43) rw_162_43 (A := 0) rfl (by decide) (b_ine_f (pc := 19) rw_212_19 (A := 0) rfl (by decide) (to_c (pc := 22) rw_212_22 (x := (0 : Int32)) rfl rfl (s_r1 (pc := 23) rw_212_23 (A := 0) rfl (by decide) ?_)))))))
        have k_291 : (0 : Int32).toInt = 0 := rfl
        have c_292 : M288.2.1 77 7 = (M.2.1 77 7) := (W_n W287 (by decide) (W_n W281 (by decide) rfl))
        have t_293 : (M288.2.1 77 7).toInt = (M.2.1 77 7).toInt := congrArg Int32.toInt c_292
        have c_294 : M288.2.1 77 6 = (M.2.1 77 6) := (W_n W287 (by decide) (W_n W281 (by decide) rfl))
        have t_295 : (M288.2.1 77 6).toInt = (M.2.1 77 6).toInt := congrArg Int32.toInt c_294
        have c_296 : M288.2.1 77 8 = (M.2.1 77 8) := (W_n W287 (by decide) (W_n W281 (by decide) rfl))
        have t_297 : (M288.2.1 77 8).toInt = (M.2.1 77 8).toInt := congrArg Int32.toInt c_296
        have c_298 : M288.2.1 77 4 = (2 : Int32) := (W_n W287 (by decide) (W_e W281))
        have k_299 : (2 : Int32).toInt = 2 := rfl
        have t_300 : (M288.2.1 77 4).toInt = (2 : Int32).toInt := congrArg Int32.toInt c_298
        have c_301 : M288.2.1 77 5 = (M.2.1 77 10) := (W_e W287)
        have t_302 : (M288.2.1 77 5).toInt = (M.2.1 77 10).toInt := congrArg Int32.toInt c_301
        exact h (0 : Int32) M288 hG289 F290 (by decide) (by decide) (by omega) (by omega) (by omega) (by omega)
set_option maxRecDepth 4000 in
set_option maxHeartbeats 0 in
theorem T_213_0 {X : mm_X} {d : Nat} {M : mm_M} {Q : Option Value → mm_M → Prop} {a : Int32} (hX : g_X X) (hd : 3 ≤ d) (q1 : 0 ≤ a.toInt) (q2 : a.toInt ≤ 39) (q3 : (M.2.1 77 7).toInt ≤ (M.2.1 77 6).toInt) (h : ∀ (r : Int32) (M1 : mm_M), g_G M1 → FR md_ps M M1 → (0 ≤ r.toInt) → (r.toInt ≤ 1) → ((M1.2.1 77 7).toInt ≤ (M1.2.1 77 6).toInt) → ((M.2.1 77 7).toInt ≤ (M1.2.1 77 7).toInt) → (r.toInt = 1 → (M1.2.1 77 8).toInt = 0 ∨ (M.2.1 77 7).toInt < (M1.2.1 77 7).toInt) → (r.toInt = 1 → 0 ≤ (M1.2.1 102 (a.toInt).toNat).toInt ∧ (M1.2.1 102 (a.toInt).toNat).toInt ≤ 5 ∧ 0 ≤ (M1.2.1 103 (a.toInt).toNat).toInt ∧ 0 ≤ (M1.2.1 104 (a.toInt).toNat).toInt) → (∀ r i : Nat, (102 ≤ r ∧ r ≤ 104) → ¬ i = (a.toInt).toNat → M1.2.1 r i = M.2.1 r i) → (r.toInt = 1 → (M1.2.1 77 4).toInt = (M.2.1 77 4).toInt ∧ (M1.2.1 77 5).toInt = (M.2.1 77 5).toInt) → Q (some (.int r)) M1) : ∀ nn9 : Nat, (∀ (N : mm_M), g_G N → FR md_ps M N → ((N.2.1 77 7).toInt ≤ (N.2.1 77 6).toInt) → ((M.2.1 77 7).toInt ≤ (N.2.1 77 7).toInt) → ((N.2.1 77 8).toInt = 0 ∨ (M.2.1 77 7).toInt < (N.2.1 77 7).toInt) → (0 ≤ (N.2.1 102 (a.toInt).toNat).toInt) → ((N.2.1 102 (a.toInt).toNat).toInt ≤ 5) → (0 ≤ (N.2.1 103 (a.toInt).toNat).toInt) → (0 ≤ (N.2.1 104 (a.toInt).toNat).toInt) → (∀ r i : Nat, (102 ≤ r ∧ r ≤ 104) → ¬ i = (a.toInt).toNat → N.2.1 r i = M.2.1 r i) → ((N.2.1 77 4).toInt = (M.2.1 77 4).toInt ∧ (N.2.1 77 5).toInt = (M.2.1 77 5).toInt) → 6 * (500 - (N.2.1 77 7).toInt) + (N.2.1 77 8).toInt < (nn9 : Int) → mm_T X d 212 133 [.ref 77, .int a] [] N Q) := by
  intro nn9
  induction nn9 with
  | zero =>
    intro N hG F0 g1 g2 g3 g4 g5 g6 g7 g8 g9 hm
    have b_1 := g_b hG (a := 77) (i := 7) (lo := 0) (hi := 500) rfl rfl
    have b_2 := g_b hG (a := 77) (i := 8) (lo := 0) (hi := 5) rfl rfl
    have b_3 := g_b hG (a := 77) (i := 6) (lo := 0) (hi := 500) rfl rfl
    exfalso; omega
  | succ nn9 ih =>
    intro N hG F0 g1 g2 g3 g4 g5 g6 g7 g8 g9 hm
    have b_4 := g_b hG (a := 77) (i := 7) (lo := 0) (hi := 500) rfl rfl
    have b_5 := g_b hG (a := 77) (i := 8) (lo := 0) (hi := 5) rfl rfl
    have b_6 := g_b hG (a := 77) (i := 6) (lo := 0) (hi := 500) rfl rfl
    refine to_an (pc := 133) rw_213_133 rfl (tt_gI (pc := 134) rw_213_134 (g_o hG rfl) (v := (N.2.1 77 8)) rfl (to_c (pc := 137) rw_213_137 (x := (3 : Int32)) rfl rfl (b_ceq (pc := 138) rw_213_138 (A := (N.2.1 77 8).toInt) (B := 3) rfl rfl (fun h7 => ?_) (fun h7 => ?_))))
    · refine to_an (pc := 149) rw_213_149 rfl (to_in (pc := 150) rw_213_150 rfl (s_v (pc := 151) rw_213_151 (dp0 hd (by decide)) (ls0 := [.ref 77, .int a, .null, .null]) rfl (Nat.le_of_ble_eq_true rfl) (Nat.le_of_ble_eq_true rfl) rfl (to_rc rfl rfl rfl (g_o hG rfl)) rfl (C_212 hX (dp1 hd (by decide)) hG (by omega) (by omega) (by omega) (a := a) (fun r8 M17 hG10 F9 p_11 p_12 p_13 p_14 p_15 p_16 => ?_))))
      have F18 := FR.c F0 F9 tg_167
      have b_19 := g_b hG10 (a := 77) (i := 7) (lo := 0) (hi := 500) rfl rfl
      have c_20 : M17.2.1 77 6 = (N.2.1 77 6) := (F_n F9 (show ¬ (77 = 77 ∧ (6 = 4 ∨ 6 = 5 ∨ 7 ≤ 6 ∧ 6 ≤ 10) ∨ 77 = 106 ∨ 77 = 107) by decide) rfl)
      have t_21 : (M17.2.1 77 6).toInt = (N.2.1 77 6).toInt := congrArg Int32.toInt c_20
      have b_22 := g_b hG10 (a := 77) (i := 8) (lo := 0) (hi := 5) rfl rfl
      refine b_ine (pc := 154) rw_213_154 (A := r8.toInt) rfl (fun h23 => ?_) (fun h23 => ?_)
      · have t_24 : (M17.2.1 102 (a.toInt).toNat).toInt = (N.2.1 102 (a.toInt).toNat).toInt := congrArg Int32.toInt (F_n F9 (show ¬ (102 = 77 ∧ (((a.toInt).toNat) = 4 ∨ ((a.toInt).toNat) = 5 ∨ 7 ≤ ((a.toInt).toNat) ∧ ((a.toInt).toNat) ≤ 10) ∨ 102 = 106 ∨ 102 = 107) by omega) rfl)
        have t_25 : (M17.2.1 102 (a.toInt).toNat).toInt = (N.2.1 102 (a.toInt).toNat).toInt := congrArg Int32.toInt (F_n F9 (show ¬ (102 = 77 ∧ (((a.toInt).toNat) = 4 ∨ ((a.toInt).toNat) = 5 ∨ 7 ≤ ((a.toInt).toNat) ∧ ((a.toInt).toNat) ≤ 10) ∨ 102 = 106 ∨ 102 = 107) by omega) rfl)
        have t_26 : (M17.2.1 103 (a.toInt).toNat).toInt = (N.2.1 103 (a.toInt).toNat).toInt := congrArg Int32.toInt (F_n F9 (show ¬ (103 = 77 ∧ (((a.toInt).toNat) = 4 ∨ ((a.toInt).toNat) = 5 ∨ 7 ≤ ((a.toInt).toNat) ∧ ((a.toInt).toNat) ≤ 10) ∨ 103 = 106 ∨ 103 = 107) by omega) rfl)
        have t_27 : (M17.2.1 104 (a.toInt).toNat).toInt = (N.2.1 104 (a.toInt).toNat).toInt := congrArg Int32.toInt (F_n F9 (show ¬ (104 = 77 ∧ (((a.toInt).toNat) = 4 ∨ ((a.toInt).toNat) = 5 ∨ 7 ≤ ((a.toInt).toNat) ∧ ((a.toInt).toNat) ≤ 10) ∨ 104 = 106 ∨ 104 = 107) by omega) rfl)
        exact ih M17  hG10 F18 (by omega) (by omega) (by omega) (by omega) (by omega) (by omega) (by omega) (fun r i z z2 => (F_n F9 (show ¬ (r = 77 ∧ (i = 4 ∨ i = 5 ∨ 7 ≤ i ∧ i ≤ 10) ∨ r = 106 ∨ r = 107) by omega) (g8 r i z z2))) (by omega) (by omega)
      · refine to_c (pc := 157) rw_213_157 (x := (0 : Int32)) rfl rfl (s_r1 (pc := 158) rw_213_158 (A := 0) rfl (by decide) ?_)
        have k_28 : (0 : Int32).toInt = 0 := rfl
        have t_29 : (M17.2.1 102 (a.toInt).toNat).toInt = (N.2.1 102 (a.toInt).toNat).toInt := congrArg Int32.toInt (F_n F9 (show ¬ (102 = 77 ∧ (((a.toInt).toNat) = 4 ∨ ((a.toInt).toNat) = 5 ∨ 7 ≤ ((a.toInt).toNat) ∧ ((a.toInt).toNat) ≤ 10) ∨ 102 = 106 ∨ 102 = 107) by omega) rfl)
        have t_30 : (M17.2.1 102 (a.toInt).toNat).toInt = (N.2.1 102 (a.toInt).toNat).toInt := congrArg Int32.toInt (F_n F9 (show ¬ (102 = 77 ∧ (((a.toInt).toNat) = 4 ∨ ((a.toInt).toNat) = 5 ∨ 7 ≤ ((a.toInt).toNat) ∧ ((a.toInt).toNat) ≤ 10) ∨ 102 = 106 ∨ 102 = 107) by omega) rfl)
        have t_31 : (M17.2.1 103 (a.toInt).toNat).toInt = (N.2.1 103 (a.toInt).toNat).toInt := congrArg Int32.toInt (F_n F9 (show ¬ (103 = 77 ∧ (((a.toInt).toNat) = 4 ∨ ((a.toInt).toNat) = 5 ∨ 7 ≤ ((a.toInt).toNat) ∧ ((a.toInt).toNat) ≤ 10) ∨ 103 = 106 ∨ 103 = 107) by omega) rfl)
        have t_32 : (M17.2.1 104 (a.toInt).toNat).toInt = (N.2.1 104 (a.toInt).toNat).toInt := congrArg Int32.toInt (F_n F9 (show ¬ (104 = 77 ∧ (((a.toInt).toNat) = 4 ∨ ((a.toInt).toNat) = 5 ∨ 7 ≤ ((a.toInt).toNat) ∧ ((a.toInt).toNat) ≤ 10) ∨ 104 = 106 ∨ 104 = 107) by omega) rfl)
        exact h (0 : Int32) M17 hG10 F18 (by decide) (by decide) (by omega) (by omega) (by omega) (by omega) (fun r i z z2 => (F_n F9 (show ¬ (r = 77 ∧ (i = 4 ∨ i = 5 ∨ 7 ≤ i ∧ i ≤ 10) ∨ r = 106 ∨ r = 107) by omega) (g8 r i z z2))) (by omega)
    · refine to_an (pc := 141) rw_213_141 rfl (tt_gI (pc := 142) rw_213_142 (g_o hG rfl) (v := (N.2.1 77 8)) rfl (to_c (pc := 145) rw_213_145 (x := (2 : Int32)) rfl rfl (b_cne (pc := 146) rw_213_146 (A := (N.2.1 77 8).toInt) (B := 2) rfl rfl (fun h33 => ?_) (fun h33 => ?_))))
      · refine to_an (pc := 159) rw_213_159 rfl (to_c (pc := 160) rw_213_160 (x := (59 : Int32)) rfl rfl (s_v (pc := 162) rw_213_162 (dp0 hd (by decide)) (ls0 := [.ref 77, .int (59 : Int32)]) rfl (Nat.le_of_ble_eq_true rfl) (Nat.le_of_ble_eq_true rfl) rfl (to_rc rfl rfl rfl (g_o hG rfl)) rfl ?_))
        have k_34 : (59 : Int32).toInt = 59 := rfl
        refine C_160 hX (dp1 hd (by decide)) hG (by omega) (c := (59 : Int32)) (fun r35 M45 hG37 F36 p_38 p_39 p_40 p_41 p_42 p_43 p_44 => ?_)
        have F46 := FR.c F0 F36 tg_168
        have b_47 := g_b hG37 (a := 77) (i := 7) (lo := 0) (hi := 500) rfl rfl
        have c_48 : M45.2.1 77 6 = (N.2.1 77 6) := (F_n F36 (show ¬ (77 = 77 ∧ (6 = 4 ∨ 6 = 5 ∨ 7 ≤ 6 ∧ 6 ≤ 10)) by decide) rfl)
        have t_49 : (M45.2.1 77 6).toInt = (N.2.1 77 6).toInt := congrArg Int32.toInt c_48
        have b_50 := g_b hG37 (a := 77) (i := 8) (lo := 0) (hi := 5) rfl rfl
        refine s_r1 (pc := 165) rw_213_165 (A := r35.toInt) rfl (by omega) ?_
        have t_51 : (M45.2.1 102 (a.toInt).toNat).toInt = (N.2.1 102 (a.toInt).toNat).toInt := congrArg Int32.toInt (F_n F36 (show ¬ (102 = 77 ∧ (((a.toInt).toNat) = 4 ∨ ((a.toInt).toNat) = 5 ∨ 7 ≤ ((a.toInt).toNat) ∧ ((a.toInt).toNat) ≤ 10)) by omega) rfl)
        have t_52 : (M45.2.1 102 (a.toInt).toNat).toInt = (N.2.1 102 (a.toInt).toNat).toInt := congrArg Int32.toInt (F_n F36 (show ¬ (102 = 77 ∧ (((a.toInt).toNat) = 4 ∨ ((a.toInt).toNat) = 5 ∨ 7 ≤ ((a.toInt).toNat) ∧ ((a.toInt).toNat) ≤ 10)) by omega) rfl)
        have t_53 : (M45.2.1 103 (a.toInt).toNat).toInt = (N.2.1 103 (a.toInt).toNat).toInt := congrArg Int32.toInt (F_n F36 (show ¬ (103 = 77 ∧ (((a.toInt).toNat) = 4 ∨ ((a.toInt).toNat) = 5 ∨ 7 ≤ ((a.toInt).toNat) ∧ ((a.toInt).toNat) ≤ 10)) by omega) rfl)
        have t_54 : (M45.2.1 104 (a.toInt).toNat).toInt = (N.2.1 104 (a.toInt).toNat).toInt := congrArg Int32.toInt (F_n F36 (show ¬ (104 = 77 ∧ (((a.toInt).toNat) = 4 ∨ ((a.toInt).toNat) = 5 ∨ 7 ≤ ((a.toInt).toNat) ∧ ((a.toInt).toNat) ≤ 10)) by omega) rfl)
        exact h r35 M45 hG37 F46 (by omega) (by omega) (by omega) (by omega) (by omega) (by omega) (fun r i z z2 => (F_n F36 (show ¬ (r = 77 ∧ (i = 4 ∨ i = 5 ∨ 7 ≤ i ∧ i ≤ 10)) by omega) (g8 r i z z2))) (by omega)
      · refine to_an (pc := 149) rw_213_149 rfl (to_in (pc := 150) rw_213_150 rfl (s_v (pc := 151) rw_213_151 (dp0 hd (by decide)) (ls0 := [.ref 77, .int a, .null, .null]) rfl (Nat.le_of_ble_eq_true rfl) (Nat.le_of_ble_eq_true rfl) rfl (to_rc rfl rfl rfl (g_o hG rfl)) rfl (C_212 hX (dp1 hd (by decide)) hG (by omega) (by omega) (by omega) (a := a) (fun r55 M64 hG57 F56 p_58 p_59 p_60 p_61 p_62 p_63 => ?_))))
        have F65 := FR.c F0 F56 tg_167
        have b_66 := g_b hG57 (a := 77) (i := 7) (lo := 0) (hi := 500) rfl rfl
        have c_67 : M64.2.1 77 6 = (N.2.1 77 6) := (F_n F56 (show ¬ (77 = 77 ∧ (6 = 4 ∨ 6 = 5 ∨ 7 ≤ 6 ∧ 6 ≤ 10) ∨ 77 = 106 ∨ 77 = 107) by decide) rfl)
        have t_68 : (M64.2.1 77 6).toInt = (N.2.1 77 6).toInt := congrArg Int32.toInt c_67
        have b_69 := g_b hG57 (a := 77) (i := 8) (lo := 0) (hi := 5) rfl rfl
        refine b_ine (pc := 154) rw_213_154 (A := r55.toInt) rfl (fun h70 => ?_) (fun h70 => ?_)
        · have t_71 : (M64.2.1 102 (a.toInt).toNat).toInt = (N.2.1 102 (a.toInt).toNat).toInt := congrArg Int32.toInt (F_n F56 (show ¬ (102 = 77 ∧ (((a.toInt).toNat) = 4 ∨ ((a.toInt).toNat) = 5 ∨ 7 ≤ ((a.toInt).toNat) ∧ ((a.toInt).toNat) ≤ 10) ∨ 102 = 106 ∨ 102 = 107) by omega) rfl)
          have t_72 : (M64.2.1 102 (a.toInt).toNat).toInt = (N.2.1 102 (a.toInt).toNat).toInt := congrArg Int32.toInt (F_n F56 (show ¬ (102 = 77 ∧ (((a.toInt).toNat) = 4 ∨ ((a.toInt).toNat) = 5 ∨ 7 ≤ ((a.toInt).toNat) ∧ ((a.toInt).toNat) ≤ 10) ∨ 102 = 106 ∨ 102 = 107) by omega) rfl)
          have t_73 : (M64.2.1 103 (a.toInt).toNat).toInt = (N.2.1 103 (a.toInt).toNat).toInt := congrArg Int32.toInt (F_n F56 (show ¬ (103 = 77 ∧ (((a.toInt).toNat) = 4 ∨ ((a.toInt).toNat) = 5 ∨ 7 ≤ ((a.toInt).toNat) ∧ ((a.toInt).toNat) ≤ 10) ∨ 103 = 106 ∨ 103 = 107) by omega) rfl)
          have t_74 : (M64.2.1 104 (a.toInt).toNat).toInt = (N.2.1 104 (a.toInt).toNat).toInt := congrArg Int32.toInt (F_n F56 (show ¬ (104 = 77 ∧ (((a.toInt).toNat) = 4 ∨ ((a.toInt).toNat) = 5 ∨ 7 ≤ ((a.toInt).toNat) ∧ ((a.toInt).toNat) ≤ 10) ∨ 104 = 106 ∨ 104 = 107) by omega) rfl)
          exact ih M64  hG57 F65 (by omega) (by omega) (by omega) (by omega) (by omega) (by omega) (by omega) (fun r i z z2 => (F_n F56 (show ¬ (r = 77 ∧ (i = 4 ∨ i = 5 ∨ 7 ≤ i ∧ i ≤ 10) ∨ r = 106 ∨ r = 107) by omega) (g8 r i z z2))) (by omega) (by omega)
        · refine to_c (pc := 157) rw_213_157 (x := (0 : Int32)) rfl rfl (s_r1 (pc := 158) rw_213_158 (A := 0) rfl (by decide) ?_)
          have k_75 : (0 : Int32).toInt = 0 := rfl
          have t_76 : (M64.2.1 102 (a.toInt).toNat).toInt = (N.2.1 102 (a.toInt).toNat).toInt := congrArg Int32.toInt (F_n F56 (show ¬ (102 = 77 ∧ (((a.toInt).toNat) = 4 ∨ ((a.toInt).toNat) = 5 ∨ 7 ≤ ((a.toInt).toNat) ∧ ((a.toInt).toNat) ≤ 10) ∨ 102 = 106 ∨ 102 = 107) by omega) rfl)
          have t_77 : (M64.2.1 102 (a.toInt).toNat).toInt = (N.2.1 102 (a.toInt).toNat).toInt := congrArg Int32.toInt (F_n F56 (show ¬ (102 = 77 ∧ (((a.toInt).toNat) = 4 ∨ ((a.toInt).toNat) = 5 ∨ 7 ≤ ((a.toInt).toNat) ∧ ((a.toInt).toNat) ≤ 10) ∨ 102 = 106 ∨ 102 = 107) by omega) rfl)
          have t_78 : (M64.2.1 103 (a.toInt).toNat).toInt = (N.2.1 103 (a.toInt).toNat).toInt := congrArg Int32.toInt (F_n F56 (show ¬ (103 = 77 ∧ (((a.toInt).toNat) = 4 ∨ ((a.toInt).toNat) = 5 ∨ 7 ≤ ((a.toInt).toNat) ∧ ((a.toInt).toNat) ≤ 10) ∨ 103 = 106 ∨ 103 = 107) by omega) rfl)
          have t_79 : (M64.2.1 104 (a.toInt).toNat).toInt = (N.2.1 104 (a.toInt).toNat).toInt := congrArg Int32.toInt (F_n F56 (show ¬ (104 = 77 ∧ (((a.toInt).toNat) = 4 ∨ ((a.toInt).toNat) = 5 ∨ 7 ≤ ((a.toInt).toNat) ∧ ((a.toInt).toNat) ≤ 10) ∨ 104 = 106 ∨ 104 = 107) by omega) rfl)
          exact h (0 : Int32) M64 hG57 F65 (by decide) (by decide) (by omega) (by omega) (by omega) (by omega) (fun r i z z2 => (F_n F56 (show ¬ (r = 77 ∧ (i = 4 ∨ i = 5 ∨ 7 ≤ i ∧ i ≤ 10) ∨ r = 106 ∨ r = 107) by omega) (g8 r i z z2))) (by omega)
set_option maxRecDepth 4000 in
set_option maxHeartbeats 0 in
theorem C_213 {X : mm_X} {d : Nat} {M : mm_M} {Q : Option Value → mm_M → Prop} {a : Int32} (hX : g_X X) (hd : 3 ≤ d) (hG : g_G M) (q1 : 0 ≤ a.toInt) (q2 : a.toInt ≤ 39) (q3 : (M.2.1 77 7).toInt ≤ (M.2.1 77 6).toInt) (h : ∀ (r : Int32) (M1 : mm_M), g_G M1 → FR md_ps M M1 → (0 ≤ r.toInt) → (r.toInt ≤ 1) → ((M1.2.1 77 7).toInt ≤ (M1.2.1 77 6).toInt) → ((M.2.1 77 7).toInt ≤ (M1.2.1 77 7).toInt) → (r.toInt = 1 → (M1.2.1 77 8).toInt = 0 ∨ (M.2.1 77 7).toInt < (M1.2.1 77 7).toInt) → (r.toInt = 1 → 0 ≤ (M1.2.1 102 (a.toInt).toNat).toInt ∧ (M1.2.1 102 (a.toInt).toNat).toInt ≤ 5 ∧ 0 ≤ (M1.2.1 103 (a.toInt).toNat).toInt ∧ 0 ≤ (M1.2.1 104 (a.toInt).toNat).toInt) → (∀ r i : Nat, (102 ≤ r ∧ r ≤ 104) → ¬ i = (a.toInt).toNat → M1.2.1 r i = M.2.1 r i) → (r.toInt = 1 → (M1.2.1 77 4).toInt = (M.2.1 77 4).toInt ∧ (M1.2.1 77 5).toInt = (M.2.1 77 5).toInt) → Q (some (.int r)) M1) : mm_T X d 212 0 [.ref 77, .int a] [] M Q := by
  have F0 : FR md_ps M M := FR.rf
  have b_80 := g_b hG (a := 77) (i := 7) (lo := 0) (hi := 500) rfl rfl
  have b_81 := g_b hG (a := 77) (i := 6) (lo := 0) (hi := 500) rfl rfl
  refine to_an (pc := 0) rw_213_0 rfl (s_gR (pc := 1) rw_213_1 hG rfl (v := 102) rfl (to_in (pc := 4) rw_213_4 rfl (to_an (pc := 5) rw_213_5 rfl (s_v (pc := 6) rw_213_6 (dp0 hd (by decide)) (ls0 := [.ref 77, .null, .null]) rfl (Nat.le_of_ble_eq_true rfl) (Nat.le_of_ble_eq_true rfl) rfl (to_rc rfl rfl rfl (g_o hG rfl)) rfl ?_))))
  have b_82 := g_b hG (a := 77) (i := 8) (lo := 0) (hi := 5) rfl rfl
  refine C_211 hX (dp1 hd (by decide)) hG  (fun r83 M90 hG85 F84 p_86 p_87 p_88 p_89 => ?_)
  have F91 := FR.c F0 F84 tg_169
  refine s_ias (pc := 9) rw_213_9 hG85 rfl (n := 40) rfl (A := a.toInt) rfl (by omega) (by omega) (fun M93 W92 => ?_)
  have hG94 := g_w hG85 W92 (A := r83.toInt) rfl (lo := -1) (hi := 99) rfl rfl (by omega) (by decide)
  have F95 := FR.w F91 W92 (show 102 = 77 ∧ ((a.toInt).toNat = 4 ∨ (a.toInt).toNat = 5 ∨ 7 ≤ (a.toInt).toNat ∧ (a.toInt).toNat ≤ 10) ∨ 102 ≤ 102 ∧ 102 ≤ 104 ∨ 102 = 106 ∨ 102 = 107 by omega)
  refine to_an (pc := 10) rw_213_10 rfl (s_gR (pc := 11) rw_213_11 hG94 rfl (v := 102) rfl (to_in (pc := 14) rw_213_14 rfl (s_ialk (pc := 15) rw_213_15 hG94 rfl (n := 40) rfl rfl (A := a.toInt) rfl (by omega) (by omega) (v := r83) (W_e W92) (b_ige (pc := 16) rw_213_16 (A := r83.toInt) rfl (fun h98 => ?_) (fun h98 => ?_)))))
  · refine to_an (pc := 21) rw_213_21 rfl (s_v (pc := 22) rw_213_22 (dp0 hd (by decide)) (ls0 := [.ref 77]) rfl (Nat.le_of_ble_eq_true rfl) (Nat.le_of_ble_eq_true rfl) rfl (to_rc rfl rfl rfl (g_o hG94 rfl)) rfl ?_)
    have c_99 : M93.2.1 77 7 = (M.2.1 77 7) := (W_n W92 (fun z => absurd z.1 (by decide)) (F_n F84 (show ¬ (77 = 77 ∧ (7 = 4 ∨ 7 = 5)) by decide) rfl))
    have t_100 : (M93.2.1 77 7).toInt = (M.2.1 77 7).toInt := congrArg Int32.toInt c_99
    have c_101 : M93.2.1 77 6 = (M.2.1 77 6) := (W_n W92 (fun z => absurd z.1 (by decide)) (F_n F84 (show ¬ (77 = 77 ∧ (6 = 4 ∨ 6 = 5)) by decide) rfl))
    have t_102 : (M93.2.1 77 6).toInt = (M.2.1 77 6).toInt := congrArg Int32.toInt c_101
    refine C_156 hX (dp1 hd (by decide)) hG94 (by omega)  (fun M108 hG104 F103 p_105 p_106 p_107 => ?_)
    have F109 := FR.c F95 F103 tg_170
    have b_110 := g_b hG104 (a := 77) (i := 7) (lo := 0) (hi := 500) rfl rfl
    have c_111 : M108.2.1 77 6 = (M.2.1 77 6) := (F_n F103 (show ¬ (77 = 77 ∧ 7 ≤ 6 ∧ 6 ≤ 10) by decide) c_101)
    have t_112 : (M108.2.1 77 6).toInt = (M.2.1 77 6).toInt := congrArg Int32.toInt c_111
    have b_113 := g_b hG104 (a := 77) (i := 8) (lo := 0) (hi := 5) rfl rfl
    refine to_an (pc := 25) rw_213_25 rfl (to_c (pc := 26) rw_213_26 (x := (8 : Int32)) rfl rfl (s_v (pc := 28) rw_213_28 (dp0 hd (by decide)) (ls0 := [.ref 77, .int (8 : Int32)]) rfl (Nat.le_of_ble_eq_true rfl) (Nat.le_of_ble_eq_true rfl) rfl (to_rc rfl rfl rfl (g_o hG104 rfl)) rfl ?_))
    have k_114 : (8 : Int32).toInt = 8 := rfl
    have c_115 : M108.2.1 77 4 = (M90.2.1 77 4) := (F_n F103 (show ¬ (77 = 77 ∧ 7 ≤ 4 ∧ 4 ≤ 10) by decide) (W_n W92 (fun z => absurd z.1 (by decide)) rfl))
    have t_116 : (M108.2.1 77 4).toInt = (M90.2.1 77 4).toInt := congrArg Int32.toInt c_115
    have c_117 : M108.2.1 77 5 = (M90.2.1 77 5) := (F_n F103 (show ¬ (77 = 77 ∧ 7 ≤ 5 ∧ 5 ≤ 10) by decide) (W_n W92 (fun z => absurd z.1 (by decide)) rfl))
    have t_118 : (M108.2.1 77 5).toInt = (M90.2.1 77 5).toInt := congrArg Int32.toInt c_117
    refine C_161 hX (dp1 hd (by decide)) hG104 (by omega) (c := (8 : Int32)) (fun r119 M129 hG121 F120 p_122 p_123 p_124 p_125 p_126 p_127 p_128 => ?_)
    have F130 := FR.c F109 F120 tg_168
    have b_131 := g_b hG121 (a := 77) (i := 7) (lo := 0) (hi := 500) rfl rfl
    have c_132 : M129.2.1 77 6 = (M.2.1 77 6) := (F_n F120 (show ¬ (77 = 77 ∧ (6 = 4 ∨ 6 = 5 ∨ 7 ≤ 6 ∧ 6 ≤ 10)) by decide) c_111)
    have t_133 : (M129.2.1 77 6).toInt = (M.2.1 77 6).toInt := congrArg Int32.toInt c_132
    have b_134 := g_b hG121 (a := 77) (i := 8) (lo := 0) (hi := 5) rfl rfl
    refine b_ine (pc := 31) rw_213_31 (A := r119.toInt) rfl (fun h135 => ?_) (fun h135 => ?_)
    · refine to_an (pc := 36) rw_213_36 rfl (s_gR (pc := 37) rw_213_37 hG121 rfl (v := 103) rfl (to_in (pc := 40) rw_213_40 rfl (to_an (pc := 41) rw_213_41 rfl (s_v (pc := 42) rw_213_42 (dp0 hd (by decide)) (ls0 := [.ref 77, .null, .null]) rfl (Nat.le_of_ble_eq_true rfl) (Nat.le_of_ble_eq_true rfl) rfl (to_rc rfl rfl rfl (g_o hG121 rfl)) rfl (C_211 hX (dp1 hd (by decide)) hG121  (fun r136 M143 hG138 F137 p_139 p_140 p_141 p_142 => ?_))))))
      have F144 := FR.c F130 F137 tg_169
      refine s_ias (pc := 45) rw_213_45 hG138 rfl (n := 40) rfl (A := a.toInt) rfl (by omega) (by omega) (fun M146 W145 => ?_)
      have hG147 := g_w hG138 W145 (A := r136.toInt) rfl (lo := -1) (hi := 5) rfl rfl (by omega) (by decide)
      have F148 := FR.w F144 W145 (show 103 = 77 ∧ ((a.toInt).toNat = 4 ∨ (a.toInt).toNat = 5 ∨ 7 ≤ (a.toInt).toNat ∧ (a.toInt).toNat ≤ 10) ∨ 102 ≤ 103 ∧ 103 ≤ 104 ∨ 103 = 106 ∨ 103 = 107 by omega)
      refine to_an (pc := 46) rw_213_46 rfl (s_gR (pc := 47) rw_213_47 hG147 rfl (v := 103) rfl (to_in (pc := 50) rw_213_50 rfl (s_ialk (pc := 51) rw_213_51 hG147 rfl (n := 40) rfl rfl (A := a.toInt) rfl (by omega) (by omega) (v := r136) (W_e W145) (b_ige (pc := 52) rw_213_52 (A := r136.toInt) rfl (fun h151 => ?_) (fun h151 => ?_)))))
      · refine to_an (pc := 57) rw_213_57 rfl (s_v (pc := 58) rw_213_58 (dp0 hd (by decide)) (ls0 := [.ref 77]) rfl (Nat.le_of_ble_eq_true rfl) (Nat.le_of_ble_eq_true rfl) rfl (to_rc rfl rfl rfl (g_o hG147 rfl)) rfl ?_)
        have c_152 : M146.2.1 77 7 = (M129.2.1 77 7) := (W_n W145 (fun z => absurd z.1 (by decide)) (F_n F137 (show ¬ (77 = 77 ∧ (7 = 4 ∨ 7 = 5)) by decide) rfl))
        have t_153 : (M146.2.1 77 7).toInt = (M129.2.1 77 7).toInt := congrArg Int32.toInt c_152
        have c_154 : M146.2.1 77 6 = (M.2.1 77 6) := (W_n W145 (fun z => absurd z.1 (by decide)) (F_n F137 (show ¬ (77 = 77 ∧ (6 = 4 ∨ 6 = 5)) by decide) c_132))
        have t_155 : (M146.2.1 77 6).toInt = (M.2.1 77 6).toInt := congrArg Int32.toInt c_154
        refine C_156 hX (dp1 hd (by decide)) hG147 (by omega)  (fun M161 hG157 F156 p_158 p_159 p_160 => ?_)
        have F162 := FR.c F148 F156 tg_170
        have b_163 := g_b hG157 (a := 77) (i := 7) (lo := 0) (hi := 500) rfl rfl
        have c_164 : M161.2.1 77 6 = (M.2.1 77 6) := (F_n F156 (show ¬ (77 = 77 ∧ 7 ≤ 6 ∧ 6 ≤ 10) by decide) c_154)
        have t_165 : (M161.2.1 77 6).toInt = (M.2.1 77 6).toInt := congrArg Int32.toInt c_164
        have b_166 := g_b hG157 (a := 77) (i := 8) (lo := 0) (hi := 5) rfl rfl
        refine to_an (pc := 61) rw_213_61 rfl (s_gR (pc := 62) rw_213_62 hG157 rfl (v := 104) rfl (to_in (pc := 65) rw_213_65 rfl (to_an (pc := 66) rw_213_66 rfl (s_v (pc := 67) rw_213_67 (dp0 hd (by decide)) (ls0 := [.ref 77, .null, .null]) rfl (Nat.le_of_ble_eq_true rfl) (Nat.le_of_ble_eq_true rfl) rfl (to_rc rfl rfl rfl (g_o hG157 rfl)) rfl ?_))))
        have c_167 : M161.2.1 77 4 = (M143.2.1 77 4) := (F_n F156 (show ¬ (77 = 77 ∧ 7 ≤ 4 ∧ 4 ≤ 10) by decide) (W_n W145 (fun z => absurd z.1 (by decide)) rfl))
        have t_168 : (M161.2.1 77 4).toInt = (M143.2.1 77 4).toInt := congrArg Int32.toInt c_167
        have c_169 : M161.2.1 77 5 = (M143.2.1 77 5) := (F_n F156 (show ¬ (77 = 77 ∧ 7 ≤ 5 ∧ 5 ≤ 10) by decide) (W_n W145 (fun z => absurd z.1 (by decide)) rfl))
        have t_170 : (M161.2.1 77 5).toInt = (M143.2.1 77 5).toInt := congrArg Int32.toInt c_169
        refine C_211 hX (dp1 hd (by decide)) hG157  (fun r171 M178 hG173 F172 p_174 p_175 p_176 p_177 => ?_)
        have F179 := FR.c F162 F172 tg_169
        refine s_ias (pc := 70) rw_213_70 hG173 rfl (n := 40) rfl (A := a.toInt) rfl (by omega) (by omega) (fun M181 W180 => ?_)
        have hG182 := g_w hG173 W180 (A := r171.toInt) rfl (lo := -1) (hi := 5) rfl rfl (by omega) (by decide)
        have F183 := FR.w F179 W180 (show 104 = 77 ∧ ((a.toInt).toNat = 4 ∨ (a.toInt).toNat = 5 ∨ 7 ≤ (a.toInt).toNat ∧ (a.toInt).toNat ≤ 10) ∨ 102 ≤ 104 ∧ 104 ≤ 104 ∨ 104 = 106 ∨ 104 = 107 by omega)
        refine to_an (pc := 71) rw_213_71 rfl (s_gR (pc := 72) rw_213_72 hG182 rfl (v := 104) rfl (to_in (pc := 75) rw_213_75 rfl (s_ialk (pc := 76) rw_213_76 hG182 rfl (n := 40) rfl rfl (A := a.toInt) rfl (by omega) (by omega) (v := r171) (W_e W180) (b_ige (pc := 77) rw_213_77 (A := r171.toInt) rfl (fun h186 => ?_) (fun h186 => ?_)))))
        · refine to_an (pc := 82) rw_213_82 rfl (s_v (pc := 83) rw_213_83 (dp0 hd (by decide)) (ls0 := [.ref 77]) rfl (Nat.le_of_ble_eq_true rfl) (Nat.le_of_ble_eq_true rfl) rfl (to_rc rfl rfl rfl (g_o hG182 rfl)) rfl ?_)
          have c_187 : M181.2.1 77 7 = (M161.2.1 77 7) := (W_n W180 (fun z => absurd z.1 (by decide)) (F_n F172 (show ¬ (77 = 77 ∧ (7 = 4 ∨ 7 = 5)) by decide) rfl))
          have t_188 : (M181.2.1 77 7).toInt = (M161.2.1 77 7).toInt := congrArg Int32.toInt c_187
          have c_189 : M181.2.1 77 6 = (M.2.1 77 6) := (W_n W180 (fun z => absurd z.1 (by decide)) (F_n F172 (show ¬ (77 = 77 ∧ (6 = 4 ∨ 6 = 5)) by decide) c_164))
          have t_190 : (M181.2.1 77 6).toInt = (M.2.1 77 6).toInt := congrArg Int32.toInt c_189
          refine C_156 hX (dp1 hd (by decide)) hG182 (by omega)  (fun M196 hG192 F191 p_193 p_194 p_195 => ?_)
          have F197 := FR.c F183 F191 tg_170
          have b_198 := g_b hG192 (a := 77) (i := 7) (lo := 0) (hi := 500) rfl rfl
          have c_199 : M196.2.1 77 6 = (M.2.1 77 6) := (F_n F191 (show ¬ (77 = 77 ∧ 7 ≤ 6 ∧ 6 ≤ 10) by decide) c_189)
          have t_200 : (M196.2.1 77 6).toInt = (M.2.1 77 6).toInt := congrArg Int32.toInt c_199
          have b_201 := g_b hG192 (a := 77) (i := 8) (lo := 0) (hi := 5) rfl rfl
          refine to_an (pc := 86) rw_213_86 rfl (to_c (pc := 87) rw_213_87 (x := (9 : Int32)) rfl rfl (s_v (pc := 89) rw_213_89 (dp0 hd (by decide)) (ls0 := [.ref 77, .int (9 : Int32)]) rfl (Nat.le_of_ble_eq_true rfl) (Nat.le_of_ble_eq_true rfl) rfl (to_rc rfl rfl rfl (g_o hG192 rfl)) rfl ?_))
          have k_202 : (9 : Int32).toInt = 9 := rfl
          have c_203 : M196.2.1 77 4 = (M178.2.1 77 4) := (F_n F191 (show ¬ (77 = 77 ∧ 7 ≤ 4 ∧ 4 ≤ 10) by decide) (W_n W180 (fun z => absurd z.1 (by decide)) rfl))
          have t_204 : (M196.2.1 77 4).toInt = (M178.2.1 77 4).toInt := congrArg Int32.toInt c_203
          have c_205 : M196.2.1 77 5 = (M178.2.1 77 5) := (F_n F191 (show ¬ (77 = 77 ∧ 7 ≤ 5 ∧ 5 ≤ 10) by decide) (W_n W180 (fun z => absurd z.1 (by decide)) rfl))
          have t_206 : (M196.2.1 77 5).toInt = (M178.2.1 77 5).toInt := congrArg Int32.toInt c_205
          refine C_161 hX (dp1 hd (by decide)) hG192 (by omega) (c := (9 : Int32)) (fun r207 M217 hG209 F208 p_210 p_211 p_212 p_213 p_214 p_215 p_216 => ?_)
          have F218 := FR.c F197 F208 tg_168
          have b_219 := g_b hG209 (a := 77) (i := 7) (lo := 0) (hi := 500) rfl rfl
          have c_220 : M217.2.1 77 6 = (M.2.1 77 6) := (F_n F208 (show ¬ (77 = 77 ∧ (6 = 4 ∨ 6 = 5 ∨ 7 ≤ 6 ∧ 6 ≤ 10)) by decide) c_199)
          have t_221 : (M217.2.1 77 6).toInt = (M.2.1 77 6).toInt := congrArg Int32.toInt c_220
          have b_222 := g_b hG209 (a := 77) (i := 8) (lo := 0) (hi := 5) rfl rfl
          refine b_ine (pc := 92) rw_213_92 (A := r207.toInt) rfl (fun h223 => ?_) (fun h223 => ?_)
          · refine to_an (pc := 97) rw_213_97 rfl (tt_gI (pc := 98) rw_213_98 (g_o hG209 rfl) (v := (M217.2.1 77 8)) rfl (to_c (pc := 101) rw_213_101 (x := (3 : Int32)) rfl rfl (b_ceq (pc := 102) rw_213_102 (A := (M217.2.1 77 8).toInt) (B := 3) rfl rfl (fun h224 => ?_) (fun h224 => ?_))))
            · refine to_an (pc := 119) rw_213_119 rfl (s_gR (pc := 120) rw_213_120 hG209 rfl (v := 106) rfl (to_in (pc := 123) rw_213_123 rfl (s_cl (pc := 124) rw_213_124 rfl (fun l225 => s_las (pc := 125) rw_213_125 hG209 rfl (n := 40) rfl (A := a.toInt) rfl (by omega) (by omega) (fun M227 W226 => ?_)))))
              have hG228 := g_wl hG209 W226
              have F229 := FR.wl F218 W226 (show 106 = 77 ∧ ((a.toInt).toNat = 4 ∨ (a.toInt).toNat = 5 ∨ 7 ≤ (a.toInt).toNat ∧ (a.toInt).toNat ≤ 10) ∨ 102 ≤ 106 ∧ 106 ≤ 104 ∨ 106 = 106 ∨ 106 = 107 by omega)
              refine to_an (pc := 126) rw_213_126 rfl (s_gR (pc := 127) rw_213_127 hG228 rfl (v := 107) rfl (to_in (pc := 130) rw_213_130 rfl (to_c (pc := 131) rw_213_131 (x := (0 : Int32)) rfl rfl (s_ias (pc := 132) rw_213_132 hG228 rfl (n := 40) rfl (A := a.toInt) rfl (by omega) (by omega) (fun M231 W230 => ?_)))))
              have hG232 := g_wf hG228 W230 rfl rfl (by decide)
              have F233 := FR.w F229 W230 (show 107 = 77 ∧ ((a.toInt).toNat = 4 ∨ (a.toInt).toNat = 5 ∨ 7 ≤ (a.toInt).toNat ∧ (a.toInt).toNat ≤ 10) ∨ 102 ≤ 107 ∧ 107 ≤ 104 ∨ 107 = 106 ∨ 107 = 107 by omega)
              have c_234 : M231.2.1 77 7 = (M217.2.1 77 7) := (W_n W230 (fun z => absurd z.1 (by decide)) (W_l W226 rfl))
              have t_235 : (M231.2.1 77 7).toInt = (M217.2.1 77 7).toInt := congrArg Int32.toInt c_234
              have c_236 : M231.2.1 77 6 = (M.2.1 77 6) := (W_n W230 (fun z => absurd z.1 (by decide)) (W_l W226 c_220))
              have t_237 : (M231.2.1 77 6).toInt = (M.2.1 77 6).toInt := congrArg Int32.toInt c_236
              have c_238 : M231.2.1 77 8 = (M217.2.1 77 8) := (W_n W230 (fun z => absurd z.1 (by decide)) (W_l W226 rfl))
              have t_239 : (M231.2.1 77 8).toInt = (M217.2.1 77 8).toInt := congrArg Int32.toInt c_238
              have t_240 : (M93.2.1 102 (a.toInt).toNat).toInt = r83.toInt := congrArg Int32.toInt (W_e W92)
              have t_241 : (M231.2.1 102 (a.toInt).toNat).toInt = (M93.2.1 102 (a.toInt).toNat).toInt := congrArg Int32.toInt (W_n W230 (by omega) (W_l W226 (F_n F208 (show ¬ (102 = 77 ∧ (((a.toInt).toNat) = 4 ∨ ((a.toInt).toNat) = 5 ∨ 7 ≤ ((a.toInt).toNat) ∧ ((a.toInt).toNat) ≤ 10)) by omega) (F_n F191 (show ¬ (102 = 77 ∧ 7 ≤ ((a.toInt).toNat) ∧ ((a.toInt).toNat) ≤ 10) by omega) (W_n W180 (by omega) (F_n F172 (show ¬ (102 = 77 ∧ (((a.toInt).toNat) = 4 ∨ ((a.toInt).toNat) = 5)) by omega) (F_n F156 (show ¬ (102 = 77 ∧ 7 ≤ ((a.toInt).toNat) ∧ ((a.toInt).toNat) ≤ 10) by omega) (W_n W145 (by omega) (F_n F137 (show ¬ (102 = 77 ∧ (((a.toInt).toNat) = 4 ∨ ((a.toInt).toNat) = 5)) by omega) (F_n F120 (show ¬ (102 = 77 ∧ (((a.toInt).toNat) = 4 ∨ ((a.toInt).toNat) = 5 ∨ 7 ≤ ((a.toInt).toNat) ∧ ((a.toInt).toNat) ≤ 10)) by omega) (F_n F103 (show ¬ (102 = 77 ∧ 7 ≤ ((a.toInt).toNat) ∧ ((a.toInt).toNat) ≤ 10) by omega) rfl)))))))))))
              have t_242 : (M93.2.1 102 (a.toInt).toNat).toInt = r83.toInt := congrArg Int32.toInt (W_e W92)
              have t_243 : (M231.2.1 102 (a.toInt).toNat).toInt = (M93.2.1 102 (a.toInt).toNat).toInt := congrArg Int32.toInt (W_n W230 (by omega) (W_l W226 (F_n F208 (show ¬ (102 = 77 ∧ (((a.toInt).toNat) = 4 ∨ ((a.toInt).toNat) = 5 ∨ 7 ≤ ((a.toInt).toNat) ∧ ((a.toInt).toNat) ≤ 10)) by omega) (F_n F191 (show ¬ (102 = 77 ∧ 7 ≤ ((a.toInt).toNat) ∧ ((a.toInt).toNat) ≤ 10) by omega) (W_n W180 (by omega) (F_n F172 (show ¬ (102 = 77 ∧ (((a.toInt).toNat) = 4 ∨ ((a.toInt).toNat) = 5)) by omega) (F_n F156 (show ¬ (102 = 77 ∧ 7 ≤ ((a.toInt).toNat) ∧ ((a.toInt).toNat) ≤ 10) by omega) (W_n W145 (by omega) (F_n F137 (show ¬ (102 = 77 ∧ (((a.toInt).toNat) = 4 ∨ ((a.toInt).toNat) = 5)) by omega) (F_n F120 (show ¬ (102 = 77 ∧ (((a.toInt).toNat) = 4 ∨ ((a.toInt).toNat) = 5 ∨ 7 ≤ ((a.toInt).toNat) ∧ ((a.toInt).toNat) ≤ 10)) by omega) (F_n F103 (show ¬ (102 = 77 ∧ 7 ≤ ((a.toInt).toNat) ∧ ((a.toInt).toNat) ≤ 10) by omega) rfl)))))))))))
              have t_244 : (M146.2.1 103 (a.toInt).toNat).toInt = r136.toInt := congrArg Int32.toInt (W_e W145)
              have t_245 : (M231.2.1 103 (a.toInt).toNat).toInt = (M146.2.1 103 (a.toInt).toNat).toInt := congrArg Int32.toInt (W_n W230 (by omega) (W_l W226 (F_n F208 (show ¬ (103 = 77 ∧ (((a.toInt).toNat) = 4 ∨ ((a.toInt).toNat) = 5 ∨ 7 ≤ ((a.toInt).toNat) ∧ ((a.toInt).toNat) ≤ 10)) by omega) (F_n F191 (show ¬ (103 = 77 ∧ 7 ≤ ((a.toInt).toNat) ∧ ((a.toInt).toNat) ≤ 10) by omega) (W_n W180 (by omega) (F_n F172 (show ¬ (103 = 77 ∧ (((a.toInt).toNat) = 4 ∨ ((a.toInt).toNat) = 5)) by omega) (F_n F156 (show ¬ (103 = 77 ∧ 7 ≤ ((a.toInt).toNat) ∧ ((a.toInt).toNat) ≤ 10) by omega) rfl)))))))
              have t_246 : (M181.2.1 104 (a.toInt).toNat).toInt = r171.toInt := congrArg Int32.toInt (W_e W180)
              have t_247 : (M231.2.1 104 (a.toInt).toNat).toInt = (M181.2.1 104 (a.toInt).toNat).toInt := congrArg Int32.toInt (W_n W230 (by omega) (W_l W226 (F_n F208 (show ¬ (104 = 77 ∧ (((a.toInt).toNat) = 4 ∨ ((a.toInt).toNat) = 5 ∨ 7 ≤ ((a.toInt).toNat) ∧ ((a.toInt).toNat) ≤ 10)) by omega) (F_n F191 (show ¬ (104 = 77 ∧ 7 ≤ ((a.toInt).toNat) ∧ ((a.toInt).toNat) ≤ 10) by omega) rfl))))
              have c_248 : M231.2.1 77 4 = (M217.2.1 77 4) := (W_n W230 (fun z => absurd z.1 (by decide)) (W_l W226 rfl))
              have t_249 : (M231.2.1 77 4).toInt = (M217.2.1 77 4).toInt := congrArg Int32.toInt c_248
              have c_250 : M231.2.1 77 5 = (M217.2.1 77 5) := (W_n W230 (fun z => absurd z.1 (by decide)) (W_l W226 rfl))
              have t_251 : (M231.2.1 77 5).toInt = (M217.2.1 77 5).toInt := congrArg Int32.toInt c_250
              exact (T_213_0 (a := a) hX hd q1 q2 q3 h ((6 * (500 - (M231.2.1 77 7).toInt) + (M231.2.1 77 8).toInt).toNat + 1)) M231  hG232 F233 (by omega) (by omega) (by omega) (by omega) (by omega) (by omega) (by omega) (fun r i z z2 => (W_n W230 (by omega) (W_l W226 (F_n F208 (show ¬ (r = 77 ∧ (i = 4 ∨ i = 5 ∨ 7 ≤ i ∧ i ≤ 10)) by omega) (F_n F191 (show ¬ (r = 77 ∧ 7 ≤ i ∧ i ≤ 10) by omega) (W_n W180 (by omega) (F_n F172 (show ¬ (r = 77 ∧ (i = 4 ∨ i = 5)) by omega) (F_n F156 (show ¬ (r = 77 ∧ 7 ≤ i ∧ i ≤ 10) by omega) (W_n W145 (by omega) (F_n F137 (show ¬ (r = 77 ∧ (i = 4 ∨ i = 5)) by omega) (F_n F120 (show ¬ (r = 77 ∧ (i = 4 ∨ i = 5 ∨ 7 ≤ i ∧ i ≤ 10)) by omega) (F_n F103 (show ¬ (r = 77 ∧ 7 ≤ i ∧ i ≤ 10) by omega) (W_n W92 (by omega) (F_n F84 (show ¬ (r = 77 ∧ (i = 4 ∨ i = 5)) by omega) rfl)))))))))))))) (by omega) (by omega)
            · refine to_an (pc := 105) rw_213_105 rfl (tt_gI (pc := 106) rw_213_106 (g_o hG209 rfl) (v := (M217.2.1 77 8)) rfl (to_c (pc := 109) rw_213_109 (x := (2 : Int32)) rfl rfl (b_ceq (pc := 110) rw_213_110 (A := (M217.2.1 77 8).toInt) (B := 2) rfl rfl (fun h252 => ?_) (fun h252 => ?_))))
              · refine to_an (pc := 119) rw_213_119 rfl (s_gR (pc := 120) rw_213_120 hG209 rfl (v := 106) rfl (to_in (pc := 123) rw_213_123 rfl (s_cl (pc := 124) rw_213_124 rfl (fun l253 => s_las (pc := 125) rw_213_125 hG209 rfl (n := 40) rfl (A := a.toInt) rfl (by omega) (by omega) (fun M255 W254 => ?_)))))
                have hG256 := g_wl hG209 W254
                have F257 := FR.wl F218 W254 (show 106 = 77 ∧ ((a.toInt).toNat = 4 ∨ (a.toInt).toNat = 5 ∨ 7 ≤ (a.toInt).toNat ∧ (a.toInt).toNat ≤ 10) ∨ 102 ≤ 106 ∧ 106 ≤ 104 ∨ 106 = 106 ∨ 106 = 107 by omega)
                refine to_an (pc := 126) rw_213_126 rfl (s_gR (pc := 127) rw_213_127 hG256 rfl (v := 107) rfl (to_in (pc := 130) rw_213_130 rfl (to_c (pc := 131) rw_213_131 (x := (0 : Int32)) rfl rfl (s_ias (pc := 132) rw_213_132 hG256 rfl (n := 40) rfl (A := a.toInt) rfl (by omega) (by omega) (fun M259 W258 => ?_)))))
                have hG260 := g_wf hG256 W258 rfl rfl (by decide)
                have F261 := FR.w F257 W258 (show 107 = 77 ∧ ((a.toInt).toNat = 4 ∨ (a.toInt).toNat = 5 ∨ 7 ≤ (a.toInt).toNat ∧ (a.toInt).toNat ≤ 10) ∨ 102 ≤ 107 ∧ 107 ≤ 104 ∨ 107 = 106 ∨ 107 = 107 by omega)
                have c_262 : M259.2.1 77 7 = (M217.2.1 77 7) := (W_n W258 (fun z => absurd z.1 (by decide)) (W_l W254 rfl))
                have t_263 : (M259.2.1 77 7).toInt = (M217.2.1 77 7).toInt := congrArg Int32.toInt c_262
                have c_264 : M259.2.1 77 6 = (M.2.1 77 6) := (W_n W258 (fun z => absurd z.1 (by decide)) (W_l W254 c_220))
                have t_265 : (M259.2.1 77 6).toInt = (M.2.1 77 6).toInt := congrArg Int32.toInt c_264
                have c_266 : M259.2.1 77 8 = (M217.2.1 77 8) := (W_n W258 (fun z => absurd z.1 (by decide)) (W_l W254 rfl))
                have t_267 : (M259.2.1 77 8).toInt = (M217.2.1 77 8).toInt := congrArg Int32.toInt c_266
                have t_268 : (M93.2.1 102 (a.toInt).toNat).toInt = r83.toInt := congrArg Int32.toInt (W_e W92)
                have t_269 : (M259.2.1 102 (a.toInt).toNat).toInt = (M93.2.1 102 (a.toInt).toNat).toInt := congrArg Int32.toInt (W_n W258 (by omega) (W_l W254 (F_n F208 (show ¬ (102 = 77 ∧ (((a.toInt).toNat) = 4 ∨ ((a.toInt).toNat) = 5 ∨ 7 ≤ ((a.toInt).toNat) ∧ ((a.toInt).toNat) ≤ 10)) by omega) (F_n F191 (show ¬ (102 = 77 ∧ 7 ≤ ((a.toInt).toNat) ∧ ((a.toInt).toNat) ≤ 10) by omega) (W_n W180 (by omega) (F_n F172 (show ¬ (102 = 77 ∧ (((a.toInt).toNat) = 4 ∨ ((a.toInt).toNat) = 5)) by omega) (F_n F156 (show ¬ (102 = 77 ∧ 7 ≤ ((a.toInt).toNat) ∧ ((a.toInt).toNat) ≤ 10) by omega) (W_n W145 (by omega) (F_n F137 (show ¬ (102 = 77 ∧ (((a.toInt).toNat) = 4 ∨ ((a.toInt).toNat) = 5)) by omega) (F_n F120 (show ¬ (102 = 77 ∧ (((a.toInt).toNat) = 4 ∨ ((a.toInt).toNat) = 5 ∨ 7 ≤ ((a.toInt).toNat) ∧ ((a.toInt).toNat) ≤ 10)) by omega) (F_n F103 (show ¬ (102 = 77 ∧ 7 ≤ ((a.toInt).toNat) ∧ ((a.toInt).toNat) ≤ 10) by omega) rfl)))))))))))
                have t_270 : (M93.2.1 102 (a.toInt).toNat).toInt = r83.toInt := congrArg Int32.toInt (W_e W92)
                have t_271 : (M259.2.1 102 (a.toInt).toNat).toInt = (M93.2.1 102 (a.toInt).toNat).toInt := congrArg Int32.toInt (W_n W258 (by omega) (W_l W254 (F_n F208 (show ¬ (102 = 77 ∧ (((a.toInt).toNat) = 4 ∨ ((a.toInt).toNat) = 5 ∨ 7 ≤ ((a.toInt).toNat) ∧ ((a.toInt).toNat) ≤ 10)) by omega) (F_n F191 (show ¬ (102 = 77 ∧ 7 ≤ ((a.toInt).toNat) ∧ ((a.toInt).toNat) ≤ 10) by omega) (W_n W180 (by omega) (F_n F172 (show ¬ (102 = 77 ∧ (((a.toInt).toNat) = 4 ∨ ((a.toInt).toNat) = 5)) by omega) (F_n F156 (show ¬ (102 = 77 ∧ 7 ≤ ((a.toInt).toNat) ∧ ((a.toInt).toNat) ≤ 10) by omega) (W_n W145 (by omega) (F_n F137 (show ¬ (102 = 77 ∧ (((a.toInt).toNat) = 4 ∨ ((a.toInt).toNat) = 5)) by omega) (F_n F120 (show ¬ (102 = 77 ∧ (((a.toInt).toNat) = 4 ∨ ((a.toInt).toNat) = 5 ∨ 7 ≤ ((a.toInt).toNat) ∧ ((a.toInt).toNat) ≤ 10)) by omega) (F_n F103 (show ¬ (102 = 77 ∧ 7 ≤ ((a.toInt).toNat) ∧ ((a.toInt).toNat) ≤ 10) by omega) rfl)))))))))))
                have t_272 : (M146.2.1 103 (a.toInt).toNat).toInt = r136.toInt := congrArg Int32.toInt (W_e W145)
                have t_273 : (M259.2.1 103 (a.toInt).toNat).toInt = (M146.2.1 103 (a.toInt).toNat).toInt := congrArg Int32.toInt (W_n W258 (by omega) (W_l W254 (F_n F208 (show ¬ (103 = 77 ∧ (((a.toInt).toNat) = 4 ∨ ((a.toInt).toNat) = 5 ∨ 7 ≤ ((a.toInt).toNat) ∧ ((a.toInt).toNat) ≤ 10)) by omega) (F_n F191 (show ¬ (103 = 77 ∧ 7 ≤ ((a.toInt).toNat) ∧ ((a.toInt).toNat) ≤ 10) by omega) (W_n W180 (by omega) (F_n F172 (show ¬ (103 = 77 ∧ (((a.toInt).toNat) = 4 ∨ ((a.toInt).toNat) = 5)) by omega) (F_n F156 (show ¬ (103 = 77 ∧ 7 ≤ ((a.toInt).toNat) ∧ ((a.toInt).toNat) ≤ 10) by omega) rfl)))))))
                have t_274 : (M181.2.1 104 (a.toInt).toNat).toInt = r171.toInt := congrArg Int32.toInt (W_e W180)
                have t_275 : (M259.2.1 104 (a.toInt).toNat).toInt = (M181.2.1 104 (a.toInt).toNat).toInt := congrArg Int32.toInt (W_n W258 (by omega) (W_l W254 (F_n F208 (show ¬ (104 = 77 ∧ (((a.toInt).toNat) = 4 ∨ ((a.toInt).toNat) = 5 ∨ 7 ≤ ((a.toInt).toNat) ∧ ((a.toInt).toNat) ≤ 10)) by omega) (F_n F191 (show ¬ (104 = 77 ∧ 7 ≤ ((a.toInt).toNat) ∧ ((a.toInt).toNat) ≤ 10) by omega) rfl))))
                have c_276 : M259.2.1 77 4 = (M217.2.1 77 4) := (W_n W258 (fun z => absurd z.1 (by decide)) (W_l W254 rfl))
                have t_277 : (M259.2.1 77 4).toInt = (M217.2.1 77 4).toInt := congrArg Int32.toInt c_276
                have c_278 : M259.2.1 77 5 = (M217.2.1 77 5) := (W_n W258 (fun z => absurd z.1 (by decide)) (W_l W254 rfl))
                have t_279 : (M259.2.1 77 5).toInt = (M217.2.1 77 5).toInt := congrArg Int32.toInt c_278
                exact (T_213_0 (a := a) hX hd q1 q2 q3 h ((6 * (500 - (M259.2.1 77 7).toInt) + (M259.2.1 77 8).toInt).toNat + 1)) M259  hG260 F261 (by omega) (by omega) (by omega) (by omega) (by omega) (by omega) (by omega) (fun r i z z2 => (W_n W258 (by omega) (W_l W254 (F_n F208 (show ¬ (r = 77 ∧ (i = 4 ∨ i = 5 ∨ 7 ≤ i ∧ i ≤ 10)) by omega) (F_n F191 (show ¬ (r = 77 ∧ 7 ≤ i ∧ i ≤ 10) by omega) (W_n W180 (by omega) (F_n F172 (show ¬ (r = 77 ∧ (i = 4 ∨ i = 5)) by omega) (F_n F156 (show ¬ (r = 77 ∧ 7 ≤ i ∧ i ≤ 10) by omega) (W_n W145 (by omega) (F_n F137 (show ¬ (r = 77 ∧ (i = 4 ∨ i = 5)) by omega) (F_n F120 (show ¬ (r = 77 ∧ (i = 4 ∨ i = 5 ∨ 7 ≤ i ∧ i ≤ 10)) by omega) (F_n F103 (show ¬ (r = 77 ∧ 7 ≤ i ∧ i ≤ 10) by omega) (W_n W92 (by omega) (F_n F84 (show ¬ (r = 77 ∧ (i = 4 ∨ i = 5)) by omega) rfl)))))))))))))) (by omega) (by omega)
              · refine to_an (pc := 113) rw_213_113 rfl (to_c (pc := 114) rw_213_114 (x := (1 : Int32)) rfl rfl (s_v (pc := 115) rw_213_115 (dp0 hd (by decide)) (ls0 := [.ref 77, .int (1 : Int32)]) rfl (Nat.le_of_ble_eq_true rfl) (Nat.le_of_ble_eq_true rfl) rfl (to_rc rfl rfl rfl (g_o hG209 rfl)) rfl (to_an (pc := 0) rw_152_0 rfl (to_in (pc := 1) rw_152_1 rfl (s_pI (pc := 2) rw_152_2 hG209 rfl (fun M281 W280 => ?_))))))
                have hG282 := g_wf hG209 W280 rfl rfl (by decide)
                have F283 := FR.w F218 W280 (show 77 = 77 ∧ (4 = 4 ∨ 4 = 5 ∨ 7 ≤ 4 ∧ 4 ≤ 10) ∨ 102 ≤ 77 ∧ 77 ≤ 104 ∨ 77 = 106 ∨ 77 = 107 by decide)
                refine to_an (pc := 5) rw_152_5 rfl (to_an (pc := 6) rw_152_6 rfl ?_)
                have c_284 : M281.2.1 77 10 = (M217.2.1 77 10) := (W_n W280 (by decide) rfl)
                have b_285 := g_b hG209 (a := 77) (i := 10) (lo := 0) (hi := 500) rfl rfl
                refine tt_gI (pc := 7) rw_152_7 (g_o hG282 rfl) (v := (M217.2.1 77 10)) c_284 (s_pI (pc := 10) rw_152_10 hG282 rfl (fun M287 W286 => ?_))
                have hG288 := g_wf hG282 W286 rfl rfl (by decide)
                have F289 := FR.w F283 W286 (show 77 = 77 ∧ (5 = 4 ∨ 5 = 5 ∨ 7 ≤ 5 ∧ 5 ≤ 10) ∨ 102 ≤ 77 ∧ 77 ≤ 104 ∨ 77 = 106 ∨ 77 = 107 by decide)
                refine to_c (pc := 13) rw_152_13 (x := (0 : Int32)) rfl rfl (s_r1 (pc := 14) rw_152_14 (A := 0) rfl (by decide) (s_r1 (pc := 118) rw_213_118 (A := 0) rfl (by decide) ?_))
                have k_290 : (0 : Int32).toInt = 0 := rfl
                have c_291 : M287.2.1 77 7 = (M217.2.1 77 7) := (W_n W286 (by decide) (W_n W280 (by decide) rfl))
                have t_292 : (M287.2.1 77 7).toInt = (M217.2.1 77 7).toInt := congrArg Int32.toInt c_291
                have c_293 : M287.2.1 77 6 = (M.2.1 77 6) := (W_n W286 (by decide) (W_n W280 (by decide) c_220))
                have t_294 : (M287.2.1 77 6).toInt = (M.2.1 77 6).toInt := congrArg Int32.toInt c_293
                have c_295 : M287.2.1 77 8 = (M217.2.1 77 8) := (W_n W286 (by decide) (W_n W280 (by decide) rfl))
                have t_296 : (M287.2.1 77 8).toInt = (M217.2.1 77 8).toInt := congrArg Int32.toInt c_295
                have t_297 : (M93.2.1 102 (a.toInt).toNat).toInt = r83.toInt := congrArg Int32.toInt (W_e W92)
                have t_298 : (M287.2.1 102 (a.toInt).toNat).toInt = (M93.2.1 102 (a.toInt).toNat).toInt := congrArg Int32.toInt (W_n W286 (by omega) (W_n W280 (by omega) (F_n F208 (show ¬ (102 = 77 ∧ (((a.toInt).toNat) = 4 ∨ ((a.toInt).toNat) = 5 ∨ 7 ≤ ((a.toInt).toNat) ∧ ((a.toInt).toNat) ≤ 10)) by omega) (F_n F191 (show ¬ (102 = 77 ∧ 7 ≤ ((a.toInt).toNat) ∧ ((a.toInt).toNat) ≤ 10) by omega) (W_n W180 (by omega) (F_n F172 (show ¬ (102 = 77 ∧ (((a.toInt).toNat) = 4 ∨ ((a.toInt).toNat) = 5)) by omega) (F_n F156 (show ¬ (102 = 77 ∧ 7 ≤ ((a.toInt).toNat) ∧ ((a.toInt).toNat) ≤ 10) by omega) (W_n W145 (by omega) (F_n F137 (show ¬ (102 = 77 ∧ (((a.toInt).toNat) = 4 ∨ ((a.toInt).toNat) = 5)) by omega) (F_n F120 (show ¬ (102 = 77 ∧ (((a.toInt).toNat) = 4 ∨ ((a.toInt).toNat) = 5 ∨ 7 ≤ ((a.toInt).toNat) ∧ ((a.toInt).toNat) ≤ 10)) by omega) (F_n F103 (show ¬ (102 = 77 ∧ 7 ≤ ((a.toInt).toNat) ∧ ((a.toInt).toNat) ≤ 10) by omega) rfl)))))))))))
                have t_299 : (M93.2.1 102 (a.toInt).toNat).toInt = r83.toInt := congrArg Int32.toInt (W_e W92)
                have t_300 : (M287.2.1 102 (a.toInt).toNat).toInt = (M93.2.1 102 (a.toInt).toNat).toInt := congrArg Int32.toInt (W_n W286 (by omega) (W_n W280 (by omega) (F_n F208 (show ¬ (102 = 77 ∧ (((a.toInt).toNat) = 4 ∨ ((a.toInt).toNat) = 5 ∨ 7 ≤ ((a.toInt).toNat) ∧ ((a.toInt).toNat) ≤ 10)) by omega) (F_n F191 (show ¬ (102 = 77 ∧ 7 ≤ ((a.toInt).toNat) ∧ ((a.toInt).toNat) ≤ 10) by omega) (W_n W180 (by omega) (F_n F172 (show ¬ (102 = 77 ∧ (((a.toInt).toNat) = 4 ∨ ((a.toInt).toNat) = 5)) by omega) (F_n F156 (show ¬ (102 = 77 ∧ 7 ≤ ((a.toInt).toNat) ∧ ((a.toInt).toNat) ≤ 10) by omega) (W_n W145 (by omega) (F_n F137 (show ¬ (102 = 77 ∧ (((a.toInt).toNat) = 4 ∨ ((a.toInt).toNat) = 5)) by omega) (F_n F120 (show ¬ (102 = 77 ∧ (((a.toInt).toNat) = 4 ∨ ((a.toInt).toNat) = 5 ∨ 7 ≤ ((a.toInt).toNat) ∧ ((a.toInt).toNat) ≤ 10)) by omega) (F_n F103 (show ¬ (102 = 77 ∧ 7 ≤ ((a.toInt).toNat) ∧ ((a.toInt).toNat) ≤ 10) by omega) rfl)))))))))))
                have t_301 : (M146.2.1 103 (a.toInt).toNat).toInt = r136.toInt := congrArg Int32.toInt (W_e W145)
                have t_302 : (M287.2.1 103 (a.toInt).toNat).toInt = (M146.2.1 103 (a.toInt).toNat).toInt := congrArg Int32.toInt (W_n W286 (by omega) (W_n W280 (by omega) (F_n F208 (show ¬ (103 = 77 ∧ (((a.toInt).toNat) = 4 ∨ ((a.toInt).toNat) = 5 ∨ 7 ≤ ((a.toInt).toNat) ∧ ((a.toInt).toNat) ≤ 10)) by omega) (F_n F191 (show ¬ (103 = 77 ∧ 7 ≤ ((a.toInt).toNat) ∧ ((a.toInt).toNat) ≤ 10) by omega) (W_n W180 (by omega) (F_n F172 (show ¬ (103 = 77 ∧ (((a.toInt).toNat) = 4 ∨ ((a.toInt).toNat) = 5)) by omega) (F_n F156 (show ¬ (103 = 77 ∧ 7 ≤ ((a.toInt).toNat) ∧ ((a.toInt).toNat) ≤ 10) by omega) rfl)))))))
                have t_303 : (M181.2.1 104 (a.toInt).toNat).toInt = r171.toInt := congrArg Int32.toInt (W_e W180)
                have t_304 : (M287.2.1 104 (a.toInt).toNat).toInt = (M181.2.1 104 (a.toInt).toNat).toInt := congrArg Int32.toInt (W_n W286 (by omega) (W_n W280 (by omega) (F_n F208 (show ¬ (104 = 77 ∧ (((a.toInt).toNat) = 4 ∨ ((a.toInt).toNat) = 5 ∨ 7 ≤ ((a.toInt).toNat) ∧ ((a.toInt).toNat) ≤ 10)) by omega) (F_n F191 (show ¬ (104 = 77 ∧ 7 ≤ ((a.toInt).toNat) ∧ ((a.toInt).toNat) ≤ 10) by omega) rfl))))
                have c_305 : M287.2.1 77 4 = (1 : Int32) := (W_n W286 (by decide) (W_e W280))
                have k_306 : (1 : Int32).toInt = 1 := rfl
                have t_307 : (M287.2.1 77 4).toInt = (1 : Int32).toInt := congrArg Int32.toInt c_305
                have c_308 : M287.2.1 77 5 = (M217.2.1 77 10) := (W_e W286)
                have t_309 : (M287.2.1 77 5).toInt = (M217.2.1 77 10).toInt := congrArg Int32.toInt c_308
                exact h (0 : Int32) M287 hG288 F289 (by decide) (by decide) (by omega) (by omega) (by omega) (by omega) (fun r i z z2 => (W_n W286 (by omega) (W_n W280 (by omega) (F_n F208 (show ¬ (r = 77 ∧ (i = 4 ∨ i = 5 ∨ 7 ≤ i ∧ i ≤ 10)) by omega) (F_n F191 (show ¬ (r = 77 ∧ 7 ≤ i ∧ i ≤ 10) by omega) (W_n W180 (by omega) (F_n F172 (show ¬ (r = 77 ∧ (i = 4 ∨ i = 5)) by omega) (F_n F156 (show ¬ (r = 77 ∧ 7 ≤ i ∧ i ≤ 10) by omega) (W_n W145 (by omega) (F_n F137 (show ¬ (r = 77 ∧ (i = 4 ∨ i = 5)) by omega) (F_n F120 (show ¬ (r = 77 ∧ (i = 4 ∨ i = 5 ∨ 7 ≤ i ∧ i ≤ 10)) by omega) (F_n F103 (show ¬ (r = 77 ∧ 7 ≤ i ∧ i ≤ 10) by omega) (W_n W92 (by omega) (F_n F84 (show ¬ (r = 77 ∧ (i = 4 ∨ i = 5)) by omega) rfl)))))))))))))) (by omega)
          · refine to_c (pc := 95) rw_213_95 (x := (0 : Int32)) rfl rfl (s_r1 (pc := 96) rw_213_96 (A := 0) rfl (by decide) ?_)
            have k_310 : (0 : Int32).toInt = 0 := rfl
            have t_311 : (M93.2.1 102 (a.toInt).toNat).toInt = r83.toInt := congrArg Int32.toInt (W_e W92)
            have t_312 : (M217.2.1 102 (a.toInt).toNat).toInt = (M93.2.1 102 (a.toInt).toNat).toInt := congrArg Int32.toInt (F_n F208 (show ¬ (102 = 77 ∧ (((a.toInt).toNat) = 4 ∨ ((a.toInt).toNat) = 5 ∨ 7 ≤ ((a.toInt).toNat) ∧ ((a.toInt).toNat) ≤ 10)) by omega) (F_n F191 (show ¬ (102 = 77 ∧ 7 ≤ ((a.toInt).toNat) ∧ ((a.toInt).toNat) ≤ 10) by omega) (W_n W180 (by omega) (F_n F172 (show ¬ (102 = 77 ∧ (((a.toInt).toNat) = 4 ∨ ((a.toInt).toNat) = 5)) by omega) (F_n F156 (show ¬ (102 = 77 ∧ 7 ≤ ((a.toInt).toNat) ∧ ((a.toInt).toNat) ≤ 10) by omega) (W_n W145 (by omega) (F_n F137 (show ¬ (102 = 77 ∧ (((a.toInt).toNat) = 4 ∨ ((a.toInt).toNat) = 5)) by omega) (F_n F120 (show ¬ (102 = 77 ∧ (((a.toInt).toNat) = 4 ∨ ((a.toInt).toNat) = 5 ∨ 7 ≤ ((a.toInt).toNat) ∧ ((a.toInt).toNat) ≤ 10)) by omega) (F_n F103 (show ¬ (102 = 77 ∧ 7 ≤ ((a.toInt).toNat) ∧ ((a.toInt).toNat) ≤ 10) by omega) rfl)))))))))
            have t_313 : (M93.2.1 102 (a.toInt).toNat).toInt = r83.toInt := congrArg Int32.toInt (W_e W92)
            have t_314 : (M217.2.1 102 (a.toInt).toNat).toInt = (M93.2.1 102 (a.toInt).toNat).toInt := congrArg Int32.toInt (F_n F208 (show ¬ (102 = 77 ∧ (((a.toInt).toNat) = 4 ∨ ((a.toInt).toNat) = 5 ∨ 7 ≤ ((a.toInt).toNat) ∧ ((a.toInt).toNat) ≤ 10)) by omega) (F_n F191 (show ¬ (102 = 77 ∧ 7 ≤ ((a.toInt).toNat) ∧ ((a.toInt).toNat) ≤ 10) by omega) (W_n W180 (by omega) (F_n F172 (show ¬ (102 = 77 ∧ (((a.toInt).toNat) = 4 ∨ ((a.toInt).toNat) = 5)) by omega) (F_n F156 (show ¬ (102 = 77 ∧ 7 ≤ ((a.toInt).toNat) ∧ ((a.toInt).toNat) ≤ 10) by omega) (W_n W145 (by omega) (F_n F137 (show ¬ (102 = 77 ∧ (((a.toInt).toNat) = 4 ∨ ((a.toInt).toNat) = 5)) by omega) (F_n F120 (show ¬ (102 = 77 ∧ (((a.toInt).toNat) = 4 ∨ ((a.toInt).toNat) = 5 ∨ 7 ≤ ((a.toInt).toNat) ∧ ((a.toInt).toNat) ≤ 10)) by omega) (F_n F103 (show ¬ (102 = 77 ∧ 7 ≤ ((a.toInt).toNat) ∧ ((a.toInt).toNat) ≤ 10) by omega) rfl)))))))))
            have t_315 : (M146.2.1 103 (a.toInt).toNat).toInt = r136.toInt := congrArg Int32.toInt (W_e W145)
            have t_316 : (M217.2.1 103 (a.toInt).toNat).toInt = (M146.2.1 103 (a.toInt).toNat).toInt := congrArg Int32.toInt (F_n F208 (show ¬ (103 = 77 ∧ (((a.toInt).toNat) = 4 ∨ ((a.toInt).toNat) = 5 ∨ 7 ≤ ((a.toInt).toNat) ∧ ((a.toInt).toNat) ≤ 10)) by omega) (F_n F191 (show ¬ (103 = 77 ∧ 7 ≤ ((a.toInt).toNat) ∧ ((a.toInt).toNat) ≤ 10) by omega) (W_n W180 (by omega) (F_n F172 (show ¬ (103 = 77 ∧ (((a.toInt).toNat) = 4 ∨ ((a.toInt).toNat) = 5)) by omega) (F_n F156 (show ¬ (103 = 77 ∧ 7 ≤ ((a.toInt).toNat) ∧ ((a.toInt).toNat) ≤ 10) by omega) rfl)))))
            have t_317 : (M181.2.1 104 (a.toInt).toNat).toInt = r171.toInt := congrArg Int32.toInt (W_e W180)
            have t_318 : (M217.2.1 104 (a.toInt).toNat).toInt = (M181.2.1 104 (a.toInt).toNat).toInt := congrArg Int32.toInt (F_n F208 (show ¬ (104 = 77 ∧ (((a.toInt).toNat) = 4 ∨ ((a.toInt).toNat) = 5 ∨ 7 ≤ ((a.toInt).toNat) ∧ ((a.toInt).toNat) ≤ 10)) by omega) (F_n F191 (show ¬ (104 = 77 ∧ 7 ≤ ((a.toInt).toNat) ∧ ((a.toInt).toNat) ≤ 10) by omega) rfl))
            exact h (0 : Int32) M217 hG209 F218 (by decide) (by decide) (by omega) (by omega) (by omega) (by omega) (fun r i z z2 => (F_n F208 (show ¬ (r = 77 ∧ (i = 4 ∨ i = 5 ∨ 7 ≤ i ∧ i ≤ 10)) by omega) (F_n F191 (show ¬ (r = 77 ∧ 7 ≤ i ∧ i ≤ 10) by omega) (W_n W180 (by omega) (F_n F172 (show ¬ (r = 77 ∧ (i = 4 ∨ i = 5)) by omega) (F_n F156 (show ¬ (r = 77 ∧ 7 ≤ i ∧ i ≤ 10) by omega) (W_n W145 (by omega) (F_n F137 (show ¬ (r = 77 ∧ (i = 4 ∨ i = 5)) by omega) (F_n F120 (show ¬ (r = 77 ∧ (i = 4 ∨ i = 5 ∨ 7 ≤ i ∧ i ≤ 10)) by omega) (F_n F103 (show ¬ (r = 77 ∧ 7 ≤ i ∧ i ≤ 10) by omega) (W_n W92 (by omega) (F_n F84 (show ¬ (r = 77 ∧ (i = 4 ∨ i = 5)) by omega) rfl)))))))))))) (by omega)
        · refine to_c (pc := 80) rw_213_80 (x := (0 : Int32)) rfl rfl (s_r1 (pc := 81) rw_213_81 (A := 0) rfl (by decide) ?_)
          have k_319 : (0 : Int32).toInt = 0 := rfl
          have c_320 : M181.2.1 77 7 = (M161.2.1 77 7) := (W_n W180 (fun z => absurd z.1 (by decide)) (F_n F172 (show ¬ (77 = 77 ∧ (7 = 4 ∨ 7 = 5)) by decide) rfl))
          have t_321 : (M181.2.1 77 7).toInt = (M161.2.1 77 7).toInt := congrArg Int32.toInt c_320
          have c_322 : M181.2.1 77 6 = (M.2.1 77 6) := (W_n W180 (fun z => absurd z.1 (by decide)) (F_n F172 (show ¬ (77 = 77 ∧ (6 = 4 ∨ 6 = 5)) by decide) c_164))
          have t_323 : (M181.2.1 77 6).toInt = (M.2.1 77 6).toInt := congrArg Int32.toInt c_322
          have c_324 : M181.2.1 77 8 = (M161.2.1 77 8) := (W_n W180 (fun z => absurd z.1 (by decide)) (F_n F172 (show ¬ (77 = 77 ∧ (8 = 4 ∨ 8 = 5)) by decide) rfl))
          have t_325 : (M181.2.1 77 8).toInt = (M161.2.1 77 8).toInt := congrArg Int32.toInt c_324
          have t_326 : (M93.2.1 102 (a.toInt).toNat).toInt = r83.toInt := congrArg Int32.toInt (W_e W92)
          have t_327 : (M181.2.1 102 (a.toInt).toNat).toInt = (M93.2.1 102 (a.toInt).toNat).toInt := congrArg Int32.toInt (W_n W180 (by omega) (F_n F172 (show ¬ (102 = 77 ∧ (((a.toInt).toNat) = 4 ∨ ((a.toInt).toNat) = 5)) by omega) (F_n F156 (show ¬ (102 = 77 ∧ 7 ≤ ((a.toInt).toNat) ∧ ((a.toInt).toNat) ≤ 10) by omega) (W_n W145 (by omega) (F_n F137 (show ¬ (102 = 77 ∧ (((a.toInt).toNat) = 4 ∨ ((a.toInt).toNat) = 5)) by omega) (F_n F120 (show ¬ (102 = 77 ∧ (((a.toInt).toNat) = 4 ∨ ((a.toInt).toNat) = 5 ∨ 7 ≤ ((a.toInt).toNat) ∧ ((a.toInt).toNat) ≤ 10)) by omega) (F_n F103 (show ¬ (102 = 77 ∧ 7 ≤ ((a.toInt).toNat) ∧ ((a.toInt).toNat) ≤ 10) by omega) rfl)))))))
          have t_328 : (M93.2.1 102 (a.toInt).toNat).toInt = r83.toInt := congrArg Int32.toInt (W_e W92)
          have t_329 : (M181.2.1 102 (a.toInt).toNat).toInt = (M93.2.1 102 (a.toInt).toNat).toInt := congrArg Int32.toInt (W_n W180 (by omega) (F_n F172 (show ¬ (102 = 77 ∧ (((a.toInt).toNat) = 4 ∨ ((a.toInt).toNat) = 5)) by omega) (F_n F156 (show ¬ (102 = 77 ∧ 7 ≤ ((a.toInt).toNat) ∧ ((a.toInt).toNat) ≤ 10) by omega) (W_n W145 (by omega) (F_n F137 (show ¬ (102 = 77 ∧ (((a.toInt).toNat) = 4 ∨ ((a.toInt).toNat) = 5)) by omega) (F_n F120 (show ¬ (102 = 77 ∧ (((a.toInt).toNat) = 4 ∨ ((a.toInt).toNat) = 5 ∨ 7 ≤ ((a.toInt).toNat) ∧ ((a.toInt).toNat) ≤ 10)) by omega) (F_n F103 (show ¬ (102 = 77 ∧ 7 ≤ ((a.toInt).toNat) ∧ ((a.toInt).toNat) ≤ 10) by omega) rfl)))))))
          have t_330 : (M146.2.1 103 (a.toInt).toNat).toInt = r136.toInt := congrArg Int32.toInt (W_e W145)
          have t_331 : (M181.2.1 103 (a.toInt).toNat).toInt = (M146.2.1 103 (a.toInt).toNat).toInt := congrArg Int32.toInt (W_n W180 (by omega) (F_n F172 (show ¬ (103 = 77 ∧ (((a.toInt).toNat) = 4 ∨ ((a.toInt).toNat) = 5)) by omega) (F_n F156 (show ¬ (103 = 77 ∧ 7 ≤ ((a.toInt).toNat) ∧ ((a.toInt).toNat) ≤ 10) by omega) rfl)))
          have t_332 : (M181.2.1 104 (a.toInt).toNat).toInt = r171.toInt := congrArg Int32.toInt (W_e W180)
          have c_333 : M181.2.1 77 4 = (M178.2.1 77 4) := (W_n W180 (fun z => absurd z.1 (by decide)) rfl)
          have t_334 : (M181.2.1 77 4).toInt = (M178.2.1 77 4).toInt := congrArg Int32.toInt c_333
          have c_335 : M181.2.1 77 5 = (M178.2.1 77 5) := (W_n W180 (fun z => absurd z.1 (by decide)) rfl)
          have t_336 : (M181.2.1 77 5).toInt = (M178.2.1 77 5).toInt := congrArg Int32.toInt c_335
          exact h (0 : Int32) M181 hG182 F183 (by decide) (by decide) (by omega) (by omega) (by omega) (by omega) (fun r i z z2 => (W_n W180 (by omega) (F_n F172 (show ¬ (r = 77 ∧ (i = 4 ∨ i = 5)) by omega) (F_n F156 (show ¬ (r = 77 ∧ 7 ≤ i ∧ i ≤ 10) by omega) (W_n W145 (by omega) (F_n F137 (show ¬ (r = 77 ∧ (i = 4 ∨ i = 5)) by omega) (F_n F120 (show ¬ (r = 77 ∧ (i = 4 ∨ i = 5 ∨ 7 ≤ i ∧ i ≤ 10)) by omega) (F_n F103 (show ¬ (r = 77 ∧ 7 ≤ i ∧ i ≤ 10) by omega) (W_n W92 (by omega) (F_n F84 (show ¬ (r = 77 ∧ (i = 4 ∨ i = 5)) by omega) rfl)))))))))) (by omega)
      · refine to_c (pc := 55) rw_213_55 (x := (0 : Int32)) rfl rfl (s_r1 (pc := 56) rw_213_56 (A := 0) rfl (by decide) ?_)
        have k_337 : (0 : Int32).toInt = 0 := rfl
        have c_338 : M146.2.1 77 7 = (M129.2.1 77 7) := (W_n W145 (fun z => absurd z.1 (by decide)) (F_n F137 (show ¬ (77 = 77 ∧ (7 = 4 ∨ 7 = 5)) by decide) rfl))
        have t_339 : (M146.2.1 77 7).toInt = (M129.2.1 77 7).toInt := congrArg Int32.toInt c_338
        have c_340 : M146.2.1 77 6 = (M.2.1 77 6) := (W_n W145 (fun z => absurd z.1 (by decide)) (F_n F137 (show ¬ (77 = 77 ∧ (6 = 4 ∨ 6 = 5)) by decide) c_132))
        have t_341 : (M146.2.1 77 6).toInt = (M.2.1 77 6).toInt := congrArg Int32.toInt c_340
        have c_342 : M146.2.1 77 8 = (M129.2.1 77 8) := (W_n W145 (fun z => absurd z.1 (by decide)) (F_n F137 (show ¬ (77 = 77 ∧ (8 = 4 ∨ 8 = 5)) by decide) rfl))
        have t_343 : (M146.2.1 77 8).toInt = (M129.2.1 77 8).toInt := congrArg Int32.toInt c_342
        have t_344 : (M93.2.1 102 (a.toInt).toNat).toInt = r83.toInt := congrArg Int32.toInt (W_e W92)
        have t_345 : (M146.2.1 102 (a.toInt).toNat).toInt = (M93.2.1 102 (a.toInt).toNat).toInt := congrArg Int32.toInt (W_n W145 (by omega) (F_n F137 (show ¬ (102 = 77 ∧ (((a.toInt).toNat) = 4 ∨ ((a.toInt).toNat) = 5)) by omega) (F_n F120 (show ¬ (102 = 77 ∧ (((a.toInt).toNat) = 4 ∨ ((a.toInt).toNat) = 5 ∨ 7 ≤ ((a.toInt).toNat) ∧ ((a.toInt).toNat) ≤ 10)) by omega) (F_n F103 (show ¬ (102 = 77 ∧ 7 ≤ ((a.toInt).toNat) ∧ ((a.toInt).toNat) ≤ 10) by omega) rfl))))
        have t_346 : (M93.2.1 102 (a.toInt).toNat).toInt = r83.toInt := congrArg Int32.toInt (W_e W92)
        have t_347 : (M146.2.1 102 (a.toInt).toNat).toInt = (M93.2.1 102 (a.toInt).toNat).toInt := congrArg Int32.toInt (W_n W145 (by omega) (F_n F137 (show ¬ (102 = 77 ∧ (((a.toInt).toNat) = 4 ∨ ((a.toInt).toNat) = 5)) by omega) (F_n F120 (show ¬ (102 = 77 ∧ (((a.toInt).toNat) = 4 ∨ ((a.toInt).toNat) = 5 ∨ 7 ≤ ((a.toInt).toNat) ∧ ((a.toInt).toNat) ≤ 10)) by omega) (F_n F103 (show ¬ (102 = 77 ∧ 7 ≤ ((a.toInt).toNat) ∧ ((a.toInt).toNat) ≤ 10) by omega) rfl))))
        have t_348 : (M146.2.1 103 (a.toInt).toNat).toInt = r136.toInt := congrArg Int32.toInt (W_e W145)
        have t_349 : (M146.2.1 104 (a.toInt).toNat).toInt = (M.2.1 104 (a.toInt).toNat).toInt := congrArg Int32.toInt (W_n W145 (by omega) (F_n F137 (show ¬ (104 = 77 ∧ (((a.toInt).toNat) = 4 ∨ ((a.toInt).toNat) = 5)) by omega) (F_n F120 (show ¬ (104 = 77 ∧ (((a.toInt).toNat) = 4 ∨ ((a.toInt).toNat) = 5 ∨ 7 ≤ ((a.toInt).toNat) ∧ ((a.toInt).toNat) ≤ 10)) by omega) (F_n F103 (show ¬ (104 = 77 ∧ 7 ≤ ((a.toInt).toNat) ∧ ((a.toInt).toNat) ≤ 10) by omega) (W_n W92 (by omega) (F_n F84 (show ¬ (104 = 77 ∧ (((a.toInt).toNat) = 4 ∨ ((a.toInt).toNat) = 5)) by omega) rfl))))))
        have c_350 : M146.2.1 77 4 = (M143.2.1 77 4) := (W_n W145 (fun z => absurd z.1 (by decide)) rfl)
        have t_351 : (M146.2.1 77 4).toInt = (M143.2.1 77 4).toInt := congrArg Int32.toInt c_350
        have c_352 : M146.2.1 77 5 = (M143.2.1 77 5) := (W_n W145 (fun z => absurd z.1 (by decide)) rfl)
        have t_353 : (M146.2.1 77 5).toInt = (M143.2.1 77 5).toInt := congrArg Int32.toInt c_352
        exact h (0 : Int32) M146 hG147 F148 (by decide) (by decide) (by omega) (by omega) (by omega) (by omega) (fun r i z z2 => (W_n W145 (by omega) (F_n F137 (show ¬ (r = 77 ∧ (i = 4 ∨ i = 5)) by omega) (F_n F120 (show ¬ (r = 77 ∧ (i = 4 ∨ i = 5 ∨ 7 ≤ i ∧ i ≤ 10)) by omega) (F_n F103 (show ¬ (r = 77 ∧ 7 ≤ i ∧ i ≤ 10) by omega) (W_n W92 (by omega) (F_n F84 (show ¬ (r = 77 ∧ (i = 4 ∨ i = 5)) by omega) rfl))))))) (by omega)
    · refine to_c (pc := 34) rw_213_34 (x := (0 : Int32)) rfl rfl (s_r1 (pc := 35) rw_213_35 (A := 0) rfl (by decide) ?_)
      have k_354 : (0 : Int32).toInt = 0 := rfl
      have t_355 : (M93.2.1 102 (a.toInt).toNat).toInt = r83.toInt := congrArg Int32.toInt (W_e W92)
      have t_356 : (M129.2.1 102 (a.toInt).toNat).toInt = (M93.2.1 102 (a.toInt).toNat).toInt := congrArg Int32.toInt (F_n F120 (show ¬ (102 = 77 ∧ (((a.toInt).toNat) = 4 ∨ ((a.toInt).toNat) = 5 ∨ 7 ≤ ((a.toInt).toNat) ∧ ((a.toInt).toNat) ≤ 10)) by omega) (F_n F103 (show ¬ (102 = 77 ∧ 7 ≤ ((a.toInt).toNat) ∧ ((a.toInt).toNat) ≤ 10) by omega) rfl))
      have t_357 : (M93.2.1 102 (a.toInt).toNat).toInt = r83.toInt := congrArg Int32.toInt (W_e W92)
      have t_358 : (M129.2.1 102 (a.toInt).toNat).toInt = (M93.2.1 102 (a.toInt).toNat).toInt := congrArg Int32.toInt (F_n F120 (show ¬ (102 = 77 ∧ (((a.toInt).toNat) = 4 ∨ ((a.toInt).toNat) = 5 ∨ 7 ≤ ((a.toInt).toNat) ∧ ((a.toInt).toNat) ≤ 10)) by omega) (F_n F103 (show ¬ (102 = 77 ∧ 7 ≤ ((a.toInt).toNat) ∧ ((a.toInt).toNat) ≤ 10) by omega) rfl))
      have t_359 : (M129.2.1 103 (a.toInt).toNat).toInt = (M.2.1 103 (a.toInt).toNat).toInt := congrArg Int32.toInt (F_n F120 (show ¬ (103 = 77 ∧ (((a.toInt).toNat) = 4 ∨ ((a.toInt).toNat) = 5 ∨ 7 ≤ ((a.toInt).toNat) ∧ ((a.toInt).toNat) ≤ 10)) by omega) (F_n F103 (show ¬ (103 = 77 ∧ 7 ≤ ((a.toInt).toNat) ∧ ((a.toInt).toNat) ≤ 10) by omega) (W_n W92 (by omega) (F_n F84 (show ¬ (103 = 77 ∧ (((a.toInt).toNat) = 4 ∨ ((a.toInt).toNat) = 5)) by omega) rfl))))
      have t_360 : (M129.2.1 104 (a.toInt).toNat).toInt = (M.2.1 104 (a.toInt).toNat).toInt := congrArg Int32.toInt (F_n F120 (show ¬ (104 = 77 ∧ (((a.toInt).toNat) = 4 ∨ ((a.toInt).toNat) = 5 ∨ 7 ≤ ((a.toInt).toNat) ∧ ((a.toInt).toNat) ≤ 10)) by omega) (F_n F103 (show ¬ (104 = 77 ∧ 7 ≤ ((a.toInt).toNat) ∧ ((a.toInt).toNat) ≤ 10) by omega) (W_n W92 (by omega) (F_n F84 (show ¬ (104 = 77 ∧ (((a.toInt).toNat) = 4 ∨ ((a.toInt).toNat) = 5)) by omega) rfl))))
      exact h (0 : Int32) M129 hG121 F130 (by decide) (by decide) (by omega) (by omega) (by omega) (by omega) (fun r i z z2 => (F_n F120 (show ¬ (r = 77 ∧ (i = 4 ∨ i = 5 ∨ 7 ≤ i ∧ i ≤ 10)) by omega) (F_n F103 (show ¬ (r = 77 ∧ 7 ≤ i ∧ i ≤ 10) by omega) (W_n W92 (by omega) (F_n F84 (show ¬ (r = 77 ∧ (i = 4 ∨ i = 5)) by omega) rfl))))) (by omega)
  · refine to_c (pc := 19) rw_213_19 (x := (0 : Int32)) rfl rfl (s_r1 (pc := 20) rw_213_20 (A := 0) rfl (by decide) ?_)
    have k_361 : (0 : Int32).toInt = 0 := rfl
    have c_362 : M93.2.1 77 7 = (M.2.1 77 7) := (W_n W92 (fun z => absurd z.1 (by decide)) (F_n F84 (show ¬ (77 = 77 ∧ (7 = 4 ∨ 7 = 5)) by decide) rfl))
    have t_363 : (M93.2.1 77 7).toInt = (M.2.1 77 7).toInt := congrArg Int32.toInt c_362
    have c_364 : M93.2.1 77 6 = (M.2.1 77 6) := (W_n W92 (fun z => absurd z.1 (by decide)) (F_n F84 (show ¬ (77 = 77 ∧ (6 = 4 ∨ 6 = 5)) by decide) rfl))
    have t_365 : (M93.2.1 77 6).toInt = (M.2.1 77 6).toInt := congrArg Int32.toInt c_364
    have c_366 : M93.2.1 77 8 = (M.2.1 77 8) := (W_n W92 (fun z => absurd z.1 (by decide)) (F_n F84 (show ¬ (77 = 77 ∧ (8 = 4 ∨ 8 = 5)) by decide) rfl))
    have t_367 : (M93.2.1 77 8).toInt = (M.2.1 77 8).toInt := congrArg Int32.toInt c_366
    have t_368 : (M93.2.1 102 (a.toInt).toNat).toInt = r83.toInt := congrArg Int32.toInt (W_e W92)
    have t_369 : (M93.2.1 102 (a.toInt).toNat).toInt = r83.toInt := congrArg Int32.toInt (W_e W92)
    have t_370 : (M93.2.1 103 (a.toInt).toNat).toInt = (M.2.1 103 (a.toInt).toNat).toInt := congrArg Int32.toInt (W_n W92 (by omega) (F_n F84 (show ¬ (103 = 77 ∧ (((a.toInt).toNat) = 4 ∨ ((a.toInt).toNat) = 5)) by omega) rfl))
    have t_371 : (M93.2.1 104 (a.toInt).toNat).toInt = (M.2.1 104 (a.toInt).toNat).toInt := congrArg Int32.toInt (W_n W92 (by omega) (F_n F84 (show ¬ (104 = 77 ∧ (((a.toInt).toNat) = 4 ∨ ((a.toInt).toNat) = 5)) by omega) rfl))
    have c_372 : M93.2.1 77 4 = (M90.2.1 77 4) := (W_n W92 (fun z => absurd z.1 (by decide)) rfl)
    have t_373 : (M93.2.1 77 4).toInt = (M90.2.1 77 4).toInt := congrArg Int32.toInt c_372
    have c_374 : M93.2.1 77 5 = (M90.2.1 77 5) := (W_n W92 (fun z => absurd z.1 (by decide)) rfl)
    have t_375 : (M93.2.1 77 5).toInt = (M90.2.1 77 5).toInt := congrArg Int32.toInt c_374
    exact h (0 : Int32) M93 hG94 F95 (by decide) (by decide) (by omega) (by omega) (by omega) (by omega) (fun r i z z2 => (W_n W92 (by omega) (F_n F84 (show ¬ (r = 77 ∧ (i = 4 ∨ i = 5)) by omega) rfl))) (by omega)
set_option maxRecDepth 4000 in
set_option maxHeartbeats 0 in
theorem C_214 {X : mm_X} {d : Nat} {M : mm_M} {Q : Option Value → mm_M → Prop} {a : Int32} (hX : g_X X) (hd : 3 ≤ d) (hG : g_G M) (q1 : 0 ≤ a.toInt) (q2 : a.toInt ≤ 39) (q3 : (M.2.1 77 7).toInt ≤ (M.2.1 77 6).toInt) (h : ∀ (r : Int32) (M1 : mm_M), g_G M1 → FR md_ps M M1 → (0 ≤ r.toInt) → (r.toInt ≤ 1) → ((M1.2.1 77 7).toInt ≤ (M1.2.1 77 6).toInt) → ((M.2.1 77 7).toInt ≤ (M1.2.1 77 7).toInt) → (r.toInt = 1 → (M1.2.1 77 8).toInt = 0 ∨ (M.2.1 77 7).toInt < (M1.2.1 77 7).toInt) → (r.toInt = 1 → 0 ≤ (M1.2.1 102 (a.toInt).toNat).toInt ∧ (M1.2.1 102 (a.toInt).toNat).toInt ≤ 5 ∧ 0 ≤ (M1.2.1 103 (a.toInt).toNat).toInt ∧ ¬ (M1.2.1 103 (a.toInt).toNat).toInt = (M1.2.1 102 (a.toInt).toNat).toInt) → (∀ r i : Nat, (102 ≤ r ∧ r ≤ 104) → ¬ i = (a.toInt).toNat → M1.2.1 r i = M.2.1 r i) → (r.toInt = 1 → (M1.2.1 77 4).toInt = (M.2.1 77 4).toInt ∧ (M1.2.1 77 5).toInt = (M.2.1 77 5).toInt) → Q (some (.int r)) M1) : mm_T X d 213 0 [.ref 77, .int a] [] M Q := by
  have F0 : FR md_ps M M := FR.rf
  have b_1 := g_b hG (a := 77) (i := 7) (lo := 0) (hi := 500) rfl rfl
  have b_2 := g_b hG (a := 77) (i := 6) (lo := 0) (hi := 500) rfl rfl
  refine to_an (pc := 0) rw_214_0 rfl (s_gR (pc := 1) rw_214_1 hG rfl (v := 102) rfl (to_in (pc := 4) rw_214_4 rfl (to_an (pc := 5) rw_214_5 rfl (s_v (pc := 6) rw_214_6 (dp0 hd (by decide)) (ls0 := [.ref 77, .null, .null]) rfl (Nat.le_of_ble_eq_true rfl) (Nat.le_of_ble_eq_true rfl) rfl (to_rc rfl rfl rfl (g_o hG rfl)) rfl ?_))))
  have b_3 := g_b hG (a := 77) (i := 8) (lo := 0) (hi := 5) rfl rfl
  refine C_211 hX (dp1 hd (by decide)) hG  (fun r4 M11 hG6 F5 p_7 p_8 p_9 p_10 => ?_)
  have F12 := FR.c F0 F5 tg_169
  refine s_ias (pc := 9) rw_214_9 hG6 rfl (n := 40) rfl (A := a.toInt) rfl (by omega) (by omega) (fun M14 W13 => ?_)
  have hG15 := g_w hG6 W13 (A := r4.toInt) rfl (lo := -1) (hi := 99) rfl rfl (by omega) (by decide)
  have F16 := FR.w F12 W13 (show 102 = 77 ∧ ((a.toInt).toNat = 4 ∨ (a.toInt).toNat = 5 ∨ 7 ≤ (a.toInt).toNat ∧ (a.toInt).toNat ≤ 10) ∨ 102 ≤ 102 ∧ 102 ≤ 104 ∨ 102 = 106 ∨ 102 = 107 by omega)
  refine to_an (pc := 10) rw_214_10 rfl (s_gR (pc := 11) rw_214_11 hG15 rfl (v := 102) rfl (to_in (pc := 14) rw_214_14 rfl (s_ialk (pc := 15) rw_214_15 hG15 rfl (n := 40) rfl rfl (A := a.toInt) rfl (by omega) (by omega) (v := r4) (W_e W13) (b_ige (pc := 16) rw_214_16 (A := r4.toInt) rfl (fun h19 => ?_) (fun h19 => ?_)))))
  · refine to_an (pc := 21) rw_214_21 rfl (s_v (pc := 22) rw_214_22 (dp0 hd (by decide)) (ls0 := [.ref 77]) rfl (Nat.le_of_ble_eq_true rfl) (Nat.le_of_ble_eq_true rfl) rfl (to_rc rfl rfl rfl (g_o hG15 rfl)) rfl ?_)
    have c_20 : M14.2.1 77 7 = (M.2.1 77 7) := (W_n W13 (fun z => absurd z.1 (by decide)) (F_n F5 (show ¬ (77 = 77 ∧ (7 = 4 ∨ 7 = 5)) by decide) rfl))
    have t_21 : (M14.2.1 77 7).toInt = (M.2.1 77 7).toInt := congrArg Int32.toInt c_20
    have c_22 : M14.2.1 77 6 = (M.2.1 77 6) := (W_n W13 (fun z => absurd z.1 (by decide)) (F_n F5 (show ¬ (77 = 77 ∧ (6 = 4 ∨ 6 = 5)) by decide) rfl))
    have t_23 : (M14.2.1 77 6).toInt = (M.2.1 77 6).toInt := congrArg Int32.toInt c_22
    refine C_156 hX (dp1 hd (by decide)) hG15 (by omega)  (fun M29 hG25 F24 p_26 p_27 p_28 => ?_)
    have F30 := FR.c F16 F24 tg_170
    have b_31 := g_b hG25 (a := 77) (i := 7) (lo := 0) (hi := 500) rfl rfl
    have c_32 : M29.2.1 77 6 = (M.2.1 77 6) := (F_n F24 (show ¬ (77 = 77 ∧ 7 ≤ 6 ∧ 6 ≤ 10) by decide) c_22)
    have t_33 : (M29.2.1 77 6).toInt = (M.2.1 77 6).toInt := congrArg Int32.toInt c_32
    have b_34 := g_b hG25 (a := 77) (i := 8) (lo := 0) (hi := 5) rfl rfl
    refine to_an (pc := 25) rw_214_25 rfl (s_gR (pc := 26) rw_214_26 hG25 rfl (v := 103) rfl (to_in (pc := 29) rw_214_29 rfl (to_an (pc := 30) rw_214_30 rfl (s_v (pc := 31) rw_214_31 (dp0 hd (by decide)) (ls0 := [.ref 77, .null, .null]) rfl (Nat.le_of_ble_eq_true rfl) (Nat.le_of_ble_eq_true rfl) rfl (to_rc rfl rfl rfl (g_o hG25 rfl)) rfl ?_))))
    have c_35 : M29.2.1 77 4 = (M11.2.1 77 4) := (F_n F24 (show ¬ (77 = 77 ∧ 7 ≤ 4 ∧ 4 ≤ 10) by decide) (W_n W13 (fun z => absurd z.1 (by decide)) rfl))
    have t_36 : (M29.2.1 77 4).toInt = (M11.2.1 77 4).toInt := congrArg Int32.toInt c_35
    have c_37 : M29.2.1 77 5 = (M11.2.1 77 5) := (F_n F24 (show ¬ (77 = 77 ∧ 7 ≤ 5 ∧ 5 ≤ 10) by decide) (W_n W13 (fun z => absurd z.1 (by decide)) rfl))
    have t_38 : (M29.2.1 77 5).toInt = (M11.2.1 77 5).toInt := congrArg Int32.toInt c_37
    refine C_211 hX (dp1 hd (by decide)) hG25  (fun r39 M46 hG41 F40 p_42 p_43 p_44 p_45 => ?_)
    have F47 := FR.c F30 F40 tg_169
    refine s_ias (pc := 34) rw_214_34 hG41 rfl (n := 40) rfl (A := a.toInt) rfl (by omega) (by omega) (fun M49 W48 => ?_)
    have hG50 := g_w hG41 W48 (A := r39.toInt) rfl (lo := -1) (hi := 5) rfl rfl (by omega) (by decide)
    have F51 := FR.w F47 W48 (show 103 = 77 ∧ ((a.toInt).toNat = 4 ∨ (a.toInt).toNat = 5 ∨ 7 ≤ (a.toInt).toNat ∧ (a.toInt).toNat ≤ 10) ∨ 102 ≤ 103 ∧ 103 ≤ 104 ∨ 103 = 106 ∨ 103 = 107 by omega)
    refine to_an (pc := 35) rw_214_35 rfl (s_gR (pc := 36) rw_214_36 hG50 rfl (v := 103) rfl (to_in (pc := 39) rw_214_39 rfl (s_ialk (pc := 40) rw_214_40 hG50 rfl (n := 40) rfl rfl (A := a.toInt) rfl (by omega) (by omega) (v := r39) (W_e W48) (b_ige (pc := 41) rw_214_41 (A := r39.toInt) rfl (fun h54 => ?_) (fun h54 => ?_)))))
    · refine to_an (pc := 46) rw_214_46 rfl (s_gR (pc := 47) rw_214_47 hG50 rfl (v := 103) rfl (to_in (pc := 50) rw_214_50 rfl (s_ialk (pc := 51) rw_214_51 hG50 rfl (n := 40) rfl rfl (A := a.toInt) rfl (by omega) (by omega) (v := r39) (W_e W48) (to_an (pc := 52) rw_214_52 rfl (s_gR (pc := 53) rw_214_53 hG50 rfl (v := 102) rfl (to_in (pc := 56) rw_214_56 rfl (s_ialk (pc := 57) rw_214_57 hG50 rfl (n := 40) rfl rfl (A := a.toInt) rfl (by omega) (by omega) (v := r4) (W_n W48 (by omega) (F_n F40 (show ¬ (102 = 77 ∧ ((a.toInt).toNat = 4 ∨ (a.toInt).toNat = 5)) by omega) (F_n F24 (show ¬ (102 = 77 ∧ 7 ≤ (a.toInt).toNat ∧ (a.toInt).toNat ≤ 10) by omega) (W_e W13)))) (b_cne (pc := 58) rw_214_58 (A := r39.toInt) (B := r4.toInt) rfl rfl (fun h59 => ?_) (fun h59 => ?_)))))))))
      · refine to_an (pc := 67) rw_214_67 rfl (s_v (pc := 68) rw_214_68 (dp0 hd (by decide)) (ls0 := [.ref 77]) rfl (Nat.le_of_ble_eq_true rfl) (Nat.le_of_ble_eq_true rfl) rfl (to_rc rfl rfl rfl (g_o hG50 rfl)) rfl ?_)
        have c_60 : M49.2.1 77 7 = (M29.2.1 77 7) := (W_n W48 (fun z => absurd z.1 (by decide)) (F_n F40 (show ¬ (77 = 77 ∧ (7 = 4 ∨ 7 = 5)) by decide) rfl))
        have t_61 : (M49.2.1 77 7).toInt = (M29.2.1 77 7).toInt := congrArg Int32.toInt c_60
        have c_62 : M49.2.1 77 6 = (M.2.1 77 6) := (W_n W48 (fun z => absurd z.1 (by decide)) (F_n F40 (show ¬ (77 = 77 ∧ (6 = 4 ∨ 6 = 5)) by decide) c_32))
        have t_63 : (M49.2.1 77 6).toInt = (M.2.1 77 6).toInt := congrArg Int32.toInt c_62
        refine C_156 hX (dp1 hd (by decide)) hG50 (by omega)  (fun M69 hG65 F64 p_66 p_67 p_68 => ?_)
        have F70 := FR.c F51 F64 tg_170
        have b_71 := g_b hG65 (a := 77) (i := 7) (lo := 0) (hi := 500) rfl rfl
        have c_72 : M69.2.1 77 6 = (M.2.1 77 6) := (F_n F64 (show ¬ (77 = 77 ∧ 7 ≤ 6 ∧ 6 ≤ 10) by decide) c_62)
        have t_73 : (M69.2.1 77 6).toInt = (M.2.1 77 6).toInt := congrArg Int32.toInt c_72
        have b_74 := g_b hG65 (a := 77) (i := 8) (lo := 0) (hi := 5) rfl rfl
        refine to_an (pc := 71) rw_214_71 rfl (to_c (pc := 72) rw_214_72 (x := (59 : Int32)) rfl rfl (s_v (pc := 74) rw_214_74 (dp0 hd (by decide)) (ls0 := [.ref 77, .int (59 : Int32)]) rfl (Nat.le_of_ble_eq_true rfl) (Nat.le_of_ble_eq_true rfl) rfl (to_rc rfl rfl rfl (g_o hG65 rfl)) rfl ?_))
        have k_75 : (59 : Int32).toInt = 59 := rfl
        have c_76 : M69.2.1 77 4 = (M46.2.1 77 4) := (F_n F64 (show ¬ (77 = 77 ∧ 7 ≤ 4 ∧ 4 ≤ 10) by decide) (W_n W48 (fun z => absurd z.1 (by decide)) rfl))
        have t_77 : (M69.2.1 77 4).toInt = (M46.2.1 77 4).toInt := congrArg Int32.toInt c_76
        have c_78 : M69.2.1 77 5 = (M46.2.1 77 5) := (F_n F64 (show ¬ (77 = 77 ∧ 7 ≤ 5 ∧ 5 ≤ 10) by decide) (W_n W48 (fun z => absurd z.1 (by decide)) rfl))
        have t_79 : (M69.2.1 77 5).toInt = (M46.2.1 77 5).toInt := congrArg Int32.toInt c_78
        refine C_160 hX (dp1 hd (by decide)) hG65 (by omega) (c := (59 : Int32)) (fun r80 M90 hG82 F81 p_83 p_84 p_85 p_86 p_87 p_88 p_89 => ?_)
        have F91 := FR.c F70 F81 tg_168
        have b_92 := g_b hG82 (a := 77) (i := 7) (lo := 0) (hi := 500) rfl rfl
        have c_93 : M90.2.1 77 6 = (M.2.1 77 6) := (F_n F81 (show ¬ (77 = 77 ∧ (6 = 4 ∨ 6 = 5 ∨ 7 ≤ 6 ∧ 6 ≤ 10)) by decide) c_72)
        have t_94 : (M90.2.1 77 6).toInt = (M.2.1 77 6).toInt := congrArg Int32.toInt c_93
        have b_95 := g_b hG82 (a := 77) (i := 8) (lo := 0) (hi := 5) rfl rfl
        refine s_r1 (pc := 77) rw_214_77 (A := r80.toInt) rfl (by omega) ?_
        have t_96 : (M14.2.1 102 (a.toInt).toNat).toInt = r4.toInt := congrArg Int32.toInt (W_e W13)
        have t_97 : (M90.2.1 102 (a.toInt).toNat).toInt = (M14.2.1 102 (a.toInt).toNat).toInt := congrArg Int32.toInt (F_n F81 (show ¬ (102 = 77 ∧ (((a.toInt).toNat) = 4 ∨ ((a.toInt).toNat) = 5 ∨ 7 ≤ ((a.toInt).toNat) ∧ ((a.toInt).toNat) ≤ 10)) by omega) (F_n F64 (show ¬ (102 = 77 ∧ 7 ≤ ((a.toInt).toNat) ∧ ((a.toInt).toNat) ≤ 10) by omega) (W_n W48 (by omega) (F_n F40 (show ¬ (102 = 77 ∧ (((a.toInt).toNat) = 4 ∨ ((a.toInt).toNat) = 5)) by omega) (F_n F24 (show ¬ (102 = 77 ∧ 7 ≤ ((a.toInt).toNat) ∧ ((a.toInt).toNat) ≤ 10) by omega) rfl)))))
        have t_98 : (M14.2.1 102 (a.toInt).toNat).toInt = r4.toInt := congrArg Int32.toInt (W_e W13)
        have t_99 : (M90.2.1 102 (a.toInt).toNat).toInt = (M14.2.1 102 (a.toInt).toNat).toInt := congrArg Int32.toInt (F_n F81 (show ¬ (102 = 77 ∧ (((a.toInt).toNat) = 4 ∨ ((a.toInt).toNat) = 5 ∨ 7 ≤ ((a.toInt).toNat) ∧ ((a.toInt).toNat) ≤ 10)) by omega) (F_n F64 (show ¬ (102 = 77 ∧ 7 ≤ ((a.toInt).toNat) ∧ ((a.toInt).toNat) ≤ 10) by omega) (W_n W48 (by omega) (F_n F40 (show ¬ (102 = 77 ∧ (((a.toInt).toNat) = 4 ∨ ((a.toInt).toNat) = 5)) by omega) (F_n F24 (show ¬ (102 = 77 ∧ 7 ≤ ((a.toInt).toNat) ∧ ((a.toInt).toNat) ≤ 10) by omega) rfl)))))
        have t_100 : (M49.2.1 103 (a.toInt).toNat).toInt = r39.toInt := congrArg Int32.toInt (W_e W48)
        have t_101 : (M90.2.1 103 (a.toInt).toNat).toInt = (M49.2.1 103 (a.toInt).toNat).toInt := congrArg Int32.toInt (F_n F81 (show ¬ (103 = 77 ∧ (((a.toInt).toNat) = 4 ∨ ((a.toInt).toNat) = 5 ∨ 7 ≤ ((a.toInt).toNat) ∧ ((a.toInt).toNat) ≤ 10)) by omega) (F_n F64 (show ¬ (103 = 77 ∧ 7 ≤ ((a.toInt).toNat) ∧ ((a.toInt).toNat) ≤ 10) by omega) rfl))
        have t_102 : (M49.2.1 103 (a.toInt).toNat).toInt = r39.toInt := congrArg Int32.toInt (W_e W48)
        have t_103 : (M90.2.1 103 (a.toInt).toNat).toInt = (M49.2.1 103 (a.toInt).toNat).toInt := congrArg Int32.toInt (F_n F81 (show ¬ (103 = 77 ∧ (((a.toInt).toNat) = 4 ∨ ((a.toInt).toNat) = 5 ∨ 7 ≤ ((a.toInt).toNat) ∧ ((a.toInt).toNat) ≤ 10)) by omega) (F_n F64 (show ¬ (103 = 77 ∧ 7 ≤ ((a.toInt).toNat) ∧ ((a.toInt).toNat) ≤ 10) by omega) rfl))
        have t_104 : (M14.2.1 102 (a.toInt).toNat).toInt = r4.toInt := congrArg Int32.toInt (W_e W13)
        have t_105 : (M90.2.1 102 (a.toInt).toNat).toInt = (M14.2.1 102 (a.toInt).toNat).toInt := congrArg Int32.toInt (F_n F81 (show ¬ (102 = 77 ∧ (((a.toInt).toNat) = 4 ∨ ((a.toInt).toNat) = 5 ∨ 7 ≤ ((a.toInt).toNat) ∧ ((a.toInt).toNat) ≤ 10)) by omega) (F_n F64 (show ¬ (102 = 77 ∧ 7 ≤ ((a.toInt).toNat) ∧ ((a.toInt).toNat) ≤ 10) by omega) (W_n W48 (by omega) (F_n F40 (show ¬ (102 = 77 ∧ (((a.toInt).toNat) = 4 ∨ ((a.toInt).toNat) = 5)) by omega) (F_n F24 (show ¬ (102 = 77 ∧ 7 ≤ ((a.toInt).toNat) ∧ ((a.toInt).toNat) ≤ 10) by omega) rfl)))))
        exact h r80 M90 hG82 F91 (by omega) (by omega) (by omega) (by omega) (by omega) (by omega) (fun r i z z2 => (F_n F81 (show ¬ (r = 77 ∧ (i = 4 ∨ i = 5 ∨ 7 ≤ i ∧ i ≤ 10)) by omega) (F_n F64 (show ¬ (r = 77 ∧ 7 ≤ i ∧ i ≤ 10) by omega) (W_n W48 (by omega) (F_n F40 (show ¬ (r = 77 ∧ (i = 4 ∨ i = 5)) by omega) (F_n F24 (show ¬ (r = 77 ∧ 7 ≤ i ∧ i ≤ 10) by omega) (W_n W13 (by omega) (F_n F5 (show ¬ (r = 77 ∧ (i = 4 ∨ i = 5)) by omega) rfl)))))))) (by omega)
      · refine to_an (pc := 61) rw_214_61 rfl (to_c (pc := 62) rw_214_62 (x := (3 : Int32)) rfl rfl (s_v (pc := 63) rw_214_63 (dp0 hd (by decide)) (ls0 := [.ref 77, .int (3 : Int32)]) rfl (Nat.le_of_ble_eq_true rfl) (Nat.le_of_ble_eq_true rfl) rfl (to_rc rfl rfl rfl (g_o hG50 rfl)) rfl (to_an (pc := 0) rw_152_0 rfl (to_in (pc := 1) rw_152_1 rfl (s_pI (pc := 2) rw_152_2 hG50 rfl (fun M107 W106 => ?_))))))
        have hG108 := g_wf hG50 W106 rfl rfl (by decide)
        have F109 := FR.w F51 W106 (show 77 = 77 ∧ (4 = 4 ∨ 4 = 5 ∨ 7 ≤ 4 ∧ 4 ≤ 10) ∨ 102 ≤ 77 ∧ 77 ≤ 104 ∨ 77 = 106 ∨ 77 = 107 by decide)
        refine to_an (pc := 5) rw_152_5 rfl (to_an (pc := 6) rw_152_6 rfl ?_)
        have c_110 : M107.2.1 77 10 = (M29.2.1 77 10) := (W_n W106 (by decide) (W_n W48 (fun z => absurd z.1 (by decide)) (F_n F40 (show ¬ (77 = 77 ∧ (10 = 4 ∨ 10 = 5)) by decide) rfl)))
        have b_111 := g_b hG25 (a := 77) (i := 10) (lo := 0) (hi := 500) rfl rfl
        refine tt_gI (pc := 7) rw_152_7 (g_o hG108 rfl) (v := (M29.2.1 77 10)) c_110 (s_pI (pc := 10) rw_152_10 hG108 rfl (fun M113 W112 => ?_))
        have hG114 := g_wf hG108 W112 rfl rfl (by decide)
        have F115 := FR.w F109 W112 (show 77 = 77 ∧ (5 = 4 ∨ 5 = 5 ∨ 7 ≤ 5 ∧ 5 ≤ 10) ∨ 102 ≤ 77 ∧ 77 ≤ 104 ∨ 77 = 106 ∨ 77 = 107 by decide)
        refine to_c (pc := 13) rw_152_13 (x := (0 : Int32)) rfl rfl (s_r1 (pc := 14) rw_152_14 (A := 0) rfl (by decide) (s_r1 (pc := 66) rw_214_66 (A := 0) rfl (by decide) ?_))
        have k_116 : (0 : Int32).toInt = 0 := rfl
        have c_117 : M113.2.1 77 7 = (M29.2.1 77 7) := (W_n W112 (by decide) (W_n W106 (by decide) (W_n W48 (fun z => absurd z.1 (by decide)) (F_n F40 (show ¬ (77 = 77 ∧ (7 = 4 ∨ 7 = 5)) by decide) rfl))))
        have t_118 : (M113.2.1 77 7).toInt = (M29.2.1 77 7).toInt := congrArg Int32.toInt c_117
        have c_119 : M113.2.1 77 6 = (M.2.1 77 6) := (W_n W112 (by decide) (W_n W106 (by decide) (W_n W48 (fun z => absurd z.1 (by decide)) (F_n F40 (show ¬ (77 = 77 ∧ (6 = 4 ∨ 6 = 5)) by decide) c_32))))
        have t_120 : (M113.2.1 77 6).toInt = (M.2.1 77 6).toInt := congrArg Int32.toInt c_119
        have c_121 : M113.2.1 77 8 = (M29.2.1 77 8) := (W_n W112 (by decide) (W_n W106 (by decide) (W_n W48 (fun z => absurd z.1 (by decide)) (F_n F40 (show ¬ (77 = 77 ∧ (8 = 4 ∨ 8 = 5)) by decide) rfl))))
        have t_122 : (M113.2.1 77 8).toInt = (M29.2.1 77 8).toInt := congrArg Int32.toInt c_121
        have t_123 : (M14.2.1 102 (a.toInt).toNat).toInt = r4.toInt := congrArg Int32.toInt (W_e W13)
        have t_124 : (M113.2.1 102 (a.toInt).toNat).toInt = (M14.2.1 102 (a.toInt).toNat).toInt := congrArg Int32.toInt (W_n W112 (by omega) (W_n W106 (by omega) (W_n W48 (by omega) (F_n F40 (show ¬ (102 = 77 ∧ (((a.toInt).toNat) = 4 ∨ ((a.toInt).toNat) = 5)) by omega) (F_n F24 (show ¬ (102 = 77 ∧ 7 ≤ ((a.toInt).toNat) ∧ ((a.toInt).toNat) ≤ 10) by omega) rfl)))))
        have t_125 : (M14.2.1 102 (a.toInt).toNat).toInt = r4.toInt := congrArg Int32.toInt (W_e W13)
        have t_126 : (M113.2.1 102 (a.toInt).toNat).toInt = (M14.2.1 102 (a.toInt).toNat).toInt := congrArg Int32.toInt (W_n W112 (by omega) (W_n W106 (by omega) (W_n W48 (by omega) (F_n F40 (show ¬ (102 = 77 ∧ (((a.toInt).toNat) = 4 ∨ ((a.toInt).toNat) = 5)) by omega) (F_n F24 (show ¬ (102 = 77 ∧ 7 ≤ ((a.toInt).toNat) ∧ ((a.toInt).toNat) ≤ 10) by omega) rfl)))))
        have t_127 : (M49.2.1 103 (a.toInt).toNat).toInt = r39.toInt := congrArg Int32.toInt (W_e W48)
        have t_128 : (M113.2.1 103 (a.toInt).toNat).toInt = (M49.2.1 103 (a.toInt).toNat).toInt := congrArg Int32.toInt (W_n W112 (by omega) (W_n W106 (by omega) rfl))
        have t_129 : (M49.2.1 103 (a.toInt).toNat).toInt = r39.toInt := congrArg Int32.toInt (W_e W48)
        have t_130 : (M113.2.1 103 (a.toInt).toNat).toInt = (M49.2.1 103 (a.toInt).toNat).toInt := congrArg Int32.toInt (W_n W112 (by omega) (W_n W106 (by omega) rfl))
        have t_131 : (M14.2.1 102 (a.toInt).toNat).toInt = r4.toInt := congrArg Int32.toInt (W_e W13)
        have t_132 : (M113.2.1 102 (a.toInt).toNat).toInt = (M14.2.1 102 (a.toInt).toNat).toInt := congrArg Int32.toInt (W_n W112 (by omega) (W_n W106 (by omega) (W_n W48 (by omega) (F_n F40 (show ¬ (102 = 77 ∧ (((a.toInt).toNat) = 4 ∨ ((a.toInt).toNat) = 5)) by omega) (F_n F24 (show ¬ (102 = 77 ∧ 7 ≤ ((a.toInt).toNat) ∧ ((a.toInt).toNat) ≤ 10) by omega) rfl)))))
        have c_133 : M113.2.1 77 4 = (3 : Int32) := (W_n W112 (by decide) (W_e W106))
        have k_134 : (3 : Int32).toInt = 3 := rfl
        have t_135 : (M113.2.1 77 4).toInt = (3 : Int32).toInt := congrArg Int32.toInt c_133
        have c_136 : M113.2.1 77 5 = (M29.2.1 77 10) := (W_e W112)
        have t_137 : (M113.2.1 77 5).toInt = (M29.2.1 77 10).toInt := congrArg Int32.toInt c_136
        exact h (0 : Int32) M113 hG114 F115 (by decide) (by decide) (by omega) (by omega) (by omega) (by omega) (fun r i z z2 => (W_n W112 (by omega) (W_n W106 (by omega) (W_n W48 (by omega) (F_n F40 (show ¬ (r = 77 ∧ (i = 4 ∨ i = 5)) by omega) (F_n F24 (show ¬ (r = 77 ∧ 7 ≤ i ∧ i ≤ 10) by omega) (W_n W13 (by omega) (F_n F5 (show ¬ (r = 77 ∧ (i = 4 ∨ i = 5)) by omega) rfl)))))))) (by omega)
    · refine to_c (pc := 44) rw_214_44 (x := (0 : Int32)) rfl rfl (s_r1 (pc := 45) rw_214_45 (A := 0) rfl (by decide) ?_)
      have k_138 : (0 : Int32).toInt = 0 := rfl
      have c_139 : M49.2.1 77 7 = (M29.2.1 77 7) := (W_n W48 (fun z => absurd z.1 (by decide)) (F_n F40 (show ¬ (77 = 77 ∧ (7 = 4 ∨ 7 = 5)) by decide) rfl))
      have t_140 : (M49.2.1 77 7).toInt = (M29.2.1 77 7).toInt := congrArg Int32.toInt c_139
      have c_141 : M49.2.1 77 6 = (M.2.1 77 6) := (W_n W48 (fun z => absurd z.1 (by decide)) (F_n F40 (show ¬ (77 = 77 ∧ (6 = 4 ∨ 6 = 5)) by decide) c_32))
      have t_142 : (M49.2.1 77 6).toInt = (M.2.1 77 6).toInt := congrArg Int32.toInt c_141
      have c_143 : M49.2.1 77 8 = (M29.2.1 77 8) := (W_n W48 (fun z => absurd z.1 (by decide)) (F_n F40 (show ¬ (77 = 77 ∧ (8 = 4 ∨ 8 = 5)) by decide) rfl))
      have t_144 : (M49.2.1 77 8).toInt = (M29.2.1 77 8).toInt := congrArg Int32.toInt c_143
      have t_145 : (M14.2.1 102 (a.toInt).toNat).toInt = r4.toInt := congrArg Int32.toInt (W_e W13)
      have t_146 : (M49.2.1 102 (a.toInt).toNat).toInt = (M14.2.1 102 (a.toInt).toNat).toInt := congrArg Int32.toInt (W_n W48 (by omega) (F_n F40 (show ¬ (102 = 77 ∧ (((a.toInt).toNat) = 4 ∨ ((a.toInt).toNat) = 5)) by omega) (F_n F24 (show ¬ (102 = 77 ∧ 7 ≤ ((a.toInt).toNat) ∧ ((a.toInt).toNat) ≤ 10) by omega) rfl)))
      have t_147 : (M14.2.1 102 (a.toInt).toNat).toInt = r4.toInt := congrArg Int32.toInt (W_e W13)
      have t_148 : (M49.2.1 102 (a.toInt).toNat).toInt = (M14.2.1 102 (a.toInt).toNat).toInt := congrArg Int32.toInt (W_n W48 (by omega) (F_n F40 (show ¬ (102 = 77 ∧ (((a.toInt).toNat) = 4 ∨ ((a.toInt).toNat) = 5)) by omega) (F_n F24 (show ¬ (102 = 77 ∧ 7 ≤ ((a.toInt).toNat) ∧ ((a.toInt).toNat) ≤ 10) by omega) rfl)))
      have t_149 : (M49.2.1 103 (a.toInt).toNat).toInt = r39.toInt := congrArg Int32.toInt (W_e W48)
      have t_150 : (M49.2.1 103 (a.toInt).toNat).toInt = r39.toInt := congrArg Int32.toInt (W_e W48)
      have t_151 : (M14.2.1 102 (a.toInt).toNat).toInt = r4.toInt := congrArg Int32.toInt (W_e W13)
      have t_152 : (M49.2.1 102 (a.toInt).toNat).toInt = (M14.2.1 102 (a.toInt).toNat).toInt := congrArg Int32.toInt (W_n W48 (by omega) (F_n F40 (show ¬ (102 = 77 ∧ (((a.toInt).toNat) = 4 ∨ ((a.toInt).toNat) = 5)) by omega) (F_n F24 (show ¬ (102 = 77 ∧ 7 ≤ ((a.toInt).toNat) ∧ ((a.toInt).toNat) ≤ 10) by omega) rfl)))
      have c_153 : M49.2.1 77 4 = (M46.2.1 77 4) := (W_n W48 (fun z => absurd z.1 (by decide)) rfl)
      have t_154 : (M49.2.1 77 4).toInt = (M46.2.1 77 4).toInt := congrArg Int32.toInt c_153
      have c_155 : M49.2.1 77 5 = (M46.2.1 77 5) := (W_n W48 (fun z => absurd z.1 (by decide)) rfl)
      have t_156 : (M49.2.1 77 5).toInt = (M46.2.1 77 5).toInt := congrArg Int32.toInt c_155
      exact h (0 : Int32) M49 hG50 F51 (by decide) (by decide) (by omega) (by omega) (by omega) (by omega) (fun r i z z2 => (W_n W48 (by omega) (F_n F40 (show ¬ (r = 77 ∧ (i = 4 ∨ i = 5)) by omega) (F_n F24 (show ¬ (r = 77 ∧ 7 ≤ i ∧ i ≤ 10) by omega) (W_n W13 (by omega) (F_n F5 (show ¬ (r = 77 ∧ (i = 4 ∨ i = 5)) by omega) rfl)))))) (by omega)
  · refine to_c (pc := 19) rw_214_19 (x := (0 : Int32)) rfl rfl (s_r1 (pc := 20) rw_214_20 (A := 0) rfl (by decide) ?_)
    have k_157 : (0 : Int32).toInt = 0 := rfl
    have c_158 : M14.2.1 77 7 = (M.2.1 77 7) := (W_n W13 (fun z => absurd z.1 (by decide)) (F_n F5 (show ¬ (77 = 77 ∧ (7 = 4 ∨ 7 = 5)) by decide) rfl))
    have t_159 : (M14.2.1 77 7).toInt = (M.2.1 77 7).toInt := congrArg Int32.toInt c_158
    have c_160 : M14.2.1 77 6 = (M.2.1 77 6) := (W_n W13 (fun z => absurd z.1 (by decide)) (F_n F5 (show ¬ (77 = 77 ∧ (6 = 4 ∨ 6 = 5)) by decide) rfl))
    have t_161 : (M14.2.1 77 6).toInt = (M.2.1 77 6).toInt := congrArg Int32.toInt c_160
    have c_162 : M14.2.1 77 8 = (M.2.1 77 8) := (W_n W13 (fun z => absurd z.1 (by decide)) (F_n F5 (show ¬ (77 = 77 ∧ (8 = 4 ∨ 8 = 5)) by decide) rfl))
    have t_163 : (M14.2.1 77 8).toInt = (M.2.1 77 8).toInt := congrArg Int32.toInt c_162
    have t_164 : (M14.2.1 102 (a.toInt).toNat).toInt = r4.toInt := congrArg Int32.toInt (W_e W13)
    have t_165 : (M14.2.1 102 (a.toInt).toNat).toInt = r4.toInt := congrArg Int32.toInt (W_e W13)
    have t_166 : (M14.2.1 103 (a.toInt).toNat).toInt = (M.2.1 103 (a.toInt).toNat).toInt := congrArg Int32.toInt (W_n W13 (by omega) (F_n F5 (show ¬ (103 = 77 ∧ (((a.toInt).toNat) = 4 ∨ ((a.toInt).toNat) = 5)) by omega) rfl))
    have t_167 : (M14.2.1 103 (a.toInt).toNat).toInt = (M.2.1 103 (a.toInt).toNat).toInt := congrArg Int32.toInt (W_n W13 (by omega) (F_n F5 (show ¬ (103 = 77 ∧ (((a.toInt).toNat) = 4 ∨ ((a.toInt).toNat) = 5)) by omega) rfl))
    have t_168 : (M14.2.1 102 (a.toInt).toNat).toInt = r4.toInt := congrArg Int32.toInt (W_e W13)
    have c_169 : M14.2.1 77 4 = (M11.2.1 77 4) := (W_n W13 (fun z => absurd z.1 (by decide)) rfl)
    have t_170 : (M14.2.1 77 4).toInt = (M11.2.1 77 4).toInt := congrArg Int32.toInt c_169
    have c_171 : M14.2.1 77 5 = (M11.2.1 77 5) := (W_n W13 (fun z => absurd z.1 (by decide)) rfl)
    have t_172 : (M14.2.1 77 5).toInt = (M11.2.1 77 5).toInt := congrArg Int32.toInt c_171
    exact h (0 : Int32) M14 hG15 F16 (by decide) (by decide) (by omega) (by omega) (by omega) (by omega) (fun r i z z2 => (W_n W13 (by omega) (F_n F5 (show ¬ (r = 77 ∧ (i = 4 ∨ i = 5)) by omega) rfl))) (by omega)
set_option maxRecDepth 4000 in
set_option maxHeartbeats 0 in
theorem C_215 {X : mm_X} {d : Nat} {M : mm_M} {Q : Option Value → mm_M → Prop} (hX : g_X X) (hd : 4 ≤ d) (hG : g_G M) (q1 : (M.2.1 77 7).toInt ≤ (M.2.1 77 6).toInt) (q2 : AB M) (q3 : ST M) (h : ∀ (r : Int32) (M1 : mm_M), g_G M1 → FR md_ac M M1 → (0 ≤ r.toInt) → (r.toInt ≤ 1) → ((M1.2.1 77 7).toInt ≤ (M1.2.1 77 6).toInt) → ((M.2.1 77 7).toInt ≤ (M1.2.1 77 7).toInt) → (r.toInt = 1 → (M1.2.1 77 8).toInt = 0 ∨ (M.2.1 77 7).toInt < (M1.2.1 77 7).toInt) → (r.toInt = 1 → ¬ (M.2.1 77 8).toInt = 0) → (r.toInt = 1 → AB M1) → (r.toInt = 1 → ST M1) → (r.toInt = 1 → (M1.2.1 77 4).toInt = (M.2.1 77 4).toInt ∧ (M1.2.1 77 5).toInt = (M.2.1 77 5).toInt) → Q (some (.int r)) M1) : mm_T X d 214 0 [.ref 77, .null] [] M Q := by
  have F0 : FR md_ac M M := FR.rf
  have b_1 := g_b hG (a := 77) (i := 7) (lo := 0) (hi := 500) rfl rfl
  have b_2 := g_b hG (a := 77) (i := 6) (lo := 0) (hi := 500) rfl rfl
  refine to_an (pc := 0) rw_215_0 rfl (to_c (pc := 1) rw_215_1 (x := (41 : Int32)) rfl rfl (s_v (pc := 3) rw_215_3 (dp0 hd (by decide)) (ls0 := [.ref 77, .int (41 : Int32)]) rfl (Nat.le_of_ble_eq_true rfl) (Nat.le_of_ble_eq_true rfl) rfl (to_rc rfl rfl rfl (g_o hG rfl)) rfl (to_an (pc := 0) rw_159_0 rfl ?_)))
  have b_3 := g_b hG (a := 77) (i := 8) (lo := 0) (hi := 5) rfl rfl
  refine tt_gI (pc := 1) rw_159_1 (g_o hG rfl) (v := (M.2.1 77 8)) rfl (to_c (pc := 4) rw_159_4 (x := (4 : Int32)) rfl rfl (b_cne (pc := 5) rw_159_5 (A := (M.2.1 77 8).toInt) (B := 4) rfl rfl (fun h4 => ?_) (fun h4 => ?_)))
  · refine to_c (pc := 20) rw_159_20 (x := (0 : Int32)) rfl rfl (s_r1 (pc := 21) rw_159_21 (A := 0) rfl (by decide) (b_ieq_t (pc := 6) rw_215_6 (A := 0) rfl (by decide) (to_an (pc := 50) rw_215_50 rfl (tt_gI (pc := 51) rw_215_51 (g_o hG rfl) (v := (M.2.1 77 8)) rfl (to_c (pc := 54) rw_215_54 (x := (1 : Int32)) rfl rfl (b_cne (pc := 55) rw_215_55 (A := (M.2.1 77 8).toInt) (B := 1) rfl rfl (fun h5 => ?_) (fun h5 => ?_)))))))
    · refine to_an (pc := 85) rw_215_85 rfl (to_c (pc := 86) rw_215_86 (x := (1 : Int32)) rfl rfl (s_v (pc := 87) rw_215_87 (dp0 hd (by decide)) (ls0 := [.ref 77, .int (1 : Int32)]) rfl (Nat.le_of_ble_eq_true rfl) (Nat.le_of_ble_eq_true rfl) rfl (to_rc rfl rfl rfl (g_o hG rfl)) rfl (to_an (pc := 0) rw_152_0 rfl (to_in (pc := 1) rw_152_1 rfl (s_pI (pc := 2) rw_152_2 hG rfl (fun M7 W6 => ?_))))))
      have hG8 := g_wf hG W6 rfl rfl (by decide)
      have F9 := FR.w F0 W6 (show 77 = 77 ∧ (4 = 4 ∨ 4 = 5 ∨ 7 ≤ 4 ∧ 4 ≤ 10) ∨ 77 = 77 ∧ (4 = 44 ∨ 4 = 52) ∨ 101 ≤ 77 ∧ 77 ≤ 108 by decide)
      refine to_an (pc := 5) rw_152_5 rfl (to_an (pc := 6) rw_152_6 rfl ?_)
      have c_10 : M7.2.1 77 10 = (M.2.1 77 10) := (W_n W6 (by decide) rfl)
      have b_11 := g_b hG (a := 77) (i := 10) (lo := 0) (hi := 500) rfl rfl
      refine tt_gI (pc := 7) rw_152_7 (g_o hG8 rfl) (v := (M.2.1 77 10)) c_10 (s_pI (pc := 10) rw_152_10 hG8 rfl (fun M13 W12 => ?_))
      have hG14 := g_wf hG8 W12 rfl rfl (by decide)
      have F15 := FR.w F9 W12 (show 77 = 77 ∧ (5 = 4 ∨ 5 = 5 ∨ 7 ≤ 5 ∧ 5 ≤ 10) ∨ 77 = 77 ∧ (5 = 44 ∨ 5 = 52) ∨ 101 ≤ 77 ∧ 77 ≤ 108 by decide)
      refine to_c (pc := 13) rw_152_13 (x := (0 : Int32)) rfl rfl (s_r1 (pc := 14) rw_152_14 (A := 0) rfl (by decide) (s_r1 (pc := 90) rw_215_90 (A := 0) rfl (by decide) ?_))
      have k_16 : (0 : Int32).toInt = 0 := rfl
      have c_17 : M13.2.1 77 7 = (M.2.1 77 7) := (W_n W12 (by decide) (W_n W6 (by decide) rfl))
      have t_18 : (M13.2.1 77 7).toInt = (M.2.1 77 7).toInt := congrArg Int32.toInt c_17
      have c_19 : M13.2.1 77 6 = (M.2.1 77 6) := (W_n W12 (by decide) (W_n W6 (by decide) rfl))
      have t_20 : (M13.2.1 77 6).toInt = (M.2.1 77 6).toInt := congrArg Int32.toInt c_19
      have c_21 : M13.2.1 77 8 = (M.2.1 77 8) := (W_n W12 (by decide) (W_n W6 (by decide) rfl))
      have t_22 : (M13.2.1 77 8).toInt = (M.2.1 77 8).toInt := congrArg Int32.toInt c_21
      have c_23 : M13.2.1 77 4 = (1 : Int32) := (W_n W12 (by decide) (W_e W6))
      have k_24 : (1 : Int32).toInt = 1 := rfl
      have t_25 : (M13.2.1 77 4).toInt = (1 : Int32).toInt := congrArg Int32.toInt c_23
      have c_26 : M13.2.1 77 5 = (M.2.1 77 10) := (W_e W12)
      have t_27 : (M13.2.1 77 5).toInt = (M.2.1 77 10).toInt := congrArg Int32.toInt c_26
      exact h (0 : Int32) M13 hG14 F15 (by decide) (by decide) (by omega) (by omega) (by omega) (by omega) (fun z => absurd z (by omega)) (fun z => absurd z (by omega)) (by omega)
    · refine to_an (pc := 58) rw_215_58 rfl (tt_gI (pc := 59) rw_215_59 (g_o hG rfl) (v := (M.2.1 77 9)) rfl (to_c (pc := 62) rw_215_62 (x := (7 : Int32)) rfl rfl (b_ceq (pc := 64) rw_215_64 (A := (M.2.1 77 9).toInt) (B := 7) rfl rfl (fun h28 => ?_) (fun h28 => ?_))))
      · refine to_an (pc := 91) rw_215_91 rfl ?_
        have b_29 := g_b hG (a := 77) (i := 44) (lo := 0) (hi := 40) rfl rfl
        refine tt_gI (pc := 92) rw_215_92 (g_o hG rfl) (v := (M.2.1 77 44)) rfl (to_c (pc := 95) rw_215_95 (x := (40 : Int32)) rfl rfl (b_cne (pc := 97) rw_215_97 (A := (M.2.1 77 44).toInt) (B := 40) rfl rfl (fun h30 => ?_) (fun h30 => ?_)))
        · refine to_an (pc := 106) rw_215_106 rfl (tt_gI (pc := 107) rw_215_107 (g_o hG rfl) (v := (M.2.1 77 44)) rfl (to_isn (pc := 110) rw_215_110 (ls2 := [.ref 77, .int (M.2.1 77 44)]) rfl rfl (to_an (pc := 111) rw_215_111 rfl (s_gR (pc := 112) rw_215_112 hG rfl (v := 101) rfl (to_in (pc := 115) rw_215_115 rfl (to_an (pc := 116) rw_215_116 rfl (tt_gI (pc := 117) rw_215_117 (g_o hG rfl) (v := (M.2.1 77 9)) rfl (to_c (pc := 120) rw_215_120 (x := (7 : Int32)) rfl rfl (b_cne_f (pc := 122) rw_215_122 (A := (M.2.1 77 9).toInt) (B := 7) rfl rfl (by omega) (to_c (pc := 125) rw_215_125 (x := (0 : Int32)) rfl rfl (to_go (pc := 126) rw_215_126 ?_)))))))))))
          refine s_ias (pc := 143) rw_215_143 hG rfl (n := 40) rfl (A := (M.2.1 77 44).toInt) rfl (by omega) (by omega) (fun M32 W31 => ?_)
          have hG33 := g_w hG W31 (A := 0) rfl (lo := 0) (hi := 2) rfl rfl (by omega) (by decide)
          have F34 := FR.w F0 W31 (show 101 = 77 ∧ (((M.2.1 77 44).toInt).toNat = 4 ∨ ((M.2.1 77 44).toInt).toNat = 5 ∨ 7 ≤ ((M.2.1 77 44).toInt).toNat ∧ ((M.2.1 77 44).toInt).toNat ≤ 10) ∨ 101 = 77 ∧ (((M.2.1 77 44).toInt).toNat = 44 ∨ ((M.2.1 77 44).toInt).toNat = 52) ∨ 101 ≤ 101 ∧ 101 ≤ 108 by omega)
          refine to_an (pc := 144) rw_215_144 rfl (to_dupr (pc := 145) rw_215_145 ?_)
          have c_35 : M32.2.1 77 44 = (M.2.1 77 44) := (W_n W31 (fun z => absurd z.1 (by decide)) rfl)
          refine tt_gI (pc := 146) rw_215_146 (g_o hG33 rfl) (v := (M.2.1 77 44)) c_35 (to_c (pc := 149) rw_215_149 (x := (1 : Int32)) rfl rfl (s_add (pc := 150) rw_215_150 (A := (M.2.1 77 44).toInt) (B := 1) rfl rfl (by omega) (fun v36 e37 => s_pI (pc := 151) rw_215_151 hG33 rfl (fun M39 W38 => ?_))))
          have hG40 := g_w hG33 W38 (A := v36.toInt) rfl (lo := 0) (hi := 40) rfl rfl (by omega) (by decide)
          have F41 := FR.w F34 W38 (show 77 = 77 ∧ (44 = 4 ∨ 44 = 5 ∨ 7 ≤ 44 ∧ 44 ≤ 10) ∨ 77 = 77 ∧ (44 = 44 ∨ 44 = 52) ∨ 101 ≤ 77 ∧ 77 ≤ 108 by decide)
          refine to_an (pc := 154) rw_215_154 rfl (s_v (pc := 155) rw_215_155 (dp0 hd (by decide)) (ls0 := [.ref 77]) rfl (Nat.le_of_ble_eq_true rfl) (Nat.le_of_ble_eq_true rfl) rfl (to_rc rfl rfl rfl (g_o hG40 rfl)) rfl ?_)
          have c_42 : M39.2.1 77 7 = (M.2.1 77 7) := (W_n W38 (by decide) (W_n W31 (fun z => absurd z.1 (by decide)) rfl))
          have t_43 : (M39.2.1 77 7).toInt = (M.2.1 77 7).toInt := congrArg Int32.toInt c_42
          have c_44 : M39.2.1 77 6 = (M.2.1 77 6) := (W_n W38 (by decide) (W_n W31 (fun z => absurd z.1 (by decide)) rfl))
          have t_45 : (M39.2.1 77 6).toInt = (M.2.1 77 6).toInt := congrArg Int32.toInt c_44
          refine C_156 hX (dp1 hd (by decide)) hG40 (by omega)  (fun M51 hG47 F46 p_48 p_49 p_50 => ?_)
          have F52 := FR.c F41 F46 tg_186
          have b_53 := g_b hG47 (a := 77) (i := 7) (lo := 0) (hi := 500) rfl rfl
          have c_54 : M51.2.1 77 6 = (M.2.1 77 6) := (F_n F46 (show ¬ (77 = 77 ∧ 7 ≤ 6 ∧ 6 ≤ 10) by decide) c_44)
          have t_55 : (M51.2.1 77 6).toInt = (M.2.1 77 6).toInt := congrArg Int32.toInt c_54
          have b_56 := g_b hG47 (a := 77) (i := 8) (lo := 0) (hi := 5) rfl rfl
          refine to_an (pc := 158) rw_215_158 rfl (s_gR (pc := 159) rw_215_159 hG47 rfl (v := 101) rfl (to_in (pc := 162) rw_215_162 rfl (s_ialk (pc := 163) rw_215_163 hG47 rfl (n := 40) rfl rfl (A := (M.2.1 77 44).toInt) rfl (by omega) (by omega) (v := (0 : Int32)) (F_n F46 (show ¬ (101 = 77 ∧ 7 ≤ ((M.2.1 77 44).toInt).toNat ∧ ((M.2.1 77 44).toInt).toNat ≤ 10) by omega) (W_n W38 (by omega) (W_e W31))) (b_ine_f (pc := 164) rw_215_164 (A := 0) rfl (by decide) (to_an (pc := 167) rw_215_167 rfl (to_in (pc := 168) rw_215_168 rfl (s_v (pc := 169) rw_215_169 (dp0 hd (by decide)) (ls0 := [.ref 77, .int (M.2.1 77 44)]) rfl (Nat.le_of_ble_eq_true rfl) (Nat.le_of_ble_eq_true rfl) rfl (to_rc rfl rfl rfl (g_o hG47 rfl)) rfl ?_)))))))
          have c_59 : M51.2.1 77 4 = (M.2.1 77 4) := (F_n F46 (show ¬ (77 = 77 ∧ 7 ≤ 4 ∧ 4 ≤ 10) by decide) (W_n W38 (by decide) (W_n W31 (fun z => absurd z.1 (by decide)) rfl)))
          have t_60 : (M51.2.1 77 4).toInt = (M.2.1 77 4).toInt := congrArg Int32.toInt c_59
          have c_61 : M51.2.1 77 5 = (M.2.1 77 5) := (F_n F46 (show ¬ (77 = 77 ∧ 7 ≤ 5 ∧ 5 ≤ 10) by decide) (W_n W38 (by decide) (W_n W31 (fun z => absurd z.1 (by decide)) rfl)))
          have t_62 : (M51.2.1 77 5).toInt = (M.2.1 77 5).toInt := congrArg Int32.toInt c_61
          refine C_213 hX (dp1 hd (by decide)) hG47 (by omega) (by omega) (by omega) (a := (M.2.1 77 44)) (fun r63 M74 hG65 F64 p_66 p_67 p_68 p_69 p_70 p_71 p_72 p_73 => ?_)
          have F75 := FR.c F52 F64 tg_187
          have b_76 := g_b hG65 (a := 77) (i := 7) (lo := 0) (hi := 500) rfl rfl
          have c_77 : M74.2.1 77 6 = (M.2.1 77 6) := (F_n F64 (show ¬ (77 = 77 ∧ (6 = 4 ∨ 6 = 5 ∨ 7 ≤ 6 ∧ 6 ≤ 10) ∨ 102 ≤ 77 ∧ 77 ≤ 104 ∨ 77 = 106 ∨ 77 = 107) by decide) c_54)
          have t_78 : (M74.2.1 77 6).toInt = (M.2.1 77 6).toInt := congrArg Int32.toInt c_77
          have b_79 := g_b hG65 (a := 77) (i := 8) (lo := 0) (hi := 5) rfl rfl
          refine s_r1 (pc := 172) rw_215_172 (A := r63.toInt) rfl (by omega) ?_
          have c_80 : M74.2.1 77 44 = v36 := (F_n F64 (show ¬ (77 = 77 ∧ (44 = 4 ∨ 44 = 5 ∨ 7 ≤ 44 ∧ 44 ≤ 10) ∨ 102 ≤ 77 ∧ 77 ≤ 104 ∨ 77 = 106 ∨ 77 = 107) by decide) (F_n F46 (show ¬ (77 = 77 ∧ 7 ≤ 44 ∧ 44 ≤ 10) by decide) (W_e W38)))
          have t_81 : (M74.2.1 77 44).toInt = v36.toInt := congrArg Int32.toInt c_80
          have c_82 : M74.2.1 77 52 = (M.2.1 77 52) := (F_n F64 (show ¬ (77 = 77 ∧ (52 = 4 ∨ 52 = 5 ∨ 7 ≤ 52 ∧ 52 ≤ 10) ∨ 102 ≤ 77 ∧ 77 ≤ 104 ∨ 77 = 106 ∨ 77 = 107) by decide) (F_n F46 (show ¬ (77 = 77 ∧ 7 ≤ 52 ∧ 52 ≤ 10) by decide) (W_n W38 (by decide) (W_n W31 (fun z => absurd z.1 (by decide)) rfl))))
          have b_83 := g_b hG (a := 77) (i := 52) (lo := 0) (hi := 5) rfl rfl
          have t_84 : (M74.2.1 77 52).toInt = (M.2.1 77 52).toInt := congrArg Int32.toInt c_82
          have t_86 : (M32.2.1 101 ((M.2.1 77 44).toInt).toNat).toInt = (0 : Int32).toInt := congrArg Int32.toInt (W_e W31)
          have k_87 : (0 : Int32).toInt = 0 := rfl
          have t_88 : (M74.2.1 101 ((M.2.1 77 44).toInt).toNat).toInt = (M32.2.1 101 ((M.2.1 77 44).toInt).toNat).toInt := congrArg Int32.toInt (F_n F64 (show ¬ (101 = 77 ∧ ((((M.2.1 77 44).toInt).toNat) = 4 ∨ (((M.2.1 77 44).toInt).toNat) = 5 ∨ 7 ≤ (((M.2.1 77 44).toInt).toNat) ∧ (((M.2.1 77 44).toInt).toNat) ≤ 10) ∨ 102 ≤ 101 ∧ 101 ≤ 104 ∨ 101 = 106 ∨ 101 = 107) by omega) (F_n F46 (show ¬ (101 = 77 ∧ 7 ≤ (((M.2.1 77 44).toInt).toNat) ∧ (((M.2.1 77 44).toInt).toNat) ≤ 10) by omega) (W_n W38 (by omega) rfl)))
          have t_90 : (M32.2.1 101 ((M.2.1 77 44).toInt).toNat).toInt = (0 : Int32).toInt := congrArg Int32.toInt (W_e W31)
          have t_91 : (M74.2.1 101 ((M.2.1 77 44).toInt).toNat).toInt = (M32.2.1 101 ((M.2.1 77 44).toInt).toNat).toInt := congrArg Int32.toInt (F_n F64 (show ¬ (101 = 77 ∧ ((((M.2.1 77 44).toInt).toNat) = 4 ∨ (((M.2.1 77 44).toInt).toNat) = 5 ∨ 7 ≤ (((M.2.1 77 44).toInt).toNat) ∧ (((M.2.1 77 44).toInt).toNat) ≤ 10) ∨ 102 ≤ 101 ∧ 101 ≤ 104 ∨ 101 = 106 ∨ 101 = 107) by omega) (F_n F46 (show ¬ (101 = 77 ∧ 7 ≤ (((M.2.1 77 44).toInt).toNat) ∧ (((M.2.1 77 44).toInt).toNat) ≤ 10) by omega) (W_n W38 (by omega) rfl)))
          exact h r63 M74 hG65 F75 (by omega) (by omega) (by omega) (by omega) (by omega) (by omega) (fun zr => AB_k (M1 := M74) (n := ((M.2.1 77 44).toInt).toNat) q2 (by omega) (by omega) (fun r i z z2 => by
              by_cases e : r = 101
              · subst e; exact (F_n F64 (show ¬ (101 = 77 ∧ (i = 4 ∨ i = 5 ∨ 7 ≤ i ∧ i ≤ 10) ∨ 102 ≤ 101 ∧ 101 ≤ 104 ∨ 101 = 106 ∨ 101 = 107) by omega) (F_n F46 (show ¬ (101 = 77 ∧ 7 ≤ i ∧ i ≤ 10) by omega) (W_n W38 (by omega) (W_n W31 (by omega) rfl))))
              · exact (p_72 r i (by omega) z2).trans (F_n F46 (show ¬ (r = 77 ∧ 7 ≤ i ∧ i ≤ 10) by omega) (W_n W38 (by omega) (W_n W31 (by omega) rfl)))) (by refine ⟨fun _ => ?_, fun _ => ?_, fun _ => ?_⟩ <;> omega)) (fun _ => ST_plain (M1 := M74) (n := ((M.2.1 77 44).toInt).toNat) q3 (by omega) (by omega) (by omega) (fun i z => (F_n F64 (show ¬ (101 = 77 ∧ (i = 4 ∨ i = 5 ∨ 7 ≤ i ∧ i ≤ 10) ∨ 102 ≤ 101 ∧ 101 ≤ 104 ∨ 101 = 106 ∨ 101 = 107) by omega) (F_n F46 (show ¬ (101 = 77 ∧ 7 ≤ i ∧ i ≤ 10) by omega) (W_n W38 (by omega) (W_n W31 (by omega) rfl))))) (by omega) (fun i => (F_n F64 (show ¬ (108 = 77 ∧ (i = 4 ∨ i = 5 ∨ 7 ≤ i ∧ i ≤ 10) ∨ 102 ≤ 108 ∧ 108 ≤ 104 ∨ 108 = 106 ∨ 108 = 107) by omega) (F_n F46 (show ¬ (108 = 77 ∧ 7 ≤ i ∧ i ≤ 10) by omega) (W_n W38 (by omega) (W_n W31 (by omega) rfl))))) (fun i => (F_n F64 (show ¬ (105 = 77 ∧ (i = 4 ∨ i = 5 ∨ 7 ≤ i ∧ i ≤ 10) ∨ 102 ≤ 105 ∧ 105 ≤ 104 ∨ 105 = 106 ∨ 105 = 107) by omega) (F_n F46 (show ¬ (105 = 77 ∧ 7 ≤ i ∧ i ≤ 10) by omega) (W_n W38 (by omega) (W_n W31 (by omega) rfl)))))) (by omega)
        · refine to_an (pc := 100) rw_215_100 rfl (to_c (pc := 101) rw_215_101 (x := (2 : Int32)) rfl rfl (s_v (pc := 102) rw_215_102 (dp0 hd (by decide)) (ls0 := [.ref 77, .int (2 : Int32)]) rfl (Nat.le_of_ble_eq_true rfl) (Nat.le_of_ble_eq_true rfl) rfl (to_rc rfl rfl rfl (g_o hG rfl)) rfl (to_an (pc := 0) rw_152_0 rfl (to_in (pc := 1) rw_152_1 rfl (s_pI (pc := 2) rw_152_2 hG rfl (fun M93 W92 => ?_))))))
          have hG94 := g_wf hG W92 rfl rfl (by decide)
          have F95 := FR.w F0 W92 (show 77 = 77 ∧ (4 = 4 ∨ 4 = 5 ∨ 7 ≤ 4 ∧ 4 ≤ 10) ∨ 77 = 77 ∧ (4 = 44 ∨ 4 = 52) ∨ 101 ≤ 77 ∧ 77 ≤ 108 by decide)
          refine to_an (pc := 5) rw_152_5 rfl (to_an (pc := 6) rw_152_6 rfl ?_)
          have c_96 : M93.2.1 77 10 = (M.2.1 77 10) := (W_n W92 (by decide) rfl)
          have b_97 := g_b hG (a := 77) (i := 10) (lo := 0) (hi := 500) rfl rfl
          refine tt_gI (pc := 7) rw_152_7 (g_o hG94 rfl) (v := (M.2.1 77 10)) c_96 (s_pI (pc := 10) rw_152_10 hG94 rfl (fun M99 W98 => ?_))
          have hG100 := g_wf hG94 W98 rfl rfl (by decide)
          have F101 := FR.w F95 W98 (show 77 = 77 ∧ (5 = 4 ∨ 5 = 5 ∨ 7 ≤ 5 ∧ 5 ≤ 10) ∨ 77 = 77 ∧ (5 = 44 ∨ 5 = 52) ∨ 101 ≤ 77 ∧ 77 ≤ 108 by decide)
          refine to_c (pc := 13) rw_152_13 (x := (0 : Int32)) rfl rfl (s_r1 (pc := 14) rw_152_14 (A := 0) rfl (by decide) (s_r1 (pc := 105) rw_215_105 (A := 0) rfl (by decide) ?_))
          have k_102 : (0 : Int32).toInt = 0 := rfl
          have c_103 : M99.2.1 77 7 = (M.2.1 77 7) := (W_n W98 (by decide) (W_n W92 (by decide) rfl))
          have t_104 : (M99.2.1 77 7).toInt = (M.2.1 77 7).toInt := congrArg Int32.toInt c_103
          have c_105 : M99.2.1 77 6 = (M.2.1 77 6) := (W_n W98 (by decide) (W_n W92 (by decide) rfl))
          have t_106 : (M99.2.1 77 6).toInt = (M.2.1 77 6).toInt := congrArg Int32.toInt c_105
          have c_107 : M99.2.1 77 8 = (M.2.1 77 8) := (W_n W98 (by decide) (W_n W92 (by decide) rfl))
          have t_108 : (M99.2.1 77 8).toInt = (M.2.1 77 8).toInt := congrArg Int32.toInt c_107
          have c_109 : M99.2.1 77 4 = (2 : Int32) := (W_n W98 (by decide) (W_e W92))
          have k_110 : (2 : Int32).toInt = 2 := rfl
          have t_111 : (M99.2.1 77 4).toInt = (2 : Int32).toInt := congrArg Int32.toInt c_109
          have c_112 : M99.2.1 77 5 = (M.2.1 77 10) := (W_e W98)
          have t_113 : (M99.2.1 77 5).toInt = (M.2.1 77 10).toInt := congrArg Int32.toInt c_112
          exact h (0 : Int32) M99 hG100 F101 (by decide) (by decide) (by omega) (by omega) (by omega) (by omega) (fun z => absurd z (by omega)) (fun z => absurd z (by omega)) (by omega)
      · refine to_an (pc := 67) rw_215_67 rfl (tt_gI (pc := 68) rw_215_68 (g_o hG rfl) (v := (M.2.1 77 9)) rfl (to_c (pc := 71) rw_215_71 (x := (10 : Int32)) rfl rfl (b_ceq (pc := 73) rw_215_73 (A := (M.2.1 77 9).toInt) (B := 10) rfl rfl (fun h114 => ?_) (fun h114 => ?_))))
        · refine to_an (pc := 91) rw_215_91 rfl ?_
          have b_115 := g_b hG (a := 77) (i := 44) (lo := 0) (hi := 40) rfl rfl
          refine tt_gI (pc := 92) rw_215_92 (g_o hG rfl) (v := (M.2.1 77 44)) rfl (to_c (pc := 95) rw_215_95 (x := (40 : Int32)) rfl rfl (b_cne (pc := 97) rw_215_97 (A := (M.2.1 77 44).toInt) (B := 40) rfl rfl (fun h116 => ?_) (fun h116 => ?_)))
          · refine to_an (pc := 106) rw_215_106 rfl (tt_gI (pc := 107) rw_215_107 (g_o hG rfl) (v := (M.2.1 77 44)) rfl (to_isn (pc := 110) rw_215_110 (ls2 := [.ref 77, .int (M.2.1 77 44)]) rfl rfl (to_an (pc := 111) rw_215_111 rfl (s_gR (pc := 112) rw_215_112 hG rfl (v := 101) rfl (to_in (pc := 115) rw_215_115 rfl (to_an (pc := 116) rw_215_116 rfl (tt_gI (pc := 117) rw_215_117 (g_o hG rfl) (v := (M.2.1 77 9)) rfl (to_c (pc := 120) rw_215_120 (x := (7 : Int32)) rfl rfl (b_cne_t (pc := 122) rw_215_122 (A := (M.2.1 77 9).toInt) (B := 7) rfl rfl (by omega) (to_an (pc := 129) rw_215_129 rfl (tt_gI (pc := 130) rw_215_130 (g_o hG rfl) (v := (M.2.1 77 9)) rfl ?_)))))))))))
            refine to_c (pc := 133) rw_215_133 (x := (10 : Int32)) rfl rfl (b_cne_f (pc := 135) rw_215_135 (A := (M.2.1 77 9).toInt) (B := 10) rfl rfl (by omega) (to_c (pc := 138) rw_215_138 (x := (1 : Int32)) rfl rfl (to_go (pc := 139) rw_215_139 (s_ias (pc := 143) rw_215_143 hG rfl (n := 40) rfl (A := (M.2.1 77 44).toInt) rfl (by omega) (by omega) (fun M118 W117 => ?_)))))
            have hG119 := g_w hG W117 (A := 1) rfl (lo := 0) (hi := 2) rfl rfl (by omega) (by decide)
            have F120 := FR.w F0 W117 (show 101 = 77 ∧ (((M.2.1 77 44).toInt).toNat = 4 ∨ ((M.2.1 77 44).toInt).toNat = 5 ∨ 7 ≤ ((M.2.1 77 44).toInt).toNat ∧ ((M.2.1 77 44).toInt).toNat ≤ 10) ∨ 101 = 77 ∧ (((M.2.1 77 44).toInt).toNat = 44 ∨ ((M.2.1 77 44).toInt).toNat = 52) ∨ 101 ≤ 101 ∧ 101 ≤ 108 by omega)
            refine to_an (pc := 144) rw_215_144 rfl (to_dupr (pc := 145) rw_215_145 ?_)
            have c_121 : M118.2.1 77 44 = (M.2.1 77 44) := (W_n W117 (fun z => absurd z.1 (by decide)) rfl)
            refine tt_gI (pc := 146) rw_215_146 (g_o hG119 rfl) (v := (M.2.1 77 44)) c_121 (to_c (pc := 149) rw_215_149 (x := (1 : Int32)) rfl rfl (s_add (pc := 150) rw_215_150 (A := (M.2.1 77 44).toInt) (B := 1) rfl rfl (by omega) (fun v122 e123 => s_pI (pc := 151) rw_215_151 hG119 rfl (fun M125 W124 => ?_))))
            have hG126 := g_w hG119 W124 (A := v122.toInt) rfl (lo := 0) (hi := 40) rfl rfl (by omega) (by decide)
            have F127 := FR.w F120 W124 (show 77 = 77 ∧ (44 = 4 ∨ 44 = 5 ∨ 7 ≤ 44 ∧ 44 ≤ 10) ∨ 77 = 77 ∧ (44 = 44 ∨ 44 = 52) ∨ 101 ≤ 77 ∧ 77 ≤ 108 by decide)
            refine to_an (pc := 154) rw_215_154 rfl (s_v (pc := 155) rw_215_155 (dp0 hd (by decide)) (ls0 := [.ref 77]) rfl (Nat.le_of_ble_eq_true rfl) (Nat.le_of_ble_eq_true rfl) rfl (to_rc rfl rfl rfl (g_o hG126 rfl)) rfl ?_)
            have c_128 : M125.2.1 77 7 = (M.2.1 77 7) := (W_n W124 (by decide) (W_n W117 (fun z => absurd z.1 (by decide)) rfl))
            have t_129 : (M125.2.1 77 7).toInt = (M.2.1 77 7).toInt := congrArg Int32.toInt c_128
            have c_130 : M125.2.1 77 6 = (M.2.1 77 6) := (W_n W124 (by decide) (W_n W117 (fun z => absurd z.1 (by decide)) rfl))
            have t_131 : (M125.2.1 77 6).toInt = (M.2.1 77 6).toInt := congrArg Int32.toInt c_130
            refine C_156 hX (dp1 hd (by decide)) hG126 (by omega)  (fun M137 hG133 F132 p_134 p_135 p_136 => ?_)
            have F138 := FR.c F127 F132 tg_186
            have b_139 := g_b hG133 (a := 77) (i := 7) (lo := 0) (hi := 500) rfl rfl
            have c_140 : M137.2.1 77 6 = (M.2.1 77 6) := (F_n F132 (show ¬ (77 = 77 ∧ 7 ≤ 6 ∧ 6 ≤ 10) by decide) c_130)
            have t_141 : (M137.2.1 77 6).toInt = (M.2.1 77 6).toInt := congrArg Int32.toInt c_140
            have b_142 := g_b hG133 (a := 77) (i := 8) (lo := 0) (hi := 5) rfl rfl
            refine to_an (pc := 158) rw_215_158 rfl (s_gR (pc := 159) rw_215_159 hG133 rfl (v := 101) rfl (to_in (pc := 162) rw_215_162 rfl (s_ialk (pc := 163) rw_215_163 hG133 rfl (n := 40) rfl rfl (A := (M.2.1 77 44).toInt) rfl (by omega) (by omega) (v := (1 : Int32)) (F_n F132 (show ¬ (101 = 77 ∧ 7 ≤ ((M.2.1 77 44).toInt).toNat ∧ ((M.2.1 77 44).toInt).toNat ≤ 10) by omega) (W_n W124 (by omega) (W_e W117))) (b_ine_t (pc := 164) rw_215_164 (A := 1) rfl (by decide) (to_an (pc := 173) rw_215_173 rfl (s_gR (pc := 174) rw_215_174 hG133 rfl (v := 101) rfl (to_in (pc := 177) rw_215_177 rfl (s_ialk (pc := 178) rw_215_178 hG133 rfl (n := 40) rfl rfl (A := (M.2.1 77 44).toInt) rfl (by omega) (by omega) (v := (1 : Int32)) (F_n F132 (show ¬ (101 = 77 ∧ 7 ≤ ((M.2.1 77 44).toInt).toNat ∧ ((M.2.1 77 44).toInt).toNat ≤ 10) by omega) (W_n W124 (by omega) (W_e W117))) (to_c (pc := 179) rw_215_179 (x := (1 : Int32)) rfl rfl (b_cne_f (pc := 180) rw_215_180 (A := 1) (B := 1) rfl rfl (by decide) (to_an (pc := 183) rw_215_183 rfl ?_)))))))))))
            refine to_in (pc := 184) rw_215_184 rfl (s_v (pc := 185) rw_215_185 (dp0 hd (by decide)) (ls0 := [.ref 77, .int (M.2.1 77 44)]) rfl (Nat.le_of_ble_eq_true rfl) (Nat.le_of_ble_eq_true rfl) rfl (to_rc rfl rfl rfl (g_o hG133 rfl)) rfl ?_)
            have c_147 : M137.2.1 77 4 = (M.2.1 77 4) := (F_n F132 (show ¬ (77 = 77 ∧ 7 ≤ 4 ∧ 4 ≤ 10) by decide) (W_n W124 (by decide) (W_n W117 (fun z => absurd z.1 (by decide)) rfl)))
            have t_148 : (M137.2.1 77 4).toInt = (M.2.1 77 4).toInt := congrArg Int32.toInt c_147
            have c_149 : M137.2.1 77 5 = (M.2.1 77 5) := (F_n F132 (show ¬ (77 = 77 ∧ 7 ≤ 5 ∧ 5 ≤ 10) by decide) (W_n W124 (by decide) (W_n W117 (fun z => absurd z.1 (by decide)) rfl)))
            have t_150 : (M137.2.1 77 5).toInt = (M.2.1 77 5).toInt := congrArg Int32.toInt c_149
            refine C_214 hX (dp1 hd (by decide)) hG133 (by omega) (by omega) (by omega) (a := (M.2.1 77 44)) (fun r151 M162 hG153 F152 p_154 p_155 p_156 p_157 p_158 p_159 p_160 p_161 => ?_)
            have F163 := FR.c F138 F152 tg_187
            have b_164 := g_b hG153 (a := 77) (i := 7) (lo := 0) (hi := 500) rfl rfl
            have c_165 : M162.2.1 77 6 = (M.2.1 77 6) := (F_n F152 (show ¬ (77 = 77 ∧ (6 = 4 ∨ 6 = 5 ∨ 7 ≤ 6 ∧ 6 ≤ 10) ∨ 102 ≤ 77 ∧ 77 ≤ 104 ∨ 77 = 106 ∨ 77 = 107) by decide) c_140)
            have t_166 : (M162.2.1 77 6).toInt = (M.2.1 77 6).toInt := congrArg Int32.toInt c_165
            have b_167 := g_b hG153 (a := 77) (i := 8) (lo := 0) (hi := 5) rfl rfl
            refine s_r1 (pc := 188) rw_215_188 (A := r151.toInt) rfl (by omega) ?_
            have c_168 : M162.2.1 77 44 = v122 := (F_n F152 (show ¬ (77 = 77 ∧ (44 = 4 ∨ 44 = 5 ∨ 7 ≤ 44 ∧ 44 ≤ 10) ∨ 102 ≤ 77 ∧ 77 ≤ 104 ∨ 77 = 106 ∨ 77 = 107) by decide) (F_n F132 (show ¬ (77 = 77 ∧ 7 ≤ 44 ∧ 44 ≤ 10) by decide) (W_e W124)))
            have t_169 : (M162.2.1 77 44).toInt = v122.toInt := congrArg Int32.toInt c_168
            have c_170 : M162.2.1 77 52 = (M.2.1 77 52) := (F_n F152 (show ¬ (77 = 77 ∧ (52 = 4 ∨ 52 = 5 ∨ 7 ≤ 52 ∧ 52 ≤ 10) ∨ 102 ≤ 77 ∧ 77 ≤ 104 ∨ 77 = 106 ∨ 77 = 107) by decide) (F_n F132 (show ¬ (77 = 77 ∧ 7 ≤ 52 ∧ 52 ≤ 10) by decide) (W_n W124 (by decide) (W_n W117 (fun z => absurd z.1 (by decide)) rfl))))
            have b_171 := g_b hG (a := 77) (i := 52) (lo := 0) (hi := 5) rfl rfl
            have t_172 : (M162.2.1 77 52).toInt = (M.2.1 77 52).toInt := congrArg Int32.toInt c_170
            have t_174 : (M118.2.1 101 ((M.2.1 77 44).toInt).toNat).toInt = (1 : Int32).toInt := congrArg Int32.toInt (W_e W117)
            have k_175 : (1 : Int32).toInt = 1 := rfl
            have t_176 : (M162.2.1 101 ((M.2.1 77 44).toInt).toNat).toInt = (M118.2.1 101 ((M.2.1 77 44).toInt).toNat).toInt := congrArg Int32.toInt (F_n F152 (show ¬ (101 = 77 ∧ ((((M.2.1 77 44).toInt).toNat) = 4 ∨ (((M.2.1 77 44).toInt).toNat) = 5 ∨ 7 ≤ (((M.2.1 77 44).toInt).toNat) ∧ (((M.2.1 77 44).toInt).toNat) ≤ 10) ∨ 102 ≤ 101 ∧ 101 ≤ 104 ∨ 101 = 106 ∨ 101 = 107) by omega) (F_n F132 (show ¬ (101 = 77 ∧ 7 ≤ (((M.2.1 77 44).toInt).toNat) ∧ (((M.2.1 77 44).toInt).toNat) ≤ 10) by omega) (W_n W124 (by omega) rfl)))
            have t_178 : (M118.2.1 101 ((M.2.1 77 44).toInt).toNat).toInt = (1 : Int32).toInt := congrArg Int32.toInt (W_e W117)
            have t_179 : (M162.2.1 101 ((M.2.1 77 44).toInt).toNat).toInt = (M118.2.1 101 ((M.2.1 77 44).toInt).toNat).toInt := congrArg Int32.toInt (F_n F152 (show ¬ (101 = 77 ∧ ((((M.2.1 77 44).toInt).toNat) = 4 ∨ (((M.2.1 77 44).toInt).toNat) = 5 ∨ 7 ≤ (((M.2.1 77 44).toInt).toNat) ∧ (((M.2.1 77 44).toInt).toNat) ≤ 10) ∨ 102 ≤ 101 ∧ 101 ≤ 104 ∨ 101 = 106 ∨ 101 = 107) by omega) (F_n F132 (show ¬ (101 = 77 ∧ 7 ≤ (((M.2.1 77 44).toInt).toNat) ∧ (((M.2.1 77 44).toInt).toNat) ≤ 10) by omega) (W_n W124 (by omega) rfl)))
            exact h r151 M162 hG153 F163 (by omega) (by omega) (by omega) (by omega) (by omega) (by omega) (fun zr => AB_k (M1 := M162) (n := ((M.2.1 77 44).toInt).toNat) q2 (by omega) (by omega) (fun r i z z2 => by
                by_cases e : r = 101
                · subst e; exact (F_n F152 (show ¬ (101 = 77 ∧ (i = 4 ∨ i = 5 ∨ 7 ≤ i ∧ i ≤ 10) ∨ 102 ≤ 101 ∧ 101 ≤ 104 ∨ 101 = 106 ∨ 101 = 107) by omega) (F_n F132 (show ¬ (101 = 77 ∧ 7 ≤ i ∧ i ≤ 10) by omega) (W_n W124 (by omega) (W_n W117 (by omega) rfl))))
                · exact (p_160 r i (by omega) z2).trans (F_n F132 (show ¬ (r = 77 ∧ 7 ≤ i ∧ i ≤ 10) by omega) (W_n W124 (by omega) (W_n W117 (by omega) rfl)))) (by refine ⟨fun _ => ?_, fun _ => ?_, fun _ => ?_⟩ <;> omega)) (fun _ => ST_plain (M1 := M162) (n := ((M.2.1 77 44).toInt).toNat) q3 (by omega) (by omega) (by omega) (fun i z => (F_n F152 (show ¬ (101 = 77 ∧ (i = 4 ∨ i = 5 ∨ 7 ≤ i ∧ i ≤ 10) ∨ 102 ≤ 101 ∧ 101 ≤ 104 ∨ 101 = 106 ∨ 101 = 107) by omega) (F_n F132 (show ¬ (101 = 77 ∧ 7 ≤ i ∧ i ≤ 10) by omega) (W_n W124 (by omega) (W_n W117 (by omega) rfl))))) (by omega) (fun i => (F_n F152 (show ¬ (108 = 77 ∧ (i = 4 ∨ i = 5 ∨ 7 ≤ i ∧ i ≤ 10) ∨ 102 ≤ 108 ∧ 108 ≤ 104 ∨ 108 = 106 ∨ 108 = 107) by omega) (F_n F132 (show ¬ (108 = 77 ∧ 7 ≤ i ∧ i ≤ 10) by omega) (W_n W124 (by omega) (W_n W117 (by omega) rfl))))) (fun i => (F_n F152 (show ¬ (105 = 77 ∧ (i = 4 ∨ i = 5 ∨ 7 ≤ i ∧ i ≤ 10) ∨ 102 ≤ 105 ∧ 105 ≤ 104 ∨ 105 = 106 ∨ 105 = 107) by omega) (F_n F132 (show ¬ (105 = 77 ∧ 7 ≤ i ∧ i ≤ 10) by omega) (W_n W124 (by omega) (W_n W117 (by omega) rfl)))))) (by omega)
          · refine to_an (pc := 100) rw_215_100 rfl (to_c (pc := 101) rw_215_101 (x := (2 : Int32)) rfl rfl (s_v (pc := 102) rw_215_102 (dp0 hd (by decide)) (ls0 := [.ref 77, .int (2 : Int32)]) rfl (Nat.le_of_ble_eq_true rfl) (Nat.le_of_ble_eq_true rfl) rfl (to_rc rfl rfl rfl (g_o hG rfl)) rfl (to_an (pc := 0) rw_152_0 rfl (to_in (pc := 1) rw_152_1 rfl (s_pI (pc := 2) rw_152_2 hG rfl (fun M181 W180 => ?_))))))
            have hG182 := g_wf hG W180 rfl rfl (by decide)
            have F183 := FR.w F0 W180 (show 77 = 77 ∧ (4 = 4 ∨ 4 = 5 ∨ 7 ≤ 4 ∧ 4 ≤ 10) ∨ 77 = 77 ∧ (4 = 44 ∨ 4 = 52) ∨ 101 ≤ 77 ∧ 77 ≤ 108 by decide)
            refine to_an (pc := 5) rw_152_5 rfl (to_an (pc := 6) rw_152_6 rfl ?_)
            have c_184 : M181.2.1 77 10 = (M.2.1 77 10) := (W_n W180 (by decide) rfl)
            have b_185 := g_b hG (a := 77) (i := 10) (lo := 0) (hi := 500) rfl rfl
            refine tt_gI (pc := 7) rw_152_7 (g_o hG182 rfl) (v := (M.2.1 77 10)) c_184 (s_pI (pc := 10) rw_152_10 hG182 rfl (fun M187 W186 => ?_))
            have hG188 := g_wf hG182 W186 rfl rfl (by decide)
            have F189 := FR.w F183 W186 (show 77 = 77 ∧ (5 = 4 ∨ 5 = 5 ∨ 7 ≤ 5 ∧ 5 ≤ 10) ∨ 77 = 77 ∧ (5 = 44 ∨ 5 = 52) ∨ 101 ≤ 77 ∧ 77 ≤ 108 by decide)
            refine to_c (pc := 13) rw_152_13 (x := (0 : Int32)) rfl rfl (s_r1 (pc := 14) rw_152_14 (A := 0) rfl (by decide) (s_r1 (pc := 105) rw_215_105 (A := 0) rfl (by decide) ?_))
            have k_190 : (0 : Int32).toInt = 0 := rfl
            have c_191 : M187.2.1 77 7 = (M.2.1 77 7) := (W_n W186 (by decide) (W_n W180 (by decide) rfl))
            have t_192 : (M187.2.1 77 7).toInt = (M.2.1 77 7).toInt := congrArg Int32.toInt c_191
            have c_193 : M187.2.1 77 6 = (M.2.1 77 6) := (W_n W186 (by decide) (W_n W180 (by decide) rfl))
            have t_194 : (M187.2.1 77 6).toInt = (M.2.1 77 6).toInt := congrArg Int32.toInt c_193
            have c_195 : M187.2.1 77 8 = (M.2.1 77 8) := (W_n W186 (by decide) (W_n W180 (by decide) rfl))
            have t_196 : (M187.2.1 77 8).toInt = (M.2.1 77 8).toInt := congrArg Int32.toInt c_195
            have c_197 : M187.2.1 77 4 = (2 : Int32) := (W_n W186 (by decide) (W_e W180))
            have k_198 : (2 : Int32).toInt = 2 := rfl
            have t_199 : (M187.2.1 77 4).toInt = (2 : Int32).toInt := congrArg Int32.toInt c_197
            have c_200 : M187.2.1 77 5 = (M.2.1 77 10) := (W_e W186)
            have t_201 : (M187.2.1 77 5).toInt = (M.2.1 77 10).toInt := congrArg Int32.toInt c_200
            exact h (0 : Int32) M187 hG188 F189 (by decide) (by decide) (by omega) (by omega) (by omega) (by omega) (fun z => absurd z (by omega)) (fun z => absurd z (by omega)) (by omega)
        · refine to_an (pc := 76) rw_215_76 rfl (tt_gI (pc := 77) rw_215_77 (g_o hG rfl) (v := (M.2.1 77 9)) rfl (to_c (pc := 80) rw_215_80 (x := (11 : Int32)) rfl rfl (b_ceq (pc := 82) rw_215_82 (A := (M.2.1 77 9).toInt) (B := 11) rfl rfl (fun h202 => ?_) (fun h202 => ?_))))
          · refine to_an (pc := 91) rw_215_91 rfl ?_
            have b_203 := g_b hG (a := 77) (i := 44) (lo := 0) (hi := 40) rfl rfl
            refine tt_gI (pc := 92) rw_215_92 (g_o hG rfl) (v := (M.2.1 77 44)) rfl (to_c (pc := 95) rw_215_95 (x := (40 : Int32)) rfl rfl (b_cne (pc := 97) rw_215_97 (A := (M.2.1 77 44).toInt) (B := 40) rfl rfl (fun h204 => ?_) (fun h204 => ?_)))
            · refine to_an (pc := 106) rw_215_106 rfl (tt_gI (pc := 107) rw_215_107 (g_o hG rfl) (v := (M.2.1 77 44)) rfl (to_isn (pc := 110) rw_215_110 (ls2 := [.ref 77, .int (M.2.1 77 44)]) rfl rfl (to_an (pc := 111) rw_215_111 rfl (s_gR (pc := 112) rw_215_112 hG rfl (v := 101) rfl (to_in (pc := 115) rw_215_115 rfl (to_an (pc := 116) rw_215_116 rfl (tt_gI (pc := 117) rw_215_117 (g_o hG rfl) (v := (M.2.1 77 9)) rfl (to_c (pc := 120) rw_215_120 (x := (7 : Int32)) rfl rfl (b_cne_t (pc := 122) rw_215_122 (A := (M.2.1 77 9).toInt) (B := 7) rfl rfl (by omega) (to_an (pc := 129) rw_215_129 rfl (tt_gI (pc := 130) rw_215_130 (g_o hG rfl) (v := (M.2.1 77 9)) rfl ?_)))))))))))
              refine to_c (pc := 133) rw_215_133 (x := (10 : Int32)) rfl rfl (b_cne_t (pc := 135) rw_215_135 (A := (M.2.1 77 9).toInt) (B := 10) rfl rfl (by omega) (to_c (pc := 142) rw_215_142 (x := (2 : Int32)) rfl rfl (s_ias (pc := 143) rw_215_143 hG rfl (n := 40) rfl (A := (M.2.1 77 44).toInt) rfl (by omega) (by omega) (fun M206 W205 => ?_))))
              have hG207 := g_w hG W205 (A := 2) rfl (lo := 0) (hi := 2) rfl rfl (by omega) (by decide)
              have F208 := FR.w F0 W205 (show 101 = 77 ∧ (((M.2.1 77 44).toInt).toNat = 4 ∨ ((M.2.1 77 44).toInt).toNat = 5 ∨ 7 ≤ ((M.2.1 77 44).toInt).toNat ∧ ((M.2.1 77 44).toInt).toNat ≤ 10) ∨ 101 = 77 ∧ (((M.2.1 77 44).toInt).toNat = 44 ∨ ((M.2.1 77 44).toInt).toNat = 52) ∨ 101 ≤ 101 ∧ 101 ≤ 108 by omega)
              refine to_an (pc := 144) rw_215_144 rfl (to_dupr (pc := 145) rw_215_145 ?_)
              have c_209 : M206.2.1 77 44 = (M.2.1 77 44) := (W_n W205 (fun z => absurd z.1 (by decide)) rfl)
              refine tt_gI (pc := 146) rw_215_146 (g_o hG207 rfl) (v := (M.2.1 77 44)) c_209 (to_c (pc := 149) rw_215_149 (x := (1 : Int32)) rfl rfl (s_add (pc := 150) rw_215_150 (A := (M.2.1 77 44).toInt) (B := 1) rfl rfl (by omega) (fun v210 e211 => s_pI (pc := 151) rw_215_151 hG207 rfl (fun M213 W212 => ?_))))
              have hG214 := g_w hG207 W212 (A := v210.toInt) rfl (lo := 0) (hi := 40) rfl rfl (by omega) (by decide)
              have F215 := FR.w F208 W212 (show 77 = 77 ∧ (44 = 4 ∨ 44 = 5 ∨ 7 ≤ 44 ∧ 44 ≤ 10) ∨ 77 = 77 ∧ (44 = 44 ∨ 44 = 52) ∨ 101 ≤ 77 ∧ 77 ≤ 108 by decide)
              refine to_an (pc := 154) rw_215_154 rfl (s_v (pc := 155) rw_215_155 (dp0 hd (by decide)) (ls0 := [.ref 77]) rfl (Nat.le_of_ble_eq_true rfl) (Nat.le_of_ble_eq_true rfl) rfl (to_rc rfl rfl rfl (g_o hG214 rfl)) rfl ?_)
              have c_216 : M213.2.1 77 7 = (M.2.1 77 7) := (W_n W212 (by decide) (W_n W205 (fun z => absurd z.1 (by decide)) rfl))
              have t_217 : (M213.2.1 77 7).toInt = (M.2.1 77 7).toInt := congrArg Int32.toInt c_216
              have c_218 : M213.2.1 77 6 = (M.2.1 77 6) := (W_n W212 (by decide) (W_n W205 (fun z => absurd z.1 (by decide)) rfl))
              have t_219 : (M213.2.1 77 6).toInt = (M.2.1 77 6).toInt := congrArg Int32.toInt c_218
              refine C_156 hX (dp1 hd (by decide)) hG214 (by omega)  (fun M225 hG221 F220 p_222 p_223 p_224 => ?_)
              have F226 := FR.c F215 F220 tg_186
              have b_227 := g_b hG221 (a := 77) (i := 7) (lo := 0) (hi := 500) rfl rfl
              have c_228 : M225.2.1 77 6 = (M.2.1 77 6) := (F_n F220 (show ¬ (77 = 77 ∧ 7 ≤ 6 ∧ 6 ≤ 10) by decide) c_218)
              have t_229 : (M225.2.1 77 6).toInt = (M.2.1 77 6).toInt := congrArg Int32.toInt c_228
              have b_230 := g_b hG221 (a := 77) (i := 8) (lo := 0) (hi := 5) rfl rfl
              refine to_an (pc := 158) rw_215_158 rfl (s_gR (pc := 159) rw_215_159 hG221 rfl (v := 101) rfl (to_in (pc := 162) rw_215_162 rfl (s_ialk (pc := 163) rw_215_163 hG221 rfl (n := 40) rfl rfl (A := (M.2.1 77 44).toInt) rfl (by omega) (by omega) (v := (2 : Int32)) (F_n F220 (show ¬ (101 = 77 ∧ 7 ≤ ((M.2.1 77 44).toInt).toNat ∧ ((M.2.1 77 44).toInt).toNat ≤ 10) by omega) (W_n W212 (by omega) (W_e W205))) (b_ine_t (pc := 164) rw_215_164 (A := 2) rfl (by decide) (to_an (pc := 173) rw_215_173 rfl (s_gR (pc := 174) rw_215_174 hG221 rfl (v := 101) rfl (to_in (pc := 177) rw_215_177 rfl (s_ialk (pc := 178) rw_215_178 hG221 rfl (n := 40) rfl rfl (A := (M.2.1 77 44).toInt) rfl (by omega) (by omega) (v := (2 : Int32)) (F_n F220 (show ¬ (101 = 77 ∧ 7 ≤ ((M.2.1 77 44).toInt).toNat ∧ ((M.2.1 77 44).toInt).toNat ≤ 10) by omega) (W_n W212 (by omega) (W_e W205))) (to_c (pc := 179) rw_215_179 (x := (1 : Int32)) rfl rfl (b_cne_t (pc := 180) rw_215_180 (A := 2) (B := 1) rfl rfl (by decide) (to_an (pc := 189) rw_215_189 rfl ?_)))))))))))
              refine to_c (pc := 190) rw_215_190 (x := (0 : Int32)) rfl rfl (to_c (pc := 191) rw_215_191 (x := (99 : Int32)) rfl rfl (s_v (pc := 193) rw_215_193 (dp0 hd (by decide)) (ls0 := [.ref 77, .int (0 : Int32), .int (99 : Int32)]) rfl (Nat.le_of_ble_eq_true rfl) (Nat.le_of_ble_eq_true rfl) rfl (to_rc rfl rfl rfl (g_o hG221 rfl)) rfl (to_an (pc := 0) rw_162_0 rfl (tt_gI (pc := 1) rw_162_1 (g_o hG221 rfl) (v := (M225.2.1 77 8)) rfl (to_c (pc := 4) rw_162_4 (x := (3 : Int32)) rfl rfl (b_ceq (pc := 5) rw_162_5 (A := (M225.2.1 77 8).toInt) (B := 3) rfl rfl (fun h235 => ?_) (fun h235 => ?_)))))))
              · refine to_an (pc := 14) rw_162_14 rfl (tt_gI (pc := 15) rw_162_15 (g_o hG221 rfl) (v := (M225.2.1 77 9)) rfl (to_in (pc := 18) rw_162_18 rfl (b_clt (pc := 19) rw_162_19 (A := (M225.2.1 77 9).toInt) (B := 0) rfl rfl (fun h236 => ?_) (fun h236 => ?_))))
                · refine to_an (pc := 30) rw_162_30 rfl (to_c (pc := 31) rw_162_31 (x := (2 : Int32)) rfl rfl (s_v (pc := 32) rw_162_32 (dp1 hd (by decide)) (ls0 := [.ref 77, .int (2 : Int32)]) rfl (Nat.le_of_ble_eq_true rfl) (Nat.le_of_ble_eq_true rfl) rfl (to_rc rfl rfl rfl (g_o hG221 rfl)) rfl (to_an (pc := 0) rw_152_0 rfl (to_in (pc := 1) rw_152_1 rfl (s_pI (pc := 2) rw_152_2 hG221 rfl (fun M238 W237 => ?_))))))
                  have hG239 := g_wf hG221 W237 rfl rfl (by decide)
                  have F240 := FR.w F226 W237 (show 77 = 77 ∧ (4 = 4 ∨ 4 = 5 ∨ 7 ≤ 4 ∧ 4 ≤ 10) ∨ 77 = 77 ∧ (4 = 44 ∨ 4 = 52) ∨ 101 ≤ 77 ∧ 77 ≤ 108 by decide)
                  refine to_an (pc := 5) rw_152_5 rfl (to_an (pc := 6) rw_152_6 rfl ?_)
                  have c_241 : M238.2.1 77 10 = (M225.2.1 77 10) := (W_n W237 (by decide) rfl)
                  have b_242 := g_b hG221 (a := 77) (i := 10) (lo := 0) (hi := 500) rfl rfl
                  refine tt_gI (pc := 7) rw_152_7 (g_o hG239 rfl) (v := (M225.2.1 77 10)) c_241 (s_pI (pc := 10) rw_152_10 hG239 rfl (fun M244 W243 => ?_))
                  have hG245 := g_wf hG239 W243 rfl rfl (by decide)
                  have F246 := FR.w F240 W243 (show 77 = 77 ∧ (5 = 4 ∨ 5 = 5 ∨ 7 ≤ 5 ∧ 5 ≤ 10) ∨ 77 = 77 ∧ (5 = 44 ∨ 5 = 52) ∨ 101 ≤ 77 ∧ 77 ≤ 108 by decide)
                  refine to_c (pc := 13) rw_152_13 (x := (0 : Int32)) rfl rfl (s_r1 (pc := 14) rw_152_14 (A := 0) rfl (by decide) (b_ieq_t (pc := 35) rw_162_35 (A := 0) rfl (by decide) (to_c (pc := 42) rw_162_42 (x := (0 : Int32)) rfl rfl (s_r1 (pc := 43) rw_162_43 (A := 0) rfl (by decide) (b_ine_f (pc := 196) rw_215_196 (A := 0) rfl (by decide) (to_c (pc := 199) rw_215_199 (x := (0 : Int32)) rfl rfl (s_r1 (pc := 200) rw_215_200 (A := 0) rfl (by decide) ?_)))))))
                  have k_247 : (0 : Int32).toInt = 0 := rfl
                  have c_248 : M244.2.1 77 7 = (M225.2.1 77 7) := (W_n W243 (by decide) (W_n W237 (by decide) rfl))
                  have t_249 : (M244.2.1 77 7).toInt = (M225.2.1 77 7).toInt := congrArg Int32.toInt c_248
                  have c_250 : M244.2.1 77 6 = (M.2.1 77 6) := (W_n W243 (by decide) (W_n W237 (by decide) c_228))
                  have t_251 : (M244.2.1 77 6).toInt = (M.2.1 77 6).toInt := congrArg Int32.toInt c_250
                  have c_252 : M244.2.1 77 8 = (M225.2.1 77 8) := (W_n W243 (by decide) (W_n W237 (by decide) rfl))
                  have t_253 : (M244.2.1 77 8).toInt = (M225.2.1 77 8).toInt := congrArg Int32.toInt c_252
                  have c_254 : M244.2.1 77 4 = (2 : Int32) := (W_n W243 (by decide) (W_e W237))
                  have k_255 : (2 : Int32).toInt = 2 := rfl
                  have t_256 : (M244.2.1 77 4).toInt = (2 : Int32).toInt := congrArg Int32.toInt c_254
                  have c_257 : M244.2.1 77 5 = (M225.2.1 77 10) := (W_e W243)
                  have t_258 : (M244.2.1 77 5).toInt = (M225.2.1 77 10).toInt := congrArg Int32.toInt c_257
                  exact h (0 : Int32) M244 hG245 F246 (by decide) (by decide) (by omega) (by omega) (by omega) (by omega) (fun z => absurd z (by omega)) (fun z => absurd z (by omega)) (by omega)
                · refine to_an (pc := 22) rw_162_22 rfl (tt_gI (pc := 23) rw_162_23 (g_o hG221 rfl) (v := (M225.2.1 77 9)) rfl (to_in (pc := 26) rw_162_26 rfl (b_cle (pc := 27) rw_162_27 (A := (M225.2.1 77 9).toInt) (B := 99) rfl rfl (fun h259 => ?_) (fun h259 => ?_))))
                  · refine to_c (pc := 38) rw_162_38 (x := (1 : Int32)) rfl rfl (to_go (pc := 39) rw_162_39 (s_r1 (pc := 43) rw_162_43 (A := 1) rfl (by decide) (b_ine_t (pc := 196) rw_215_196 (A := 1) rfl (by decide) (to_an (pc := 201) rw_215_201 rfl (s_gR (pc := 202) rw_215_202 hG221 rfl (v := 102) rfl (to_in (pc := 205) rw_215_205 rfl (to_an (pc := 206) rw_215_206 rfl (tt_gI (pc := 207) rw_215_207 (g_o hG221 rfl) (v := (M225.2.1 77 9)) rfl (s_ias (pc := 210) rw_215_210 hG221 rfl (n := 40) rfl (A := (M.2.1 77 44).toInt) rfl (by omega) (by omega) (fun M261 W260 => ?_))))))))))
                    have hG262 := g_w hG221 W260 (A := (M225.2.1 77 9).toInt) rfl (lo := -1) (hi := 99) rfl rfl (by omega) (by decide)
                    have F263 := FR.w F226 W260 (show 102 = 77 ∧ (((M.2.1 77 44).toInt).toNat = 4 ∨ ((M.2.1 77 44).toInt).toNat = 5 ∨ 7 ≤ ((M.2.1 77 44).toInt).toNat ∧ ((M.2.1 77 44).toInt).toNat ≤ 10) ∨ 102 = 77 ∧ (((M.2.1 77 44).toInt).toNat = 44 ∨ ((M.2.1 77 44).toInt).toNat = 52) ∨ 101 ≤ 102 ∧ 102 ≤ 108 by omega)
                    refine to_an (pc := 211) rw_215_211 rfl (s_v (pc := 212) rw_215_212 (dp0 hd (by decide)) (ls0 := [.ref 77]) rfl (Nat.le_of_ble_eq_true rfl) (Nat.le_of_ble_eq_true rfl) rfl (to_rc rfl rfl rfl (g_o hG262 rfl)) rfl ?_)
                    have c_264 : M261.2.1 77 7 = (M225.2.1 77 7) := (W_n W260 (fun z => absurd z.1 (by decide)) rfl)
                    have t_265 : (M261.2.1 77 7).toInt = (M225.2.1 77 7).toInt := congrArg Int32.toInt c_264
                    have c_266 : M261.2.1 77 6 = (M.2.1 77 6) := (W_n W260 (fun z => absurd z.1 (by decide)) c_228)
                    have t_267 : (M261.2.1 77 6).toInt = (M.2.1 77 6).toInt := congrArg Int32.toInt c_266
                    refine C_156 hX (dp1 hd (by decide)) hG262 (by omega)  (fun M273 hG269 F268 p_270 p_271 p_272 => ?_)
                    have F274 := FR.c F263 F268 tg_186
                    have b_275 := g_b hG269 (a := 77) (i := 7) (lo := 0) (hi := 500) rfl rfl
                    have c_276 : M273.2.1 77 6 = (M.2.1 77 6) := (F_n F268 (show ¬ (77 = 77 ∧ 7 ≤ 6 ∧ 6 ≤ 10) by decide) c_266)
                    have t_277 : (M273.2.1 77 6).toInt = (M.2.1 77 6).toInt := congrArg Int32.toInt c_276
                    have b_278 := g_b hG269 (a := 77) (i := 8) (lo := 0) (hi := 5) rfl rfl
                    refine to_an (pc := 215) rw_215_215 rfl (to_c (pc := 216) rw_215_216 (x := (40 : Int32)) rfl rfl (s_v (pc := 218) rw_215_218 (dp0 hd (by decide)) (ls0 := [.ref 77, .int (40 : Int32)]) rfl (Nat.le_of_ble_eq_true rfl) (Nat.le_of_ble_eq_true rfl) rfl (to_rc rfl rfl rfl (g_o hG269 rfl)) rfl (to_an (pc := 0) rw_159_0 rfl (tt_gI (pc := 1) rw_159_1 (g_o hG269 rfl) (v := (M273.2.1 77 8)) rfl (to_c (pc := 4) rw_159_4 (x := (4 : Int32)) rfl rfl (b_cne (pc := 5) rw_159_5 (A := (M273.2.1 77 8).toInt) (B := 4) rfl rfl (fun h279 => ?_) (fun h279 => ?_)))))))
                    · refine to_c (pc := 20) rw_159_20 (x := (0 : Int32)) rfl rfl (s_r1 (pc := 21) rw_159_21 (A := 0) rfl (by decide) (b_ine_f (pc := 221) rw_215_221 (A := 0) rfl (by decide) (to_an (pc := 224) rw_215_224 rfl (to_c (pc := 225) rw_215_225 (x := (1 : Int32)) rfl rfl (s_v (pc := 226) rw_215_226 (dp0 hd (by decide)) (ls0 := [.ref 77, .int (1 : Int32)]) rfl (Nat.le_of_ble_eq_true rfl) (Nat.le_of_ble_eq_true rfl) rfl (to_rc rfl rfl rfl (g_o hG269 rfl)) rfl (to_an (pc := 0) rw_152_0 rfl (to_in (pc := 1) rw_152_1 rfl (s_pI (pc := 2) rw_152_2 hG269 rfl (fun M281 W280 => ?_)))))))))
                      have hG282 := g_wf hG269 W280 rfl rfl (by decide)
                      have F283 := FR.w F274 W280 (show 77 = 77 ∧ (4 = 4 ∨ 4 = 5 ∨ 7 ≤ 4 ∧ 4 ≤ 10) ∨ 77 = 77 ∧ (4 = 44 ∨ 4 = 52) ∨ 101 ≤ 77 ∧ 77 ≤ 108 by decide)
                      refine to_an (pc := 5) rw_152_5 rfl (to_an (pc := 6) rw_152_6 rfl ?_)
                      have c_284 : M281.2.1 77 10 = (M273.2.1 77 10) := (W_n W280 (by decide) rfl)
                      have b_285 := g_b hG269 (a := 77) (i := 10) (lo := 0) (hi := 500) rfl rfl
                      refine tt_gI (pc := 7) rw_152_7 (g_o hG282 rfl) (v := (M273.2.1 77 10)) c_284 (s_pI (pc := 10) rw_152_10 hG282 rfl (fun M287 W286 => ?_))
                      have hG288 := g_wf hG282 W286 rfl rfl (by decide)
                      have F289 := FR.w F283 W286 (show 77 = 77 ∧ (5 = 4 ∨ 5 = 5 ∨ 7 ≤ 5 ∧ 5 ≤ 10) ∨ 77 = 77 ∧ (5 = 44 ∨ 5 = 52) ∨ 101 ≤ 77 ∧ 77 ≤ 108 by decide)
                      refine to_c (pc := 13) rw_152_13 (x := (0 : Int32)) rfl rfl (s_r1 (pc := 14) rw_152_14 (A := 0) rfl (by decide) (s_r1 (pc := 229) rw_215_229 (A := 0) rfl (by decide) ?_))
                      have k_290 : (0 : Int32).toInt = 0 := rfl
                      have c_291 : M287.2.1 77 7 = (M273.2.1 77 7) := (W_n W286 (by decide) (W_n W280 (by decide) rfl))
                      have t_292 : (M287.2.1 77 7).toInt = (M273.2.1 77 7).toInt := congrArg Int32.toInt c_291
                      have c_293 : M287.2.1 77 6 = (M.2.1 77 6) := (W_n W286 (by decide) (W_n W280 (by decide) c_276))
                      have t_294 : (M287.2.1 77 6).toInt = (M.2.1 77 6).toInt := congrArg Int32.toInt c_293
                      have c_295 : M287.2.1 77 8 = (M273.2.1 77 8) := (W_n W286 (by decide) (W_n W280 (by decide) rfl))
                      have t_296 : (M287.2.1 77 8).toInt = (M273.2.1 77 8).toInt := congrArg Int32.toInt c_295
                      have c_297 : M287.2.1 77 4 = (1 : Int32) := (W_n W286 (by decide) (W_e W280))
                      have k_298 : (1 : Int32).toInt = 1 := rfl
                      have t_299 : (M287.2.1 77 4).toInt = (1 : Int32).toInt := congrArg Int32.toInt c_297
                      have c_300 : M287.2.1 77 5 = (M273.2.1 77 10) := (W_e W286)
                      have t_301 : (M287.2.1 77 5).toInt = (M273.2.1 77 10).toInt := congrArg Int32.toInt c_300
                      exact h (0 : Int32) M287 hG288 F289 (by decide) (by decide) (by omega) (by omega) (by omega) (by omega) (fun z => absurd z (by omega)) (fun z => absurd z (by omega)) (by omega)
                    · refine to_an (pc := 8) rw_159_8 rfl (tt_gI (pc := 9) rw_159_9 (g_o hG269 rfl) (v := (M273.2.1 77 9)) rfl (to_in (pc := 12) rw_159_12 rfl (b_cne (pc := 13) rw_159_13 (A := (M273.2.1 77 9).toInt) (B := 40) rfl rfl (fun h302 => ?_) (fun h302 => ?_))))
                      · refine to_c (pc := 20) rw_159_20 (x := (0 : Int32)) rfl rfl (s_r1 (pc := 21) rw_159_21 (A := 0) rfl (by decide) (b_ine_f (pc := 221) rw_215_221 (A := 0) rfl (by decide) (to_an (pc := 224) rw_215_224 rfl (to_c (pc := 225) rw_215_225 (x := (1 : Int32)) rfl rfl (s_v (pc := 226) rw_215_226 (dp0 hd (by decide)) (ls0 := [.ref 77, .int (1 : Int32)]) rfl (Nat.le_of_ble_eq_true rfl) (Nat.le_of_ble_eq_true rfl) rfl (to_rc rfl rfl rfl (g_o hG269 rfl)) rfl (to_an (pc := 0) rw_152_0 rfl (to_in (pc := 1) rw_152_1 rfl (s_pI (pc := 2) rw_152_2 hG269 rfl (fun M304 W303 => ?_)))))))))
                        have hG305 := g_wf hG269 W303 rfl rfl (by decide)
                        have F306 := FR.w F274 W303 (show 77 = 77 ∧ (4 = 4 ∨ 4 = 5 ∨ 7 ≤ 4 ∧ 4 ≤ 10) ∨ 77 = 77 ∧ (4 = 44 ∨ 4 = 52) ∨ 101 ≤ 77 ∧ 77 ≤ 108 by decide)
                        refine to_an (pc := 5) rw_152_5 rfl (to_an (pc := 6) rw_152_6 rfl ?_)
                        have c_307 : M304.2.1 77 10 = (M273.2.1 77 10) := (W_n W303 (by decide) rfl)
                        have b_308 := g_b hG269 (a := 77) (i := 10) (lo := 0) (hi := 500) rfl rfl
                        refine tt_gI (pc := 7) rw_152_7 (g_o hG305 rfl) (v := (M273.2.1 77 10)) c_307 (s_pI (pc := 10) rw_152_10 hG305 rfl (fun M310 W309 => ?_))
                        have hG311 := g_wf hG305 W309 rfl rfl (by decide)
                        have F312 := FR.w F306 W309 (show 77 = 77 ∧ (5 = 4 ∨ 5 = 5 ∨ 7 ≤ 5 ∧ 5 ≤ 10) ∨ 77 = 77 ∧ (5 = 44 ∨ 5 = 52) ∨ 101 ≤ 77 ∧ 77 ≤ 108 by decide)
                        refine to_c (pc := 13) rw_152_13 (x := (0 : Int32)) rfl rfl (s_r1 (pc := 14) rw_152_14 (A := 0) rfl (by decide) (s_r1 (pc := 229) rw_215_229 (A := 0) rfl (by decide) ?_))
                        have k_313 : (0 : Int32).toInt = 0 := rfl
                        have c_314 : M310.2.1 77 7 = (M273.2.1 77 7) := (W_n W309 (by decide) (W_n W303 (by decide) rfl))
                        have t_315 : (M310.2.1 77 7).toInt = (M273.2.1 77 7).toInt := congrArg Int32.toInt c_314
                        have c_316 : M310.2.1 77 6 = (M.2.1 77 6) := (W_n W309 (by decide) (W_n W303 (by decide) c_276))
                        have t_317 : (M310.2.1 77 6).toInt = (M.2.1 77 6).toInt := congrArg Int32.toInt c_316
                        have c_318 : M310.2.1 77 8 = (M273.2.1 77 8) := (W_n W309 (by decide) (W_n W303 (by decide) rfl))
                        have t_319 : (M310.2.1 77 8).toInt = (M273.2.1 77 8).toInt := congrArg Int32.toInt c_318
                        have c_320 : M310.2.1 77 4 = (1 : Int32) := (W_n W309 (by decide) (W_e W303))
                        have k_321 : (1 : Int32).toInt = 1 := rfl
                        have t_322 : (M310.2.1 77 4).toInt = (1 : Int32).toInt := congrArg Int32.toInt c_320
                        have c_323 : M310.2.1 77 5 = (M273.2.1 77 10) := (W_e W309)
                        have t_324 : (M310.2.1 77 5).toInt = (M273.2.1 77 10).toInt := congrArg Int32.toInt c_323
                        exact h (0 : Int32) M310 hG311 F312 (by decide) (by decide) (by omega) (by omega) (by omega) (by omega) (fun z => absurd z (by omega)) (fun z => absurd z (by omega)) (by omega)
                      · refine to_c (pc := 16) rw_159_16 (x := (1 : Int32)) rfl rfl (to_go (pc := 17) rw_159_17 (s_r1 (pc := 21) rw_159_21 (A := 1) rfl (by decide) (b_ine_t (pc := 221) rw_215_221 (A := 1) rfl (by decide) (to_an (pc := 230) rw_215_230 rfl ?_))))
                        have c_325 : M273.2.1 77 52 = (M.2.1 77 52) := (F_n F268 (show ¬ (77 = 77 ∧ 7 ≤ 52 ∧ 52 ≤ 10) by decide) (W_n W260 (fun z => absurd z.1 (by decide)) (F_n F220 (show ¬ (77 = 77 ∧ 7 ≤ 52 ∧ 52 ≤ 10) by decide) (W_n W212 (by decide) (W_n W205 (fun z => absurd z.1 (by decide)) rfl)))))
                        have b_326 := g_b hG (a := 77) (i := 52) (lo := 0) (hi := 5) rfl rfl
                        refine tt_gI (pc := 231) rw_215_231 (g_o hG269 rfl) (v := (M.2.1 77 52)) c_325 (to_c (pc := 234) rw_215_234 (x := (5 : Int32)) rfl rfl (b_cne (pc := 235) rw_215_235 (A := (M.2.1 77 52).toInt) (B := 5) rfl rfl (fun h327 => ?_) (fun h327 => ?_)))
                        · refine to_an (pc := 244) rw_215_244 rfl (s_gR (pc := 245) rw_215_245 hG269 rfl (v := 108) rfl (to_an (pc := 248) rw_215_248 rfl (tt_gI (pc := 249) rw_215_249 (g_o hG269 rfl) (v := (M.2.1 77 52)) c_325 (to_in (pc := 252) rw_215_252 rfl (s_ias (pc := 253) rw_215_253 hG269 rfl (n := 5) rfl (A := (M.2.1 77 52).toInt) rfl (by omega) (by omega) (fun M329 W328 => ?_))))))
                          have hG330 := g_w hG269 W328 (A := (M.2.1 77 44).toInt) rfl (lo := 0) (hi := 39) rfl rfl (by omega) (by decide)
                          have F331 := FR.w F274 W328 (show 108 = 77 ∧ (((M.2.1 77 52).toInt).toNat = 4 ∨ ((M.2.1 77 52).toInt).toNat = 5 ∨ 7 ≤ ((M.2.1 77 52).toInt).toNat ∧ ((M.2.1 77 52).toInt).toNat ≤ 10) ∨ 108 = 77 ∧ (((M.2.1 77 52).toInt).toNat = 44 ∨ ((M.2.1 77 52).toInt).toNat = 52) ∨ 101 ≤ 108 ∧ 108 ≤ 108 by omega)
                          refine to_an (pc := 254) rw_215_254 rfl (to_dupr (pc := 255) rw_215_255 ?_)
                          have c_332 : M329.2.1 77 52 = (M.2.1 77 52) := (W_n W328 (fun z => absurd z.1 (by decide)) c_325)
                          refine tt_gI (pc := 256) rw_215_256 (g_o hG330 rfl) (v := (M.2.1 77 52)) c_332 (to_c (pc := 259) rw_215_259 (x := (1 : Int32)) rfl rfl (s_add (pc := 260) rw_215_260 (A := (M.2.1 77 52).toInt) (B := 1) rfl rfl (by omega) (fun v333 e334 => s_pI (pc := 261) rw_215_261 hG330 rfl (fun M336 W335 => ?_))))
                          have hG337 := g_w hG330 W335 (A := v333.toInt) rfl (lo := 0) (hi := 5) rfl rfl (by omega) (by decide)
                          have F338 := FR.w F331 W335 (show 77 = 77 ∧ (52 = 4 ∨ 52 = 5 ∨ 7 ≤ 52 ∧ 52 ≤ 10) ∨ 77 = 77 ∧ (52 = 44 ∨ 52 = 52) ∨ 101 ≤ 77 ∧ 77 ≤ 108 by decide)
                          refine to_an (pc := 264) rw_215_264 rfl (s_v (pc := 265) rw_215_265 (dp0 hd (by decide)) (ls0 := [.ref 77]) rfl (Nat.le_of_ble_eq_true rfl) (Nat.le_of_ble_eq_true rfl) rfl (to_rc rfl rfl rfl (g_o hG337 rfl)) rfl ?_)
                          have c_339 : M336.2.1 77 7 = (M273.2.1 77 7) := (W_n W335 (by decide) (W_n W328 (fun z => absurd z.1 (by decide)) rfl))
                          have t_340 : (M336.2.1 77 7).toInt = (M273.2.1 77 7).toInt := congrArg Int32.toInt c_339
                          have c_341 : M336.2.1 77 6 = (M.2.1 77 6) := (W_n W335 (by decide) (W_n W328 (fun z => absurd z.1 (by decide)) c_276))
                          have t_342 : (M336.2.1 77 6).toInt = (M.2.1 77 6).toInt := congrArg Int32.toInt c_341
                          refine C_156 hX (dp1 hd (by decide)) hG337 (by omega)  (fun M348 hG344 F343 p_345 p_346 p_347 => ?_)
                          have F349 := FR.c F338 F343 tg_186
                          have b_350 := g_b hG344 (a := 77) (i := 7) (lo := 0) (hi := 500) rfl rfl
                          have c_351 : M348.2.1 77 6 = (M.2.1 77 6) := (F_n F343 (show ¬ (77 = 77 ∧ 7 ≤ 6 ∧ 6 ≤ 10) by decide) c_341)
                          have t_352 : (M348.2.1 77 6).toInt = (M.2.1 77 6).toInt := congrArg Int32.toInt c_351
                          have b_353 := g_b hG344 (a := 77) (i := 8) (lo := 0) (hi := 5) rfl rfl
                          refine to_c (pc := 268) rw_215_268 (x := (1 : Int32)) rfl rfl (s_r1 (pc := 269) rw_215_269 (A := 1) rfl (by decide) ?_)
                          have k_354 : (1 : Int32).toInt = 1 := rfl
                          have c_355 : M348.2.1 77 44 = v210 := (F_n F343 (show ¬ (77 = 77 ∧ 7 ≤ 44 ∧ 44 ≤ 10) by decide) (W_n W335 (by decide) (W_n W328 (fun z => absurd z.1 (by decide)) (F_n F268 (show ¬ (77 = 77 ∧ 7 ≤ 44 ∧ 44 ≤ 10) by decide) (W_n W260 (fun z => absurd z.1 (by decide)) (F_n F220 (show ¬ (77 = 77 ∧ 7 ≤ 44 ∧ 44 ≤ 10) by decide) (W_e W212)))))))
                          have t_356 : (M348.2.1 77 44).toInt = v210.toInt := congrArg Int32.toInt c_355
                          have c_357 : M348.2.1 77 52 = v333 := (F_n F343 (show ¬ (77 = 77 ∧ 7 ≤ 52 ∧ 52 ≤ 10) by decide) (W_e W335))
                          have t_358 : (M348.2.1 77 52).toInt = v333.toInt := congrArg Int32.toInt c_357
                          have t_360 : (M206.2.1 101 ((M.2.1 77 44).toInt).toNat).toInt = (2 : Int32).toInt := congrArg Int32.toInt (W_e W205)
                          have k_361 : (2 : Int32).toInt = 2 := rfl
                          have t_362 : (M348.2.1 101 ((M.2.1 77 44).toInt).toNat).toInt = (M206.2.1 101 ((M.2.1 77 44).toInt).toNat).toInt := congrArg Int32.toInt (F_n F343 (show ¬ (101 = 77 ∧ 7 ≤ (((M.2.1 77 44).toInt).toNat) ∧ (((M.2.1 77 44).toInt).toNat) ≤ 10) by omega) (W_n W335 (by omega) (W_n W328 (by omega) (F_n F268 (show ¬ (101 = 77 ∧ 7 ≤ (((M.2.1 77 44).toInt).toNat) ∧ (((M.2.1 77 44).toInt).toNat) ≤ 10) by omega) (W_n W260 (by omega) (F_n F220 (show ¬ (101 = 77 ∧ 7 ≤ (((M.2.1 77 44).toInt).toNat) ∧ (((M.2.1 77 44).toInt).toNat) ≤ 10) by omega) (W_n W212 (by omega) rfl)))))))
                          have t_363 : (M261.2.1 102 ((M.2.1 77 44).toInt).toNat).toInt = (M225.2.1 77 9).toInt := congrArg Int32.toInt (W_e W260)
                          have t_364 : (M348.2.1 102 ((M.2.1 77 44).toInt).toNat).toInt = (M261.2.1 102 ((M.2.1 77 44).toInt).toNat).toInt := congrArg Int32.toInt (F_n F343 (show ¬ (102 = 77 ∧ 7 ≤ (((M.2.1 77 44).toInt).toNat) ∧ (((M.2.1 77 44).toInt).toNat) ≤ 10) by omega) (W_n W335 (by omega) (W_n W328 (by omega) (F_n F268 (show ¬ (102 = 77 ∧ 7 ≤ (((M.2.1 77 44).toInt).toNat) ∧ (((M.2.1 77 44).toInt).toNat) ≤ 10) by omega) rfl))))
                          have t_366 : (M206.2.1 101 ((M.2.1 77 44).toInt).toNat).toInt = (2 : Int32).toInt := congrArg Int32.toInt (W_e W205)
                          have t_367 : (M348.2.1 101 ((M.2.1 77 44).toInt).toNat).toInt = (M206.2.1 101 ((M.2.1 77 44).toInt).toNat).toInt := congrArg Int32.toInt (F_n F343 (show ¬ (101 = 77 ∧ 7 ≤ (((M.2.1 77 44).toInt).toNat) ∧ (((M.2.1 77 44).toInt).toNat) ≤ 10) by omega) (W_n W335 (by omega) (W_n W328 (by omega) (F_n F268 (show ¬ (101 = 77 ∧ 7 ≤ (((M.2.1 77 44).toInt).toNat) ∧ (((M.2.1 77 44).toInt).toNat) ≤ 10) by omega) (W_n W260 (by omega) (F_n F220 (show ¬ (101 = 77 ∧ 7 ≤ (((M.2.1 77 44).toInt).toNat) ∧ (((M.2.1 77 44).toInt).toNat) ≤ 10) by omega) (W_n W212 (by omega) rfl)))))))
                          have c_368 : M348.2.1 77 4 = (M.2.1 77 4) := (F_n F343 (show ¬ (77 = 77 ∧ 7 ≤ 4 ∧ 4 ≤ 10) by decide) (W_n W335 (by decide) (W_n W328 (fun z => absurd z.1 (by decide)) (F_n F268 (show ¬ (77 = 77 ∧ 7 ≤ 4 ∧ 4 ≤ 10) by decide) (W_n W260 (fun z => absurd z.1 (by decide)) (F_n F220 (show ¬ (77 = 77 ∧ 7 ≤ 4 ∧ 4 ≤ 10) by decide) (W_n W212 (by decide) (W_n W205 (fun z => absurd z.1 (by decide)) rfl))))))))
                          have t_369 : (M348.2.1 77 4).toInt = (M.2.1 77 4).toInt := congrArg Int32.toInt c_368
                          have c_370 : M348.2.1 77 5 = (M.2.1 77 5) := (F_n F343 (show ¬ (77 = 77 ∧ 7 ≤ 5 ∧ 5 ≤ 10) by decide) (W_n W335 (by decide) (W_n W328 (fun z => absurd z.1 (by decide)) (F_n F268 (show ¬ (77 = 77 ∧ 7 ≤ 5 ∧ 5 ≤ 10) by decide) (W_n W260 (fun z => absurd z.1 (by decide)) (F_n F220 (show ¬ (77 = 77 ∧ 7 ≤ 5 ∧ 5 ≤ 10) by decide) (W_n W212 (by decide) (W_n W205 (fun z => absurd z.1 (by decide)) rfl))))))))
                          have t_371 : (M348.2.1 77 5).toInt = (M.2.1 77 5).toInt := congrArg Int32.toInt c_370
                          exact h (1 : Int32) M348 hG344 F349 (by decide) (by decide) (by omega) (by omega) (by omega) (by omega) (fun _ => AB_k (M1 := M348) (n := ((M.2.1 77 44).toInt).toNat) q2 (by omega) (by omega) (fun r i z z2 => (F_n F343 (show ¬ (r = 77 ∧ 7 ≤ i ∧ i ≤ 10) by omega) (W_n W335 (by omega) (W_n W328 (by omega) (F_n F268 (show ¬ (r = 77 ∧ 7 ≤ i ∧ i ≤ 10) by omega) (W_n W260 (by omega) (F_n F220 (show ¬ (r = 77 ∧ 7 ≤ i ∧ i ≤ 10) by omega) (W_n W212 (by omega) (W_n W205 (by omega) rfl))))))))) (by refine ⟨fun _ => ?_, fun _ => ?_, fun _ => ?_⟩ <;> omega)) (fun _ => ST_push (M1 := M348) (n := ((M.2.1 77 44).toInt).toNat) (k := ((M.2.1 77 52).toInt).toNat) q3 (by omega) (by omega) (by omega) (by omega) (by omega) (fun i z => (F_n F343 (show ¬ (101 = 77 ∧ 7 ≤ i ∧ i ≤ 10) by omega) (W_n W335 (by omega) (W_n W328 (by omega) (F_n F268 (show ¬ (101 = 77 ∧ 7 ≤ i ∧ i ≤ 10) by omega) (W_n W260 (by omega) (F_n F220 (show ¬ (101 = 77 ∧ 7 ≤ i ∧ i ≤ 10) by omega) (W_n W212 (by omega) (W_n W205 (by omega) rfl))))))))) (by omega) (fun i z => (F_n F343 (show ¬ (108 = 77 ∧ 7 ≤ i ∧ i ≤ 10) by omega) (W_n W335 (by omega) (W_n W328 (by omega) (F_n F268 (show ¬ (108 = 77 ∧ 7 ≤ i ∧ i ≤ 10) by omega) (W_n W260 (by omega) (F_n F220 (show ¬ (108 = 77 ∧ 7 ≤ i ∧ i ≤ 10) by omega) (W_n W212 (by omega) (W_n W205 (by omega) rfl))))))))) (by rw [(F_n F343 (show ¬ (108 = 77 ∧ 7 ≤ (((M.2.1 77 52).toInt).toNat) ∧ (((M.2.1 77 52).toInt).toNat) ≤ 10) by omega) (W_n W335 (by omega) (W_e W328)))] <;> omega) (fun i => (F_n F343 (show ¬ (105 = 77 ∧ 7 ≤ i ∧ i ≤ 10) by omega) (W_n W335 (by omega) (W_n W328 (by omega) (F_n F268 (show ¬ (105 = 77 ∧ 7 ≤ i ∧ i ≤ 10) by omega) (W_n W260 (by omega) (F_n F220 (show ¬ (105 = 77 ∧ 7 ≤ i ∧ i ≤ 10) by omega) (W_n W212 (by omega) (W_n W205 (by omega) rfl)))))))))) (by omega)
                        · refine to_an (pc := 238) rw_215_238 rfl (to_c (pc := 239) rw_215_239 (x := (2 : Int32)) rfl rfl (s_v (pc := 240) rw_215_240 (dp0 hd (by decide)) (ls0 := [.ref 77, .int (2 : Int32)]) rfl (Nat.le_of_ble_eq_true rfl) (Nat.le_of_ble_eq_true rfl) rfl (to_rc rfl rfl rfl (g_o hG269 rfl)) rfl (to_an (pc := 0) rw_152_0 rfl (to_in (pc := 1) rw_152_1 rfl (s_pI (pc := 2) rw_152_2 hG269 rfl (fun M373 W372 => ?_))))))
                          have hG374 := g_wf hG269 W372 rfl rfl (by decide)
                          have F375 := FR.w F274 W372 (show 77 = 77 ∧ (4 = 4 ∨ 4 = 5 ∨ 7 ≤ 4 ∧ 4 ≤ 10) ∨ 77 = 77 ∧ (4 = 44 ∨ 4 = 52) ∨ 101 ≤ 77 ∧ 77 ≤ 108 by decide)
                          refine to_an (pc := 5) rw_152_5 rfl (to_an (pc := 6) rw_152_6 rfl ?_)
                          have c_376 : M373.2.1 77 10 = (M273.2.1 77 10) := (W_n W372 (by decide) rfl)
                          have b_377 := g_b hG269 (a := 77) (i := 10) (lo := 0) (hi := 500) rfl rfl
                          refine tt_gI (pc := 7) rw_152_7 (g_o hG374 rfl) (v := (M273.2.1 77 10)) c_376 (s_pI (pc := 10) rw_152_10 hG374 rfl (fun M379 W378 => ?_))
                          have hG380 := g_wf hG374 W378 rfl rfl (by decide)
                          have F381 := FR.w F375 W378 (show 77 = 77 ∧ (5 = 4 ∨ 5 = 5 ∨ 7 ≤ 5 ∧ 5 ≤ 10) ∨ 77 = 77 ∧ (5 = 44 ∨ 5 = 52) ∨ 101 ≤ 77 ∧ 77 ≤ 108 by decide)
                          refine to_c (pc := 13) rw_152_13 (x := (0 : Int32)) rfl rfl (s_r1 (pc := 14) rw_152_14 (A := 0) rfl (by decide) (s_r1 (pc := 243) rw_215_243 (A := 0) rfl (by decide) ?_))
                          have k_382 : (0 : Int32).toInt = 0 := rfl
                          have c_383 : M379.2.1 77 7 = (M273.2.1 77 7) := (W_n W378 (by decide) (W_n W372 (by decide) rfl))
                          have t_384 : (M379.2.1 77 7).toInt = (M273.2.1 77 7).toInt := congrArg Int32.toInt c_383
                          have c_385 : M379.2.1 77 6 = (M.2.1 77 6) := (W_n W378 (by decide) (W_n W372 (by decide) c_276))
                          have t_386 : (M379.2.1 77 6).toInt = (M.2.1 77 6).toInt := congrArg Int32.toInt c_385
                          have c_387 : M379.2.1 77 8 = (M273.2.1 77 8) := (W_n W378 (by decide) (W_n W372 (by decide) rfl))
                          have t_388 : (M379.2.1 77 8).toInt = (M273.2.1 77 8).toInt := congrArg Int32.toInt c_387
                          have c_389 : M379.2.1 77 4 = (2 : Int32) := (W_n W378 (by decide) (W_e W372))
                          have k_390 : (2 : Int32).toInt = 2 := rfl
                          have t_391 : (M379.2.1 77 4).toInt = (2 : Int32).toInt := congrArg Int32.toInt c_389
                          have c_392 : M379.2.1 77 5 = (M273.2.1 77 10) := (W_e W378)
                          have t_393 : (M379.2.1 77 5).toInt = (M273.2.1 77 10).toInt := congrArg Int32.toInt c_392
                          exact h (0 : Int32) M379 hG380 F381 (by decide) (by decide) (by omega) (by omega) (by omega) (by omega) (fun z => absurd z (by omega)) (fun z => absurd z (by omega)) (by omega)
                  · refine to_an (pc := 30) rw_162_30 rfl (to_c (pc := 31) rw_162_31 (x := (2 : Int32)) rfl rfl (s_v (pc := 32) rw_162_32 (dp1 hd (by decide)) (ls0 := [.ref 77, .int (2 : Int32)]) rfl (Nat.le_of_ble_eq_true rfl) (Nat.le_of_ble_eq_true rfl) rfl (to_rc rfl rfl rfl (g_o hG221 rfl)) rfl (to_an (pc := 0) rw_152_0 rfl (to_in (pc := 1) rw_152_1 rfl (s_pI (pc := 2) rw_152_2 hG221 rfl (fun M395 W394 => ?_))))))
                    have hG396 := g_wf hG221 W394 rfl rfl (by decide)
                    have F397 := FR.w F226 W394 (show 77 = 77 ∧ (4 = 4 ∨ 4 = 5 ∨ 7 ≤ 4 ∧ 4 ≤ 10) ∨ 77 = 77 ∧ (4 = 44 ∨ 4 = 52) ∨ 101 ≤ 77 ∧ 77 ≤ 108 by decide)
                    refine to_an (pc := 5) rw_152_5 rfl (to_an (pc := 6) rw_152_6 rfl ?_)
                    have c_398 : M395.2.1 77 10 = (M225.2.1 77 10) := (W_n W394 (by decide) rfl)
                    have b_399 := g_b hG221 (a := 77) (i := 10) (lo := 0) (hi := 500) rfl rfl
                    refine tt_gI (pc := 7) rw_152_7 (g_o hG396 rfl) (v := (M225.2.1 77 10)) c_398 (s_pI (pc := 10) rw_152_10 hG396 rfl (fun M401 W400 => ?_))
                    have hG402 := g_wf hG396 W400 rfl rfl (by decide)
                    have F403 := FR.w F397 W400 (show 77 = 77 ∧ (5 = 4 ∨ 5 = 5 ∨ 7 ≤ 5 ∧ 5 ≤ 10) ∨ 77 = 77 ∧ (5 = 44 ∨ 5 = 52) ∨ 101 ≤ 77 ∧ 77 ≤ 108 by decide)
                    refine to_c (pc := 13) rw_152_13 (x := (0 : Int32)) rfl rfl (s_r1 (pc := 14) rw_152_14 (A := 0) rfl (by decide) (b_ieq_t (pc := 35) rw_162_35 (A := 0) rfl (by decide) (to_c (pc := 42) rw_162_42 (x := (0 : Int32)) rfl rfl (s_r1 (pc := 43) rw_162_43 (A := 0) rfl (by decide) (b_ine_f (pc := 196) rw_215_196 (A := 0) rfl (by decide) (to_c (pc := 199) rw_215_199 (x := (0 : Int32)) rfl rfl (s_r1 (pc := 200) rw_215_200 (A := 0) rfl (by decide) ?_)))))))
                    have k_404 : (0 : Int32).toInt = 0 := rfl
                    have c_405 : M401.2.1 77 7 = (M225.2.1 77 7) := (W_n W400 (by decide) (W_n W394 (by decide) rfl))
                    have t_406 : (M401.2.1 77 7).toInt = (M225.2.1 77 7).toInt := congrArg Int32.toInt c_405
                    have c_407 : M401.2.1 77 6 = (M.2.1 77 6) := (W_n W400 (by decide) (W_n W394 (by decide) c_228))
                    have t_408 : (M401.2.1 77 6).toInt = (M.2.1 77 6).toInt := congrArg Int32.toInt c_407
                    have c_409 : M401.2.1 77 8 = (M225.2.1 77 8) := (W_n W400 (by decide) (W_n W394 (by decide) rfl))
                    have t_410 : (M401.2.1 77 8).toInt = (M225.2.1 77 8).toInt := congrArg Int32.toInt c_409
                    have c_411 : M401.2.1 77 4 = (2 : Int32) := (W_n W400 (by decide) (W_e W394))
                    have k_412 : (2 : Int32).toInt = 2 := rfl
                    have t_413 : (M401.2.1 77 4).toInt = (2 : Int32).toInt := congrArg Int32.toInt c_411
                    have c_414 : M401.2.1 77 5 = (M225.2.1 77 10) := (W_e W400)
                    have t_415 : (M401.2.1 77 5).toInt = (M225.2.1 77 10).toInt := congrArg Int32.toInt c_414
                    exact h (0 : Int32) M401 hG402 F403 (by decide) (by decide) (by omega) (by omega) (by omega) (by omega) (fun z => absurd z (by omega)) (fun z => absurd z (by omega)) (by omega)
              · refine to_an (pc := 8) rw_162_8 rfl (to_c (pc := 9) rw_162_9 (x := (1 : Int32)) rfl rfl (s_v (pc := 10) rw_162_10 (dp1 hd (by decide)) (ls0 := [.ref 77, .int (1 : Int32)]) rfl (Nat.le_of_ble_eq_true rfl) (Nat.le_of_ble_eq_true rfl) rfl (to_rc rfl rfl rfl (g_o hG221 rfl)) rfl (to_an (pc := 0) rw_152_0 rfl (to_in (pc := 1) rw_152_1 rfl (s_pI (pc := 2) rw_152_2 hG221 rfl (fun M417 W416 => ?_))))))
                have hG418 := g_wf hG221 W416 rfl rfl (by decide)
                have F419 := FR.w F226 W416 (show 77 = 77 ∧ (4 = 4 ∨ 4 = 5 ∨ 7 ≤ 4 ∧ 4 ≤ 10) ∨ 77 = 77 ∧ (4 = 44 ∨ 4 = 52) ∨ 101 ≤ 77 ∧ 77 ≤ 108 by decide)
                refine to_an (pc := 5) rw_152_5 rfl (to_an (pc := 6) rw_152_6 rfl ?_)
                have c_420 : M417.2.1 77 10 = (M225.2.1 77 10) := (W_n W416 (by decide) rfl)
                have b_421 := g_b hG221 (a := 77) (i := 10) (lo := 0) (hi := 500) rfl rfl
                refine tt_gI (pc := 7) rw_152_7 (g_o hG418 rfl) (v := (M225.2.1 77 10)) c_420 (s_pI (pc := 10) rw_152_10 hG418 rfl (fun M423 W422 => ?_))
                have hG424 := g_wf hG418 W422 rfl rfl (by decide)
                have F425 := FR.w F419 W422 (show 77 = 77 ∧ (5 = 4 ∨ 5 = 5 ∨ 7 ≤ 5 ∧ 5 ≤ 10) ∨ 77 = 77 ∧ (5 = 44 ∨ 5 = 52) ∨ 101 ≤ 77 ∧ 77 ≤ 108 by decide)
                refine to_c (pc := 13) rw_152_13 (x := (0 : Int32)) rfl rfl (s_r1 (pc := 14) rw_152_14 (A := 0) rfl (by decide) (s_r1 (pc := 13) rw_162_13 (A := 0) rfl (by decide) (b_ine_f (pc := 196) rw_215_196 (A := 0) rfl (by decide) (to_c (pc := 199) rw_215_199 (x := (0 : Int32)) rfl rfl (s_r1 (pc := 200) rw_215_200 (A := 0) rfl (by decide) ?_)))))
                have k_426 : (0 : Int32).toInt = 0 := rfl
                have c_427 : M423.2.1 77 7 = (M225.2.1 77 7) := (W_n W422 (by decide) (W_n W416 (by decide) rfl))
                have t_428 : (M423.2.1 77 7).toInt = (M225.2.1 77 7).toInt := congrArg Int32.toInt c_427
                have c_429 : M423.2.1 77 6 = (M.2.1 77 6) := (W_n W422 (by decide) (W_n W416 (by decide) c_228))
                have t_430 : (M423.2.1 77 6).toInt = (M.2.1 77 6).toInt := congrArg Int32.toInt c_429
                have c_431 : M423.2.1 77 8 = (M225.2.1 77 8) := (W_n W422 (by decide) (W_n W416 (by decide) rfl))
                have t_432 : (M423.2.1 77 8).toInt = (M225.2.1 77 8).toInt := congrArg Int32.toInt c_431
                have c_433 : M423.2.1 77 4 = (1 : Int32) := (W_n W422 (by decide) (W_e W416))
                have k_434 : (1 : Int32).toInt = 1 := rfl
                have t_435 : (M423.2.1 77 4).toInt = (1 : Int32).toInt := congrArg Int32.toInt c_433
                have c_436 : M423.2.1 77 5 = (M225.2.1 77 10) := (W_e W422)
                have t_437 : (M423.2.1 77 5).toInt = (M225.2.1 77 10).toInt := congrArg Int32.toInt c_436
                exact h (0 : Int32) M423 hG424 F425 (by decide) (by decide) (by omega) (by omega) (by omega) (by omega) (fun z => absurd z (by omega)) (fun z => absurd z (by omega)) (by omega)
            · refine to_an (pc := 100) rw_215_100 rfl (to_c (pc := 101) rw_215_101 (x := (2 : Int32)) rfl rfl (s_v (pc := 102) rw_215_102 (dp0 hd (by decide)) (ls0 := [.ref 77, .int (2 : Int32)]) rfl (Nat.le_of_ble_eq_true rfl) (Nat.le_of_ble_eq_true rfl) rfl (to_rc rfl rfl rfl (g_o hG rfl)) rfl (to_an (pc := 0) rw_152_0 rfl (to_in (pc := 1) rw_152_1 rfl (s_pI (pc := 2) rw_152_2 hG rfl (fun M439 W438 => ?_))))))
              have hG440 := g_wf hG W438 rfl rfl (by decide)
              have F441 := FR.w F0 W438 (show 77 = 77 ∧ (4 = 4 ∨ 4 = 5 ∨ 7 ≤ 4 ∧ 4 ≤ 10) ∨ 77 = 77 ∧ (4 = 44 ∨ 4 = 52) ∨ 101 ≤ 77 ∧ 77 ≤ 108 by decide)
              refine to_an (pc := 5) rw_152_5 rfl (to_an (pc := 6) rw_152_6 rfl ?_)
              have c_442 : M439.2.1 77 10 = (M.2.1 77 10) := (W_n W438 (by decide) rfl)
              have b_443 := g_b hG (a := 77) (i := 10) (lo := 0) (hi := 500) rfl rfl
              refine tt_gI (pc := 7) rw_152_7 (g_o hG440 rfl) (v := (M.2.1 77 10)) c_442 (s_pI (pc := 10) rw_152_10 hG440 rfl (fun M445 W444 => ?_))
              have hG446 := g_wf hG440 W444 rfl rfl (by decide)
              have F447 := FR.w F441 W444 (show 77 = 77 ∧ (5 = 4 ∨ 5 = 5 ∨ 7 ≤ 5 ∧ 5 ≤ 10) ∨ 77 = 77 ∧ (5 = 44 ∨ 5 = 52) ∨ 101 ≤ 77 ∧ 77 ≤ 108 by decide)
              refine to_c (pc := 13) rw_152_13 (x := (0 : Int32)) rfl rfl (s_r1 (pc := 14) rw_152_14 (A := 0) rfl (by decide) (s_r1 (pc := 105) rw_215_105 (A := 0) rfl (by decide) ?_))
              have k_448 : (0 : Int32).toInt = 0 := rfl
              have c_449 : M445.2.1 77 7 = (M.2.1 77 7) := (W_n W444 (by decide) (W_n W438 (by decide) rfl))
              have t_450 : (M445.2.1 77 7).toInt = (M.2.1 77 7).toInt := congrArg Int32.toInt c_449
              have c_451 : M445.2.1 77 6 = (M.2.1 77 6) := (W_n W444 (by decide) (W_n W438 (by decide) rfl))
              have t_452 : (M445.2.1 77 6).toInt = (M.2.1 77 6).toInt := congrArg Int32.toInt c_451
              have c_453 : M445.2.1 77 8 = (M.2.1 77 8) := (W_n W444 (by decide) (W_n W438 (by decide) rfl))
              have t_454 : (M445.2.1 77 8).toInt = (M.2.1 77 8).toInt := congrArg Int32.toInt c_453
              have c_455 : M445.2.1 77 4 = (2 : Int32) := (W_n W444 (by decide) (W_e W438))
              have k_456 : (2 : Int32).toInt = 2 := rfl
              have t_457 : (M445.2.1 77 4).toInt = (2 : Int32).toInt := congrArg Int32.toInt c_455
              have c_458 : M445.2.1 77 5 = (M.2.1 77 10) := (W_e W444)
              have t_459 : (M445.2.1 77 5).toInt = (M.2.1 77 10).toInt := congrArg Int32.toInt c_458
              exact h (0 : Int32) M445 hG446 F447 (by decide) (by decide) (by omega) (by omega) (by omega) (by omega) (fun z => absurd z (by omega)) (fun z => absurd z (by omega)) (by omega)
          · refine to_an (pc := 85) rw_215_85 rfl (to_c (pc := 86) rw_215_86 (x := (1 : Int32)) rfl rfl (s_v (pc := 87) rw_215_87 (dp0 hd (by decide)) (ls0 := [.ref 77, .int (1 : Int32)]) rfl (Nat.le_of_ble_eq_true rfl) (Nat.le_of_ble_eq_true rfl) rfl (to_rc rfl rfl rfl (g_o hG rfl)) rfl (to_an (pc := 0) rw_152_0 rfl (to_in (pc := 1) rw_152_1 rfl (s_pI (pc := 2) rw_152_2 hG rfl (fun M461 W460 => ?_))))))
            have hG462 := g_wf hG W460 rfl rfl (by decide)
            have F463 := FR.w F0 W460 (show 77 = 77 ∧ (4 = 4 ∨ 4 = 5 ∨ 7 ≤ 4 ∧ 4 ≤ 10) ∨ 77 = 77 ∧ (4 = 44 ∨ 4 = 52) ∨ 101 ≤ 77 ∧ 77 ≤ 108 by decide)
            refine to_an (pc := 5) rw_152_5 rfl (to_an (pc := 6) rw_152_6 rfl ?_)
            have c_464 : M461.2.1 77 10 = (M.2.1 77 10) := (W_n W460 (by decide) rfl)
            have b_465 := g_b hG (a := 77) (i := 10) (lo := 0) (hi := 500) rfl rfl
            refine tt_gI (pc := 7) rw_152_7 (g_o hG462 rfl) (v := (M.2.1 77 10)) c_464 (s_pI (pc := 10) rw_152_10 hG462 rfl (fun M467 W466 => ?_))
            have hG468 := g_wf hG462 W466 rfl rfl (by decide)
            have F469 := FR.w F463 W466 (show 77 = 77 ∧ (5 = 4 ∨ 5 = 5 ∨ 7 ≤ 5 ∧ 5 ≤ 10) ∨ 77 = 77 ∧ (5 = 44 ∨ 5 = 52) ∨ 101 ≤ 77 ∧ 77 ≤ 108 by decide)
            refine to_c (pc := 13) rw_152_13 (x := (0 : Int32)) rfl rfl (s_r1 (pc := 14) rw_152_14 (A := 0) rfl (by decide) (s_r1 (pc := 90) rw_215_90 (A := 0) rfl (by decide) ?_))
            have k_470 : (0 : Int32).toInt = 0 := rfl
            have c_471 : M467.2.1 77 7 = (M.2.1 77 7) := (W_n W466 (by decide) (W_n W460 (by decide) rfl))
            have t_472 : (M467.2.1 77 7).toInt = (M.2.1 77 7).toInt := congrArg Int32.toInt c_471
            have c_473 : M467.2.1 77 6 = (M.2.1 77 6) := (W_n W466 (by decide) (W_n W460 (by decide) rfl))
            have t_474 : (M467.2.1 77 6).toInt = (M.2.1 77 6).toInt := congrArg Int32.toInt c_473
            have c_475 : M467.2.1 77 8 = (M.2.1 77 8) := (W_n W466 (by decide) (W_n W460 (by decide) rfl))
            have t_476 : (M467.2.1 77 8).toInt = (M.2.1 77 8).toInt := congrArg Int32.toInt c_475
            have c_477 : M467.2.1 77 4 = (1 : Int32) := (W_n W466 (by decide) (W_e W460))
            have k_478 : (1 : Int32).toInt = 1 := rfl
            have t_479 : (M467.2.1 77 4).toInt = (1 : Int32).toInt := congrArg Int32.toInt c_477
            have c_480 : M467.2.1 77 5 = (M.2.1 77 10) := (W_e W466)
            have t_481 : (M467.2.1 77 5).toInt = (M.2.1 77 10).toInt := congrArg Int32.toInt c_480
            exact h (0 : Int32) M467 hG468 F469 (by decide) (by decide) (by omega) (by omega) (by omega) (by omega) (fun z => absurd z (by omega)) (fun z => absurd z (by omega)) (by omega)
  · refine to_an (pc := 8) rw_159_8 rfl (tt_gI (pc := 9) rw_159_9 (g_o hG rfl) (v := (M.2.1 77 9)) rfl (to_in (pc := 12) rw_159_12 rfl (b_cne (pc := 13) rw_159_13 (A := (M.2.1 77 9).toInt) (B := 41) rfl rfl (fun h482 => ?_) (fun h482 => ?_))))
    · refine to_c (pc := 20) rw_159_20 (x := (0 : Int32)) rfl rfl (s_r1 (pc := 21) rw_159_21 (A := 0) rfl (by decide) (b_ieq_t (pc := 6) rw_215_6 (A := 0) rfl (by decide) (to_an (pc := 50) rw_215_50 rfl (tt_gI (pc := 51) rw_215_51 (g_o hG rfl) (v := (M.2.1 77 8)) rfl (to_c (pc := 54) rw_215_54 (x := (1 : Int32)) rfl rfl (b_cne_t (pc := 55) rw_215_55 (A := (M.2.1 77 8).toInt) (B := 1) rfl rfl (by omega) (to_an (pc := 85) rw_215_85 rfl (to_c (pc := 86) rw_215_86 (x := (1 : Int32)) rfl rfl (s_v (pc := 87) rw_215_87 (dp0 hd (by decide)) (ls0 := [.ref 77, .int (1 : Int32)]) rfl (Nat.le_of_ble_eq_true rfl) (Nat.le_of_ble_eq_true rfl) rfl (to_rc rfl rfl rfl (g_o hG rfl)) rfl (to_an (pc := 0) rw_152_0 rfl (to_in (pc := 1) rw_152_1 rfl ?_)))))))))))
      refine s_pI (pc := 2) rw_152_2 hG rfl (fun M484 W483 => ?_)
      have hG485 := g_wf hG W483 rfl rfl (by decide)
      have F486 := FR.w F0 W483 (show 77 = 77 ∧ (4 = 4 ∨ 4 = 5 ∨ 7 ≤ 4 ∧ 4 ≤ 10) ∨ 77 = 77 ∧ (4 = 44 ∨ 4 = 52) ∨ 101 ≤ 77 ∧ 77 ≤ 108 by decide)
      refine to_an (pc := 5) rw_152_5 rfl (to_an (pc := 6) rw_152_6 rfl ?_)
      have c_487 : M484.2.1 77 10 = (M.2.1 77 10) := (W_n W483 (by decide) rfl)
      have b_488 := g_b hG (a := 77) (i := 10) (lo := 0) (hi := 500) rfl rfl
      refine tt_gI (pc := 7) rw_152_7 (g_o hG485 rfl) (v := (M.2.1 77 10)) c_487 (s_pI (pc := 10) rw_152_10 hG485 rfl (fun M490 W489 => ?_))
      have hG491 := g_wf hG485 W489 rfl rfl (by decide)
      have F492 := FR.w F486 W489 (show 77 = 77 ∧ (5 = 4 ∨ 5 = 5 ∨ 7 ≤ 5 ∧ 5 ≤ 10) ∨ 77 = 77 ∧ (5 = 44 ∨ 5 = 52) ∨ 101 ≤ 77 ∧ 77 ≤ 108 by decide)
      refine to_c (pc := 13) rw_152_13 (x := (0 : Int32)) rfl rfl (s_r1 (pc := 14) rw_152_14 (A := 0) rfl (by decide) (s_r1 (pc := 90) rw_215_90 (A := 0) rfl (by decide) ?_))
      have k_493 : (0 : Int32).toInt = 0 := rfl
      have c_494 : M490.2.1 77 7 = (M.2.1 77 7) := (W_n W489 (by decide) (W_n W483 (by decide) rfl))
      have t_495 : (M490.2.1 77 7).toInt = (M.2.1 77 7).toInt := congrArg Int32.toInt c_494
      have c_496 : M490.2.1 77 6 = (M.2.1 77 6) := (W_n W489 (by decide) (W_n W483 (by decide) rfl))
      have t_497 : (M490.2.1 77 6).toInt = (M.2.1 77 6).toInt := congrArg Int32.toInt c_496
      have c_498 : M490.2.1 77 8 = (M.2.1 77 8) := (W_n W489 (by decide) (W_n W483 (by decide) rfl))
      have t_499 : (M490.2.1 77 8).toInt = (M.2.1 77 8).toInt := congrArg Int32.toInt c_498
      have c_500 : M490.2.1 77 4 = (1 : Int32) := (W_n W489 (by decide) (W_e W483))
      have k_501 : (1 : Int32).toInt = 1 := rfl
      have t_502 : (M490.2.1 77 4).toInt = (1 : Int32).toInt := congrArg Int32.toInt c_500
      have c_503 : M490.2.1 77 5 = (M.2.1 77 10) := (W_e W489)
      have t_504 : (M490.2.1 77 5).toInt = (M.2.1 77 10).toInt := congrArg Int32.toInt c_503
      exact h (0 : Int32) M490 hG491 F492 (by decide) (by decide) (by omega) (by omega) (by omega) (by omega) (fun z => absurd z (by omega)) (fun z => absurd z (by omega)) (by omega)
    · refine to_c (pc := 16) rw_159_16 (x := (1 : Int32)) rfl rfl (to_go (pc := 17) rw_159_17 (s_r1 (pc := 21) rw_159_21 (A := 1) rfl (by decide) (b_ieq_f (pc := 6) rw_215_6 (A := 1) rfl (by decide) (to_an (pc := 9) rw_215_9 rfl ?_))))
      have b_505 := g_b hG (a := 77) (i := 52) (lo := 0) (hi := 5) rfl rfl
      refine tt_gI (pc := 10) rw_215_10 (g_o hG rfl) (v := (M.2.1 77 52)) rfl (b_ile (pc := 13) rw_215_13 (A := (M.2.1 77 52).toInt) rfl (fun h506 => ?_) (fun h506 => ?_))
      · refine to_an (pc := 50) rw_215_50 rfl (tt_gI (pc := 51) rw_215_51 (g_o hG rfl) (v := (M.2.1 77 8)) rfl (to_c (pc := 54) rw_215_54 (x := (1 : Int32)) rfl rfl (b_cne_t (pc := 55) rw_215_55 (A := (M.2.1 77 8).toInt) (B := 1) rfl rfl (by omega) (to_an (pc := 85) rw_215_85 rfl (to_c (pc := 86) rw_215_86 (x := (1 : Int32)) rfl rfl (s_v (pc := 87) rw_215_87 (dp0 hd (by decide)) (ls0 := [.ref 77, .int (1 : Int32)]) rfl (Nat.le_of_ble_eq_true rfl) (Nat.le_of_ble_eq_true rfl) rfl (to_rc rfl rfl rfl (g_o hG rfl)) rfl (to_an (pc := 0) rw_152_0 rfl (to_in (pc := 1) rw_152_1 rfl (s_pI (pc := 2) rw_152_2 hG rfl (fun M508 W507 => ?_))))))))))
        have hG509 := g_wf hG W507 rfl rfl (by decide)
        have F510 := FR.w F0 W507 (show 77 = 77 ∧ (4 = 4 ∨ 4 = 5 ∨ 7 ≤ 4 ∧ 4 ≤ 10) ∨ 77 = 77 ∧ (4 = 44 ∨ 4 = 52) ∨ 101 ≤ 77 ∧ 77 ≤ 108 by decide)
        refine to_an (pc := 5) rw_152_5 rfl (to_an (pc := 6) rw_152_6 rfl ?_)
        have c_511 : M508.2.1 77 10 = (M.2.1 77 10) := (W_n W507 (by decide) rfl)
        have b_512 := g_b hG (a := 77) (i := 10) (lo := 0) (hi := 500) rfl rfl
        refine tt_gI (pc := 7) rw_152_7 (g_o hG509 rfl) (v := (M.2.1 77 10)) c_511 (s_pI (pc := 10) rw_152_10 hG509 rfl (fun M514 W513 => ?_))
        have hG515 := g_wf hG509 W513 rfl rfl (by decide)
        have F516 := FR.w F510 W513 (show 77 = 77 ∧ (5 = 4 ∨ 5 = 5 ∨ 7 ≤ 5 ∧ 5 ≤ 10) ∨ 77 = 77 ∧ (5 = 44 ∨ 5 = 52) ∨ 101 ≤ 77 ∧ 77 ≤ 108 by decide)
        refine to_c (pc := 13) rw_152_13 (x := (0 : Int32)) rfl rfl (s_r1 (pc := 14) rw_152_14 (A := 0) rfl (by decide) (s_r1 (pc := 90) rw_215_90 (A := 0) rfl (by decide) ?_))
        have k_517 : (0 : Int32).toInt = 0 := rfl
        have c_518 : M514.2.1 77 7 = (M.2.1 77 7) := (W_n W513 (by decide) (W_n W507 (by decide) rfl))
        have t_519 : (M514.2.1 77 7).toInt = (M.2.1 77 7).toInt := congrArg Int32.toInt c_518
        have c_520 : M514.2.1 77 6 = (M.2.1 77 6) := (W_n W513 (by decide) (W_n W507 (by decide) rfl))
        have t_521 : (M514.2.1 77 6).toInt = (M.2.1 77 6).toInt := congrArg Int32.toInt c_520
        have c_522 : M514.2.1 77 8 = (M.2.1 77 8) := (W_n W513 (by decide) (W_n W507 (by decide) rfl))
        have t_523 : (M514.2.1 77 8).toInt = (M.2.1 77 8).toInt := congrArg Int32.toInt c_522
        have c_524 : M514.2.1 77 4 = (1 : Int32) := (W_n W513 (by decide) (W_e W507))
        have k_525 : (1 : Int32).toInt = 1 := rfl
        have t_526 : (M514.2.1 77 4).toInt = (1 : Int32).toInt := congrArg Int32.toInt c_524
        have c_527 : M514.2.1 77 5 = (M.2.1 77 10) := (W_e W513)
        have t_528 : (M514.2.1 77 5).toInt = (M.2.1 77 10).toInt := congrArg Int32.toInt c_527
        exact h (0 : Int32) M514 hG515 F516 (by decide) (by decide) (by omega) (by omega) (by omega) (by omega) (fun z => absurd z (by omega)) (fun z => absurd z (by omega)) (by omega)
      · refine to_an (pc := 16) rw_215_16 rfl (to_dupr (pc := 17) rw_215_17 (tt_gI (pc := 18) rw_215_18 (g_o hG rfl) (v := (M.2.1 77 52)) rfl (to_c (pc := 21) rw_215_21 (x := (1 : Int32)) rfl rfl (s_sub (pc := 22) rw_215_22 (A := (M.2.1 77 52).toInt) (B := 1) rfl rfl (by omega) (fun v529 e530 => s_pI (pc := 23) rw_215_23 hG rfl (fun M532 W531 => ?_))))))
        have hG533 := g_w hG W531 (A := v529.toInt) rfl (lo := 0) (hi := 5) rfl rfl (by omega) (by decide)
        have F534 := FR.w F0 W531 (show 77 = 77 ∧ (52 = 4 ∨ 52 = 5 ∨ 7 ≤ 52 ∧ 52 ≤ 10) ∨ 77 = 77 ∧ (52 = 44 ∨ 52 = 52) ∨ 101 ≤ 77 ∧ 77 ≤ 108 by decide)
        refine to_an (pc := 26) rw_215_26 rfl (s_gR (pc := 27) rw_215_27 hG533 rfl (v := 105) rfl (to_an (pc := 30) rw_215_30 rfl (s_gR (pc := 31) rw_215_31 hG533 rfl (v := 108) rfl (to_an (pc := 34) rw_215_34 rfl ?_))))
        have c_535 : M532.2.1 77 52 = v529 := (W_e W531)
        refine tt_gI (pc := 35) rw_215_35 (g_o hG533 rfl) (v := v529) c_535 (s_ial (pc := 38) rw_215_38 hG533 rfl (n := 5) rfl rfl (A := v529.toInt) rfl (by omega) (by omega) (lo := 0) (hi := 39) rfl rfl (fun v536 w_537 _ _ => ?_))
        have t_538 := congrArg Int32.toInt w_537
        refine to_an (pc := 39) rw_215_39 rfl ?_
        have c_539 : M532.2.1 77 44 = (M.2.1 77 44) := (W_n W531 (by decide) rfl)
        have b_540 := g_b hG (a := 77) (i := 44) (lo := 0) (hi := 40) rfl rfl
        refine tt_gI (pc := 40) rw_215_40 (g_o hG533 rfl) (v := (M.2.1 77 44)) c_539 (s_ias (pc := 43) rw_215_43 hG533 rfl (n := 40) rfl (A := v536.toInt) rfl (by omega) (by omega) (fun M542 W541 => ?_))
        have hG543 := g_w hG533 W541 (A := (M.2.1 77 44).toInt) rfl (lo := 0) (hi := 40) rfl rfl (by omega) (by decide)
        have F544 := FR.w F534 W541 (show 105 = 77 ∧ ((v536.toInt).toNat = 4 ∨ (v536.toInt).toNat = 5 ∨ 7 ≤ (v536.toInt).toNat ∧ (v536.toInt).toNat ≤ 10) ∨ 105 = 77 ∧ ((v536.toInt).toNat = 44 ∨ (v536.toInt).toNat = 52) ∨ 101 ≤ 105 ∧ 105 ≤ 108 by omega)
        refine to_an (pc := 44) rw_215_44 rfl (s_v (pc := 45) rw_215_45 (dp0 hd (by decide)) (ls0 := [.ref 77]) rfl (Nat.le_of_ble_eq_true rfl) (Nat.le_of_ble_eq_true rfl) rfl (to_rc rfl rfl rfl (g_o hG543 rfl)) rfl ?_)
        have c_545 : M542.2.1 77 7 = (M.2.1 77 7) := (W_n W541 (fun z => absurd z.1 (by decide)) (W_n W531 (by decide) rfl))
        have t_546 : (M542.2.1 77 7).toInt = (M.2.1 77 7).toInt := congrArg Int32.toInt c_545
        have c_547 : M542.2.1 77 6 = (M.2.1 77 6) := (W_n W541 (fun z => absurd z.1 (by decide)) (W_n W531 (by decide) rfl))
        have t_548 : (M542.2.1 77 6).toInt = (M.2.1 77 6).toInt := congrArg Int32.toInt c_547
        refine C_156 hX (dp1 hd (by decide)) hG543 (by omega)  (fun M554 hG550 F549 p_551 p_552 p_553 => ?_)
        have F555 := FR.c F544 F549 tg_186
        have b_556 := g_b hG550 (a := 77) (i := 7) (lo := 0) (hi := 500) rfl rfl
        have c_557 : M554.2.1 77 6 = (M.2.1 77 6) := (F_n F549 (show ¬ (77 = 77 ∧ 7 ≤ 6 ∧ 6 ≤ 10) by decide) c_547)
        have t_558 : (M554.2.1 77 6).toInt = (M.2.1 77 6).toInt := congrArg Int32.toInt c_557
        have b_559 := g_b hG550 (a := 77) (i := 8) (lo := 0) (hi := 5) rfl rfl
        refine to_c (pc := 48) rw_215_48 (x := (1 : Int32)) rfl rfl (s_r1 (pc := 49) rw_215_49 (A := 1) rfl (by decide) ?_)
        have k_560 : (1 : Int32).toInt = 1 := rfl
        have c_561 : M554.2.1 77 44 = (M.2.1 77 44) := (F_n F549 (show ¬ (77 = 77 ∧ 7 ≤ 44 ∧ 44 ≤ 10) by decide) (W_n W541 (fun z => absurd z.1 (by decide)) c_539))
        have t_562 : (M554.2.1 77 44).toInt = (M.2.1 77 44).toInt := congrArg Int32.toInt c_561
        have c_563 : M554.2.1 77 52 = v529 := (F_n F549 (show ¬ (77 = 77 ∧ 7 ≤ 52 ∧ 52 ≤ 10) by decide) (W_n W541 (fun z => absurd z.1 (by decide)) c_535))
        have t_564 : (M554.2.1 77 52).toInt = v529.toInt := congrArg Int32.toInt c_563
        have j_567 : M.2.1 108 (v529.toInt).toNat = v536 := (W_n W531 (by omega) rfl).symm.trans w_537
        have c_568 : M554.2.1 77 4 = (M.2.1 77 4) := (F_n F549 (show ¬ (77 = 77 ∧ 7 ≤ 4 ∧ 4 ≤ 10) by decide) (W_n W541 (fun z => absurd z.1 (by decide)) (W_n W531 (by decide) rfl)))
        have t_569 : (M554.2.1 77 4).toInt = (M.2.1 77 4).toInt := congrArg Int32.toInt c_568
        have c_570 : M554.2.1 77 5 = (M.2.1 77 5) := (F_n F549 (show ¬ (77 = 77 ∧ 7 ≤ 5 ∧ 5 ≤ 10) by decide) (W_n W541 (fun z => absurd z.1 (by decide)) (W_n W531 (by decide) rfl)))
        have t_571 : (M554.2.1 77 5).toInt = (M.2.1 77 5).toInt := congrArg Int32.toInt c_570
        exact h (1 : Int32) M554 hG550 F555 (by decide) (by decide) (by omega) (by omega) (by omega) (by omega) (fun _ => AB_f (fun a i z => (F_n F549 (show ¬ (a = 77 ∧ 7 ≤ i ∧ i ≤ 10) by omega) (W_n W541 (by /-r105-/ omega) (W_n W531 (by /-r77,52-/ omega) rfl)))) q2) (fun _ => ST_close (M1 := M554) (k := (v529.toInt).toNat) q3 (by omega) (by omega) (by omega) (fun i => (F_n F549 (show ¬ (101 = 77 ∧ 7 ≤ i ∧ i ≤ 10) by omega) (W_n W541 (by omega) (W_n W531 (by omega) rfl)))) (fun i => (F_n F549 (show ¬ (108 = 77 ∧ 7 ≤ i ∧ i ≤ 10) by omega) (W_n W541 (by omega) (W_n W531 (by omega) rfl)))) (fun i z => by rw [j_567] at z; exact (F_n F549 (show ¬ (105 = 77 ∧ 7 ≤ i ∧ i ≤ 10) by omega) (W_n W541 (by omega) (W_n W531 (by omega) rfl)))) (by rw [j_567, (F_n F549 (show ¬ (105 = 77 ∧ 7 ≤ ((v536.toInt).toNat) ∧ ((v536.toInt).toNat) ≤ 10) by omega) (W_e W541))] <;> omega)) (by omega)
