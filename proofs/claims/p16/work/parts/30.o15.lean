theorem tg_270 : ∀ a i : Nat, (a < 0) → (a = 77 ∧ (i = 4 ∨ i = 5 ∨ 7 ≤ i ∧ i ≤ 10) ∨ a = 106 ∨ a = 107) := fun a i z => by omega
theorem tg_271 : ∀ a i : Nat, (a = 77 ∧ 7 ≤ i ∧ i ≤ 10) → (a = 77 ∧ (i = 4 ∨ i = 5 ∨ 7 ≤ i ∧ i ≤ 10) ∨ a = 106 ∨ a = 107) := fun a i z => by omega
theorem tg_272 : ∀ a i : Nat, (a = 77 ∧ (i = 4 ∨ i = 5 ∨ 7 ≤ i ∧ i ≤ 10) ∨ a = 106 ∨ a = 107) → (a = 77 ∧ (i = 4 ∨ i = 5 ∨ 7 ≤ i ∧ i ≤ 10) ∨ 102 ≤ a ∧ a ≤ 104 ∨ a = 106 ∨ a = 107) := fun a i z => by omega
theorem tg_273 : ∀ a i : Nat, (a = 77 ∧ (i = 4 ∨ i = 5 ∨ 7 ≤ i ∧ i ≤ 10)) → (a = 77 ∧ (i = 4 ∨ i = 5 ∨ 7 ≤ i ∧ i ≤ 10) ∨ 102 ≤ a ∧ a ≤ 104 ∨ a = 106 ∨ a = 107) := fun a i z => by omega
theorem tg_274 : ∀ a i : Nat, (a = 77 ∧ (i = 4 ∨ i = 5)) → (a = 77 ∧ (i = 4 ∨ i = 5 ∨ 7 ≤ i ∧ i ≤ 10) ∨ 102 ≤ a ∧ a ≤ 104 ∨ a = 106 ∨ a = 107) := fun a i z => by omega
theorem tg_275 : ∀ a i : Nat, (a = 77 ∧ 7 ≤ i ∧ i ≤ 10) → (a = 77 ∧ (i = 4 ∨ i = 5 ∨ 7 ≤ i ∧ i ≤ 10) ∨ 102 ≤ a ∧ a ≤ 104 ∨ a = 106 ∨ a = 107) := fun a i z => by omega
theorem tg_276 : ∀ a i : Nat, (a = 77 ∧ 7 ≤ i ∧ i ≤ 10) → (a = 77 ∧ (i = 4 ∨ i = 5 ∨ 7 ≤ i ∧ i ≤ 10) ∨ a = 77 ∧ (i = 44 ∨ i = 52) ∨ 101 ≤ a ∧ a ≤ 108) := fun a i z => by omega
theorem tg_277 : ∀ a i : Nat, (a = 77 ∧ (i = 4 ∨ i = 5 ∨ 7 ≤ i ∧ i ≤ 10) ∨ 102 ≤ a ∧ a ≤ 104 ∨ a = 106 ∨ a = 107) → (a = 77 ∧ (i = 4 ∨ i = 5 ∨ 7 ≤ i ∧ i ≤ 10) ∨ a = 77 ∧ (i = 44 ∨ i = 52) ∨ 101 ≤ a ∧ a ≤ 108) := fun a i z => by omega
set_option maxRecDepth 4000 in
set_option maxHeartbeats 0 in
theorem C_211 {X : mm_X} {d : Nat} {M : mm_M} {Q : Option Value → mm_M → Prop} (hX : g_X X) (hd : 1 ≤ d) (hG : g_G M) (h : ∀ (r : Int32) (M1 : mm_M), g_G M1 → FR md_wr2 M M1 → (-1 ≤ r.toInt) → (r.toInt ≤ 5) → (0 ≤ r.toInt → (M.2.1 77 8).toInt = 2) → Q (some (.int r)) M1) : mm_T X d 210 0 [.ref 77, .null, .null] [] M Q := by
  have F0 : FR md_wr2 M M := FR.rf
  refine to_an (pc := 0) rw_211_0 rfl ?_
  have b_1 := g_b hG (a := 77) (i := 8) (lo := 0) (hi := 5) rfl rfl
  refine tt_gI (pc := 1) rw_211_1 (g_o hG rfl) (v := (M.2.1 77 8)) rfl (to_c (pc := 4) rw_211_4 (x := (2 : Int32)) rfl rfl (b_cne (pc := 5) rw_211_5 (A := (M.2.1 77 8).toInt) (B := 2) rfl rfl (fun h2 => ?_) (fun h2 => ?_)))
  · refine to_c (pc := 31) rw_211_31 (x := (-1 : Int32)) rfl rfl (to_isn (pc := 32) rw_211_32 (ls2 := [.ref 77, .int (-1 : Int32), .null]) rfl rfl (to_in (pc := 33) rw_211_33 rfl (b_ilt_t (pc := 34) rw_211_34 (A := -1) rfl (by decide) (to_an (pc := 42) rw_211_42 rfl (to_c (pc := 43) rw_211_43 (x := (1 : Int32)) rfl rfl (s_v (pc := 44) rw_211_44 (dp0 hd (by decide)) (ls0 := [.ref 77, .int (1 : Int32)]) rfl (Nat.le_of_ble_eq_true rfl) (Nat.le_of_ble_eq_true rfl) rfl (to_rc rfl rfl rfl (g_o hG rfl)) rfl (to_an (pc := 0) rw_152_0 rfl (to_in (pc := 1) rw_152_1 rfl (s_pI (pc := 2) rw_152_2 hG rfl (fun M4 W3 => ?_))))))))))
    have hG5 := g_wf hG W3 rfl rfl (by decide)
    have F6 := FR.w F0 W3 (show 77 = 77 ∧ (4 = 4 ∨ 4 = 5) by decide)
    refine to_an (pc := 5) rw_152_5 rfl (to_an (pc := 6) rw_152_6 rfl ?_)
    have c_7 : M4.2.1 77 10 = (M.2.1 77 10) := (W_n W3 (by decide) rfl)
    have b_8 := g_b hG (a := 77) (i := 10) (lo := 0) (hi := 500) rfl rfl
    refine tt_gI (pc := 7) rw_152_7 (g_o hG5 rfl) (v := (M.2.1 77 10)) c_7 (s_pI (pc := 10) rw_152_10 hG5 rfl (fun M10 W9 => ?_))
    have hG11 := g_wf hG5 W9 rfl rfl (by decide)
    have F12 := FR.w F6 W9 (show 77 = 77 ∧ (5 = 4 ∨ 5 = 5) by decide)
    refine to_c (pc := 13) rw_152_13 (x := (0 : Int32)) rfl rfl (s_r1 (pc := 14) rw_152_14 (A := 0) rfl (by decide) (to_isn (pc := 47) rw_211_47 (ls2 := [.ref 77, .int (-1 : Int32), .int (0 : Int32)]) rfl rfl (to_c (pc := 48) rw_211_48 (x := (-1 : Int32)) rfl rfl (to_r0 (pc := 49) rw_211_49 ?_))))
    have k_13 : (-1 : Int32).toInt = -1 := rfl
    exact h (-1 : Int32) M10 hG11 F12 (by omega) (by omega) (by omega)
  · refine to_an (pc := 8) rw_211_8 rfl (tt_gI (pc := 9) rw_211_9 (g_o hG rfl) (v := (M.2.1 77 9)) rfl (to_c (pc := 12) rw_211_12 (x := (33554431 : Int32)) rfl rfl (s_and (pc := 15) rw_211_15 (B := 33554431) rfl (by omega) (fun v14 e15 _ _ => b_ine (pc := 16) rw_211_16 (A := v14.toInt) rfl (fun h16 => ?_) (fun h16 => ?_)))))
    · refine to_c (pc := 31) rw_211_31 (x := (-1 : Int32)) rfl rfl (to_isn (pc := 32) rw_211_32 (ls2 := [.ref 77, .int (-1 : Int32), .null]) rfl rfl (to_in (pc := 33) rw_211_33 rfl (b_ilt_t (pc := 34) rw_211_34 (A := -1) rfl (by decide) (to_an (pc := 42) rw_211_42 rfl (to_c (pc := 43) rw_211_43 (x := (1 : Int32)) rfl rfl (s_v (pc := 44) rw_211_44 (dp0 hd (by decide)) (ls0 := [.ref 77, .int (1 : Int32)]) rfl (Nat.le_of_ble_eq_true rfl) (Nat.le_of_ble_eq_true rfl) rfl (to_rc rfl rfl rfl (g_o hG rfl)) rfl (to_an (pc := 0) rw_152_0 rfl (to_in (pc := 1) rw_152_1 rfl (s_pI (pc := 2) rw_152_2 hG rfl (fun M18 W17 => ?_))))))))))
      have hG19 := g_wf hG W17 rfl rfl (by decide)
      have F20 := FR.w F0 W17 (show 77 = 77 ∧ (4 = 4 ∨ 4 = 5) by decide)
      refine to_an (pc := 5) rw_152_5 rfl (to_an (pc := 6) rw_152_6 rfl ?_)
      have c_21 : M18.2.1 77 10 = (M.2.1 77 10) := (W_n W17 (by decide) rfl)
      have b_22 := g_b hG (a := 77) (i := 10) (lo := 0) (hi := 500) rfl rfl
      refine tt_gI (pc := 7) rw_152_7 (g_o hG19 rfl) (v := (M.2.1 77 10)) c_21 (s_pI (pc := 10) rw_152_10 hG19 rfl (fun M24 W23 => ?_))
      have hG25 := g_wf hG19 W23 rfl rfl (by decide)
      have F26 := FR.w F20 W23 (show 77 = 77 ∧ (5 = 4 ∨ 5 = 5) by decide)
      refine to_c (pc := 13) rw_152_13 (x := (0 : Int32)) rfl rfl (s_r1 (pc := 14) rw_152_14 (A := 0) rfl (by decide) (to_isn (pc := 47) rw_211_47 (ls2 := [.ref 77, .int (-1 : Int32), .int (0 : Int32)]) rfl rfl (to_c (pc := 48) rw_211_48 (x := (-1 : Int32)) rfl rfl (to_r0 (pc := 49) rw_211_49 ?_))))
      have k_27 : (-1 : Int32).toInt = -1 := rfl
      exact h (-1 : Int32) M24 hG25 F26 (by omega) (by omega) (by omega)
    · refine to_an (pc := 19) rw_211_19 rfl (tt_gI (pc := 20) rw_211_20 (g_o hG rfl) (v := (M.2.1 77 9)) rfl (to_c (pc := 23) rw_211_23 (x := (25 : Int32)) rfl rfl (s_any (pc := 25) rw_211_25 (fun _ _ => rfl) (fun v28 => to_c (pc := 26) rw_211_26 (x := (1 : Int32)) rfl rfl (s_any (pc := 27) rw_211_27 (fun _ _ => rfl) (fun v29 => to_go (pc := 28) rw_211_28 (to_isn (pc := 32) rw_211_32 (ls2 := [.ref 77, .int v29, .null]) rfl rfl (to_in (pc := 33) rw_211_33 rfl (b_ilt (pc := 34) rw_211_34 (A := v29.toInt) rfl (fun h30 => ?_) (fun h30 => ?_))))))))))
      · refine to_an (pc := 42) rw_211_42 rfl (to_c (pc := 43) rw_211_43 (x := (1 : Int32)) rfl rfl (s_v (pc := 44) rw_211_44 (dp0 hd (by decide)) (ls0 := [.ref 77, .int (1 : Int32)]) rfl (Nat.le_of_ble_eq_true rfl) (Nat.le_of_ble_eq_true rfl) rfl (to_rc rfl rfl rfl (g_o hG rfl)) rfl (to_an (pc := 0) rw_152_0 rfl (to_in (pc := 1) rw_152_1 rfl (s_pI (pc := 2) rw_152_2 hG rfl (fun M32 W31 => ?_))))))
        have hG33 := g_wf hG W31 rfl rfl (by decide)
        have F34 := FR.w F0 W31 (show 77 = 77 ∧ (4 = 4 ∨ 4 = 5) by decide)
        refine to_an (pc := 5) rw_152_5 rfl (to_an (pc := 6) rw_152_6 rfl ?_)
        have c_35 : M32.2.1 77 10 = (M.2.1 77 10) := (W_n W31 (by decide) rfl)
        have b_36 := g_b hG (a := 77) (i := 10) (lo := 0) (hi := 500) rfl rfl
        refine tt_gI (pc := 7) rw_152_7 (g_o hG33 rfl) (v := (M.2.1 77 10)) c_35 (s_pI (pc := 10) rw_152_10 hG33 rfl (fun M38 W37 => ?_))
        have hG39 := g_wf hG33 W37 rfl rfl (by decide)
        have F40 := FR.w F34 W37 (show 77 = 77 ∧ (5 = 4 ∨ 5 = 5) by decide)
        refine to_c (pc := 13) rw_152_13 (x := (0 : Int32)) rfl rfl (s_r1 (pc := 14) rw_152_14 (A := 0) rfl (by decide) (to_isn (pc := 47) rw_211_47 (ls2 := [.ref 77, .int v29, .int (0 : Int32)]) rfl rfl (to_c (pc := 48) rw_211_48 (x := (-1 : Int32)) rfl rfl (to_r0 (pc := 49) rw_211_49 ?_))))
        have k_41 : (-1 : Int32).toInt = -1 := rfl
        exact h (-1 : Int32) M38 hG39 F40 (by omega) (by omega) (by omega)
      · refine to_in (pc := 37) rw_211_37 rfl (to_c (pc := 38) rw_211_38 (x := (5 : Int32)) rfl rfl (b_cle (pc := 39) rw_211_39 (A := v29.toInt) (B := 5) rfl rfl (fun h42 => ?_) (fun h42 => ?_)))
        · refine to_in (pc := 50) rw_211_50 rfl (to_r0 (pc := 51) rw_211_51 ?_)
          exact h v29 M hG F0 (by omega) (by omega) (by omega)
        · refine to_an (pc := 42) rw_211_42 rfl (to_c (pc := 43) rw_211_43 (x := (1 : Int32)) rfl rfl (s_v (pc := 44) rw_211_44 (dp0 hd (by decide)) (ls0 := [.ref 77, .int (1 : Int32)]) rfl (Nat.le_of_ble_eq_true rfl) (Nat.le_of_ble_eq_true rfl) rfl (to_rc rfl rfl rfl (g_o hG rfl)) rfl (to_an (pc := 0) rw_152_0 rfl (to_in (pc := 1) rw_152_1 rfl (s_pI (pc := 2) rw_152_2 hG rfl (fun M44 W43 => ?_))))))
          have hG45 := g_wf hG W43 rfl rfl (by decide)
          have F46 := FR.w F0 W43 (show 77 = 77 ∧ (4 = 4 ∨ 4 = 5) by decide)
          refine to_an (pc := 5) rw_152_5 rfl (to_an (pc := 6) rw_152_6 rfl ?_)
          have c_47 : M44.2.1 77 10 = (M.2.1 77 10) := (W_n W43 (by decide) rfl)
          have b_48 := g_b hG (a := 77) (i := 10) (lo := 0) (hi := 500) rfl rfl
          refine tt_gI (pc := 7) rw_152_7 (g_o hG45 rfl) (v := (M.2.1 77 10)) c_47 (s_pI (pc := 10) rw_152_10 hG45 rfl (fun M50 W49 => ?_))
          have hG51 := g_wf hG45 W49 rfl rfl (by decide)
          have F52 := FR.w F46 W49 (show 77 = 77 ∧ (5 = 4 ∨ 5 = 5) by decide)
          refine to_c (pc := 13) rw_152_13 (x := (0 : Int32)) rfl rfl (s_r1 (pc := 14) rw_152_14 (A := 0) rfl (by decide) (to_isn (pc := 47) rw_211_47 (ls2 := [.ref 77, .int v29, .int (0 : Int32)]) rfl rfl (to_c (pc := 48) rw_211_48 (x := (-1 : Int32)) rfl rfl (to_r0 (pc := 49) rw_211_49 ?_))))
          have k_53 : (-1 : Int32).toInt = -1 := rfl
          exact h (-1 : Int32) M50 hG51 F52 (by omega) (by omega) (by omega)
set_option maxRecDepth 4000 in
set_option maxHeartbeats 0 in
theorem C_212 {X : mm_X} {d : Nat} {M : mm_M} {Q : Option Value → mm_M → Prop} {a : Int32} (hX : g_X X) (hd : 2 ≤ d) (hG : g_G M) (q1 : 0 ≤ a.toInt) (q2 : a.toInt ≤ 39) (q3 : (M.2.1 77 7).toInt ≤ (M.2.1 77 6).toInt) (h : ∀ (r : Int32) (M1 : mm_M), g_G M1 → FR md_ho M M1 → (0 ≤ r.toInt) → (r.toInt ≤ 1) → ((M1.2.1 77 7).toInt ≤ (M1.2.1 77 6).toInt) → ((M.2.1 77 7).toInt ≤ (M1.2.1 77 7).toInt) → (r.toInt = 1 → (M1.2.1 77 8).toInt = 0 ∨ (M.2.1 77 7).toInt < (M1.2.1 77 7).toInt) → Q (some (.int r)) M1) : mm_T X d 211 0 [.ref 77, .int a, .null, .null] [] M Q := by
  have F0 : FR md_ho M M := FR.rf
  have b_1 := g_b hG (a := 77) (i := 7) (lo := 0) (hi := 500) rfl rfl
  have b_2 := g_b hG (a := 77) (i := 6) (lo := 0) (hi := 500) rfl rfl
  refine to_an (pc := 0) rw_212_0 rfl ?_
  have b_3 := g_b hG (a := 77) (i := 8) (lo := 0) (hi := 5) rfl rfl
  refine tt_gI (pc := 1) rw_212_1 (g_o hG rfl) (v := (M.2.1 77 8)) rfl (to_c (pc := 4) rw_212_4 (x := (3 : Int32)) rfl rfl (b_cne (pc := 5) rw_212_5 (A := (M.2.1 77 8).toInt) (B := 3) rfl rfl (fun h4 => ?_) (fun h4 => ?_)))
  · refine to_an (pc := 45) rw_212_45 rfl (to_an (pc := 46) rw_212_46 rfl (tt_gI (pc := 47) rw_212_47 (g_o hG rfl) (v := (M.2.1 77 9)) rfl (s_v (pc := 50) rw_212_50 (dp0 hd (by decide)) (ls0 := [.ref 77, .int (M.2.1 77 9), .null]) rfl (Nat.le_of_ble_eq_true rfl) (Nat.le_of_ble_eq_true rfl) rfl (to_rc rfl rfl rfl (g_o hG rfl)) rfl ?_)))
    have b_5 := g_b hG (a := 77) (i := 12) (lo := 0) (hi := 8) rfl rfl
    refine C_175 hX (dp1 hd (by decide)) hG (n := (M.2.1 77 9)) (fun r6 M12 hG8 F7 p_9 p_10 p_11 => ?_)
    have F13 := FR.c F0 F7 tg_270
    refine to_isn (pc := 53) rw_212_53 (ls2 := [.ref 77, .int a, .int r6, .null]) rfl rfl (to_an (pc := 54) rw_212_54 rfl (to_an (pc := 55) rw_212_55 rfl ?_))
    have c_14 : M12.2.1 77 9 = (M.2.1 77 9) := (F_n F7 (show ¬ (77 < 0) by decide) rfl)
    refine tt_gI (pc := 56) rw_212_56 (g_o hG8 rfl) (v := (M.2.1 77 9)) c_14 (s_v (pc := 59) rw_212_59 (dp0 hd (by decide)) (ls0 := [.ref 77, .int (M.2.1 77 9), .null]) rfl (Nat.le_of_ble_eq_true rfl) (Nat.le_of_ble_eq_true rfl) rfl (to_rc rfl rfl rfl (g_o hG8 rfl)) rfl ?_)
    have c_15 : M12.2.1 77 13 = (M.2.1 77 13) := (F_n F7 (show ¬ (77 < 0) by decide) rfl)
    have b_16 := g_b hG (a := 77) (i := 13) (lo := 0) (hi := 12) rfl rfl
    have t_17 : (M12.2.1 77 13).toInt = (M.2.1 77 13).toInt := congrArg Int32.toInt c_15
    refine C_176 hX (dp1 hd (by decide)) hG8 (n := (M.2.1 77 9)) (fun r18 M24 hG20 F19 p_21 p_22 p_23 => ?_)
    have F25 := FR.c F13 F19 tg_270
    refine to_isn (pc := 62) rw_212_62 (ls2 := [.ref 77, .int a, .int r6, .int r18]) rfl rfl (to_in (pc := 63) rw_212_63 rfl (b_ige (pc := 64) rw_212_64 (A := r6.toInt) rfl (fun h26 => ?_) (fun h26 => ?_)))
    · refine to_an (pc := 77) rw_212_77 rfl (s_v (pc := 78) rw_212_78 (dp0 hd (by decide)) (ls0 := [.ref 77]) rfl (Nat.le_of_ble_eq_true rfl) (Nat.le_of_ble_eq_true rfl) rfl (to_rc rfl rfl rfl (g_o hG20 rfl)) rfl ?_)
      have c_27 : M24.2.1 77 7 = (M.2.1 77 7) := (F_n F19 (show ¬ (77 < 0) by decide) (F_n F7 (show ¬ (77 < 0) by decide) rfl))
      have t_28 : (M24.2.1 77 7).toInt = (M.2.1 77 7).toInt := congrArg Int32.toInt c_27
      have c_29 : M24.2.1 77 6 = (M.2.1 77 6) := (F_n F19 (show ¬ (77 < 0) by decide) (F_n F7 (show ¬ (77 < 0) by decide) rfl))
      have t_30 : (M24.2.1 77 6).toInt = (M.2.1 77 6).toInt := congrArg Int32.toInt c_29
      refine C_156 hX (dp1 hd (by decide)) hG20 (by omega)  (fun M36 hG32 F31 p_33 p_34 p_35 => ?_)
      have F37 := FR.c F25 F31 tg_271
      have b_38 := g_b hG32 (a := 77) (i := 7) (lo := 0) (hi := 500) rfl rfl
      have c_39 : M36.2.1 77 6 = (M.2.1 77 6) := (F_n F31 (show ¬ (77 = 77 ∧ 7 ≤ 6 ∧ 6 ≤ 10) by decide) c_29)
      have t_40 : (M36.2.1 77 6).toInt = (M.2.1 77 6).toInt := congrArg Int32.toInt c_39
      have b_41 := g_b hG32 (a := 77) (i := 8) (lo := 0) (hi := 5) rfl rfl
      refine to_in (pc := 81) rw_212_81 rfl (b_ilt (pc := 82) rw_212_82 (A := r18.toInt) rfl (fun h42 => ?_) (fun h42 => ?_))
      · refine to_an (pc := 99) rw_212_99 rfl (to_c (pc := 100) rw_212_100 (x := (0 : Int32)) rfl rfl (to_an (pc := 101) rw_212_101 rfl (s_gR (pc := 102) rw_212_102 hG32 rfl (v := 83) rfl (to_in (pc := 105) rw_212_105 rfl (s_ial (pc := 106) rw_212_106 hG32 rfl (n := 16) rfl rfl (A := r6.toInt) rfl (by omega) (by omega) (lo := 0) (hi := 63) rfl rfl (fun v43 w_44 _ _ => to_an (pc := 107) rw_212_107 rfl (s_gR (pc := 108) rw_212_108 hG32 rfl (v := 82) rfl (to_in (pc := 111) rw_212_111 rfl (s_ial (pc := 112) rw_212_112 hG32 rfl (n := 16) rfl rfl (A := r6.toInt) rfl (by omega) (by omega) (lo := 0) (hi := 59) rfl rfl (fun v45 w_46 _ _ => s_sub (pc := 113) rw_212_113 (A := v43.toInt) (B := v45.toInt) rfl rfl (by omega) (fun v47 e48 => s_v (pc := 114) rw_212_114 (dp0 hd (by decide)) (ls0 := [.ref 77, .int (0 : Int32), .int v47]) rfl (Nat.le_of_ble_eq_true rfl) (Nat.le_of_ble_eq_true rfl) rfl (to_rc rfl rfl rfl (g_o hG32 rfl)) rfl ?_)))))))))))
        refine to_an (pc := 0) rw_162_0 rfl (tt_gI (pc := 1) rw_162_1 (g_o hG32 rfl) (v := (M36.2.1 77 8)) rfl (to_c (pc := 4) rw_162_4 (x := (3 : Int32)) rfl rfl (b_ceq (pc := 5) rw_162_5 (A := (M36.2.1 77 8).toInt) (B := 3) rfl rfl (fun h49 => ?_) (fun h49 => ?_))))
        · refine to_an (pc := 14) rw_162_14 rfl (tt_gI (pc := 15) rw_162_15 (g_o hG32 rfl) (v := (M36.2.1 77 9)) rfl (to_in (pc := 18) rw_162_18 rfl (b_clt (pc := 19) rw_162_19 (A := (M36.2.1 77 9).toInt) (B := 0) rfl rfl (fun h50 => ?_) (fun h50 => ?_))))
          · refine to_an (pc := 30) rw_162_30 rfl (to_c (pc := 31) rw_162_31 (x := (2 : Int32)) rfl rfl (s_v (pc := 32) rw_162_32 (dp1 hd (by decide)) (ls0 := [.ref 77, .int (2 : Int32)]) rfl (Nat.le_of_ble_eq_true rfl) (Nat.le_of_ble_eq_true rfl) rfl (to_rc rfl rfl rfl (g_o hG32 rfl)) rfl (to_an (pc := 0) rw_152_0 rfl (to_in (pc := 1) rw_152_1 rfl (s_pI (pc := 2) rw_152_2 hG32 rfl (fun M52 W51 => ?_))))))
            have hG53 := g_wf hG32 W51 rfl rfl (by decide)
            have F54 := FR.w F37 W51 (show 77 = 77 ∧ (4 = 4 ∨ 4 = 5 ∨ 7 ≤ 4 ∧ 4 ≤ 10) ∨ 77 = 106 ∨ 77 = 107 by decide)
            refine to_an (pc := 5) rw_152_5 rfl (to_an (pc := 6) rw_152_6 rfl ?_)
            have c_55 : M52.2.1 77 10 = (M36.2.1 77 10) := (W_n W51 (by decide) rfl)
            have b_56 := g_b hG32 (a := 77) (i := 10) (lo := 0) (hi := 500) rfl rfl
            refine tt_gI (pc := 7) rw_152_7 (g_o hG53 rfl) (v := (M36.2.1 77 10)) c_55 (s_pI (pc := 10) rw_152_10 hG53 rfl (fun M58 W57 => ?_))
            have hG59 := g_wf hG53 W57 rfl rfl (by decide)
            have F60 := FR.w F54 W57 (show 77 = 77 ∧ (5 = 4 ∨ 5 = 5 ∨ 7 ≤ 5 ∧ 5 ≤ 10) ∨ 77 = 106 ∨ 77 = 107 by decide)
            refine to_c (pc := 13) rw_152_13 (x := (0 : Int32)) rfl rfl (s_r1 (pc := 14) rw_152_14 (A := 0) rfl (by decide) (b_ieq_t (pc := 35) rw_162_35 (A := 0) rfl (by decide) (to_c (pc := 42) rw_162_42 (x := (0 : Int32)) rfl rfl (s_r1 (pc := 43) rw_162_43 (A := 0) rfl (by decide) (b_ine_f (pc := 117) rw_212_117 (A := 0) rfl (by decide) (to_c (pc := 120) rw_212_120 (x := (0 : Int32)) rfl rfl (s_r1 (pc := 121) rw_212_121 (A := 0) rfl (by decide) ?_)))))))
            have k_61 : (0 : Int32).toInt = 0 := rfl
            have c_62 : M58.2.1 77 7 = (M36.2.1 77 7) := (W_n W57 (by decide) (W_n W51 (by decide) rfl))
            have t_63 : (M58.2.1 77 7).toInt = (M36.2.1 77 7).toInt := congrArg Int32.toInt c_62
            have c_64 : M58.2.1 77 6 = (M.2.1 77 6) := (W_n W57 (by decide) (W_n W51 (by decide) c_39))
            have t_65 : (M58.2.1 77 6).toInt = (M.2.1 77 6).toInt := congrArg Int32.toInt c_64
            have c_66 : M58.2.1 77 8 = (M36.2.1 77 8) := (W_n W57 (by decide) (W_n W51 (by decide) rfl))
            have t_67 : (M58.2.1 77 8).toInt = (M36.2.1 77 8).toInt := congrArg Int32.toInt c_66
            exact h (0 : Int32) M58 hG59 F60 (by decide) (by decide) (by omega) (by omega) (by omega)
          · refine to_an (pc := 22) rw_162_22 rfl (tt_gI (pc := 23) rw_162_23 (g_o hG32 rfl) (v := (M36.2.1 77 9)) rfl (to_in (pc := 26) rw_162_26 rfl (b_cle (pc := 27) rw_162_27 (A := (M36.2.1 77 9).toInt) (B := v47.toInt) rfl rfl (fun h68 => ?_) (fun h68 => ?_))))
            · refine to_c (pc := 38) rw_162_38 (x := (1 : Int32)) rfl rfl (to_go (pc := 39) rw_162_39 (s_r1 (pc := 43) rw_162_43 (A := 1) rfl (by decide) (b_ine_t (pc := 117) rw_212_117 (A := 1) rfl (by decide) (to_an (pc := 122) rw_212_122 rfl (s_gR (pc := 123) rw_212_123 hG32 rfl (v := 106) rfl (to_in (pc := 126) rw_212_126 rfl (to_dup2 (pc := 127) rw_212_127 (s_lal (pc := 128) rw_212_128 hG32 rfl (n := 40) rfl (A := a.toInt) rfl (by omega) (by omega) (fun l69 => s_cl (pc := 129) rw_212_129 rfl (fun l70 => to_an (pc := 130) rw_212_130 rfl (s_gR (pc := 131) rw_212_131 hG32 rfl (v := 82) rfl ?_)))))))))))
              refine to_in (pc := 134) rw_212_134 rfl (s_ialk (pc := 135) rw_212_135 hG32 rfl (n := 16) rfl rfl (A := r6.toInt) rfl (by omega) (by omega) (v := v45) w_46 (to_an (pc := 136) rw_212_136 rfl (tt_gI (pc := 137) rw_212_137 (g_o hG32 rfl) (v := (M36.2.1 77 9)) rfl (s_add (pc := 140) rw_212_140 (A := v45.toInt) (B := (M36.2.1 77 9).toInt) rfl rfl (by omega) (fun v73 e74 => s_anyS (pc := 141) rw_212_141 (fun _ _ => rfl) (fun l75 => s_anyL (pc := 142) rw_212_142 (fun _ _ => rfl) (fun l76 => s_las (pc := 143) rw_212_143 hG32 rfl (n := 40) rfl (A := a.toInt) rfl (by omega) (by omega) (fun M78 W77 => ?_))))))))
              have hG79 := g_wl hG32 W77
              have F80 := FR.wl F37 W77 (show 106 = 77 ∧ ((a.toInt).toNat = 4 ∨ (a.toInt).toNat = 5 ∨ 7 ≤ (a.toInt).toNat ∧ (a.toInt).toNat ≤ 10) ∨ 106 = 106 ∨ 106 = 107 by omega)
              refine to_an (pc := 144) rw_212_144 rfl (s_v (pc := 145) rw_212_145 (dp0 hd (by decide)) (ls0 := [.ref 77]) rfl (Nat.le_of_ble_eq_true rfl) (Nat.le_of_ble_eq_true rfl) rfl (to_rc rfl rfl rfl (g_o hG79 rfl)) rfl ?_)
              have c_81 : M78.2.1 77 7 = (M36.2.1 77 7) := (W_l W77 rfl)
              have t_82 : (M78.2.1 77 7).toInt = (M36.2.1 77 7).toInt := congrArg Int32.toInt c_81
              have c_83 : M78.2.1 77 6 = (M.2.1 77 6) := (W_l W77 c_39)
              have t_84 : (M78.2.1 77 6).toInt = (M.2.1 77 6).toInt := congrArg Int32.toInt c_83
              refine C_156 hX (dp1 hd (by decide)) hG79 (by omega)  (fun M90 hG86 F85 p_87 p_88 p_89 => ?_)
              have F91 := FR.c F80 F85 tg_271
              have b_92 := g_b hG86 (a := 77) (i := 7) (lo := 0) (hi := 500) rfl rfl
              have c_93 : M90.2.1 77 6 = (M.2.1 77 6) := (F_n F85 (show ¬ (77 = 77 ∧ 7 ≤ 6 ∧ 6 ≤ 10) by decide) c_83)
              have t_94 : (M90.2.1 77 6).toInt = (M.2.1 77 6).toInt := congrArg Int32.toInt c_93
              have b_95 := g_b hG86 (a := 77) (i := 8) (lo := 0) (hi := 5) rfl rfl
              refine to_c (pc := 148) rw_212_148 (x := (1 : Int32)) rfl rfl (s_r1 (pc := 149) rw_212_149 (A := 1) rfl (by decide) ?_)
              have k_96 : (1 : Int32).toInt = 1 := rfl
              exact h (1 : Int32) M90 hG86 F91 (by decide) (by decide) (by omega) (by omega) (by omega)
            · refine to_an (pc := 30) rw_162_30 rfl (to_c (pc := 31) rw_162_31 (x := (2 : Int32)) rfl rfl (s_v (pc := 32) rw_162_32 (dp1 hd (by decide)) (ls0 := [.ref 77, .int (2 : Int32)]) rfl (Nat.le_of_ble_eq_true rfl) (Nat.le_of_ble_eq_true rfl) rfl (to_rc rfl rfl rfl (g_o hG32 rfl)) rfl (to_an (pc := 0) rw_152_0 rfl (to_in (pc := 1) rw_152_1 rfl (s_pI (pc := 2) rw_152_2 hG32 rfl (fun M98 W97 => ?_))))))
              have hG99 := g_wf hG32 W97 rfl rfl (by decide)
              have F100 := FR.w F37 W97 (show 77 = 77 ∧ (4 = 4 ∨ 4 = 5 ∨ 7 ≤ 4 ∧ 4 ≤ 10) ∨ 77 = 106 ∨ 77 = 107 by decide)
              refine to_an (pc := 5) rw_152_5 rfl (to_an (pc := 6) rw_152_6 rfl ?_)
              have c_101 : M98.2.1 77 10 = (M36.2.1 77 10) := (W_n W97 (by decide) rfl)
              have b_102 := g_b hG32 (a := 77) (i := 10) (lo := 0) (hi := 500) rfl rfl
              refine tt_gI (pc := 7) rw_152_7 (g_o hG99 rfl) (v := (M36.2.1 77 10)) c_101 (s_pI (pc := 10) rw_152_10 hG99 rfl (fun M104 W103 => ?_))
              have hG105 := g_wf hG99 W103 rfl rfl (by decide)
              have F106 := FR.w F100 W103 (show 77 = 77 ∧ (5 = 4 ∨ 5 = 5 ∨ 7 ≤ 5 ∧ 5 ≤ 10) ∨ 77 = 106 ∨ 77 = 107 by decide)
              refine to_c (pc := 13) rw_152_13 (x := (0 : Int32)) rfl rfl (s_r1 (pc := 14) rw_152_14 (A := 0) rfl (by decide) (b_ieq_t (pc := 35) rw_162_35 (A := 0) rfl (by decide) (to_c (pc := 42) rw_162_42 (x := (0 : Int32)) rfl rfl (s_r1 (pc := 43) rw_162_43 (A := 0) rfl (by decide) (b_ine_f (pc := 117) rw_212_117 (A := 0) rfl (by decide) (to_c (pc := 120) rw_212_120 (x := (0 : Int32)) rfl rfl (s_r1 (pc := 121) rw_212_121 (A := 0) rfl (by decide) ?_)))))))
              have k_107 : (0 : Int32).toInt = 0 := rfl
              have c_108 : M104.2.1 77 7 = (M36.2.1 77 7) := (W_n W103 (by decide) (W_n W97 (by decide) rfl))
              have t_109 : (M104.2.1 77 7).toInt = (M36.2.1 77 7).toInt := congrArg Int32.toInt c_108
              have c_110 : M104.2.1 77 6 = (M.2.1 77 6) := (W_n W103 (by decide) (W_n W97 (by decide) c_39))
              have t_111 : (M104.2.1 77 6).toInt = (M.2.1 77 6).toInt := congrArg Int32.toInt c_110
              have c_112 : M104.2.1 77 8 = (M36.2.1 77 8) := (W_n W103 (by decide) (W_n W97 (by decide) rfl))
              have t_113 : (M104.2.1 77 8).toInt = (M36.2.1 77 8).toInt := congrArg Int32.toInt c_112
              exact h (0 : Int32) M104 hG105 F106 (by decide) (by decide) (by omega) (by omega) (by omega)
        · refine to_an (pc := 8) rw_162_8 rfl (to_c (pc := 9) rw_162_9 (x := (1 : Int32)) rfl rfl (s_v (pc := 10) rw_162_10 (dp1 hd (by decide)) (ls0 := [.ref 77, .int (1 : Int32)]) rfl (Nat.le_of_ble_eq_true rfl) (Nat.le_of_ble_eq_true rfl) rfl (to_rc rfl rfl rfl (g_o hG32 rfl)) rfl (to_an (pc := 0) rw_152_0 rfl (to_in (pc := 1) rw_152_1 rfl (s_pI (pc := 2) rw_152_2 hG32 rfl (fun M115 W114 => ?_))))))
          have hG116 := g_wf hG32 W114 rfl rfl (by decide)
          have F117 := FR.w F37 W114 (show 77 = 77 ∧ (4 = 4 ∨ 4 = 5 ∨ 7 ≤ 4 ∧ 4 ≤ 10) ∨ 77 = 106 ∨ 77 = 107 by decide)
          refine to_an (pc := 5) rw_152_5 rfl (to_an (pc := 6) rw_152_6 rfl ?_)
          have c_118 : M115.2.1 77 10 = (M36.2.1 77 10) := (W_n W114 (by decide) rfl)
          have b_119 := g_b hG32 (a := 77) (i := 10) (lo := 0) (hi := 500) rfl rfl
          refine tt_gI (pc := 7) rw_152_7 (g_o hG116 rfl) (v := (M36.2.1 77 10)) c_118 (s_pI (pc := 10) rw_152_10 hG116 rfl (fun M121 W120 => ?_))
          have hG122 := g_wf hG116 W120 rfl rfl (by decide)
          have F123 := FR.w F117 W120 (show 77 = 77 ∧ (5 = 4 ∨ 5 = 5 ∨ 7 ≤ 5 ∧ 5 ≤ 10) ∨ 77 = 106 ∨ 77 = 107 by decide)
          refine to_c (pc := 13) rw_152_13 (x := (0 : Int32)) rfl rfl (s_r1 (pc := 14) rw_152_14 (A := 0) rfl (by decide) (s_r1 (pc := 13) rw_162_13 (A := 0) rfl (by decide) (b_ine_f (pc := 117) rw_212_117 (A := 0) rfl (by decide) (to_c (pc := 120) rw_212_120 (x := (0 : Int32)) rfl rfl (s_r1 (pc := 121) rw_212_121 (A := 0) rfl (by decide) ?_)))))
          have k_124 : (0 : Int32).toInt = 0 := rfl
          have c_125 : M121.2.1 77 7 = (M36.2.1 77 7) := (W_n W120 (by decide) (W_n W114 (by decide) rfl))
          have t_126 : (M121.2.1 77 7).toInt = (M36.2.1 77 7).toInt := congrArg Int32.toInt c_125
          have c_127 : M121.2.1 77 6 = (M.2.1 77 6) := (W_n W120 (by decide) (W_n W114 (by decide) c_39))
          have t_128 : (M121.2.1 77 6).toInt = (M.2.1 77 6).toInt := congrArg Int32.toInt c_127
          have c_129 : M121.2.1 77 8 = (M36.2.1 77 8) := (W_n W120 (by decide) (W_n W114 (by decide) rfl))
          have t_130 : (M121.2.1 77 8).toInt = (M36.2.1 77 8).toInt := congrArg Int32.toInt c_129
          exact h (0 : Int32) M121 hG122 F123 (by decide) (by decide) (by omega) (by omega) (by omega)
      · refine to_an (pc := 85) rw_212_85 rfl (s_gR (pc := 86) rw_212_86 hG32 rfl (v := 107) rfl (to_in (pc := 89) rw_212_89 rfl (to_dup2 (pc := 90) rw_212_90 (s_ial (pc := 91) rw_212_91 hG32 rfl (n := 40) rfl rfl (A := a.toInt) rfl (by omega) (by omega) (lo := -2147483648) (hi := 2147483647) rfl rfl (fun v131 w_132 _ _ => to_c (pc := 92) rw_212_92 (x := (1 : Int32)) rfl rfl (to_in (pc := 93) rw_212_93 rfl (s_any (pc := 94) rw_212_94 (fun _ _ => rfl) (fun v133 => s_any (pc := 95) rw_212_95 (fun _ _ => rfl) (fun v134 => s_ias (pc := 96) rw_212_96 hG32 rfl (n := 40) rfl (A := a.toInt) rfl (by omega) (by omega) (fun M136 W135 => ?_))))))))))
        have hG137 := g_wf hG32 W135 rfl rfl (by decide)
        have F138 := FR.w F37 W135 (show 107 = 77 ∧ ((a.toInt).toNat = 4 ∨ (a.toInt).toNat = 5 ∨ 7 ≤ (a.toInt).toNat ∧ (a.toInt).toNat ≤ 10) ∨ 107 = 106 ∨ 107 = 107 by omega)
        refine to_c (pc := 97) rw_212_97 (x := (1 : Int32)) rfl rfl (s_r1 (pc := 98) rw_212_98 (A := 1) rfl (by decide) ?_)
        have k_139 : (1 : Int32).toInt = 1 := rfl
        have c_140 : M136.2.1 77 7 = (M36.2.1 77 7) := (W_n W135 (fun z => absurd z.1 (by decide)) rfl)
        have t_141 : (M136.2.1 77 7).toInt = (M36.2.1 77 7).toInt := congrArg Int32.toInt c_140
        have c_142 : M136.2.1 77 6 = (M.2.1 77 6) := (W_n W135 (fun z => absurd z.1 (by decide)) c_39)
        have t_143 : (M136.2.1 77 6).toInt = (M.2.1 77 6).toInt := congrArg Int32.toInt c_142
        have c_144 : M136.2.1 77 8 = (M36.2.1 77 8) := (W_n W135 (fun z => absurd z.1 (by decide)) rfl)
        have t_145 : (M136.2.1 77 8).toInt = (M36.2.1 77 8).toInt := congrArg Int32.toInt c_144
        exact h (1 : Int32) M136 hG137 F138 (by decide) (by decide) (by omega) (by omega) (by omega)
    · refine to_in (pc := 67) rw_212_67 rfl (b_ige (pc := 68) rw_212_68 (A := r18.toInt) rfl (fun h146 => ?_) (fun h146 => ?_))
      · refine to_an (pc := 77) rw_212_77 rfl (s_v (pc := 78) rw_212_78 (dp0 hd (by decide)) (ls0 := [.ref 77]) rfl (Nat.le_of_ble_eq_true rfl) (Nat.le_of_ble_eq_true rfl) rfl (to_rc rfl rfl rfl (g_o hG20 rfl)) rfl ?_)
        have c_147 : M24.2.1 77 7 = (M.2.1 77 7) := (F_n F19 (show ¬ (77 < 0) by decide) (F_n F7 (show ¬ (77 < 0) by decide) rfl))
        have t_148 : (M24.2.1 77 7).toInt = (M.2.1 77 7).toInt := congrArg Int32.toInt c_147
        have c_149 : M24.2.1 77 6 = (M.2.1 77 6) := (F_n F19 (show ¬ (77 < 0) by decide) (F_n F7 (show ¬ (77 < 0) by decide) rfl))
        have t_150 : (M24.2.1 77 6).toInt = (M.2.1 77 6).toInt := congrArg Int32.toInt c_149
        refine C_156 hX (dp1 hd (by decide)) hG20 (by omega)  (fun M156 hG152 F151 p_153 p_154 p_155 => ?_)
        have F157 := FR.c F25 F151 tg_271
        have b_158 := g_b hG152 (a := 77) (i := 7) (lo := 0) (hi := 500) rfl rfl
        have c_159 : M156.2.1 77 6 = (M.2.1 77 6) := (F_n F151 (show ¬ (77 = 77 ∧ 7 ≤ 6 ∧ 6 ≤ 10) by decide) c_149)
        have t_160 : (M156.2.1 77 6).toInt = (M.2.1 77 6).toInt := congrArg Int32.toInt c_159
        have b_161 := g_b hG152 (a := 77) (i := 8) (lo := 0) (hi := 5) rfl rfl
        refine to_in (pc := 81) rw_212_81 rfl (b_ilt_f (pc := 82) rw_212_82 (A := r18.toInt) rfl (by omega) (to_an (pc := 85) rw_212_85 rfl (s_gR (pc := 86) rw_212_86 hG152 rfl (v := 107) rfl (to_in (pc := 89) rw_212_89 rfl (to_dup2 (pc := 90) rw_212_90 (s_ial (pc := 91) rw_212_91 hG152 rfl (n := 40) rfl rfl (A := a.toInt) rfl (by omega) (by omega) (lo := -2147483648) (hi := 2147483647) rfl rfl (fun v162 w_163 _ _ => to_c (pc := 92) rw_212_92 (x := (1 : Int32)) rfl rfl (to_in (pc := 93) rw_212_93 rfl (s_any (pc := 94) rw_212_94 (fun _ _ => rfl) (fun v164 => s_any (pc := 95) rw_212_95 (fun _ _ => rfl) (fun v165 => s_ias (pc := 96) rw_212_96 hG152 rfl (n := 40) rfl (A := a.toInt) rfl (by omega) (by omega) (fun M167 W166 => ?_))))))))))))
        have hG168 := g_wf hG152 W166 rfl rfl (by decide)
        have F169 := FR.w F157 W166 (show 107 = 77 ∧ ((a.toInt).toNat = 4 ∨ (a.toInt).toNat = 5 ∨ 7 ≤ (a.toInt).toNat ∧ (a.toInt).toNat ≤ 10) ∨ 107 = 106 ∨ 107 = 107 by omega)
        refine to_c (pc := 97) rw_212_97 (x := (1 : Int32)) rfl rfl (s_r1 (pc := 98) rw_212_98 (A := 1) rfl (by decide) ?_)
        have k_170 : (1 : Int32).toInt = 1 := rfl
        have c_171 : M167.2.1 77 7 = (M156.2.1 77 7) := (W_n W166 (fun z => absurd z.1 (by decide)) rfl)
        have t_172 : (M167.2.1 77 7).toInt = (M156.2.1 77 7).toInt := congrArg Int32.toInt c_171
        have c_173 : M167.2.1 77 6 = (M.2.1 77 6) := (W_n W166 (fun z => absurd z.1 (by decide)) c_159)
        have t_174 : (M167.2.1 77 6).toInt = (M.2.1 77 6).toInt := congrArg Int32.toInt c_173
        have c_175 : M167.2.1 77 8 = (M156.2.1 77 8) := (W_n W166 (fun z => absurd z.1 (by decide)) rfl)
        have t_176 : (M167.2.1 77 8).toInt = (M156.2.1 77 8).toInt := congrArg Int32.toInt c_175
        exact h (1 : Int32) M167 hG168 F169 (by decide) (by decide) (by omega) (by omega) (by omega)
      · refine to_an (pc := 71) rw_212_71 rfl (to_c (pc := 72) rw_212_72 (x := (4 : Int32)) rfl rfl (s_v (pc := 73) rw_212_73 (dp0 hd (by decide)) (ls0 := [.ref 77, .int (4 : Int32)]) rfl (Nat.le_of_ble_eq_true rfl) (Nat.le_of_ble_eq_true rfl) rfl (to_rc rfl rfl rfl (g_o hG20 rfl)) rfl (to_an (pc := 0) rw_152_0 rfl (to_in (pc := 1) rw_152_1 rfl (s_pI (pc := 2) rw_152_2 hG20 rfl (fun M178 W177 => ?_))))))
        have hG179 := g_wf hG20 W177 rfl rfl (by decide)
        have F180 := FR.w F25 W177 (show 77 = 77 ∧ (4 = 4 ∨ 4 = 5 ∨ 7 ≤ 4 ∧ 4 ≤ 10) ∨ 77 = 106 ∨ 77 = 107 by decide)
        refine to_an (pc := 5) rw_152_5 rfl (to_an (pc := 6) rw_152_6 rfl ?_)
        have c_181 : M178.2.1 77 10 = (M.2.1 77 10) := (W_n W177 (by decide) (F_n F19 (show ¬ (77 < 0) by decide) (F_n F7 (show ¬ (77 < 0) by decide) rfl)))
        have b_182 := g_b hG (a := 77) (i := 10) (lo := 0) (hi := 500) rfl rfl
        refine tt_gI (pc := 7) rw_152_7 (g_o hG179 rfl) (v := (M.2.1 77 10)) c_181 (s_pI (pc := 10) rw_152_10 hG179 rfl (fun M184 W183 => ?_))
        have hG185 := g_wf hG179 W183 rfl rfl (by decide)
        have F186 := FR.w F180 W183 (show 77 = 77 ∧ (5 = 4 ∨ 5 = 5 ∨ 7 ≤ 5 ∧ 5 ≤ 10) ∨ 77 = 106 ∨ 77 = 107 by decide)
        refine to_c (pc := 13) rw_152_13 (x := (0 : Int32)) rfl rfl (s_r1 (pc := 14) rw_152_14 (A := 0) rfl (by decide) (s_r1 (pc := 76) rw_212_76 (A := 0) rfl (by decide) ?_))
        have k_187 : (0 : Int32).toInt = 0 := rfl
        have c_188 : M184.2.1 77 7 = (M.2.1 77 7) := (W_n W183 (by decide) (W_n W177 (by decide) (F_n F19 (show ¬ (77 < 0) by decide) (F_n F7 (show ¬ (77 < 0) by decide) rfl))))
        have t_189 : (M184.2.1 77 7).toInt = (M.2.1 77 7).toInt := congrArg Int32.toInt c_188
        have c_190 : M184.2.1 77 6 = (M.2.1 77 6) := (W_n W183 (by decide) (W_n W177 (by decide) (F_n F19 (show ¬ (77 < 0) by decide) (F_n F7 (show ¬ (77 < 0) by decide) rfl))))
        have t_191 : (M184.2.1 77 6).toInt = (M.2.1 77 6).toInt := congrArg Int32.toInt c_190
        have c_192 : M184.2.1 77 8 = (M.2.1 77 8) := (W_n W183 (by decide) (W_n W177 (by decide) (F_n F19 (show ¬ (77 < 0) by decide) (F_n F7 (show ¬ (77 < 0) by decide) rfl))))
        have t_193 : (M184.2.1 77 8).toInt = (M.2.1 77 8).toInt := congrArg Int32.toInt c_192
        exact h (0 : Int32) M184 hG185 F186 (by decide) (by decide) (by omega) (by omega) (by omega)
  · refine to_an (pc := 8) rw_212_8 rfl (to_c (pc := 9) rw_212_9 (x := (0 : Int32)) rfl rfl (to_an (pc := 10) rw_212_10 rfl ?_))
    have b_194 := g_b hG (a := 77) (i := 11) (lo := 10) (hi := 60) rfl rfl
    refine tt_gI (pc := 11) rw_212_11 (g_o hG rfl) (v := (M.2.1 77 11)) rfl (to_c (pc := 14) rw_212_14 (x := (1 : Int32)) rfl rfl (s_sub (pc := 15) rw_212_15 (A := (M.2.1 77 11).toInt) (B := 1) rfl rfl (by omega) (fun v195 e196 => s_v (pc := 16) rw_212_16 (dp0 hd (by decide)) (ls0 := [.ref 77, .int (0 : Int32), .int v195]) rfl (Nat.le_of_ble_eq_true rfl) (Nat.le_of_ble_eq_true rfl) rfl (to_rc rfl rfl rfl (g_o hG rfl)) rfl (to_an (pc := 0) rw_162_0 rfl (tt_gI (pc := 1) rw_162_1 (g_o hG rfl) (v := (M.2.1 77 8)) rfl (to_c (pc := 4) rw_162_4 (x := (3 : Int32)) rfl rfl (b_ceq_t (pc := 5) rw_162_5 (A := (M.2.1 77 8).toInt) (B := 3) rfl rfl (by omega) (to_an (pc := 14) rw_162_14 rfl (tt_gI (pc := 15) rw_162_15 (g_o hG rfl) (v := (M.2.1 77 9)) rfl (to_in (pc := 18) rw_162_18 rfl (b_clt (pc := 19) rw_162_19 (A := (M.2.1 77 9).toInt) (B := 0) rfl rfl (fun h197 => ?_) (fun h197 => ?_))))))))))))
    · refine to_an (pc := 30) rw_162_30 rfl (to_c (pc := 31) rw_162_31 (x := (2 : Int32)) rfl rfl (s_v (pc := 32) rw_162_32 (dp1 hd (by decide)) (ls0 := [.ref 77, .int (2 : Int32)]) rfl (Nat.le_of_ble_eq_true rfl) (Nat.le_of_ble_eq_true rfl) rfl (to_rc rfl rfl rfl (g_o hG rfl)) rfl (to_an (pc := 0) rw_152_0 rfl (to_in (pc := 1) rw_152_1 rfl (s_pI (pc := 2) rw_152_2 hG rfl (fun M199 W198 => ?_))))))
      have hG200 := g_wf hG W198 rfl rfl (by decide)
      have F201 := FR.w F0 W198 (show 77 = 77 ∧ (4 = 4 ∨ 4 = 5 ∨ 7 ≤ 4 ∧ 4 ≤ 10) ∨ 77 = 106 ∨ 77 = 107 by decide)
      refine to_an (pc := 5) rw_152_5 rfl (to_an (pc := 6) rw_152_6 rfl ?_)
      have c_202 : M199.2.1 77 10 = (M.2.1 77 10) := (W_n W198 (by decide) rfl)
      have b_203 := g_b hG (a := 77) (i := 10) (lo := 0) (hi := 500) rfl rfl
      refine tt_gI (pc := 7) rw_152_7 (g_o hG200 rfl) (v := (M.2.1 77 10)) c_202 (s_pI (pc := 10) rw_152_10 hG200 rfl (fun M205 W204 => ?_))
      have hG206 := g_wf hG200 W204 rfl rfl (by decide)
      have F207 := FR.w F201 W204 (show 77 = 77 ∧ (5 = 4 ∨ 5 = 5 ∨ 7 ≤ 5 ∧ 5 ≤ 10) ∨ 77 = 106 ∨ 77 = 107 by decide)
      refine to_c (pc := 13) rw_152_13 (x := (0 : Int32)) rfl rfl (s_r1 (pc := 14) rw_152_14 (A := 0) rfl (by decide) (b_ieq_t (pc := 35) rw_162_35 (A := 0) rfl (by decide) (to_c (pc := 42) rw_162_42 (x := (0 : Int32)) rfl rfl (s_r1 (pc := 43) rw_162_43 (A := 0) rfl (by decide) (b_ine_f (pc := 19) rw_212_19 (A := 0) rfl (by decide) (to_c (pc := 22) rw_212_22 (x := (0 : Int32)) rfl rfl (s_r1 (pc := 23) rw_212_23 (A := 0) rfl (by decide) ?_)))))))
      have k_208 : (0 : Int32).toInt = 0 := rfl
      have c_209 : M205.2.1 77 7 = (M.2.1 77 7) := (W_n W204 (by decide) (W_n W198 (by decide) rfl))
      have t_210 : (M205.2.1 77 7).toInt = (M.2.1 77 7).toInt := congrArg Int32.toInt c_209
      have c_211 : M205.2.1 77 6 = (M.2.1 77 6) := (W_n W204 (by decide) (W_n W198 (by decide) rfl))
      have t_212 : (M205.2.1 77 6).toInt = (M.2.1 77 6).toInt := congrArg Int32.toInt c_211
      have c_213 : M205.2.1 77 8 = (M.2.1 77 8) := (W_n W204 (by decide) (W_n W198 (by decide) rfl))
      have t_214 : (M205.2.1 77 8).toInt = (M.2.1 77 8).toInt := congrArg Int32.toInt c_213
      exact h (0 : Int32) M205 hG206 F207 (by decide) (by decide) (by omega) (by omega) (by omega)
    · refine to_an (pc := 22) rw_162_22 rfl (tt_gI (pc := 23) rw_162_23 (g_o hG rfl) (v := (M.2.1 77 9)) rfl (to_in (pc := 26) rw_162_26 rfl (b_cle (pc := 27) rw_162_27 (A := (M.2.1 77 9).toInt) (B := v195.toInt) rfl rfl (fun h215 => ?_) (fun h215 => ?_))))
      · refine to_c (pc := 38) rw_162_38 (x := (1 : Int32)) rfl rfl (to_go (pc := 39) rw_162_39 (s_r1 (pc := 43) rw_162_43 (A := 1) rfl (by decide) (b_ine_t (pc := 19) rw_212_19 (A := 1) rfl (by decide) (to_an (pc := 24) rw_212_24 rfl (s_gR (pc := 25) rw_212_25 hG rfl (v := 106) rfl (to_in (pc := 28) rw_212_28 rfl (to_dup2 (pc := 29) rw_212_29 (s_lal (pc := 30) rw_212_30 hG rfl (n := 40) rfl (A := a.toInt) rfl (by omega) (by omega) (fun l216 => s_cl (pc := 31) rw_212_31 rfl (fun l217 => to_an (pc := 32) rw_212_32 rfl (tt_gI (pc := 33) rw_212_33 (g_o hG rfl) (v := (M.2.1 77 9)) rfl ?_)))))))))))
        refine s_anyS (pc := 36) rw_212_36 (fun _ _ => rfl) (fun l218 => s_anyL (pc := 37) rw_212_37 (fun _ _ => rfl) (fun l219 => s_las (pc := 38) rw_212_38 hG rfl (n := 40) rfl (A := a.toInt) rfl (by omega) (by omega) (fun M221 W220 => ?_)))
        have hG222 := g_wl hG W220
        have F223 := FR.wl F0 W220 (show 106 = 77 ∧ ((a.toInt).toNat = 4 ∨ (a.toInt).toNat = 5 ∨ 7 ≤ (a.toInt).toNat ∧ (a.toInt).toNat ≤ 10) ∨ 106 = 106 ∨ 106 = 107 by omega)
        refine to_an (pc := 39) rw_212_39 rfl (s_v (pc := 40) rw_212_40 (dp0 hd (by decide)) (ls0 := [.ref 77]) rfl (Nat.le_of_ble_eq_true rfl) (Nat.le_of_ble_eq_true rfl) rfl (to_rc rfl rfl rfl (g_o hG222 rfl)) rfl ?_)
        have c_224 : M221.2.1 77 7 = (M.2.1 77 7) := (W_l W220 rfl)
        have t_225 : (M221.2.1 77 7).toInt = (M.2.1 77 7).toInt := congrArg Int32.toInt c_224
        have c_226 : M221.2.1 77 6 = (M.2.1 77 6) := (W_l W220 rfl)
        have t_227 : (M221.2.1 77 6).toInt = (M.2.1 77 6).toInt := congrArg Int32.toInt c_226
        refine C_156 hX (dp1 hd (by decide)) hG222 (by omega)  (fun M233 hG229 F228 p_230 p_231 p_232 => ?_)
        have F234 := FR.c F223 F228 tg_271
        have b_235 := g_b hG229 (a := 77) (i := 7) (lo := 0) (hi := 500) rfl rfl
        have c_236 : M233.2.1 77 6 = (M.2.1 77 6) := (F_n F228 (show ¬ (77 = 77 ∧ 7 ≤ 6 ∧ 6 ≤ 10) by decide) c_226)
        have t_237 : (M233.2.1 77 6).toInt = (M.2.1 77 6).toInt := congrArg Int32.toInt c_236
        have b_238 := g_b hG229 (a := 77) (i := 8) (lo := 0) (hi := 5) rfl rfl
        refine to_c (pc := 43) rw_212_43 (x := (1 : Int32)) rfl rfl (s_r1 (pc := 44) rw_212_44 (A := 1) rfl (by decide) ?_)
        have k_239 : (1 : Int32).toInt = 1 := rfl
        exact h (1 : Int32) M233 hG229 F234 (by decide) (by decide) (by omega) (by omega) (by omega)
      · refine to_an (pc := 30) rw_162_30 rfl (to_c (pc := 31) rw_162_31 (x := (2 : Int32)) rfl rfl (s_v (pc := 32) rw_162_32 (dp1 hd (by decide)) (ls0 := [.ref 77, .int (2 : Int32)]) rfl (Nat.le_of_ble_eq_true rfl) (Nat.le_of_ble_eq_true rfl) rfl (to_rc rfl rfl rfl (g_o hG rfl)) rfl (to_an (pc := 0) rw_152_0 rfl (to_in (pc := 1) rw_152_1 rfl (s_pI (pc := 2) rw_152_2 hG rfl (fun M241 W240 => ?_))))))
        have hG242 := g_wf hG W240 rfl rfl (by decide)
        have F243 := FR.w F0 W240 (show 77 = 77 ∧ (4 = 4 ∨ 4 = 5 ∨ 7 ≤ 4 ∧ 4 ≤ 10) ∨ 77 = 106 ∨ 77 = 107 by decide)
        refine to_an (pc := 5) rw_152_5 rfl (to_an (pc := 6) rw_152_6 rfl ?_)
        have c_244 : M241.2.1 77 10 = (M.2.1 77 10) := (W_n W240 (by decide) rfl)
        have b_245 := g_b hG (a := 77) (i := 10) (lo := 0) (hi := 500) rfl rfl
        refine tt_gI (pc := 7) rw_152_7 (g_o hG242 rfl) (v := (M.2.1 77 10)) c_244 (s_pI (pc := 10) rw_152_10 hG242 rfl (fun M247 W246 => ?_))
        have hG248 := g_wf hG242 W246 rfl rfl (by decide)
        have F249 := FR.w F243 W246 (show 77 = 77 ∧ (5 = 4 ∨ 5 = 5 ∨ 7 ≤ 5 ∧ 5 ≤ 10) ∨ 77 = 106 ∨ 77 = 107 by decide)
        refine to_c (pc := 13) rw_152_13 (x := (0 : Int32)) rfl rfl (s_r1 (pc := 14) rw_152_14 (A := 0) rfl (by decide) (b_ieq_t (pc := 35) rw_162_35 (A := 0) rfl (by decide) (to_c (pc := 42) rw_162_42 (x := (0 : Int32)) rfl rfl (s_r1 (pc := 43) rw_162_43 (A := 0) rfl (by decide) (b_ine_f (pc := 19) rw_212_19 (A := 0) rfl (by decide) (to_c (pc := 22) rw_212_22 (x := (0 : Int32)) rfl rfl (s_r1 (pc := 23) rw_212_23 (A := 0) rfl (by decide) ?_)))))))
        have k_250 : (0 : Int32).toInt = 0 := rfl
        have c_251 : M247.2.1 77 7 = (M.2.1 77 7) := (W_n W246 (by decide) (W_n W240 (by decide) rfl))
        have t_252 : (M247.2.1 77 7).toInt = (M.2.1 77 7).toInt := congrArg Int32.toInt c_251
        have c_253 : M247.2.1 77 6 = (M.2.1 77 6) := (W_n W246 (by decide) (W_n W240 (by decide) rfl))
        have t_254 : (M247.2.1 77 6).toInt = (M.2.1 77 6).toInt := congrArg Int32.toInt c_253
        have c_255 : M247.2.1 77 8 = (M.2.1 77 8) := (W_n W246 (by decide) (W_n W240 (by decide) rfl))
        have t_256 : (M247.2.1 77 8).toInt = (M.2.1 77 8).toInt := congrArg Int32.toInt c_255
        exact h (0 : Int32) M247 hG248 F249 (by decide) (by decide) (by omega) (by omega) (by omega)
set_option maxRecDepth 4000 in
set_option maxHeartbeats 0 in
theorem T_213_0 {X : mm_X} {d : Nat} {M : mm_M} {Q : Option Value → mm_M → Prop} {a : Int32} (hX : g_X X) (hd : 3 ≤ d) (q1 : 0 ≤ a.toInt) (q2 : a.toInt ≤ 39) (q3 : (M.2.1 77 7).toInt ≤ (M.2.1 77 6).toInt) (h : ∀ (r : Int32) (M1 : mm_M), g_G M1 → FR md_ps M M1 → (0 ≤ r.toInt) → (r.toInt ≤ 1) → ((M1.2.1 77 7).toInt ≤ (M1.2.1 77 6).toInt) → ((M.2.1 77 7).toInt ≤ (M1.2.1 77 7).toInt) → (r.toInt = 1 → (M1.2.1 77 8).toInt = 0 ∨ (M.2.1 77 7).toInt < (M1.2.1 77 7).toInt) → (r.toInt = 1 → 0 ≤ (M1.2.1 102 (a.toInt).toNat).toInt ∧ (M1.2.1 102 (a.toInt).toNat).toInt ≤ 5 ∧ 0 ≤ (M1.2.1 103 (a.toInt).toNat).toInt ∧ 0 ≤ (M1.2.1 104 (a.toInt).toNat).toInt) → (∀ r i : Nat, (102 ≤ r ∧ r ≤ 104) → ¬ i = (a.toInt).toNat → M1.2.1 r i = M.2.1 r i) → Q (some (.int r)) M1) : ∀ nn9 : Nat, (∀ (N : mm_M), g_G N → FR md_ps M N → ((N.2.1 77 7).toInt ≤ (N.2.1 77 6).toInt) → ((M.2.1 77 7).toInt ≤ (N.2.1 77 7).toInt) → ((N.2.1 77 8).toInt = 0 ∨ (M.2.1 77 7).toInt < (N.2.1 77 7).toInt) → (0 ≤ (N.2.1 102 (a.toInt).toNat).toInt) → ((N.2.1 102 (a.toInt).toNat).toInt ≤ 5) → (0 ≤ (N.2.1 103 (a.toInt).toNat).toInt) → (0 ≤ (N.2.1 104 (a.toInt).toNat).toInt) → (∀ r i : Nat, (102 ≤ r ∧ r ≤ 104) → ¬ i = (a.toInt).toNat → N.2.1 r i = M.2.1 r i) → 6 * (500 - (N.2.1 77 7).toInt) + (N.2.1 77 8).toInt < (nn9 : Int) → mm_T X d 212 133 [.ref 77, .int a] [] N Q) := by
  intro nn9
  induction nn9 with
  | zero =>
    intro N hG F0 g1 g2 g3 g4 g5 g6 g7 g8 hm
    have b_1 := g_b hG (a := 77) (i := 7) (lo := 0) (hi := 500) rfl rfl
    have b_2 := g_b hG (a := 77) (i := 8) (lo := 0) (hi := 5) rfl rfl
    have b_3 := g_b hG (a := 77) (i := 6) (lo := 0) (hi := 500) rfl rfl
    exfalso; omega
  | succ nn9 ih =>
    intro N hG F0 g1 g2 g3 g4 g5 g6 g7 g8 hm
    have b_4 := g_b hG (a := 77) (i := 7) (lo := 0) (hi := 500) rfl rfl
    have b_5 := g_b hG (a := 77) (i := 8) (lo := 0) (hi := 5) rfl rfl
    have b_6 := g_b hG (a := 77) (i := 6) (lo := 0) (hi := 500) rfl rfl
    refine to_an (pc := 133) rw_213_133 rfl (tt_gI (pc := 134) rw_213_134 (g_o hG rfl) (v := (N.2.1 77 8)) rfl (to_c (pc := 137) rw_213_137 (x := (3 : Int32)) rfl rfl (b_ceq (pc := 138) rw_213_138 (A := (N.2.1 77 8).toInt) (B := 3) rfl rfl (fun h7 => ?_) (fun h7 => ?_))))
    · refine to_an (pc := 149) rw_213_149 rfl (to_in (pc := 150) rw_213_150 rfl (s_v (pc := 151) rw_213_151 (dp0 hd (by decide)) (ls0 := [.ref 77, .int a, .null, .null]) rfl (Nat.le_of_ble_eq_true rfl) (Nat.le_of_ble_eq_true rfl) rfl (to_rc rfl rfl rfl (g_o hG rfl)) rfl (C_212 hX (dp1 hd (by decide)) hG (by omega) (by omega) (by omega) (a := a) (fun r8 M16 hG10 F9 p_11 p_12 p_13 p_14 p_15 => ?_))))
      have F17 := FR.c F0 F9 tg_272
      have b_18 := g_b hG10 (a := 77) (i := 7) (lo := 0) (hi := 500) rfl rfl
      have c_19 : M16.2.1 77 6 = (N.2.1 77 6) := (F_n F9 (show ¬ (77 = 77 ∧ (6 = 4 ∨ 6 = 5 ∨ 7 ≤ 6 ∧ 6 ≤ 10) ∨ 77 = 106 ∨ 77 = 107) by decide) rfl)
      have t_20 : (M16.2.1 77 6).toInt = (N.2.1 77 6).toInt := congrArg Int32.toInt c_19
      have b_21 := g_b hG10 (a := 77) (i := 8) (lo := 0) (hi := 5) rfl rfl
      refine b_ine (pc := 154) rw_213_154 (A := r8.toInt) rfl (fun h22 => ?_) (fun h22 => ?_)
      · have t_23 : (M16.2.1 102 (a.toInt).toNat).toInt = (N.2.1 102 (a.toInt).toNat).toInt := congrArg Int32.toInt (F_n F9 (show ¬ (102 = 77 ∧ (((a.toInt).toNat) = 4 ∨ ((a.toInt).toNat) = 5 ∨ 7 ≤ ((a.toInt).toNat) ∧ ((a.toInt).toNat) ≤ 10) ∨ 102 = 106 ∨ 102 = 107) by omega) rfl)
        have t_24 : (M16.2.1 102 (a.toInt).toNat).toInt = (N.2.1 102 (a.toInt).toNat).toInt := congrArg Int32.toInt (F_n F9 (show ¬ (102 = 77 ∧ (((a.toInt).toNat) = 4 ∨ ((a.toInt).toNat) = 5 ∨ 7 ≤ ((a.toInt).toNat) ∧ ((a.toInt).toNat) ≤ 10) ∨ 102 = 106 ∨ 102 = 107) by omega) rfl)
        have t_25 : (M16.2.1 103 (a.toInt).toNat).toInt = (N.2.1 103 (a.toInt).toNat).toInt := congrArg Int32.toInt (F_n F9 (show ¬ (103 = 77 ∧ (((a.toInt).toNat) = 4 ∨ ((a.toInt).toNat) = 5 ∨ 7 ≤ ((a.toInt).toNat) ∧ ((a.toInt).toNat) ≤ 10) ∨ 103 = 106 ∨ 103 = 107) by omega) rfl)
        have t_26 : (M16.2.1 104 (a.toInt).toNat).toInt = (N.2.1 104 (a.toInt).toNat).toInt := congrArg Int32.toInt (F_n F9 (show ¬ (104 = 77 ∧ (((a.toInt).toNat) = 4 ∨ ((a.toInt).toNat) = 5 ∨ 7 ≤ ((a.toInt).toNat) ∧ ((a.toInt).toNat) ≤ 10) ∨ 104 = 106 ∨ 104 = 107) by omega) rfl)
        exact ih M16  hG10 F17 (by omega) (by omega) (by omega) (by omega) (by omega) (by omega) (by omega) (fun r i z z2 => (F_n F9 (show ¬ (r = 77 ∧ (i = 4 ∨ i = 5 ∨ 7 ≤ i ∧ i ≤ 10) ∨ r = 106 ∨ r = 107) by omega) (g8 r i z z2))) (by omega)
      · refine to_c (pc := 157) rw_213_157 (x := (0 : Int32)) rfl rfl (s_r1 (pc := 158) rw_213_158 (A := 0) rfl (by decide) ?_)
        have k_27 : (0 : Int32).toInt = 0 := rfl
        have t_28 : (M16.2.1 102 (a.toInt).toNat).toInt = (N.2.1 102 (a.toInt).toNat).toInt := congrArg Int32.toInt (F_n F9 (show ¬ (102 = 77 ∧ (((a.toInt).toNat) = 4 ∨ ((a.toInt).toNat) = 5 ∨ 7 ≤ ((a.toInt).toNat) ∧ ((a.toInt).toNat) ≤ 10) ∨ 102 = 106 ∨ 102 = 107) by omega) rfl)
        have t_29 : (M16.2.1 102 (a.toInt).toNat).toInt = (N.2.1 102 (a.toInt).toNat).toInt := congrArg Int32.toInt (F_n F9 (show ¬ (102 = 77 ∧ (((a.toInt).toNat) = 4 ∨ ((a.toInt).toNat) = 5 ∨ 7 ≤ ((a.toInt).toNat) ∧ ((a.toInt).toNat) ≤ 10) ∨ 102 = 106 ∨ 102 = 107) by omega) rfl)
        have t_30 : (M16.2.1 103 (a.toInt).toNat).toInt = (N.2.1 103 (a.toInt).toNat).toInt := congrArg Int32.toInt (F_n F9 (show ¬ (103 = 77 ∧ (((a.toInt).toNat) = 4 ∨ ((a.toInt).toNat) = 5 ∨ 7 ≤ ((a.toInt).toNat) ∧ ((a.toInt).toNat) ≤ 10) ∨ 103 = 106 ∨ 103 = 107) by omega) rfl)
        have t_31 : (M16.2.1 104 (a.toInt).toNat).toInt = (N.2.1 104 (a.toInt).toNat).toInt := congrArg Int32.toInt (F_n F9 (show ¬ (104 = 77 ∧ (((a.toInt).toNat) = 4 ∨ ((a.toInt).toNat) = 5 ∨ 7 ≤ ((a.toInt).toNat) ∧ ((a.toInt).toNat) ≤ 10) ∨ 104 = 106 ∨ 104 = 107) by omega) rfl)
        exact h (0 : Int32) M16 hG10 F17 (by decide) (by decide) (by omega) (by omega) (by omega) (by omega) (fun r i z z2 => (F_n F9 (show ¬ (r = 77 ∧ (i = 4 ∨ i = 5 ∨ 7 ≤ i ∧ i ≤ 10) ∨ r = 106 ∨ r = 107) by omega) (g8 r i z z2)))
    · refine to_an (pc := 141) rw_213_141 rfl (tt_gI (pc := 142) rw_213_142 (g_o hG rfl) (v := (N.2.1 77 8)) rfl (to_c (pc := 145) rw_213_145 (x := (2 : Int32)) rfl rfl (b_cne (pc := 146) rw_213_146 (A := (N.2.1 77 8).toInt) (B := 2) rfl rfl (fun h32 => ?_) (fun h32 => ?_))))
      · refine to_an (pc := 159) rw_213_159 rfl (to_c (pc := 160) rw_213_160 (x := (59 : Int32)) rfl rfl (s_v (pc := 162) rw_213_162 (dp0 hd (by decide)) (ls0 := [.ref 77, .int (59 : Int32)]) rfl (Nat.le_of_ble_eq_true rfl) (Nat.le_of_ble_eq_true rfl) rfl (to_rc rfl rfl rfl (g_o hG rfl)) rfl ?_))
        have k_33 : (59 : Int32).toInt = 59 := rfl
        refine C_160 hX (dp1 hd (by decide)) hG (by omega) (c := (59 : Int32)) (fun r34 M43 hG36 F35 p_37 p_38 p_39 p_40 p_41 p_42 => ?_)
        have F44 := FR.c F0 F35 tg_273
        have b_45 := g_b hG36 (a := 77) (i := 7) (lo := 0) (hi := 500) rfl rfl
        have c_46 : M43.2.1 77 6 = (N.2.1 77 6) := (F_n F35 (show ¬ (77 = 77 ∧ (6 = 4 ∨ 6 = 5 ∨ 7 ≤ 6 ∧ 6 ≤ 10)) by decide) rfl)
        have t_47 : (M43.2.1 77 6).toInt = (N.2.1 77 6).toInt := congrArg Int32.toInt c_46
        have b_48 := g_b hG36 (a := 77) (i := 8) (lo := 0) (hi := 5) rfl rfl
        refine s_r1 (pc := 165) rw_213_165 (A := r34.toInt) rfl (by omega) ?_
        have t_49 : (M43.2.1 102 (a.toInt).toNat).toInt = (N.2.1 102 (a.toInt).toNat).toInt := congrArg Int32.toInt (F_n F35 (show ¬ (102 = 77 ∧ (((a.toInt).toNat) = 4 ∨ ((a.toInt).toNat) = 5 ∨ 7 ≤ ((a.toInt).toNat) ∧ ((a.toInt).toNat) ≤ 10)) by omega) rfl)
        have t_50 : (M43.2.1 102 (a.toInt).toNat).toInt = (N.2.1 102 (a.toInt).toNat).toInt := congrArg Int32.toInt (F_n F35 (show ¬ (102 = 77 ∧ (((a.toInt).toNat) = 4 ∨ ((a.toInt).toNat) = 5 ∨ 7 ≤ ((a.toInt).toNat) ∧ ((a.toInt).toNat) ≤ 10)) by omega) rfl)
        have t_51 : (M43.2.1 103 (a.toInt).toNat).toInt = (N.2.1 103 (a.toInt).toNat).toInt := congrArg Int32.toInt (F_n F35 (show ¬ (103 = 77 ∧ (((a.toInt).toNat) = 4 ∨ ((a.toInt).toNat) = 5 ∨ 7 ≤ ((a.toInt).toNat) ∧ ((a.toInt).toNat) ≤ 10)) by omega) rfl)
        have t_52 : (M43.2.1 104 (a.toInt).toNat).toInt = (N.2.1 104 (a.toInt).toNat).toInt := congrArg Int32.toInt (F_n F35 (show ¬ (104 = 77 ∧ (((a.toInt).toNat) = 4 ∨ ((a.toInt).toNat) = 5 ∨ 7 ≤ ((a.toInt).toNat) ∧ ((a.toInt).toNat) ≤ 10)) by omega) rfl)
        exact h r34 M43 hG36 F44 (by omega) (by omega) (by omega) (by omega) (by omega) (by omega) (fun r i z z2 => (F_n F35 (show ¬ (r = 77 ∧ (i = 4 ∨ i = 5 ∨ 7 ≤ i ∧ i ≤ 10)) by omega) (g8 r i z z2)))
      · refine to_an (pc := 149) rw_213_149 rfl (to_in (pc := 150) rw_213_150 rfl (s_v (pc := 151) rw_213_151 (dp0 hd (by decide)) (ls0 := [.ref 77, .int a, .null, .null]) rfl (Nat.le_of_ble_eq_true rfl) (Nat.le_of_ble_eq_true rfl) rfl (to_rc rfl rfl rfl (g_o hG rfl)) rfl (C_212 hX (dp1 hd (by decide)) hG (by omega) (by omega) (by omega) (a := a) (fun r53 M61 hG55 F54 p_56 p_57 p_58 p_59 p_60 => ?_))))
        have F62 := FR.c F0 F54 tg_272
        have b_63 := g_b hG55 (a := 77) (i := 7) (lo := 0) (hi := 500) rfl rfl
        have c_64 : M61.2.1 77 6 = (N.2.1 77 6) := (F_n F54 (show ¬ (77 = 77 ∧ (6 = 4 ∨ 6 = 5 ∨ 7 ≤ 6 ∧ 6 ≤ 10) ∨ 77 = 106 ∨ 77 = 107) by decide) rfl)
        have t_65 : (M61.2.1 77 6).toInt = (N.2.1 77 6).toInt := congrArg Int32.toInt c_64
        have b_66 := g_b hG55 (a := 77) (i := 8) (lo := 0) (hi := 5) rfl rfl
        refine b_ine (pc := 154) rw_213_154 (A := r53.toInt) rfl (fun h67 => ?_) (fun h67 => ?_)
        · have t_68 : (M61.2.1 102 (a.toInt).toNat).toInt = (N.2.1 102 (a.toInt).toNat).toInt := congrArg Int32.toInt (F_n F54 (show ¬ (102 = 77 ∧ (((a.toInt).toNat) = 4 ∨ ((a.toInt).toNat) = 5 ∨ 7 ≤ ((a.toInt).toNat) ∧ ((a.toInt).toNat) ≤ 10) ∨ 102 = 106 ∨ 102 = 107) by omega) rfl)
          have t_69 : (M61.2.1 102 (a.toInt).toNat).toInt = (N.2.1 102 (a.toInt).toNat).toInt := congrArg Int32.toInt (F_n F54 (show ¬ (102 = 77 ∧ (((a.toInt).toNat) = 4 ∨ ((a.toInt).toNat) = 5 ∨ 7 ≤ ((a.toInt).toNat) ∧ ((a.toInt).toNat) ≤ 10) ∨ 102 = 106 ∨ 102 = 107) by omega) rfl)
          have t_70 : (M61.2.1 103 (a.toInt).toNat).toInt = (N.2.1 103 (a.toInt).toNat).toInt := congrArg Int32.toInt (F_n F54 (show ¬ (103 = 77 ∧ (((a.toInt).toNat) = 4 ∨ ((a.toInt).toNat) = 5 ∨ 7 ≤ ((a.toInt).toNat) ∧ ((a.toInt).toNat) ≤ 10) ∨ 103 = 106 ∨ 103 = 107) by omega) rfl)
          have t_71 : (M61.2.1 104 (a.toInt).toNat).toInt = (N.2.1 104 (a.toInt).toNat).toInt := congrArg Int32.toInt (F_n F54 (show ¬ (104 = 77 ∧ (((a.toInt).toNat) = 4 ∨ ((a.toInt).toNat) = 5 ∨ 7 ≤ ((a.toInt).toNat) ∧ ((a.toInt).toNat) ≤ 10) ∨ 104 = 106 ∨ 104 = 107) by omega) rfl)
          exact ih M61  hG55 F62 (by omega) (by omega) (by omega) (by omega) (by omega) (by omega) (by omega) (fun r i z z2 => (F_n F54 (show ¬ (r = 77 ∧ (i = 4 ∨ i = 5 ∨ 7 ≤ i ∧ i ≤ 10) ∨ r = 106 ∨ r = 107) by omega) (g8 r i z z2))) (by omega)
        · refine to_c (pc := 157) rw_213_157 (x := (0 : Int32)) rfl rfl (s_r1 (pc := 158) rw_213_158 (A := 0) rfl (by decide) ?_)
          have k_72 : (0 : Int32).toInt = 0 := rfl
          have t_73 : (M61.2.1 102 (a.toInt).toNat).toInt = (N.2.1 102 (a.toInt).toNat).toInt := congrArg Int32.toInt (F_n F54 (show ¬ (102 = 77 ∧ (((a.toInt).toNat) = 4 ∨ ((a.toInt).toNat) = 5 ∨ 7 ≤ ((a.toInt).toNat) ∧ ((a.toInt).toNat) ≤ 10) ∨ 102 = 106 ∨ 102 = 107) by omega) rfl)
          have t_74 : (M61.2.1 102 (a.toInt).toNat).toInt = (N.2.1 102 (a.toInt).toNat).toInt := congrArg Int32.toInt (F_n F54 (show ¬ (102 = 77 ∧ (((a.toInt).toNat) = 4 ∨ ((a.toInt).toNat) = 5 ∨ 7 ≤ ((a.toInt).toNat) ∧ ((a.toInt).toNat) ≤ 10) ∨ 102 = 106 ∨ 102 = 107) by omega) rfl)
          have t_75 : (M61.2.1 103 (a.toInt).toNat).toInt = (N.2.1 103 (a.toInt).toNat).toInt := congrArg Int32.toInt (F_n F54 (show ¬ (103 = 77 ∧ (((a.toInt).toNat) = 4 ∨ ((a.toInt).toNat) = 5 ∨ 7 ≤ ((a.toInt).toNat) ∧ ((a.toInt).toNat) ≤ 10) ∨ 103 = 106 ∨ 103 = 107) by omega) rfl)
          have t_76 : (M61.2.1 104 (a.toInt).toNat).toInt = (N.2.1 104 (a.toInt).toNat).toInt := congrArg Int32.toInt (F_n F54 (show ¬ (104 = 77 ∧ (((a.toInt).toNat) = 4 ∨ ((a.toInt).toNat) = 5 ∨ 7 ≤ ((a.toInt).toNat) ∧ ((a.toInt).toNat) ≤ 10) ∨ 104 = 106 ∨ 104 = 107) by omega) rfl)
          exact h (0 : Int32) M61 hG55 F62 (by decide) (by decide) (by omega) (by omega) (by omega) (by omega) (fun r i z z2 => (F_n F54 (show ¬ (r = 77 ∧ (i = 4 ∨ i = 5 ∨ 7 ≤ i ∧ i ≤ 10) ∨ r = 106 ∨ r = 107) by omega) (g8 r i z z2)))
set_option maxRecDepth 4000 in
set_option maxHeartbeats 0 in
theorem C_213 {X : mm_X} {d : Nat} {M : mm_M} {Q : Option Value → mm_M → Prop} {a : Int32} (hX : g_X X) (hd : 3 ≤ d) (hG : g_G M) (q1 : 0 ≤ a.toInt) (q2 : a.toInt ≤ 39) (q3 : (M.2.1 77 7).toInt ≤ (M.2.1 77 6).toInt) (h : ∀ (r : Int32) (M1 : mm_M), g_G M1 → FR md_ps M M1 → (0 ≤ r.toInt) → (r.toInt ≤ 1) → ((M1.2.1 77 7).toInt ≤ (M1.2.1 77 6).toInt) → ((M.2.1 77 7).toInt ≤ (M1.2.1 77 7).toInt) → (r.toInt = 1 → (M1.2.1 77 8).toInt = 0 ∨ (M.2.1 77 7).toInt < (M1.2.1 77 7).toInt) → (r.toInt = 1 → 0 ≤ (M1.2.1 102 (a.toInt).toNat).toInt ∧ (M1.2.1 102 (a.toInt).toNat).toInt ≤ 5 ∧ 0 ≤ (M1.2.1 103 (a.toInt).toNat).toInt ∧ 0 ≤ (M1.2.1 104 (a.toInt).toNat).toInt) → (∀ r i : Nat, (102 ≤ r ∧ r ≤ 104) → ¬ i = (a.toInt).toNat → M1.2.1 r i = M.2.1 r i) → Q (some (.int r)) M1) : mm_T X d 212 0 [.ref 77, .int a] [] M Q := by
  have F0 : FR md_ps M M := FR.rf
  have b_77 := g_b hG (a := 77) (i := 7) (lo := 0) (hi := 500) rfl rfl
  have b_78 := g_b hG (a := 77) (i := 6) (lo := 0) (hi := 500) rfl rfl
  refine to_an (pc := 0) rw_213_0 rfl (s_gR (pc := 1) rw_213_1 hG rfl (v := 102) rfl (to_in (pc := 4) rw_213_4 rfl (to_an (pc := 5) rw_213_5 rfl (s_v (pc := 6) rw_213_6 (dp0 hd (by decide)) (ls0 := [.ref 77, .null, .null]) rfl (Nat.le_of_ble_eq_true rfl) (Nat.le_of_ble_eq_true rfl) rfl (to_rc rfl rfl rfl (g_o hG rfl)) rfl ?_))))
  have b_79 := g_b hG (a := 77) (i := 8) (lo := 0) (hi := 5) rfl rfl
  refine C_211 hX (dp1 hd (by decide)) hG  (fun r80 M86 hG82 F81 p_83 p_84 p_85 => ?_)
  have F87 := FR.c F0 F81 tg_274
  refine s_ias (pc := 9) rw_213_9 hG82 rfl (n := 40) rfl (A := a.toInt) rfl (by omega) (by omega) (fun M89 W88 => ?_)
  have hG90 := g_w hG82 W88 (A := r80.toInt) rfl (lo := -1) (hi := 99) rfl rfl (by omega) (by decide)
  have F91 := FR.w F87 W88 (show 102 = 77 ∧ ((a.toInt).toNat = 4 ∨ (a.toInt).toNat = 5 ∨ 7 ≤ (a.toInt).toNat ∧ (a.toInt).toNat ≤ 10) ∨ 102 ≤ 102 ∧ 102 ≤ 104 ∨ 102 = 106 ∨ 102 = 107 by omega)
  refine to_an (pc := 10) rw_213_10 rfl (s_gR (pc := 11) rw_213_11 hG90 rfl (v := 102) rfl (to_in (pc := 14) rw_213_14 rfl (s_ialk (pc := 15) rw_213_15 hG90 rfl (n := 40) rfl rfl (A := a.toInt) rfl (by omega) (by omega) (v := r80) (W_e W88) (b_ige (pc := 16) rw_213_16 (A := r80.toInt) rfl (fun h94 => ?_) (fun h94 => ?_)))))
  · refine to_an (pc := 21) rw_213_21 rfl (s_v (pc := 22) rw_213_22 (dp0 hd (by decide)) (ls0 := [.ref 77]) rfl (Nat.le_of_ble_eq_true rfl) (Nat.le_of_ble_eq_true rfl) rfl (to_rc rfl rfl rfl (g_o hG90 rfl)) rfl ?_)
    have c_95 : M89.2.1 77 7 = (M.2.1 77 7) := (W_n W88 (fun z => absurd z.1 (by decide)) (F_n F81 (show ¬ (77 = 77 ∧ (7 = 4 ∨ 7 = 5)) by decide) rfl))
    have t_96 : (M89.2.1 77 7).toInt = (M.2.1 77 7).toInt := congrArg Int32.toInt c_95
    have c_97 : M89.2.1 77 6 = (M.2.1 77 6) := (W_n W88 (fun z => absurd z.1 (by decide)) (F_n F81 (show ¬ (77 = 77 ∧ (6 = 4 ∨ 6 = 5)) by decide) rfl))
    have t_98 : (M89.2.1 77 6).toInt = (M.2.1 77 6).toInt := congrArg Int32.toInt c_97
    refine C_156 hX (dp1 hd (by decide)) hG90 (by omega)  (fun M104 hG100 F99 p_101 p_102 p_103 => ?_)
    have F105 := FR.c F91 F99 tg_275
    have b_106 := g_b hG100 (a := 77) (i := 7) (lo := 0) (hi := 500) rfl rfl
    have c_107 : M104.2.1 77 6 = (M.2.1 77 6) := (F_n F99 (show ¬ (77 = 77 ∧ 7 ≤ 6 ∧ 6 ≤ 10) by decide) c_97)
    have t_108 : (M104.2.1 77 6).toInt = (M.2.1 77 6).toInt := congrArg Int32.toInt c_107
    have b_109 := g_b hG100 (a := 77) (i := 8) (lo := 0) (hi := 5) rfl rfl
    refine to_an (pc := 25) rw_213_25 rfl (to_c (pc := 26) rw_213_26 (x := (8 : Int32)) rfl rfl (s_v (pc := 28) rw_213_28 (dp0 hd (by decide)) (ls0 := [.ref 77, .int (8 : Int32)]) rfl (Nat.le_of_ble_eq_true rfl) (Nat.le_of_ble_eq_true rfl) rfl (to_rc rfl rfl rfl (g_o hG100 rfl)) rfl ?_))
    have k_110 : (8 : Int32).toInt = 8 := rfl
    refine C_161 hX (dp1 hd (by decide)) hG100 (by omega) (c := (8 : Int32)) (fun r111 M120 hG113 F112 p_114 p_115 p_116 p_117 p_118 p_119 => ?_)
    have F121 := FR.c F105 F112 tg_273
    have b_122 := g_b hG113 (a := 77) (i := 7) (lo := 0) (hi := 500) rfl rfl
    have c_123 : M120.2.1 77 6 = (M.2.1 77 6) := (F_n F112 (show ¬ (77 = 77 ∧ (6 = 4 ∨ 6 = 5 ∨ 7 ≤ 6 ∧ 6 ≤ 10)) by decide) c_107)
    have t_124 : (M120.2.1 77 6).toInt = (M.2.1 77 6).toInt := congrArg Int32.toInt c_123
    have b_125 := g_b hG113 (a := 77) (i := 8) (lo := 0) (hi := 5) rfl rfl
    refine b_ine (pc := 31) rw_213_31 (A := r111.toInt) rfl (fun h126 => ?_) (fun h126 => ?_)
    · refine to_an (pc := 36) rw_213_36 rfl (s_gR (pc := 37) rw_213_37 hG113 rfl (v := 103) rfl (to_in (pc := 40) rw_213_40 rfl (to_an (pc := 41) rw_213_41 rfl (s_v (pc := 42) rw_213_42 (dp0 hd (by decide)) (ls0 := [.ref 77, .null, .null]) rfl (Nat.le_of_ble_eq_true rfl) (Nat.le_of_ble_eq_true rfl) rfl (to_rc rfl rfl rfl (g_o hG113 rfl)) rfl (C_211 hX (dp1 hd (by decide)) hG113  (fun r127 M133 hG129 F128 p_130 p_131 p_132 => ?_))))))
      have F134 := FR.c F121 F128 tg_274
      refine s_ias (pc := 45) rw_213_45 hG129 rfl (n := 40) rfl (A := a.toInt) rfl (by omega) (by omega) (fun M136 W135 => ?_)
      have hG137 := g_w hG129 W135 (A := r127.toInt) rfl (lo := -1) (hi := 5) rfl rfl (by omega) (by decide)
      have F138 := FR.w F134 W135 (show 103 = 77 ∧ ((a.toInt).toNat = 4 ∨ (a.toInt).toNat = 5 ∨ 7 ≤ (a.toInt).toNat ∧ (a.toInt).toNat ≤ 10) ∨ 102 ≤ 103 ∧ 103 ≤ 104 ∨ 103 = 106 ∨ 103 = 107 by omega)
      refine to_an (pc := 46) rw_213_46 rfl (s_gR (pc := 47) rw_213_47 hG137 rfl (v := 103) rfl (to_in (pc := 50) rw_213_50 rfl (s_ialk (pc := 51) rw_213_51 hG137 rfl (n := 40) rfl rfl (A := a.toInt) rfl (by omega) (by omega) (v := r127) (W_e W135) (b_ige (pc := 52) rw_213_52 (A := r127.toInt) rfl (fun h141 => ?_) (fun h141 => ?_)))))
      · refine to_an (pc := 57) rw_213_57 rfl (s_v (pc := 58) rw_213_58 (dp0 hd (by decide)) (ls0 := [.ref 77]) rfl (Nat.le_of_ble_eq_true rfl) (Nat.le_of_ble_eq_true rfl) rfl (to_rc rfl rfl rfl (g_o hG137 rfl)) rfl ?_)
        have c_142 : M136.2.1 77 7 = (M120.2.1 77 7) := (W_n W135 (fun z => absurd z.1 (by decide)) (F_n F128 (show ¬ (77 = 77 ∧ (7 = 4 ∨ 7 = 5)) by decide) rfl))
        have t_143 : (M136.2.1 77 7).toInt = (M120.2.1 77 7).toInt := congrArg Int32.toInt c_142
        have c_144 : M136.2.1 77 6 = (M.2.1 77 6) := (W_n W135 (fun z => absurd z.1 (by decide)) (F_n F128 (show ¬ (77 = 77 ∧ (6 = 4 ∨ 6 = 5)) by decide) c_123))
        have t_145 : (M136.2.1 77 6).toInt = (M.2.1 77 6).toInt := congrArg Int32.toInt c_144
        refine C_156 hX (dp1 hd (by decide)) hG137 (by omega)  (fun M151 hG147 F146 p_148 p_149 p_150 => ?_)
        have F152 := FR.c F138 F146 tg_275
        have b_153 := g_b hG147 (a := 77) (i := 7) (lo := 0) (hi := 500) rfl rfl
        have c_154 : M151.2.1 77 6 = (M.2.1 77 6) := (F_n F146 (show ¬ (77 = 77 ∧ 7 ≤ 6 ∧ 6 ≤ 10) by decide) c_144)
        have t_155 : (M151.2.1 77 6).toInt = (M.2.1 77 6).toInt := congrArg Int32.toInt c_154
        have b_156 := g_b hG147 (a := 77) (i := 8) (lo := 0) (hi := 5) rfl rfl
        refine to_an (pc := 61) rw_213_61 rfl (s_gR (pc := 62) rw_213_62 hG147 rfl (v := 104) rfl (to_in (pc := 65) rw_213_65 rfl (to_an (pc := 66) rw_213_66 rfl (s_v (pc := 67) rw_213_67 (dp0 hd (by decide)) (ls0 := [.ref 77, .null, .null]) rfl (Nat.le_of_ble_eq_true rfl) (Nat.le_of_ble_eq_true rfl) rfl (to_rc rfl rfl rfl (g_o hG147 rfl)) rfl (C_211 hX (dp1 hd (by decide)) hG147  (fun r157 M163 hG159 F158 p_160 p_161 p_162 => ?_))))))
        have F164 := FR.c F152 F158 tg_274
        refine s_ias (pc := 70) rw_213_70 hG159 rfl (n := 40) rfl (A := a.toInt) rfl (by omega) (by omega) (fun M166 W165 => ?_)
        have hG167 := g_w hG159 W165 (A := r157.toInt) rfl (lo := -1) (hi := 5) rfl rfl (by omega) (by decide)
        have F168 := FR.w F164 W165 (show 104 = 77 ∧ ((a.toInt).toNat = 4 ∨ (a.toInt).toNat = 5 ∨ 7 ≤ (a.toInt).toNat ∧ (a.toInt).toNat ≤ 10) ∨ 102 ≤ 104 ∧ 104 ≤ 104 ∨ 104 = 106 ∨ 104 = 107 by omega)
        refine to_an (pc := 71) rw_213_71 rfl (s_gR (pc := 72) rw_213_72 hG167 rfl (v := 104) rfl (to_in (pc := 75) rw_213_75 rfl (s_ialk (pc := 76) rw_213_76 hG167 rfl (n := 40) rfl rfl (A := a.toInt) rfl (by omega) (by omega) (v := r157) (W_e W165) (b_ige (pc := 77) rw_213_77 (A := r157.toInt) rfl (fun h171 => ?_) (fun h171 => ?_)))))
        · refine to_an (pc := 82) rw_213_82 rfl (s_v (pc := 83) rw_213_83 (dp0 hd (by decide)) (ls0 := [.ref 77]) rfl (Nat.le_of_ble_eq_true rfl) (Nat.le_of_ble_eq_true rfl) rfl (to_rc rfl rfl rfl (g_o hG167 rfl)) rfl ?_)
          have c_172 : M166.2.1 77 7 = (M151.2.1 77 7) := (W_n W165 (fun z => absurd z.1 (by decide)) (F_n F158 (show ¬ (77 = 77 ∧ (7 = 4 ∨ 7 = 5)) by decide) rfl))
          have t_173 : (M166.2.1 77 7).toInt = (M151.2.1 77 7).toInt := congrArg Int32.toInt c_172
          have c_174 : M166.2.1 77 6 = (M.2.1 77 6) := (W_n W165 (fun z => absurd z.1 (by decide)) (F_n F158 (show ¬ (77 = 77 ∧ (6 = 4 ∨ 6 = 5)) by decide) c_154))
          have t_175 : (M166.2.1 77 6).toInt = (M.2.1 77 6).toInt := congrArg Int32.toInt c_174
          refine C_156 hX (dp1 hd (by decide)) hG167 (by omega)  (fun M181 hG177 F176 p_178 p_179 p_180 => ?_)
          have F182 := FR.c F168 F176 tg_275
          have b_183 := g_b hG177 (a := 77) (i := 7) (lo := 0) (hi := 500) rfl rfl
          have c_184 : M181.2.1 77 6 = (M.2.1 77 6) := (F_n F176 (show ¬ (77 = 77 ∧ 7 ≤ 6 ∧ 6 ≤ 10) by decide) c_174)
          have t_185 : (M181.2.1 77 6).toInt = (M.2.1 77 6).toInt := congrArg Int32.toInt c_184
          have b_186 := g_b hG177 (a := 77) (i := 8) (lo := 0) (hi := 5) rfl rfl
          refine to_an (pc := 86) rw_213_86 rfl (to_c (pc := 87) rw_213_87 (x := (9 : Int32)) rfl rfl (s_v (pc := 89) rw_213_89 (dp0 hd (by decide)) (ls0 := [.ref 77, .int (9 : Int32)]) rfl (Nat.le_of_ble_eq_true rfl) (Nat.le_of_ble_eq_true rfl) rfl (to_rc rfl rfl rfl (g_o hG177 rfl)) rfl ?_))
          have k_187 : (9 : Int32).toInt = 9 := rfl
          refine C_161 hX (dp1 hd (by decide)) hG177 (by omega) (c := (9 : Int32)) (fun r188 M197 hG190 F189 p_191 p_192 p_193 p_194 p_195 p_196 => ?_)
          have F198 := FR.c F182 F189 tg_273
          have b_199 := g_b hG190 (a := 77) (i := 7) (lo := 0) (hi := 500) rfl rfl
          have c_200 : M197.2.1 77 6 = (M.2.1 77 6) := (F_n F189 (show ¬ (77 = 77 ∧ (6 = 4 ∨ 6 = 5 ∨ 7 ≤ 6 ∧ 6 ≤ 10)) by decide) c_184)
          have t_201 : (M197.2.1 77 6).toInt = (M.2.1 77 6).toInt := congrArg Int32.toInt c_200
          have b_202 := g_b hG190 (a := 77) (i := 8) (lo := 0) (hi := 5) rfl rfl
          refine b_ine (pc := 92) rw_213_92 (A := r188.toInt) rfl (fun h203 => ?_) (fun h203 => ?_)
          · refine to_an (pc := 97) rw_213_97 rfl (tt_gI (pc := 98) rw_213_98 (g_o hG190 rfl) (v := (M197.2.1 77 8)) rfl (to_c (pc := 101) rw_213_101 (x := (3 : Int32)) rfl rfl (b_ceq (pc := 102) rw_213_102 (A := (M197.2.1 77 8).toInt) (B := 3) rfl rfl (fun h204 => ?_) (fun h204 => ?_))))
            · refine to_an (pc := 119) rw_213_119 rfl (s_gR (pc := 120) rw_213_120 hG190 rfl (v := 106) rfl (to_in (pc := 123) rw_213_123 rfl (s_cl (pc := 124) rw_213_124 rfl (fun l205 => s_las (pc := 125) rw_213_125 hG190 rfl (n := 40) rfl (A := a.toInt) rfl (by omega) (by omega) (fun M207 W206 => ?_)))))
              have hG208 := g_wl hG190 W206
              have F209 := FR.wl F198 W206 (show 106 = 77 ∧ ((a.toInt).toNat = 4 ∨ (a.toInt).toNat = 5 ∨ 7 ≤ (a.toInt).toNat ∧ (a.toInt).toNat ≤ 10) ∨ 102 ≤ 106 ∧ 106 ≤ 104 ∨ 106 = 106 ∨ 106 = 107 by omega)
              refine to_an (pc := 126) rw_213_126 rfl (s_gR (pc := 127) rw_213_127 hG208 rfl (v := 107) rfl (to_in (pc := 130) rw_213_130 rfl (to_c (pc := 131) rw_213_131 (x := (0 : Int32)) rfl rfl (s_ias (pc := 132) rw_213_132 hG208 rfl (n := 40) rfl (A := a.toInt) rfl (by omega) (by omega) (fun M211 W210 => ?_)))))
              have hG212 := g_wf hG208 W210 rfl rfl (by decide)
              have F213 := FR.w F209 W210 (show 107 = 77 ∧ ((a.toInt).toNat = 4 ∨ (a.toInt).toNat = 5 ∨ 7 ≤ (a.toInt).toNat ∧ (a.toInt).toNat ≤ 10) ∨ 102 ≤ 107 ∧ 107 ≤ 104 ∨ 107 = 106 ∨ 107 = 107 by omega)
              have c_214 : M211.2.1 77 7 = (M197.2.1 77 7) := (W_n W210 (fun z => absurd z.1 (by decide)) (W_l W206 rfl))
              have t_215 : (M211.2.1 77 7).toInt = (M197.2.1 77 7).toInt := congrArg Int32.toInt c_214
              have c_216 : M211.2.1 77 6 = (M.2.1 77 6) := (W_n W210 (fun z => absurd z.1 (by decide)) (W_l W206 c_200))
              have t_217 : (M211.2.1 77 6).toInt = (M.2.1 77 6).toInt := congrArg Int32.toInt c_216
              have c_218 : M211.2.1 77 8 = (M197.2.1 77 8) := (W_n W210 (fun z => absurd z.1 (by decide)) (W_l W206 rfl))
              have t_219 : (M211.2.1 77 8).toInt = (M197.2.1 77 8).toInt := congrArg Int32.toInt c_218
              have t_220 : (M89.2.1 102 (a.toInt).toNat).toInt = r80.toInt := congrArg Int32.toInt (W_e W88)
              have t_221 : (M211.2.1 102 (a.toInt).toNat).toInt = (M89.2.1 102 (a.toInt).toNat).toInt := congrArg Int32.toInt (W_n W210 (by omega) (W_l W206 (F_n F189 (show ¬ (102 = 77 ∧ (((a.toInt).toNat) = 4 ∨ ((a.toInt).toNat) = 5 ∨ 7 ≤ ((a.toInt).toNat) ∧ ((a.toInt).toNat) ≤ 10)) by omega) (F_n F176 (show ¬ (102 = 77 ∧ 7 ≤ ((a.toInt).toNat) ∧ ((a.toInt).toNat) ≤ 10) by omega) (W_n W165 (by omega) (F_n F158 (show ¬ (102 = 77 ∧ (((a.toInt).toNat) = 4 ∨ ((a.toInt).toNat) = 5)) by omega) (F_n F146 (show ¬ (102 = 77 ∧ 7 ≤ ((a.toInt).toNat) ∧ ((a.toInt).toNat) ≤ 10) by omega) (W_n W135 (by omega) (F_n F128 (show ¬ (102 = 77 ∧ (((a.toInt).toNat) = 4 ∨ ((a.toInt).toNat) = 5)) by omega) (F_n F112 (show ¬ (102 = 77 ∧ (((a.toInt).toNat) = 4 ∨ ((a.toInt).toNat) = 5 ∨ 7 ≤ ((a.toInt).toNat) ∧ ((a.toInt).toNat) ≤ 10)) by omega) (F_n F99 (show ¬ (102 = 77 ∧ 7 ≤ ((a.toInt).toNat) ∧ ((a.toInt).toNat) ≤ 10) by omega) rfl)))))))))))
              have t_222 : (M89.2.1 102 (a.toInt).toNat).toInt = r80.toInt := congrArg Int32.toInt (W_e W88)
              have t_223 : (M211.2.1 102 (a.toInt).toNat).toInt = (M89.2.1 102 (a.toInt).toNat).toInt := congrArg Int32.toInt (W_n W210 (by omega) (W_l W206 (F_n F189 (show ¬ (102 = 77 ∧ (((a.toInt).toNat) = 4 ∨ ((a.toInt).toNat) = 5 ∨ 7 ≤ ((a.toInt).toNat) ∧ ((a.toInt).toNat) ≤ 10)) by omega) (F_n F176 (show ¬ (102 = 77 ∧ 7 ≤ ((a.toInt).toNat) ∧ ((a.toInt).toNat) ≤ 10) by omega) (W_n W165 (by omega) (F_n F158 (show ¬ (102 = 77 ∧ (((a.toInt).toNat) = 4 ∨ ((a.toInt).toNat) = 5)) by omega) (F_n F146 (show ¬ (102 = 77 ∧ 7 ≤ ((a.toInt).toNat) ∧ ((a.toInt).toNat) ≤ 10) by omega) (W_n W135 (by omega) (F_n F128 (show ¬ (102 = 77 ∧ (((a.toInt).toNat) = 4 ∨ ((a.toInt).toNat) = 5)) by omega) (F_n F112 (show ¬ (102 = 77 ∧ (((a.toInt).toNat) = 4 ∨ ((a.toInt).toNat) = 5 ∨ 7 ≤ ((a.toInt).toNat) ∧ ((a.toInt).toNat) ≤ 10)) by omega) (F_n F99 (show ¬ (102 = 77 ∧ 7 ≤ ((a.toInt).toNat) ∧ ((a.toInt).toNat) ≤ 10) by omega) rfl)))))))))))
              have t_224 : (M136.2.1 103 (a.toInt).toNat).toInt = r127.toInt := congrArg Int32.toInt (W_e W135)
              have t_225 : (M211.2.1 103 (a.toInt).toNat).toInt = (M136.2.1 103 (a.toInt).toNat).toInt := congrArg Int32.toInt (W_n W210 (by omega) (W_l W206 (F_n F189 (show ¬ (103 = 77 ∧ (((a.toInt).toNat) = 4 ∨ ((a.toInt).toNat) = 5 ∨ 7 ≤ ((a.toInt).toNat) ∧ ((a.toInt).toNat) ≤ 10)) by omega) (F_n F176 (show ¬ (103 = 77 ∧ 7 ≤ ((a.toInt).toNat) ∧ ((a.toInt).toNat) ≤ 10) by omega) (W_n W165 (by omega) (F_n F158 (show ¬ (103 = 77 ∧ (((a.toInt).toNat) = 4 ∨ ((a.toInt).toNat) = 5)) by omega) (F_n F146 (show ¬ (103 = 77 ∧ 7 ≤ ((a.toInt).toNat) ∧ ((a.toInt).toNat) ≤ 10) by omega) rfl)))))))
              have t_226 : (M166.2.1 104 (a.toInt).toNat).toInt = r157.toInt := congrArg Int32.toInt (W_e W165)
              have t_227 : (M211.2.1 104 (a.toInt).toNat).toInt = (M166.2.1 104 (a.toInt).toNat).toInt := congrArg Int32.toInt (W_n W210 (by omega) (W_l W206 (F_n F189 (show ¬ (104 = 77 ∧ (((a.toInt).toNat) = 4 ∨ ((a.toInt).toNat) = 5 ∨ 7 ≤ ((a.toInt).toNat) ∧ ((a.toInt).toNat) ≤ 10)) by omega) (F_n F176 (show ¬ (104 = 77 ∧ 7 ≤ ((a.toInt).toNat) ∧ ((a.toInt).toNat) ≤ 10) by omega) rfl))))
              exact (T_213_0 (a := a) hX hd q1 q2 q3 h ((6 * (500 - (M211.2.1 77 7).toInt) + (M211.2.1 77 8).toInt).toNat + 1)) M211  hG212 F213 (by omega) (by omega) (by omega) (by omega) (by omega) (by omega) (by omega) (fun r i z z2 => (W_n W210 (by omega) (W_l W206 (F_n F189 (show ¬ (r = 77 ∧ (i = 4 ∨ i = 5 ∨ 7 ≤ i ∧ i ≤ 10)) by omega) (F_n F176 (show ¬ (r = 77 ∧ 7 ≤ i ∧ i ≤ 10) by omega) (W_n W165 (by omega) (F_n F158 (show ¬ (r = 77 ∧ (i = 4 ∨ i = 5)) by omega) (F_n F146 (show ¬ (r = 77 ∧ 7 ≤ i ∧ i ≤ 10) by omega) (W_n W135 (by omega) (F_n F128 (show ¬ (r = 77 ∧ (i = 4 ∨ i = 5)) by omega) (F_n F112 (show ¬ (r = 77 ∧ (i = 4 ∨ i = 5 ∨ 7 ≤ i ∧ i ≤ 10)) by omega) (F_n F99 (show ¬ (r = 77 ∧ 7 ≤ i ∧ i ≤ 10) by omega) (W_n W88 (by omega) (F_n F81 (show ¬ (r = 77 ∧ (i = 4 ∨ i = 5)) by omega) rfl)))))))))))))) (by omega)
            · refine to_an (pc := 105) rw_213_105 rfl (tt_gI (pc := 106) rw_213_106 (g_o hG190 rfl) (v := (M197.2.1 77 8)) rfl (to_c (pc := 109) rw_213_109 (x := (2 : Int32)) rfl rfl (b_ceq (pc := 110) rw_213_110 (A := (M197.2.1 77 8).toInt) (B := 2) rfl rfl (fun h228 => ?_) (fun h228 => ?_))))
              · refine to_an (pc := 119) rw_213_119 rfl (s_gR (pc := 120) rw_213_120 hG190 rfl (v := 106) rfl (to_in (pc := 123) rw_213_123 rfl (s_cl (pc := 124) rw_213_124 rfl (fun l229 => s_las (pc := 125) rw_213_125 hG190 rfl (n := 40) rfl (A := a.toInt) rfl (by omega) (by omega) (fun M231 W230 => ?_)))))
                have hG232 := g_wl hG190 W230
                have F233 := FR.wl F198 W230 (show 106 = 77 ∧ ((a.toInt).toNat = 4 ∨ (a.toInt).toNat = 5 ∨ 7 ≤ (a.toInt).toNat ∧ (a.toInt).toNat ≤ 10) ∨ 102 ≤ 106 ∧ 106 ≤ 104 ∨ 106 = 106 ∨ 106 = 107 by omega)
                refine to_an (pc := 126) rw_213_126 rfl (s_gR (pc := 127) rw_213_127 hG232 rfl (v := 107) rfl (to_in (pc := 130) rw_213_130 rfl (to_c (pc := 131) rw_213_131 (x := (0 : Int32)) rfl rfl (s_ias (pc := 132) rw_213_132 hG232 rfl (n := 40) rfl (A := a.toInt) rfl (by omega) (by omega) (fun M235 W234 => ?_)))))
                have hG236 := g_wf hG232 W234 rfl rfl (by decide)
                have F237 := FR.w F233 W234 (show 107 = 77 ∧ ((a.toInt).toNat = 4 ∨ (a.toInt).toNat = 5 ∨ 7 ≤ (a.toInt).toNat ∧ (a.toInt).toNat ≤ 10) ∨ 102 ≤ 107 ∧ 107 ≤ 104 ∨ 107 = 106 ∨ 107 = 107 by omega)
                have c_238 : M235.2.1 77 7 = (M197.2.1 77 7) := (W_n W234 (fun z => absurd z.1 (by decide)) (W_l W230 rfl))
                have t_239 : (M235.2.1 77 7).toInt = (M197.2.1 77 7).toInt := congrArg Int32.toInt c_238
                have c_240 : M235.2.1 77 6 = (M.2.1 77 6) := (W_n W234 (fun z => absurd z.1 (by decide)) (W_l W230 c_200))
                have t_241 : (M235.2.1 77 6).toInt = (M.2.1 77 6).toInt := congrArg Int32.toInt c_240
                have c_242 : M235.2.1 77 8 = (M197.2.1 77 8) := (W_n W234 (fun z => absurd z.1 (by decide)) (W_l W230 rfl))
                have t_243 : (M235.2.1 77 8).toInt = (M197.2.1 77 8).toInt := congrArg Int32.toInt c_242
                have t_244 : (M89.2.1 102 (a.toInt).toNat).toInt = r80.toInt := congrArg Int32.toInt (W_e W88)
                have t_245 : (M235.2.1 102 (a.toInt).toNat).toInt = (M89.2.1 102 (a.toInt).toNat).toInt := congrArg Int32.toInt (W_n W234 (by omega) (W_l W230 (F_n F189 (show ¬ (102 = 77 ∧ (((a.toInt).toNat) = 4 ∨ ((a.toInt).toNat) = 5 ∨ 7 ≤ ((a.toInt).toNat) ∧ ((a.toInt).toNat) ≤ 10)) by omega) (F_n F176 (show ¬ (102 = 77 ∧ 7 ≤ ((a.toInt).toNat) ∧ ((a.toInt).toNat) ≤ 10) by omega) (W_n W165 (by omega) (F_n F158 (show ¬ (102 = 77 ∧ (((a.toInt).toNat) = 4 ∨ ((a.toInt).toNat) = 5)) by omega) (F_n F146 (show ¬ (102 = 77 ∧ 7 ≤ ((a.toInt).toNat) ∧ ((a.toInt).toNat) ≤ 10) by omega) (W_n W135 (by omega) (F_n F128 (show ¬ (102 = 77 ∧ (((a.toInt).toNat) = 4 ∨ ((a.toInt).toNat) = 5)) by omega) (F_n F112 (show ¬ (102 = 77 ∧ (((a.toInt).toNat) = 4 ∨ ((a.toInt).toNat) = 5 ∨ 7 ≤ ((a.toInt).toNat) ∧ ((a.toInt).toNat) ≤ 10)) by omega) (F_n F99 (show ¬ (102 = 77 ∧ 7 ≤ ((a.toInt).toNat) ∧ ((a.toInt).toNat) ≤ 10) by omega) rfl)))))))))))
                have t_246 : (M89.2.1 102 (a.toInt).toNat).toInt = r80.toInt := congrArg Int32.toInt (W_e W88)
                have t_247 : (M235.2.1 102 (a.toInt).toNat).toInt = (M89.2.1 102 (a.toInt).toNat).toInt := congrArg Int32.toInt (W_n W234 (by omega) (W_l W230 (F_n F189 (show ¬ (102 = 77 ∧ (((a.toInt).toNat) = 4 ∨ ((a.toInt).toNat) = 5 ∨ 7 ≤ ((a.toInt).toNat) ∧ ((a.toInt).toNat) ≤ 10)) by omega) (F_n F176 (show ¬ (102 = 77 ∧ 7 ≤ ((a.toInt).toNat) ∧ ((a.toInt).toNat) ≤ 10) by omega) (W_n W165 (by omega) (F_n F158 (show ¬ (102 = 77 ∧ (((a.toInt).toNat) = 4 ∨ ((a.toInt).toNat) = 5)) by omega) (F_n F146 (show ¬ (102 = 77 ∧ 7 ≤ ((a.toInt).toNat) ∧ ((a.toInt).toNat) ≤ 10) by omega) (W_n W135 (by omega) (F_n F128 (show ¬ (102 = 77 ∧ (((a.toInt).toNat) = 4 ∨ ((a.toInt).toNat) = 5)) by omega) (F_n F112 (show ¬ (102 = 77 ∧ (((a.toInt).toNat) = 4 ∨ ((a.toInt).toNat) = 5 ∨ 7 ≤ ((a.toInt).toNat) ∧ ((a.toInt).toNat) ≤ 10)) by omega) (F_n F99 (show ¬ (102 = 77 ∧ 7 ≤ ((a.toInt).toNat) ∧ ((a.toInt).toNat) ≤ 10) by omega) rfl)))))))))))
                have t_248 : (M136.2.1 103 (a.toInt).toNat).toInt = r127.toInt := congrArg Int32.toInt (W_e W135)
                have t_249 : (M235.2.1 103 (a.toInt).toNat).toInt = (M136.2.1 103 (a.toInt).toNat).toInt := congrArg Int32.toInt (W_n W234 (by omega) (W_l W230 (F_n F189 (show ¬ (103 = 77 ∧ (((a.toInt).toNat) = 4 ∨ ((a.toInt).toNat) = 5 ∨ 7 ≤ ((a.toInt).toNat) ∧ ((a.toInt).toNat) ≤ 10)) by omega) (F_n F176 (show ¬ (103 = 77 ∧ 7 ≤ ((a.toInt).toNat) ∧ ((a.toInt).toNat) ≤ 10) by omega) (W_n W165 (by omega) (F_n F158 (show ¬ (103 = 77 ∧ (((a.toInt).toNat) = 4 ∨ ((a.toInt).toNat) = 5)) by omega) (F_n F146 (show ¬ (103 = 77 ∧ 7 ≤ ((a.toInt).toNat) ∧ ((a.toInt).toNat) ≤ 10) by omega) rfl)))))))
                have t_250 : (M166.2.1 104 (a.toInt).toNat).toInt = r157.toInt := congrArg Int32.toInt (W_e W165)
                have t_251 : (M235.2.1 104 (a.toInt).toNat).toInt = (M166.2.1 104 (a.toInt).toNat).toInt := congrArg Int32.toInt (W_n W234 (by omega) (W_l W230 (F_n F189 (show ¬ (104 = 77 ∧ (((a.toInt).toNat) = 4 ∨ ((a.toInt).toNat) = 5 ∨ 7 ≤ ((a.toInt).toNat) ∧ ((a.toInt).toNat) ≤ 10)) by omega) (F_n F176 (show ¬ (104 = 77 ∧ 7 ≤ ((a.toInt).toNat) ∧ ((a.toInt).toNat) ≤ 10) by omega) rfl))))
                exact (T_213_0 (a := a) hX hd q1 q2 q3 h ((6 * (500 - (M235.2.1 77 7).toInt) + (M235.2.1 77 8).toInt).toNat + 1)) M235  hG236 F237 (by omega) (by omega) (by omega) (by omega) (by omega) (by omega) (by omega) (fun r i z z2 => (W_n W234 (by omega) (W_l W230 (F_n F189 (show ¬ (r = 77 ∧ (i = 4 ∨ i = 5 ∨ 7 ≤ i ∧ i ≤ 10)) by omega) (F_n F176 (show ¬ (r = 77 ∧ 7 ≤ i ∧ i ≤ 10) by omega) (W_n W165 (by omega) (F_n F158 (show ¬ (r = 77 ∧ (i = 4 ∨ i = 5)) by omega) (F_n F146 (show ¬ (r = 77 ∧ 7 ≤ i ∧ i ≤ 10) by omega) (W_n W135 (by omega) (F_n F128 (show ¬ (r = 77 ∧ (i = 4 ∨ i = 5)) by omega) (F_n F112 (show ¬ (r = 77 ∧ (i = 4 ∨ i = 5 ∨ 7 ≤ i ∧ i ≤ 10)) by omega) (F_n F99 (show ¬ (r = 77 ∧ 7 ≤ i ∧ i ≤ 10) by omega) (W_n W88 (by omega) (F_n F81 (show ¬ (r = 77 ∧ (i = 4 ∨ i = 5)) by omega) rfl)))))))))))))) (by omega)
              · refine to_an (pc := 113) rw_213_113 rfl (to_c (pc := 114) rw_213_114 (x := (1 : Int32)) rfl rfl (s_v (pc := 115) rw_213_115 (dp0 hd (by decide)) (ls0 := [.ref 77, .int (1 : Int32)]) rfl (Nat.le_of_ble_eq_true rfl) (Nat.le_of_ble_eq_true rfl) rfl (to_rc rfl rfl rfl (g_o hG190 rfl)) rfl (to_an (pc := 0) rw_152_0 rfl (to_in (pc := 1) rw_152_1 rfl (s_pI (pc := 2) rw_152_2 hG190 rfl (fun M253 W252 => ?_))))))
                have hG254 := g_wf hG190 W252 rfl rfl (by decide)
                have F255 := FR.w F198 W252 (show 77 = 77 ∧ (4 = 4 ∨ 4 = 5 ∨ 7 ≤ 4 ∧ 4 ≤ 10) ∨ 102 ≤ 77 ∧ 77 ≤ 104 ∨ 77 = 106 ∨ 77 = 107 by decide)
                refine to_an (pc := 5) rw_152_5 rfl (to_an (pc := 6) rw_152_6 rfl ?_)
                have c_256 : M253.2.1 77 10 = (M197.2.1 77 10) := (W_n W252 (by decide) rfl)
                have b_257 := g_b hG190 (a := 77) (i := 10) (lo := 0) (hi := 500) rfl rfl
                refine tt_gI (pc := 7) rw_152_7 (g_o hG254 rfl) (v := (M197.2.1 77 10)) c_256 (s_pI (pc := 10) rw_152_10 hG254 rfl (fun M259 W258 => ?_))
                have hG260 := g_wf hG254 W258 rfl rfl (by decide)
                have F261 := FR.w F255 W258 (show 77 = 77 ∧ (5 = 4 ∨ 5 = 5 ∨ 7 ≤ 5 ∧ 5 ≤ 10) ∨ 102 ≤ 77 ∧ 77 ≤ 104 ∨ 77 = 106 ∨ 77 = 107 by decide)
                refine to_c (pc := 13) rw_152_13 (x := (0 : Int32)) rfl rfl (s_r1 (pc := 14) rw_152_14 (A := 0) rfl (by decide) (s_r1 (pc := 118) rw_213_118 (A := 0) rfl (by decide) ?_))
                have k_262 : (0 : Int32).toInt = 0 := rfl
                have c_263 : M259.2.1 77 7 = (M197.2.1 77 7) := (W_n W258 (by decide) (W_n W252 (by decide) rfl))
                have t_264 : (M259.2.1 77 7).toInt = (M197.2.1 77 7).toInt := congrArg Int32.toInt c_263
                have c_265 : M259.2.1 77 6 = (M.2.1 77 6) := (W_n W258 (by decide) (W_n W252 (by decide) c_200))
                have t_266 : (M259.2.1 77 6).toInt = (M.2.1 77 6).toInt := congrArg Int32.toInt c_265
                have c_267 : M259.2.1 77 8 = (M197.2.1 77 8) := (W_n W258 (by decide) (W_n W252 (by decide) rfl))
                have t_268 : (M259.2.1 77 8).toInt = (M197.2.1 77 8).toInt := congrArg Int32.toInt c_267
                have t_269 : (M89.2.1 102 (a.toInt).toNat).toInt = r80.toInt := congrArg Int32.toInt (W_e W88)
                have t_270 : (M259.2.1 102 (a.toInt).toNat).toInt = (M89.2.1 102 (a.toInt).toNat).toInt := congrArg Int32.toInt (W_n W258 (by omega) (W_n W252 (by omega) (F_n F189 (show ¬ (102 = 77 ∧ (((a.toInt).toNat) = 4 ∨ ((a.toInt).toNat) = 5 ∨ 7 ≤ ((a.toInt).toNat) ∧ ((a.toInt).toNat) ≤ 10)) by omega) (F_n F176 (show ¬ (102 = 77 ∧ 7 ≤ ((a.toInt).toNat) ∧ ((a.toInt).toNat) ≤ 10) by omega) (W_n W165 (by omega) (F_n F158 (show ¬ (102 = 77 ∧ (((a.toInt).toNat) = 4 ∨ ((a.toInt).toNat) = 5)) by omega) (F_n F146 (show ¬ (102 = 77 ∧ 7 ≤ ((a.toInt).toNat) ∧ ((a.toInt).toNat) ≤ 10) by omega) (W_n W135 (by omega) (F_n F128 (show ¬ (102 = 77 ∧ (((a.toInt).toNat) = 4 ∨ ((a.toInt).toNat) = 5)) by omega) (F_n F112 (show ¬ (102 = 77 ∧ (((a.toInt).toNat) = 4 ∨ ((a.toInt).toNat) = 5 ∨ 7 ≤ ((a.toInt).toNat) ∧ ((a.toInt).toNat) ≤ 10)) by omega) (F_n F99 (show ¬ (102 = 77 ∧ 7 ≤ ((a.toInt).toNat) ∧ ((a.toInt).toNat) ≤ 10) by omega) rfl)))))))))))
                have t_271 : (M89.2.1 102 (a.toInt).toNat).toInt = r80.toInt := congrArg Int32.toInt (W_e W88)
                have t_272 : (M259.2.1 102 (a.toInt).toNat).toInt = (M89.2.1 102 (a.toInt).toNat).toInt := congrArg Int32.toInt (W_n W258 (by omega) (W_n W252 (by omega) (F_n F189 (show ¬ (102 = 77 ∧ (((a.toInt).toNat) = 4 ∨ ((a.toInt).toNat) = 5 ∨ 7 ≤ ((a.toInt).toNat) ∧ ((a.toInt).toNat) ≤ 10)) by omega) (F_n F176 (show ¬ (102 = 77 ∧ 7 ≤ ((a.toInt).toNat) ∧ ((a.toInt).toNat) ≤ 10) by omega) (W_n W165 (by omega) (F_n F158 (show ¬ (102 = 77 ∧ (((a.toInt).toNat) = 4 ∨ ((a.toInt).toNat) = 5)) by omega) (F_n F146 (show ¬ (102 = 77 ∧ 7 ≤ ((a.toInt).toNat) ∧ ((a.toInt).toNat) ≤ 10) by omega) (W_n W135 (by omega) (F_n F128 (show ¬ (102 = 77 ∧ (((a.toInt).toNat) = 4 ∨ ((a.toInt).toNat) = 5)) by omega) (F_n F112 (show ¬ (102 = 77 ∧ (((a.toInt).toNat) = 4 ∨ ((a.toInt).toNat) = 5 ∨ 7 ≤ ((a.toInt).toNat) ∧ ((a.toInt).toNat) ≤ 10)) by omega) (F_n F99 (show ¬ (102 = 77 ∧ 7 ≤ ((a.toInt).toNat) ∧ ((a.toInt).toNat) ≤ 10) by omega) rfl)))))))))))
                have t_273 : (M136.2.1 103 (a.toInt).toNat).toInt = r127.toInt := congrArg Int32.toInt (W_e W135)
                have t_274 : (M259.2.1 103 (a.toInt).toNat).toInt = (M136.2.1 103 (a.toInt).toNat).toInt := congrArg Int32.toInt (W_n W258 (by omega) (W_n W252 (by omega) (F_n F189 (show ¬ (103 = 77 ∧ (((a.toInt).toNat) = 4 ∨ ((a.toInt).toNat) = 5 ∨ 7 ≤ ((a.toInt).toNat) ∧ ((a.toInt).toNat) ≤ 10)) by omega) (F_n F176 (show ¬ (103 = 77 ∧ 7 ≤ ((a.toInt).toNat) ∧ ((a.toInt).toNat) ≤ 10) by omega) (W_n W165 (by omega) (F_n F158 (show ¬ (103 = 77 ∧ (((a.toInt).toNat) = 4 ∨ ((a.toInt).toNat) = 5)) by omega) (F_n F146 (show ¬ (103 = 77 ∧ 7 ≤ ((a.toInt).toNat) ∧ ((a.toInt).toNat) ≤ 10) by omega) rfl)))))))
                have t_275 : (M166.2.1 104 (a.toInt).toNat).toInt = r157.toInt := congrArg Int32.toInt (W_e W165)
                have t_276 : (M259.2.1 104 (a.toInt).toNat).toInt = (M166.2.1 104 (a.toInt).toNat).toInt := congrArg Int32.toInt (W_n W258 (by omega) (W_n W252 (by omega) (F_n F189 (show ¬ (104 = 77 ∧ (((a.toInt).toNat) = 4 ∨ ((a.toInt).toNat) = 5 ∨ 7 ≤ ((a.toInt).toNat) ∧ ((a.toInt).toNat) ≤ 10)) by omega) (F_n F176 (show ¬ (104 = 77 ∧ 7 ≤ ((a.toInt).toNat) ∧ ((a.toInt).toNat) ≤ 10) by omega) rfl))))
                exact h (0 : Int32) M259 hG260 F261 (by decide) (by decide) (by omega) (by omega) (by omega) (by omega) (fun r i z z2 => (W_n W258 (by omega) (W_n W252 (by omega) (F_n F189 (show ¬ (r = 77 ∧ (i = 4 ∨ i = 5 ∨ 7 ≤ i ∧ i ≤ 10)) by omega) (F_n F176 (show ¬ (r = 77 ∧ 7 ≤ i ∧ i ≤ 10) by omega) (W_n W165 (by omega) (F_n F158 (show ¬ (r = 77 ∧ (i = 4 ∨ i = 5)) by omega) (F_n F146 (show ¬ (r = 77 ∧ 7 ≤ i ∧ i ≤ 10) by omega) (W_n W135 (by omega) (F_n F128 (show ¬ (r = 77 ∧ (i = 4 ∨ i = 5)) by omega) (F_n F112 (show ¬ (r = 77 ∧ (i = 4 ∨ i = 5 ∨ 7 ≤ i ∧ i ≤ 10)) by omega) (F_n F99 (show ¬ (r = 77 ∧ 7 ≤ i ∧ i ≤ 10) by omega) (W_n W88 (by omega) (F_n F81 (show ¬ (r = 77 ∧ (i = 4 ∨ i = 5)) by omega) rfl))))))))))))))
          · refine to_c (pc := 95) rw_213_95 (x := (0 : Int32)) rfl rfl (s_r1 (pc := 96) rw_213_96 (A := 0) rfl (by decide) ?_)
            have k_277 : (0 : Int32).toInt = 0 := rfl
            have t_278 : (M89.2.1 102 (a.toInt).toNat).toInt = r80.toInt := congrArg Int32.toInt (W_e W88)
            have t_279 : (M197.2.1 102 (a.toInt).toNat).toInt = (M89.2.1 102 (a.toInt).toNat).toInt := congrArg Int32.toInt (F_n F189 (show ¬ (102 = 77 ∧ (((a.toInt).toNat) = 4 ∨ ((a.toInt).toNat) = 5 ∨ 7 ≤ ((a.toInt).toNat) ∧ ((a.toInt).toNat) ≤ 10)) by omega) (F_n F176 (show ¬ (102 = 77 ∧ 7 ≤ ((a.toInt).toNat) ∧ ((a.toInt).toNat) ≤ 10) by omega) (W_n W165 (by omega) (F_n F158 (show ¬ (102 = 77 ∧ (((a.toInt).toNat) = 4 ∨ ((a.toInt).toNat) = 5)) by omega) (F_n F146 (show ¬ (102 = 77 ∧ 7 ≤ ((a.toInt).toNat) ∧ ((a.toInt).toNat) ≤ 10) by omega) (W_n W135 (by omega) (F_n F128 (show ¬ (102 = 77 ∧ (((a.toInt).toNat) = 4 ∨ ((a.toInt).toNat) = 5)) by omega) (F_n F112 (show ¬ (102 = 77 ∧ (((a.toInt).toNat) = 4 ∨ ((a.toInt).toNat) = 5 ∨ 7 ≤ ((a.toInt).toNat) ∧ ((a.toInt).toNat) ≤ 10)) by omega) (F_n F99 (show ¬ (102 = 77 ∧ 7 ≤ ((a.toInt).toNat) ∧ ((a.toInt).toNat) ≤ 10) by omega) rfl)))))))))
            have t_280 : (M89.2.1 102 (a.toInt).toNat).toInt = r80.toInt := congrArg Int32.toInt (W_e W88)
            have t_281 : (M197.2.1 102 (a.toInt).toNat).toInt = (M89.2.1 102 (a.toInt).toNat).toInt := congrArg Int32.toInt (F_n F189 (show ¬ (102 = 77 ∧ (((a.toInt).toNat) = 4 ∨ ((a.toInt).toNat) = 5 ∨ 7 ≤ ((a.toInt).toNat) ∧ ((a.toInt).toNat) ≤ 10)) by omega) (F_n F176 (show ¬ (102 = 77 ∧ 7 ≤ ((a.toInt).toNat) ∧ ((a.toInt).toNat) ≤ 10) by omega) (W_n W165 (by omega) (F_n F158 (show ¬ (102 = 77 ∧ (((a.toInt).toNat) = 4 ∨ ((a.toInt).toNat) = 5)) by omega) (F_n F146 (show ¬ (102 = 77 ∧ 7 ≤ ((a.toInt).toNat) ∧ ((a.toInt).toNat) ≤ 10) by omega) (W_n W135 (by omega) (F_n F128 (show ¬ (102 = 77 ∧ (((a.toInt).toNat) = 4 ∨ ((a.toInt).toNat) = 5)) by omega) (F_n F112 (show ¬ (102 = 77 ∧ (((a.toInt).toNat) = 4 ∨ ((a.toInt).toNat) = 5 ∨ 7 ≤ ((a.toInt).toNat) ∧ ((a.toInt).toNat) ≤ 10)) by omega) (F_n F99 (show ¬ (102 = 77 ∧ 7 ≤ ((a.toInt).toNat) ∧ ((a.toInt).toNat) ≤ 10) by omega) rfl)))))))))
            have t_282 : (M136.2.1 103 (a.toInt).toNat).toInt = r127.toInt := congrArg Int32.toInt (W_e W135)
            have t_283 : (M197.2.1 103 (a.toInt).toNat).toInt = (M136.2.1 103 (a.toInt).toNat).toInt := congrArg Int32.toInt (F_n F189 (show ¬ (103 = 77 ∧ (((a.toInt).toNat) = 4 ∨ ((a.toInt).toNat) = 5 ∨ 7 ≤ ((a.toInt).toNat) ∧ ((a.toInt).toNat) ≤ 10)) by omega) (F_n F176 (show ¬ (103 = 77 ∧ 7 ≤ ((a.toInt).toNat) ∧ ((a.toInt).toNat) ≤ 10) by omega) (W_n W165 (by omega) (F_n F158 (show ¬ (103 = 77 ∧ (((a.toInt).toNat) = 4 ∨ ((a.toInt).toNat) = 5)) by omega) (F_n F146 (show ¬ (103 = 77 ∧ 7 ≤ ((a.toInt).toNat) ∧ ((a.toInt).toNat) ≤ 10) by omega) rfl)))))
            have t_284 : (M166.2.1 104 (a.toInt).toNat).toInt = r157.toInt := congrArg Int32.toInt (W_e W165)
            have t_285 : (M197.2.1 104 (a.toInt).toNat).toInt = (M166.2.1 104 (a.toInt).toNat).toInt := congrArg Int32.toInt (F_n F189 (show ¬ (104 = 77 ∧ (((a.toInt).toNat) = 4 ∨ ((a.toInt).toNat) = 5 ∨ 7 ≤ ((a.toInt).toNat) ∧ ((a.toInt).toNat) ≤ 10)) by omega) (F_n F176 (show ¬ (104 = 77 ∧ 7 ≤ ((a.toInt).toNat) ∧ ((a.toInt).toNat) ≤ 10) by omega) rfl))
            exact h (0 : Int32) M197 hG190 F198 (by decide) (by decide) (by omega) (by omega) (by omega) (by omega) (fun r i z z2 => (F_n F189 (show ¬ (r = 77 ∧ (i = 4 ∨ i = 5 ∨ 7 ≤ i ∧ i ≤ 10)) by omega) (F_n F176 (show ¬ (r = 77 ∧ 7 ≤ i ∧ i ≤ 10) by omega) (W_n W165 (by omega) (F_n F158 (show ¬ (r = 77 ∧ (i = 4 ∨ i = 5)) by omega) (F_n F146 (show ¬ (r = 77 ∧ 7 ≤ i ∧ i ≤ 10) by omega) (W_n W135 (by omega) (F_n F128 (show ¬ (r = 77 ∧ (i = 4 ∨ i = 5)) by omega) (F_n F112 (show ¬ (r = 77 ∧ (i = 4 ∨ i = 5 ∨ 7 ≤ i ∧ i ≤ 10)) by omega) (F_n F99 (show ¬ (r = 77 ∧ 7 ≤ i ∧ i ≤ 10) by omega) (W_n W88 (by omega) (F_n F81 (show ¬ (r = 77 ∧ (i = 4 ∨ i = 5)) by omega) rfl))))))))))))
        · refine to_c (pc := 80) rw_213_80 (x := (0 : Int32)) rfl rfl (s_r1 (pc := 81) rw_213_81 (A := 0) rfl (by decide) ?_)
          have k_286 : (0 : Int32).toInt = 0 := rfl
          have c_287 : M166.2.1 77 7 = (M151.2.1 77 7) := (W_n W165 (fun z => absurd z.1 (by decide)) (F_n F158 (show ¬ (77 = 77 ∧ (7 = 4 ∨ 7 = 5)) by decide) rfl))
          have t_288 : (M166.2.1 77 7).toInt = (M151.2.1 77 7).toInt := congrArg Int32.toInt c_287
          have c_289 : M166.2.1 77 6 = (M.2.1 77 6) := (W_n W165 (fun z => absurd z.1 (by decide)) (F_n F158 (show ¬ (77 = 77 ∧ (6 = 4 ∨ 6 = 5)) by decide) c_154))
          have t_290 : (M166.2.1 77 6).toInt = (M.2.1 77 6).toInt := congrArg Int32.toInt c_289
          have c_291 : M166.2.1 77 8 = (M151.2.1 77 8) := (W_n W165 (fun z => absurd z.1 (by decide)) (F_n F158 (show ¬ (77 = 77 ∧ (8 = 4 ∨ 8 = 5)) by decide) rfl))
          have t_292 : (M166.2.1 77 8).toInt = (M151.2.1 77 8).toInt := congrArg Int32.toInt c_291
          have t_293 : (M89.2.1 102 (a.toInt).toNat).toInt = r80.toInt := congrArg Int32.toInt (W_e W88)
          have t_294 : (M166.2.1 102 (a.toInt).toNat).toInt = (M89.2.1 102 (a.toInt).toNat).toInt := congrArg Int32.toInt (W_n W165 (by omega) (F_n F158 (show ¬ (102 = 77 ∧ (((a.toInt).toNat) = 4 ∨ ((a.toInt).toNat) = 5)) by omega) (F_n F146 (show ¬ (102 = 77 ∧ 7 ≤ ((a.toInt).toNat) ∧ ((a.toInt).toNat) ≤ 10) by omega) (W_n W135 (by omega) (F_n F128 (show ¬ (102 = 77 ∧ (((a.toInt).toNat) = 4 ∨ ((a.toInt).toNat) = 5)) by omega) (F_n F112 (show ¬ (102 = 77 ∧ (((a.toInt).toNat) = 4 ∨ ((a.toInt).toNat) = 5 ∨ 7 ≤ ((a.toInt).toNat) ∧ ((a.toInt).toNat) ≤ 10)) by omega) (F_n F99 (show ¬ (102 = 77 ∧ 7 ≤ ((a.toInt).toNat) ∧ ((a.toInt).toNat) ≤ 10) by omega) rfl)))))))
          have t_295 : (M89.2.1 102 (a.toInt).toNat).toInt = r80.toInt := congrArg Int32.toInt (W_e W88)
          have t_296 : (M166.2.1 102 (a.toInt).toNat).toInt = (M89.2.1 102 (a.toInt).toNat).toInt := congrArg Int32.toInt (W_n W165 (by omega) (F_n F158 (show ¬ (102 = 77 ∧ (((a.toInt).toNat) = 4 ∨ ((a.toInt).toNat) = 5)) by omega) (F_n F146 (show ¬ (102 = 77 ∧ 7 ≤ ((a.toInt).toNat) ∧ ((a.toInt).toNat) ≤ 10) by omega) (W_n W135 (by omega) (F_n F128 (show ¬ (102 = 77 ∧ (((a.toInt).toNat) = 4 ∨ ((a.toInt).toNat) = 5)) by omega) (F_n F112 (show ¬ (102 = 77 ∧ (((a.toInt).toNat) = 4 ∨ ((a.toInt).toNat) = 5 ∨ 7 ≤ ((a.toInt).toNat) ∧ ((a.toInt).toNat) ≤ 10)) by omega) (F_n F99 (show ¬ (102 = 77 ∧ 7 ≤ ((a.toInt).toNat) ∧ ((a.toInt).toNat) ≤ 10) by omega) rfl)))))))
          have t_297 : (M136.2.1 103 (a.toInt).toNat).toInt = r127.toInt := congrArg Int32.toInt (W_e W135)
          have t_298 : (M166.2.1 103 (a.toInt).toNat).toInt = (M136.2.1 103 (a.toInt).toNat).toInt := congrArg Int32.toInt (W_n W165 (by omega) (F_n F158 (show ¬ (103 = 77 ∧ (((a.toInt).toNat) = 4 ∨ ((a.toInt).toNat) = 5)) by omega) (F_n F146 (show ¬ (103 = 77 ∧ 7 ≤ ((a.toInt).toNat) ∧ ((a.toInt).toNat) ≤ 10) by omega) rfl)))
          have t_299 : (M166.2.1 104 (a.toInt).toNat).toInt = r157.toInt := congrArg Int32.toInt (W_e W165)
          exact h (0 : Int32) M166 hG167 F168 (by decide) (by decide) (by omega) (by omega) (by omega) (by omega) (fun r i z z2 => (W_n W165 (by omega) (F_n F158 (show ¬ (r = 77 ∧ (i = 4 ∨ i = 5)) by omega) (F_n F146 (show ¬ (r = 77 ∧ 7 ≤ i ∧ i ≤ 10) by omega) (W_n W135 (by omega) (F_n F128 (show ¬ (r = 77 ∧ (i = 4 ∨ i = 5)) by omega) (F_n F112 (show ¬ (r = 77 ∧ (i = 4 ∨ i = 5 ∨ 7 ≤ i ∧ i ≤ 10)) by omega) (F_n F99 (show ¬ (r = 77 ∧ 7 ≤ i ∧ i ≤ 10) by omega) (W_n W88 (by omega) (F_n F81 (show ¬ (r = 77 ∧ (i = 4 ∨ i = 5)) by omega) rfl))))))))))
      · refine to_c (pc := 55) rw_213_55 (x := (0 : Int32)) rfl rfl (s_r1 (pc := 56) rw_213_56 (A := 0) rfl (by decide) ?_)
        have k_300 : (0 : Int32).toInt = 0 := rfl
        have c_301 : M136.2.1 77 7 = (M120.2.1 77 7) := (W_n W135 (fun z => absurd z.1 (by decide)) (F_n F128 (show ¬ (77 = 77 ∧ (7 = 4 ∨ 7 = 5)) by decide) rfl))
        have t_302 : (M136.2.1 77 7).toInt = (M120.2.1 77 7).toInt := congrArg Int32.toInt c_301
        have c_303 : M136.2.1 77 6 = (M.2.1 77 6) := (W_n W135 (fun z => absurd z.1 (by decide)) (F_n F128 (show ¬ (77 = 77 ∧ (6 = 4 ∨ 6 = 5)) by decide) c_123))
        have t_304 : (M136.2.1 77 6).toInt = (M.2.1 77 6).toInt := congrArg Int32.toInt c_303
        have c_305 : M136.2.1 77 8 = (M120.2.1 77 8) := (W_n W135 (fun z => absurd z.1 (by decide)) (F_n F128 (show ¬ (77 = 77 ∧ (8 = 4 ∨ 8 = 5)) by decide) rfl))
        have t_306 : (M136.2.1 77 8).toInt = (M120.2.1 77 8).toInt := congrArg Int32.toInt c_305
        have t_307 : (M89.2.1 102 (a.toInt).toNat).toInt = r80.toInt := congrArg Int32.toInt (W_e W88)
        have t_308 : (M136.2.1 102 (a.toInt).toNat).toInt = (M89.2.1 102 (a.toInt).toNat).toInt := congrArg Int32.toInt (W_n W135 (by omega) (F_n F128 (show ¬ (102 = 77 ∧ (((a.toInt).toNat) = 4 ∨ ((a.toInt).toNat) = 5)) by omega) (F_n F112 (show ¬ (102 = 77 ∧ (((a.toInt).toNat) = 4 ∨ ((a.toInt).toNat) = 5 ∨ 7 ≤ ((a.toInt).toNat) ∧ ((a.toInt).toNat) ≤ 10)) by omega) (F_n F99 (show ¬ (102 = 77 ∧ 7 ≤ ((a.toInt).toNat) ∧ ((a.toInt).toNat) ≤ 10) by omega) rfl))))
        have t_309 : (M89.2.1 102 (a.toInt).toNat).toInt = r80.toInt := congrArg Int32.toInt (W_e W88)
        have t_310 : (M136.2.1 102 (a.toInt).toNat).toInt = (M89.2.1 102 (a.toInt).toNat).toInt := congrArg Int32.toInt (W_n W135 (by omega) (F_n F128 (show ¬ (102 = 77 ∧ (((a.toInt).toNat) = 4 ∨ ((a.toInt).toNat) = 5)) by omega) (F_n F112 (show ¬ (102 = 77 ∧ (((a.toInt).toNat) = 4 ∨ ((a.toInt).toNat) = 5 ∨ 7 ≤ ((a.toInt).toNat) ∧ ((a.toInt).toNat) ≤ 10)) by omega) (F_n F99 (show ¬ (102 = 77 ∧ 7 ≤ ((a.toInt).toNat) ∧ ((a.toInt).toNat) ≤ 10) by omega) rfl))))
        have t_311 : (M136.2.1 103 (a.toInt).toNat).toInt = r127.toInt := congrArg Int32.toInt (W_e W135)
        have t_312 : (M136.2.1 104 (a.toInt).toNat).toInt = (M.2.1 104 (a.toInt).toNat).toInt := congrArg Int32.toInt (W_n W135 (by omega) (F_n F128 (show ¬ (104 = 77 ∧ (((a.toInt).toNat) = 4 ∨ ((a.toInt).toNat) = 5)) by omega) (F_n F112 (show ¬ (104 = 77 ∧ (((a.toInt).toNat) = 4 ∨ ((a.toInt).toNat) = 5 ∨ 7 ≤ ((a.toInt).toNat) ∧ ((a.toInt).toNat) ≤ 10)) by omega) (F_n F99 (show ¬ (104 = 77 ∧ 7 ≤ ((a.toInt).toNat) ∧ ((a.toInt).toNat) ≤ 10) by omega) (W_n W88 (by omega) (F_n F81 (show ¬ (104 = 77 ∧ (((a.toInt).toNat) = 4 ∨ ((a.toInt).toNat) = 5)) by omega) rfl))))))
        exact h (0 : Int32) M136 hG137 F138 (by decide) (by decide) (by omega) (by omega) (by omega) (by omega) (fun r i z z2 => (W_n W135 (by omega) (F_n F128 (show ¬ (r = 77 ∧ (i = 4 ∨ i = 5)) by omega) (F_n F112 (show ¬ (r = 77 ∧ (i = 4 ∨ i = 5 ∨ 7 ≤ i ∧ i ≤ 10)) by omega) (F_n F99 (show ¬ (r = 77 ∧ 7 ≤ i ∧ i ≤ 10) by omega) (W_n W88 (by omega) (F_n F81 (show ¬ (r = 77 ∧ (i = 4 ∨ i = 5)) by omega) rfl)))))))
    · refine to_c (pc := 34) rw_213_34 (x := (0 : Int32)) rfl rfl (s_r1 (pc := 35) rw_213_35 (A := 0) rfl (by decide) ?_)
      have k_313 : (0 : Int32).toInt = 0 := rfl
      have t_314 : (M89.2.1 102 (a.toInt).toNat).toInt = r80.toInt := congrArg Int32.toInt (W_e W88)
      have t_315 : (M120.2.1 102 (a.toInt).toNat).toInt = (M89.2.1 102 (a.toInt).toNat).toInt := congrArg Int32.toInt (F_n F112 (show ¬ (102 = 77 ∧ (((a.toInt).toNat) = 4 ∨ ((a.toInt).toNat) = 5 ∨ 7 ≤ ((a.toInt).toNat) ∧ ((a.toInt).toNat) ≤ 10)) by omega) (F_n F99 (show ¬ (102 = 77 ∧ 7 ≤ ((a.toInt).toNat) ∧ ((a.toInt).toNat) ≤ 10) by omega) rfl))
      have t_316 : (M89.2.1 102 (a.toInt).toNat).toInt = r80.toInt := congrArg Int32.toInt (W_e W88)
      have t_317 : (M120.2.1 102 (a.toInt).toNat).toInt = (M89.2.1 102 (a.toInt).toNat).toInt := congrArg Int32.toInt (F_n F112 (show ¬ (102 = 77 ∧ (((a.toInt).toNat) = 4 ∨ ((a.toInt).toNat) = 5 ∨ 7 ≤ ((a.toInt).toNat) ∧ ((a.toInt).toNat) ≤ 10)) by omega) (F_n F99 (show ¬ (102 = 77 ∧ 7 ≤ ((a.toInt).toNat) ∧ ((a.toInt).toNat) ≤ 10) by omega) rfl))
      have t_318 : (M120.2.1 103 (a.toInt).toNat).toInt = (M.2.1 103 (a.toInt).toNat).toInt := congrArg Int32.toInt (F_n F112 (show ¬ (103 = 77 ∧ (((a.toInt).toNat) = 4 ∨ ((a.toInt).toNat) = 5 ∨ 7 ≤ ((a.toInt).toNat) ∧ ((a.toInt).toNat) ≤ 10)) by omega) (F_n F99 (show ¬ (103 = 77 ∧ 7 ≤ ((a.toInt).toNat) ∧ ((a.toInt).toNat) ≤ 10) by omega) (W_n W88 (by omega) (F_n F81 (show ¬ (103 = 77 ∧ (((a.toInt).toNat) = 4 ∨ ((a.toInt).toNat) = 5)) by omega) rfl))))
      have t_319 : (M120.2.1 104 (a.toInt).toNat).toInt = (M.2.1 104 (a.toInt).toNat).toInt := congrArg Int32.toInt (F_n F112 (show ¬ (104 = 77 ∧ (((a.toInt).toNat) = 4 ∨ ((a.toInt).toNat) = 5 ∨ 7 ≤ ((a.toInt).toNat) ∧ ((a.toInt).toNat) ≤ 10)) by omega) (F_n F99 (show ¬ (104 = 77 ∧ 7 ≤ ((a.toInt).toNat) ∧ ((a.toInt).toNat) ≤ 10) by omega) (W_n W88 (by omega) (F_n F81 (show ¬ (104 = 77 ∧ (((a.toInt).toNat) = 4 ∨ ((a.toInt).toNat) = 5)) by omega) rfl))))
      exact h (0 : Int32) M120 hG113 F121 (by decide) (by decide) (by omega) (by omega) (by omega) (by omega) (fun r i z z2 => (F_n F112 (show ¬ (r = 77 ∧ (i = 4 ∨ i = 5 ∨ 7 ≤ i ∧ i ≤ 10)) by omega) (F_n F99 (show ¬ (r = 77 ∧ 7 ≤ i ∧ i ≤ 10) by omega) (W_n W88 (by omega) (F_n F81 (show ¬ (r = 77 ∧ (i = 4 ∨ i = 5)) by omega) rfl)))))
  · refine to_c (pc := 19) rw_213_19 (x := (0 : Int32)) rfl rfl (s_r1 (pc := 20) rw_213_20 (A := 0) rfl (by decide) ?_)
    have k_320 : (0 : Int32).toInt = 0 := rfl
    have c_321 : M89.2.1 77 7 = (M.2.1 77 7) := (W_n W88 (fun z => absurd z.1 (by decide)) (F_n F81 (show ¬ (77 = 77 ∧ (7 = 4 ∨ 7 = 5)) by decide) rfl))
    have t_322 : (M89.2.1 77 7).toInt = (M.2.1 77 7).toInt := congrArg Int32.toInt c_321
    have c_323 : M89.2.1 77 6 = (M.2.1 77 6) := (W_n W88 (fun z => absurd z.1 (by decide)) (F_n F81 (show ¬ (77 = 77 ∧ (6 = 4 ∨ 6 = 5)) by decide) rfl))
    have t_324 : (M89.2.1 77 6).toInt = (M.2.1 77 6).toInt := congrArg Int32.toInt c_323
    have c_325 : M89.2.1 77 8 = (M.2.1 77 8) := (W_n W88 (fun z => absurd z.1 (by decide)) (F_n F81 (show ¬ (77 = 77 ∧ (8 = 4 ∨ 8 = 5)) by decide) rfl))
    have t_326 : (M89.2.1 77 8).toInt = (M.2.1 77 8).toInt := congrArg Int32.toInt c_325
    have t_327 : (M89.2.1 102 (a.toInt).toNat).toInt = r80.toInt := congrArg Int32.toInt (W_e W88)
    have t_328 : (M89.2.1 102 (a.toInt).toNat).toInt = r80.toInt := congrArg Int32.toInt (W_e W88)
    have t_329 : (M89.2.1 103 (a.toInt).toNat).toInt = (M.2.1 103 (a.toInt).toNat).toInt := congrArg Int32.toInt (W_n W88 (by omega) (F_n F81 (show ¬ (103 = 77 ∧ (((a.toInt).toNat) = 4 ∨ ((a.toInt).toNat) = 5)) by omega) rfl))
    have t_330 : (M89.2.1 104 (a.toInt).toNat).toInt = (M.2.1 104 (a.toInt).toNat).toInt := congrArg Int32.toInt (W_n W88 (by omega) (F_n F81 (show ¬ (104 = 77 ∧ (((a.toInt).toNat) = 4 ∨ ((a.toInt).toNat) = 5)) by omega) rfl))
    exact h (0 : Int32) M89 hG90 F91 (by decide) (by decide) (by omega) (by omega) (by omega) (by omega) (fun r i z z2 => (W_n W88 (by omega) (F_n F81 (show ¬ (r = 77 ∧ (i = 4 ∨ i = 5)) by omega) rfl)))
set_option maxRecDepth 4000 in
set_option maxHeartbeats 0 in
theorem C_214 {X : mm_X} {d : Nat} {M : mm_M} {Q : Option Value → mm_M → Prop} {a : Int32} (hX : g_X X) (hd : 3 ≤ d) (hG : g_G M) (q1 : 0 ≤ a.toInt) (q2 : a.toInt ≤ 39) (q3 : (M.2.1 77 7).toInt ≤ (M.2.1 77 6).toInt) (h : ∀ (r : Int32) (M1 : mm_M), g_G M1 → FR md_ps M M1 → (0 ≤ r.toInt) → (r.toInt ≤ 1) → ((M1.2.1 77 7).toInt ≤ (M1.2.1 77 6).toInt) → ((M.2.1 77 7).toInt ≤ (M1.2.1 77 7).toInt) → (r.toInt = 1 → (M1.2.1 77 8).toInt = 0 ∨ (M.2.1 77 7).toInt < (M1.2.1 77 7).toInt) → (r.toInt = 1 → 0 ≤ (M1.2.1 102 (a.toInt).toNat).toInt ∧ (M1.2.1 102 (a.toInt).toNat).toInt ≤ 5 ∧ 0 ≤ (M1.2.1 103 (a.toInt).toNat).toInt ∧ ¬ (M1.2.1 103 (a.toInt).toNat).toInt = (M1.2.1 102 (a.toInt).toNat).toInt) → (∀ r i : Nat, (102 ≤ r ∧ r ≤ 104) → ¬ i = (a.toInt).toNat → M1.2.1 r i = M.2.1 r i) → Q (some (.int r)) M1) : mm_T X d 213 0 [.ref 77, .int a] [] M Q := by
  have F0 : FR md_ps M M := FR.rf
  have b_1 := g_b hG (a := 77) (i := 7) (lo := 0) (hi := 500) rfl rfl
  have b_2 := g_b hG (a := 77) (i := 6) (lo := 0) (hi := 500) rfl rfl
  refine to_an (pc := 0) rw_214_0 rfl (s_gR (pc := 1) rw_214_1 hG rfl (v := 102) rfl (to_in (pc := 4) rw_214_4 rfl (to_an (pc := 5) rw_214_5 rfl (s_v (pc := 6) rw_214_6 (dp0 hd (by decide)) (ls0 := [.ref 77, .null, .null]) rfl (Nat.le_of_ble_eq_true rfl) (Nat.le_of_ble_eq_true rfl) rfl (to_rc rfl rfl rfl (g_o hG rfl)) rfl ?_))))
  have b_3 := g_b hG (a := 77) (i := 8) (lo := 0) (hi := 5) rfl rfl
  refine C_211 hX (dp1 hd (by decide)) hG  (fun r4 M10 hG6 F5 p_7 p_8 p_9 => ?_)
  have F11 := FR.c F0 F5 tg_274
  refine s_ias (pc := 9) rw_214_9 hG6 rfl (n := 40) rfl (A := a.toInt) rfl (by omega) (by omega) (fun M13 W12 => ?_)
  have hG14 := g_w hG6 W12 (A := r4.toInt) rfl (lo := -1) (hi := 99) rfl rfl (by omega) (by decide)
  have F15 := FR.w F11 W12 (show 102 = 77 ∧ ((a.toInt).toNat = 4 ∨ (a.toInt).toNat = 5 ∨ 7 ≤ (a.toInt).toNat ∧ (a.toInt).toNat ≤ 10) ∨ 102 ≤ 102 ∧ 102 ≤ 104 ∨ 102 = 106 ∨ 102 = 107 by omega)
  refine to_an (pc := 10) rw_214_10 rfl (s_gR (pc := 11) rw_214_11 hG14 rfl (v := 102) rfl (to_in (pc := 14) rw_214_14 rfl (s_ialk (pc := 15) rw_214_15 hG14 rfl (n := 40) rfl rfl (A := a.toInt) rfl (by omega) (by omega) (v := r4) (W_e W12) (b_ige (pc := 16) rw_214_16 (A := r4.toInt) rfl (fun h18 => ?_) (fun h18 => ?_)))))
  · refine to_an (pc := 21) rw_214_21 rfl (s_v (pc := 22) rw_214_22 (dp0 hd (by decide)) (ls0 := [.ref 77]) rfl (Nat.le_of_ble_eq_true rfl) (Nat.le_of_ble_eq_true rfl) rfl (to_rc rfl rfl rfl (g_o hG14 rfl)) rfl ?_)
    have c_19 : M13.2.1 77 7 = (M.2.1 77 7) := (W_n W12 (fun z => absurd z.1 (by decide)) (F_n F5 (show ¬ (77 = 77 ∧ (7 = 4 ∨ 7 = 5)) by decide) rfl))
    have t_20 : (M13.2.1 77 7).toInt = (M.2.1 77 7).toInt := congrArg Int32.toInt c_19
    have c_21 : M13.2.1 77 6 = (M.2.1 77 6) := (W_n W12 (fun z => absurd z.1 (by decide)) (F_n F5 (show ¬ (77 = 77 ∧ (6 = 4 ∨ 6 = 5)) by decide) rfl))
    have t_22 : (M13.2.1 77 6).toInt = (M.2.1 77 6).toInt := congrArg Int32.toInt c_21
    refine C_156 hX (dp1 hd (by decide)) hG14 (by omega)  (fun M28 hG24 F23 p_25 p_26 p_27 => ?_)
    have F29 := FR.c F15 F23 tg_275
    have b_30 := g_b hG24 (a := 77) (i := 7) (lo := 0) (hi := 500) rfl rfl
    have c_31 : M28.2.1 77 6 = (M.2.1 77 6) := (F_n F23 (show ¬ (77 = 77 ∧ 7 ≤ 6 ∧ 6 ≤ 10) by decide) c_21)
    have t_32 : (M28.2.1 77 6).toInt = (M.2.1 77 6).toInt := congrArg Int32.toInt c_31
    have b_33 := g_b hG24 (a := 77) (i := 8) (lo := 0) (hi := 5) rfl rfl
    refine to_an (pc := 25) rw_214_25 rfl (s_gR (pc := 26) rw_214_26 hG24 rfl (v := 103) rfl (to_in (pc := 29) rw_214_29 rfl (to_an (pc := 30) rw_214_30 rfl (s_v (pc := 31) rw_214_31 (dp0 hd (by decide)) (ls0 := [.ref 77, .null, .null]) rfl (Nat.le_of_ble_eq_true rfl) (Nat.le_of_ble_eq_true rfl) rfl (to_rc rfl rfl rfl (g_o hG24 rfl)) rfl (C_211 hX (dp1 hd (by decide)) hG24  (fun r34 M40 hG36 F35 p_37 p_38 p_39 => ?_))))))
    have F41 := FR.c F29 F35 tg_274
    refine s_ias (pc := 34) rw_214_34 hG36 rfl (n := 40) rfl (A := a.toInt) rfl (by omega) (by omega) (fun M43 W42 => ?_)
    have hG44 := g_w hG36 W42 (A := r34.toInt) rfl (lo := -1) (hi := 5) rfl rfl (by omega) (by decide)
    have F45 := FR.w F41 W42 (show 103 = 77 ∧ ((a.toInt).toNat = 4 ∨ (a.toInt).toNat = 5 ∨ 7 ≤ (a.toInt).toNat ∧ (a.toInt).toNat ≤ 10) ∨ 102 ≤ 103 ∧ 103 ≤ 104 ∨ 103 = 106 ∨ 103 = 107 by omega)
    refine to_an (pc := 35) rw_214_35 rfl (s_gR (pc := 36) rw_214_36 hG44 rfl (v := 103) rfl (to_in (pc := 39) rw_214_39 rfl (s_ialk (pc := 40) rw_214_40 hG44 rfl (n := 40) rfl rfl (A := a.toInt) rfl (by omega) (by omega) (v := r34) (W_e W42) (b_ige (pc := 41) rw_214_41 (A := r34.toInt) rfl (fun h48 => ?_) (fun h48 => ?_)))))
    · refine to_an (pc := 46) rw_214_46 rfl (s_gR (pc := 47) rw_214_47 hG44 rfl (v := 103) rfl (to_in (pc := 50) rw_214_50 rfl (s_ialk (pc := 51) rw_214_51 hG44 rfl (n := 40) rfl rfl (A := a.toInt) rfl (by omega) (by omega) (v := r34) (W_e W42) (to_an (pc := 52) rw_214_52 rfl (s_gR (pc := 53) rw_214_53 hG44 rfl (v := 102) rfl (to_in (pc := 56) rw_214_56 rfl (s_ialk (pc := 57) rw_214_57 hG44 rfl (n := 40) rfl rfl (A := a.toInt) rfl (by omega) (by omega) (v := r4) (W_n W42 (by omega) (F_n F35 (show ¬ (102 = 77 ∧ ((a.toInt).toNat = 4 ∨ (a.toInt).toNat = 5)) by omega) (F_n F23 (show ¬ (102 = 77 ∧ 7 ≤ (a.toInt).toNat ∧ (a.toInt).toNat ≤ 10) by omega) (W_e W12)))) (b_cne (pc := 58) rw_214_58 (A := r34.toInt) (B := r4.toInt) rfl rfl (fun h53 => ?_) (fun h53 => ?_)))))))))
      · refine to_an (pc := 67) rw_214_67 rfl (s_v (pc := 68) rw_214_68 (dp0 hd (by decide)) (ls0 := [.ref 77]) rfl (Nat.le_of_ble_eq_true rfl) (Nat.le_of_ble_eq_true rfl) rfl (to_rc rfl rfl rfl (g_o hG44 rfl)) rfl ?_)
        have c_54 : M43.2.1 77 7 = (M28.2.1 77 7) := (W_n W42 (fun z => absurd z.1 (by decide)) (F_n F35 (show ¬ (77 = 77 ∧ (7 = 4 ∨ 7 = 5)) by decide) rfl))
        have t_55 : (M43.2.1 77 7).toInt = (M28.2.1 77 7).toInt := congrArg Int32.toInt c_54
        have c_56 : M43.2.1 77 6 = (M.2.1 77 6) := (W_n W42 (fun z => absurd z.1 (by decide)) (F_n F35 (show ¬ (77 = 77 ∧ (6 = 4 ∨ 6 = 5)) by decide) c_31))
        have t_57 : (M43.2.1 77 6).toInt = (M.2.1 77 6).toInt := congrArg Int32.toInt c_56
        refine C_156 hX (dp1 hd (by decide)) hG44 (by omega)  (fun M63 hG59 F58 p_60 p_61 p_62 => ?_)
        have F64 := FR.c F45 F58 tg_275
        have b_65 := g_b hG59 (a := 77) (i := 7) (lo := 0) (hi := 500) rfl rfl
        have c_66 : M63.2.1 77 6 = (M.2.1 77 6) := (F_n F58 (show ¬ (77 = 77 ∧ 7 ≤ 6 ∧ 6 ≤ 10) by decide) c_56)
        have t_67 : (M63.2.1 77 6).toInt = (M.2.1 77 6).toInt := congrArg Int32.toInt c_66
        have b_68 := g_b hG59 (a := 77) (i := 8) (lo := 0) (hi := 5) rfl rfl
        refine to_an (pc := 71) rw_214_71 rfl (to_c (pc := 72) rw_214_72 (x := (59 : Int32)) rfl rfl (s_v (pc := 74) rw_214_74 (dp0 hd (by decide)) (ls0 := [.ref 77, .int (59 : Int32)]) rfl (Nat.le_of_ble_eq_true rfl) (Nat.le_of_ble_eq_true rfl) rfl (to_rc rfl rfl rfl (g_o hG59 rfl)) rfl ?_))
        have k_69 : (59 : Int32).toInt = 59 := rfl
        refine C_160 hX (dp1 hd (by decide)) hG59 (by omega) (c := (59 : Int32)) (fun r70 M79 hG72 F71 p_73 p_74 p_75 p_76 p_77 p_78 => ?_)
        have F80 := FR.c F64 F71 tg_273
        have b_81 := g_b hG72 (a := 77) (i := 7) (lo := 0) (hi := 500) rfl rfl
        have c_82 : M79.2.1 77 6 = (M.2.1 77 6) := (F_n F71 (show ¬ (77 = 77 ∧ (6 = 4 ∨ 6 = 5 ∨ 7 ≤ 6 ∧ 6 ≤ 10)) by decide) c_66)
        have t_83 : (M79.2.1 77 6).toInt = (M.2.1 77 6).toInt := congrArg Int32.toInt c_82
        have b_84 := g_b hG72 (a := 77) (i := 8) (lo := 0) (hi := 5) rfl rfl
        refine s_r1 (pc := 77) rw_214_77 (A := r70.toInt) rfl (by omega) ?_
        have t_85 : (M13.2.1 102 (a.toInt).toNat).toInt = r4.toInt := congrArg Int32.toInt (W_e W12)
        have t_86 : (M79.2.1 102 (a.toInt).toNat).toInt = (M13.2.1 102 (a.toInt).toNat).toInt := congrArg Int32.toInt (F_n F71 (show ¬ (102 = 77 ∧ (((a.toInt).toNat) = 4 ∨ ((a.toInt).toNat) = 5 ∨ 7 ≤ ((a.toInt).toNat) ∧ ((a.toInt).toNat) ≤ 10)) by omega) (F_n F58 (show ¬ (102 = 77 ∧ 7 ≤ ((a.toInt).toNat) ∧ ((a.toInt).toNat) ≤ 10) by omega) (W_n W42 (by omega) (F_n F35 (show ¬ (102 = 77 ∧ (((a.toInt).toNat) = 4 ∨ ((a.toInt).toNat) = 5)) by omega) (F_n F23 (show ¬ (102 = 77 ∧ 7 ≤ ((a.toInt).toNat) ∧ ((a.toInt).toNat) ≤ 10) by omega) rfl)))))
        have t_87 : (M13.2.1 102 (a.toInt).toNat).toInt = r4.toInt := congrArg Int32.toInt (W_e W12)
        have t_88 : (M79.2.1 102 (a.toInt).toNat).toInt = (M13.2.1 102 (a.toInt).toNat).toInt := congrArg Int32.toInt (F_n F71 (show ¬ (102 = 77 ∧ (((a.toInt).toNat) = 4 ∨ ((a.toInt).toNat) = 5 ∨ 7 ≤ ((a.toInt).toNat) ∧ ((a.toInt).toNat) ≤ 10)) by omega) (F_n F58 (show ¬ (102 = 77 ∧ 7 ≤ ((a.toInt).toNat) ∧ ((a.toInt).toNat) ≤ 10) by omega) (W_n W42 (by omega) (F_n F35 (show ¬ (102 = 77 ∧ (((a.toInt).toNat) = 4 ∨ ((a.toInt).toNat) = 5)) by omega) (F_n F23 (show ¬ (102 = 77 ∧ 7 ≤ ((a.toInt).toNat) ∧ ((a.toInt).toNat) ≤ 10) by omega) rfl)))))
        have t_89 : (M43.2.1 103 (a.toInt).toNat).toInt = r34.toInt := congrArg Int32.toInt (W_e W42)
        have t_90 : (M79.2.1 103 (a.toInt).toNat).toInt = (M43.2.1 103 (a.toInt).toNat).toInt := congrArg Int32.toInt (F_n F71 (show ¬ (103 = 77 ∧ (((a.toInt).toNat) = 4 ∨ ((a.toInt).toNat) = 5 ∨ 7 ≤ ((a.toInt).toNat) ∧ ((a.toInt).toNat) ≤ 10)) by omega) (F_n F58 (show ¬ (103 = 77 ∧ 7 ≤ ((a.toInt).toNat) ∧ ((a.toInt).toNat) ≤ 10) by omega) rfl))
        have t_91 : (M43.2.1 103 (a.toInt).toNat).toInt = r34.toInt := congrArg Int32.toInt (W_e W42)
        have t_92 : (M79.2.1 103 (a.toInt).toNat).toInt = (M43.2.1 103 (a.toInt).toNat).toInt := congrArg Int32.toInt (F_n F71 (show ¬ (103 = 77 ∧ (((a.toInt).toNat) = 4 ∨ ((a.toInt).toNat) = 5 ∨ 7 ≤ ((a.toInt).toNat) ∧ ((a.toInt).toNat) ≤ 10)) by omega) (F_n F58 (show ¬ (103 = 77 ∧ 7 ≤ ((a.toInt).toNat) ∧ ((a.toInt).toNat) ≤ 10) by omega) rfl))
        have t_93 : (M13.2.1 102 (a.toInt).toNat).toInt = r4.toInt := congrArg Int32.toInt (W_e W12)
        have t_94 : (M79.2.1 102 (a.toInt).toNat).toInt = (M13.2.1 102 (a.toInt).toNat).toInt := congrArg Int32.toInt (F_n F71 (show ¬ (102 = 77 ∧ (((a.toInt).toNat) = 4 ∨ ((a.toInt).toNat) = 5 ∨ 7 ≤ ((a.toInt).toNat) ∧ ((a.toInt).toNat) ≤ 10)) by omega) (F_n F58 (show ¬ (102 = 77 ∧ 7 ≤ ((a.toInt).toNat) ∧ ((a.toInt).toNat) ≤ 10) by omega) (W_n W42 (by omega) (F_n F35 (show ¬ (102 = 77 ∧ (((a.toInt).toNat) = 4 ∨ ((a.toInt).toNat) = 5)) by omega) (F_n F23 (show ¬ (102 = 77 ∧ 7 ≤ ((a.toInt).toNat) ∧ ((a.toInt).toNat) ≤ 10) by omega) rfl)))))
        exact h r70 M79 hG72 F80 (by omega) (by omega) (by omega) (by omega) (by omega) (by omega) (fun r i z z2 => (F_n F71 (show ¬ (r = 77 ∧ (i = 4 ∨ i = 5 ∨ 7 ≤ i ∧ i ≤ 10)) by omega) (F_n F58 (show ¬ (r = 77 ∧ 7 ≤ i ∧ i ≤ 10) by omega) (W_n W42 (by omega) (F_n F35 (show ¬ (r = 77 ∧ (i = 4 ∨ i = 5)) by omega) (F_n F23 (show ¬ (r = 77 ∧ 7 ≤ i ∧ i ≤ 10) by omega) (W_n W12 (by omega) (F_n F5 (show ¬ (r = 77 ∧ (i = 4 ∨ i = 5)) by omega) rfl))))))))
      · refine to_an (pc := 61) rw_214_61 rfl (to_c (pc := 62) rw_214_62 (x := (3 : Int32)) rfl rfl (s_v (pc := 63) rw_214_63 (dp0 hd (by decide)) (ls0 := [.ref 77, .int (3 : Int32)]) rfl (Nat.le_of_ble_eq_true rfl) (Nat.le_of_ble_eq_true rfl) rfl (to_rc rfl rfl rfl (g_o hG44 rfl)) rfl (to_an (pc := 0) rw_152_0 rfl (to_in (pc := 1) rw_152_1 rfl (s_pI (pc := 2) rw_152_2 hG44 rfl (fun M96 W95 => ?_))))))
        have hG97 := g_wf hG44 W95 rfl rfl (by decide)
        have F98 := FR.w F45 W95 (show 77 = 77 ∧ (4 = 4 ∨ 4 = 5 ∨ 7 ≤ 4 ∧ 4 ≤ 10) ∨ 102 ≤ 77 ∧ 77 ≤ 104 ∨ 77 = 106 ∨ 77 = 107 by decide)
        refine to_an (pc := 5) rw_152_5 rfl (to_an (pc := 6) rw_152_6 rfl ?_)
        have c_99 : M96.2.1 77 10 = (M28.2.1 77 10) := (W_n W95 (by decide) (W_n W42 (fun z => absurd z.1 (by decide)) (F_n F35 (show ¬ (77 = 77 ∧ (10 = 4 ∨ 10 = 5)) by decide) rfl)))
        have b_100 := g_b hG24 (a := 77) (i := 10) (lo := 0) (hi := 500) rfl rfl
        refine tt_gI (pc := 7) rw_152_7 (g_o hG97 rfl) (v := (M28.2.1 77 10)) c_99 (s_pI (pc := 10) rw_152_10 hG97 rfl (fun M102 W101 => ?_))
        have hG103 := g_wf hG97 W101 rfl rfl (by decide)
        have F104 := FR.w F98 W101 (show 77 = 77 ∧ (5 = 4 ∨ 5 = 5 ∨ 7 ≤ 5 ∧ 5 ≤ 10) ∨ 102 ≤ 77 ∧ 77 ≤ 104 ∨ 77 = 106 ∨ 77 = 107 by decide)
        refine to_c (pc := 13) rw_152_13 (x := (0 : Int32)) rfl rfl (s_r1 (pc := 14) rw_152_14 (A := 0) rfl (by decide) (s_r1 (pc := 66) rw_214_66 (A := 0) rfl (by decide) ?_))
        have k_105 : (0 : Int32).toInt = 0 := rfl
        have c_106 : M102.2.1 77 7 = (M28.2.1 77 7) := (W_n W101 (by decide) (W_n W95 (by decide) (W_n W42 (fun z => absurd z.1 (by decide)) (F_n F35 (show ¬ (77 = 77 ∧ (7 = 4 ∨ 7 = 5)) by decide) rfl))))
        have t_107 : (M102.2.1 77 7).toInt = (M28.2.1 77 7).toInt := congrArg Int32.toInt c_106
        have c_108 : M102.2.1 77 6 = (M.2.1 77 6) := (W_n W101 (by decide) (W_n W95 (by decide) (W_n W42 (fun z => absurd z.1 (by decide)) (F_n F35 (show ¬ (77 = 77 ∧ (6 = 4 ∨ 6 = 5)) by decide) c_31))))
        have t_109 : (M102.2.1 77 6).toInt = (M.2.1 77 6).toInt := congrArg Int32.toInt c_108
        have c_110 : M102.2.1 77 8 = (M28.2.1 77 8) := (W_n W101 (by decide) (W_n W95 (by decide) (W_n W42 (fun z => absurd z.1 (by decide)) (F_n F35 (show ¬ (77 = 77 ∧ (8 = 4 ∨ 8 = 5)) by decide) rfl))))
        have t_111 : (M102.2.1 77 8).toInt = (M28.2.1 77 8).toInt := congrArg Int32.toInt c_110
        have t_112 : (M13.2.1 102 (a.toInt).toNat).toInt = r4.toInt := congrArg Int32.toInt (W_e W12)
        have t_113 : (M102.2.1 102 (a.toInt).toNat).toInt = (M13.2.1 102 (a.toInt).toNat).toInt := congrArg Int32.toInt (W_n W101 (by omega) (W_n W95 (by omega) (W_n W42 (by omega) (F_n F35 (show ¬ (102 = 77 ∧ (((a.toInt).toNat) = 4 ∨ ((a.toInt).toNat) = 5)) by omega) (F_n F23 (show ¬ (102 = 77 ∧ 7 ≤ ((a.toInt).toNat) ∧ ((a.toInt).toNat) ≤ 10) by omega) rfl)))))
        have t_114 : (M13.2.1 102 (a.toInt).toNat).toInt = r4.toInt := congrArg Int32.toInt (W_e W12)
        have t_115 : (M102.2.1 102 (a.toInt).toNat).toInt = (M13.2.1 102 (a.toInt).toNat).toInt := congrArg Int32.toInt (W_n W101 (by omega) (W_n W95 (by omega) (W_n W42 (by omega) (F_n F35 (show ¬ (102 = 77 ∧ (((a.toInt).toNat) = 4 ∨ ((a.toInt).toNat) = 5)) by omega) (F_n F23 (show ¬ (102 = 77 ∧ 7 ≤ ((a.toInt).toNat) ∧ ((a.toInt).toNat) ≤ 10) by omega) rfl)))))
        have t_116 : (M43.2.1 103 (a.toInt).toNat).toInt = r34.toInt := congrArg Int32.toInt (W_e W42)
        have t_117 : (M102.2.1 103 (a.toInt).toNat).toInt = (M43.2.1 103 (a.toInt).toNat).toInt := congrArg Int32.toInt (W_n W101 (by omega) (W_n W95 (by omega) rfl))
        have t_118 : (M43.2.1 103 (a.toInt).toNat).toInt = r34.toInt := congrArg Int32.toInt (W_e W42)
        have t_119 : (M102.2.1 103 (a.toInt).toNat).toInt = (M43.2.1 103 (a.toInt).toNat).toInt := congrArg Int32.toInt (W_n W101 (by omega) (W_n W95 (by omega) rfl))
        have t_120 : (M13.2.1 102 (a.toInt).toNat).toInt = r4.toInt := congrArg Int32.toInt (W_e W12)
        have t_121 : (M102.2.1 102 (a.toInt).toNat).toInt = (M13.2.1 102 (a.toInt).toNat).toInt := congrArg Int32.toInt (W_n W101 (by omega) (W_n W95 (by omega) (W_n W42 (by omega) (F_n F35 (show ¬ (102 = 77 ∧ (((a.toInt).toNat) = 4 ∨ ((a.toInt).toNat) = 5)) by omega) (F_n F23 (show ¬ (102 = 77 ∧ 7 ≤ ((a.toInt).toNat) ∧ ((a.toInt).toNat) ≤ 10) by omega) rfl)))))
        exact h (0 : Int32) M102 hG103 F104 (by decide) (by decide) (by omega) (by omega) (by omega) (by omega) (fun r i z z2 => (W_n W101 (by omega) (W_n W95 (by omega) (W_n W42 (by omega) (F_n F35 (show ¬ (r = 77 ∧ (i = 4 ∨ i = 5)) by omega) (F_n F23 (show ¬ (r = 77 ∧ 7 ≤ i ∧ i ≤ 10) by omega) (W_n W12 (by omega) (F_n F5 (show ¬ (r = 77 ∧ (i = 4 ∨ i = 5)) by omega) rfl))))))))
    · refine to_c (pc := 44) rw_214_44 (x := (0 : Int32)) rfl rfl (s_r1 (pc := 45) rw_214_45 (A := 0) rfl (by decide) ?_)
      have k_122 : (0 : Int32).toInt = 0 := rfl
      have c_123 : M43.2.1 77 7 = (M28.2.1 77 7) := (W_n W42 (fun z => absurd z.1 (by decide)) (F_n F35 (show ¬ (77 = 77 ∧ (7 = 4 ∨ 7 = 5)) by decide) rfl))
      have t_124 : (M43.2.1 77 7).toInt = (M28.2.1 77 7).toInt := congrArg Int32.toInt c_123
      have c_125 : M43.2.1 77 6 = (M.2.1 77 6) := (W_n W42 (fun z => absurd z.1 (by decide)) (F_n F35 (show ¬ (77 = 77 ∧ (6 = 4 ∨ 6 = 5)) by decide) c_31))
      have t_126 : (M43.2.1 77 6).toInt = (M.2.1 77 6).toInt := congrArg Int32.toInt c_125
      have c_127 : M43.2.1 77 8 = (M28.2.1 77 8) := (W_n W42 (fun z => absurd z.1 (by decide)) (F_n F35 (show ¬ (77 = 77 ∧ (8 = 4 ∨ 8 = 5)) by decide) rfl))
      have t_128 : (M43.2.1 77 8).toInt = (M28.2.1 77 8).toInt := congrArg Int32.toInt c_127
      have t_129 : (M13.2.1 102 (a.toInt).toNat).toInt = r4.toInt := congrArg Int32.toInt (W_e W12)
      have t_130 : (M43.2.1 102 (a.toInt).toNat).toInt = (M13.2.1 102 (a.toInt).toNat).toInt := congrArg Int32.toInt (W_n W42 (by omega) (F_n F35 (show ¬ (102 = 77 ∧ (((a.toInt).toNat) = 4 ∨ ((a.toInt).toNat) = 5)) by omega) (F_n F23 (show ¬ (102 = 77 ∧ 7 ≤ ((a.toInt).toNat) ∧ ((a.toInt).toNat) ≤ 10) by omega) rfl)))
      have t_131 : (M13.2.1 102 (a.toInt).toNat).toInt = r4.toInt := congrArg Int32.toInt (W_e W12)
      have t_132 : (M43.2.1 102 (a.toInt).toNat).toInt = (M13.2.1 102 (a.toInt).toNat).toInt := congrArg Int32.toInt (W_n W42 (by omega) (F_n F35 (show ¬ (102 = 77 ∧ (((a.toInt).toNat) = 4 ∨ ((a.toInt).toNat) = 5)) by omega) (F_n F23 (show ¬ (102 = 77 ∧ 7 ≤ ((a.toInt).toNat) ∧ ((a.toInt).toNat) ≤ 10) by omega) rfl)))
      have t_133 : (M43.2.1 103 (a.toInt).toNat).toInt = r34.toInt := congrArg Int32.toInt (W_e W42)
      have t_134 : (M43.2.1 103 (a.toInt).toNat).toInt = r34.toInt := congrArg Int32.toInt (W_e W42)
      have t_135 : (M13.2.1 102 (a.toInt).toNat).toInt = r4.toInt := congrArg Int32.toInt (W_e W12)
      have t_136 : (M43.2.1 102 (a.toInt).toNat).toInt = (M13.2.1 102 (a.toInt).toNat).toInt := congrArg Int32.toInt (W_n W42 (by omega) (F_n F35 (show ¬ (102 = 77 ∧ (((a.toInt).toNat) = 4 ∨ ((a.toInt).toNat) = 5)) by omega) (F_n F23 (show ¬ (102 = 77 ∧ 7 ≤ ((a.toInt).toNat) ∧ ((a.toInt).toNat) ≤ 10) by omega) rfl)))
      exact h (0 : Int32) M43 hG44 F45 (by decide) (by decide) (by omega) (by omega) (by omega) (by omega) (fun r i z z2 => (W_n W42 (by omega) (F_n F35 (show ¬ (r = 77 ∧ (i = 4 ∨ i = 5)) by omega) (F_n F23 (show ¬ (r = 77 ∧ 7 ≤ i ∧ i ≤ 10) by omega) (W_n W12 (by omega) (F_n F5 (show ¬ (r = 77 ∧ (i = 4 ∨ i = 5)) by omega) rfl))))))
  · refine to_c (pc := 19) rw_214_19 (x := (0 : Int32)) rfl rfl (s_r1 (pc := 20) rw_214_20 (A := 0) rfl (by decide) ?_)
    have k_137 : (0 : Int32).toInt = 0 := rfl
    have c_138 : M13.2.1 77 7 = (M.2.1 77 7) := (W_n W12 (fun z => absurd z.1 (by decide)) (F_n F5 (show ¬ (77 = 77 ∧ (7 = 4 ∨ 7 = 5)) by decide) rfl))
    have t_139 : (M13.2.1 77 7).toInt = (M.2.1 77 7).toInt := congrArg Int32.toInt c_138
    have c_140 : M13.2.1 77 6 = (M.2.1 77 6) := (W_n W12 (fun z => absurd z.1 (by decide)) (F_n F5 (show ¬ (77 = 77 ∧ (6 = 4 ∨ 6 = 5)) by decide) rfl))
    have t_141 : (M13.2.1 77 6).toInt = (M.2.1 77 6).toInt := congrArg Int32.toInt c_140
    have c_142 : M13.2.1 77 8 = (M.2.1 77 8) := (W_n W12 (fun z => absurd z.1 (by decide)) (F_n F5 (show ¬ (77 = 77 ∧ (8 = 4 ∨ 8 = 5)) by decide) rfl))
    have t_143 : (M13.2.1 77 8).toInt = (M.2.1 77 8).toInt := congrArg Int32.toInt c_142
    have t_144 : (M13.2.1 102 (a.toInt).toNat).toInt = r4.toInt := congrArg Int32.toInt (W_e W12)
    have t_145 : (M13.2.1 102 (a.toInt).toNat).toInt = r4.toInt := congrArg Int32.toInt (W_e W12)
    have t_146 : (M13.2.1 103 (a.toInt).toNat).toInt = (M.2.1 103 (a.toInt).toNat).toInt := congrArg Int32.toInt (W_n W12 (by omega) (F_n F5 (show ¬ (103 = 77 ∧ (((a.toInt).toNat) = 4 ∨ ((a.toInt).toNat) = 5)) by omega) rfl))
    have t_147 : (M13.2.1 103 (a.toInt).toNat).toInt = (M.2.1 103 (a.toInt).toNat).toInt := congrArg Int32.toInt (W_n W12 (by omega) (F_n F5 (show ¬ (103 = 77 ∧ (((a.toInt).toNat) = 4 ∨ ((a.toInt).toNat) = 5)) by omega) rfl))
    have t_148 : (M13.2.1 102 (a.toInt).toNat).toInt = r4.toInt := congrArg Int32.toInt (W_e W12)
    exact h (0 : Int32) M13 hG14 F15 (by decide) (by decide) (by omega) (by omega) (by omega) (by omega) (fun r i z z2 => (W_n W12 (by omega) (F_n F5 (show ¬ (r = 77 ∧ (i = 4 ∨ i = 5)) by omega) rfl)))
set_option maxRecDepth 4000 in
set_option maxHeartbeats 0 in
theorem C_215 {X : mm_X} {d : Nat} {M : mm_M} {Q : Option Value → mm_M → Prop} (hX : g_X X) (hd : 4 ≤ d) (hG : g_G M) (q1 : (M.2.1 77 7).toInt ≤ (M.2.1 77 6).toInt) (q2 : AB M) (q3 : ST M) (h : ∀ (r : Int32) (M1 : mm_M), g_G M1 → FR md_ac M M1 → (0 ≤ r.toInt) → (r.toInt ≤ 1) → ((M1.2.1 77 7).toInt ≤ (M1.2.1 77 6).toInt) → ((M.2.1 77 7).toInt ≤ (M1.2.1 77 7).toInt) → (r.toInt = 1 → (M1.2.1 77 8).toInt = 0 ∨ (M.2.1 77 7).toInt < (M1.2.1 77 7).toInt) → (r.toInt = 1 → ¬ (M.2.1 77 8).toInt = 0) → (r.toInt = 1 → AB M1) → (r.toInt = 1 → ST M1) → Q (some (.int r)) M1) : mm_T X d 214 0 [.ref 77, .null] [] M Q := by
  have F0 : FR md_ac M M := FR.rf
  have b_1 := g_b hG (a := 77) (i := 7) (lo := 0) (hi := 500) rfl rfl
  have b_2 := g_b hG (a := 77) (i := 6) (lo := 0) (hi := 500) rfl rfl
  refine to_an (pc := 0) rw_215_0 rfl (to_c (pc := 1) rw_215_1 (x := (41 : Int32)) rfl rfl (s_v (pc := 3) rw_215_3 (dp0 hd (by decide)) (ls0 := [.ref 77, .int (41 : Int32)]) rfl (Nat.le_of_ble_eq_true rfl) (Nat.le_of_ble_eq_true rfl) rfl (to_rc rfl rfl rfl (g_o hG rfl)) rfl (to_an (pc := 0) rw_159_0 rfl ?_)))
  have b_3 := g_b hG (a := 77) (i := 8) (lo := 0) (hi := 5) rfl rfl
  refine tt_gI (pc := 1) rw_159_1 (g_o hG rfl) (v := (M.2.1 77 8)) rfl (to_c (pc := 4) rw_159_4 (x := (4 : Int32)) rfl rfl (b_cne (pc := 5) rw_159_5 (A := (M.2.1 77 8).toInt) (B := 4) rfl rfl (fun h4 => ?_) (fun h4 => ?_)))
  · refine to_c (pc := 20) rw_159_20 (x := (0 : Int32)) rfl rfl (s_r1 (pc := 21) rw_159_21 (A := 0) rfl (by decide) (b_ieq_t (pc := 6) rw_215_6 (A := 0) rfl (by decide) (to_an (pc := 50) rw_215_50 rfl (tt_gI (pc := 51) rw_215_51 (g_o hG rfl) (v := (M.2.1 77 8)) rfl (to_c (pc := 54) rw_215_54 (x := (1 : Int32)) rfl rfl (b_cne (pc := 55) rw_215_55 (A := (M.2.1 77 8).toInt) (B := 1) rfl rfl (fun h5 => ?_) (fun h5 => ?_)))))))
    · refine to_an (pc := 85) rw_215_85 rfl (to_c (pc := 86) rw_215_86 (x := (1 : Int32)) rfl rfl (s_v (pc := 87) rw_215_87 (dp0 hd (by decide)) (ls0 := [.ref 77, .int (1 : Int32)]) rfl (Nat.le_of_ble_eq_true rfl) (Nat.le_of_ble_eq_true rfl) rfl (to_rc rfl rfl rfl (g_o hG rfl)) rfl (to_an (pc := 0) rw_152_0 rfl (to_in (pc := 1) rw_152_1 rfl (s_pI (pc := 2) rw_152_2 hG rfl (fun M7 W6 => ?_))))))
      have hG8 := g_wf hG W6 rfl rfl (by decide)
      have F9 := FR.w F0 W6 (show 77 = 77 ∧ (4 = 4 ∨ 4 = 5 ∨ 7 ≤ 4 ∧ 4 ≤ 10) ∨ 77 = 77 ∧ (4 = 44 ∨ 4 = 52) ∨ 101 ≤ 77 ∧ 77 ≤ 108 by decide)
      refine to_an (pc := 5) rw_152_5 rfl (to_an (pc := 6) rw_152_6 rfl ?_)
      have c_10 : M7.2.1 77 10 = (M.2.1 77 10) := (W_n W6 (by decide) rfl)
      have b_11 := g_b hG (a := 77) (i := 10) (lo := 0) (hi := 500) rfl rfl
      refine tt_gI (pc := 7) rw_152_7 (g_o hG8 rfl) (v := (M.2.1 77 10)) c_10 (s_pI (pc := 10) rw_152_10 hG8 rfl (fun M13 W12 => ?_))
      have hG14 := g_wf hG8 W12 rfl rfl (by decide)
      have F15 := FR.w F9 W12 (show 77 = 77 ∧ (5 = 4 ∨ 5 = 5 ∨ 7 ≤ 5 ∧ 5 ≤ 10) ∨ 77 = 77 ∧ (5 = 44 ∨ 5 = 52) ∨ 101 ≤ 77 ∧ 77 ≤ 108 by decide)
      refine to_c (pc := 13) rw_152_13 (x := (0 : Int32)) rfl rfl (s_r1 (pc := 14) rw_152_14 (A := 0) rfl (by decide) (s_r1 (pc := 90) rw_215_90 (A := 0) rfl (by decide) ?_))
      have k_16 : (0 : Int32).toInt = 0 := rfl
      have c_17 : M13.2.1 77 7 = (M.2.1 77 7) := (W_n W12 (by decide) (W_n W6 (by decide) rfl))
      have t_18 : (M13.2.1 77 7).toInt = (M.2.1 77 7).toInt := congrArg Int32.toInt c_17
      have c_19 : M13.2.1 77 6 = (M.2.1 77 6) := (W_n W12 (by decide) (W_n W6 (by decide) rfl))
      have t_20 : (M13.2.1 77 6).toInt = (M.2.1 77 6).toInt := congrArg Int32.toInt c_19
      have c_21 : M13.2.1 77 8 = (M.2.1 77 8) := (W_n W12 (by decide) (W_n W6 (by decide) rfl))
      have t_22 : (M13.2.1 77 8).toInt = (M.2.1 77 8).toInt := congrArg Int32.toInt c_21
      exact h (0 : Int32) M13 hG14 F15 (by decide) (by decide) (by omega) (by omega) (by omega) (by omega) (fun z => absurd z (by omega)) (fun z => absurd z (by omega))
    · refine to_an (pc := 58) rw_215_58 rfl (tt_gI (pc := 59) rw_215_59 (g_o hG rfl) (v := (M.2.1 77 9)) rfl (to_c (pc := 62) rw_215_62 (x := (7 : Int32)) rfl rfl (b_ceq (pc := 64) rw_215_64 (A := (M.2.1 77 9).toInt) (B := 7) rfl rfl (fun h23 => ?_) (fun h23 => ?_))))
      · refine to_an (pc := 91) rw_215_91 rfl ?_
        have b_24 := g_b hG (a := 77) (i := 44) (lo := 0) (hi := 40) rfl rfl
        refine tt_gI (pc := 92) rw_215_92 (g_o hG rfl) (v := (M.2.1 77 44)) rfl (to_c (pc := 95) rw_215_95 (x := (40 : Int32)) rfl rfl (b_cne (pc := 97) rw_215_97 (A := (M.2.1 77 44).toInt) (B := 40) rfl rfl (fun h25 => ?_) (fun h25 => ?_)))
        · refine to_an (pc := 106) rw_215_106 rfl (tt_gI (pc := 107) rw_215_107 (g_o hG rfl) (v := (M.2.1 77 44)) rfl (to_isn (pc := 110) rw_215_110 (ls2 := [.ref 77, .int (M.2.1 77 44)]) rfl rfl (to_an (pc := 111) rw_215_111 rfl (s_gR (pc := 112) rw_215_112 hG rfl (v := 101) rfl (to_in (pc := 115) rw_215_115 rfl (to_an (pc := 116) rw_215_116 rfl (tt_gI (pc := 117) rw_215_117 (g_o hG rfl) (v := (M.2.1 77 9)) rfl (to_c (pc := 120) rw_215_120 (x := (7 : Int32)) rfl rfl (b_cne_f (pc := 122) rw_215_122 (A := (M.2.1 77 9).toInt) (B := 7) rfl rfl (by omega) (to_c (pc := 125) rw_215_125 (x := (0 : Int32)) rfl rfl (to_go (pc := 126) rw_215_126 ?_)))))))))))
          refine s_ias (pc := 143) rw_215_143 hG rfl (n := 40) rfl (A := (M.2.1 77 44).toInt) rfl (by omega) (by omega) (fun M27 W26 => ?_)
          have hG28 := g_w hG W26 (A := 0) rfl (lo := 0) (hi := 2) rfl rfl (by omega) (by decide)
          have F29 := FR.w F0 W26 (show 101 = 77 ∧ (((M.2.1 77 44).toInt).toNat = 4 ∨ ((M.2.1 77 44).toInt).toNat = 5 ∨ 7 ≤ ((M.2.1 77 44).toInt).toNat ∧ ((M.2.1 77 44).toInt).toNat ≤ 10) ∨ 101 = 77 ∧ (((M.2.1 77 44).toInt).toNat = 44 ∨ ((M.2.1 77 44).toInt).toNat = 52) ∨ 101 ≤ 101 ∧ 101 ≤ 108 by omega)
          refine to_an (pc := 144) rw_215_144 rfl (to_dupr (pc := 145) rw_215_145 ?_)
          have c_30 : M27.2.1 77 44 = (M.2.1 77 44) := (W_n W26 (fun z => absurd z.1 (by decide)) rfl)
          refine tt_gI (pc := 146) rw_215_146 (g_o hG28 rfl) (v := (M.2.1 77 44)) c_30 (to_c (pc := 149) rw_215_149 (x := (1 : Int32)) rfl rfl (s_add (pc := 150) rw_215_150 (A := (M.2.1 77 44).toInt) (B := 1) rfl rfl (by omega) (fun v31 e32 => s_pI (pc := 151) rw_215_151 hG28 rfl (fun M34 W33 => ?_))))
          have hG35 := g_w hG28 W33 (A := v31.toInt) rfl (lo := 0) (hi := 40) rfl rfl (by omega) (by decide)
          have F36 := FR.w F29 W33 (show 77 = 77 ∧ (44 = 4 ∨ 44 = 5 ∨ 7 ≤ 44 ∧ 44 ≤ 10) ∨ 77 = 77 ∧ (44 = 44 ∨ 44 = 52) ∨ 101 ≤ 77 ∧ 77 ≤ 108 by decide)
          refine to_an (pc := 154) rw_215_154 rfl (s_v (pc := 155) rw_215_155 (dp0 hd (by decide)) (ls0 := [.ref 77]) rfl (Nat.le_of_ble_eq_true rfl) (Nat.le_of_ble_eq_true rfl) rfl (to_rc rfl rfl rfl (g_o hG35 rfl)) rfl ?_)
          have c_37 : M34.2.1 77 7 = (M.2.1 77 7) := (W_n W33 (by decide) (W_n W26 (fun z => absurd z.1 (by decide)) rfl))
          have t_38 : (M34.2.1 77 7).toInt = (M.2.1 77 7).toInt := congrArg Int32.toInt c_37
          have c_39 : M34.2.1 77 6 = (M.2.1 77 6) := (W_n W33 (by decide) (W_n W26 (fun z => absurd z.1 (by decide)) rfl))
          have t_40 : (M34.2.1 77 6).toInt = (M.2.1 77 6).toInt := congrArg Int32.toInt c_39
          refine C_156 hX (dp1 hd (by decide)) hG35 (by omega)  (fun M46 hG42 F41 p_43 p_44 p_45 => ?_)
          have F47 := FR.c F36 F41 tg_276
          have b_48 := g_b hG42 (a := 77) (i := 7) (lo := 0) (hi := 500) rfl rfl
          have c_49 : M46.2.1 77 6 = (M.2.1 77 6) := (F_n F41 (show ¬ (77 = 77 ∧ 7 ≤ 6 ∧ 6 ≤ 10) by decide) c_39)
          have t_50 : (M46.2.1 77 6).toInt = (M.2.1 77 6).toInt := congrArg Int32.toInt c_49
          have b_51 := g_b hG42 (a := 77) (i := 8) (lo := 0) (hi := 5) rfl rfl
          refine to_an (pc := 158) rw_215_158 rfl (s_gR (pc := 159) rw_215_159 hG42 rfl (v := 101) rfl (to_in (pc := 162) rw_215_162 rfl (s_ialk (pc := 163) rw_215_163 hG42 rfl (n := 40) rfl rfl (A := (M.2.1 77 44).toInt) rfl (by omega) (by omega) (v := (0 : Int32)) (F_n F41 (show ¬ (101 = 77 ∧ 7 ≤ ((M.2.1 77 44).toInt).toNat ∧ ((M.2.1 77 44).toInt).toNat ≤ 10) by omega) (W_n W33 (by omega) (W_e W26))) (b_ine_f (pc := 164) rw_215_164 (A := 0) rfl (by decide) (to_an (pc := 167) rw_215_167 rfl (to_in (pc := 168) rw_215_168 rfl (s_v (pc := 169) rw_215_169 (dp0 hd (by decide)) (ls0 := [.ref 77, .int (M.2.1 77 44)]) rfl (Nat.le_of_ble_eq_true rfl) (Nat.le_of_ble_eq_true rfl) rfl (to_rc rfl rfl rfl (g_o hG42 rfl)) rfl (C_213 hX (dp1 hd (by decide)) hG42 (by omega) (by omega) (by omega) (a := (M.2.1 77 44)) (fun r54 M64 hG56 F55 p_57 p_58 p_59 p_60 p_61 p_62 p_63 => ?_)))))))))
          have F65 := FR.c F47 F55 tg_277
          have b_66 := g_b hG56 (a := 77) (i := 7) (lo := 0) (hi := 500) rfl rfl
          have c_67 : M64.2.1 77 6 = (M.2.1 77 6) := (F_n F55 (show ¬ (77 = 77 ∧ (6 = 4 ∨ 6 = 5 ∨ 7 ≤ 6 ∧ 6 ≤ 10) ∨ 102 ≤ 77 ∧ 77 ≤ 104 ∨ 77 = 106 ∨ 77 = 107) by decide) c_49)
          have t_68 : (M64.2.1 77 6).toInt = (M.2.1 77 6).toInt := congrArg Int32.toInt c_67
          have b_69 := g_b hG56 (a := 77) (i := 8) (lo := 0) (hi := 5) rfl rfl
          refine s_r1 (pc := 172) rw_215_172 (A := r54.toInt) rfl (by omega) ?_
          have c_70 : M64.2.1 77 44 = v31 := (F_n F55 (show ¬ (77 = 77 ∧ (44 = 4 ∨ 44 = 5 ∨ 7 ≤ 44 ∧ 44 ≤ 10) ∨ 102 ≤ 77 ∧ 77 ≤ 104 ∨ 77 = 106 ∨ 77 = 107) by decide) (F_n F41 (show ¬ (77 = 77 ∧ 7 ≤ 44 ∧ 44 ≤ 10) by decide) (W_e W33)))
          have t_71 : (M64.2.1 77 44).toInt = v31.toInt := congrArg Int32.toInt c_70
          have c_72 : M64.2.1 77 52 = (M.2.1 77 52) := (F_n F55 (show ¬ (77 = 77 ∧ (52 = 4 ∨ 52 = 5 ∨ 7 ≤ 52 ∧ 52 ≤ 10) ∨ 102 ≤ 77 ∧ 77 ≤ 104 ∨ 77 = 106 ∨ 77 = 107) by decide) (F_n F41 (show ¬ (77 = 77 ∧ 7 ≤ 52 ∧ 52 ≤ 10) by decide) (W_n W33 (by decide) (W_n W26 (fun z => absurd z.1 (by decide)) rfl))))
          have b_73 := g_b hG (a := 77) (i := 52) (lo := 0) (hi := 5) rfl rfl
          have t_74 : (M64.2.1 77 52).toInt = (M.2.1 77 52).toInt := congrArg Int32.toInt c_72
          have t_76 : (M27.2.1 101 ((M.2.1 77 44).toInt).toNat).toInt = (0 : Int32).toInt := congrArg Int32.toInt (W_e W26)
          have k_77 : (0 : Int32).toInt = 0 := rfl
          have t_78 : (M64.2.1 101 ((M.2.1 77 44).toInt).toNat).toInt = (M27.2.1 101 ((M.2.1 77 44).toInt).toNat).toInt := congrArg Int32.toInt (F_n F55 (show ¬ (101 = 77 ∧ ((((M.2.1 77 44).toInt).toNat) = 4 ∨ (((M.2.1 77 44).toInt).toNat) = 5 ∨ 7 ≤ (((M.2.1 77 44).toInt).toNat) ∧ (((M.2.1 77 44).toInt).toNat) ≤ 10) ∨ 102 ≤ 101 ∧ 101 ≤ 104 ∨ 101 = 106 ∨ 101 = 107) by omega) (F_n F41 (show ¬ (101 = 77 ∧ 7 ≤ (((M.2.1 77 44).toInt).toNat) ∧ (((M.2.1 77 44).toInt).toNat) ≤ 10) by omega) (W_n W33 (by omega) rfl)))
          have t_80 : (M27.2.1 101 ((M.2.1 77 44).toInt).toNat).toInt = (0 : Int32).toInt := congrArg Int32.toInt (W_e W26)
          have t_81 : (M64.2.1 101 ((M.2.1 77 44).toInt).toNat).toInt = (M27.2.1 101 ((M.2.1 77 44).toInt).toNat).toInt := congrArg Int32.toInt (F_n F55 (show ¬ (101 = 77 ∧ ((((M.2.1 77 44).toInt).toNat) = 4 ∨ (((M.2.1 77 44).toInt).toNat) = 5 ∨ 7 ≤ (((M.2.1 77 44).toInt).toNat) ∧ (((M.2.1 77 44).toInt).toNat) ≤ 10) ∨ 102 ≤ 101 ∧ 101 ≤ 104 ∨ 101 = 106 ∨ 101 = 107) by omega) (F_n F41 (show ¬ (101 = 77 ∧ 7 ≤ (((M.2.1 77 44).toInt).toNat) ∧ (((M.2.1 77 44).toInt).toNat) ≤ 10) by omega) (W_n W33 (by omega) rfl)))
          exact h r54 M64 hG56 F65 (by omega) (by omega) (by omega) (by omega) (by omega) (by omega) (fun zr => AB_k (M1 := M64) (n := ((M.2.1 77 44).toInt).toNat) q2 (by omega) (by omega) (fun r i z z2 => by
              by_cases e : r = 101
              · subst e; exact (F_n F55 (show ¬ (101 = 77 ∧ (i = 4 ∨ i = 5 ∨ 7 ≤ i ∧ i ≤ 10) ∨ 102 ≤ 101 ∧ 101 ≤ 104 ∨ 101 = 106 ∨ 101 = 107) by omega) (F_n F41 (show ¬ (101 = 77 ∧ 7 ≤ i ∧ i ≤ 10) by omega) (W_n W33 (by omega) (W_n W26 (by omega) rfl))))
              · exact (p_63 r i (by omega) z2).trans (F_n F41 (show ¬ (r = 77 ∧ 7 ≤ i ∧ i ≤ 10) by omega) (W_n W33 (by omega) (W_n W26 (by omega) rfl)))) (by refine ⟨fun _ => ?_, fun _ => ?_, fun _ => ?_⟩ <;> omega)) (fun _ => ST_plain (M1 := M64) (n := ((M.2.1 77 44).toInt).toNat) q3 (by omega) (by omega) (by omega) (fun i z => (F_n F55 (show ¬ (101 = 77 ∧ (i = 4 ∨ i = 5 ∨ 7 ≤ i ∧ i ≤ 10) ∨ 102 ≤ 101 ∧ 101 ≤ 104 ∨ 101 = 106 ∨ 101 = 107) by omega) (F_n F41 (show ¬ (101 = 77 ∧ 7 ≤ i ∧ i ≤ 10) by omega) (W_n W33 (by omega) (W_n W26 (by omega) rfl))))) (by omega) (fun i => (F_n F55 (show ¬ (108 = 77 ∧ (i = 4 ∨ i = 5 ∨ 7 ≤ i ∧ i ≤ 10) ∨ 102 ≤ 108 ∧ 108 ≤ 104 ∨ 108 = 106 ∨ 108 = 107) by omega) (F_n F41 (show ¬ (108 = 77 ∧ 7 ≤ i ∧ i ≤ 10) by omega) (W_n W33 (by omega) (W_n W26 (by omega) rfl))))) (fun i => (F_n F55 (show ¬ (105 = 77 ∧ (i = 4 ∨ i = 5 ∨ 7 ≤ i ∧ i ≤ 10) ∨ 102 ≤ 105 ∧ 105 ≤ 104 ∨ 105 = 106 ∨ 105 = 107) by omega) (F_n F41 (show ¬ (105 = 77 ∧ 7 ≤ i ∧ i ≤ 10) by omega) (W_n W33 (by omega) (W_n W26 (by omega) rfl))))))
        · refine to_an (pc := 100) rw_215_100 rfl (to_c (pc := 101) rw_215_101 (x := (2 : Int32)) rfl rfl (s_v (pc := 102) rw_215_102 (dp0 hd (by decide)) (ls0 := [.ref 77, .int (2 : Int32)]) rfl (Nat.le_of_ble_eq_true rfl) (Nat.le_of_ble_eq_true rfl) rfl (to_rc rfl rfl rfl (g_o hG rfl)) rfl (to_an (pc := 0) rw_152_0 rfl (to_in (pc := 1) rw_152_1 rfl (s_pI (pc := 2) rw_152_2 hG rfl (fun M83 W82 => ?_))))))
          have hG84 := g_wf hG W82 rfl rfl (by decide)
          have F85 := FR.w F0 W82 (show 77 = 77 ∧ (4 = 4 ∨ 4 = 5 ∨ 7 ≤ 4 ∧ 4 ≤ 10) ∨ 77 = 77 ∧ (4 = 44 ∨ 4 = 52) ∨ 101 ≤ 77 ∧ 77 ≤ 108 by decide)
          refine to_an (pc := 5) rw_152_5 rfl (to_an (pc := 6) rw_152_6 rfl ?_)
          have c_86 : M83.2.1 77 10 = (M.2.1 77 10) := (W_n W82 (by decide) rfl)
          have b_87 := g_b hG (a := 77) (i := 10) (lo := 0) (hi := 500) rfl rfl
          refine tt_gI (pc := 7) rw_152_7 (g_o hG84 rfl) (v := (M.2.1 77 10)) c_86 (s_pI (pc := 10) rw_152_10 hG84 rfl (fun M89 W88 => ?_))
          have hG90 := g_wf hG84 W88 rfl rfl (by decide)
          have F91 := FR.w F85 W88 (show 77 = 77 ∧ (5 = 4 ∨ 5 = 5 ∨ 7 ≤ 5 ∧ 5 ≤ 10) ∨ 77 = 77 ∧ (5 = 44 ∨ 5 = 52) ∨ 101 ≤ 77 ∧ 77 ≤ 108 by decide)
          refine to_c (pc := 13) rw_152_13 (x := (0 : Int32)) rfl rfl (s_r1 (pc := 14) rw_152_14 (A := 0) rfl (by decide) (s_r1 (pc := 105) rw_215_105 (A := 0) rfl (by decide) ?_))
          have k_92 : (0 : Int32).toInt = 0 := rfl
          have c_93 : M89.2.1 77 7 = (M.2.1 77 7) := (W_n W88 (by decide) (W_n W82 (by decide) rfl))
          have t_94 : (M89.2.1 77 7).toInt = (M.2.1 77 7).toInt := congrArg Int32.toInt c_93
          have c_95 : M89.2.1 77 6 = (M.2.1 77 6) := (W_n W88 (by decide) (W_n W82 (by decide) rfl))
          have t_96 : (M89.2.1 77 6).toInt = (M.2.1 77 6).toInt := congrArg Int32.toInt c_95
          have c_97 : M89.2.1 77 8 = (M.2.1 77 8) := (W_n W88 (by decide) (W_n W82 (by decide) rfl))
          have t_98 : (M89.2.1 77 8).toInt = (M.2.1 77 8).toInt := congrArg Int32.toInt c_97
          exact h (0 : Int32) M89 hG90 F91 (by decide) (by decide) (by omega) (by omega) (by omega) (by omega) (fun z => absurd z (by omega)) (fun z => absurd z (by omega))
      · refine to_an (pc := 67) rw_215_67 rfl (tt_gI (pc := 68) rw_215_68 (g_o hG rfl) (v := (M.2.1 77 9)) rfl (to_c (pc := 71) rw_215_71 (x := (10 : Int32)) rfl rfl (b_ceq (pc := 73) rw_215_73 (A := (M.2.1 77 9).toInt) (B := 10) rfl rfl (fun h99 => ?_) (fun h99 => ?_))))
        · refine to_an (pc := 91) rw_215_91 rfl ?_
          have b_100 := g_b hG (a := 77) (i := 44) (lo := 0) (hi := 40) rfl rfl
          refine tt_gI (pc := 92) rw_215_92 (g_o hG rfl) (v := (M.2.1 77 44)) rfl (to_c (pc := 95) rw_215_95 (x := (40 : Int32)) rfl rfl (b_cne (pc := 97) rw_215_97 (A := (M.2.1 77 44).toInt) (B := 40) rfl rfl (fun h101 => ?_) (fun h101 => ?_)))
          · refine to_an (pc := 106) rw_215_106 rfl (tt_gI (pc := 107) rw_215_107 (g_o hG rfl) (v := (M.2.1 77 44)) rfl (to_isn (pc := 110) rw_215_110 (ls2 := [.ref 77, .int (M.2.1 77 44)]) rfl rfl (to_an (pc := 111) rw_215_111 rfl (s_gR (pc := 112) rw_215_112 hG rfl (v := 101) rfl (to_in (pc := 115) rw_215_115 rfl (to_an (pc := 116) rw_215_116 rfl (tt_gI (pc := 117) rw_215_117 (g_o hG rfl) (v := (M.2.1 77 9)) rfl (to_c (pc := 120) rw_215_120 (x := (7 : Int32)) rfl rfl (b_cne_t (pc := 122) rw_215_122 (A := (M.2.1 77 9).toInt) (B := 7) rfl rfl (by omega) (to_an (pc := 129) rw_215_129 rfl (tt_gI (pc := 130) rw_215_130 (g_o hG rfl) (v := (M.2.1 77 9)) rfl ?_)))))))))))
            refine to_c (pc := 133) rw_215_133 (x := (10 : Int32)) rfl rfl (b_cne_f (pc := 135) rw_215_135 (A := (M.2.1 77 9).toInt) (B := 10) rfl rfl (by omega) (to_c (pc := 138) rw_215_138 (x := (1 : Int32)) rfl rfl (to_go (pc := 139) rw_215_139 (s_ias (pc := 143) rw_215_143 hG rfl (n := 40) rfl (A := (M.2.1 77 44).toInt) rfl (by omega) (by omega) (fun M103 W102 => ?_)))))
            have hG104 := g_w hG W102 (A := 1) rfl (lo := 0) (hi := 2) rfl rfl (by omega) (by decide)
            have F105 := FR.w F0 W102 (show 101 = 77 ∧ (((M.2.1 77 44).toInt).toNat = 4 ∨ ((M.2.1 77 44).toInt).toNat = 5 ∨ 7 ≤ ((M.2.1 77 44).toInt).toNat ∧ ((M.2.1 77 44).toInt).toNat ≤ 10) ∨ 101 = 77 ∧ (((M.2.1 77 44).toInt).toNat = 44 ∨ ((M.2.1 77 44).toInt).toNat = 52) ∨ 101 ≤ 101 ∧ 101 ≤ 108 by omega)
            refine to_an (pc := 144) rw_215_144 rfl (to_dupr (pc := 145) rw_215_145 ?_)
            have c_106 : M103.2.1 77 44 = (M.2.1 77 44) := (W_n W102 (fun z => absurd z.1 (by decide)) rfl)
            refine tt_gI (pc := 146) rw_215_146 (g_o hG104 rfl) (v := (M.2.1 77 44)) c_106 (to_c (pc := 149) rw_215_149 (x := (1 : Int32)) rfl rfl (s_add (pc := 150) rw_215_150 (A := (M.2.1 77 44).toInt) (B := 1) rfl rfl (by omega) (fun v107 e108 => s_pI (pc := 151) rw_215_151 hG104 rfl (fun M110 W109 => ?_))))
            have hG111 := g_w hG104 W109 (A := v107.toInt) rfl (lo := 0) (hi := 40) rfl rfl (by omega) (by decide)
            have F112 := FR.w F105 W109 (show 77 = 77 ∧ (44 = 4 ∨ 44 = 5 ∨ 7 ≤ 44 ∧ 44 ≤ 10) ∨ 77 = 77 ∧ (44 = 44 ∨ 44 = 52) ∨ 101 ≤ 77 ∧ 77 ≤ 108 by decide)
            refine to_an (pc := 154) rw_215_154 rfl (s_v (pc := 155) rw_215_155 (dp0 hd (by decide)) (ls0 := [.ref 77]) rfl (Nat.le_of_ble_eq_true rfl) (Nat.le_of_ble_eq_true rfl) rfl (to_rc rfl rfl rfl (g_o hG111 rfl)) rfl ?_)
            have c_113 : M110.2.1 77 7 = (M.2.1 77 7) := (W_n W109 (by decide) (W_n W102 (fun z => absurd z.1 (by decide)) rfl))
            have t_114 : (M110.2.1 77 7).toInt = (M.2.1 77 7).toInt := congrArg Int32.toInt c_113
            have c_115 : M110.2.1 77 6 = (M.2.1 77 6) := (W_n W109 (by decide) (W_n W102 (fun z => absurd z.1 (by decide)) rfl))
            have t_116 : (M110.2.1 77 6).toInt = (M.2.1 77 6).toInt := congrArg Int32.toInt c_115
            refine C_156 hX (dp1 hd (by decide)) hG111 (by omega)  (fun M122 hG118 F117 p_119 p_120 p_121 => ?_)
            have F123 := FR.c F112 F117 tg_276
            have b_124 := g_b hG118 (a := 77) (i := 7) (lo := 0) (hi := 500) rfl rfl
            have c_125 : M122.2.1 77 6 = (M.2.1 77 6) := (F_n F117 (show ¬ (77 = 77 ∧ 7 ≤ 6 ∧ 6 ≤ 10) by decide) c_115)
            have t_126 : (M122.2.1 77 6).toInt = (M.2.1 77 6).toInt := congrArg Int32.toInt c_125
            have b_127 := g_b hG118 (a := 77) (i := 8) (lo := 0) (hi := 5) rfl rfl
            refine to_an (pc := 158) rw_215_158 rfl (s_gR (pc := 159) rw_215_159 hG118 rfl (v := 101) rfl (to_in (pc := 162) rw_215_162 rfl (s_ialk (pc := 163) rw_215_163 hG118 rfl (n := 40) rfl rfl (A := (M.2.1 77 44).toInt) rfl (by omega) (by omega) (v := (1 : Int32)) (F_n F117 (show ¬ (101 = 77 ∧ 7 ≤ ((M.2.1 77 44).toInt).toNat ∧ ((M.2.1 77 44).toInt).toNat ≤ 10) by omega) (W_n W109 (by omega) (W_e W102))) (b_ine_t (pc := 164) rw_215_164 (A := 1) rfl (by decide) (to_an (pc := 173) rw_215_173 rfl (s_gR (pc := 174) rw_215_174 hG118 rfl (v := 101) rfl (to_in (pc := 177) rw_215_177 rfl (s_ialk (pc := 178) rw_215_178 hG118 rfl (n := 40) rfl rfl (A := (M.2.1 77 44).toInt) rfl (by omega) (by omega) (v := (1 : Int32)) (F_n F117 (show ¬ (101 = 77 ∧ 7 ≤ ((M.2.1 77 44).toInt).toNat ∧ ((M.2.1 77 44).toInt).toNat ≤ 10) by omega) (W_n W109 (by omega) (W_e W102))) (to_c (pc := 179) rw_215_179 (x := (1 : Int32)) rfl rfl (b_cne_f (pc := 180) rw_215_180 (A := 1) (B := 1) rfl rfl (by decide) (to_an (pc := 183) rw_215_183 rfl ?_)))))))))))
            refine to_in (pc := 184) rw_215_184 rfl (s_v (pc := 185) rw_215_185 (dp0 hd (by decide)) (ls0 := [.ref 77, .int (M.2.1 77 44)]) rfl (Nat.le_of_ble_eq_true rfl) (Nat.le_of_ble_eq_true rfl) rfl (to_rc rfl rfl rfl (g_o hG118 rfl)) rfl (C_214 hX (dp1 hd (by decide)) hG118 (by omega) (by omega) (by omega) (a := (M.2.1 77 44)) (fun r132 M142 hG134 F133 p_135 p_136 p_137 p_138 p_139 p_140 p_141 => ?_)))
            have F143 := FR.c F123 F133 tg_277
            have b_144 := g_b hG134 (a := 77) (i := 7) (lo := 0) (hi := 500) rfl rfl
            have c_145 : M142.2.1 77 6 = (M.2.1 77 6) := (F_n F133 (show ¬ (77 = 77 ∧ (6 = 4 ∨ 6 = 5 ∨ 7 ≤ 6 ∧ 6 ≤ 10) ∨ 102 ≤ 77 ∧ 77 ≤ 104 ∨ 77 = 106 ∨ 77 = 107) by decide) c_125)
            have t_146 : (M142.2.1 77 6).toInt = (M.2.1 77 6).toInt := congrArg Int32.toInt c_145
            have b_147 := g_b hG134 (a := 77) (i := 8) (lo := 0) (hi := 5) rfl rfl
            refine s_r1 (pc := 188) rw_215_188 (A := r132.toInt) rfl (by omega) ?_
            have c_148 : M142.2.1 77 44 = v107 := (F_n F133 (show ¬ (77 = 77 ∧ (44 = 4 ∨ 44 = 5 ∨ 7 ≤ 44 ∧ 44 ≤ 10) ∨ 102 ≤ 77 ∧ 77 ≤ 104 ∨ 77 = 106 ∨ 77 = 107) by decide) (F_n F117 (show ¬ (77 = 77 ∧ 7 ≤ 44 ∧ 44 ≤ 10) by decide) (W_e W109)))
            have t_149 : (M142.2.1 77 44).toInt = v107.toInt := congrArg Int32.toInt c_148
            have c_150 : M142.2.1 77 52 = (M.2.1 77 52) := (F_n F133 (show ¬ (77 = 77 ∧ (52 = 4 ∨ 52 = 5 ∨ 7 ≤ 52 ∧ 52 ≤ 10) ∨ 102 ≤ 77 ∧ 77 ≤ 104 ∨ 77 = 106 ∨ 77 = 107) by decide) (F_n F117 (show ¬ (77 = 77 ∧ 7 ≤ 52 ∧ 52 ≤ 10) by decide) (W_n W109 (by decide) (W_n W102 (fun z => absurd z.1 (by decide)) rfl))))
            have b_151 := g_b hG (a := 77) (i := 52) (lo := 0) (hi := 5) rfl rfl
            have t_152 : (M142.2.1 77 52).toInt = (M.2.1 77 52).toInt := congrArg Int32.toInt c_150
            have t_154 : (M103.2.1 101 ((M.2.1 77 44).toInt).toNat).toInt = (1 : Int32).toInt := congrArg Int32.toInt (W_e W102)
            have k_155 : (1 : Int32).toInt = 1 := rfl
            have t_156 : (M142.2.1 101 ((M.2.1 77 44).toInt).toNat).toInt = (M103.2.1 101 ((M.2.1 77 44).toInt).toNat).toInt := congrArg Int32.toInt (F_n F133 (show ¬ (101 = 77 ∧ ((((M.2.1 77 44).toInt).toNat) = 4 ∨ (((M.2.1 77 44).toInt).toNat) = 5 ∨ 7 ≤ (((M.2.1 77 44).toInt).toNat) ∧ (((M.2.1 77 44).toInt).toNat) ≤ 10) ∨ 102 ≤ 101 ∧ 101 ≤ 104 ∨ 101 = 106 ∨ 101 = 107) by omega) (F_n F117 (show ¬ (101 = 77 ∧ 7 ≤ (((M.2.1 77 44).toInt).toNat) ∧ (((M.2.1 77 44).toInt).toNat) ≤ 10) by omega) (W_n W109 (by omega) rfl)))
            have t_158 : (M103.2.1 101 ((M.2.1 77 44).toInt).toNat).toInt = (1 : Int32).toInt := congrArg Int32.toInt (W_e W102)
            have t_159 : (M142.2.1 101 ((M.2.1 77 44).toInt).toNat).toInt = (M103.2.1 101 ((M.2.1 77 44).toInt).toNat).toInt := congrArg Int32.toInt (F_n F133 (show ¬ (101 = 77 ∧ ((((M.2.1 77 44).toInt).toNat) = 4 ∨ (((M.2.1 77 44).toInt).toNat) = 5 ∨ 7 ≤ (((M.2.1 77 44).toInt).toNat) ∧ (((M.2.1 77 44).toInt).toNat) ≤ 10) ∨ 102 ≤ 101 ∧ 101 ≤ 104 ∨ 101 = 106 ∨ 101 = 107) by omega) (F_n F117 (show ¬ (101 = 77 ∧ 7 ≤ (((M.2.1 77 44).toInt).toNat) ∧ (((M.2.1 77 44).toInt).toNat) ≤ 10) by omega) (W_n W109 (by omega) rfl)))
            exact h r132 M142 hG134 F143 (by omega) (by omega) (by omega) (by omega) (by omega) (by omega) (fun zr => AB_k (M1 := M142) (n := ((M.2.1 77 44).toInt).toNat) q2 (by omega) (by omega) (fun r i z z2 => by
                by_cases e : r = 101
                · subst e; exact (F_n F133 (show ¬ (101 = 77 ∧ (i = 4 ∨ i = 5 ∨ 7 ≤ i ∧ i ≤ 10) ∨ 102 ≤ 101 ∧ 101 ≤ 104 ∨ 101 = 106 ∨ 101 = 107) by omega) (F_n F117 (show ¬ (101 = 77 ∧ 7 ≤ i ∧ i ≤ 10) by omega) (W_n W109 (by omega) (W_n W102 (by omega) rfl))))
                · exact (p_141 r i (by omega) z2).trans (F_n F117 (show ¬ (r = 77 ∧ 7 ≤ i ∧ i ≤ 10) by omega) (W_n W109 (by omega) (W_n W102 (by omega) rfl)))) (by refine ⟨fun _ => ?_, fun _ => ?_, fun _ => ?_⟩ <;> omega)) (fun _ => ST_plain (M1 := M142) (n := ((M.2.1 77 44).toInt).toNat) q3 (by omega) (by omega) (by omega) (fun i z => (F_n F133 (show ¬ (101 = 77 ∧ (i = 4 ∨ i = 5 ∨ 7 ≤ i ∧ i ≤ 10) ∨ 102 ≤ 101 ∧ 101 ≤ 104 ∨ 101 = 106 ∨ 101 = 107) by omega) (F_n F117 (show ¬ (101 = 77 ∧ 7 ≤ i ∧ i ≤ 10) by omega) (W_n W109 (by omega) (W_n W102 (by omega) rfl))))) (by omega) (fun i => (F_n F133 (show ¬ (108 = 77 ∧ (i = 4 ∨ i = 5 ∨ 7 ≤ i ∧ i ≤ 10) ∨ 102 ≤ 108 ∧ 108 ≤ 104 ∨ 108 = 106 ∨ 108 = 107) by omega) (F_n F117 (show ¬ (108 = 77 ∧ 7 ≤ i ∧ i ≤ 10) by omega) (W_n W109 (by omega) (W_n W102 (by omega) rfl))))) (fun i => (F_n F133 (show ¬ (105 = 77 ∧ (i = 4 ∨ i = 5 ∨ 7 ≤ i ∧ i ≤ 10) ∨ 102 ≤ 105 ∧ 105 ≤ 104 ∨ 105 = 106 ∨ 105 = 107) by omega) (F_n F117 (show ¬ (105 = 77 ∧ 7 ≤ i ∧ i ≤ 10) by omega) (W_n W109 (by omega) (W_n W102 (by omega) rfl))))))
          · refine to_an (pc := 100) rw_215_100 rfl (to_c (pc := 101) rw_215_101 (x := (2 : Int32)) rfl rfl (s_v (pc := 102) rw_215_102 (dp0 hd (by decide)) (ls0 := [.ref 77, .int (2 : Int32)]) rfl (Nat.le_of_ble_eq_true rfl) (Nat.le_of_ble_eq_true rfl) rfl (to_rc rfl rfl rfl (g_o hG rfl)) rfl (to_an (pc := 0) rw_152_0 rfl (to_in (pc := 1) rw_152_1 rfl (s_pI (pc := 2) rw_152_2 hG rfl (fun M161 W160 => ?_))))))
            have hG162 := g_wf hG W160 rfl rfl (by decide)
            have F163 := FR.w F0 W160 (show 77 = 77 ∧ (4 = 4 ∨ 4 = 5 ∨ 7 ≤ 4 ∧ 4 ≤ 10) ∨ 77 = 77 ∧ (4 = 44 ∨ 4 = 52) ∨ 101 ≤ 77 ∧ 77 ≤ 108 by decide)
            refine to_an (pc := 5) rw_152_5 rfl (to_an (pc := 6) rw_152_6 rfl ?_)
            have c_164 : M161.2.1 77 10 = (M.2.1 77 10) := (W_n W160 (by decide) rfl)
            have b_165 := g_b hG (a := 77) (i := 10) (lo := 0) (hi := 500) rfl rfl
            refine tt_gI (pc := 7) rw_152_7 (g_o hG162 rfl) (v := (M.2.1 77 10)) c_164 (s_pI (pc := 10) rw_152_10 hG162 rfl (fun M167 W166 => ?_))
            have hG168 := g_wf hG162 W166 rfl rfl (by decide)
            have F169 := FR.w F163 W166 (show 77 = 77 ∧ (5 = 4 ∨ 5 = 5 ∨ 7 ≤ 5 ∧ 5 ≤ 10) ∨ 77 = 77 ∧ (5 = 44 ∨ 5 = 52) ∨ 101 ≤ 77 ∧ 77 ≤ 108 by decide)
            refine to_c (pc := 13) rw_152_13 (x := (0 : Int32)) rfl rfl (s_r1 (pc := 14) rw_152_14 (A := 0) rfl (by decide) (s_r1 (pc := 105) rw_215_105 (A := 0) rfl (by decide) ?_))
            have k_170 : (0 : Int32).toInt = 0 := rfl
            have c_171 : M167.2.1 77 7 = (M.2.1 77 7) := (W_n W166 (by decide) (W_n W160 (by decide) rfl))
            have t_172 : (M167.2.1 77 7).toInt = (M.2.1 77 7).toInt := congrArg Int32.toInt c_171
            have c_173 : M167.2.1 77 6 = (M.2.1 77 6) := (W_n W166 (by decide) (W_n W160 (by decide) rfl))
            have t_174 : (M167.2.1 77 6).toInt = (M.2.1 77 6).toInt := congrArg Int32.toInt c_173
            have c_175 : M167.2.1 77 8 = (M.2.1 77 8) := (W_n W166 (by decide) (W_n W160 (by decide) rfl))
            have t_176 : (M167.2.1 77 8).toInt = (M.2.1 77 8).toInt := congrArg Int32.toInt c_175
            exact h (0 : Int32) M167 hG168 F169 (by decide) (by decide) (by omega) (by omega) (by omega) (by omega) (fun z => absurd z (by omega)) (fun z => absurd z (by omega))
        · refine to_an (pc := 76) rw_215_76 rfl (tt_gI (pc := 77) rw_215_77 (g_o hG rfl) (v := (M.2.1 77 9)) rfl (to_c (pc := 80) rw_215_80 (x := (11 : Int32)) rfl rfl (b_ceq (pc := 82) rw_215_82 (A := (M.2.1 77 9).toInt) (B := 11) rfl rfl (fun h177 => ?_) (fun h177 => ?_))))
          · refine to_an (pc := 91) rw_215_91 rfl ?_
            have b_178 := g_b hG (a := 77) (i := 44) (lo := 0) (hi := 40) rfl rfl
            refine tt_gI (pc := 92) rw_215_92 (g_o hG rfl) (v := (M.2.1 77 44)) rfl (to_c (pc := 95) rw_215_95 (x := (40 : Int32)) rfl rfl (b_cne (pc := 97) rw_215_97 (A := (M.2.1 77 44).toInt) (B := 40) rfl rfl (fun h179 => ?_) (fun h179 => ?_)))
            · refine to_an (pc := 106) rw_215_106 rfl (tt_gI (pc := 107) rw_215_107 (g_o hG rfl) (v := (M.2.1 77 44)) rfl (to_isn (pc := 110) rw_215_110 (ls2 := [.ref 77, .int (M.2.1 77 44)]) rfl rfl (to_an (pc := 111) rw_215_111 rfl (s_gR (pc := 112) rw_215_112 hG rfl (v := 101) rfl (to_in (pc := 115) rw_215_115 rfl (to_an (pc := 116) rw_215_116 rfl (tt_gI (pc := 117) rw_215_117 (g_o hG rfl) (v := (M.2.1 77 9)) rfl (to_c (pc := 120) rw_215_120 (x := (7 : Int32)) rfl rfl (b_cne_t (pc := 122) rw_215_122 (A := (M.2.1 77 9).toInt) (B := 7) rfl rfl (by omega) (to_an (pc := 129) rw_215_129 rfl (tt_gI (pc := 130) rw_215_130 (g_o hG rfl) (v := (M.2.1 77 9)) rfl ?_)))))))))))
              refine to_c (pc := 133) rw_215_133 (x := (10 : Int32)) rfl rfl (b_cne_t (pc := 135) rw_215_135 (A := (M.2.1 77 9).toInt) (B := 10) rfl rfl (by omega) (to_c (pc := 142) rw_215_142 (x := (2 : Int32)) rfl rfl (s_ias (pc := 143) rw_215_143 hG rfl (n := 40) rfl (A := (M.2.1 77 44).toInt) rfl (by omega) (by omega) (fun M181 W180 => ?_))))
              have hG182 := g_w hG W180 (A := 2) rfl (lo := 0) (hi := 2) rfl rfl (by omega) (by decide)
              have F183 := FR.w F0 W180 (show 101 = 77 ∧ (((M.2.1 77 44).toInt).toNat = 4 ∨ ((M.2.1 77 44).toInt).toNat = 5 ∨ 7 ≤ ((M.2.1 77 44).toInt).toNat ∧ ((M.2.1 77 44).toInt).toNat ≤ 10) ∨ 101 = 77 ∧ (((M.2.1 77 44).toInt).toNat = 44 ∨ ((M.2.1 77 44).toInt).toNat = 52) ∨ 101 ≤ 101 ∧ 101 ≤ 108 by omega)
              refine to_an (pc := 144) rw_215_144 rfl (to_dupr (pc := 145) rw_215_145 ?_)
              have c_184 : M181.2.1 77 44 = (M.2.1 77 44) := (W_n W180 (fun z => absurd z.1 (by decide)) rfl)
              refine tt_gI (pc := 146) rw_215_146 (g_o hG182 rfl) (v := (M.2.1 77 44)) c_184 (to_c (pc := 149) rw_215_149 (x := (1 : Int32)) rfl rfl (s_add (pc := 150) rw_215_150 (A := (M.2.1 77 44).toInt) (B := 1) rfl rfl (by omega) (fun v185 e186 => s_pI (pc := 151) rw_215_151 hG182 rfl (fun M188 W187 => ?_))))
              have hG189 := g_w hG182 W187 (A := v185.toInt) rfl (lo := 0) (hi := 40) rfl rfl (by omega) (by decide)
              have F190 := FR.w F183 W187 (show 77 = 77 ∧ (44 = 4 ∨ 44 = 5 ∨ 7 ≤ 44 ∧ 44 ≤ 10) ∨ 77 = 77 ∧ (44 = 44 ∨ 44 = 52) ∨ 101 ≤ 77 ∧ 77 ≤ 108 by decide)
              refine to_an (pc := 154) rw_215_154 rfl (s_v (pc := 155) rw_215_155 (dp0 hd (by decide)) (ls0 := [.ref 77]) rfl (Nat.le_of_ble_eq_true rfl) (Nat.le_of_ble_eq_true rfl) rfl (to_rc rfl rfl rfl (g_o hG189 rfl)) rfl ?_)
              have c_191 : M188.2.1 77 7 = (M.2.1 77 7) := (W_n W187 (by decide) (W_n W180 (fun z => absurd z.1 (by decide)) rfl))
              have t_192 : (M188.2.1 77 7).toInt = (M.2.1 77 7).toInt := congrArg Int32.toInt c_191
              have c_193 : M188.2.1 77 6 = (M.2.1 77 6) := (W_n W187 (by decide) (W_n W180 (fun z => absurd z.1 (by decide)) rfl))
              have t_194 : (M188.2.1 77 6).toInt = (M.2.1 77 6).toInt := congrArg Int32.toInt c_193
              refine C_156 hX (dp1 hd (by decide)) hG189 (by omega)  (fun M200 hG196 F195 p_197 p_198 p_199 => ?_)
              have F201 := FR.c F190 F195 tg_276
              have b_202 := g_b hG196 (a := 77) (i := 7) (lo := 0) (hi := 500) rfl rfl
              have c_203 : M200.2.1 77 6 = (M.2.1 77 6) := (F_n F195 (show ¬ (77 = 77 ∧ 7 ≤ 6 ∧ 6 ≤ 10) by decide) c_193)
              have t_204 : (M200.2.1 77 6).toInt = (M.2.1 77 6).toInt := congrArg Int32.toInt c_203
              have b_205 := g_b hG196 (a := 77) (i := 8) (lo := 0) (hi := 5) rfl rfl
              refine to_an (pc := 158) rw_215_158 rfl (s_gR (pc := 159) rw_215_159 hG196 rfl (v := 101) rfl (to_in (pc := 162) rw_215_162 rfl (s_ialk (pc := 163) rw_215_163 hG196 rfl (n := 40) rfl rfl (A := (M.2.1 77 44).toInt) rfl (by omega) (by omega) (v := (2 : Int32)) (F_n F195 (show ¬ (101 = 77 ∧ 7 ≤ ((M.2.1 77 44).toInt).toNat ∧ ((M.2.1 77 44).toInt).toNat ≤ 10) by omega) (W_n W187 (by omega) (W_e W180))) (b_ine_t (pc := 164) rw_215_164 (A := 2) rfl (by decide) (to_an (pc := 173) rw_215_173 rfl (s_gR (pc := 174) rw_215_174 hG196 rfl (v := 101) rfl (to_in (pc := 177) rw_215_177 rfl (s_ialk (pc := 178) rw_215_178 hG196 rfl (n := 40) rfl rfl (A := (M.2.1 77 44).toInt) rfl (by omega) (by omega) (v := (2 : Int32)) (F_n F195 (show ¬ (101 = 77 ∧ 7 ≤ ((M.2.1 77 44).toInt).toNat ∧ ((M.2.1 77 44).toInt).toNat ≤ 10) by omega) (W_n W187 (by omega) (W_e W180))) (to_c (pc := 179) rw_215_179 (x := (1 : Int32)) rfl rfl (b_cne_t (pc := 180) rw_215_180 (A := 2) (B := 1) rfl rfl (by decide) (to_an (pc := 189) rw_215_189 rfl ?_)))))))))))
              refine to_c (pc := 190) rw_215_190 (x := (0 : Int32)) rfl rfl (to_c (pc := 191) rw_215_191 (x := (99 : Int32)) rfl rfl (s_v (pc := 193) rw_215_193 (dp0 hd (by decide)) (ls0 := [.ref 77, .int (0 : Int32), .int (99 : Int32)]) rfl (Nat.le_of_ble_eq_true rfl) (Nat.le_of_ble_eq_true rfl) rfl (to_rc rfl rfl rfl (g_o hG196 rfl)) rfl (to_an (pc := 0) rw_162_0 rfl (tt_gI (pc := 1) rw_162_1 (g_o hG196 rfl) (v := (M200.2.1 77 8)) rfl (to_c (pc := 4) rw_162_4 (x := (3 : Int32)) rfl rfl (b_ceq (pc := 5) rw_162_5 (A := (M200.2.1 77 8).toInt) (B := 3) rfl rfl (fun h210 => ?_) (fun h210 => ?_)))))))
              · refine to_an (pc := 14) rw_162_14 rfl (tt_gI (pc := 15) rw_162_15 (g_o hG196 rfl) (v := (M200.2.1 77 9)) rfl (to_in (pc := 18) rw_162_18 rfl (b_clt (pc := 19) rw_162_19 (A := (M200.2.1 77 9).toInt) (B := 0) rfl rfl (fun h211 => ?_) (fun h211 => ?_))))
                · refine to_an (pc := 30) rw_162_30 rfl (to_c (pc := 31) rw_162_31 (x := (2 : Int32)) rfl rfl (s_v (pc := 32) rw_162_32 (dp1 hd (by decide)) (ls0 := [.ref 77, .int (2 : Int32)]) rfl (Nat.le_of_ble_eq_true rfl) (Nat.le_of_ble_eq_true rfl) rfl (to_rc rfl rfl rfl (g_o hG196 rfl)) rfl (to_an (pc := 0) rw_152_0 rfl (to_in (pc := 1) rw_152_1 rfl (s_pI (pc := 2) rw_152_2 hG196 rfl (fun M213 W212 => ?_))))))
                  have hG214 := g_wf hG196 W212 rfl rfl (by decide)
                  have F215 := FR.w F201 W212 (show 77 = 77 ∧ (4 = 4 ∨ 4 = 5 ∨ 7 ≤ 4 ∧ 4 ≤ 10) ∨ 77 = 77 ∧ (4 = 44 ∨ 4 = 52) ∨ 101 ≤ 77 ∧ 77 ≤ 108 by decide)
                  refine to_an (pc := 5) rw_152_5 rfl (to_an (pc := 6) rw_152_6 rfl ?_)
                  have c_216 : M213.2.1 77 10 = (M200.2.1 77 10) := (W_n W212 (by decide) rfl)
                  have b_217 := g_b hG196 (a := 77) (i := 10) (lo := 0) (hi := 500) rfl rfl
                  refine tt_gI (pc := 7) rw_152_7 (g_o hG214 rfl) (v := (M200.2.1 77 10)) c_216 (s_pI (pc := 10) rw_152_10 hG214 rfl (fun M219 W218 => ?_))
                  have hG220 := g_wf hG214 W218 rfl rfl (by decide)
                  have F221 := FR.w F215 W218 (show 77 = 77 ∧ (5 = 4 ∨ 5 = 5 ∨ 7 ≤ 5 ∧ 5 ≤ 10) ∨ 77 = 77 ∧ (5 = 44 ∨ 5 = 52) ∨ 101 ≤ 77 ∧ 77 ≤ 108 by decide)
                  refine to_c (pc := 13) rw_152_13 (x := (0 : Int32)) rfl rfl (s_r1 (pc := 14) rw_152_14 (A := 0) rfl (by decide) (b_ieq_t (pc := 35) rw_162_35 (A := 0) rfl (by decide) (to_c (pc := 42) rw_162_42 (x := (0 : Int32)) rfl rfl (s_r1 (pc := 43) rw_162_43 (A := 0) rfl (by decide) (b_ine_f (pc := 196) rw_215_196 (A := 0) rfl (by decide) (to_c (pc := 199) rw_215_199 (x := (0 : Int32)) rfl rfl (s_r1 (pc := 200) rw_215_200 (A := 0) rfl (by decide) ?_)))))))
                  have k_222 : (0 : Int32).toInt = 0 := rfl
                  have c_223 : M219.2.1 77 7 = (M200.2.1 77 7) := (W_n W218 (by decide) (W_n W212 (by decide) rfl))
                  have t_224 : (M219.2.1 77 7).toInt = (M200.2.1 77 7).toInt := congrArg Int32.toInt c_223
                  have c_225 : M219.2.1 77 6 = (M.2.1 77 6) := (W_n W218 (by decide) (W_n W212 (by decide) c_203))
                  have t_226 : (M219.2.1 77 6).toInt = (M.2.1 77 6).toInt := congrArg Int32.toInt c_225
                  have c_227 : M219.2.1 77 8 = (M200.2.1 77 8) := (W_n W218 (by decide) (W_n W212 (by decide) rfl))
                  have t_228 : (M219.2.1 77 8).toInt = (M200.2.1 77 8).toInt := congrArg Int32.toInt c_227
                  exact h (0 : Int32) M219 hG220 F221 (by decide) (by decide) (by omega) (by omega) (by omega) (by omega) (fun z => absurd z (by omega)) (fun z => absurd z (by omega))
                · refine to_an (pc := 22) rw_162_22 rfl (tt_gI (pc := 23) rw_162_23 (g_o hG196 rfl) (v := (M200.2.1 77 9)) rfl (to_in (pc := 26) rw_162_26 rfl (b_cle (pc := 27) rw_162_27 (A := (M200.2.1 77 9).toInt) (B := 99) rfl rfl (fun h229 => ?_) (fun h229 => ?_))))
                  · refine to_c (pc := 38) rw_162_38 (x := (1 : Int32)) rfl rfl (to_go (pc := 39) rw_162_39 (s_r1 (pc := 43) rw_162_43 (A := 1) rfl (by decide) (b_ine_t (pc := 196) rw_215_196 (A := 1) rfl (by decide) (to_an (pc := 201) rw_215_201 rfl (s_gR (pc := 202) rw_215_202 hG196 rfl (v := 102) rfl (to_in (pc := 205) rw_215_205 rfl (to_an (pc := 206) rw_215_206 rfl (tt_gI (pc := 207) rw_215_207 (g_o hG196 rfl) (v := (M200.2.1 77 9)) rfl (s_ias (pc := 210) rw_215_210 hG196 rfl (n := 40) rfl (A := (M.2.1 77 44).toInt) rfl (by omega) (by omega) (fun M231 W230 => ?_))))))))))
                    have hG232 := g_w hG196 W230 (A := (M200.2.1 77 9).toInt) rfl (lo := -1) (hi := 99) rfl rfl (by omega) (by decide)
                    have F233 := FR.w F201 W230 (show 102 = 77 ∧ (((M.2.1 77 44).toInt).toNat = 4 ∨ ((M.2.1 77 44).toInt).toNat = 5 ∨ 7 ≤ ((M.2.1 77 44).toInt).toNat ∧ ((M.2.1 77 44).toInt).toNat ≤ 10) ∨ 102 = 77 ∧ (((M.2.1 77 44).toInt).toNat = 44 ∨ ((M.2.1 77 44).toInt).toNat = 52) ∨ 101 ≤ 102 ∧ 102 ≤ 108 by omega)
                    refine to_an (pc := 211) rw_215_211 rfl (s_v (pc := 212) rw_215_212 (dp0 hd (by decide)) (ls0 := [.ref 77]) rfl (Nat.le_of_ble_eq_true rfl) (Nat.le_of_ble_eq_true rfl) rfl (to_rc rfl rfl rfl (g_o hG232 rfl)) rfl ?_)
                    have c_234 : M231.2.1 77 7 = (M200.2.1 77 7) := (W_n W230 (fun z => absurd z.1 (by decide)) rfl)
                    have t_235 : (M231.2.1 77 7).toInt = (M200.2.1 77 7).toInt := congrArg Int32.toInt c_234
                    have c_236 : M231.2.1 77 6 = (M.2.1 77 6) := (W_n W230 (fun z => absurd z.1 (by decide)) c_203)
                    have t_237 : (M231.2.1 77 6).toInt = (M.2.1 77 6).toInt := congrArg Int32.toInt c_236
                    refine C_156 hX (dp1 hd (by decide)) hG232 (by omega)  (fun M243 hG239 F238 p_240 p_241 p_242 => ?_)
                    have F244 := FR.c F233 F238 tg_276
                    have b_245 := g_b hG239 (a := 77) (i := 7) (lo := 0) (hi := 500) rfl rfl
                    have c_246 : M243.2.1 77 6 = (M.2.1 77 6) := (F_n F238 (show ¬ (77 = 77 ∧ 7 ≤ 6 ∧ 6 ≤ 10) by decide) c_236)
                    have t_247 : (M243.2.1 77 6).toInt = (M.2.1 77 6).toInt := congrArg Int32.toInt c_246
                    have b_248 := g_b hG239 (a := 77) (i := 8) (lo := 0) (hi := 5) rfl rfl
                    refine to_an (pc := 215) rw_215_215 rfl (to_c (pc := 216) rw_215_216 (x := (40 : Int32)) rfl rfl (s_v (pc := 218) rw_215_218 (dp0 hd (by decide)) (ls0 := [.ref 77, .int (40 : Int32)]) rfl (Nat.le_of_ble_eq_true rfl) (Nat.le_of_ble_eq_true rfl) rfl (to_rc rfl rfl rfl (g_o hG239 rfl)) rfl (to_an (pc := 0) rw_159_0 rfl (tt_gI (pc := 1) rw_159_1 (g_o hG239 rfl) (v := (M243.2.1 77 8)) rfl (to_c (pc := 4) rw_159_4 (x := (4 : Int32)) rfl rfl (b_cne (pc := 5) rw_159_5 (A := (M243.2.1 77 8).toInt) (B := 4) rfl rfl (fun h249 => ?_) (fun h249 => ?_)))))))
                    · refine to_c (pc := 20) rw_159_20 (x := (0 : Int32)) rfl rfl (s_r1 (pc := 21) rw_159_21 (A := 0) rfl (by decide) (b_ine_f (pc := 221) rw_215_221 (A := 0) rfl (by decide) (to_an (pc := 224) rw_215_224 rfl (to_c (pc := 225) rw_215_225 (x := (1 : Int32)) rfl rfl (s_v (pc := 226) rw_215_226 (dp0 hd (by decide)) (ls0 := [.ref 77, .int (1 : Int32)]) rfl (Nat.le_of_ble_eq_true rfl) (Nat.le_of_ble_eq_true rfl) rfl (to_rc rfl rfl rfl (g_o hG239 rfl)) rfl (to_an (pc := 0) rw_152_0 rfl (to_in (pc := 1) rw_152_1 rfl (s_pI (pc := 2) rw_152_2 hG239 rfl (fun M251 W250 => ?_)))))))))
                      have hG252 := g_wf hG239 W250 rfl rfl (by decide)
                      have F253 := FR.w F244 W250 (show 77 = 77 ∧ (4 = 4 ∨ 4 = 5 ∨ 7 ≤ 4 ∧ 4 ≤ 10) ∨ 77 = 77 ∧ (4 = 44 ∨ 4 = 52) ∨ 101 ≤ 77 ∧ 77 ≤ 108 by decide)
                      refine to_an (pc := 5) rw_152_5 rfl (to_an (pc := 6) rw_152_6 rfl ?_)
                      have c_254 : M251.2.1 77 10 = (M243.2.1 77 10) := (W_n W250 (by decide) rfl)
                      have b_255 := g_b hG239 (a := 77) (i := 10) (lo := 0) (hi := 500) rfl rfl
                      refine tt_gI (pc := 7) rw_152_7 (g_o hG252 rfl) (v := (M243.2.1 77 10)) c_254 (s_pI (pc := 10) rw_152_10 hG252 rfl (fun M257 W256 => ?_))
                      have hG258 := g_wf hG252 W256 rfl rfl (by decide)
                      have F259 := FR.w F253 W256 (show 77 = 77 ∧ (5 = 4 ∨ 5 = 5 ∨ 7 ≤ 5 ∧ 5 ≤ 10) ∨ 77 = 77 ∧ (5 = 44 ∨ 5 = 52) ∨ 101 ≤ 77 ∧ 77 ≤ 108 by decide)
                      refine to_c (pc := 13) rw_152_13 (x := (0 : Int32)) rfl rfl (s_r1 (pc := 14) rw_152_14 (A := 0) rfl (by decide) (s_r1 (pc := 229) rw_215_229 (A := 0) rfl (by decide) ?_))
                      have k_260 : (0 : Int32).toInt = 0 := rfl
                      have c_261 : M257.2.1 77 7 = (M243.2.1 77 7) := (W_n W256 (by decide) (W_n W250 (by decide) rfl))
                      have t_262 : (M257.2.1 77 7).toInt = (M243.2.1 77 7).toInt := congrArg Int32.toInt c_261
                      have c_263 : M257.2.1 77 6 = (M.2.1 77 6) := (W_n W256 (by decide) (W_n W250 (by decide) c_246))
                      have t_264 : (M257.2.1 77 6).toInt = (M.2.1 77 6).toInt := congrArg Int32.toInt c_263
                      have c_265 : M257.2.1 77 8 = (M243.2.1 77 8) := (W_n W256 (by decide) (W_n W250 (by decide) rfl))
                      have t_266 : (M257.2.1 77 8).toInt = (M243.2.1 77 8).toInt := congrArg Int32.toInt c_265
                      exact h (0 : Int32) M257 hG258 F259 (by decide) (by decide) (by omega) (by omega) (by omega) (by omega) (fun z => absurd z (by omega)) (fun z => absurd z (by omega))
                    · refine to_an (pc := 8) rw_159_8 rfl (tt_gI (pc := 9) rw_159_9 (g_o hG239 rfl) (v := (M243.2.1 77 9)) rfl (to_in (pc := 12) rw_159_12 rfl (b_cne (pc := 13) rw_159_13 (A := (M243.2.1 77 9).toInt) (B := 40) rfl rfl (fun h267 => ?_) (fun h267 => ?_))))
                      · refine to_c (pc := 20) rw_159_20 (x := (0 : Int32)) rfl rfl (s_r1 (pc := 21) rw_159_21 (A := 0) rfl (by decide) (b_ine_f (pc := 221) rw_215_221 (A := 0) rfl (by decide) (to_an (pc := 224) rw_215_224 rfl (to_c (pc := 225) rw_215_225 (x := (1 : Int32)) rfl rfl (s_v (pc := 226) rw_215_226 (dp0 hd (by decide)) (ls0 := [.ref 77, .int (1 : Int32)]) rfl (Nat.le_of_ble_eq_true rfl) (Nat.le_of_ble_eq_true rfl) rfl (to_rc rfl rfl rfl (g_o hG239 rfl)) rfl (to_an (pc := 0) rw_152_0 rfl (to_in (pc := 1) rw_152_1 rfl (s_pI (pc := 2) rw_152_2 hG239 rfl (fun M269 W268 => ?_)))))))))
                        have hG270 := g_wf hG239 W268 rfl rfl (by decide)
                        have F271 := FR.w F244 W268 (show 77 = 77 ∧ (4 = 4 ∨ 4 = 5 ∨ 7 ≤ 4 ∧ 4 ≤ 10) ∨ 77 = 77 ∧ (4 = 44 ∨ 4 = 52) ∨ 101 ≤ 77 ∧ 77 ≤ 108 by decide)
                        refine to_an (pc := 5) rw_152_5 rfl (to_an (pc := 6) rw_152_6 rfl ?_)
                        have c_272 : M269.2.1 77 10 = (M243.2.1 77 10) := (W_n W268 (by decide) rfl)
                        have b_273 := g_b hG239 (a := 77) (i := 10) (lo := 0) (hi := 500) rfl rfl
                        refine tt_gI (pc := 7) rw_152_7 (g_o hG270 rfl) (v := (M243.2.1 77 10)) c_272 (s_pI (pc := 10) rw_152_10 hG270 rfl (fun M275 W274 => ?_))
                        have hG276 := g_wf hG270 W274 rfl rfl (by decide)
                        have F277 := FR.w F271 W274 (show 77 = 77 ∧ (5 = 4 ∨ 5 = 5 ∨ 7 ≤ 5 ∧ 5 ≤ 10) ∨ 77 = 77 ∧ (5 = 44 ∨ 5 = 52) ∨ 101 ≤ 77 ∧ 77 ≤ 108 by decide)
                        refine to_c (pc := 13) rw_152_13 (x := (0 : Int32)) rfl rfl (s_r1 (pc := 14) rw_152_14 (A := 0) rfl (by decide) (s_r1 (pc := 229) rw_215_229 (A := 0) rfl (by decide) ?_))
                        have k_278 : (0 : Int32).toInt = 0 := rfl
                        have c_279 : M275.2.1 77 7 = (M243.2.1 77 7) := (W_n W274 (by decide) (W_n W268 (by decide) rfl))
                        have t_280 : (M275.2.1 77 7).toInt = (M243.2.1 77 7).toInt := congrArg Int32.toInt c_279
                        have c_281 : M275.2.1 77 6 = (M.2.1 77 6) := (W_n W274 (by decide) (W_n W268 (by decide) c_246))
                        have t_282 : (M275.2.1 77 6).toInt = (M.2.1 77 6).toInt := congrArg Int32.toInt c_281
                        have c_283 : M275.2.1 77 8 = (M243.2.1 77 8) := (W_n W274 (by decide) (W_n W268 (by decide) rfl))
                        have t_284 : (M275.2.1 77 8).toInt = (M243.2.1 77 8).toInt := congrArg Int32.toInt c_283
                        exact h (0 : Int32) M275 hG276 F277 (by decide) (by decide) (by omega) (by omega) (by omega) (by omega) (fun z => absurd z (by omega)) (fun z => absurd z (by omega))
                      · refine to_c (pc := 16) rw_159_16 (x := (1 : Int32)) rfl rfl (to_go (pc := 17) rw_159_17 (s_r1 (pc := 21) rw_159_21 (A := 1) rfl (by decide) (b_ine_t (pc := 221) rw_215_221 (A := 1) rfl (by decide) (to_an (pc := 230) rw_215_230 rfl ?_))))
                        have c_285 : M243.2.1 77 52 = (M.2.1 77 52) := (F_n F238 (show ¬ (77 = 77 ∧ 7 ≤ 52 ∧ 52 ≤ 10) by decide) (W_n W230 (fun z => absurd z.1 (by decide)) (F_n F195 (show ¬ (77 = 77 ∧ 7 ≤ 52 ∧ 52 ≤ 10) by decide) (W_n W187 (by decide) (W_n W180 (fun z => absurd z.1 (by decide)) rfl)))))
                        have b_286 := g_b hG (a := 77) (i := 52) (lo := 0) (hi := 5) rfl rfl
                        refine tt_gI (pc := 231) rw_215_231 (g_o hG239 rfl) (v := (M.2.1 77 52)) c_285 (to_c (pc := 234) rw_215_234 (x := (5 : Int32)) rfl rfl (b_cne (pc := 235) rw_215_235 (A := (M.2.1 77 52).toInt) (B := 5) rfl rfl (fun h287 => ?_) (fun h287 => ?_)))
                        · refine to_an (pc := 244) rw_215_244 rfl (s_gR (pc := 245) rw_215_245 hG239 rfl (v := 108) rfl (to_an (pc := 248) rw_215_248 rfl (tt_gI (pc := 249) rw_215_249 (g_o hG239 rfl) (v := (M.2.1 77 52)) c_285 (to_in (pc := 252) rw_215_252 rfl (s_ias (pc := 253) rw_215_253 hG239 rfl (n := 5) rfl (A := (M.2.1 77 52).toInt) rfl (by omega) (by omega) (fun M289 W288 => ?_))))))
                          have hG290 := g_w hG239 W288 (A := (M.2.1 77 44).toInt) rfl (lo := 0) (hi := 39) rfl rfl (by omega) (by decide)
                          have F291 := FR.w F244 W288 (show 108 = 77 ∧ (((M.2.1 77 52).toInt).toNat = 4 ∨ ((M.2.1 77 52).toInt).toNat = 5 ∨ 7 ≤ ((M.2.1 77 52).toInt).toNat ∧ ((M.2.1 77 52).toInt).toNat ≤ 10) ∨ 108 = 77 ∧ (((M.2.1 77 52).toInt).toNat = 44 ∨ ((M.2.1 77 52).toInt).toNat = 52) ∨ 101 ≤ 108 ∧ 108 ≤ 108 by omega)
                          refine to_an (pc := 254) rw_215_254 rfl (to_dupr (pc := 255) rw_215_255 ?_)
                          have c_292 : M289.2.1 77 52 = (M.2.1 77 52) := (W_n W288 (fun z => absurd z.1 (by decide)) c_285)
                          refine tt_gI (pc := 256) rw_215_256 (g_o hG290 rfl) (v := (M.2.1 77 52)) c_292 (to_c (pc := 259) rw_215_259 (x := (1 : Int32)) rfl rfl (s_add (pc := 260) rw_215_260 (A := (M.2.1 77 52).toInt) (B := 1) rfl rfl (by omega) (fun v293 e294 => s_pI (pc := 261) rw_215_261 hG290 rfl (fun M296 W295 => ?_))))
                          have hG297 := g_w hG290 W295 (A := v293.toInt) rfl (lo := 0) (hi := 5) rfl rfl (by omega) (by decide)
                          have F298 := FR.w F291 W295 (show 77 = 77 ∧ (52 = 4 ∨ 52 = 5 ∨ 7 ≤ 52 ∧ 52 ≤ 10) ∨ 77 = 77 ∧ (52 = 44 ∨ 52 = 52) ∨ 101 ≤ 77 ∧ 77 ≤ 108 by decide)
                          refine to_an (pc := 264) rw_215_264 rfl (s_v (pc := 265) rw_215_265 (dp0 hd (by decide)) (ls0 := [.ref 77]) rfl (Nat.le_of_ble_eq_true rfl) (Nat.le_of_ble_eq_true rfl) rfl (to_rc rfl rfl rfl (g_o hG297 rfl)) rfl ?_)
                          have c_299 : M296.2.1 77 7 = (M243.2.1 77 7) := (W_n W295 (by decide) (W_n W288 (fun z => absurd z.1 (by decide)) rfl))
                          have t_300 : (M296.2.1 77 7).toInt = (M243.2.1 77 7).toInt := congrArg Int32.toInt c_299
                          have c_301 : M296.2.1 77 6 = (M.2.1 77 6) := (W_n W295 (by decide) (W_n W288 (fun z => absurd z.1 (by decide)) c_246))
                          have t_302 : (M296.2.1 77 6).toInt = (M.2.1 77 6).toInt := congrArg Int32.toInt c_301
                          refine C_156 hX (dp1 hd (by decide)) hG297 (by omega)  (fun M308 hG304 F303 p_305 p_306 p_307 => ?_)
                          have F309 := FR.c F298 F303 tg_276
                          have b_310 := g_b hG304 (a := 77) (i := 7) (lo := 0) (hi := 500) rfl rfl
                          have c_311 : M308.2.1 77 6 = (M.2.1 77 6) := (F_n F303 (show ¬ (77 = 77 ∧ 7 ≤ 6 ∧ 6 ≤ 10) by decide) c_301)
                          have t_312 : (M308.2.1 77 6).toInt = (M.2.1 77 6).toInt := congrArg Int32.toInt c_311
                          have b_313 := g_b hG304 (a := 77) (i := 8) (lo := 0) (hi := 5) rfl rfl
                          refine to_c (pc := 268) rw_215_268 (x := (1 : Int32)) rfl rfl (s_r1 (pc := 269) rw_215_269 (A := 1) rfl (by decide) ?_)
                          have k_314 : (1 : Int32).toInt = 1 := rfl
                          have c_315 : M308.2.1 77 44 = v185 := (F_n F303 (show ¬ (77 = 77 ∧ 7 ≤ 44 ∧ 44 ≤ 10) by decide) (W_n W295 (by decide) (W_n W288 (fun z => absurd z.1 (by decide)) (F_n F238 (show ¬ (77 = 77 ∧ 7 ≤ 44 ∧ 44 ≤ 10) by decide) (W_n W230 (fun z => absurd z.1 (by decide)) (F_n F195 (show ¬ (77 = 77 ∧ 7 ≤ 44 ∧ 44 ≤ 10) by decide) (W_e W187)))))))
                          have t_316 : (M308.2.1 77 44).toInt = v185.toInt := congrArg Int32.toInt c_315
                          have c_317 : M308.2.1 77 52 = v293 := (F_n F303 (show ¬ (77 = 77 ∧ 7 ≤ 52 ∧ 52 ≤ 10) by decide) (W_e W295))
                          have t_318 : (M308.2.1 77 52).toInt = v293.toInt := congrArg Int32.toInt c_317
                          have t_320 : (M181.2.1 101 ((M.2.1 77 44).toInt).toNat).toInt = (2 : Int32).toInt := congrArg Int32.toInt (W_e W180)
                          have k_321 : (2 : Int32).toInt = 2 := rfl
                          have t_322 : (M308.2.1 101 ((M.2.1 77 44).toInt).toNat).toInt = (M181.2.1 101 ((M.2.1 77 44).toInt).toNat).toInt := congrArg Int32.toInt (F_n F303 (show ¬ (101 = 77 ∧ 7 ≤ (((M.2.1 77 44).toInt).toNat) ∧ (((M.2.1 77 44).toInt).toNat) ≤ 10) by omega) (W_n W295 (by omega) (W_n W288 (by omega) (F_n F238 (show ¬ (101 = 77 ∧ 7 ≤ (((M.2.1 77 44).toInt).toNat) ∧ (((M.2.1 77 44).toInt).toNat) ≤ 10) by omega) (W_n W230 (by omega) (F_n F195 (show ¬ (101 = 77 ∧ 7 ≤ (((M.2.1 77 44).toInt).toNat) ∧ (((M.2.1 77 44).toInt).toNat) ≤ 10) by omega) (W_n W187 (by omega) rfl)))))))
                          have t_323 : (M231.2.1 102 ((M.2.1 77 44).toInt).toNat).toInt = (M200.2.1 77 9).toInt := congrArg Int32.toInt (W_e W230)
                          have t_324 : (M308.2.1 102 ((M.2.1 77 44).toInt).toNat).toInt = (M231.2.1 102 ((M.2.1 77 44).toInt).toNat).toInt := congrArg Int32.toInt (F_n F303 (show ¬ (102 = 77 ∧ 7 ≤ (((M.2.1 77 44).toInt).toNat) ∧ (((M.2.1 77 44).toInt).toNat) ≤ 10) by omega) (W_n W295 (by omega) (W_n W288 (by omega) (F_n F238 (show ¬ (102 = 77 ∧ 7 ≤ (((M.2.1 77 44).toInt).toNat) ∧ (((M.2.1 77 44).toInt).toNat) ≤ 10) by omega) rfl))))
                          have t_326 : (M181.2.1 101 ((M.2.1 77 44).toInt).toNat).toInt = (2 : Int32).toInt := congrArg Int32.toInt (W_e W180)
                          have t_327 : (M308.2.1 101 ((M.2.1 77 44).toInt).toNat).toInt = (M181.2.1 101 ((M.2.1 77 44).toInt).toNat).toInt := congrArg Int32.toInt (F_n F303 (show ¬ (101 = 77 ∧ 7 ≤ (((M.2.1 77 44).toInt).toNat) ∧ (((M.2.1 77 44).toInt).toNat) ≤ 10) by omega) (W_n W295 (by omega) (W_n W288 (by omega) (F_n F238 (show ¬ (101 = 77 ∧ 7 ≤ (((M.2.1 77 44).toInt).toNat) ∧ (((M.2.1 77 44).toInt).toNat) ≤ 10) by omega) (W_n W230 (by omega) (F_n F195 (show ¬ (101 = 77 ∧ 7 ≤ (((M.2.1 77 44).toInt).toNat) ∧ (((M.2.1 77 44).toInt).toNat) ≤ 10) by omega) (W_n W187 (by omega) rfl)))))))
                          exact h (1 : Int32) M308 hG304 F309 (by decide) (by decide) (by omega) (by omega) (by omega) (by omega) (fun _ => AB_k (M1 := M308) (n := ((M.2.1 77 44).toInt).toNat) q2 (by omega) (by omega) (fun r i z z2 => (F_n F303 (show ¬ (r = 77 ∧ 7 ≤ i ∧ i ≤ 10) by omega) (W_n W295 (by omega) (W_n W288 (by omega) (F_n F238 (show ¬ (r = 77 ∧ 7 ≤ i ∧ i ≤ 10) by omega) (W_n W230 (by omega) (F_n F195 (show ¬ (r = 77 ∧ 7 ≤ i ∧ i ≤ 10) by omega) (W_n W187 (by omega) (W_n W180 (by omega) rfl))))))))) (by refine ⟨fun _ => ?_, fun _ => ?_, fun _ => ?_⟩ <;> omega)) (fun _ => ST_push (M1 := M308) (n := ((M.2.1 77 44).toInt).toNat) (k := ((M.2.1 77 52).toInt).toNat) q3 (by omega) (by omega) (by omega) (by omega) (by omega) (fun i z => (F_n F303 (show ¬ (101 = 77 ∧ 7 ≤ i ∧ i ≤ 10) by omega) (W_n W295 (by omega) (W_n W288 (by omega) (F_n F238 (show ¬ (101 = 77 ∧ 7 ≤ i ∧ i ≤ 10) by omega) (W_n W230 (by omega) (F_n F195 (show ¬ (101 = 77 ∧ 7 ≤ i ∧ i ≤ 10) by omega) (W_n W187 (by omega) (W_n W180 (by omega) rfl))))))))) (by omega) (fun i z => (F_n F303 (show ¬ (108 = 77 ∧ 7 ≤ i ∧ i ≤ 10) by omega) (W_n W295 (by omega) (W_n W288 (by omega) (F_n F238 (show ¬ (108 = 77 ∧ 7 ≤ i ∧ i ≤ 10) by omega) (W_n W230 (by omega) (F_n F195 (show ¬ (108 = 77 ∧ 7 ≤ i ∧ i ≤ 10) by omega) (W_n W187 (by omega) (W_n W180 (by omega) rfl))))))))) (by rw [(F_n F303 (show ¬ (108 = 77 ∧ 7 ≤ (((M.2.1 77 52).toInt).toNat) ∧ (((M.2.1 77 52).toInt).toNat) ≤ 10) by omega) (W_n W295 (by omega) (W_e W288)))] <;> omega) (fun i => (F_n F303 (show ¬ (105 = 77 ∧ 7 ≤ i ∧ i ≤ 10) by omega) (W_n W295 (by omega) (W_n W288 (by omega) (F_n F238 (show ¬ (105 = 77 ∧ 7 ≤ i ∧ i ≤ 10) by omega) (W_n W230 (by omega) (F_n F195 (show ¬ (105 = 77 ∧ 7 ≤ i ∧ i ≤ 10) by omega) (W_n W187 (by omega) (W_n W180 (by omega) rfl))))))))))
                        · refine to_an (pc := 238) rw_215_238 rfl (to_c (pc := 239) rw_215_239 (x := (2 : Int32)) rfl rfl (s_v (pc := 240) rw_215_240 (dp0 hd (by decide)) (ls0 := [.ref 77, .int (2 : Int32)]) rfl (Nat.le_of_ble_eq_true rfl) (Nat.le_of_ble_eq_true rfl) rfl (to_rc rfl rfl rfl (g_o hG239 rfl)) rfl (to_an (pc := 0) rw_152_0 rfl (to_in (pc := 1) rw_152_1 rfl (s_pI (pc := 2) rw_152_2 hG239 rfl (fun M329 W328 => ?_))))))
                          have hG330 := g_wf hG239 W328 rfl rfl (by decide)
                          have F331 := FR.w F244 W328 (show 77 = 77 ∧ (4 = 4 ∨ 4 = 5 ∨ 7 ≤ 4 ∧ 4 ≤ 10) ∨ 77 = 77 ∧ (4 = 44 ∨ 4 = 52) ∨ 101 ≤ 77 ∧ 77 ≤ 108 by decide)
                          refine to_an (pc := 5) rw_152_5 rfl (to_an (pc := 6) rw_152_6 rfl ?_)
                          have c_332 : M329.2.1 77 10 = (M243.2.1 77 10) := (W_n W328 (by decide) rfl)
                          have b_333 := g_b hG239 (a := 77) (i := 10) (lo := 0) (hi := 500) rfl rfl
                          refine tt_gI (pc := 7) rw_152_7 (g_o hG330 rfl) (v := (M243.2.1 77 10)) c_332 (s_pI (pc := 10) rw_152_10 hG330 rfl (fun M335 W334 => ?_))
                          have hG336 := g_wf hG330 W334 rfl rfl (by decide)
                          have F337 := FR.w F331 W334 (show 77 = 77 ∧ (5 = 4 ∨ 5 = 5 ∨ 7 ≤ 5 ∧ 5 ≤ 10) ∨ 77 = 77 ∧ (5 = 44 ∨ 5 = 52) ∨ 101 ≤ 77 ∧ 77 ≤ 108 by decide)
                          refine to_c (pc := 13) rw_152_13 (x := (0 : Int32)) rfl rfl (s_r1 (pc := 14) rw_152_14 (A := 0) rfl (by decide) (s_r1 (pc := 243) rw_215_243 (A := 0) rfl (by decide) ?_))
                          have k_338 : (0 : Int32).toInt = 0 := rfl
                          have c_339 : M335.2.1 77 7 = (M243.2.1 77 7) := (W_n W334 (by decide) (W_n W328 (by decide) rfl))
                          have t_340 : (M335.2.1 77 7).toInt = (M243.2.1 77 7).toInt := congrArg Int32.toInt c_339
                          have c_341 : M335.2.1 77 6 = (M.2.1 77 6) := (W_n W334 (by decide) (W_n W328 (by decide) c_246))
                          have t_342 : (M335.2.1 77 6).toInt = (M.2.1 77 6).toInt := congrArg Int32.toInt c_341
                          have c_343 : M335.2.1 77 8 = (M243.2.1 77 8) := (W_n W334 (by decide) (W_n W328 (by decide) rfl))
                          have t_344 : (M335.2.1 77 8).toInt = (M243.2.1 77 8).toInt := congrArg Int32.toInt c_343
                          exact h (0 : Int32) M335 hG336 F337 (by decide) (by decide) (by omega) (by omega) (by omega) (by omega) (fun z => absurd z (by omega)) (fun z => absurd z (by omega))
                  · refine to_an (pc := 30) rw_162_30 rfl (to_c (pc := 31) rw_162_31 (x := (2 : Int32)) rfl rfl (s_v (pc := 32) rw_162_32 (dp1 hd (by decide)) (ls0 := [.ref 77, .int (2 : Int32)]) rfl (Nat.le_of_ble_eq_true rfl) (Nat.le_of_ble_eq_true rfl) rfl (to_rc rfl rfl rfl (g_o hG196 rfl)) rfl (to_an (pc := 0) rw_152_0 rfl (to_in (pc := 1) rw_152_1 rfl (s_pI (pc := 2) rw_152_2 hG196 rfl (fun M346 W345 => ?_))))))
                    have hG347 := g_wf hG196 W345 rfl rfl (by decide)
                    have F348 := FR.w F201 W345 (show 77 = 77 ∧ (4 = 4 ∨ 4 = 5 ∨ 7 ≤ 4 ∧ 4 ≤ 10) ∨ 77 = 77 ∧ (4 = 44 ∨ 4 = 52) ∨ 101 ≤ 77 ∧ 77 ≤ 108 by decide)
                    refine to_an (pc := 5) rw_152_5 rfl (to_an (pc := 6) rw_152_6 rfl ?_)
                    have c_349 : M346.2.1 77 10 = (M200.2.1 77 10) := (W_n W345 (by decide) rfl)
                    have b_350 := g_b hG196 (a := 77) (i := 10) (lo := 0) (hi := 500) rfl rfl
                    refine tt_gI (pc := 7) rw_152_7 (g_o hG347 rfl) (v := (M200.2.1 77 10)) c_349 (s_pI (pc := 10) rw_152_10 hG347 rfl (fun M352 W351 => ?_))
                    have hG353 := g_wf hG347 W351 rfl rfl (by decide)
                    have F354 := FR.w F348 W351 (show 77 = 77 ∧ (5 = 4 ∨ 5 = 5 ∨ 7 ≤ 5 ∧ 5 ≤ 10) ∨ 77 = 77 ∧ (5 = 44 ∨ 5 = 52) ∨ 101 ≤ 77 ∧ 77 ≤ 108 by decide)
                    refine to_c (pc := 13) rw_152_13 (x := (0 : Int32)) rfl rfl (s_r1 (pc := 14) rw_152_14 (A := 0) rfl (by decide) (b_ieq_t (pc := 35) rw_162_35 (A := 0) rfl (by decide) (to_c (pc := 42) rw_162_42 (x := (0 : Int32)) rfl rfl (s_r1 (pc := 43) rw_162_43 (A := 0) rfl (by decide) (b_ine_f (pc := 196) rw_215_196 (A := 0) rfl (by decide) (to_c (pc := 199) rw_215_199 (x := (0 : Int32)) rfl rfl (s_r1 (pc := 200) rw_215_200 (A := 0) rfl (by decide) ?_)))))))
                    have k_355 : (0 : Int32).toInt = 0 := rfl
                    have c_356 : M352.2.1 77 7 = (M200.2.1 77 7) := (W_n W351 (by decide) (W_n W345 (by decide) rfl))
                    have t_357 : (M352.2.1 77 7).toInt = (M200.2.1 77 7).toInt := congrArg Int32.toInt c_356
                    have c_358 : M352.2.1 77 6 = (M.2.1 77 6) := (W_n W351 (by decide) (W_n W345 (by decide) c_203))
                    have t_359 : (M352.2.1 77 6).toInt = (M.2.1 77 6).toInt := congrArg Int32.toInt c_358
                    have c_360 : M352.2.1 77 8 = (M200.2.1 77 8) := (W_n W351 (by decide) (W_n W345 (by decide) rfl))
                    have t_361 : (M352.2.1 77 8).toInt = (M200.2.1 77 8).toInt := congrArg Int32.toInt c_360
                    exact h (0 : Int32) M352 hG353 F354 (by decide) (by decide) (by omega) (by omega) (by omega) (by omega) (fun z => absurd z (by omega)) (fun z => absurd z (by omega))
              · refine to_an (pc := 8) rw_162_8 rfl (to_c (pc := 9) rw_162_9 (x := (1 : Int32)) rfl rfl (s_v (pc := 10) rw_162_10 (dp1 hd (by decide)) (ls0 := [.ref 77, .int (1 : Int32)]) rfl (Nat.le_of_ble_eq_true rfl) (Nat.le_of_ble_eq_true rfl) rfl (to_rc rfl rfl rfl (g_o hG196 rfl)) rfl (to_an (pc := 0) rw_152_0 rfl (to_in (pc := 1) rw_152_1 rfl (s_pI (pc := 2) rw_152_2 hG196 rfl (fun M363 W362 => ?_))))))
                have hG364 := g_wf hG196 W362 rfl rfl (by decide)
                have F365 := FR.w F201 W362 (show 77 = 77 ∧ (4 = 4 ∨ 4 = 5 ∨ 7 ≤ 4 ∧ 4 ≤ 10) ∨ 77 = 77 ∧ (4 = 44 ∨ 4 = 52) ∨ 101 ≤ 77 ∧ 77 ≤ 108 by decide)
                refine to_an (pc := 5) rw_152_5 rfl (to_an (pc := 6) rw_152_6 rfl ?_)
                have c_366 : M363.2.1 77 10 = (M200.2.1 77 10) := (W_n W362 (by decide) rfl)
                have b_367 := g_b hG196 (a := 77) (i := 10) (lo := 0) (hi := 500) rfl rfl
                refine tt_gI (pc := 7) rw_152_7 (g_o hG364 rfl) (v := (M200.2.1 77 10)) c_366 (s_pI (pc := 10) rw_152_10 hG364 rfl (fun M369 W368 => ?_))
                have hG370 := g_wf hG364 W368 rfl rfl (by decide)
                have F371 := FR.w F365 W368 (show 77 = 77 ∧ (5 = 4 ∨ 5 = 5 ∨ 7 ≤ 5 ∧ 5 ≤ 10) ∨ 77 = 77 ∧ (5 = 44 ∨ 5 = 52) ∨ 101 ≤ 77 ∧ 77 ≤ 108 by decide)
                refine to_c (pc := 13) rw_152_13 (x := (0 : Int32)) rfl rfl (s_r1 (pc := 14) rw_152_14 (A := 0) rfl (by decide) (s_r1 (pc := 13) rw_162_13 (A := 0) rfl (by decide) (b_ine_f (pc := 196) rw_215_196 (A := 0) rfl (by decide) (to_c (pc := 199) rw_215_199 (x := (0 : Int32)) rfl rfl (s_r1 (pc := 200) rw_215_200 (A := 0) rfl (by decide) ?_)))))
                have k_372 : (0 : Int32).toInt = 0 := rfl
                have c_373 : M369.2.1 77 7 = (M200.2.1 77 7) := (W_n W368 (by decide) (W_n W362 (by decide) rfl))
                have t_374 : (M369.2.1 77 7).toInt = (M200.2.1 77 7).toInt := congrArg Int32.toInt c_373
                have c_375 : M369.2.1 77 6 = (M.2.1 77 6) := (W_n W368 (by decide) (W_n W362 (by decide) c_203))
                have t_376 : (M369.2.1 77 6).toInt = (M.2.1 77 6).toInt := congrArg Int32.toInt c_375
                have c_377 : M369.2.1 77 8 = (M200.2.1 77 8) := (W_n W368 (by decide) (W_n W362 (by decide) rfl))
                have t_378 : (M369.2.1 77 8).toInt = (M200.2.1 77 8).toInt := congrArg Int32.toInt c_377
                exact h (0 : Int32) M369 hG370 F371 (by decide) (by decide) (by omega) (by omega) (by omega) (by omega) (fun z => absurd z (by omega)) (fun z => absurd z (by omega))
            · refine to_an (pc := 100) rw_215_100 rfl (to_c (pc := 101) rw_215_101 (x := (2 : Int32)) rfl rfl (s_v (pc := 102) rw_215_102 (dp0 hd (by decide)) (ls0 := [.ref 77, .int (2 : Int32)]) rfl (Nat.le_of_ble_eq_true rfl) (Nat.le_of_ble_eq_true rfl) rfl (to_rc rfl rfl rfl (g_o hG rfl)) rfl (to_an (pc := 0) rw_152_0 rfl (to_in (pc := 1) rw_152_1 rfl (s_pI (pc := 2) rw_152_2 hG rfl (fun M380 W379 => ?_))))))
              have hG381 := g_wf hG W379 rfl rfl (by decide)
              have F382 := FR.w F0 W379 (show 77 = 77 ∧ (4 = 4 ∨ 4 = 5 ∨ 7 ≤ 4 ∧ 4 ≤ 10) ∨ 77 = 77 ∧ (4 = 44 ∨ 4 = 52) ∨ 101 ≤ 77 ∧ 77 ≤ 108 by decide)
              refine to_an (pc := 5) rw_152_5 rfl (to_an (pc := 6) rw_152_6 rfl ?_)
              have c_383 : M380.2.1 77 10 = (M.2.1 77 10) := (W_n W379 (by decide) rfl)
              have b_384 := g_b hG (a := 77) (i := 10) (lo := 0) (hi := 500) rfl rfl
              refine tt_gI (pc := 7) rw_152_7 (g_o hG381 rfl) (v := (M.2.1 77 10)) c_383 (s_pI (pc := 10) rw_152_10 hG381 rfl (fun M386 W385 => ?_))
              have hG387 := g_wf hG381 W385 rfl rfl (by decide)
              have F388 := FR.w F382 W385 (show 77 = 77 ∧ (5 = 4 ∨ 5 = 5 ∨ 7 ≤ 5 ∧ 5 ≤ 10) ∨ 77 = 77 ∧ (5 = 44 ∨ 5 = 52) ∨ 101 ≤ 77 ∧ 77 ≤ 108 by decide)
              refine to_c (pc := 13) rw_152_13 (x := (0 : Int32)) rfl rfl (s_r1 (pc := 14) rw_152_14 (A := 0) rfl (by decide) (s_r1 (pc := 105) rw_215_105 (A := 0) rfl (by decide) ?_))
              have k_389 : (0 : Int32).toInt = 0 := rfl
              have c_390 : M386.2.1 77 7 = (M.2.1 77 7) := (W_n W385 (by decide) (W_n W379 (by decide) rfl))
              have t_391 : (M386.2.1 77 7).toInt = (M.2.1 77 7).toInt := congrArg Int32.toInt c_390
              have c_392 : M386.2.1 77 6 = (M.2.1 77 6) := (W_n W385 (by decide) (W_n W379 (by decide) rfl))
              have t_393 : (M386.2.1 77 6).toInt = (M.2.1 77 6).toInt := congrArg Int32.toInt c_392
              have c_394 : M386.2.1 77 8 = (M.2.1 77 8) := (W_n W385 (by decide) (W_n W379 (by decide) rfl))
              have t_395 : (M386.2.1 77 8).toInt = (M.2.1 77 8).toInt := congrArg Int32.toInt c_394
              exact h (0 : Int32) M386 hG387 F388 (by decide) (by decide) (by omega) (by omega) (by omega) (by omega) (fun z => absurd z (by omega)) (fun z => absurd z (by omega))
          · refine to_an (pc := 85) rw_215_85 rfl (to_c (pc := 86) rw_215_86 (x := (1 : Int32)) rfl rfl (s_v (pc := 87) rw_215_87 (dp0 hd (by decide)) (ls0 := [.ref 77, .int (1 : Int32)]) rfl (Nat.le_of_ble_eq_true rfl) (Nat.le_of_ble_eq_true rfl) rfl (to_rc rfl rfl rfl (g_o hG rfl)) rfl (to_an (pc := 0) rw_152_0 rfl (to_in (pc := 1) rw_152_1 rfl (s_pI (pc := 2) rw_152_2 hG rfl (fun M397 W396 => ?_))))))
            have hG398 := g_wf hG W396 rfl rfl (by decide)
            have F399 := FR.w F0 W396 (show 77 = 77 ∧ (4 = 4 ∨ 4 = 5 ∨ 7 ≤ 4 ∧ 4 ≤ 10) ∨ 77 = 77 ∧ (4 = 44 ∨ 4 = 52) ∨ 101 ≤ 77 ∧ 77 ≤ 108 by decide)
            refine to_an (pc := 5) rw_152_5 rfl (to_an (pc := 6) rw_152_6 rfl ?_)
            have c_400 : M397.2.1 77 10 = (M.2.1 77 10) := (W_n W396 (by decide) rfl)
            have b_401 := g_b hG (a := 77) (i := 10) (lo := 0) (hi := 500) rfl rfl
            refine tt_gI (pc := 7) rw_152_7 (g_o hG398 rfl) (v := (M.2.1 77 10)) c_400 (s_pI (pc := 10) rw_152_10 hG398 rfl (fun M403 W402 => ?_))
            have hG404 := g_wf hG398 W402 rfl rfl (by decide)
            have F405 := FR.w F399 W402 (show 77 = 77 ∧ (5 = 4 ∨ 5 = 5 ∨ 7 ≤ 5 ∧ 5 ≤ 10) ∨ 77 = 77 ∧ (5 = 44 ∨ 5 = 52) ∨ 101 ≤ 77 ∧ 77 ≤ 108 by decide)
            refine to_c (pc := 13) rw_152_13 (x := (0 : Int32)) rfl rfl (s_r1 (pc := 14) rw_152_14 (A := 0) rfl (by decide) (s_r1 (pc := 90) rw_215_90 (A := 0) rfl (by decide) ?_))
            have k_406 : (0 : Int32).toInt = 0 := rfl
            have c_407 : M403.2.1 77 7 = (M.2.1 77 7) := (W_n W402 (by decide) (W_n W396 (by decide) rfl))
            have t_408 : (M403.2.1 77 7).toInt = (M.2.1 77 7).toInt := congrArg Int32.toInt c_407
            have c_409 : M403.2.1 77 6 = (M.2.1 77 6) := (W_n W402 (by decide) (W_n W396 (by decide) rfl))
            have t_410 : (M403.2.1 77 6).toInt = (M.2.1 77 6).toInt := congrArg Int32.toInt c_409
            have c_411 : M403.2.1 77 8 = (M.2.1 77 8) := (W_n W402 (by decide) (W_n W396 (by decide) rfl))
            have t_412 : (M403.2.1 77 8).toInt = (M.2.1 77 8).toInt := congrArg Int32.toInt c_411
            exact h (0 : Int32) M403 hG404 F405 (by decide) (by decide) (by omega) (by omega) (by omega) (by omega) (fun z => absurd z (by omega)) (fun z => absurd z (by omega))
  · refine to_an (pc := 8) rw_159_8 rfl (tt_gI (pc := 9) rw_159_9 (g_o hG rfl) (v := (M.2.1 77 9)) rfl (to_in (pc := 12) rw_159_12 rfl (b_cne (pc := 13) rw_159_13 (A := (M.2.1 77 9).toInt) (B := 41) rfl rfl (fun h413 => ?_) (fun h413 => ?_))))
    · refine to_c (pc := 20) rw_159_20 (x := (0 : Int32)) rfl rfl (s_r1 (pc := 21) rw_159_21 (A := 0) rfl (by decide) (b_ieq_t (pc := 6) rw_215_6 (A := 0) rfl (by decide) (to_an (pc := 50) rw_215_50 rfl (tt_gI (pc := 51) rw_215_51 (g_o hG rfl) (v := (M.2.1 77 8)) rfl (to_c (pc := 54) rw_215_54 (x := (1 : Int32)) rfl rfl (b_cne_t (pc := 55) rw_215_55 (A := (M.2.1 77 8).toInt) (B := 1) rfl rfl (by omega) (to_an (pc := 85) rw_215_85 rfl (to_c (pc := 86) rw_215_86 (x := (1 : Int32)) rfl rfl (s_v (pc := 87) rw_215_87 (dp0 hd (by decide)) (ls0 := [.ref 77, .int (1 : Int32)]) rfl (Nat.le_of_ble_eq_true rfl) (Nat.le_of_ble_eq_true rfl) rfl (to_rc rfl rfl rfl (g_o hG rfl)) rfl (to_an (pc := 0) rw_152_0 rfl (to_in (pc := 1) rw_152_1 rfl ?_)))))))))))
      refine s_pI (pc := 2) rw_152_2 hG rfl (fun M415 W414 => ?_)
      have hG416 := g_wf hG W414 rfl rfl (by decide)
      have F417 := FR.w F0 W414 (show 77 = 77 ∧ (4 = 4 ∨ 4 = 5 ∨ 7 ≤ 4 ∧ 4 ≤ 10) ∨ 77 = 77 ∧ (4 = 44 ∨ 4 = 52) ∨ 101 ≤ 77 ∧ 77 ≤ 108 by decide)
      refine to_an (pc := 5) rw_152_5 rfl (to_an (pc := 6) rw_152_6 rfl ?_)
      have c_418 : M415.2.1 77 10 = (M.2.1 77 10) := (W_n W414 (by decide) rfl)
      have b_419 := g_b hG (a := 77) (i := 10) (lo := 0) (hi := 500) rfl rfl
      refine tt_gI (pc := 7) rw_152_7 (g_o hG416 rfl) (v := (M.2.1 77 10)) c_418 (s_pI (pc := 10) rw_152_10 hG416 rfl (fun M421 W420 => ?_))
      have hG422 := g_wf hG416 W420 rfl rfl (by decide)
      have F423 := FR.w F417 W420 (show 77 = 77 ∧ (5 = 4 ∨ 5 = 5 ∨ 7 ≤ 5 ∧ 5 ≤ 10) ∨ 77 = 77 ∧ (5 = 44 ∨ 5 = 52) ∨ 101 ≤ 77 ∧ 77 ≤ 108 by decide)
      refine to_c (pc := 13) rw_152_13 (x := (0 : Int32)) rfl rfl (s_r1 (pc := 14) rw_152_14 (A := 0) rfl (by decide) (s_r1 (pc := 90) rw_215_90 (A := 0) rfl (by decide) ?_))
      have k_424 : (0 : Int32).toInt = 0 := rfl
      have c_425 : M421.2.1 77 7 = (M.2.1 77 7) := (W_n W420 (by decide) (W_n W414 (by decide) rfl))
      have t_426 : (M421.2.1 77 7).toInt = (M.2.1 77 7).toInt := congrArg Int32.toInt c_425
      have c_427 : M421.2.1 77 6 = (M.2.1 77 6) := (W_n W420 (by decide) (W_n W414 (by decide) rfl))
      have t_428 : (M421.2.1 77 6).toInt = (M.2.1 77 6).toInt := congrArg Int32.toInt c_427
      have c_429 : M421.2.1 77 8 = (M.2.1 77 8) := (W_n W420 (by decide) (W_n W414 (by decide) rfl))
      have t_430 : (M421.2.1 77 8).toInt = (M.2.1 77 8).toInt := congrArg Int32.toInt c_429
      exact h (0 : Int32) M421 hG422 F423 (by decide) (by decide) (by omega) (by omega) (by omega) (by omega) (fun z => absurd z (by omega)) (fun z => absurd z (by omega))
    · refine to_c (pc := 16) rw_159_16 (x := (1 : Int32)) rfl rfl (to_go (pc := 17) rw_159_17 (s_r1 (pc := 21) rw_159_21 (A := 1) rfl (by decide) (b_ieq_f (pc := 6) rw_215_6 (A := 1) rfl (by decide) (to_an (pc := 9) rw_215_9 rfl ?_))))
      have b_431 := g_b hG (a := 77) (i := 52) (lo := 0) (hi := 5) rfl rfl
      refine tt_gI (pc := 10) rw_215_10 (g_o hG rfl) (v := (M.2.1 77 52)) rfl (b_ile (pc := 13) rw_215_13 (A := (M.2.1 77 52).toInt) rfl (fun h432 => ?_) (fun h432 => ?_))
      · refine to_an (pc := 50) rw_215_50 rfl (tt_gI (pc := 51) rw_215_51 (g_o hG rfl) (v := (M.2.1 77 8)) rfl (to_c (pc := 54) rw_215_54 (x := (1 : Int32)) rfl rfl (b_cne_t (pc := 55) rw_215_55 (A := (M.2.1 77 8).toInt) (B := 1) rfl rfl (by omega) (to_an (pc := 85) rw_215_85 rfl (to_c (pc := 86) rw_215_86 (x := (1 : Int32)) rfl rfl (s_v (pc := 87) rw_215_87 (dp0 hd (by decide)) (ls0 := [.ref 77, .int (1 : Int32)]) rfl (Nat.le_of_ble_eq_true rfl) (Nat.le_of_ble_eq_true rfl) rfl (to_rc rfl rfl rfl (g_o hG rfl)) rfl (to_an (pc := 0) rw_152_0 rfl (to_in (pc := 1) rw_152_1 rfl (s_pI (pc := 2) rw_152_2 hG rfl (fun M434 W433 => ?_))))))))))
        have hG435 := g_wf hG W433 rfl rfl (by decide)
        have F436 := FR.w F0 W433 (show 77 = 77 ∧ (4 = 4 ∨ 4 = 5 ∨ 7 ≤ 4 ∧ 4 ≤ 10) ∨ 77 = 77 ∧ (4 = 44 ∨ 4 = 52) ∨ 101 ≤ 77 ∧ 77 ≤ 108 by decide)
        refine to_an (pc := 5) rw_152_5 rfl (to_an (pc := 6) rw_152_6 rfl ?_)
        have c_437 : M434.2.1 77 10 = (M.2.1 77 10) := (W_n W433 (by decide) rfl)
        have b_438 := g_b hG (a := 77) (i := 10) (lo := 0) (hi := 500) rfl rfl
        refine tt_gI (pc := 7) rw_152_7 (g_o hG435 rfl) (v := (M.2.1 77 10)) c_437 (s_pI (pc := 10) rw_152_10 hG435 rfl (fun M440 W439 => ?_))
        have hG441 := g_wf hG435 W439 rfl rfl (by decide)
        have F442 := FR.w F436 W439 (show 77 = 77 ∧ (5 = 4 ∨ 5 = 5 ∨ 7 ≤ 5 ∧ 5 ≤ 10) ∨ 77 = 77 ∧ (5 = 44 ∨ 5 = 52) ∨ 101 ≤ 77 ∧ 77 ≤ 108 by decide)
        refine to_c (pc := 13) rw_152_13 (x := (0 : Int32)) rfl rfl (s_r1 (pc := 14) rw_152_14 (A := 0) rfl (by decide) (s_r1 (pc := 90) rw_215_90 (A := 0) rfl (by decide) ?_))
        have k_443 : (0 : Int32).toInt = 0 := rfl
        have c_444 : M440.2.1 77 7 = (M.2.1 77 7) := (W_n W439 (by decide) (W_n W433 (by decide) rfl))
        have t_445 : (M440.2.1 77 7).toInt = (M.2.1 77 7).toInt := congrArg Int32.toInt c_444
        have c_446 : M440.2.1 77 6 = (M.2.1 77 6) := (W_n W439 (by decide) (W_n W433 (by decide) rfl))
        have t_447 : (M440.2.1 77 6).toInt = (M.2.1 77 6).toInt := congrArg Int32.toInt c_446
        have c_448 : M440.2.1 77 8 = (M.2.1 77 8) := (W_n W439 (by decide) (W_n W433 (by decide) rfl))
        have t_449 : (M440.2.1 77 8).toInt = (M.2.1 77 8).toInt := congrArg Int32.toInt c_448
        exact h (0 : Int32) M440 hG441 F442 (by decide) (by decide) (by omega) (by omega) (by omega) (by omega) (fun z => absurd z (by omega)) (fun z => absurd z (by omega))
      · refine to_an (pc := 16) rw_215_16 rfl (to_dupr (pc := 17) rw_215_17 (tt_gI (pc := 18) rw_215_18 (g_o hG rfl) (v := (M.2.1 77 52)) rfl (to_c (pc := 21) rw_215_21 (x := (1 : Int32)) rfl rfl (s_sub (pc := 22) rw_215_22 (A := (M.2.1 77 52).toInt) (B := 1) rfl rfl (by omega) (fun v450 e451 => s_pI (pc := 23) rw_215_23 hG rfl (fun M453 W452 => ?_))))))
        have hG454 := g_w hG W452 (A := v450.toInt) rfl (lo := 0) (hi := 5) rfl rfl (by omega) (by decide)
        have F455 := FR.w F0 W452 (show 77 = 77 ∧ (52 = 4 ∨ 52 = 5 ∨ 7 ≤ 52 ∧ 52 ≤ 10) ∨ 77 = 77 ∧ (52 = 44 ∨ 52 = 52) ∨ 101 ≤ 77 ∧ 77 ≤ 108 by decide)
        refine to_an (pc := 26) rw_215_26 rfl (s_gR (pc := 27) rw_215_27 hG454 rfl (v := 105) rfl (to_an (pc := 30) rw_215_30 rfl (s_gR (pc := 31) rw_215_31 hG454 rfl (v := 108) rfl (to_an (pc := 34) rw_215_34 rfl ?_))))
        have c_456 : M453.2.1 77 52 = v450 := (W_e W452)
        refine tt_gI (pc := 35) rw_215_35 (g_o hG454 rfl) (v := v450) c_456 (s_ial (pc := 38) rw_215_38 hG454 rfl (n := 5) rfl rfl (A := v450.toInt) rfl (by omega) (by omega) (lo := 0) (hi := 39) rfl rfl (fun v457 w_458 _ _ => ?_))
        have t_459 := congrArg Int32.toInt w_458
        refine to_an (pc := 39) rw_215_39 rfl ?_
        have c_460 : M453.2.1 77 44 = (M.2.1 77 44) := (W_n W452 (by decide) rfl)
        have b_461 := g_b hG (a := 77) (i := 44) (lo := 0) (hi := 40) rfl rfl
        refine tt_gI (pc := 40) rw_215_40 (g_o hG454 rfl) (v := (M.2.1 77 44)) c_460 (s_ias (pc := 43) rw_215_43 hG454 rfl (n := 40) rfl (A := v457.toInt) rfl (by omega) (by omega) (fun M463 W462 => ?_))
        have hG464 := g_w hG454 W462 (A := (M.2.1 77 44).toInt) rfl (lo := 0) (hi := 40) rfl rfl (by omega) (by decide)
        have F465 := FR.w F455 W462 (show 105 = 77 ∧ ((v457.toInt).toNat = 4 ∨ (v457.toInt).toNat = 5 ∨ 7 ≤ (v457.toInt).toNat ∧ (v457.toInt).toNat ≤ 10) ∨ 105 = 77 ∧ ((v457.toInt).toNat = 44 ∨ (v457.toInt).toNat = 52) ∨ 101 ≤ 105 ∧ 105 ≤ 108 by omega)
        refine to_an (pc := 44) rw_215_44 rfl (s_v (pc := 45) rw_215_45 (dp0 hd (by decide)) (ls0 := [.ref 77]) rfl (Nat.le_of_ble_eq_true rfl) (Nat.le_of_ble_eq_true rfl) rfl (to_rc rfl rfl rfl (g_o hG464 rfl)) rfl ?_)
        have c_466 : M463.2.1 77 7 = (M.2.1 77 7) := (W_n W462 (fun z => absurd z.1 (by decide)) (W_n W452 (by decide) rfl))
        have t_467 : (M463.2.1 77 7).toInt = (M.2.1 77 7).toInt := congrArg Int32.toInt c_466
        have c_468 : M463.2.1 77 6 = (M.2.1 77 6) := (W_n W462 (fun z => absurd z.1 (by decide)) (W_n W452 (by decide) rfl))
        have t_469 : (M463.2.1 77 6).toInt = (M.2.1 77 6).toInt := congrArg Int32.toInt c_468
        refine C_156 hX (dp1 hd (by decide)) hG464 (by omega)  (fun M475 hG471 F470 p_472 p_473 p_474 => ?_)
        have F476 := FR.c F465 F470 tg_276
        have b_477 := g_b hG471 (a := 77) (i := 7) (lo := 0) (hi := 500) rfl rfl
        have c_478 : M475.2.1 77 6 = (M.2.1 77 6) := (F_n F470 (show ¬ (77 = 77 ∧ 7 ≤ 6 ∧ 6 ≤ 10) by decide) c_468)
        have t_479 : (M475.2.1 77 6).toInt = (M.2.1 77 6).toInt := congrArg Int32.toInt c_478
        have b_480 := g_b hG471 (a := 77) (i := 8) (lo := 0) (hi := 5) rfl rfl
        refine to_c (pc := 48) rw_215_48 (x := (1 : Int32)) rfl rfl (s_r1 (pc := 49) rw_215_49 (A := 1) rfl (by decide) ?_)
        have k_481 : (1 : Int32).toInt = 1 := rfl
        have c_482 : M475.2.1 77 44 = (M.2.1 77 44) := (F_n F470 (show ¬ (77 = 77 ∧ 7 ≤ 44 ∧ 44 ≤ 10) by decide) (W_n W462 (fun z => absurd z.1 (by decide)) c_460))
        have t_483 : (M475.2.1 77 44).toInt = (M.2.1 77 44).toInt := congrArg Int32.toInt c_482
        have c_484 : M475.2.1 77 52 = v450 := (F_n F470 (show ¬ (77 = 77 ∧ 7 ≤ 52 ∧ 52 ≤ 10) by decide) (W_n W462 (fun z => absurd z.1 (by decide)) c_456))
        have t_485 : (M475.2.1 77 52).toInt = v450.toInt := congrArg Int32.toInt c_484
        have j_488 : M.2.1 108 (v450.toInt).toNat = v457 := (W_n W452 (by omega) rfl).symm.trans w_458
        exact h (1 : Int32) M475 hG471 F476 (by decide) (by decide) (by omega) (by omega) (by omega) (by omega) (fun _ => AB_f (fun a i z => (F_n F470 (show ¬ (a = 77 ∧ 7 ≤ i ∧ i ≤ 10) by omega) (W_n W462 (by /-r105-/ omega) (W_n W452 (by /-r77,52-/ omega) rfl)))) q2) (fun _ => ST_close (M1 := M475) (k := (v450.toInt).toNat) q3 (by omega) (by omega) (by omega) (fun i => (F_n F470 (show ¬ (101 = 77 ∧ 7 ≤ i ∧ i ≤ 10) by omega) (W_n W462 (by omega) (W_n W452 (by omega) rfl)))) (fun i => (F_n F470 (show ¬ (108 = 77 ∧ 7 ≤ i ∧ i ≤ 10) by omega) (W_n W462 (by omega) (W_n W452 (by omega) rfl)))) (fun i z => by rw [j_488] at z; exact (F_n F470 (show ¬ (105 = 77 ∧ 7 ≤ i ∧ i ≤ 10) by omega) (W_n W462 (by omega) (W_n W452 (by omega) rfl)))) (by rw [j_488, (F_n F470 (show ¬ (105 = 77 ∧ 7 ≤ ((v457.toInt).toNat) ∧ ((v457.toInt).toNat) ≤ 10) by omega) (W_e W462))] <;> omega))
