section
theorem tg_270 : ∀ a i : Nat, (a < 0) → (a = 77 ∧ (i = 4 ∨ i = 5 ∨ 7 ≤ i ∧ i ≤ 10) ∨ a = 106 ∨ a = 107) := fun a i z => by omega
theorem tg_271 : ∀ a i : Nat, (a = 77 ∧ 7 ≤ i ∧ i ≤ 10) → (a = 77 ∧ (i = 4 ∨ i = 5 ∨ 7 ≤ i ∧ i ≤ 10) ∨ a = 106 ∨ a = 107) := fun a i z => by omega
theorem tg_272 : ∀ a i : Nat, (a = 77 ∧ (i = 4 ∨ i = 5 ∨ 7 ≤ i ∧ i ≤ 10) ∨ a = 106 ∨ a = 107) → (a = 77 ∧ (i = 4 ∨ i = 5 ∨ 7 ≤ i ∧ i ≤ 10) ∨ 102 ≤ a ∧ a ≤ 104 ∨ a = 106 ∨ a = 107) := fun a i z => by omega
theorem tg_273 : ∀ a i : Nat, (a = 77 ∧ (i = 4 ∨ i = 5 ∨ 7 ≤ i ∧ i ≤ 10)) → (a = 77 ∧ (i = 4 ∨ i = 5 ∨ 7 ≤ i ∧ i ≤ 10) ∨ 102 ≤ a ∧ a ≤ 104 ∨ a = 106 ∨ a = 107) := fun a i z => by omega
theorem tg_274 : ∀ a i : Nat, (a = 77 ∧ (i = 4 ∨ i = 5)) → (a = 77 ∧ (i = 4 ∨ i = 5 ∨ 7 ≤ i ∧ i ≤ 10) ∨ 102 ≤ a ∧ a ≤ 104 ∨ a = 106 ∨ a = 107) := fun a i z => by omega
theorem tg_275 : ∀ a i : Nat, (a = 77 ∧ 7 ≤ i ∧ i ≤ 10) → (a = 77 ∧ (i = 4 ∨ i = 5 ∨ 7 ≤ i ∧ i ≤ 10) ∨ 102 ≤ a ∧ a ≤ 104 ∨ a = 106 ∨ a = 107) := fun a i z => by omega
theorem tg_276 : ∀ a i : Nat, (a = 77 ∧ 7 ≤ i ∧ i ≤ 10) → (a = 77 ∧ (i = 4 ∨ i = 5 ∨ 7 ≤ i ∧ i ≤ 10) ∨ a = 77 ∧ (i = 44 ∨ i = 52) ∨ 101 ≤ a ∧ a ≤ 108) := fun a i z => by omega
theorem tg_277 : ∀ a i : Nat, (a = 77 ∧ (i = 4 ∨ i = 5 ∨ 7 ≤ i ∧ i ≤ 10) ∨ 102 ≤ a ∧ a ≤ 104 ∨ a = 106 ∨ a = 107) → (a = 77 ∧ (i = 4 ∨ i = 5 ∨ 7 ≤ i ∧ i ≤ 10) ∨ a = 77 ∧ (i = 44 ∨ i = 52) ∨ 101 ≤ a ∧ a ≤ 108) := fun a i z => by omega
set_option maxRecDepth 4000 in
set_option maxHeartbeats 0 in
theorem C_211 {X : mm_X} {d : Nat} {M : mm_M} {Q : Option Value → mm_M → Prop} (hX : g_X X) (hd : 1 ≤ d) (hG : g_G M) (h : ∀ (r : Int32) (M1 : mm_M), g_G M1 → FR md_wr2 M M1 → (-1 ≤ r.toInt) → (r.toInt ≤ 5) → (0 ≤ r.toInt → (M.2.1 77 8).toInt = 2) → Q (some (.int r)) M1) : mm_T X d 210 0 [.ref 77, .null, .null] [] M Q := by
  have F0 : FR md_wr2 M M := FR.rf
  refine to_an (pc := 0) rw_211_0 rfl ?_
  have b_1 := g_b hG (a := 77) (i := 8) (lo := 0) (hi := 5) rfl rfl
  refine tt_gI (pc := 1) rw_211_1 (g_o hG rfl) (v := (M.2.1 77 8)) rfl (to_c (pc := 4) rw_211_4 (x := (2 : Int32)) rfl rfl (b_cne (pc := 5) rw_211_5 (A := (M.2.1 77 8).toInt) (B := 2) rfl rfl (fun h2 => ?_) (fun h2 => ?_)))
  · refine to_c (pc := 31) rw_211_31 (x := (-1 : Int32)) rfl rfl (to_isn (pc := 32) rw_211_32 (ls2 := [.ref 77, .int (-1 : Int32), .null]) rfl rfl (to_in (pc := 33) rw_211_33 rfl (b_ilt_t (pc := 34) rw_211_34 (A := -1) rfl (by decide) (to_an (pc := 42) rw_211_42 rfl (to_c (pc := 43) rw_211_43 (x := (1 : Int32)) rfl rfl (s_v (pc := 44) rw_211_44 (dp0 hd (by decide)) (ls0 := [.ref 77, .int (1 : Int32)]) rfl (Nat.le_of_ble_eq_true rfl) (Nat.le_of_ble_eq_true rfl) rfl (to_rc rfl rfl rfl (g_o hG rfl)) rfl (to_an (pc := 0) rw_152_0 rfl (to_in (pc := 1) rw_152_1 rfl (s_pI (pc := 2) rw_152_2 hG rfl (fun M4 W3 => ?_))))))))))
    have hG5 := g_wf hG W3 rfl rfl (by decide)
    have F6 := FR.w F0 W3 (show 77 = 77 ∧ (4 = 4 ∨ 4 = 5) by decide)
    refine to_an (pc := 5) rw_152_5 rfl (to_an (pc := 6) rw_152_6 rfl ?_)
    have c_7 : M4.2.1 77 10 = (M.2.1 77 10) := (W_n W3 (by decide) rfl)
    have b_8 := g_b hG (a := 77) (i := 10) (lo := 0) (hi := 500) rfl rfl
    refine tt_gI (pc := 7) rw_152_7 (g_o hG5 rfl) (v := (M.2.1 77 10)) c_7 (s_pI (pc := 10) rw_152_10 hG5 rfl (fun M10 W9 => ?_))
    have hG11 := g_wf hG5 W9 rfl rfl (by decide)
    have F12 := FR.w F6 W9 (show 77 = 77 ∧ (5 = 4 ∨ 5 = 5) by decide)
    refine to_c (pc := 13) rw_152_13 (x := (0 : Int32)) rfl rfl (s_r1 (pc := 14) rw_152_14 (A := 0) rfl (by decide) (to_isn (pc := 47) rw_211_47 (ls2 := [.ref 77, .int (-1 : Int32), .int (0 : Int32)]) rfl rfl (to_c (pc := 48) rw_211_48 (x := (-1 : Int32)) rfl rfl (to_r0 (pc := 49) rw_211_49 ?_))))
    have k_13 : (-1 : Int32).toInt = -1 := rfl
    exact h (-1 : Int32) M10 hG11 F12 (by omega) (by omega) (by omega)
  · refine to_an (pc := 8) rw_211_8 rfl (tt_gI (pc := 9) rw_211_9 (g_o hG rfl) (v := (M.2.1 77 9)) rfl (to_c (pc := 12) rw_211_12 (x := (33554431 : Int32)) rfl rfl (s_and (pc := 15) rw_211_15 (B := 33554431) rfl (by omega) (fun v14 e15 _ _ => b_ine (pc := 16) rw_211_16 (A := v14.toInt) rfl (fun h16 => ?_) (fun h16 => ?_)))))
    · refine to_c (pc := 31) rw_211_31 (x := (-1 : Int32)) rfl rfl (to_isn (pc := 32) rw_211_32 (ls2 := [.ref 77, .int (-1 : Int32), .null]) rfl rfl (to_in (pc := 33) rw_211_33 rfl (b_ilt_t (pc := 34) rw_211_34 (A := -1) rfl (by decide) (to_an (pc := 42) rw_211_42 rfl (to_c (pc := 43) rw_211_43 (x := (1 : Int32)) rfl rfl (s_v (pc := 44) rw_211_44 (dp0 hd (by decide)) (ls0 := [.ref 77, .int (1 : Int32)]) rfl (Nat.le_of_ble_eq_true rfl) (Nat.le_of_ble_eq_true rfl) rfl (to_rc rfl rfl rfl (g_o hG rfl)) rfl (to_an (pc := 0) rw_152_0 rfl (to_in (pc := 1) rw_152_1 rfl (s_pI (pc := 2) rw_152_2 hG rfl (fun M18 W17 => ?_))))))))))
      have hG19 := g_wf hG W17 rfl rfl (by decide)
      have F20 := FR.w F0 W17 (show 77 = 77 ∧ (4 = 4 ∨ 4 = 5) by decide)
      refine to_an (pc := 5) rw_152_5 rfl (to_an (pc := 6) rw_152_6 rfl ?_)
      have c_21 : M18.2.1 77 10 = (M.2.1 77 10) := (W_n W17 (by decide) rfl)
      have b_22 := g_b hG (a := 77) (i := 10) (lo := 0) (hi := 500) rfl rfl
      refine tt_gI (pc := 7) rw_152_7 (g_o hG19 rfl) (v := (M.2.1 77 10)) c_21 (s_pI (pc := 10) rw_152_10 hG19 rfl (fun M24 W23 => ?_))
      have hG25 := g_wf hG19 W23 rfl rfl (by decide)
      have F26 := FR.w F20 W23 (show 77 = 77 ∧ (5 = 4 ∨ 5 = 5) by decide)
      refine to_c (pc := 13) rw_152_13 (x := (0 : Int32)) rfl rfl (s_r1 (pc := 14) rw_152_14 (A := 0) rfl (by decide) (to_isn (pc := 47) rw_211_47 (ls2 := [.ref 77, .int (-1 : Int32), .int (0 : Int32)]) rfl rfl (to_c (pc := 48) rw_211_48 (x := (-1 : Int32)) rfl rfl (to_r0 (pc := 49) rw_211_49 ?_))))
      have k_27 : (-1 : Int32).toInt = -1 := rfl
      exact h (-1 : Int32) M24 hG25 F26 (by omega) (by omega) (by omega)
    · refine to_an (pc := 19) rw_211_19 rfl (tt_gI (pc := 20) rw_211_20 (g_o hG rfl) (v := (M.2.1 77 9)) rfl (to_c (pc := 23) rw_211_23 (x := (25 : Int32)) rfl rfl (s_any (pc := 25) rw_211_25 (fun _ _ => rfl) (fun v28 => to_c (pc := 26) rw_211_26 (x := (1 : Int32)) rfl rfl (s_any (pc := 27) rw_211_27 (fun _ _ => rfl) (fun v29 => to_go (pc := 28) rw_211_28 (to_isn (pc := 32) rw_211_32 (ls2 := [.ref 77, .int v29, .null]) rfl rfl (to_in (pc := 33) rw_211_33 rfl (b_ilt (pc := 34) rw_211_34 (A := v29.toInt) rfl (fun h30 => ?_) (fun h30 => ?_))))))))))
      · refine to_an (pc := 42) rw_211_42 rfl (to_c (pc := 43) rw_211_43 (x := (1 : Int32)) rfl rfl (s_v (pc := 44) rw_211_44 (dp0 hd (by decide)) (ls0 := [.ref 77, .int (1 : Int32)]) rfl (Nat.le_of_ble_eq_true rfl) (Nat.le_of_ble_eq_true rfl) rfl (to_rc rfl rfl rfl (g_o hG rfl)) rfl (to_an (pc := 0) rw_152_0 rfl (to_in (pc := 1) rw_152_1 rfl (s_pI (pc := 2) rw_152_2 hG rfl (fun M32 W31 => ?_))))))
        have hG33 := g_wf hG W31 rfl rfl (by decide)
        have F34 := FR.w F0 W31 (show 77 = 77 ∧ (4 = 4 ∨ 4 = 5) by decide)
        refine to_an (pc := 5) rw_152_5 rfl (to_an (pc := 6) rw_152_6 rfl ?_)
        have c_35 : M32.2.1 77 10 = (M.2.1 77 10) := (W_n W31 (by decide) rfl)
        have b_36 := g_b hG (a := 77) (i := 10) (lo := 0) (hi := 500) rfl rfl
        refine tt_gI (pc := 7) rw_152_7 (g_o hG33 rfl) (v := (M.2.1 77 10)) c_35 (s_pI (pc := 10) rw_152_10 hG33 rfl (fun M38 W37 => ?_))
        have hG39 := g_wf hG33 W37 rfl rfl (by decide)
        have F40 := FR.w F34 W37 (show 77 = 77 ∧ (5 = 4 ∨ 5 = 5) by decide)
        refine to_c (pc := 13) rw_152_13 (x := (0 : Int32)) rfl rfl (s_r1 (pc := 14) rw_152_14 (A := 0) rfl (by decide) (to_isn (pc := 47) rw_211_47 (ls2 := [.ref 77, .int v29, .int (0 : Int32)]) rfl rfl (to_c (pc := 48) rw_211_48 (x := (-1 : Int32)) rfl rfl (to_r0 (pc := 49) rw_211_49 ?_))))
        have k_41 : (-1 : Int32).toInt = -1 := rfl
        exact h (-1 : Int32) M38 hG39 F40 (by omega) (by omega) (by omega)
      · refine to_in (pc := 37) rw_211_37 rfl (to_c (pc := 38) rw_211_38 (x := (5 : Int32)) rfl rfl (b_cle (pc := 39) rw_211_39 (A := v29.toInt) (B := 5) rfl rfl (fun h42 => ?_) (fun h42 => ?_)))
        · refine to_in (pc := 50) rw_211_50 rfl (to_r0 (pc := 51) rw_211_51 ?_)
          exact h v29 M hG F0 (by omega) (by omega) (by omega)
        · refine to_an (pc := 42) rw_211_42 rfl (to_c (pc := 43) rw_211_43 (x := (1 : Int32)) rfl rfl (s_v (pc := 44) rw_211_44 (dp0 hd (by decide)) (ls0 := [.ref 77, .int (1 : Int32)]) rfl (Nat.le_of_ble_eq_true rfl) (Nat.le_of_ble_eq_true rfl) rfl (to_rc rfl rfl rfl (g_o hG rfl)) rfl (to_an (pc := 0) rw_152_0 rfl (to_in (pc := 1) rw_152_1 rfl (s_pI (pc := 2) rw_152_2 hG rfl (fun M44 W43 => ?_))))))
          have hG45 := g_wf hG W43 rfl rfl (by decide)
          have F46 := FR.w F0 W43 (show 77 = 77 ∧ (4 = 4 ∨ 4 = 5) by decide)
          refine to_an (pc := 5) rw_152_5 rfl (to_an (pc := 6) rw_152_6 rfl ?_)
          have c_47 : M44.2.1 77 10 = (M.2.1 77 10) := (W_n W43 (by decide) rfl)
          have b_48 := g_b hG (a := 77) (i := 10) (lo := 0) (hi := 500) rfl rfl
          refine tt_gI (pc := 7) rw_152_7 (g_o hG45 rfl) (v := (M.2.1 77 10)) c_47 (s_pI (pc := 10) rw_152_10 hG45 rfl (fun M50 W49 => ?_))
          have hG51 := g_wf hG45 W49 rfl rfl (by decide)
          have F52 := FR.w F46 W49 (show 77 = 77 ∧ (5 = 4 ∨ 5 = 5) by decide)
          refine to_c (pc := 13) rw_152_13 (x := (0 : Int32)) rfl rfl (s_r1 (pc := 14) rw_152_14 (A := 0) rfl (by decide) (to_isn (pc := 47) rw_211_47 (ls2 := [.ref 77, .int v29, .int (0 : Int32)]) rfl rfl (to_c (pc := 48) rw_211_48 (x := (-1 : Int32)) rfl rfl (to_r0 (pc := 49) rw_211_49 ?_))))
          have k_53 : (-1 : Int32).toInt = -1 := rfl
          exact h (-1 : Int32) M50 hG51 F52 (by omega) (by omega) (by omega)
set_option maxRecDepth 4000 in
set_option maxHeartbeats 0 in
theorem C_212 {X : mm_X} {d : Nat} {M : mm_M} {Q : Option Value → mm_M → Prop} {a : Int32} (hX : g_X X) (hd : 2 ≤ d) (hG : g_G M) (q1 : 0 ≤ a.toInt) (q2 : a.toInt ≤ 39) (q3 : (M.2.1 77 7).toInt ≤ (M.2.1 77 6).toInt) (h : ∀ (r : Int32) (M1 : mm_M), g_G M1 → FR md_ho M M1 → (0 ≤ r.toInt) → (r.toInt ≤ 1) → ((M1.2.1 77 7).toInt ≤ (M1.2.1 77 6).toInt) → ((M.2.1 77 7).toInt ≤ (M1.2.1 77 7).toInt) → (r.toInt = 1 → (M1.2.1 77 8).toInt = 0 ∨ (M.2.1 77 7).toInt < (M1.2.1 77 7).toInt) → Q (some (.int r)) M1) : mm_T X d 211 0 [.ref 77, .int a, .null, .null] [] M Q := by
  have F0 : FR md_ho M M := FR.rf
  have b_1 := g_b hG (a := 77) (i := 7) (lo := 0) (hi := 500) rfl rfl
  have b_2 := g_b hG (a := 77) (i := 6) (lo := 0) (hi := 500) rfl rfl
  refine to_an (pc := 0) rw_212_0 rfl ?_
  have b_3 := g_b hG (a := 77) (i := 8) (lo := 0) (hi := 5) rfl rfl
  refine tt_gI (pc := 1) rw_212_1 (g_o hG rfl) (v := (M.2.1 77 8)) rfl (to_c (pc := 4) rw_212_4 (x := (3 : Int32)) rfl rfl (b_cne (pc := 5) rw_212_5 (A := (M.2.1 77 8).toInt) (B := 3) rfl rfl (fun h4 => ?_) (fun h4 => ?_)))
  · refine to_an (pc := 45) rw_212_45 rfl (to_an (pc := 46) rw_212_46 rfl (tt_gI (pc := 47) rw_212_47 (g_o hG rfl) (v := (M.2.1 77 9)) rfl (s_v (pc := 50) rw_212_50 (dp0 hd (by decide)) (ls0 := [.ref 77, .int (M.2.1 77 9), .null]) rfl (Nat.le_of_ble_eq_true rfl) (Nat.le_of_ble_eq_true rfl) rfl (to_rc rfl rfl rfl (g_o hG rfl)) rfl ?_)))
    have b_5 := g_b hG (a := 77) (i := 12) (lo := 0) (hi := 8) rfl rfl
    refine C_175 hX (dp1 hd (by decide)) hG (n := (M.2.1 77 9)) (fun r6 M12 hG8 F7 p_9 p_10 p_11 => ?_)
    have F13 := FR.c F0 F7 tg_270
    refine to_isn (pc := 53) rw_212_53 (ls2 := [.ref 77, .int a, .int r6, .null]) rfl rfl (to_an (pc := 54) rw_212_54 rfl (to_an (pc := 55) rw_212_55 rfl ?_))
    have c_14 : M12.2.1 77 9 = (M.2.1 77 9) := (F_n F7 (show ¬ (77 < 0) by decide) rfl)
    refine tt_gI (pc := 56) rw_212_56 (g_o hG8 rfl) (v := (M.2.1 77 9)) c_14 (s_v (pc := 59) rw_212_59 (dp0 hd (by decide)) (ls0 := [.ref 77, .int (M.2.1 77 9), .null]) rfl (Nat.le_of_ble_eq_true rfl) (Nat.le_of_ble_eq_true rfl) rfl (to_rc rfl rfl rfl (g_o hG8 rfl)) rfl ?_)
    have c_15 : M12.2.1 77 13 = (M.2.1 77 13) := (F_n F7 (show ¬ (77 < 0) by decide) rfl)
    have b_16 := g_b hG (a := 77) (i := 13) (lo := 0) (hi := 12) rfl rfl
    have t_17 : (M12.2.1 77 13).toInt = (M.2.1 77 13).toInt := congrArg Int32.toInt c_15
    refine C_176 hX (dp1 hd (by decide)) hG8 (n := (M.2.1 77 9)) (fun r18 M24 hG20 F19 p_21 p_22 p_23 => ?_)
    have F25 := FR.c F13 F19 tg_270
    refine to_isn (pc := 62) rw_212_62 (ls2 := [.ref 77, .int a, .int r6, .int r18]) rfl rfl (to_in (pc := 63) rw_212_63 rfl (b_ige (pc := 64) rw_212_64 (A := r6.toInt) rfl (fun h26 => ?_) (fun h26 => ?_)))
    · refine to_an (pc := 77) rw_212_77 rfl (s_v (pc := 78) rw_212_78 (dp0 hd (by decide)) (ls0 := [.ref 77]) rfl (Nat.le_of_ble_eq_true rfl) (Nat.le_of_ble_eq_true rfl) rfl (to_rc rfl rfl rfl (g_o hG20 rfl)) rfl ?_)
      have c_27 : M24.2.1 77 7 = (M.2.1 77 7) := (F_n F19 (show ¬ (77 < 0) by decide) (F_n F7 (show ¬ (77 < 0) by decide) rfl))
      have t_28 : (M24.2.1 77 7).toInt = (M.2.1 77 7).toInt := congrArg Int32.toInt c_27
      have c_29 : M24.2.1 77 6 = (M.2.1 77 6) := (F_n F19 (show ¬ (77 < 0) by decide) (F_n F7 (show ¬ (77 < 0) by decide) rfl))
      have t_30 : (M24.2.1 77 6).toInt = (M.2.1 77 6).toInt := congrArg Int32.toInt c_29
      refine C_156 hX (dp1 hd (by decide)) hG20 (by omega)  (fun M36 hG32 F31 p_33 p_34 p_35 => ?_)
      have F37 := FR.c F25 F31 tg_271
      have b_38 := g_b hG32 (a := 77) (i := 7) (lo := 0) (hi := 500) rfl rfl
      have c_39 : M36.2.1 77 6 = (M.2.1 77 6) := (F_n F31 (show ¬ (77 = 77 ∧ 7 ≤ 6 ∧ 6 ≤ 10) by decide) c_29)
      have t_40 : (M36.2.1 77 6).toInt = (M.2.1 77 6).toInt := congrArg Int32.toInt c_39
      have b_41 := g_b hG32 (a := 77) (i := 8) (lo := 0) (hi := 5) rfl rfl
      refine to_in (pc := 81) rw_212_81 rfl (b_ilt (pc := 82) rw_212_82 (A := r18.toInt) rfl (fun h42 => ?_) (fun h42 => ?_))
      · refine to_an (pc := 99) rw_212_99 rfl (to_c (pc := 100) rw_212_100 (x := (0 : Int32)) rfl rfl (to_an (pc := 101) rw_212_101 rfl (s_gR (pc := 102) rw_212_102 hG32 rfl (v := 83) rfl (to_in (pc := 105) rw_212_105 rfl (s_ial (pc := 106) rw_212_106 hG32 rfl (n := 16) rfl rfl (A := r6.toInt) rfl (by omega) (by omega) (lo := 0) (hi := 63) rfl rfl (fun v43 w_44 _ _ => to_an (pc := 107) rw_212_107 rfl (s_gR (pc := 108) rw_212_108 hG32 rfl (v := 82) rfl (to_in (pc := 111) rw_212_111 rfl (s_ial (pc := 112) rw_212_112 hG32 rfl (n := 16) rfl rfl (A := r6.toInt) rfl (by omega) (by omega) (lo := 0) (hi := 59) rfl rfl (fun v45 w_46 _ _ => s_sub (pc := 113) rw_212_113 (A := v43.toInt) (B := v45.toInt) rfl rfl (by omega) (fun v47 e48 => s_v (pc := 114) rw_212_114 (dp0 hd (by decide)) (ls0 := [.ref 77, .int (0 : Int32), .int v47]) rfl (Nat.le_of_ble_eq_true rfl) (Nat.le_of_ble_eq_true rfl) rfl (to_rc rfl rfl rfl (g_o hG32 rfl)) rfl ?_)))))))))))
        refine to_an (pc := 0) rw_162_0 rfl (tt_gI (pc := 1) rw_162_1 (g_o hG32 rfl) (v := (M36.2.1 77 8)) rfl (to_c (pc := 4) rw_162_4 (x := (3 : Int32)) rfl rfl (b_ceq (pc := 5) rw_162_5 (A := (M36.2.1 77 8).toInt) (B := 3) rfl rfl (fun h49 => ?_) (fun h49 => ?_))))
        · refine to_an (pc := 14) rw_162_14 rfl (tt_gI (pc := 15) rw_162_15 (g_o hG32 rfl) (v := (M36.2.1 77 9)) rfl (to_in (pc := 18) rw_162_18 rfl (b_clt (pc := 19) rw_162_19 (A := (M36.2.1 77 9).toInt) (B := 0) rfl rfl (fun h50 => ?_) (fun h50 => ?_))))
          · refine to_an (pc := 30) rw_162_30 rfl (to_c (pc := 31) rw_162_31 (x := (2 : Int32)) rfl rfl (s_v (pc := 32) rw_162_32 (dp1 hd (by decide)) (ls0 := [.ref 77, .int (2 : Int32)]) rfl (Nat.le_of_ble_eq_true rfl) (Nat.le_of_ble_eq_true rfl) rfl (to_rc rfl rfl rfl (g_o hG32 rfl)) rfl (to_an (pc := 0) rw_152_0 rfl (to_in (pc := 1) rw_152_1 rfl (s_pI (pc := 2) rw_152_2 hG32 rfl (fun M52 W51 => ?_))))))
            have hG53 := g_wf hG32 W51 rfl rfl (by decide)
            have F54 := FR.w F37 W51 (show 77 = 77 ∧ (4 = 4 ∨ 4 = 5 ∨ 7 ≤ 4 ∧ 4 ≤ 10) ∨ 77 = 106 ∨ 77 = 107 by decide)
            refine to_an (pc := 5) rw_152_5 rfl (to_an (pc := 6) rw_152_6 rfl ?_)
            have c_55 : M52.2.1 77 10 = (M36.2.1 77 10) := (W_n W51 (by decide) rfl)
            have b_56 := g_b hG32 (a := 77) (i := 10) (lo := 0) (hi := 500) rfl rfl
            refine tt_gI (pc := 7) rw_152_7 (g_o hG53 rfl) (v := (M36.2.1 77 10)) c_55 (s_pI (pc := 10) rw_152_10 hG53 rfl (fun M58 W57 => ?_))
            have hG59 := g_wf hG53 W57 rfl rfl (by decide)
            have F60 := FR.w F54 W57 (show 77 = 77 ∧ (5 = 4 ∨ 5 = 5 ∨ 7 ≤ 5 ∧ 5 ≤ 10) ∨ 77 = 106 ∨ 77 = 107 by decide)
            refine to_c (pc := 13) rw_152_13 (x := (0 : Int32)) rfl rfl (s_r1 (pc := 14) rw_152_14 (A := 0) rfl (by decide) (b_ieq_t (pc := 35) rw_162_35 (A := 0) rfl (by decide) (to_c (pc := 42) rw_162_42 (x := (0 : Int32)) rfl rfl (s_r1 (pc := 43) rw_162_43 (A := 0) rfl (by decide) (b_ine_f (pc := 117) rw_212_117 (A := 0) rfl (by decide) (to_c (pc := 120) rw_212_120 (x := (0 : Int32)) rfl rfl (s_r1 (pc := 121) rw_212_121 (A := 0) rfl (by decide) ?_)))))))
            have k_61 : (0 : Int32).toInt = 0 := rfl
            have c_62 : M58.2.1 77 7 = (M36.2.1 77 7) := (W_n W57 (by decide) (W_n W51 (by decide) rfl))
            have t_63 : (M58.2.1 77 7).toInt = (M36.2.1 77 7).toInt := congrArg Int32.toInt c_62
            have c_64 : M58.2.1 77 6 = (M.2.1 77 6) := (W_n W57 (by decide) (W_n W51 (by decide) c_39))
            have t_65 : (M58.2.1 77 6).toInt = (M.2.1 77 6).toInt := congrArg Int32.toInt c_64
            have c_66 : M58.2.1 77 8 = (M36.2.1 77 8) := (W_n W57 (by decide) (W_n W51 (by decide) rfl))
            have t_67 : (M58.2.1 77 8).toInt = (M36.2.1 77 8).toInt := congrArg Int32.toInt c_66
            exact h (0 : Int32) M58 hG59 F60 (by decide) (by decide) (by omega) (by omega) (by omega)
          · refine to_an (pc := 22) rw_162_22 rfl (tt_gI (pc := 23) rw_162_23 (g_o hG32 rfl) (v := (M36.2.1 77 9)) rfl (to_in (pc := 26) rw_162_26 rfl (b_cle (pc := 27) rw_162_27 (A := (M36.2.1 77 9).toInt) (B := v47.toInt) rfl rfl (fun h68 => ?_) (fun h68 => ?_))))
            · refine to_c (pc := 38) rw_162_38 (x := (1 : Int32)) rfl rfl (to_go (pc := 39) rw_162_39 (s_r1 (pc := 43) rw_162_43 (A := 1) rfl (by decide) (b_ine_t (pc := 117) rw_212_117 (A := 1) rfl (by decide) (to_an (pc := 122) rw_212_122 rfl (s_gR (pc := 123) rw_212_123 hG32 rfl (v := 106) rfl (to_in (pc := 126) rw_212_126 rfl (to_dup2 (pc := 127) rw_212_127 (s_lal (pc := 128) rw_212_128 hG32 rfl (n := 40) rfl (A := a.toInt) rfl (by omega) (by omega) (fun l69 => s_cl (pc := 129) rw_212_129 rfl (fun l70 => to_an (pc := 130) rw_212_130 rfl (s_gR (pc := 131) rw_212_131 hG32 rfl (v := 82) rfl ?_)))))))))))
              refine to_in (pc := 134) rw_212_134 rfl (s_ialk (pc := 135) rw_212_135 hG32 rfl (n := 16) rfl rfl (A := r6.toInt) rfl (by omega) (by omega) (v := v45) w_46 (to_an (pc := 136) rw_212_136 rfl (tt_gI (pc := 137) rw_212_137 (g_o hG32 rfl) (v := (M36.2.1 77 9)) rfl (s_add (pc := 140) rw_212_140 (A := v45.toInt) (B := (M36.2.1 77 9).toInt) rfl rfl (by omega) (fun v73 e74 => s_anyS (pc := 141) rw_212_141 (fun _ _ => rfl) (fun l75 => s_anyL (pc := 142) rw_212_142 (fun _ _ => rfl) (fun l76 => s_las (pc := 143) rw_212_143 hG32 rfl (n := 40) rfl (A := a.toInt) rfl (by omega) (by omega) (fun M78 W77 => ?_))))))))
              have hG79 := g_wl hG32 W77
              have F80 := FR.wl F37 W77 (show 106 = 77 ∧ ((a.toInt).toNat = 4 ∨ (a.toInt).toNat = 5 ∨ 7 ≤ (a.toInt).toNat ∧ (a.toInt).toNat ≤ 10) ∨ 106 = 106 ∨ 106 = 107 by omega)
              refine to_an (pc := 144) rw_212_144 rfl (s_v (pc := 145) rw_212_145 (dp0 hd (by decide)) (ls0 := [.ref 77]) rfl (Nat.le_of_ble_eq_true rfl) (Nat.le_of_ble_eq_true rfl) rfl (to_rc rfl rfl rfl (g_o hG79 rfl)) rfl ?_)
              have c_81 : M78.2.1 77 7 = (M36.2.1 77 7) := (W_l W77 rfl)
              have t_82 : (M78.2.1 77 7).toInt = (M36.2.1 77 7).toInt := congrArg Int32.toInt c_81
              have c_83 : M78.2.1 77 6 = (M.2.1 77 6) := (W_l W77 c_39)
              have t_84 : (M78.2.1 77 6).toInt = (M.2.1 77 6).toInt := congrArg Int32.toInt c_83
              refine C_156 hX (dp1 hd (by decide)) hG79 (by omega)  (fun M90 hG86 F85 p_87 p_88 p_89 => ?_)
              have F91 := FR.c F80 F85 tg_271
              have b_92 := g_b hG86 (a := 77) (i := 7) (lo := 0) (hi := 500) rfl rfl
              have c_93 : M90.2.1 77 6 = (M.2.1 77 6) := (F_n F85 (show ¬ (77 = 77 ∧ 7 ≤ 6 ∧ 6 ≤ 10) by decide) c_83)
              have t_94 : (M90.2.1 77 6).toInt = (M.2.1 77 6).toInt := congrArg Int32.toInt c_93
              have b_95 := g_b hG86 (a := 77) (i := 8) (lo := 0) (hi := 5) rfl rfl
              refine to_c (pc := 148) rw_212_148 (x := (1 : Int32)) rfl rfl (s_r1 (pc := 149) rw_212_149 (A := 1) rfl (by decide) ?_)
              have k_96 : (1 : Int32).toInt = 1 := rfl
              exact h (1 : Int32) M90 hG86 F91 (by decide) (by decide) (by omega) (by omega) (by omega)
            · refine to_an (pc := 30) rw_162_30 rfl (to_c (pc := 31) rw_162_31 (x := (2 : Int32)) rfl rfl (s_v (pc := 32) rw_162_32 (dp1 hd (by decide)) (ls0 := [.ref 77, .int (2 : Int32)]) rfl (Nat.le_of_ble_eq_true rfl) (Nat.le_of_ble_eq_true rfl) rfl (to_rc rfl rfl rfl (g_o hG32 rfl)) rfl (to_an (pc := 0) rw_152_0 rfl (to_in (pc := 1) rw_152_1 rfl (s_pI (pc := 2) rw_152_2 hG32 rfl (fun M98 W97 => ?_))))))
              have hG99 := g_wf hG32 W97 rfl rfl (by decide)
              have F100 := FR.w F37 W97 (show 77 = 77 ∧ (4 = 4 ∨ 4 = 5 ∨ 7 ≤ 4 ∧ 4 ≤ 10) ∨ 77 = 106 ∨ 77 = 107 by decide)
              refine to_an (pc := 5) rw_152_5 rfl (to_an (pc := 6) rw_152_6 rfl ?_)
              have c_101 : M98.2.1 77 10 = (M36.2.1 77 10) := (W_n W97 (by decide) rfl)
              have b_102 := g_b hG32 (a := 77) (i := 10) (lo := 0) (hi := 500) rfl rfl
              refine tt_gI (pc := 7) rw_152_7 (g_o hG99 rfl) (v := (M36.2.1 77 10)) c_101 (s_pI (pc := 10) rw_152_10 hG99 rfl (fun M104 W103 => ?_))
              have hG105 := g_wf hG99 W103 rfl rfl (by decide)
              have F106 := FR.w F100 W103 (show 77 = 77 ∧ (5 = 4 ∨ 5 = 5 ∨ 7 ≤ 5 ∧ 5 ≤ 10) ∨ 77 = 106 ∨ 77 = 107 by decide)
              refine to_c (pc := 13) rw_152_13 (x := (0 : Int32)) rfl rfl (s_r1 (pc := 14) rw_152_14 (A := 0) rfl (by decide) (b_ieq_t (pc := 35) rw_162_35 (A := 0) rfl (by decide) (to_c (pc := 42) rw_162_42 (x := (0 : Int32)) rfl rfl (s_r1 (pc := 43) rw_162_43 (A := 0) rfl (by decide) (b_ine_f (pc := 117) rw_212_117 (A := 0) rfl (by decide) (to_c (pc := 120) rw_212_120 (x := (0 : Int32)) rfl rfl (s_r1 (pc := 121) rw_212_121 (A := 0) rfl (by decide) ?_)))))))
              have k_107 : (0 : Int32).toInt = 0 := rfl
              have c_108 : M104.2.1 77 7 = (M36.2.1 77 7) := (W_n W103 (by decide) (W_n W97 (by decide) rfl))
              have t_109 : (M104.2.1 77 7).toInt = (M36.2.1 77 7).toInt := congrArg Int32.toInt c_108
              have c_110 : M104.2.1 77 6 = (M.2.1 77 6) := (W_n W103 (by decide) (W_n W97 (by decide) c_39))
              have t_111 : (M104.2.1 77 6).toInt = (M.2.1 77 6).toInt := congrArg Int32.toInt c_110
              have c_112 : M104.2.1 77 8 = (M36.2.1 77 8) := (W_n W103 (by decide) (W_n W97 (by decide) rfl))
              have t_113 : (M104.2.1 77 8).toInt = (M36.2.1 77 8).toInt := congrArg Int32.toInt c_112
              exact h (0 : Int32) M104 hG105 F106 (by decide) (by decide) (by omega) (by omega) (by omega)
        · refine to_an (pc := 8) rw_162_8 rfl (to_c (pc := 9) rw_162_9 (x := (1 : Int32)) rfl rfl (s_v (pc := 10) rw_162_10 (dp1 hd (by decide)) (ls0 := [.ref 77, .int (1 : Int32)]) rfl (Nat.le_of_ble_eq_true rfl) (Nat.le_of_ble_eq_true rfl) rfl (to_rc rfl rfl rfl (g_o hG32 rfl)) rfl (to_an (pc := 0) rw_152_0 rfl (to_in (pc := 1) rw_152_1 rfl (s_pI (pc := 2) rw_152_2 hG32 rfl (fun M115 W114 => ?_))))))
          have hG116 := g_wf hG32 W114 rfl rfl (by decide)
          have F117 := FR.w F37 W114 (show 77 = 77 ∧ (4 = 4 ∨ 4 = 5 ∨ 7 ≤ 4 ∧ 4 ≤ 10) ∨ 77 = 106 ∨ 77 = 107 by decide)
          refine to_an (pc := 5) rw_152_5 rfl (to_an (pc := 6) rw_152_6 rfl ?_)
          have c_118 : M115.2.1 77 10 = (M36.2.1 77 10) := (W_n W114 (by decide) rfl)
          have b_119 := g_b hG32 (a := 77) (i := 10) (lo := 0) (hi := 500) rfl rfl
          refine tt_gI (pc := 7) rw_152_7 (g_o hG116 rfl) (v := (M36.2.1 77 10)) c_118 (s_pI (pc := 10) rw_152_10 hG116 rfl (fun M121 W120 => ?_))
          have hG122 := g_wf hG116 W120 rfl rfl (by decide)
          have F123 := FR.w F117 W120 (show 77 = 77 ∧ (5 = 4 ∨ 5 = 5 ∨ 7 ≤ 5 ∧ 5 ≤ 10) ∨ 77 = 106 ∨ 77 = 107 by decide)
          refine to_c (pc := 13) rw_152_13 (x := (0 : Int32)) rfl rfl (s_r1 (pc := 14) rw_152_14 (A := 0) rfl (by decide) (s_r1 (pc := 13) rw_162_13 (A := 0) rfl (by decide) (b_ine_f (pc := 117) rw_212_117 (A := 0) rfl (by decide) (to_c (pc := 120) rw_212_120 (x := (0 : Int32)) rfl rfl (s_r1 (pc := 121) rw_212_121 (A := 0) rfl (by decide) ?_)))))
          have k_124 : (0 : Int32).toInt = 0 := rfl
          have c_125 : M121.2.1 77 7 = (M36.2.1 77 7) := (W_n W120 (by decide) (W_n W114 (by decide) rfl))
          have t_126 : (M121.2.1 77 7).toInt = (M36.2.1 77 7).toInt := congrArg Int32.toInt c_125
          have c_127 : M121.2.1 77 6 = (M.2.1 77 6) := (W_n W120 (by decide) (W_n W114 (by decide) c_39))
          have t_128 : (M121.2.1 77 6).toInt = (M.2.1 77 6).toInt := congrArg Int32.toInt c_127
          have c_129 : M121.2.1 77 8 = (M36.2.1 77 8) := (W_n W120 (by decide) (W_n W114 (by decide) rfl))
          have t_130 : (M121.2.1 77 8).toInt = (M36.2.1 77 8).toInt := congrArg Int32.toInt c_129
          exact h (0 : Int32) M121 hG122 F123 (by decide) (by decide) (by omega) (by omega) (by omega)
      · refine to_an (pc := 85) rw_212_85 rfl (s_gR (pc := 86) rw_212_86 hG32 rfl (v := 107) rfl (to_in (pc := 89) rw_212_89 rfl (to_dup2 (pc := 90) rw_212_90 (s_ial (pc := 91) rw_212_91 hG32 rfl (n := 40) rfl rfl (A := a.toInt) rfl (by omega) (by omega) (lo := -2147483648) (hi := 2147483647) rfl rfl (fun v131 w_132 _ _ => to_c (pc := 92) rw_212_92 (x := (1 : Int32)) rfl rfl (to_in (pc := 93) rw_212_93 rfl (s_any (pc := 94) rw_212_94 (fun _ _ => rfl) (fun v133 => s_any (pc := 95) rw_212_95 (fun _ _ => rfl) (fun v134 => s_ias (pc := 96) rw_212_96 hG32 rfl (n := 40) rfl (A := a.toInt) rfl (by omega) (by omega) (fun M136 W135 => ?_))))))))))
        have hG137 := g_wf hG32 W135 rfl rfl (by decide)
        have F138 := FR.w F37 W135 (show 107 = 77 ∧ ((a.toInt).toNat = 4 ∨ (a.toInt).toNat = 5 ∨ 7 ≤ (a.toInt).toNat ∧ (a.toInt).toNat ≤ 10) ∨ 107 = 106 ∨ 107 = 107 by omega)
        refine to_c (pc := 97) rw_212_97 (x := (1 : Int32)) rfl rfl (s_r1 (pc := 98) rw_212_98 (A := 1) rfl (by decide) ?_)
        have k_139 : (1 : Int32).toInt = 1 := rfl
        have c_140 : M136.2.1 77 7 = (M36.2.1 77 7) := (W_n W135 (fun z => absurd z.1 (by decide)) rfl)
        have t_141 : (M136.2.1 77 7).toInt = (M36.2.1 77 7).toInt := congrArg Int32.toInt c_140
        have c_142 : M136.2.1 77 6 = (M.2.1 77 6) := (W_n W135 (fun z => absurd z.1 (by decide)) c_39)
        have t_143 : (M136.2.1 77 6).toInt = (M.2.1 77 6).toInt := congrArg Int32.toInt c_142
        have c_144 : M136.2.1 77 8 = (M36.2.1 77 8) := (W_n W135 (fun z => absurd z.1 (by decide)) rfl)
        have t_145 : (M136.2.1 77 8).toInt = (M36.2.1 77 8).toInt := congrArg Int32.toInt c_144
        exact h (1 : Int32) M136 hG137 F138 (by decide) (by decide) (by omega) (by omega) (by omega)
    · refine to_in (pc := 67) rw_212_67 rfl (b_ige (pc := 68) rw_212_68 (A := r18.toInt) rfl (fun h146 => ?_) (fun h146 => ?_))
      · refine to_an (pc := 77) rw_212_77 rfl (s_v (pc := 78) rw_212_78 (dp0 hd (by decide)) (ls0 := [.ref 77]) rfl (Nat.le_of_ble_eq_true rfl) (Nat.le_of_ble_eq_true rfl) rfl (to_rc rfl rfl rfl (g_o hG20 rfl)) rfl ?_)
        have c_147 : M24.2.1 77 7 = (M.2.1 77 7) := (F_n F19 (show ¬ (77 < 0) by decide) (F_n F7 (show ¬ (77 < 0) by decide) rfl))
        have t_148 : (M24.2.1 77 7).toInt = (M.2.1 77 7).toInt := congrArg Int32.toInt c_147
        have c_149 : M24.2.1 77 6 = (M.2.1 77 6) := (F_n F19 (show ¬ (77 < 0) by decide) (F_n F7 (show ¬ (77 < 0) by decide) rfl))
        have t_150 : (M24.2.1 77 6).toInt = (M.2.1 77 6).toInt := congrArg Int32.toInt c_149
        refine C_156 hX (dp1 hd (by decide)) hG20 (by omega)  (fun M156 hG152 F151 p_153 p_154 p_155 => ?_)
        have F157 := FR.c F25 F151 tg_271
        have b_158 := g_b hG152 (a := 77) (i := 7) (lo := 0) (hi := 500) rfl rfl
        have c_159 : M156.2.1 77 6 = (M.2.1 77 6) := (F_n F151 (show ¬ (77 = 77 ∧ 7 ≤ 6 ∧ 6 ≤ 10) by decide) c_149)
        have t_160 : (M156.2.1 77 6).toInt = (M.2.1 77 6).toInt := congrArg Int32.toInt c_159
        have b_161 := g_b hG152 (a := 77) (i := 8) (lo := 0) (hi := 5) rfl rfl
        refine to_in (pc := 81) rw_212_81 rfl (b_ilt_f (pc := 82) rw_212_82 (A := r18.toInt) rfl (by omega) (to_an (pc := 85) rw_212_85 rfl (s_gR (pc := 86) rw_212_86 hG152 rfl (v := 107) rfl (to_in (pc := 89) rw_212_89 rfl (to_dup2 (pc := 90) rw_212_90 (s_ial (pc := 91) rw_212_91 hG152 rfl (n := 40) rfl rfl (A := a.toInt) rfl (by omega) (by omega) (lo := -2147483648) (hi := 2147483647) rfl rfl (fun v162 w_163 _ _ => to_c (pc := 92) rw_212_92 (x := (1 : Int32)) rfl rfl (to_in (pc := 93) rw_212_93 rfl (s_any (pc := 94) rw_212_94 (fun _ _ => rfl) (fun v164 => s_any (pc := 95) rw_212_95 (fun _ _ => rfl) (fun v165 => s_ias (pc := 96) rw_212_96 hG152 rfl (n := 40) rfl (A := a.toInt) rfl (by omega) (by omega) (fun M167 W166 => ?_))))))))))))
        have hG168 := g_wf hG152 W166 rfl rfl (by decide)
        have F169 := FR.w F157 W166 (show 107 = 77 ∧ ((a.toInt).toNat = 4 ∨ (a.toInt).toNat = 5 ∨ 7 ≤ (a.toInt).toNat ∧ (a.toInt).toNat ≤ 10) ∨ 107 = 106 ∨ 107 = 107 by omega)
        refine to_c (pc := 97) rw_212_97 (x := (1 : Int32)) rfl rfl (s_r1 (pc := 98) rw_212_98 (A := 1) rfl (by decide) ?_)
        have k_170 : (1 : Int32).toInt = 1 := rfl
        have c_171 : M167.2.1 77 7 = (M156.2.1 77 7) := (W_n W166 (fun z => absurd z.1 (by decide)) rfl)
        have t_172 : (M167.2.1 77 7).toInt = (M156.2.1 77 7).toInt := congrArg Int32.toInt c_171
        have c_173 : M167.2.1 77 6 = (M.2.1 77 6) := (W_n W166 (fun z => absurd z.1 (by decide)) c_159)
        have t_174 : (M167.2.1 77 6).toInt = (M.2.1 77 6).toInt := congrArg Int32.toInt c_173
        have c_175 : M167.2.1 77 8 = (M156.2.1 77 8) := (W_n W166 (fun z => absurd z.1 (by decide)) rfl)
        have t_176 : (M167.2.1 77 8).toInt = (M156.2.1 77 8).toInt := congrArg Int32.toInt c_175
        exact h (1 : Int32) M167 hG168 F169 (by decide) (by decide) (by omega) (by omega) (by omega)
      · refine to_an (pc := 71) rw_212_71 rfl (to_c (pc := 72) rw_212_72 (x := (4 : Int32)) rfl rfl (s_v (pc := 73) rw_212_73 (dp0 hd (by decide)) (ls0 := [.ref 77, .int (4 : Int32)]) rfl (Nat.le_of_ble_eq_true rfl) (Nat.le_of_ble_eq_true rfl) rfl (to_rc rfl rfl rfl (g_o hG20 rfl)) rfl (to_an (pc := 0) rw_152_0 rfl (to_in (pc := 1) rw_152_1 rfl (s_pI (pc := 2) rw_152_2 hG20 rfl (fun M178 W177 => ?_))))))
        have hG179 := g_wf hG20 W177 rfl rfl (by decide)
        have F180 := FR.w F25 W177 (show 77 = 77 ∧ (4 = 4 ∨ 4 = 5 ∨ 7 ≤ 4 ∧ 4 ≤ 10) ∨ 77 = 106 ∨ 77 = 107 by decide)
        refine to_an (pc := 5) rw_152_5 rfl (to_an (pc := 6) rw_152_6 rfl ?_)
        have c_181 : M178.2.1 77 10 = (M.2.1 77 10) := (W_n W177 (by decide) (F_n F19 (show ¬ (77 < 0) by decide) (F_n F7 (show ¬ (77 < 0) by decide) rfl)))
        have b_182 := g_b hG (a := 77) (i := 10) (lo := 0) (hi := 500) rfl rfl
        refine tt_gI (pc := 7) rw_152_7 (g_o hG179 rfl) (v := (M.2.1 77 10)) c_181 (s_pI (pc := 10) rw_152_10 hG179 rfl (fun M184 W183 => ?_))
        have hG185 := g_wf hG179 W183 rfl rfl (by decide)
        have F186 := FR.w F180 W183 (show 77 = 77 ∧ (5 = 4 ∨ 5 = 5 ∨ 7 ≤ 5 ∧ 5 ≤ 10) ∨ 77 = 106 ∨ 77 = 107 by decide)
        refine to_c (pc := 13) rw_152_13 (x := (0 : Int32)) rfl rfl (s_r1 (pc := 14) rw_152_14 (A := 0) rfl (by decide) (s_r1 (pc := 76) rw_212_76 (A := 0) rfl (by decide) ?_))
        have k_187 : (0 : Int32).toInt = 0 := rfl
        have c_188 : M184.2.1 77 7 = (M.2.1 77 7) := (W_n W183 (by decide) (W_n W177 (by decide) (F_n F19 (show ¬ (77 < 0) by decide) (F_n F7 (show ¬ (77 < 0) by decide) rfl))))
        have t_189 : (M184.2.1 77 7).toInt = (M.2.1 77 7).toInt := congrArg Int32.toInt c_188
        have c_190 : M184.2.1 77 6 = (M.2.1 77 6) := (W_n W183 (by decide) (W_n W177 (by decide) (F_n F19 (show ¬ (77 < 0) by decide) (F_n F7 (show ¬ (77 < 0) by decide) rfl))))
        have t_191 : (M184.2.1 77 6).toInt = (M.2.1 77 6).toInt := congrArg Int32.toInt c_190
        have c_192 : M184.2.1 77 8 = (M.2.1 77 8) := (W_n W183 (by decide) (W_n W177 (by decide) (F_n F19 (show ¬ (77 < 0) by decide) (F_n F7 (show ¬ (77 < 0) by decide) rfl))))
        have t_193 : (M184.2.1 77 8).toInt = (M.2.1 77 8).toInt := congrArg Int32.toInt c_192
        exact h (0 : Int32) M184 hG185 F186 (by decide) (by decide) (by omega) (by omega) (by omega)
  · refine to_an (pc := 8) rw_212_8 rfl (to_c (pc := 9) rw_212_9 (x := (0 : Int32)) rfl rfl (to_an (pc := 10) rw_212_10 rfl ?_))
    have b_194 := g_b hG (a := 77) (i := 11) (lo := 10) (hi := 60) rfl rfl
    refine tt_gI (pc := 11) rw_212_11 (g_o hG rfl) (v := (M.2.1 77 11)) rfl (to_c (pc := 14) rw_212_14 (x := (1 : Int32)) rfl rfl (s_sub (pc := 15) rw_212_15 (A := (M.2.1 77 11).toInt) (B := 1) rfl rfl (by omega) (fun v195 e196 => s_v (pc := 16) rw_212_16 (dp0 hd (by decide)) (ls0 := [.ref 77, .int (0 : Int32), .int v195]) rfl (Nat.le_of_ble_eq_true rfl) (Nat.le_of_ble_eq_true rfl) rfl (to_rc rfl rfl rfl (g_o hG rfl)) rfl (to_an (pc := 0) rw_162_0 rfl (tt_gI (pc := 1) rw_162_1 (g_o hG rfl) (v := (M.2.1 77 8)) rfl (to_c (pc := 4) rw_162_4 (x := (3 : Int32)) rfl rfl (b_ceq_t (pc := 5) rw_162_5 (A := (M.2.1 77 8).toInt) (B := 3) rfl rfl (by omega) (to_an (pc := 14) rw_162_14 rfl (tt_gI (pc := 15) rw_162_15 (g_o hG rfl) (v := (M.2.1 77 9)) rfl (to_in (pc := 18) rw_162_18 rfl (b_clt (pc := 19) rw_162_19 (A := (M.2.1 77 9).toInt) (B := 0) rfl rfl (fun h197 => ?_) (fun h197 => ?_))))))))))))
    · refine to_an (pc := 30) rw_162_30 rfl (to_c (pc := 31) rw_162_31 (x := (2 : Int32)) rfl rfl (s_v (pc := 32) rw_162_32 (dp1 hd (by decide)) (ls0 := [.ref 77, .int (2 : Int32)]) rfl (Nat.le_of_ble_eq_true rfl) (Nat.le_of_ble_eq_true rfl) rfl (to_rc rfl rfl rfl (g_o hG rfl)) rfl (to_an (pc := 0) rw_152_0 rfl (to_in (pc := 1) rw_152_1 rfl (s_pI (pc := 2) rw_152_2 hG rfl (fun M199 W198 => ?_))))))
      have hG200 := g_wf hG W198 rfl rfl (by decide)
      have F201 := FR.w F0 W198 (show 77 = 77 ∧ (4 = 4 ∨ 4 = 5 ∨ 7 ≤ 4 ∧ 4 ≤ 10) ∨ 77 = 106 ∨ 77 = 107 by decide)
      refine to_an (pc := 5) rw_152_5 rfl (to_an (pc := 6) rw_152_6 rfl ?_)
      have c_202 : M199.2.1 77 10 = (M.2.1 77 10) := (W_n W198 (by decide) rfl)
      have b_203 := g_b hG (a := 77) (i := 10) (lo := 0) (hi := 500) rfl rfl
      refine tt_gI (pc := 7) rw_152_7 (g_o hG200 rfl) (v := (M.2.1 77 10)) c_202 (s_pI (pc := 10) rw_152_10 hG200 rfl (fun M205 W204 => ?_))
      have hG206 := g_wf hG200 W204 rfl rfl (by decide)
      have F207 := FR.w F201 W204 (show 77 = 77 ∧ (5 = 4 ∨ 5 = 5 ∨ 7 ≤ 5 ∧ 5 ≤ 10) ∨ 77 = 106 ∨ 77 = 107 by decide)
      refine to_c (pc := 13) rw_152_13 (x := (0 : Int32)) rfl rfl (s_r1 (pc := 14) rw_152_14 (A := 0) rfl (by decide) (b_ieq_t (pc := 35) rw_162_35 (A := 0) rfl (by decide) (to_c (pc := 42) rw_162_42 (x := (0 : Int32)) rfl rfl (s_r1 (pc := 43) rw_162_43 (A := 0) rfl (by decide) (b_ine_f (pc := 19) rw_212_19 (A := 0) rfl (by decide) (to_c (pc := 22) rw_212_22 (x := (0 : Int32)) rfl rfl (s_r1 (pc := 23) rw_212_23 (A := 0) rfl (by decide) ?_)))))))
      have k_208 : (0 : Int32).toInt = 0 := rfl
      have c_209 : M205.2.1 77 7 = (M.2.1 77 7) := (W_n W204 (by decide) (W_n W198 (by decide) rfl))
      have t_210 : (M205.2.1 77 7).toInt = (M.2.1 77 7).toInt := congrArg Int32.toInt c_209
      have c_211 : M205.2.1 77 6 = (M.2.1 77 6) := (W_n W204 (by decide) (W_n W198 (by decide) rfl))
      have t_212 : (M205.2.1 77 6).toInt = (M.2.1 77 6).toInt := congrArg Int32.toInt c_211
      have c_213 : M205.2.1 77 8 = (M.2.1 77 8) := (W_n W204 (by decide) (W_n W198 (by decide) rfl))
      have t_214 : (M205.2.1 77 8).toInt = (M.2.1 77 8).toInt := congrArg Int32.toInt c_213
      exact h (0 : Int32) M205 hG206 F207 (by decide) (by decide) (by omega) (by omega) (by omega)
    · refine to_an (pc := 22) rw_162_22 rfl (tt_gI (pc := 23) rw_162_23 (g_o hG rfl) (v := (M.2.1 77 9)) rfl (to_in (pc := 26) rw_162_26 rfl (b_cle (pc := 27) rw_162_27 (A := (M.2.1 77 9).toInt) (B := v195.toInt) rfl rfl (fun h215 => ?_) (fun h215 => ?_))))
      · refine to_c (pc := 38) rw_162_38 (x := (1 : Int32)) rfl rfl (to_go (pc := 39) rw_162_39 (s_r1 (pc := 43) rw_162_43 (A := 1) rfl (by decide) (b_ine_t (pc := 19) rw_212_19 (A := 1) rfl (by decide) (to_an (pc := 24) rw_212_24 rfl (s_gR (pc := 25) rw_212_25 hG rfl (v := 106) rfl (to_in (pc := 28) rw_212_28 rfl (to_dup2 (pc := 29) rw_212_29 (s_lal (pc := 30) rw_212_30 hG rfl (n := 40) rfl (A := a.toInt) rfl (by omega) (by omega) (fun l216 => s_cl (pc := 31) rw_212_31 rfl (fun l217 => to_an (pc := 32) rw_212_32 rfl (tt_gI (pc := 33) rw_212_33 (g_o hG rfl) (v := (M.2.1 77 9)) rfl ?_)))))))))))
        refine s_anyS (pc := 36) rw_212_36 (fun _ _ => rfl) (fun l218 => s_anyL (pc := 37) rw_212_37 (fun _ _ => rfl) (fun l219 => s_las (pc := 38) rw_212_38 hG rfl (n := 40) rfl (A := a.toInt) rfl (by omega) (by omega) (fun M221 W220 => ?_)))
        have hG222 := g_wl hG W220
        have F223 := FR.wl F0 W220 (show 106 = 77 ∧ ((a.toInt).toNat = 4 ∨ (a.toInt).toNat = 5 ∨ 7 ≤ (a.toInt).toNat ∧ (a.toInt).toNat ≤ 10) ∨ 106 = 106 ∨ 106 = 107 by omega)
        refine to_an (pc := 39) rw_212_39 rfl (s_v (pc := 40) rw_212_40 (dp0 hd (by decide)) (ls0 := [.ref 77]) rfl (Nat.le_of_ble_eq_true rfl) (Nat.le_of_ble_eq_true rfl) rfl (to_rc rfl rfl rfl (g_o hG222 rfl)) rfl ?_)
        have c_224 : M221.2.1 77 7 = (M.2.1 77 7) := (W_l W220 rfl)
        have t_225 : (M221.2.1 77 7).toInt = (M.2.1 77 7).toInt := congrArg Int32.toInt c_224
        have c_226 : M221.2.1 77 6 = (M.2.1 77 6) := (W_l W220 rfl)
        have t_227 : (M221.2.1 77 6).toInt = (M.2.1 77 6).toInt := congrArg Int32.toInt c_226
        refine C_156 hX (dp1 hd (by decide)) hG222 (by omega)  (fun M233 hG229 F228 p_230 p_231 p_232 => ?_)
        have F234 := FR.c F223 F228 tg_271
        have b_235 := g_b hG229 (a := 77) (i := 7) (lo := 0) (hi := 500) rfl rfl
        have c_236 : M233.2.1 77 6 = (M.2.1 77 6) := (F_n F228 (show ¬ (77 = 77 ∧ 7 ≤ 6 ∧ 6 ≤ 10) by decide) c_226)
        have t_237 : (M233.2.1 77 6).toInt = (M.2.1 77 6).toInt := congrArg Int32.toInt c_236
        have b_238 := g_b hG229 (a := 77) (i := 8) (lo := 0) (hi := 5) rfl rfl
        refine to_c (pc := 43) rw_212_43 (x := (1 : Int32)) rfl rfl (s_r1 (pc := 44) rw_212_44 (A := 1) rfl (by decide) ?_)
        have k_239 : (1 : Int32).toInt = 1 := rfl
        exact h (1 : Int32) M233 hG229 F234 (by decide) (by decide) (by omega) (by omega) (by omega)
      · refine to_an (pc := 30) rw_162_30 rfl (to_c (pc := 31) rw_162_31 (x := (2 : Int32)) rfl rfl (s_v (pc := 32) rw_162_32 (dp1 hd (by decide)) (ls0 := [.ref 77, .int (2 : Int32)]) rfl (Nat.le_of_ble_eq_true rfl) (Nat.le_of_ble_eq_true rfl) rfl (to_rc rfl rfl rfl (g_o hG rfl)) rfl (to_an (pc := 0) rw_152_0 rfl (to_in (pc := 1) rw_152_1 rfl (s_pI (pc := 2) rw_152_2 hG rfl (fun M241 W240 => ?_))))))
        have hG242 := g_wf hG W240 rfl rfl (by decide)
        have F243 := FR.w F0 W240 (show 77 = 77 ∧ (4 = 4 ∨ 4 = 5 ∨ 7 ≤ 4 ∧ 4 ≤ 10) ∨ 77 = 106 ∨ 77 = 107 by decide)
        refine to_an (pc := 5) rw_152_5 rfl (to_an (pc := 6) rw_152_6 rfl ?_)
        have c_244 : M241.2.1 77 10 = (M.2.1 77 10) := (W_n W240 (by decide) rfl)
        have b_245 := g_b hG (a := 77) (i := 10) (lo := 0) (hi := 500) rfl rfl
        refine tt_gI (pc := 7) rw_152_7 (g_o hG242 rfl) (v := (M.2.1 77 10)) c_244 (s_pI (pc := 10) rw_152_10 hG242 rfl (fun M247 W246 => ?_))
        have hG248 := g_wf hG242 W246 rfl rfl (by decide)
        have F249 := FR.w F243 W246 (show 77 = 77 ∧ (5 = 4 ∨ 5 = 5 ∨ 7 ≤ 5 ∧ 5 ≤ 10) ∨ 77 = 106 ∨ 77 = 107 by decide)
        refine to_c (pc := 13) rw_152_13 (x := (0 : Int32)) rfl rfl (s_r1 (pc := 14) rw_152_14 (A := 0) rfl (by decide) (b_ieq_t (pc := 35) rw_162_35 (A := 0) rfl (by decide) (to_c (pc := 42) rw_162_42 (x := (0 : Int32)) rfl rfl (s_r1 (pc := 43) rw_162_43 (A := 0) rfl (by decide) (b_ine_f (pc := 19) rw_212_19 (A := 0) rfl (by decide) (to_c (pc := 22) rw_212_22 (x := (0 : Int32)) rfl rfl (s_r1 (pc := 23) rw_212_23 (A := 0) rfl (by decide) ?_)))))))
        have k_250 : (0 : Int32).toInt = 0 := rfl
        have c_251 : M247.2.1 77 7 = (M.2.1 77 7) := (W_n W246 (by decide) (W_n W240 (by decide) rfl))
        have t_252 : (M247.2.1 77 7).toInt = (M.2.1 77 7).toInt := congrArg Int32.toInt c_251
        have c_253 : M247.2.1 77 6 = (M.2.1 77 6) := (W_n W246 (by decide) (W_n W240 (by decide) rfl))
        have t_254 : (M247.2.1 77 6).toInt = (M.2.1 77 6).toInt := congrArg Int32.toInt c_253
        have c_255 : M247.2.1 77 8 = (M.2.1 77 8) := (W_n W246 (by decide) (W_n W240 (by decide) rfl))
        have t_256 : (M247.2.1 77 8).toInt = (M.2.1 77 8).toInt := congrArg Int32.toInt c_255
        exact h (0 : Int32) M247 hG248 F249 (by decide) (by decide) (by omega) (by omega) (by omega)
set_option maxRecDepth 4000 in
set_option maxHeartbeats 0 in
theorem T_213_0 {X : mm_X} {d : Nat} {M : mm_M} {Q : Option Value → mm_M → Prop} {a : Int32} (hX : g_X X) (hd : 3 ≤ d) (q1 : 0 ≤ a.toInt) (q2 : a.toInt ≤ 39) (q3 : (M.2.1 77 7).toInt ≤ (M.2.1 77 6).toInt) (h : ∀ (r : Int32) (M1 : mm_M), g_G M1 → FR md_ps M M1 → (0 ≤ r.toInt) → (r.toInt ≤ 1) → ((M1.2.1 77 7).toInt ≤ (M1.2.1 77 6).toInt) → ((M.2.1 77 7).toInt ≤ (M1.2.1 77 7).toInt) → (r.toInt = 1 → (M1.2.1 77 8).toInt = 0 ∨ (M.2.1 77 7).toInt < (M1.2.1 77 7).toInt) → (r.toInt = 1 → 0 ≤ (M1.2.1 102 (a.toInt).toNat).toInt ∧ (M1.2.1 102 (a.toInt).toNat).toInt ≤ 5 ∧ 0 ≤ (M1.2.1 103 (a.toInt).toNat).toInt ∧ 0 ≤ (M1.2.1 104 (a.toInt).toNat).toInt) → (∀ r i : Nat, (102 ≤ r ∧ r ≤ 104) → ¬ i = (a.toInt).toNat → M1.2.1 r i = M.2.1 r i) → Q (some (.int r)) M1) : ∀ nn9 : Nat, (∀ (N : mm_M), g_G N → FR md_ps M N → ((N.2.1 77 7).toInt ≤ (N.2.1 77 6).toInt) → ((M.2.1 77 7).toInt ≤ (N.2.1 77 7).toInt) → ((N.2.1 77 8).toInt = 0 ∨ (M.2.1 77 7).toInt < (N.2.1 77 7).toInt) → (0 ≤ (N.2.1 102 (a.toInt).toNat).toInt) → ((N.2.1 102 (a.toInt).toNat).toInt ≤ 5) → (0 ≤ (N.2.1 103 (a.toInt).toNat).toInt) → (0 ≤ (N.2.1 104 (a.toInt).toNat).toInt) → (∀ r i : Nat, (102 ≤ r ∧ r ≤ 104) → ¬ i = (a.toInt).toNat → N.2.1 r i = M.2.1 r i) → 6 * (500 - (N.2.1 77 7).toInt) + (N.2.1 77 8).toInt < (nn9 : Int) → mm_T X d 212 133 [.ref 77, .int a] [] N Q) := by
  intro nn9
  induction nn9 with
  | zero =>
    intro N hG F0 g1 g2 g3 g4 g5 g6 g7 g8 hm
    have b_1 := g_b hG (a := 77) (i := 7) (lo := 0) (hi := 500) rfl rfl
    have b_2 := g_b hG (a := 77) (i := 8) (lo := 0) (hi := 5) rfl rfl
    have b_3 := g_b hG (a := 77) (i := 6) (lo := 0) (hi := 500) rfl rfl
    exfalso; omega
  | succ nn9 ih =>
    intro N hG F0 g1 g2 g3 g4 g5 g6 g7 g8 hm
    have b_4 := g_b hG (a := 77) (i := 7) (lo := 0) (hi := 500) rfl rfl
    have b_5 := g_b hG (a := 77) (i := 8) (lo := 0) (hi := 5) rfl rfl
    have b_6 := g_b hG (a := 77) (i := 6) (lo := 0) (hi := 500) rfl rfl
    refine to_an (pc := 133) rw_213_133 rfl (tt_gI (pc := 134) rw_213_134 (g_o hG rfl) (v := (N.2.1 77 8)) rfl (to_c (pc := 137) rw_213_137 (x := (3 : Int32)) rfl rfl (b_ceq (pc := 138) rw_213_138 (A := (N.2.1 77 8).toInt) (B := 3) rfl rfl (fun h7 => ?_) (fun h7 => ?_))))
    · refine to_an (pc := 149) rw_213_149 rfl (to_in (pc := 150) rw_213_150 rfl (s_v (pc := 151) rw_213_151 (dp0 hd (by decide)) (ls0 := [.ref 77, .int a, .null, .null]) rfl (Nat.le_of_ble_eq_true rfl) (Nat.le_of_ble_eq_true rfl) rfl (to_rc rfl rfl rfl (g_o hG rfl)) rfl (C_212 hX (dp1 hd (by decide)) hG (by omega) (by omega) (by omega) (a := a) (fun r8 M16 hG10 F9 p_11 p_12 p_13 p_14 p_15 => ?_))))
      have F17 := FR.c F0 F9 tg_272
      have b_18 := g_b hG10 (a := 77) (i := 7) (lo := 0) (hi := 500) rfl rfl
      have c_19 : M16.2.1 77 6 = (N.2.1 77 6) := (F_n F9 (show ¬ (77 = 77 ∧ (6 = 4 ∨ 6 = 5 ∨ 7 ≤ 6 ∧ 6 ≤ 10) ∨ 77 = 106 ∨ 77 = 107) by decide) rfl)
      have t_20 : (M16.2.1 77 6).toInt = (N.2.1 77 6).toInt := congrArg Int32.toInt c_19
      have b_21 := g_b hG10 (a := 77) (i := 8) (lo := 0) (hi := 5) rfl rfl
      refine b_ine (pc := 154) rw_213_154 (A := r8.toInt) rfl (fun h22 => ?_) (fun h22 => ?_)
      · have t_23 : (M16.2.1 102 (a.toInt).toNat).toInt = (N.2.1 102 (a.toInt).toNat).toInt := congrArg Int32.toInt (F_n F9 (show ¬ (102 = 77 ∧ (((a.toInt).toNat) = 4 ∨ ((a.toInt).toNat) = 5 ∨ 7 ≤ ((a.toInt).toNat) ∧ ((a.toInt).toNat) ≤ 10) ∨ 102 = 106 ∨ 102 = 107) by omega) rfl)
        have t_24 : (M16.2.1 102 (a.toInt).toNat).toInt = (N.2.1 102 (a.toInt).toNat).toInt := congrArg Int32.toInt (F_n F9 (show ¬ (102 = 77 ∧ (((a.toInt).toNat) = 4 ∨ ((a.toInt).toNat) = 5 ∨ 7 ≤ ((a.toInt).toNat) ∧ ((a.toInt).toNat) ≤ 10) ∨ 102 = 106 ∨ 102 = 107) by omega) rfl)
        have t_25 : (M16.2.1 103 (a.toInt).toNat).toInt = (N.2.1 103 (a.toInt).toNat).toInt := congrArg Int32.toInt (F_n F9 (show ¬ (103 = 77 ∧ (((a.toInt).toNat) = 4 ∨ ((a.toInt).toNat) = 5 ∨ 7 ≤ ((a.toInt).toNat) ∧ ((a.toInt).toNat) ≤ 10) ∨ 103 = 106 ∨ 103 = 107) by omega) rfl)
        have t_26 : (M16.2.1 104 (a.toInt).toNat).toInt = (N.2.1 104 (a.toInt).toNat).toInt := congrArg Int32.toInt (F_n F9 (show ¬ (104 = 77 ∧ (((a.toInt).toNat) = 4 ∨ ((a.toInt).toNat) = 5 ∨ 7 ≤ ((a.toInt).toNat) ∧ ((a.toInt).toNat) ≤ 10) ∨ 104 = 106 ∨ 104 = 107) by omega) rfl)
        exact ih M16  hG10 F17 (by omega) (by omega) (by omega) (by omega) (by omega) (by omega) (by omega) (fun r i z z2 => (F_n F9 (show ¬ (r = 77 ∧ (i = 4 ∨ i = 5 ∨ 7 ≤ i ∧ i ≤ 10) ∨ r = 106 ∨ r = 107) by omega) (g8 r i z z2))) (by omega)
      · refine to_c (pc := 157) rw_213_157 (x := (0 : Int32)) rfl rfl (s_r1 (pc := 158) rw_213_158 (A := 0) rfl (by decide) ?_)
        have k_27 : (0 : Int32).toInt = 0 := rfl
        have t_28 : (M16.2.1 102 (a.toInt).toNat).toInt = (N.2.1 102 (a.toInt).toNat).toInt := congrArg Int32.toInt (F_n F9 (show ¬ (102 = 77 ∧ (((a.toInt).toNat) = 4 ∨ ((a.toInt).toNat) = 5 ∨ 7 ≤ ((a.toInt).toNat) ∧ ((a.toInt).toNat) ≤ 10) ∨ 102 = 106 ∨ 102 = 107) by omega) rfl)
        have t_29 : (M16.2.1 102 (a.toInt).toNat).toInt = (N.2.1 102 (a.toInt).toNat).toInt := congrArg Int32.toInt (F_n F9 (show ¬ (102 = 77 ∧ (((a.toInt).toNat) = 4 ∨ ((a.toInt).toNat) = 5 ∨ 7 ≤ ((a.toInt).toNat) ∧ ((a.toInt).toNat) ≤ 10) ∨ 102 = 106 ∨ 102 = 107) by omega) rfl)
        have t_30 : (M16.2.1 103 (a.toInt).toNat).toInt = (N.2.1 103 (a.toInt).toNat).toInt := congrArg Int32.toInt (F_n F9 (show ¬ (103 = 77 ∧ (((a.toInt).toNat) = 4 ∨ ((a.toInt).toNat) = 5 ∨ 7 ≤ ((a.toInt).toNat) ∧ ((a.toInt).toNat) ≤ 10) ∨ 103 = 106 ∨ 103 = 107) by omega) rfl)
        have t_31 : (M16.2.1 104 (a.toInt).toNat).toInt = (N.2.1 104 (a.toInt).toNat).toInt := congrArg Int32.toInt (F_n F9 (show ¬ (104 = 77 ∧ (((a.toInt).toNat) = 4 ∨ ((a.toInt).toNat) = 5 ∨ 7 ≤ ((a.toInt).toNat) ∧ ((a.toInt).toNat) ≤ 10) ∨ 104 = 106 ∨ 104 = 107) by omega) rfl)
        exact h (0 : Int32) M16 hG10 F17 (by decide) (by decide) (by omega) (by omega) (by omega) (by omega) (fun r i z z2 => (F_n F9 (show ¬ (r = 77 ∧ (i = 4 ∨ i = 5 ∨ 7 ≤ i ∧ i ≤ 10) ∨ r = 106 ∨ r = 107) by omega) (g8 r i z z2)))
    · refine to_an (pc := 141) rw_213_141 rfl (tt_gI (pc := 142) rw_213_142 (g_o hG rfl) (v := (N.2.1 77 8)) rfl (to_c (pc := 145) rw_213_145 (x := (2 : Int32)) rfl rfl (b_cne (pc := 146) rw_213_146 (A := (N.2.1 77 8).toInt) (B := 2) rfl rfl (fun h32 => ?_) (fun h32 => ?_))))
      · refine to_an (pc := 159) rw_213_159 rfl (to_c (pc := 160) rw_213_160 (x := (59 : Int32)) rfl rfl (s_v (pc := 162) rw_213_162 (dp0 hd (by decide)) (ls0 := [.ref 77, .int (59 : Int32)]) rfl (Nat.le_of_ble_eq_true rfl) (Nat.le_of_ble_eq_true rfl) rfl (to_rc rfl rfl rfl (g_o hG rfl)) rfl ?_))
        have k_33 : (59 : Int32).toInt = 59 := rfl
        refine C_160 hX (dp1 hd (by decide)) hG (by omega) (c := (59 : Int32)) (fun r34 M43 hG36 F35 p_37 p_38 p_39 p_40 p_41 p_42 => ?_)
        have F44 := FR.c F0 F35 tg_273
        have b_45 := g_b hG36 (a := 77) (i := 7) (lo := 0) (hi := 500) rfl rfl
        have c_46 : M43.2.1 77 6 = (N.2.1 77 6) := (F_n F35 (show ¬ (77 = 77 ∧ (6 = 4 ∨ 6 = 5 ∨ 7 ≤ 6 ∧ 6 ≤ 10)) by decide) rfl)
        have t_47 : (M43.2.1 77 6).toInt = (N.2.1 77 6).toInt := congrArg Int32.toInt c_46
        have b_48 := g_b hG36 (a := 77) (i := 8) (lo := 0) (hi := 5) rfl rfl
        refine s_r1 (pc := 165) rw_213_165 (A := r34.toInt) rfl (by omega) ?_
        have t_49 : (M43.2.1 102 (a.toInt).toNat).toInt = (N.2.1 102 (a.toInt).toNat).toInt := congrArg Int32.toInt (F_n F35 (show ¬ (102 = 77 ∧ (((a.toInt).toNat) = 4 ∨ ((a.toInt).toNat) = 5 ∨ 7 ≤ ((a.toInt).toNat) ∧ ((a.toInt).toNat) ≤ 10)) by omega) rfl)
        have t_50 : (M43.2.1 102 (a.toInt).toNat).toInt = (N.2.1 102 (a.toInt).toNat).toInt := congrArg Int32.toInt (F_n F35 (show ¬ (102 = 77 ∧ (((a.toInt).toNat) = 4 ∨ ((a.toInt).toNat) = 5 ∨ 7 ≤ ((a.toInt).toNat) ∧ ((a.toInt).toNat) ≤ 10)) by omega) rfl)
        have t_51 : (M43.2.1 103 (a.toInt).toNat).toInt = (N.2.1 103 (a.toInt).toNat).toInt := congrArg Int32.toInt (F_n F35 (show ¬ (103 = 77 ∧ (((a.toInt).toNat) = 4 ∨ ((a.toInt).toNat) = 5 ∨ 7 ≤ ((a.toInt).toNat) ∧ ((a.toInt).toNat) ≤ 10)) by omega) rfl)
        have t_52 : (M43.2.1 104 (a.toInt).toNat).toInt = (N.2.1 104 (a.toInt).toNat).toInt := congrArg Int32.toInt (F_n F35 (show ¬ (104 = 77 ∧ (((a.toInt).toNat) = 4 ∨ ((a.toInt).toNat) = 5 ∨ 7 ≤ ((a.toInt).toNat) ∧ ((a.toInt).toNat) ≤ 10)) by omega) rfl)
        exact h r34 M43 hG36 F44 (by omega) (by omega) (by omega) (by omega) (by omega) (by omega) (fun r i z z2 => (F_n F35 (show ¬ (r = 77 ∧ (i = 4 ∨ i = 5 ∨ 7 ≤ i ∧ i ≤ 10)) by omega) (g8 r i z z2)))
      · refine to_an (pc := 149) rw_213_149 rfl (to_in (pc := 150) rw_213_150 rfl (s_v (pc := 151) rw_213_151 (dp0 hd (by decide)) (ls0 := [.ref 77, .int a, .null, .null]) rfl (Nat.le_of_ble_eq_true rfl) (Nat.le_of_ble_eq_true rfl) rfl (to_rc rfl rfl rfl (g_o hG rfl)) rfl (C_212 hX (dp1 hd (by decide)) hG (by omega) (by omega) (by omega) (a := a) (fun r53 M61 hG55 F54 p_56 p_57 p_58 p_59 p_60 => ?_))))
        have F62 := FR.c F0 F54 tg_272
        have b_63 := g_b hG55 (a := 77) (i := 7) (lo := 0) (hi := 500) rfl rfl
        have c_64 : M61.2.1 77 6 = (N.2.1 77 6) := (F_n F54 (show ¬ (77 = 77 ∧ (6 = 4 ∨ 6 = 5 ∨ 7 ≤ 6 ∧ 6 ≤ 10) ∨ 77 = 106 ∨ 77 = 107) by decide) rfl)
        have t_65 : (M61.2.1 77 6).toInt = (N.2.1 77 6).toInt := congrArg Int32.toInt c_64
        have b_66 := g_b hG55 (a := 77) (i := 8) (lo := 0) (hi := 5) rfl rfl
        refine b_ine (pc := 154) rw_213_154 (A := r53.toInt) rfl (fun h67 => ?_) (fun h67 => ?_)
        · have t_68 : (M61.2.1 102 (a.toInt).toNat).toInt = (N.2.1 102 (a.toInt).toNat).toInt := congrArg Int32.toInt (F_n F54 (show ¬ (102 = 77 ∧ (((a.toInt).toNat) = 4 ∨ ((a.toInt).toNat) = 5 ∨ 7 ≤ ((a.toInt).toNat) ∧ ((a.toInt).toNat) ≤ 10) ∨ 102 = 106 ∨ 102 = 107) by omega) rfl)
          have t_69 : (M61.2.1 102 (a.toInt).toNat).toInt = (N.2.1 102 (a.toInt).toNat).toInt := congrArg Int32.toInt (F_n F54 (show ¬ (102 = 77 ∧ (((a.toInt).toNat) = 4 ∨ ((a.toInt).toNat) = 5 ∨ 7 ≤ ((a.toInt).toNat) ∧ ((a.toInt).toNat) ≤ 10) ∨ 102 = 106 ∨ 102 = 107) by omega) rfl)
          have t_70 : (M61.2.1 103 (a.toInt).toNat).toInt = (N.2.1 103 (a.toInt).toNat).toInt := congrArg Int32.toInt (F_n F54 (show ¬ (103 = 77 ∧ (((a.toInt).toNat) = 4 ∨ ((a.toInt).toNat) = 5 ∨ 7 ≤ ((a.toInt).toNat) ∧ ((a.toInt).toNat) ≤ 10) ∨ 103 = 106 ∨ 103 = 107) by omega) rfl)
          have t_71 : (M61.2.1 104 (a.toInt).toNat).toInt = (N.2.1 104 (a.toInt).toNat).toInt := congrArg Int32.toInt (F_n F54 (show ¬ (104 = 77 ∧ (((a.toInt).toNat) = 4 ∨ ((a.toInt).toNat) = 5 ∨ 7 ≤ ((a.toInt).toNat) ∧ ((a.toInt).toNat) ≤ 10) ∨ 104 = 106 ∨ 104 = 107) by omega) rfl)
          exact ih M61  hG55 F62 (by omega) (by omega) (by omega) (by omega) (by omega) (by omega) (by omega) (fun r i z z2 => (F_n F54 (show ¬ (r = 77 ∧ (i = 4 ∨ i = 5 ∨ 7 ≤ i ∧ i ≤ 10) ∨ r = 106 ∨ r = 107) by omega) (g8 r i z z2))) (by omega)
        · refine to_c (pc := 157) rw_213_157 (x := (0 : Int32)) rfl rfl (s_r1 (pc := 158) rw_213_158 (A := 0) rfl (by decide) ?_)
          have k_72 : (0 : Int32).toInt = 0 := rfl
          have t_73 : (M61.2.1 102 (a.toInt).toNat).toInt = (N.2.1 102 (a.toInt).toNat).toInt := congrArg Int32.toInt (F_n F54 (show ¬ (102 = 77 ∧ (((a.toInt).toNat) = 4 ∨ ((a.toInt).toNat) = 5 ∨ 7 ≤ ((a.toInt).toNat) ∧ ((a.toInt).toNat) ≤ 10) ∨ 102 = 106 ∨ 102 = 107) by omega) rfl)
          have t_74 : (M61.2.1 102 (a.toInt).toNat).toInt = (N.2.1 102 (a.toInt).toNat).toInt := congrArg Int32.toInt (F_n F54 (show ¬ (102 = 77 ∧ (((a.toInt).toNat) = 4 ∨ ((a.toInt).toNat) = 5 ∨ 7 ≤ ((a.toInt).toNat) ∧ ((a.toInt).toNat) ≤ 10) ∨ 102 = 106 ∨ 102 = 107) by omega) rfl)
          have t_75 : (M61.2.1 103 (a.toInt).toNat).toInt = (N.2.1 103 (a.toInt).toNat).toInt := congrArg Int32.toInt (F_n F54 (show ¬ (103 = 77 ∧ (((a.toInt).toNat) = 4 ∨ ((a.toInt).toNat) = 5 ∨ 7 ≤ ((a.toInt).toNat) ∧ ((a.toInt).toNat) ≤ 10) ∨ 103 = 106 ∨ 103 = 107) by omega) rfl)
          have t_76 : (M61.2.1 104 (a.toInt).toNat).toInt = (N.2.1 104 (a.toInt).toNat).toInt := congrArg Int32.toInt (F_n F54 (show ¬ (104 = 77 ∧ (((a.toInt).toNat) = 4 ∨ ((a.toInt).toNat) = 5 ∨ 7 ≤ ((a.toInt).toNat) ∧ ((a.toInt).toNat) ≤ 10) ∨ 104 = 106 ∨ 104 = 107) by omega) rfl)
          exact h (0 : Int32) M61 hG55 F62 (by decide) (by decide) (by omega) (by omega) (by omega) (by omega) (fun r i z z2 => (F_n F54 (show ¬ (r = 77 ∧ (i = 4 ∨ i = 5 ∨ 7 ≤ i ∧ i ≤ 10) ∨ r = 106 ∨ r = 107) by omega) (g8 r i z z2)))
set_option maxRecDepth 4000 in
set_option maxHeartbeats 0 in
theorem C_213 {X : mm_X} {d : Nat} {M : mm_M} {Q : Option Value → mm_M → Prop} {a : Int32} (hX : g_X X) (hd : 3 ≤ d) (hG : g_G M) (q1 : 0 ≤ a.toInt) (q2 : a.toInt ≤ 39) (q3 : (M.2.1 77 7).toInt ≤ (M.2.1 77 6).toInt) (h : ∀ (r : Int32) (M1 : mm_M), g_G M1 → FR md_ps M M1 → (0 ≤ r.toInt) → (r.toInt ≤ 1) → ((M1.2.1 77 7).toInt ≤ (M1.2.1 77 6).toInt) → ((M.2.1 77 7).toInt ≤ (M1.2.1 77 7).toInt) → (r.toInt = 1 → (M1.2.1 77 8).toInt = 0 ∨ (M.2.1 77 7).toInt < (M1.2.1 77 7).toInt) → (r.toInt = 1 → 0 ≤ (M1.2.1 102 (a.toInt).toNat).toInt ∧ (M1.2.1 102 (a.toInt).toNat).toInt ≤ 5 ∧ 0 ≤ (M1.2.1 103 (a.toInt).toNat).toInt ∧ 0 ≤ (M1.2.1 104 (a.toInt).toNat).toInt) → (∀ r i : Nat, (102 ≤ r ∧ r ≤ 104) → ¬ i = (a.toInt).toNat → M1.2.1 r i = M.2.1 r i) → Q (some (.int r)) M1) : mm_T X d 212 0 [.ref 77, .int a] [] M Q := by
  have F0 : FR md_ps M M := FR.rf
  have b_77 := g_b hG (a := 77) (i := 7) (lo := 0) (hi := 500) rfl rfl
  have b_78 := g_b hG (a := 77) (i := 6) (lo := 0) (hi := 500) rfl rfl
  refine to_an (pc := 0) rw_213_0 rfl (s_gR (pc := 1) rw_213_1 hG rfl (v := 102) rfl (to_in (pc := 4) rw_213_4 rfl (to_an (pc := 5) rw_213_5 rfl (s_v (pc := 6) rw_213_6 (dp0 hd (by decide)) (ls0 := [.ref 77, .null, .null]) rfl (Nat.le_of_ble_eq_true rfl) (Nat.le_of_ble_eq_true rfl) rfl (to_rc rfl rfl rfl (g_o hG rfl)) rfl ?_))))
  have b_79 := g_b hG (a := 77) (i := 8) (lo := 0) (hi := 5) rfl rfl
  refine C_211 hX (dp1 hd (by decide)) hG  (fun r80 M86 hG82 F81 p_83 p_84 p_85 => ?_)
  have F87 := FR.c F0 F81 tg_274
  refine s_ias (pc := 9) rw_213_9 hG82 rfl (n := 40) rfl (A := a.toInt) rfl (by omega) (by omega) (fun M89 W88 => ?_)
  have hG90 := g_w hG82 W88 (A := r80.toInt) rfl (lo := -1) (hi := 99) rfl rfl (by omega) (by decide)
  have F91 := FR.w F87 W88 (show 102 = 77 ∧ ((a.toInt).toNat = 4 ∨ (a.toInt).toNat = 5 ∨ 7 ≤ (a.toInt).toNat ∧ (a.toInt).toNat ≤ 10) ∨ 102 ≤ 102 ∧ 102 ≤ 104 ∨ 102 = 106 ∨ 102 = 107 by omega)
  refine to_an (pc := 10) rw_213_10 rfl (s_gR (pc := 11) rw_213_11 hG90 rfl (v := 102) rfl (to_in (pc := 14) rw_213_14 rfl (s_ialk (pc := 15) rw_213_15 hG90 rfl (n := 40) rfl rfl (A := a.toInt) rfl (by omega) (by omega) (v := r80) (W_e W88) (b_ige (pc := 16) rw_213_16 (A := r80.toInt) rfl (fun h94 => ?_) (fun h94 => ?_)))))
  · refine to_an (pc := 21) rw_213_21 rfl (s_v (pc := 22) rw_213_22 (dp0 hd (by decide)) (ls0 := [.ref 77]) rfl (Nat.le_of_ble_eq_true rfl) (Nat.le_of_ble_eq_true rfl) rfl (to_rc rfl rfl rfl (g_o hG90 rfl)) rfl ?_)
    have c_95 : M89.2.1 77 7 = (M.2.1 77 7) := (W_n W88 (fun z => absurd z.1 (by decide)) (F_n F81 (show ¬ (77 = 77 ∧ (7 = 4 ∨ 7 = 5)) by decide) rfl))
    have t_96 : (M89.2.1 77 7).toInt = (M.2.1 77 7).toInt := congrArg Int32.toInt c_95
    have c_97 : M89.2.1 77 6 = (M.2.1 77 6) := (W_n W88 (fun z => absurd z.1 (by decide)) (F_n F81 (show ¬ (77 = 77 ∧ (6 = 4 ∨ 6 = 5)) by decide) rfl))
    have t_98 : (M89.2.1 77 6).toInt = (M.2.1 77 6).toInt := congrArg Int32.toInt c_97
    refine C_156 hX (dp1 hd (by decide)) hG90 (by omega)  (fun M104 hG100 F99 p_101 p_102 p_103 => ?_)
    have F105 := FR.c F91 F99 tg_275
    have b_106 := g_b hG100 (a := 77) (i := 7) (lo := 0) (hi := 500) rfl rfl
    have c_107 : M104.2.1 77 6 = (M.2.1 77 6) := (F_n F99 (show ¬ (77 = 77 ∧ 7 ≤ 6 ∧ 6 ≤ 10) by decide) c_97)
    have t_108 : (M104.2.1 77 6).toInt = (M.2.1 77 6).toInt := congrArg Int32.toInt c_107
    have b_109 := g_b hG100 (a := 77) (i := 8) (lo := 0) (hi := 5) rfl rfl
    refine to_an (pc := 25) rw_213_25 rfl (to_c (pc := 26) rw_213_26 (x := (8 : Int32)) rfl rfl (s_v (pc := 28) rw_213_28 (dp0 hd (by decide)) (ls0 := [.ref 77, .int (8 : Int32)]) rfl (Nat.le_of_ble_eq_true rfl) (Nat.le_of_ble_eq_true rfl) rfl (to_rc rfl rfl rfl (g_o hG100 rfl)) rfl ?_))
    have k_110 : (8 : Int32).toInt = 8 := rfl
    refine C_161 hX (dp1 hd (by decide)) hG100 (by omega) (c := (8 : Int32)) (fun r111 M120 hG113 F112 p_114 p_115 p_116 p_117 p_118 p_119 => ?_)
    have F121 := FR.c F105 F112 tg_273
    have b_122 := g_b hG113 (a := 77) (i := 7) (lo := 0) (hi := 500) rfl rfl
    have c_123 : M120.2.1 77 6 = (M.2.1 77 6) := (F_n F112 (show ¬ (77 = 77 ∧ (6 = 4 ∨ 6 = 5 ∨ 7 ≤ 6 ∧ 6 ≤ 10)) by decide) c_107)
    have t_124 : (M120.2.1 77 6).toInt = (M.2.1 77 6).toInt := congrArg Int32.toInt c_123
    have b_125 := g_b hG113 (a := 77) (i := 8) (lo := 0) (hi := 5) rfl rfl
    refine b_ine (pc := 31) rw_213_31 (A := r111.toInt) rfl (fun h126 => ?_) (fun h126 => ?_)
    · refine to_an (pc := 36) rw_213_36 rfl (s_gR (pc := 37) rw_213_37 hG113 rfl (v := 103) rfl (to_in (pc := 40) rw_213_40 rfl (to_an (pc := 41) rw_213_41 rfl (s_v (pc := 42) rw_213_42 (dp0 hd (by decide)) (ls0 := [.ref 77, .null, .null]) rfl (Nat.le_of_ble_eq_true rfl) (Nat.le_of_ble_eq_true rfl) rfl (to_rc rfl rfl rfl (g_o hG113 rfl)) rfl (C_211 hX (dp1 hd (by decide)) hG113  (fun r127 M133 hG129 F128 p_130 p_131 p_132 => ?_))))))
      have F134 := FR.c F121 F128 tg_274
      refine s_ias (pc := 45) rw_213_45 hG129 rfl (n := 40) rfl (A := a.toInt) rfl (by omega) (by omega) (fun M136 W135 => ?_)
      have hG137 := g_w hG129 W135 (A := r127.toInt) rfl (lo := -1) (hi := 5) rfl rfl (by omega) (by decide)
      have F138 := FR.w F134 W135 (show 103 = 77 ∧ ((a.toInt).toNat = 4 ∨ (a.toInt).toNat = 5 ∨ 7 ≤ (a.toInt).toNat ∧ (a.toInt).toNat ≤ 10) ∨ 102 ≤ 103 ∧ 103 ≤ 104 ∨ 103 = 106 ∨ 103 = 107 by omega)
      refine to_an (pc := 46) rw_213_46 rfl (s_gR (pc := 47) rw_213_47 hG137 rfl (v := 103) rfl (to_in (pc := 50) rw_213_50 rfl (s_ialk (pc := 51) rw_213_51 hG137 rfl (n := 40) rfl rfl (A := a.toInt) rfl (by omega) (by omega) (v := r127) (W_e W135) (b_ige (pc := 52) rw_213_52 (A := r127.toInt) rfl (fun h141 => ?_) (fun h141 => ?_)))))
      · refine to_an (pc := 57) rw_213_57 rfl (s_v (pc := 58) rw_213_58 (dp0 hd (by decide)) (ls0 := [.ref 77]) rfl (Nat.le_of_ble_eq_true rfl) (Nat.le_of_ble_eq_true rfl) rfl (to_rc rfl rfl rfl (g_o hG137 rfl)) rfl ?_)
        have c_142 : M136.2.1 77 7 = (M120.2.1 77 7) := (W_n W135 (fun z => absurd z.1 (by decide)) (F_n F128 (show ¬ (77 = 77 ∧ (7 = 4 ∨ 7 = 5)) by decide) rfl))
        have t_143 : (M136.2.1 77 7).toInt = (M120.2.1 77 7).toInt := congrArg Int32.toInt c_142
        have c_144 : M136.2.1 77 6 = (M.2.1 77 6) := (W_n W135 (fun z => absurd z.1 (by decide)) (F_n F128 (show ¬ (77 = 77 ∧ (6 = 4 ∨ 6 = 5)) by decide) c_123))
        have t_145 : (M136.2.1 77 6).toInt = (M.2.1 77 6).toInt := congrArg Int32.toInt c_144
        refine C_156 hX (dp1 hd (by decide)) hG137 (by omega)  (fun M151 hG147 F146 p_148 p_149 p_150 => ?_)
        have F152 := FR.c F138 F146 tg_275
        have b_153 := g_b hG147 (a := 77) (i := 7) (lo := 0) (hi := 500) rfl rfl
        have c_154 : M151.2.1 77 6 = (M.2.1 77 6) := (F_n F146 (show ¬ (77 = 77 ∧ 7 ≤ 6 ∧ 6 ≤ 10) by decide) c_144)
        have t_155 : (M151.2.1 77 6).toInt = (M.2.1 77 6).toInt := congrArg Int32.toInt c_154
        have b_156 := g_b hG147 (a := 77) (i := 8) (lo := 0) (hi := 5) rfl rfl
        refine to_an (pc := 61) rw_213_61 rfl (s_gR (pc := 62) rw_213_62 hG147 rfl (v := 104) rfl (to_in (pc := 65) rw_213_65 rfl (to_an (pc := 66) rw_213_66 rfl (s_v (pc := 67) rw_213_67 (dp0 hd (by decide)) (ls0 := [.ref 77, .null, .null]) rfl (Nat.le_of_ble_eq_true rfl) (Nat.le_of_ble_eq_true rfl) rfl (to_rc rfl rfl rfl (g_o hG147 rfl)) rfl (C_211 hX (dp1 hd (by decide)) hG147  (fun r157 M163 hG159 F158 p_160 p_161 p_162 => ?_))))))
        have F164 := FR.c F152 F158 tg_274
        refine s_ias (pc := 70) rw_213_70 hG159 rfl (n := 40) rfl (A := a.toInt) rfl (by omega) (by omega) (fun M166 W165 => ?_)
        have hG167 := g_w hG159 W165 (A := r157.toInt) rfl (lo := -1) (hi := 5) rfl rfl (by omega) (by decide)
        have F168 := FR.w F164 W165 (show 104 = 77 ∧ ((a.toInt).toNat = 4 ∨ (a.toInt).toNat = 5 ∨ 7 ≤ (a.toInt).toNat ∧ (a.toInt).toNat ≤ 10) ∨ 102 ≤ 104 ∧ 104 ≤ 104 ∨ 104 = 106 ∨ 104 = 107 by omega)
        refine to_an (pc := 71) rw_213_71 rfl (s_gR (pc := 72) rw_213_72 hG167 rfl (v := 104) rfl (to_in (pc := 75) rw_213_75 rfl (s_ialk (pc := 76) rw_213_76 hG167 rfl (n := 40) rfl rfl (A := a.toInt) rfl (by omega) (by omega) (v := r157) (W_e W165) (b_ige (pc := 77) rw_213_77 (A := r157.toInt) rfl (fun h171 => ?_) (fun h171 => ?_)))))
        · refine to_an (pc := 82) rw_213_82 rfl (s_v (pc := 83) rw_213_83 (dp0 hd (by decide)) (ls0 := [.ref 77]) rfl (Nat.le_of_ble_eq_true rfl) (Nat.le_of_ble_eq_true rfl) rfl (to_rc rfl rfl rfl (g_o hG167 rfl)) rfl ?_)
          have c_172 : M166.2.1 77 7 = (M151.2.1 77 7) := (W_n W165 (fun z => absurd z.1 (by decide)) (F_n F158 (show ¬ (77 = 77 ∧ (7 = 4 ∨ 7 = 5)) by decide) rfl))
          have t_173 : (M166.2.1 77 7).toInt = (M151.2.1 77 7).toInt := congrArg Int32.toInt c_172
          have c_174 : M166.2.1 77 6 = (M.2.1 77 6) := (W_n W165 (fun z => absurd z.1 (by decide)) (F_n F158 (show ¬ (77 = 77 ∧ (6 = 4 ∨ 6 = 5)) by decide) c_154))
          have t_175 : (M166.2.1 77 6).toInt = (M.2.1 77 6).toInt := congrArg Int32.toInt c_174
          refine C_156 hX (dp1 hd (by decide)) hG167 (by omega)  (fun M181 hG177 F176 p_178 p_179 p_180 => ?_)
          have F182 := FR.c F168 F176 tg_275
          have b_183 := g_b hG177 (a := 77) (i := 7) (lo := 0) (hi := 500) rfl rfl
          have c_184 : M181.2.1 77 6 = (M.2.1 77 6) := (F_n F176 (show ¬ (77 = 77 ∧ 7 ≤ 6 ∧ 6 ≤ 10) by decide) c_174)
          have t_185 : (M181.2.1 77 6).toInt = (M.2.1 77 6).toInt := congrArg Int32.toInt c_184
          have b_186 := g_b hG177 (a := 77) (i := 8) (lo := 0) (hi := 5) rfl rfl
          refine to_an (pc := 86) rw_213_86 rfl (to_c (pc := 87) rw_213_87 (x := (9 : Int32)) rfl rfl (s_v (pc := 89) rw_213_89 (dp0 hd (by decide)) (ls0 := [.ref 77, .int (9 : Int32)]) rfl (Nat.le_of_ble_eq_true rfl) (Nat.le_of_ble_eq_true rfl) rfl (to_rc rfl rfl rfl (g_o hG177 rfl)) rfl ?_))
          have k_187 : (9 : Int32).toInt = 9 := rfl
          refine C_161 hX (dp1 hd (by decide)) hG177 (by omega) (c := (9 : Int32)) (fun r188 M197 hG190 F189 p_191 p_192 p_193 p_194 p_195 p_196 => ?_)
          have F198 := FR.c F182 F189 tg_273
          have b_199 := g_b hG190 (a := 77) (i := 7) (lo := 0) (hi := 500) rfl rfl
          have c_200 : M197.2.1 77 6 = (M.2.1 77 6) := (F_n F189 (show ¬ (77 = 77 ∧ (6 = 4 ∨ 6 = 5 ∨ 7 ≤ 6 ∧ 6 ≤ 10)) by decide) c_184)
          have t_201 : (M197.2.1 77 6).toInt = (M.2.1 77 6).toInt := congrArg Int32.toInt c_200
          have b_202 := g_b hG190 (a := 77) (i := 8) (lo := 0) (hi := 5) rfl rfl
          refine b_ine (pc := 92) rw_213_92 (A := r188.toInt) rfl (fun h203 => ?_) (fun h203 => ?_)
          · refine to_an (pc := 97) rw_213_97 rfl (tt_gI (pc := 98) rw_213_98 (g_o hG190 rfl) (v := (M197.2.1 77 8)) rfl (to_c (pc := 101) rw_213_101 (x := (3 : Int32)) rfl rfl (b_ceq (pc := 102) rw_213_102 (A := (M197.2.1 77 8).toInt) (B := 3) rfl rfl (fun h204 => ?_) (fun h204 => ?_))))
            · refine to_an (pc := 119) rw_213_119 rfl (s_gR (pc := 120) rw_213_120 hG190 rfl (v := 106) rfl (to_in (pc := 123) rw_213_123 rfl (s_cl (pc := 124) rw_213_124 rfl (fun l205 => s_las (pc := 125) rw_213_125 hG190 rfl (n := 40) rfl (A := a.toInt) rfl (by omega) (by omega) (fun M207 W206 => ?_)))))
              have hG208 := g_wl hG190 W206
              have F209 := FR.wl F198 W206 (show 106 = 77 ∧ ((a.toInt).toNat = 4 ∨ (a.toInt).toNat = 5 ∨ 7 ≤ (a.toInt).toNat ∧ (a.toInt).toNat ≤ 10) ∨ 102 ≤ 106 ∧ 106 ≤ 104 ∨ 106 = 106 ∨ 106 = 107 by omega)
              refine to_an (pc := 126) rw_213_126 rfl (s_gR (pc := 127) rw_213_127 hG208 rfl (v := 107) rfl (to_in (pc := 130) rw_213_130 rfl (to_c (pc := 131) rw_213_131 (x := (0 : Int32)) rfl rfl (s_ias (pc := 132) rw_213_132 hG208 rfl (n := 40) rfl (A := a.toInt) rfl (by omega) (by omega) (fun M211 W210 => ?_)))))
              have hG212 := g_wf hG208 W210 rfl rfl (by decide)
              have F213 := FR.w F209 W210 (show 107 = 77 ∧ ((a.toInt).toNat = 4 ∨ (a.toInt).toNat = 5 ∨ 7 ≤ (a.toInt).toNat ∧ (a.toInt).toNat ≤ 10) ∨ 102 ≤ 107 ∧ 107 ≤ 104 ∨ 107 = 106 ∨ 107 = 107 by omega)
              have c_214 : M211.2.1 77 7 = (M197.2.1 77 7) := (W_n W210 (fun z => absurd z.1 (by decide)) (W_l W206 rfl))
              have t_215 : (M211.2.1 77 7).toInt = (M197.2.1 77 7).toInt := congrArg Int32.toInt c_214
              have c_216 : M211.2.1 77 6 = (M.2.1 77 6) := (W_n W210 (fun z => absurd z.1 (by decide)) (W_l W206 c_200))
              have t_217 : (M211.2.1 77 6).toInt = (M.2.1 77 6).toInt := congrArg Int32.toInt c_216
              have c_218 : M211.2.1 77 8 = (M197.2.1 77 8) := (W_n W210 (fun z => absurd z.1 (by decide)) (W_l W206 rfl))
              have t_219 : (M211.2.1 77 8).toInt = (M197.2.1 77 8).toInt := congrArg Int32.toInt c_218
              have t_220 : (M89.2.1 102 (a.toInt).toNat).toInt = r80.toInt := congrArg Int32.toInt (W_e W88)
              have t_221 : (M211.2.1 102 (a.toInt).toNat).toInt = (M89.2.1 102 (a.toInt).toNat).toInt := congrArg Int32.toInt (W_n W210 (by omega) (W_l W206 (F_n F189 (show ¬ (102 = 77 ∧ (((a.toInt).toNat) = 4 ∨ ((a.toInt).toNat) = 5 ∨ 7 ≤ ((a.toInt).toNat) ∧ ((a.toInt).toNat) ≤ 10)) by omega) (F_n F176 (show ¬ (102 = 77 ∧ 7 ≤ ((a.toInt).toNat) ∧ ((a.toInt).toNat) ≤ 10) by omega) (W_n W165 (by omega) (F_n F158 (show ¬ (102 = 77 ∧ (((a.toInt).toNat) = 4 ∨ ((a.toInt).toNat) = 5)) by omega) (F_n F146 (show ¬ (102 = 77 ∧ 7 ≤ ((a.toInt).toNat) ∧ ((a.toInt).toNat) ≤ 10) by omega) (W_n W135 (by omega) (F_n F128 (show ¬ (102 = 77 ∧ (((a.toInt).toNat) = 4 ∨ ((a.toInt).toNat) = 5)) by omega) (F_n F112 (show ¬ (102 = 77 ∧ (((a.toInt).toNat) = 4 ∨ ((a.toInt).toNat) = 5 ∨ 7 ≤ ((a.toInt).toNat) ∧ ((a.toInt).toNat) ≤ 10)) by omega) (F_n F99 (show ¬ (102 = 77 ∧ 7 ≤ ((a.toInt).toNat) ∧ ((a.toInt).toNat) ≤ 10) by omega) rfl)))))))))))
              have t_222 : (M89.2.1 102 (a.toInt).toNat).toInt = r80.toInt := congrArg Int32.toInt (W_e W88)
              have t_223 : (M211.2.1 102 (a.toInt).toNat).toInt = (M89.2.1 102 (a.toInt).toNat).toInt := congrArg Int32.toInt (W_n W210 (by omega) (W_l W206 (F_n F189 (show ¬ (102 = 77 ∧ (((a.toInt).toNat) = 4 ∨ ((a.toInt).toNat) = 5 ∨ 7 ≤ ((a.toInt).toNat) ∧ ((a.toInt).toNat) ≤ 10)) by omega) (F_n F176 (show ¬ (102 = 77 ∧ 7 ≤ ((a.toInt).toNat) ∧ ((a.toInt).toNat) ≤ 10) by omega) (W_n W165 (by omega) (F_n F158 (show ¬ (102 = 77 ∧ (((a.toInt).toNat) = 4 ∨ ((a.toInt).toNat) = 5)) by omega) (F_n F146 (show ¬ (102 = 77 ∧ 7 ≤ ((a.toInt).toNat) ∧ ((a.toInt).toNat) ≤ 10) by omega) (W_n W135 (by omega) (F_n F128 (show ¬ (102 = 77 ∧ (((a.toInt).toNat) = 4 ∨ ((a.toInt).toNat) = 5)) by omega) (F_n F112 (show ¬ (102 = 77 ∧ (((a.toInt).toNat) = 4 ∨ ((a.toInt).toNat) = 5 ∨ 7 ≤ ((a.toInt).toNat) ∧ ((a.toInt).toNat) ≤ 10)) by omega) (F_n F99 (show ¬ (102 = 77 ∧ 7 ≤ ((a.toInt).toNat) ∧ ((a.toInt).toNat) ≤ 10) by omega) rfl)))))))))))
              have t_224 : (M136.2.1 103 (a.toInt).toNat).toInt = r127.toInt := congrArg Int32.toInt (W_e W135)
              have t_225 : (M211.2.1 103 (a.toInt).toNat).toInt = (M136.2.1 103 (a.toInt).toNat).toInt := congrArg Int32.toInt (W_n W210 (by omega) (W_l W206 (F_n F189 (show ¬ (103 = 77 ∧ (((a.toInt).toNat) = 4 ∨ ((a.toInt).toNat) = 5 ∨ 7 ≤ ((a.toInt).toNat) ∧ ((a.toInt).toNat) ≤ 10)) by omega) (F_n F176 (show ¬ (103 = 77 ∧ 7 ≤ ((a.toInt).toNat) ∧ ((a.toInt).toNat) ≤ 10) by omega) (W_n W165 (by omega) (F_n F158 (show ¬ (103 = 77 ∧ (((a.toInt).toNat) = 4 ∨ ((a.toInt).toNat) = 5)) by omega) (F_n F146 (show ¬ (103 = 77 ∧ 7 ≤ ((a.toInt).toNat) ∧ ((a.toInt).toNat) ≤ 10) by omega) rfl)))))))
              have t_226 : (M166.2.1 104 (a.toInt).toNat).toInt = r157.toInt := congrArg Int32.toInt (W_e W165)
              have t_227 : (M211.2.1 104 (a.toInt).toNat).toInt = (M166.2.1 104 (a.toInt).toNat).toInt := congrArg Int32.toInt (W_n W210 (by omega) (W_l W206 (F_n F189 (show ¬ (104 = 77 ∧ (((a.toInt).toNat) = 4 ∨ ((a.toInt).toNat) = 5 ∨ 7 ≤ ((a.toInt).toNat) ∧ ((a.toInt).toNat) ≤ 10)) by omega) (F_n F176 (show ¬ (104 = 77 ∧ 7 ≤ ((a.toInt).toNat) ∧ ((a.toInt).toNat) ≤ 10) by omega) rfl))))
              exact (T_213_0 (a := a) hX hd q1 q2 q3 h ((6 * (500 - (M211.2.1 77 7).toInt) + (M211.2.1 77 8).toInt).toNat + 1)) M211  hG212 F213 (by omega) (by omega) (by omega) (by omega) (by omega) (by omega) (by omega) (fun r i z z2 => (W_n W210 (by omega) (W_l W206 (F_n F189 (show ¬ (r = 77 ∧ (i = 4 ∨ i = 5 ∨ 7 ≤ i ∧ i ≤ 10)) by omega) (F_n F176 (show ¬ (r = 77 ∧ 7 ≤ i ∧ i ≤ 10) by omega) (W_n W165 (by omega) (F_n F158 (show ¬ (r = 77 ∧ (i = 4 ∨ i = 5)) by omega) (F_n F146 (show ¬ (r = 77 ∧ 7 ≤ i ∧ i ≤ 10) by omega) (W_n W135 (by omega) (F_n F128 (show ¬ (r = 77 ∧ (i = 4 ∨ i = 5)) by omega) (F_n F112 (show ¬ (r = 77 ∧ (i = 4 ∨ i = 5 ∨ 7 ≤ i ∧ i ≤ 10)) by omega) (F_n F99 (show ¬ (r = 77 ∧ 7 ≤ i ∧ i ≤ 10) by omega) (W_n W88 (by omega) (F_n F81 (show ¬ (r = 77 ∧ (i = 4 ∨ i = 5)) by omega) rfl)))))))))))))) (by omega)
            · refine to_an (pc := 105) rw_213_105 rfl (tt_gI (pc := 106) rw_213_106 (g_o hG190 rfl) (v := (M197.2.1 77 8)) rfl (to_c (pc := 109) rw_213_109 (x := (2 : Int32)) rfl rfl (b_ceq (pc := 110) rw_213_110 (A := (M197.2.1 77 8).toInt) (B := 2) rfl rfl (fun h228 => ?_) (fun h228 => ?_))))
              · refine to_an (pc := 119) rw_213_119 rfl (s_gR (pc := 120) rw_213_120 hG190 rfl (v := 106) rfl (to_in (pc := 123) rw_213_123 rfl (s_cl (pc := 124) rw_213_124 rfl (fun l229 => s_las (pc := 125) rw_213_125 hG190 rfl (n := 40) rfl (A := a.toInt) rfl (by omega) (by omega) (fun M231 W230 => ?_)))))
                have hG232 := g_wl hG190 W230
                have F233 := FR.wl F198 W230 (show 106 = 77 ∧ ((a.toInt).toNat = 4 ∨ (a.toInt).toNat = 5 ∨ 7 ≤ (a.toInt).toNat ∧ (a.toInt).toNat ≤ 10) ∨ 102 ≤ 106 ∧ 106 ≤ 104 ∨ 106 = 106 ∨ 106 = 107 by omega)
                refine to_an (pc := 126) rw_213_126 rfl (s_gR (pc := 127) rw_213_127 hG232 rfl (v := 107) rfl (to_in (pc := 130) rw_213_130 rfl (to_c (pc := 131) rw_213_131 (x := (0 : Int32)) rfl rfl (s_ias (pc := 132) rw_213_132 hG232 rfl (n := 40) rfl (A := a.toInt) rfl (by omega) (by omega) (fun M235 W234 => ?_)))))
                have hG236 := g_wf hG232 W234 rfl rfl (by decide)
                have F237 := FR.w F233 W234 (show 107 = 77 ∧ ((a.toInt).toNat = 4 ∨ (a.toInt).toNat = 5 ∨ 7 ≤ (a.toInt).toNat ∧ (a.toInt).toNat ≤ 10) ∨ 102 ≤ 107 ∧ 107 ≤ 104 ∨ 107 = 106 ∨ 107 = 107 by omega)
                have c_238 : M235.2.1 77 7 = (M197.2.1 77 7) := (W_n W234 (fun z => absurd z.1 (by decide)) (W_l W230 rfl))
                have t_239 : (M235.2.1 77 7).toInt = (M197.2.1 77 7).toInt := congrArg Int32.toInt c_238
                have c_240 : M235.2.1 77 6 = (M.2.1 77 6) := (W_n W234 (fun z => absurd z.1 (by decide)) (W_l W230 c_200))
                have t_241 : (M235.2.1 77 6).toInt = (M.2.1 77 6).toInt := congrArg Int32.toInt c_240
                have c_242 : M235.2.1 77 8 = (M197.2.1 77 8) := (W_n W234 (fun z => absurd z.1 (by decide)) (W_l W230 rfl))
                have t_243 : (M235.2.1 77 8).toInt = (M197.2.1 77 8).toInt := congrArg Int32.toInt c_242
                have t_244 : (M89.2.1 102 (a.toInt).toNat).toInt = r80.toInt := congrArg Int32.toInt (W_e W88)
                have t_245 : (M235.2.1 102 (a.toInt).toNat).toInt = (M89.2.1 102 (a.toInt).toNat).toInt := congrArg Int32.toInt (W_n W234 (by omega) (W_l W230 (F_n F189 (show ¬ (102 = 77 ∧ (((a.toInt).toNat) = 4 ∨ ((a.toInt).toNat) = 5 ∨ 7 ≤ ((a.toInt).toNat) ∧ ((a.toInt).toNat) ≤ 10)) by omega) (F_n F176 (show ¬ (102 = 77 ∧ 7 ≤ ((a.toInt).toNat) ∧ ((a.toInt).toNat) ≤ 10) by omega) (W_n W165 (by omega) (F_n F158 (show ¬ (102 = 77 ∧ (((a.toInt).toNat) = 4 ∨ ((a.toInt).toNat) = 5)) by omega) (F_n F146 (show ¬ (102 = 77 ∧ 7 ≤ ((a.toInt).toNat) ∧ ((a.toInt).toNat) ≤ 10) by omega) (W_n W135 (by omega) (F_n F128 (show ¬ (102 = 77 ∧ (((a.toInt).toNat) = 4 ∨ ((a.toInt).toNat) = 5)) by omega) (F_n F112 (show ¬ (102 = 77 ∧ (((a.toInt).toNat) = 4 ∨ ((a.toInt).toNat) = 5 ∨ 7 ≤ ((a.toInt).toNat) ∧ ((a.toInt).toNat) ≤ 10)) by omega) (F_n F99 (show ¬ (102 = 77 ∧ 7 ≤ ((a.toInt).toNat) ∧ ((a.toInt).toNat) ≤ 10) by omega) rfl)))))))))))
                have t_246 : (M89.2.1 102 (a.toInt).toNat).toInt = r80.toInt := congrArg Int32.toInt (W_e W88)
                have t_247 : (M235.2.1 102 (a.toInt).toNat).toInt = (M89.2.1 102 (a.toInt).toNat).toInt := congrArg Int32.toInt (W_n W234 (by omega) (W_l W230 (F_n F189 (show ¬ (102 = 77 ∧ (((a.toInt).toNat) = 4 ∨ ((a.toInt).toNat) = 5 ∨ 7 ≤ ((a.toInt).toNat) ∧ ((a.toInt).toNat) ≤ 10)) by omega) (F_n F176 (show ¬ (102 = 77 ∧ 7 ≤ ((a.toInt).toNat) ∧ ((a.toInt).toNat) ≤ 10) by omega) (W_n W165 (by omega) (F_n F158 (show ¬ (102 = 77 ∧ (((a.toInt).toNat) = 4 ∨ ((a.toInt).toNat) = 5)) by omega) (F_n F146 (show ¬ (102 = 77 ∧ 7 ≤ ((a.toInt).toNat) ∧ ((a.toInt).toNat) ≤ 10) by omega) (W_n W135 (by omega) (F_n F128 (show ¬ (102 = 77 ∧ (((a.toInt).toNat) = 4 ∨ ((a.toInt).toNat) = 5)) by omega) (F_n F112 (show ¬ (102 = 77 ∧ (((a.toInt).toNat) = 4 ∨ ((a.toInt).toNat) = 5 ∨ 7 ≤ ((a.toInt).toNat) ∧ ((a.toInt).toNat) ≤ 10)) by omega) (F_n F99 (show ¬ (102 = 77 ∧ 7 ≤ ((a.toInt).toNat) ∧ ((a.toInt).toNat) ≤ 10) by omega) rfl)))))))))))
                have t_248 : (M136.2.1 103 (a.toInt).toNat).toInt = r127.toInt := congrArg Int32.toInt (W_e W135)
                have t_249 : (M235.2.1 103 (a.toInt).toNat).toInt = (M136.2.1 103 (a.toInt).toNat).toInt := congrArg Int32.toInt (W_n W234 (by omega) (W_l W230 (F_n F189 (show ¬ (103 = 77 ∧ (((a.toInt).toNat) = 4 ∨ ((a.toInt).toNat) = 5 ∨ 7 ≤ ((a.toInt).toNat) ∧ ((a.toInt).toNat) ≤ 10)) by omega) (F_n F176 (show ¬ (103 = 77 ∧ 7 ≤ ((a.toInt).toNat) ∧ ((a.toInt).toNat) ≤ 10) by omega) (W_n W165 (by omega) (F_n F158 (show ¬ (103 = 77 ∧ (((a.toInt).toNat) = 4 ∨ ((a.toInt).toNat) = 5)) by omega) (F_n F146 (show ¬ (103 = 77 ∧ 7 ≤ ((a.toInt).toNat) ∧ ((a.toInt).toNat) ≤ 10) by omega) rfl)))))))
                have t_250 : (M166.2.1 104 (a.toInt).toNat).toInt = r157.toInt := congrArg Int32.toInt (W_e W165)
                have t_251 : (M235.2.1 104 (a.toInt).toNat).toInt = (M166.2.1 104 (a.toInt).toNat).toInt := congrArg Int32.toInt (W_n W234 (by omega) (W_l W230 (F_n F189 (show ¬ (104 = 77 ∧ (((a.toInt).toNat) = 4 ∨ ((a.toInt).toNat) = 5 ∨ 7 ≤ ((a.toInt).toNat) ∧ ((a.toInt).toNat) ≤ 10)) by omega) (F_n F176 (show ¬ (104 = 77 ∧ 7 ≤ ((a.toInt).toNat) ∧ ((a.toInt).toNat) ≤ 10) by omega) rfl))))
                exact (T_213_0 (a := a) hX hd q1 q2 q3 h ((6 * (500 - (M235.2.1 77 7).toInt) + (M235.2.1 77 8).toInt).toNat + 1)) M235  hG236 F237 (by omega) (by omega) (by omega) (by omega) (by omega) (by omega) (by omega) (fun r i z z2 => (W_n W234 (by omega) (W_l W230 (F_n F189 (show ¬ (r = 77 ∧ (i = 4 ∨ i = 5 ∨ 7 ≤ i ∧ i ≤ 10)) by omega) (F_n F176 (show ¬ (r = 77 ∧ 7 ≤ i ∧ i ≤ 10) by omega) (W_n W165 (by omega) (F_n F158 (show ¬ (r = 77 ∧ (i = 4 ∨ i = 5)) by omega) (F_n F146 (show ¬ (r = 77 ∧ 7 ≤ i ∧ i ≤ 10) by omega) (W_n W135 (by omega) (F_n F128 (show ¬ (r = 77 ∧ (i = 4 ∨ i = 5)) by omega) (F_n F112 (show ¬ (r = 77 ∧ (i = 4 ∨ i = 5 ∨ 7 ≤ i ∧ i ≤ 10)) by omega) (F_n F99 (show ¬ (r = 77 ∧ 7 ≤ i ∧ i ≤ 10) by omega) (W_n W88 (by omega) (F_n F81 (show ¬ (r = 77 ∧ (i = 4 ∨ i = 5)) by omega) rfl)))))))))))))) (by omega)
              · refine to_an (pc := 113) rw_213_113 rfl (to_c (pc := 114) rw_213_114 (x := (1 : Int32)) rfl rfl (s_v (pc := 115) rw_213_115 (dp0 hd (by decide)) (ls0 := [.ref 77, .int (1 : Int32)]) rfl (Nat.le_of_ble_eq_true rfl) (Nat.le_of_ble_eq_true rfl) rfl (to_rc rfl rfl rfl (g_o hG190 rfl)) rfl (to_an (pc := 0) rw_152_0 rfl (to_in (pc := 1) rw_152_1 rfl (s_pI (pc := 2) rw_152_2 hG190 rfl (fun M253 W252 => ?_))))))
                have hG254 := g_wf hG190 W252 rfl rfl (by decide)
                have F255 := FR.w F198 W252 (show 77 = 77 ∧ (4 = 4 ∨ 4 = 5 ∨ 7 ≤ 4 ∧ 4 ≤ 10) ∨ 102 ≤ 77 ∧ 77 ≤ 104 ∨ 77 = 106 ∨ 77 = 107 by decide)
                refine to_an (pc := 5) rw_152_5 rfl (to_an (pc := 6) rw_152_6 rfl ?_)
                have c_256 : M253.2.1 77 10 = (M197.2.1 77 10) := (W_n W252 (by decide) rfl)
                have b_257 := g_b hG190 (a := 77) (i := 10) (lo := 0) (hi := 500) rfl rfl
                refine tt_gI (pc := 7) rw_152_7 (g_o hG254 rfl) (v := (M197.2.1 77 10)) c_256 (s_pI (pc := 10) rw_152_10 hG254 rfl (fun M259 W258 => ?_))
                have hG260 := g_wf hG254 W258 rfl rfl (by decide)
                have F261 := FR.w F255 W258 (show 77 = 77 ∧ (5 = 4 ∨ 5 = 5 ∨ 7 ≤ 5 ∧ 5 ≤ 10) ∨ 102 ≤ 77 ∧ 77 ≤ 104 ∨ 77 = 106 ∨ 77 = 107 by decide)
                refine to_c (pc := 13) rw_152_13 (x := (0 : Int32)) rfl rfl (s_r1 (pc := 14) rw_152_14 (A := 0) rfl (by decide) (s_r1 (pc := 118) rw_213_118 (A := 0) rfl (by decide) ?_))
                have k_262 : (0 : Int32).toInt = 0 := rfl
                have c_263 : M259.2.1 77 7 = (M197.2.1 77 7) := (W_n W258 (by decide) (W_n W252 (by decide) rfl))
                have t_264 : (M259.2.1 77 7).toInt = (M197.2.1 77 7).toInt := congrArg Int32.toInt c_263
                have c_265 : M259.2.1 77 6 = (M.2.1 77 6) := (W_n W258 (by decide) (W_n W252 (by decide) c_200))
                have t_266 : (M259.2.1 77 6).toInt = (M.2.1 77 6).toInt := congrArg Int32.toInt c_265
                have c_267 : M259.2.1 77 8 = (M197.2.1 77 8) := (W_n W258 (by decide) (W_n W252 (by decide) rfl))
                have t_268 : (M259.2.1 77 8).toInt = (M197.2.1 77 8).toInt := congrArg Int32.toInt c_267
                have t_269 : (M89.2.1 102 (a.toInt).toNat).toInt = r80.toInt := congrArg Int32.toInt (W_e W88)
                have t_270 : (M259.2.1 102 (a.toInt).toNat).toInt = (M89.2.1 102 (a.toInt).toNat).toInt := congrArg Int32.toInt (W_n W258 (by omega) (W_n W252 (by omega) (F_n F189 (show ¬ (102 = 77 ∧ (((a.toInt).toNat) = 4 ∨ ((a.toInt).toNat) = 5 ∨ 7 ≤ ((a.toInt).toNat) ∧ ((a.toInt).toNat) ≤ 10)) by omega) (F_n F176 (show ¬ (102 = 77 ∧ 7 ≤ ((a.toInt).toNat) ∧ ((a.toInt).toNat) ≤ 10) by omega) (W_n W165 (by omega) (F_n F158 (show ¬ (102 = 77 ∧ (((a.toInt).toNat) = 4 ∨ ((a.toInt).toNat) = 5)) by omega) (F_n F146 (show ¬ (102 = 77 ∧ 7 ≤ ((a.toInt).toNat) ∧ ((a.toInt).toNat) ≤ 10) by omega) (W_n W135 (by omega) (F_n F128 (show ¬ (102 = 77 ∧ (((a.toInt).toNat) = 4 ∨ ((a.toInt).toNat) = 5)) by omega) (F_n F112 (show ¬ (102 = 77 ∧ (((a.toInt).toNat) = 4 ∨ ((a.toInt).toNat) = 5 ∨ 7 ≤ ((a.toInt).toNat) ∧ ((a.toInt).toNat) ≤ 10)) by omega) (F_n F99 (show ¬ (102 = 77 ∧ 7 ≤ ((a.toInt).toNat) ∧ ((a.toInt).toNat) ≤ 10) by omega) rfl)))))))))))
                have t_271 : (M89.2.1 102 (a.toInt).toNat).toInt = r80.toInt := congrArg Int32.toInt (W_e W88)
                have t_272 : (M259.2.1 102 (a.toInt).toNat).toInt = (M89.2.1 102 (a.toInt).toNat).toInt := congrArg Int32.toInt (W_n W258 (by omega) (W_n W252 (by omega) (F_n F189 (show ¬ (102 = 77 ∧ (((a.toInt).toNat) = 4 ∨ ((a.toInt).toNat) = 5 ∨ 7 ≤ ((a.toInt).toNat) ∧ ((a.toInt).toNat) ≤ 10)) by omega) (F_n F176 (show ¬ (102 = 77 ∧ 7 ≤ ((a.toInt).toNat) ∧ ((a.toInt).toNat) ≤ 10) by omega) (W_n W165 (by omega) (F_n F158 (show ¬ (102 = 77 ∧ (((a.toInt).toNat) = 4 ∨ ((a.toInt).toNat) = 5)) by omega) (F_n F146 (show ¬ (102 = 77 ∧ 7 ≤ ((a.toInt).toNat) ∧ ((a.toInt).toNat) ≤ 10) by omega) (W_n W135 (by omega) (F_n F128 (show ¬ (102 = 77 ∧ (((a.toInt).toNat) = 4 ∨ ((a.toInt).toNat) = 5)) by omega) (F_n F112 (show ¬ (102 = 77 ∧ (((a.toInt).toNat) = 4 ∨ ((a.toInt).toNat) = 5 ∨ 7 ≤ ((a.toInt).toNat) ∧ ((a.toInt).toNat) ≤ 10)) by omega) (F_n F99 (show ¬ (102 = 77 ∧ 7 ≤ ((a.toInt).toNat) ∧ ((a.toInt).toNat) ≤ 10) by omega) rfl)))))))))))
                have t_273 : (M136.2.1 103 (a.toInt).toNat).toInt = r127.toInt := congrArg Int32.toInt (W_e W135)
                have t_274 : (M259.2.1 103 (a.toInt).toNat).toInt = (M136.2.1 103 (a.toInt).toNat).toInt := congrArg Int32.toInt (W_n W258 (by omega) (W_n W252 (by omega) (F_n F189 (show ¬ (103 = 77 ∧ (((a.toInt).toNat) = 4 ∨ ((a.toInt).toNat) = 5 ∨ 7 ≤ ((a.toInt).toNat) ∧ ((a.toInt).toNat) ≤ 10)) by omega) (F_n F176 (show ¬ (103 = 77 ∧ 7 ≤ ((a.toInt).toNat) ∧ ((a.toInt).toNat) ≤ 10) by omega) (W_n W165 (by omega) (F_n F158 (show ¬ (103 = 77 ∧ (((a.toInt).toNat) = 4 ∨ ((a.toInt).toNat) = 5)) by omega) (F_n F146 (show ¬ (103 = 77 ∧ 7 ≤ ((a.toInt).toNat) ∧ ((a.toInt).toNat) ≤ 10) by omega) rfl)))))))
                have t_275 : (M166.2.1 104 (a.toInt).toNat).toInt = r157.toInt := congrArg Int32.toInt (W_e W165)
                have t_276 : (M259.2.1 104 (a.toInt).toNat).toInt = (M166.2.1 104 (a.toInt).toNat).toInt := congrArg Int32.toInt (W_n W258 (by omega) (W_n W252 (by omega) (F_n F189 (show ¬ (104 = 77 ∧ (((a.toInt).toNat) = 4 ∨ ((a.toInt).toNat) = 5 ∨ 7 ≤ ((a.toInt).toNat) ∧ ((a.toInt).toNat) ≤ 10)) by omega) (F_n F176 (show ¬ (104 = 77 ∧ 7 ≤ ((a.toInt).toNat) ∧ ((a.toInt).toNat) ≤ 10) by omega) rfl))))
                exact h (0 : Int32) M259 hG260 F261 (by decide) (by decide) (by omega) (by omega) (by omega) (by omega) (fun r i z z2 => (W_n W258 (by omega) (W_n W252 (by omega) (F_n F189 (show ¬ (r = 77 ∧ (i = 4 ∨ i = 5 ∨ 7 ≤ i ∧ i ≤ 10)) by omega) (F_n F176 (show ¬ (r = 77 ∧ 7 ≤ i ∧ i ≤ 10) by omega) (W_n W165 (by omega) (F_n F158 (show ¬ (r = 77 ∧ (i = 4 ∨ i = 5)) by omega) (F_n F146 (show ¬ (r = 77 ∧ 7 ≤ i ∧ i ≤ 10) by omega) (W_n W135 (by omega) (F_n F128 (show ¬ (r = 77 ∧ (i = 4 ∨ i = 5)) by omega) (F_n F112 (show ¬ (r = 77 ∧ (i = 4 ∨ i = 5 ∨ 7 ≤ i ∧ i ≤ 10)) by omega) (F_n F99 (show ¬ (r = 77 ∧ 7 ≤ i ∧ i ≤ 10) by omega) (W_n W88 (by omega) (F_n F81 (show ¬ (r = 77 ∧ (i = 4 ∨ i = 5)) by omega) rfl))))))))))))))
          · refine to_c (pc := 95) rw_213_95 (x := (0 : Int32)) rfl rfl (s_r1 (pc := 96) rw_213_96 (A := 0) rfl (by decide) ?_)
            have k_277 : (0 : Int32).toInt = 0 := rfl
            have t_278 : (M89.2.1 102 (a.toInt).toNat).toInt = r80.toInt := congrArg Int32.toInt (W_e W88)
            have t_279 : (M197.2.1 102 (a.toInt).toNat).toInt = (M89.2.1 102 (a.toInt).toNat).toInt := congrArg Int32.toInt (F_n F189 (show ¬ (102 = 77 ∧ (((a.toInt).toNat) = 4 ∨ ((a.toInt).toNat) = 5 ∨ 7 ≤ ((a.toInt).toNat) ∧ ((a.toInt).toNat) ≤ 10)) by omega) (F_n F176 (show ¬ (102 = 77 ∧ 7 ≤ ((a.toInt).toNat) ∧ ((a.toInt).toNat) ≤ 10) by omega) (W_n W165 (by omega) (F_n F158 (show ¬ (102 = 77 ∧ (((a.toInt).toNat) = 4 ∨ ((a.toInt).toNat) = 5)) by omega) (F_n F146 (show ¬ (102 = 77 ∧ 7 ≤ ((a.toInt).toNat) ∧ ((a.toInt).toNat) ≤ 10) by omega) (W_n W135 (by omega) (F_n F128 (show ¬ (102 = 77 ∧ (((a.toInt).toNat) = 4 ∨ ((a.toInt).toNat) = 5)) by omega) (F_n F112 (show ¬ (102 = 77 ∧ (((a.toInt).toNat) = 4 ∨ ((a.toInt).toNat) = 5 ∨ 7 ≤ ((a.toInt).toNat) ∧ ((a.toInt).toNat) ≤ 10)) by omega) (F_n F99 (show ¬ (102 = 77 ∧ 7 ≤ ((a.toInt).toNat) ∧ ((a.toInt).toNat) ≤ 10) by omega) rfl)))))))))
            have t_280 : (M89.2.1 102 (a.toInt).toNat).toInt = r80.toInt := congrArg Int32.toInt (W_e W88)
            have t_281 : (M197.2.1 102 (a.toInt).toNat).toInt = (M89.2.1 102 (a.toInt).toNat).toInt := congrArg Int32.toInt (F_n F189 (show ¬ (102 = 77 ∧ (((a.toInt).toNat) = 4 ∨ ((a.toInt).toNat) = 5 ∨ 7 ≤ ((a.toInt).toNat) ∧ ((a.toInt).toNat) ≤ 10)) by omega) (F_n F176 (show ¬ (102 = 77 ∧ 7 ≤ ((a.toInt).toNat) ∧ ((a.toInt).toNat) ≤ 10) by omega) (W_n W165 (by omega) (F_n F158 (show ¬ (102 = 77 ∧ (((a.toInt).toNat) = 4 ∨ ((a.toInt).toNat) = 5)) by omega) (F_n F146 (show ¬ (102 = 77 ∧ 7 ≤ ((a.toInt).toNat) ∧ ((a.toInt).toNat) ≤ 10) by omega) (W_n W135 (by omega) (F_n F128 (show ¬ (102 = 77 ∧ (((a.toInt).toNat) = 4 ∨ ((a.toInt).toNat) = 5)) by omega) (F_n F112 (show ¬ (102 = 77 ∧ (((a.toInt).toNat) = 4 ∨ ((a.toInt).toNat) = 5 ∨ 7 ≤ ((a.toInt).toNat) ∧ ((a.toInt).toNat) ≤ 10)) by omega) (F_n F99 (show ¬ (102 = 77 ∧ 7 ≤ ((a.toInt).toNat) ∧ ((a.toInt).toNat) ≤ 10) by omega) rfl)))))))))
            have t_282 : (M136.2.1 103 (a.toInt).toNat).toInt = r127.toInt := congrArg Int32.toInt (W_e W135)
            have t_283 : (M197.2.1 103 (a.toInt).toNat).toInt = (M136.2.1 103 (a.toInt).toNat).toInt := congrArg Int32.toInt (F_n F189 (show ¬ (103 = 77 ∧ (((a.toInt).toNat) = 4 ∨ ((a.toInt).toNat) = 5 ∨ 7 ≤ ((a.toInt).toNat) ∧ ((a.toInt).toNat) ≤ 10)) by omega) (F_n F176 (show ¬ (103 = 77 ∧ 7 ≤ ((a.toInt).toNat) ∧ ((a.toInt).toNat) ≤ 10) by omega) (W_n W165 (by omega) (F_n F158 (show ¬ (103 = 77 ∧ (((a.toInt).toNat) = 4 ∨ ((a.toInt).toNat) = 5)) by omega) (F_n F146 (show ¬ (103 = 77 ∧ 7 ≤ ((a.toInt).toNat) ∧ ((a.toInt).toNat) ≤ 10) by omega) rfl)))))
            have t_284 : (M166.2.1 104 (a.toInt).toNat).toInt = r157.toInt := congrArg Int32.toInt (W_e W165)
            have t_285 : (M197.2.1 104 (a.toInt).toNat).toInt = (M166.2.1 104 (a.toInt).toNat).toInt := congrArg Int32.toInt (F_n F189 (show ¬ (104 = 77 ∧ (((a.toInt).toNat) = 4 ∨ ((a.toInt).toNat) = 5 ∨ 7 ≤ ((a.toInt).toNat) ∧ ((a.toInt).toNat) ≤ 10)) by omega) (F_n F176 (show ¬ (104 = 77 ∧ 7 ≤ ((a.toInt).toNat) ∧ ((a.toInt).toNat) ≤ 10) by omega) rfl))
            exact h (0 : Int32) M197 hG190 F198 (by decide) (by decide) (by omega) (by omega) (by omega) (by omega) (fun r i z z2 => (F_n F189 (show ¬ (r = 77 ∧ (i = 4 ∨ i = 5 ∨ 7 ≤ i ∧ i ≤ 10)) by omega) (F_n F176 (show ¬ (r = 77 ∧ 7 ≤ i ∧ i ≤ 10) by omega) (W_n W165 (by omega) (F_n F158 (show ¬ (r = 77 ∧ (i = 4 ∨ i = 5)) by omega) (F_n F146 (show ¬ (r = 77 ∧ 7 ≤ i ∧ i ≤ 10) by omega) (W_n W135 (by omega) (F_n F128 (show ¬ (r = 77 ∧ (i = 4 ∨ i = 5)) by omega) (F_n F112 (show ¬ (r = 77 ∧ (i = 4 ∨ i = 5 ∨ 7 ≤ i ∧ i ≤ 10)) by omega) (F_n F99 (show ¬ (r = 77 ∧ 7 ≤ i ∧ i ≤ 10) by omega) (W_n W88 (by omega) (F_n F81 (show ¬ (r = 77 ∧ (i = 4 ∨ i = 5)) by omega) rfl))))))))))))
        · refine to_c (pc := 80) rw_213_80 (x := (0 : Int32)) rfl rfl (s_r1 (pc := 81) rw_213_81 (A := 0) rfl (by decide) ?_)
          have k_286 : (0 : Int32).toInt = 0 := rfl
          have c_287 : M166.2.1 77 7 = (M151.2.1 77 7) := (W_n W165 (fun z => absurd z.1 (by decide)) (F_n F158 (show ¬ (77 = 77 ∧ (7 = 4 ∨ 7 = 5)) by decide) rfl))
          have t_288 : (M166.2.1 77 7).toInt = (M151.2.1 77 7).toInt := congrArg Int32.toInt c_287
          have c_289 : M166.2.1 77 6 = (M.2.1 77 6) := (W_n W165 (fun z => absurd z.1 (by decide)) (F_n F158 (show ¬ (77 = 77 ∧ (6 = 4 ∨ 6 = 5)) by decide) c_154))
          have t_290 : (M166.2.1 77 6).toInt = (M.2.1 77 6).toInt := congrArg Int32.toInt c_289
          have c_291 : M166.2.1 77 8 = (M151.2.1 77 8) := (W_n W165 (fun z => absurd z.1 (by decide)) (F_n F158 (show ¬ (77 = 77 ∧ (8 = 4 ∨ 8 = 5)) by decide) rfl))
          have t_292 : (M166.2.1 77 8).toInt = (M151.2.1 77 8).toInt := congrArg Int32.toInt c_291
          have t_293 : (M89.2.1 102 (a.toInt).toNat).toInt = r80.toInt := congrArg Int32.toInt (W_e W88)
          have t_294 : (M166.2.1 102 (a.toInt).toNat).toInt = (M89.2.1 102 (a.toInt).toNat).toInt := congrArg Int32.toInt (W_n W165 (by omega) (F_n F158 (show ¬ (102 = 77 ∧ (((a.toInt).toNat) = 4 ∨ ((a.toInt).toNat) = 5)) by omega) (F_n F146 (show ¬ (102 = 77 ∧ 7 ≤ ((a.toInt).toNat) ∧ ((a.toInt).toNat) ≤ 10) by omega) (W_n W135 (by omega) (F_n F128 (show ¬ (102 = 77 ∧ (((a.toInt).toNat) = 4 ∨ ((a.toInt).toNat) = 5)) by omega) (F_n F112 (show ¬ (102 = 77 ∧ (((a.toInt).toNat) = 4 ∨ ((a.toInt).toNat) = 5 ∨ 7 ≤ ((a.toInt).toNat) ∧ ((a.toInt).toNat) ≤ 10)) by omega) (F_n F99 (show ¬ (102 = 77 ∧ 7 ≤ ((a.toInt).toNat) ∧ ((a.toInt).toNat) ≤ 10) by omega) rfl)))))))
          have t_295 : (M89.2.1 102 (a.toInt).toNat).toInt = r80.toInt := congrArg Int32.toInt (W_e W88)
          have t_296 : (M166.2.1 102 (a.toInt).toNat).toInt = (M89.2.1 102 (a.toInt).toNat).toInt := congrArg Int32.toInt (W_n W165 (by omega) (F_n F158 (show ¬ (102 = 77 ∧ (((a.toInt).toNat) = 4 ∨ ((a.toInt).toNat) = 5)) by omega) (F_n F146 (show ¬ (102 = 77 ∧ 7 ≤ ((a.toInt).toNat) ∧ ((a.toInt).toNat) ≤ 10) by omega) (W_n W135 (by omega) (F_n F128 (show ¬ (102 = 77 ∧ (((a.toInt).toNat) = 4 ∨ ((a.toInt).toNat) = 5)) by omega) (F_n F112 (show ¬ (102 = 77 ∧ (((a.toInt).toNat) = 4 ∨ ((a.toInt).toNat) = 5 ∨ 7 ≤ ((a.toInt).toNat) ∧ ((a.toInt).toNat) ≤ 10)) by omega) (F_n F99 (show ¬ (102 = 77 ∧ 7 ≤ ((a.toInt).toNat) ∧ ((a.toInt).toNat) ≤ 10) by omega) rfl)))))))
          have t_297 : (M136.2.1 103 (a.toInt).toNat).toInt = r127.toInt := congrArg Int32.toInt (W_e W135)
          have t_298 : (M166.2.1 103 (a.toInt).toNat).toInt = (M136.2.1 103 (a.toInt).toNat).toInt := congrArg Int32.toInt (W_n W165 (by omega) (F_n F158 (show ¬ (103 = 77 ∧ (((a.toInt).toNat) = 4 ∨ ((a.toInt).toNat) = 5)) by omega) (F_n F146 (show ¬ (103 = 77 ∧ 7 ≤ ((a.toInt).toNat) ∧ ((a.toInt).toNat) ≤ 10) by omega) rfl)))
          have t_299 : (M166.2.1 104 (a.toInt).toNat).toInt = r157.toInt := congrArg Int32.toInt (W_e W165)
          exact h (0 : Int32) M166 hG167 F168 (by decide) (by decide) (by omega) (by omega) (by omega) (by omega) (fun r i z z2 => (W_n W165 (by omega) (F_n F158 (show ¬ (r = 77 ∧ (i = 4 ∨ i = 5)) by omega) (F_n F146 (show ¬ (r = 77 ∧ 7 ≤ i ∧ i ≤ 10) by omega) (W_n W135 (by omega) (F_n F128 (show ¬ (r = 77 ∧ (i = 4 ∨ i = 5)) by omega) (F_n F112 (show ¬ (r = 77 ∧ (i = 4 ∨ i = 5 ∨ 7 ≤ i ∧ i ≤ 10)) by omega) (F_n F99 (show ¬ (r = 77 ∧ 7 ≤ i ∧ i ≤ 10) by omega) (W_n W88 (by omega) (F_n F81 (show ¬ (r = 77 ∧ (i = 4 ∨ i = 5)) by omega) rfl))))))))))
      · refine to_c (pc := 55) rw_213_55 (x := (0 : Int32)) rfl rfl (s_r1 (pc := 56) rw_213_56 (A := 0) rfl (by decide) ?_)
        have k_300 : (0 : Int32).toInt = 0 := rfl
        have c_301 : M136.2.1 77 7 = (M120.2.1 77 7) := (W_n W135 (fun z => absurd z.1 (by decide)) (F_n F128 (show ¬ (77 = 77 ∧ (7 = 4 ∨ 7 = 5)) by decide) rfl))
        have t_302 : (M136.2.1 77 7).toInt = (M120.2.1 77 7).toInt := congrArg Int32.toInt c_301
        have c_303 : M136.2.1 77 6 = (M.2.1 77 6) := (W_n W135 (fun z => absurd z.1 (by decide)) (F_n F128 (show ¬ (77 = 77 ∧ (6 = 4 ∨ 6 = 5)) by decide) c_123))
        have t_304 : (M136.2.1 77 6).toInt = (M.2.1 77 6).toInt := congrArg Int32.toInt c_303
        have c_305 : M136.2.1 77 8 = (M120.2.1 77 8) := (W_n W135 (fun z => absurd z.1 (by decide)) (F_n F128 (show ¬ (77 = 77 ∧ (8 = 4 ∨ 8 = 5)) by decide) rfl))
        have t_306 : (M136.2.1 77 8).toInt = (M120.2.1 77 8).toInt := congrArg Int32.toInt c_305
        have t_307 : (M89.2.1 102 (a.toInt).toNat).toInt = r80.toInt := congrArg Int32.toInt (W_e W88)
        have t_308 : (M136.2.1 102 (a.toInt).toNat).toInt = (M89.2.1 102 (a.toInt).toNat).toInt := congrArg Int32.toInt (W_n W135 (by omega) (F_n F128 (show ¬ (102 = 77 ∧ (((a.toInt).toNat) = 4 ∨ ((a.toInt).toNat) = 5)) by omega) (F_n F112 (show ¬ (102 = 77 ∧ (((a.toInt).toNat) = 4 ∨ ((a.toInt).toNat) = 5 ∨ 7 ≤ ((a.toInt).toNat) ∧ ((a.toInt).toNat) ≤ 10)) by omega) (F_n F99 (show ¬ (102 = 77 ∧ 7 ≤ ((a.toInt).toNat) ∧ ((a.toInt).toNat) ≤ 10) by omega) rfl))))
        have t_309 : (M89.2.1 102 (a.toInt).toNat).toInt = r80.toInt := congrArg Int32.toInt (W_e W88)
        have t_310 : (M136.2.1 102 (a.toInt).toNat).toInt = (M89.2.1 102 (a.toInt).toNat).toInt := congrArg Int32.toInt (W_n W135 (by omega) (F_n F128 (show ¬ (102 = 77 ∧ (((a.toInt).toNat) = 4 ∨ ((a.toInt).toNat) = 5)) by omega) (F_n F112 (show ¬ (102 = 77 ∧ (((a.toInt).toNat) = 4 ∨ ((a.toInt).toNat) = 5 ∨ 7 ≤ ((a.toInt).toNat) ∧ ((a.toInt).toNat) ≤ 10)) by omega) (F_n F99 (show ¬ (102 = 77 ∧ 7 ≤ ((a.toInt).toNat) ∧ ((a.toInt).toNat) ≤ 10) by omega) rfl))))
        have t_311 : (M136.2.1 103 (a.toInt).toNat).toInt = r127.toInt := congrArg Int32.toInt (W_e W135)
        have t_312 : (M136.2.1 104 (a.toInt).toNat).toInt = (M.2.1 104 (a.toInt).toNat).toInt := congrArg Int32.toInt (W_n W135 (by omega) (F_n F128 (show ¬ (104 = 77 ∧ (((a.toInt).toNat) = 4 ∨ ((a.toInt).toNat) = 5)) by omega) (F_n F112 (show ¬ (104 = 77 ∧ (((a.toInt).toNat) = 4 ∨ ((a.toInt).toNat) = 5 ∨ 7 ≤ ((a.toInt).toNat) ∧ ((a.toInt).toNat) ≤ 10)) by omega) (F_n F99 (show ¬ (104 = 77 ∧ 7 ≤ ((a.toInt).toNat) ∧ ((a.toInt).toNat) ≤ 10) by omega) (W_n W88 (by omega) (F_n F81 (show ¬ (104 = 77 ∧ (((a.toInt).toNat) = 4 ∨ ((a.toInt).toNat) = 5)) by omega) rfl))))))
        exact h (0 : Int32) M136 hG137 F138 (by decide) (by decide) (by omega) (by omega) (by omega) (by omega) (fun r i z z2 => (W_n W135 (by omega) (F_n F128 (show ¬ (r = 77 ∧ (i = 4 ∨ i = 5)) by omega) (F_n F112 (show ¬ (r = 77 ∧ (i = 4 ∨ i = 5 ∨ 7 ≤ i ∧ i ≤ 10)) by omega) (F_n F99 (show ¬ (r = 77 ∧ 7 ≤ i ∧ i ≤ 10) by omega) (W_n W88 (by omega) (F_n F81 (show ¬ (r = 77 ∧ (i = 4 ∨ i = 5)) by omega) rfl)))))))
    · refine to_c (pc := 34) rw_213_34 (x := (0 : Int32)) rfl rfl (s_r1 (pc := 35) rw_213_35 (A := 0) rfl (by decide) ?_)
      have k_313 : (0 : Int32).toInt = 0 := rfl
      have t_314 : (M89.2.1 102 (a.toInt).toNat).toInt = r80.toInt := congrArg Int32.toInt (W_e W88)
      have t_315 : (M120.2.1 102 (a.toInt).toNat).toInt = (M89.2.1 102 (a.toInt).toNat).toInt := congrArg Int32.toInt (F_n F112 (show ¬ (102 = 77 ∧ (((a.toInt).toNat) = 4 ∨ ((a.toInt).toNat) = 5 ∨ 7 ≤ ((a.toInt).toNat) ∧ ((a.toInt).toNat) ≤ 10)) by omega) (F_n F99 (show ¬ (102 = 77 ∧ 7 ≤ ((a.toInt).toNat) ∧ ((a.toInt).toNat) ≤ 10) by omega) rfl))
      have t_316 : (M89.2.1 102 (a.toInt).toNat).toInt = r80.toInt := congrArg Int32.toInt (W_e W88)
      have t_317 : (M120.2.1 102 (a.toInt).toNat).toInt = (M89.2.1 102 (a.toInt).toNat).toInt := congrArg Int32.toInt (F_n F112 (show ¬ (102 = 77 ∧ (((a.toInt).toNat) = 4 ∨ ((a.toInt).toNat) = 5 ∨ 7 ≤ ((a.toInt).toNat) ∧ ((a.toInt).toNat) ≤ 10)) by omega) (F_n F99 (show ¬ (102 = 77 ∧ 7 ≤ ((a.toInt).toNat) ∧ ((a.toInt).toNat) ≤ 10) by omega) rfl))
      have t_318 : (M120.2.1 103 (a.toInt).toNat).toInt = (M.2.1 103 (a.toInt).toNat).toInt := congrArg Int32.toInt (F_n F112 (show ¬ (103 = 77 ∧ (((a.toInt).toNat) = 4 ∨ ((a.toInt).toNat) = 5 ∨ 7 ≤ ((a.toInt).toNat) ∧ ((a.toInt).toNat) ≤ 10)) by omega) (F_n F99 (show ¬ (103 = 77 ∧ 7 ≤ ((a.toInt).toNat) ∧ ((a.toInt).toNat) ≤ 10) by omega) (W_n W88 (by omega) (F_n F81 (show ¬ (103 = 77 ∧ (((a.toInt).toNat) = 4 ∨ ((a.toInt).toNat) = 5)) by omega) rfl))))
      have t_319 : (M120.2.1 104 (a.toInt).toNat).toInt = (M.2.1 104 (a.toInt).toNat).toInt := congrArg Int32.toInt (F_n F112 (show ¬ (104 = 77 ∧ (((a.toInt).toNat) = 4 ∨ ((a.toInt).toNat) = 5 ∨ 7 ≤ ((a.toInt).toNat) ∧ ((a.toInt).toNat) ≤ 10)) by omega) (F_n F99 (show ¬ (104 = 77 ∧ 7 ≤ ((a.toInt).toNat) ∧ ((a.toInt).toNat) ≤ 10) by omega) (W_n W88 (by omega) (F_n F81 (show ¬ (104 = 77 ∧ (((a.toInt).toNat) = 4 ∨ ((a.toInt).toNat) = 5)) by omega) rfl))))
      exact h (0 : Int32) M120 hG113 F121 (by decide) (by decide) (by omega) (by omega) (by omega) (by omega) (fun r i z z2 => (F_n F112 (show ¬ (r = 77 ∧ (i = 4 ∨ i = 5 ∨ 7 ≤ i ∧ i ≤ 10)) by omega) (F_n F99 (show ¬ (r = 77 ∧ 7 ≤ i ∧ i ≤ 10) by omega) (W_n W88 (by omega) (F_n F81 (show ¬ (r = 77 ∧ (i = 4 ∨ i = 5)) by omega) rfl)))))
  · refine to_c (pc := 19) rw_213_19 (x := (0 : Int32)) rfl rfl (s_r1 (pc := 20) rw_213_20 (A := 0) rfl (by decide) ?_)
    have k_320 : (0 : Int32).toInt = 0 := rfl
    have c_321 : M89.2.1 77 7 = (M.2.1 77 7) := (W_n W88 (fun z => absurd z.1 (by decide)) (F_n F81 (show ¬ (77 = 77 ∧ (7 = 4 ∨ 7 = 5)) by decide) rfl))
    have t_322 : (M89.2.1 77 7).toInt = (M.2.1 77 7).toInt := congrArg Int32.toInt c_321
    have c_323 : M89.2.1 77 6 = (M.2.1 77 6) := (W_n W88 (fun z => absurd z.1 (by decide)) (F_n F81 (show ¬ (77 = 77 ∧ (6 = 4 ∨ 6 = 5)) by decide) rfl))
    have t_324 : (M89.2.1 77 6).toInt = (M.2.1 77 6).toInt := congrArg Int32.toInt c_323
    have c_325 : M89.2.1 77 8 = (M.2.1 77 8) := (W_n W88 (fun z => absurd z.1 (by decide)) (F_n F81 (show ¬ (77 = 77 ∧ (8 = 4 ∨ 8 = 5)) by decide) rfl))
    have t_326 : (M89.2.1 77 8).toInt = (M.2.1 77 8).toInt := congrArg Int32.toInt c_325
    have t_327 : (M89.2.1 102 (a.toInt).toNat).toInt = r80.toInt := congrArg Int32.toInt (W_e W88)
    have t_328 : (M89.2.1 102 (a.toInt).toNat).toInt = r80.toInt := congrArg Int32.toInt (W_e W88)
    have t_329 : (M89.2.1 103 (a.toInt).toNat).toInt = (M.2.1 103 (a.toInt).toNat).toInt := congrArg Int32.toInt (W_n W88 (by omega) (F_n F81 (show ¬ (103 = 77 ∧ (((a.toInt).toNat) = 4 ∨ ((a.toInt).toNat) = 5)) by omega) rfl))
    have t_330 : (M89.2.1 104 (a.toInt).toNat).toInt = (M.2.1 104 (a.toInt).toNat).toInt := congrArg Int32.toInt (W_n W88 (by omega) (F_n F81 (show ¬ (104 = 77 ∧ (((a.toInt).toNat) = 4 ∨ ((a.toInt).toNat) = 5)) by omega) rfl))
    exact h (0 : Int32) M89 hG90 F91 (by decide) (by decide) (by omega) (by omega) (by omega) (by omega) (fun r i z z2 => (W_n W88 (by omega) (F_n F81 (show ¬ (r = 77 ∧ (i = 4 ∨ i = 5)) by omega) rfl)))
set_option maxRecDepth 4000 in
set_option maxHeartbeats 0 in
theorem C_214 {X : mm_X} {d : Nat} {M : mm_M} {Q : Option Value → mm_M → Prop} {a : Int32} (hX : g_X X) (hd : 3 ≤ d) (hG : g_G M) (q1 : 0 ≤ a.toInt) (q2 : a.toInt ≤ 39) (q3 : (M.2.1 77 7).toInt ≤ (M.2.1 77 6).toInt) (h : ∀ (r : Int32) (M1 : mm_M), g_G M1 → FR md_ps M M1 → (0 ≤ r.toInt) → (r.toInt ≤ 1) → ((M1.2.1 77 7).toInt ≤ (M1.2.1 77 6).toInt) → ((M.2.1 77 7).toInt ≤ (M1.2.1 77 7).toInt) → (r.toInt = 1 → (M1.2.1 77 8).toInt = 0 ∨ (M.2.1 77 7).toInt < (M1.2.1 77 7).toInt) → (r.toInt = 1 → 0 ≤ (M1.2.1 102 (a.toInt).toNat).toInt ∧ (M1.2.1 102 (a.toInt).toNat).toInt ≤ 5 ∧ 0 ≤ (M1.2.1 103 (a.toInt).toNat).toInt ∧ ¬ (M1.2.1 103 (a.toInt).toNat).toInt = (M1.2.1 102 (a.toInt).toNat).toInt) → (∀ r i : Nat, (102 ≤ r ∧ r ≤ 104) → ¬ i = (a.toInt).toNat → M1.2.1 r i = M.2.1 r i) → Q (some (.int r)) M1) : mm_T X d 213 0 [.ref 77, .int a] [] M Q := by
  have F0 : FR md_ps M M := FR.rf
  have b_1 := g_b hG (a := 77) (i := 7) (lo := 0) (hi := 500) rfl rfl
  have b_2 := g_b hG (a := 77) (i := 6) (lo := 0) (hi := 500) rfl rfl
  refine to_an (pc := 0) rw_214_0 rfl (s_gR (pc := 1) rw_214_1 hG rfl (v := 102) rfl (to_in (pc := 4) rw_214_4 rfl (to_an (pc := 5) rw_214_5 rfl (s_v (pc := 6) rw_214_6 (dp0 hd (by decide)) (ls0 := [.ref 77, .null, .null]) rfl (Nat.le_of_ble_eq_true rfl) (Nat.le_of_ble_eq_true rfl) rfl (to_rc rfl rfl rfl (g_o hG rfl)) rfl ?_))))
  have b_3 := g_b hG (a := 77) (i := 8) (lo := 0) (hi := 5) rfl rfl
  refine C_211 hX (dp1 hd (by decide)) hG  (fun r4 M10 hG6 F5 p_7 p_8 p_9 => ?_)
  have F11 := FR.c F0 F5 tg_274
  refine s_ias (pc := 9) rw_214_9 hG6 rfl (n := 40) rfl (A := a.toInt) rfl (by omega) (by omega) (fun M13 W12 => ?_)
  have hG14 := g_w hG6 W12 (A := r4.toInt) rfl (lo := -1) (hi := 99) rfl rfl (by omega) (by decide)
  have F15 := FR.w F11 W12 (show 102 = 77 ∧ ((a.toInt).toNat = 4 ∨ (a.toInt).toNat = 5 ∨ 7 ≤ (a.toInt).toNat ∧ (a.toInt).toNat ≤ 10) ∨ 102 ≤ 102 ∧ 102 ≤ 104 ∨ 102 = 106 ∨ 102 = 107 by omega)
  refine to_an (pc := 10) rw_214_10 rfl (s_gR (pc := 11) rw_214_11 hG14 rfl (v := 102) rfl (to_in (pc := 14) rw_214_14 rfl (s_ialk (pc := 15) rw_214_15 hG14 rfl (n := 40) rfl rfl (A := a.toInt) rfl (by omega) (by omega) (v := r4) (W_e W12) (b_ige (pc := 16) rw_214_16 (A := r4.toInt) rfl (fun h18 => ?_) (fun h18 => ?_)))))
  · refine to_an (pc := 21) rw_214_21 rfl (s_v (pc := 22) rw_214_22 (dp0 hd (by decide)) (ls0 := [.ref 77]) rfl (Nat.le_of_ble_eq_true rfl) (Nat.le_of_ble_eq_true rfl) rfl (to_rc rfl rfl rfl (g_o hG14 rfl)) rfl ?_)
    have c_19 : M13.2.1 77 7 = (M.2.1 77 7) := (W_n W12 (fun z => absurd z.1 (by decide)) (F_n F5 (show ¬ (77 = 77 ∧ (7 = 4 ∨ 7 = 5)) by decide) rfl))
    have t_20 : (M13.2.1 77 7).toInt = (M.2.1 77 7).toInt := congrArg Int32.toInt c_19
    have c_21 : M13.2.1 77 6 = (M.2.1 77 6) := (W_n W12 (fun z => absurd z.1 (by decide)) (F_n F5 (show ¬ (77 = 77 ∧ (6 = 4 ∨ 6 = 5)) by decide) rfl))
    have t_22 : (M13.2.1 77 6).toInt = (M.2.1 77 6).toInt := congrArg Int32.toInt c_21
    refine C_156 hX (dp1 hd (by decide)) hG14 (by omega)  (fun M28 hG24 F23 p_25 p_26 p_27 => ?_)
    have F29 := FR.c F15 F23 tg_275
    have b_30 := g_b hG24 (a := 77) (i := 7) (lo := 0) (hi := 500) rfl rfl
    have c_31 : M28.2.1 77 6 = (M.2.1 77 6) := (F_n F23 (show ¬ (77 = 77 ∧ 7 ≤ 6 ∧ 6 ≤ 10) by decide) c_21)
    have t_32 : (M28.2.1 77 6).toInt = (M.2.1 77 6).toInt := congrArg Int32.toInt c_31
    have b_33 := g_b hG24 (a := 77) (i := 8) (lo := 0) (hi := 5) rfl rfl
    refine to_an (pc := 25) rw_214_25 rfl (s_gR (pc := 26) rw_214_26 hG24 rfl (v := 103) rfl (to_in (pc := 29) rw_214_29 rfl (to_an (pc := 30) rw_214_30 rfl (s_v (pc := 31) rw_214_31 (dp0 hd (by decide)) (ls0 := [.ref 77, .null, .null]) rfl (Nat.le_of_ble_eq_true rfl) (Nat.le_of_ble_eq_true rfl) rfl (to_rc rfl rfl rfl (g_o hG24 rfl)) rfl (C_211 hX (dp1 hd (by decide)) hG24  (fun r34 M40 hG36 F35 p_37 p_38 p_39 => ?_))))))
    have F41 := FR.c F29 F35 tg_274
    refine s_ias (pc := 34) rw_214_34 hG36 rfl (n := 40) rfl (A := a.toInt) rfl (by omega) (by omega) (fun M43 W42 => ?_)
    have hG44 := g_w hG36 W42 (A := r34.toInt) rfl (lo := -1) (hi := 5) rfl rfl (by omega) (by decide)
    have F45 := FR.w F41 W42 (show 103 = 77 ∧ ((a.toInt).toNat = 4 ∨ (a.toInt).toNat = 5 ∨ 7 ≤ (a.toInt).toNat ∧ (a.toInt).toNat ≤ 10) ∨ 102 ≤ 103 ∧ 103 ≤ 104 ∨ 103 = 106 ∨ 103 = 107 by omega)
    refine to_an (pc := 35) rw_214_35 rfl (s_gR (pc := 36) rw_214_36 hG44 rfl (v := 103) rfl (to_in (pc := 39) rw_214_39 rfl (s_ialk (pc := 40) rw_214_40 hG44 rfl (n := 40) rfl rfl (A := a.toInt) rfl (by omega) (by omega) (v := r34) (W_e W42) (b_ige (pc := 41) rw_214_41 (A := r34.toInt) rfl (fun h48 => ?_) (fun h48 => ?_)))))
    · refine to_an (pc := 46) rw_214_46 rfl (s_gR (pc := 47) rw_214_47 hG44 rfl (v := 103) rfl (to_in (pc := 50) rw_214_50 rfl (s_ialk (pc := 51) rw_214_51 hG44 rfl (n := 40) rfl rfl (A := a.toInt) rfl (by omega) (by omega) (v := r34) (W_e W42) (to_an (pc := 52) rw_214_52 rfl (s_gR (pc := 53) rw_214_53 hG44 rfl (v := 102) rfl (to_in (pc := 56) rw_214_56 rfl (s_ialk (pc := 57) rw_214_57 hG44 rfl (n := 40) rfl rfl (A := a.toInt) rfl (by omega) (by omega) (v := r4) (W_n W42 (by omega) (F_n F35 (show ¬ (102 = 77 ∧ ((a.toInt).toNat = 4 ∨ (a.toInt).toNat = 5)) by omega) (F_n F23 (show ¬ (102 = 77 ∧ 7 ≤ (a.toInt).toNat ∧ (a.toInt).toNat ≤ 10) by omega) (W_e W12)))) (b_cne (pc := 58) rw_214_58 (A := r34.toInt) (B := r4.toInt) rfl rfl (fun h53 => ?_) (fun h53 => ?_)))))))))
      · refine to_an (pc := 67) rw_214_67 rfl (s_v (pc := 68) rw_214_68 (dp0 hd (by decide)) (ls0 := [.ref 77]) rfl (Nat.le_of_ble_eq_true rfl) (Nat.le_of_ble_eq_true rfl) rfl (to_rc rfl rfl rfl (g_o hG44 rfl)) rfl ?_)
        have c_54 : M43.2.1 77 7 = (M28.2.1 77 7) := (W_n W42 (fun z => absurd z.1 (by decide)) (F_n F35 (show ¬ (77 = 77 ∧ (7 = 4 ∨ 7 = 5)) by decide) rfl))
        have t_55 : (M43.2.1 77 7).toInt = (M28.2.1 77 7).toInt := congrArg Int32.toInt c_54
        have c_56 : M43.2.1 77 6 = (M.2.1 77 6) := (W_n W42 (fun z => absurd z.1 (by decide)) (F_n F35 (show ¬ (77 = 77 ∧ (6 = 4 ∨ 6 = 5)) by decide) c_31))
        have t_57 : (M43.2.1 77 6).toInt = (M.2.1 77 6).toInt := congrArg Int32.toInt c_56
        refine C_156 hX (dp1 hd (by decide)) hG44 (by omega)  (fun M63 hG59 F58 p_60 p_61 p_62 => ?_)
        have F64 := FR.c F45 F58 tg_275
        have b_65 := g_b hG59 (a := 77) (i := 7) (lo := 0) (hi := 500) rfl rfl
        have c_66 : M63.2.1 77 6 = (M.2.1 77 6) := (F_n F58 (show ¬ (77 = 77 ∧ 7 ≤ 6 ∧ 6 ≤ 10) by decide) c_56)
        have t_67 : (M63.2.1 77 6).toInt = (M.2.1 77 6).toInt := congrArg Int32.toInt c_66
        have b_68 := g_b hG59 (a := 77) (i := 8) (lo := 0) (hi := 5) rfl rfl
        refine to_an (pc := 71) rw_214_71 rfl (to_c (pc := 72) rw_214_72 (x := (59 : Int32)) rfl rfl (s_v (pc := 74) rw_214_74 (dp0 hd (by decide)) (ls0 := [.ref 77, .int (59 : Int32)]) rfl (Nat.le_of_ble_eq_true rfl) (Nat.le_of_ble_eq_true rfl) rfl (to_rc rfl rfl rfl (g_o hG59 rfl)) rfl ?_))
        have k_69 : (59 : Int32).toInt = 59 := rfl
        refine C_160 hX (dp1 hd (by decide)) hG59 (by omega) (c := (59 : Int32)) (fun r70 M79 hG72 F71 p_73 p_74 p_75 p_76 p_77 p_78 => ?_)
        have F80 := FR.c F64 F71 tg_273
        have b_81 := g_b hG72 (a := 77) (i := 7) (lo := 0) (hi := 500) rfl rfl
        have c_82 : M79.2.1 77 6 = (M.2.1 77 6) := (F_n F71 (show ¬ (77 = 77 ∧ (6 = 4 ∨ 6 = 5 ∨ 7 ≤ 6 ∧ 6 ≤ 10)) by decide) c_66)
        have t_83 : (M79.2.1 77 6).toInt = (M.2.1 77 6).toInt := congrArg Int32.toInt c_82
        have b_84 := g_b hG72 (a := 77) (i := 8) (lo := 0) (hi := 5) rfl rfl
        refine s_r1 (pc := 77) rw_214_77 (A := r70.toInt) rfl (by omega) ?_
        have t_85 : (M13.2.1 102 (a.toInt).toNat).toInt = r4.toInt := congrArg Int32.toInt (W_e W12)
        have t_86 : (M79.2.1 102 (a.toInt).toNat).toInt = (M13.2.1 102 (a.toInt).toNat).toInt := congrArg Int32.toInt (F_n F71 (show ¬ (102 = 77 ∧ (((a.toInt).toNat) = 4 ∨ ((a.toInt).toNat) = 5 ∨ 7 ≤ ((a.toInt).toNat) ∧ ((a.toInt).toNat) ≤ 10)) by omega) (F_n F58 (show ¬ (102 = 77 ∧ 7 ≤ ((a.toInt).toNat) ∧ ((a.toInt).toNat) ≤ 10) by omega) (W_n W42 (by omega) (F_n F35 (show ¬ (102 = 77 ∧ (((a.toInt).toNat) = 4 ∨ ((a.toInt).toNat) = 5)) by omega) (F_n F23 (show ¬ (102 = 77 ∧ 7 ≤ ((a.toInt).toNat) ∧ ((a.toInt).toNat) ≤ 10) by omega) rfl)))))
        have t_87 : (M13.2.1 102 (a.toInt).toNat).toInt = r4.toInt := congrArg Int32.toInt (W_e W12)
        have t_88 : (M79.2.1 102 (a.toInt).toNat).toInt = (M13.2.1 102 (a.toInt).toNat).toInt := congrArg Int32.toInt (F_n F71 (show ¬ (102 = 77 ∧ (((a.toInt).toNat) = 4 ∨ ((a.toInt).toNat) = 5 ∨ 7 ≤ ((a.toInt).toNat) ∧ ((a.toInt).toNat) ≤ 10)) by omega) (F_n F58 (show ¬ (102 = 77 ∧ 7 ≤ ((a.toInt).toNat) ∧ ((a.toInt).toNat) ≤ 10) by omega) (W_n W42 (by omega) (F_n F35 (show ¬ (102 = 77 ∧ (((a.toInt).toNat) = 4 ∨ ((a.toInt).toNat) = 5)) by omega) (F_n F23 (show ¬ (102 = 77 ∧ 7 ≤ ((a.toInt).toNat) ∧ ((a.toInt).toNat) ≤ 10) by omega) rfl)))))
        have t_89 : (M43.2.1 103 (a.toInt).toNat).toInt = r34.toInt := congrArg Int32.toInt (W_e W42)
        have t_90 : (M79.2.1 103 (a.toInt).toNat).toInt = (M43.2.1 103 (a.toInt).toNat).toInt := congrArg Int32.toInt (F_n F71 (show ¬ (103 = 77 ∧ (((a.toInt).toNat) = 4 ∨ ((a.toInt).toNat) = 5 ∨ 7 ≤ ((a.toInt).toNat) ∧ ((a.toInt).toNat) ≤ 10)) by omega) (F_n F58 (show ¬ (103 = 77 ∧ 7 ≤ ((a.toInt).toNat) ∧ ((a.toInt).toNat) ≤ 10) by omega) rfl))
        have t_91 : (M43.2.1 103 (a.toInt).toNat).toInt = r34.toInt := congrArg Int32.toInt (W_e W42)
        have t_92 : (M79.2.1 103 (a.toInt).toNat).toInt = (M43.2.1 103 (a.toInt).toNat).toInt := congrArg Int32.toInt (F_n F71 (show ¬ (103 = 77 ∧ (((a.toInt).toNat) = 4 ∨ ((a.toInt).toNat) = 5 ∨ 7 ≤ ((a.toInt).toNat) ∧ ((a.toInt).toNat) ≤ 10)) by omega) (F_n F58 (show ¬ (103 = 77 ∧ 7 ≤ ((a.toInt).toNat) ∧ ((a.toInt).toNat) ≤ 10) by omega) rfl))
        have t_93 : (M13.2.1 102 (a.toInt).toNat).toInt = r4.toInt := congrArg Int32.toInt (W_e W12)
        have t_94 : (M79.2.1 102 (a.toInt).toNat).toInt = (M13.2.1 102 (a.toInt).toNat).toInt := congrArg Int32.toInt (F_n F71 (show ¬ (102 = 77 ∧ (((a.toInt).toNat) = 4 ∨ ((a.toInt).toNat) = 5 ∨ 7 ≤ ((a.toInt).toNat) ∧ ((a.toInt).toNat) ≤ 10)) by omega) (F_n F58 (show ¬ (102 = 77 ∧ 7 ≤ ((a.toInt).toNat) ∧ ((a.toInt).toNat) ≤ 10) by omega) (W_n W42 (by omega) (F_n F35 (show ¬ (102 = 77 ∧ (((a.toInt).toNat) = 4 ∨ ((a.toInt).toNat) = 5)) by omega) (F_n F23 (show ¬ (102 = 77 ∧ 7 ≤ ((a.toInt).toNat) ∧ ((a.toInt).toNat) ≤ 10) by omega) rfl)))))
        exact h r70 M79 hG72 F80 (by omega) (by omega) (by omega) (by omega) (by omega) (by omega) (fun r i z z2 => (F_n F71 (show ¬ (r = 77 ∧ (i = 4 ∨ i = 5 ∨ 7 ≤ i ∧ i ≤ 10)) by omega) (F_n F58 (show ¬ (r = 77 ∧ 7 ≤ i ∧ i ≤ 10) by omega) (W_n W42 (by omega) (F_n F35 (show ¬ (r = 77 ∧ (i = 4 ∨ i = 5)) by omega) (F_n F23 (show ¬ (r = 77 ∧ 7 ≤ i ∧ i ≤ 10) by omega) (W_n W12 (by omega) (F_n F5 (show ¬ (r = 77 ∧ (i = 4 ∨ i = 5)) by omega) rfl))))))))
      · refine to_an (pc := 61) rw_214_61 rfl (to_c (pc := 62) rw_214_62 (x := (3 : Int32)) rfl rfl (s_v (pc := 63) rw_214_63 (dp0 hd (by decide)) (ls0 := [.ref 77, .int (3 : Int32)]) rfl (Nat.le_of_ble_eq_true rfl) (Nat.le_of_ble_eq_true rfl) rfl (to_rc rfl rfl rfl (g_o hG44 rfl)) rfl (to_an (pc := 0) rw_152_0 rfl (to_in (pc := 1) rw_152_1 rfl (s_pI (pc := 2) rw_152_2 hG44 rfl (fun M96 W95 => ?_))))))
        have hG97 := g_wf hG44 W95 rfl rfl (by decide)
        have F98 := FR.w F45 W95 (show 77 = 77 ∧ (4 = 4 ∨ 4 = 5 ∨ 7 ≤ 4 ∧ 4 ≤ 10) ∨ 102 ≤ 77 ∧ 77 ≤ 104 ∨ 77 = 106 ∨ 77 = 107 by decide)
        refine to_an (pc := 5) rw_152_5 rfl (to_an (pc := 6) rw_152_6 rfl ?_)
        have c_99 : M96.2.1 77 10 = (M28.2.1 77 10) := (W_n W95 (by decide) (W_n W42 (fun z => absurd z.1 (by decide)) (F_n F35 (show ¬ (77 = 77 ∧ (10 = 4 ∨ 10 = 5)) by decide) rfl)))
        have b_100 := g_b hG24 (a := 77) (i := 10) (lo := 0) (hi := 500) rfl rfl
        refine tt_gI (pc := 7) rw_152_7 (g_o hG97 rfl) (v := (M28.2.1 77 10)) c_99 (s_pI (pc := 10) rw_152_10 hG97 rfl (fun M102 W101 => ?_))
        have hG103 := g_wf hG97 W101 rfl rfl (by decide)
        have F104 := FR.w F98 W101 (show 77 = 77 ∧ (5 = 4 ∨ 5 = 5 ∨ 7 ≤ 5 ∧ 5 ≤ 10) ∨ 102 ≤ 77 ∧ 77 ≤ 104 ∨ 77 = 106 ∨ 77 = 107 by decide)
        refine to_c (pc := 13) rw_152_13 (x := (0 : Int32)) rfl rfl (s_r1 (pc := 14) rw_152_14 (A := 0) rfl (by decide) (s_r1 (pc := 66) rw_214_66 (A := 0) rfl (by decide) ?_))
        have k_105 : (0 : Int32).toInt = 0 := rfl
        have c_106 : M102.2.1 77 7 = (M28.2.1 77 7) := (W_n W101 (by decide) (W_n W95 (by decide) (W_n W42 (fun z => absurd z.1 (by decide)) (F_n F35 (show ¬ (77 = 77 ∧ (7 = 4 ∨ 7 = 5)) by decide) rfl))))
        have t_107 : (M102.2.1 77 7).toInt = (M28.2.1 77 7).toInt := congrArg Int32.toInt c_106
        have c_108 : M102.2.1 77 6 = (M.2.1 77 6) := (W_n W101 (by decide) (W_n W95 (by decide) (W_n W42 (fun z => absurd z.1 (by decide)) (F_n F35 (show ¬ (77 = 77 ∧ (6 = 4 ∨ 6 = 5)) by decide) c_31))))
        have t_109 : (M102.2.1 77 6).toInt = (M.2.1 77 6).toInt := congrArg Int32.toInt c_108
        have c_110 : M102.2.1 77 8 = (M28.2.1 77 8) := (W_n W101 (by decide) (W_n W95 (by decide) (W_n W42 (fun z => absurd z.1 (by decide)) (F_n F35 (show ¬ (77 = 77 ∧ (8 = 4 ∨ 8 = 5)) by decide) rfl))))
        have t_111 : (M102.2.1 77 8).toInt = (M28.2.1 77 8).toInt := congrArg Int32.toInt c_110
        have t_112 : (M13.2.1 102 (a.toInt).toNat).toInt = r4.toInt := congrArg Int32.toInt (W_e W12)
        have t_113 : (M102.2.1 102 (a.toInt).toNat).toInt = (M13.2.1 102 (a.toInt).toNat).toInt := congrArg Int32.toInt (W_n W101 (by omega) (W_n W95 (by omega) (W_n W42 (by omega) (F_n F35 (show ¬ (102 = 77 ∧ (((a.toInt).toNat) = 4 ∨ ((a.toInt).toNat) = 5)) by omega) (F_n F23 (show ¬ (102 = 77 ∧ 7 ≤ ((a.toInt).toNat) ∧ ((a.toInt).toNat) ≤ 10) by omega) rfl)))))
        have t_114 : (M13.2.1 102 (a.toInt).toNat).toInt = r4.toInt := congrArg Int32.toInt (W_e W12)
        have t_115 : (M102.2.1 102 (a.toInt).toNat).toInt = (M13.2.1 102 (a.toInt).toNat).toInt := congrArg Int32.toInt (W_n W101 (by omega) (W_n W95 (by omega) (W_n W42 (by omega) (F_n F35 (show ¬ (102 = 77 ∧ (((a.toInt).toNat) = 4 ∨ ((a.toInt).toNat) = 5)) by omega) (F_n F23 (show ¬ (102 = 77 ∧ 7 ≤ ((a.toInt).toNat) ∧ ((a.toInt).toNat) ≤ 10) by omega) rfl)))))
        have t_116 : (M43.2.1 103 (a.toInt).toNat).toInt = r34.toInt := congrArg Int32.toInt (W_e W42)
        have t_117 : (M102.2.1 103 (a.toInt).toNat).toInt = (M43.2.1 103 (a.toInt).toNat).toInt := congrArg Int32.toInt (W_n W101 (by omega) (W_n W95 (by omega) rfl))
        have t_118 : (M43.2.1 103 (a.toInt).toNat).toInt = r34.toInt := congrArg Int32.toInt (W_e W42)
        have t_119 : (M102.2.1 103 (a.toInt).toNat).toInt = (M43.2.1 103 (a.toInt).toNat).toInt := congrArg Int32.toInt (W_n W101 (by omega) (W_n W95 (by omega) rfl))
        have t_120 : (M13.2.1 102 (a.toInt).toNat).toInt = r4.toInt := congrArg Int32.toInt (W_e W12)
        have t_121 : (M102.2.1 102 (a.toInt).toNat).toInt = (M13.2.1 102 (a.toInt).toNat).toInt := congrArg Int32.toInt (W_n W101 (by omega) (W_n W95 (by omega) (W_n W42 (by omega) (F_n F35 (show ¬ (102 = 77 ∧ (((a.toInt).toNat) = 4 ∨ ((a.toInt).toNat) = 5)) by omega) (F_n F23 (show ¬ (102 = 77 ∧ 7 ≤ ((a.toInt).toNat) ∧ ((a.toInt).toNat) ≤ 10) by omega) rfl)))))
        exact h (0 : Int32) M102 hG103 F104 (by decide) (by decide) (by omega) (by omega) (by omega) (by omega) (fun r i z z2 => (W_n W101 (by omega) (W_n W95 (by omega) (W_n W42 (by omega) (F_n F35 (show ¬ (r = 77 ∧ (i = 4 ∨ i = 5)) by omega) (F_n F23 (show ¬ (r = 77 ∧ 7 ≤ i ∧ i ≤ 10) by omega) (W_n W12 (by omega) (F_n F5 (show ¬ (r = 77 ∧ (i = 4 ∨ i = 5)) by omega) rfl))))))))
    · refine to_c (pc := 44) rw_214_44 (x := (0 : Int32)) rfl rfl (s_r1 (pc := 45) rw_214_45 (A := 0) rfl (by decide) ?_)
      have k_122 : (0 : Int32).toInt = 0 := rfl
      have c_123 : M43.2.1 77 7 = (M28.2.1 77 7) := (W_n W42 (fun z => absurd z.1 (by decide)) (F_n F35 (show ¬ (77 = 77 ∧ (7 = 4 ∨ 7 = 5)) by decide) rfl))
      have t_124 : (M43.2.1 77 7).toInt = (M28.2.1 77 7).toInt := congrArg Int32.toInt c_123
      have c_125 : M43.2.1 77 6 = (M.2.1 77 6) := (W_n W42 (fun z => absurd z.1 (by decide)) (F_n F35 (show ¬ (77 = 77 ∧ (6 = 4 ∨ 6 = 5)) by decide) c_31))
      have t_126 : (M43.2.1 77 6).toInt = (M.2.1 77 6).toInt := congrArg Int32.toInt c_125
      have c_127 : M43.2.1 77 8 = (M28.2.1 77 8) := (W_n W42 (fun z => absurd z.1 (by decide)) (F_n F35 (show ¬ (77 = 77 ∧ (8 = 4 ∨ 8 = 5)) by decide) rfl))
      have t_128 : (M43.2.1 77 8).toInt = (M28.2.1 77 8).toInt := congrArg Int32.toInt c_127
      have t_129 : (M13.2.1 102 (a.toInt).toNat).toInt = r4.toInt := congrArg Int32.toInt (W_e W12)
      have t_130 : (M43.2.1 102 (a.toInt).toNat).toInt = (M13.2.1 102 (a.toInt).toNat).toInt := congrArg Int32.toInt (W_n W42 (by omega) (F_n F35 (show ¬ (102 = 77 ∧ (((a.toInt).toNat) = 4 ∨ ((a.toInt).toNat) = 5)) by omega) (F_n F23 (show ¬ (102 = 77 ∧ 7 ≤ ((a.toInt).toNat) ∧ ((a.toInt).toNat) ≤ 10) by omega) rfl)))
      have t_131 : (M13.2.1 102 (a.toInt).toNat).toInt = r4.toInt := congrArg Int32.toInt (W_e W12)
      have t_132 : (M43.2.1 102 (a.toInt).toNat).toInt = (M13.2.1 102 (a.toInt).toNat).toInt := congrArg Int32.toInt (W_n W42 (by omega) (F_n F35 (show ¬ (102 = 77 ∧ (((a.toInt).toNat) = 4 ∨ ((a.toInt).toNat) = 5)) by omega) (F_n F23 (show ¬ (102 = 77 ∧ 7 ≤ ((a.toInt).toNat) ∧ ((a.toInt).toNat) ≤ 10) by omega) rfl)))
      have t_133 : (M43.2.1 103 (a.toInt).toNat).toInt = r34.toInt := congrArg Int32.toInt (W_e W42)
      have t_134 : (M43.2.1 103 (a.toInt).toNat).toInt = r34.toInt := congrArg Int32.toInt (W_e W42)
      have t_135 : (M13.2.1 102 (a.toInt).toNat).toInt = r4.toInt := congrArg Int32.toInt (W_e W12)
      have t_136 : (M43.2.1 102 (a.toInt).toNat).toInt = (M13.2.1 102 (a.toInt).toNat).toInt := congrArg Int32.toInt (W_n W42 (by omega) (F_n F35 (show ¬ (102 = 77 ∧ (((a.toInt).toNat) = 4 ∨ ((a.toInt).toNat) = 5)) by omega) (F_n F23 (show ¬ (102 = 77 ∧ 7 ≤ ((a.toInt).toNat) ∧ ((a.toInt).toNat) ≤ 10) by omega) rfl)))
      exact h (0 : Int32) M43 hG44 F45 (by decide) (by decide) (by omega) (by omega) (by omega) (by omega) (fun r i z z2 => (W_n W42 (by omega) (F_n F35 (show ¬ (r = 77 ∧ (i = 4 ∨ i = 5)) by omega) (F_n F23 (show ¬ (r = 77 ∧ 7 ≤ i ∧ i ≤ 10) by omega) (W_n W12 (by omega) (F_n F5 (show ¬ (r = 77 ∧ (i = 4 ∨ i = 5)) by omega) rfl))))))
  · refine to_c (pc := 19) rw_214_19 (x := (0 : Int32)) rfl rfl (s_r1 (pc := 20) rw_214_20 (A := 0) rfl (by decide) ?_)
    have k_137 : (0 : Int32).toInt = 0 := rfl
    have c_138 : M13.2.1 77 7 = (M.2.1 77 7) := (W_n W12 (fun z => absurd z.1 (by decide)) (F_n F5 (show ¬ (77 = 77 ∧ (7 = 4 ∨ 7 = 5)) by decide) rfl))
    have t_139 : (M13.2.1 77 7).toInt = (M.2.1 77 7).toInt := congrArg Int32.toInt c_138
    have c_140 : M13.2.1 77 6 = (M.2.1 77 6) := (W_n W12 (fun z => absurd z.1 (by decide)) (F_n F5 (show ¬ (77 = 77 ∧ (6 = 4 ∨ 6 = 5)) by decide) rfl))
    have t_141 : (M13.2.1 77 6).toInt = (M.2.1 77 6).toInt := congrArg Int32.toInt c_140
    have c_142 : M13.2.1 77 8 = (M.2.1 77 8) := (W_n W12 (fun z => absurd z.1 (by decide)) (F_n F5 (show ¬ (77 = 77 ∧ (8 = 4 ∨ 8 = 5)) by decide) rfl))
    have t_143 : (M13.2.1 77 8).toInt = (M.2.1 77 8).toInt := congrArg Int32.toInt c_142
    have t_144 : (M13.2.1 102 (a.toInt).toNat).toInt = r4.toInt := congrArg Int32.toInt (W_e W12)
    have t_145 : (M13.2.1 102 (a.toInt).toNat).toInt = r4.toInt := congrArg Int32.toInt (W_e W12)
    have t_146 : (M13.2.1 103 (a.toInt).toNat).toInt = (M.2.1 103 (a.toInt).toNat).toInt := congrArg Int32.toInt (W_n W12 (by omega) (F_n F5 (show ¬ (103 = 77 ∧ (((a.toInt).toNat) = 4 ∨ ((a.toInt).toNat) = 5)) by omega) rfl))
    have t_147 : (M13.2.1 103 (a.toInt).toNat).toInt = (M.2.1 103 (a.toInt).toNat).toInt := congrArg Int32.toInt (W_n W12 (by omega) (F_n F5 (show ¬ (103 = 77 ∧ (((a.toInt).toNat) = 4 ∨ ((a.toInt).toNat) = 5)) by omega) rfl))
    have t_148 : (M13.2.1 102 (a.toInt).toNat).toInt = r4.toInt := congrArg Int32.toInt (W_e W12)
    exact h (0 : Int32) M13 hG14 F15 (by decide) (by decide) (by omega) (by omega) (by omega) (by omega) (fun r i z z2 => (W_n W12 (by omega) (F_n F5 (show ¬ (r = 77 ∧ (i = 4 ∨ i = 5)) by omega) rfl)))
set_option maxRecDepth 4000 in
set_option maxHeartbeats 0 in
theorem C_215 {X : mm_X} {d : Nat} {M : mm_M} {Q : Option Value → mm_M → Prop} (hX : g_X X) (hd : 4 ≤ d) (hG : g_G M) (q1 : (M.2.1 77 7).toInt ≤ (M.2.1 77 6).toInt) (q2 : AB M) (q3 : ST M) (h : ∀ (r : Int32) (M1 : mm_M), g_G M1 → FR md_ac M M1 → (0 ≤ r.toInt) → (r.toInt ≤ 1) → ((M1.2.1 77 7).toInt ≤ (M1.2.1 77 6).toInt) → ((M.2.1 77 7).toInt ≤ (M1.2.1 77 7).toInt) → (r.toInt = 1 → (M1.2.1 77 8).toInt = 0 ∨ (M.2.1 77 7).toInt < (M1.2.1 77 7).toInt) → (r.toInt = 1 → ¬ (M.2.1 77 8).toInt = 0) → (r.toInt = 1 → AB M1) → (r.toInt = 1 → ST M1) → Q (some (.int r)) M1) : mm_T X d 214 0 [.ref 77, .null] [] M Q := by
  have F0 : FR md_ac M M := FR.rf
  have b_1 := g_b hG (a := 77) (i := 7) (lo := 0) (hi := 500) rfl rfl
  have b_2 := g_b hG (a := 77) (i := 6) (lo := 0) (hi := 500) rfl rfl
  refine to_an (pc := 0) rw_215_0 rfl (to_c (pc := 1) rw_215_1 (x := (41 : Int32)) rfl rfl (s_v (pc := 3) rw_215_3 (dp0 hd (by decide)) (ls0 := [.ref 77, .int (41 : Int32)]) rfl (Nat.le_of_ble_eq_true rfl) (Nat.le_of_ble_eq_true rfl) rfl (to_rc rfl rfl rfl (g_o hG rfl)) rfl (to_an (pc := 0) rw_159_0 rfl ?_)))
  have b_3 := g_b hG (a := 77) (i := 8) (lo := 0) (hi := 5) rfl rfl
  refine tt_gI (pc := 1) rw_159_1 (g_o hG rfl) (v := (M.2.1 77 8)) rfl (to_c (pc := 4) rw_159_4 (x := (4 : Int32)) rfl rfl (b_cne (pc := 5) rw_159_5 (A := (M.2.1 77 8).toInt) (B := 4) rfl rfl (fun h4 => ?_) (fun h4 => ?_)))
  · refine to_c (pc := 20) rw_159_20 (x := (0 : Int32)) rfl rfl (s_r1 (pc := 21) rw_159_21 (A := 0) rfl (by decide) (b_ieq_t (pc := 6) rw_215_6 (A := 0) rfl (by decide) (to_an (pc := 50) rw_215_50 rfl (tt_gI (pc := 51) rw_215_51 (g_o hG rfl) (v := (M.2.1 77 8)) rfl (to_c (pc := 54) rw_215_54 (x := (1 : Int32)) rfl rfl (b_cne (pc := 55) rw_215_55 (A := (M.2.1 77 8).toInt) (B := 1) rfl rfl (fun h5 => ?_) (fun h5 => ?_)))))))
    · refine to_an (pc := 85) rw_215_85 rfl (to_c (pc := 86) rw_215_86 (x := (1 : Int32)) rfl rfl (s_v (pc := 87) rw_215_87 (dp0 hd (by decide)) (ls0 := [.ref 77, .int (1 : Int32)]) rfl (Nat.le_of_ble_eq_true rfl) (Nat.le_of_ble_eq_true rfl) rfl (to_rc rfl rfl rfl (g_o hG rfl)) rfl (to_an (pc := 0) rw_152_0 rfl (to_in (pc := 1) rw_152_1 rfl (s_pI (pc := 2) rw_152_2 hG rfl (fun M7 W6 => ?_))))))
      have hG8 := g_wf hG W6 rfl rfl (by decide)
      have F9 := FR.w F0 W6 (show 77 = 77 ∧ (4 = 4 ∨ 4 = 5 ∨ 7 ≤ 4 ∧ 4 ≤ 10) ∨ 77 = 77 ∧ (4 = 44 ∨ 4 = 52) ∨ 101 ≤ 77 ∧ 77 ≤ 108 by decide)
      refine to_an (pc := 5) rw_152_5 rfl (to_an (pc := 6) rw_152_6 rfl ?_)
      have c_10 : M7.2.1 77 10 = (M.2.1 77 10) := (W_n W6 (by decide) rfl)
      have b_11 := g_b hG (a := 77) (i := 10) (lo := 0) (hi := 500) rfl rfl
      refine tt_gI (pc := 7) rw_152_7 (g_o hG8 rfl) (v := (M.2.1 77 10)) c_10 (s_pI (pc := 10) rw_152_10 hG8 rfl (fun M13 W12 => ?_))
      have hG14 := g_wf hG8 W12 rfl rfl (by decide)
      have F15 := FR.w F9 W12 (show 77 = 77 ∧ (5 = 4 ∨ 5 = 5 ∨ 7 ≤ 5 ∧ 5 ≤ 10) ∨ 77 = 77 ∧ (5 = 44 ∨ 5 = 52) ∨ 101 ≤ 77 ∧ 77 ≤ 108 by decide)
      refine to_c (pc := 13) rw_152_13 (x := (0 : Int32)) rfl rfl (s_r1 (pc := 14) rw_152_14 (A := 0) rfl (by decide) (s_r1 (pc := 90) rw_215_90 (A := 0) rfl (by decide) ?_))
      have k_16 : (0 : Int32).toInt = 0 := rfl
      have c_17 : M13.2.1 77 7 = (M.2.1 77 7) := (W_n W12 (by decide) (W_n W6 (by decide) rfl))
      have t_18 : (M13.2.1 77 7).toInt = (M.2.1 77 7).toInt := congrArg Int32.toInt c_17
      have c_19 : M13.2.1 77 6 = (M.2.1 77 6) := (W_n W12 (by decide) (W_n W6 (by decide) rfl))
      have t_20 : (M13.2.1 77 6).toInt = (M.2.1 77 6).toInt := congrArg Int32.toInt c_19
      have c_21 : M13.2.1 77 8 = (M.2.1 77 8) := (W_n W12 (by decide) (W_n W6 (by decide) rfl))
      have t_22 : (M13.2.1 77 8).toInt = (M.2.1 77 8).toInt := congrArg Int32.toInt c_21
      exact h (0 : Int32) M13 hG14 F15 (by decide) (by decide) (by omega) (by omega) (by omega) (by omega) (fun z => absurd z (by omega)) (fun z => absurd z (by omega))
    · refine to_an (pc := 58) rw_215_58 rfl (tt_gI (pc := 59) rw_215_59 (g_o hG rfl) (v := (M.2.1 77 9)) rfl (to_c (pc := 62) rw_215_62 (x := (7 : Int32)) rfl rfl (b_ceq (pc := 64) rw_215_64 (A := (M.2.1 77 9).toInt) (B := 7) rfl rfl (fun h23 => ?_) (fun h23 => ?_))))
      · refine to_an (pc := 91) rw_215_91 rfl ?_
        have b_24 := g_b hG (a := 77) (i := 44) (lo := 0) (hi := 40) rfl rfl
        refine tt_gI (pc := 92) rw_215_92 (g_o hG rfl) (v := (M.2.1 77 44)) rfl (to_c (pc := 95) rw_215_95 (x := (40 : Int32)) rfl rfl (b_cne (pc := 97) rw_215_97 (A := (M.2.1 77 44).toInt) (B := 40) rfl rfl (fun h25 => ?_) (fun h25 => ?_)))
        · refine to_an (pc := 106) rw_215_106 rfl (tt_gI (pc := 107) rw_215_107 (g_o hG rfl) (v := (M.2.1 77 44)) rfl (to_isn (pc := 110) rw_215_110 (ls2 := [.ref 77, .int (M.2.1 77 44)]) rfl rfl (to_an (pc := 111) rw_215_111 rfl (s_gR (pc := 112) rw_215_112 hG rfl (v := 101) rfl (to_in (pc := 115) rw_215_115 rfl (to_an (pc := 116) rw_215_116 rfl (tt_gI (pc := 117) rw_215_117 (g_o hG rfl) (v := (M.2.1 77 9)) rfl (to_c (pc := 120) rw_215_120 (x := (7 : Int32)) rfl rfl (b_cne_f (pc := 122) rw_215_122 (A := (M.2.1 77 9).toInt) (B := 7) rfl rfl (by omega) (to_c (pc := 125) rw_215_125 (x := (0 : Int32)) rfl rfl (to_go (pc := 126) rw_215_126 ?_)))))))))))
          refine s_ias (pc := 143) rw_215_143 hG rfl (n := 40) rfl (A := (M.2.1 77 44).toInt) rfl (by omega) (by omega) (fun M27 W26 => ?_)
          have hG28 := g_w hG W26 (A := 0) rfl (lo := 0) (hi := 2) rfl rfl (by omega) (by decide)
          have F29 := FR.w F0 W26 (show 101 = 77 ∧ (((M.2.1 77 44).toInt).toNat = 4 ∨ ((M.2.1 77 44).toInt).toNat = 5 ∨ 7 ≤ ((M.2.1 77 44).toInt).toNat ∧ ((M.2.1 77 44).toInt).toNat ≤ 10) ∨ 101 = 77 ∧ (((M.2.1 77 44).toInt).toNat = 44 ∨ ((M.2.1 77 44).toInt).toNat = 52) ∨ 101 ≤ 101 ∧ 101 ≤ 108 by omega)
          refine to_an (pc := 144) rw_215_144 rfl (to_dupr (pc := 145) rw_215_145 ?_)
          have c_30 : M27.2.1 77 44 = (M.2.1 77 44) := (W_n W26 (fun z => absurd z.1 (by decide)) rfl)
          refine tt_gI (pc := 146) rw_215_146 (g_o hG28 rfl) (v := (M.2.1 77 44)) c_30 (to_c (pc := 149) rw_215_149 (x := (1 : Int32)) rfl rfl (s_add (pc := 150) rw_215_150 (A := (M.2.1 77 44).toInt) (B := 1) rfl rfl (by omega) (fun v31 e32 => s_pI (pc := 151) rw_215_151 hG28 rfl (fun M34 W33 => ?_))))
          have hG35 := g_w hG28 W33 (A := v31.toInt) rfl (lo := 0) (hi := 40) rfl rfl (by omega) (by decide)
          have F36 := FR.w F29 W33 (show 77 = 77 ∧ (44 = 4 ∨ 44 = 5 ∨ 7 ≤ 44 ∧ 44 ≤ 10) ∨ 77 = 77 ∧ (44 = 44 ∨ 44 = 52) ∨ 101 ≤ 77 ∧ 77 ≤ 108 by decide)
          refine to_an (pc := 154) rw_215_154 rfl (s_v (pc := 155) rw_215_155 (dp0 hd (by decide)) (ls0 := [.ref 77]) rfl (Nat.le_of_ble_eq_true rfl) (Nat.le_of_ble_eq_true rfl) rfl (to_rc rfl rfl rfl (g_o hG35 rfl)) rfl ?_)
          have c_37 : M34.2.1 77 7 = (M.2.1 77 7) := (W_n W33 (by decide) (W_n W26 (fun z => absurd z.1 (by decide)) rfl))
          have t_38 : (M34.2.1 77 7).toInt = (M.2.1 77 7).toInt := congrArg Int32.toInt c_37
          have c_39 : M34.2.1 77 6 = (M.2.1 77 6) := (W_n W33 (by decide) (W_n W26 (fun z => absurd z.1 (by decide)) rfl))
          have t_40 : (M34.2.1 77 6).toInt = (M.2.1 77 6).toInt := congrArg Int32.toInt c_39
          refine C_156 hX (dp1 hd (by decide)) hG35 (by omega)  (fun M46 hG42 F41 p_43 p_44 p_45 => ?_)
          have F47 := FR.c F36 F41 tg_276
          have b_48 := g_b hG42 (a := 77) (i := 7) (lo := 0) (hi := 500) rfl rfl
          have c_49 : M46.2.1 77 6 = (M.2.1 77 6) := (F_n F41 (show ¬ (77 = 77 ∧ 7 ≤ 6 ∧ 6 ≤ 10) by decide) c_39)
          have t_50 : (M46.2.1 77 6).toInt = (M.2.1 77 6).toInt := congrArg Int32.toInt c_49
          have b_51 := g_b hG42 (a := 77) (i := 8) (lo := 0) (hi := 5) rfl rfl
          refine to_an (pc := 158) rw_215_158 rfl (s_gR (pc := 159) rw_215_159 hG42 rfl (v := 101) rfl (to_in (pc := 162) rw_215_162 rfl (s_ialk (pc := 163) rw_215_163 hG42 rfl (n := 40) rfl rfl (A := (M.2.1 77 44).toInt) rfl (by omega) (by omega) (v := (0 : Int32)) (F_n F41 (show ¬ (101 = 77 ∧ 7 ≤ ((M.2.1 77 44).toInt).toNat ∧ ((M.2.1 77 44).toInt).toNat ≤ 10) by omega) (W_n W33 (by omega) (W_e W26))) (b_ine_f (pc := 164) rw_215_164 (A := 0) rfl (by decide) (to_an (pc := 167) rw_215_167 rfl (to_in (pc := 168) rw_215_168 rfl (s_v (pc := 169) rw_215_169 (dp0 hd (by decide)) (ls0 := [.ref 77, .int (M.2.1 77 44)]) rfl (Nat.le_of_ble_eq_true rfl) (Nat.le_of_ble_eq_true rfl) rfl (to_rc rfl rfl rfl (g_o hG42 rfl)) rfl (C_213 hX (dp1 hd (by decide)) hG42 (by omega) (by omega) (by omega) (a := (M.2.1 77 44)) (fun r54 M64 hG56 F55 p_57 p_58 p_59 p_60 p_61 p_62 p_63 => ?_)))))))))
          have F65 := FR.c F47 F55 tg_277
          have b_66 := g_b hG56 (a := 77) (i := 7) (lo := 0) (hi := 500) rfl rfl
          have c_67 : M64.2.1 77 6 = (M.2.1 77 6) := (F_n F55 (show ¬ (77 = 77 ∧ (6 = 4 ∨ 6 = 5 ∨ 7 ≤ 6 ∧ 6 ≤ 10) ∨ 102 ≤ 77 ∧ 77 ≤ 104 ∨ 77 = 106 ∨ 77 = 107) by decide) c_49)
          have t_68 : (M64.2.1 77 6).toInt = (M.2.1 77 6).toInt := congrArg Int32.toInt c_67
          have b_69 := g_b hG56 (a := 77) (i := 8) (lo := 0) (hi := 5) rfl rfl
          refine s_r1 (pc := 172) rw_215_172 (A := r54.toInt) rfl (by omega) ?_
          have c_70 : M64.2.1 77 44 = v31 := (F_n F55 (show ¬ (77 = 77 ∧ (44 = 4 ∨ 44 = 5 ∨ 7 ≤ 44 ∧ 44 ≤ 10) ∨ 102 ≤ 77 ∧ 77 ≤ 104 ∨ 77 = 106 ∨ 77 = 107) by decide) (F_n F41 (show ¬ (77 = 77 ∧ 7 ≤ 44 ∧ 44 ≤ 10) by decide) (W_e W33)))
          have t_71 : (M64.2.1 77 44).toInt = v31.toInt := congrArg Int32.toInt c_70
          have c_72 : M64.2.1 77 52 = (M.2.1 77 52) := (F_n F55 (show ¬ (77 = 77 ∧ (52 = 4 ∨ 52 = 5 ∨ 7 ≤ 52 ∧ 52 ≤ 10) ∨ 102 ≤ 77 ∧ 77 ≤ 104 ∨ 77 = 106 ∨ 77 = 107) by decide) (F_n F41 (show ¬ (77 = 77 ∧ 7 ≤ 52 ∧ 52 ≤ 10) by decide) (W_n W33 (by decide) (W_n W26 (fun z => absurd z.1 (by decide)) rfl))))
          have b_73 := g_b hG (a := 77) (i := 52) (lo := 0) (hi := 5) rfl rfl
          have t_74 : (M64.2.1 77 52).toInt = (M.2.1 77 52).toInt := congrArg Int32.toInt c_72
          have t_76 : (M27.2.1 101 ((M.2.1 77 44).toInt).toNat).toInt = (0 : Int32).toInt := congrArg Int32.toInt (W_e W26)
          have k_77 : (0 : Int32).toInt = 0 := rfl
          have t_78 : (M64.2.1 101 ((M.2.1 77 44).toInt).toNat).toInt = (M27.2.1 101 ((M.2.1 77 44).toInt).toNat).toInt := congrArg Int32.toInt (F_n F55 (show ¬ (101 = 77 ∧ ((((M.2.1 77 44).toInt).toNat) = 4 ∨ (((M.2.1 77 44).toInt).toNat) = 5 ∨ 7 ≤ (((M.2.1 77 44).toInt).toNat) ∧ (((M.2.1 77 44).toInt).toNat) ≤ 10) ∨ 102 ≤ 101 ∧ 101 ≤ 104 ∨ 101 = 106 ∨ 101 = 107) by omega) (F_n F41 (show ¬ (101 = 77 ∧ 7 ≤ (((M.2.1 77 44).toInt).toNat) ∧ (((M.2.1 77 44).toInt).toNat) ≤ 10) by omega) (W_n W33 (by omega) rfl)))
          have t_80 : (M27.2.1 101 ((M.2.1 77 44).toInt).toNat).toInt = (0 : Int32).toInt := congrArg Int32.toInt (W_e W26)
          have t_81 : (M64.2.1 101 ((M.2.1 77 44).toInt).toNat).toInt = (M27.2.1 101 ((M.2.1 77 44).toInt).toNat).toInt := congrArg Int32.toInt (F_n F55 (show ¬ (101 = 77 ∧ ((((M.2.1 77 44).toInt).toNat) = 4 ∨ (((M.2.1 77 44).toInt).toNat) = 5 ∨ 7 ≤ (((M.2.1 77 44).toInt).toNat) ∧ (((M.2.1 77 44).toInt).toNat) ≤ 10) ∨ 102 ≤ 101 ∧ 101 ≤ 104 ∨ 101 = 106 ∨ 101 = 107) by omega) (F_n F41 (show ¬ (101 = 77 ∧ 7 ≤ (((M.2.1 77 44).toInt).toNat) ∧ (((M.2.1 77 44).toInt).toNat) ≤ 10) by omega) (W_n W33 (by omega) rfl)))
          exact h r54 M64 hG56 F65 (by omega) (by omega) (by omega) (by omega) (by omega) (by omega) (fun zr => AB_k (M1 := M64) (n := ((M.2.1 77 44).toInt).toNat) q2 (by omega) (by omega) (fun r i z z2 => by
              by_cases e : r = 101
              · subst e; exact (F_n F55 (show ¬ (101 = 77 ∧ (i = 4 ∨ i = 5 ∨ 7 ≤ i ∧ i ≤ 10) ∨ 102 ≤ 101 ∧ 101 ≤ 104 ∨ 101 = 106 ∨ 101 = 107) by omega) (F_n F41 (show ¬ (101 = 77 ∧ 7 ≤ i ∧ i ≤ 10) by omega) (W_n W33 (by omega) (W_n W26 (by omega) rfl))))
              · exact (p_63 r i (by omega) z2).trans (F_n F41 (show ¬ (r = 77 ∧ 7 ≤ i ∧ i ≤ 10) by omega) (W_n W33 (by omega) (W_n W26 (by omega) rfl)))) (by refine ⟨fun _ => ?_, fun _ => ?_, fun _ => ?_⟩ <;> omega)) (fun _ => ST_plain (M1 := M64) (n := ((M.2.1 77 44).toInt).toNat) q3 (by omega) (by omega) (by omega) (fun i z => (F_n F55 (show ¬ (101 = 77 ∧ (i = 4 ∨ i = 5 ∨ 7 ≤ i ∧ i ≤ 10) ∨ 102 ≤ 101 ∧ 101 ≤ 104 ∨ 101 = 106 ∨ 101 = 107) by omega) (F_n F41 (show ¬ (101 = 77 ∧ 7 ≤ i ∧ i ≤ 10) by omega) (W_n W33 (by omega) (W_n W26 (by omega) rfl))))) (by omega) (fun i => (F_n F55 (show ¬ (108 = 77 ∧ (i = 4 ∨ i = 5 ∨ 7 ≤ i ∧ i ≤ 10) ∨ 102 ≤ 108 ∧ 108 ≤ 104 ∨ 108 = 106 ∨ 108 = 107) by omega) (F_n F41 (show ¬ (108 = 77 ∧ 7 ≤ i ∧ i ≤ 10) by omega) (W_n W33 (by omega) (W_n W26 (by omega) rfl))))) (fun i => (F_n F55 (show ¬ (105 = 77 ∧ (i = 4 ∨ i = 5 ∨ 7 ≤ i ∧ i ≤ 10) ∨ 102 ≤ 105 ∧ 105 ≤ 104 ∨ 105 = 106 ∨ 105 = 107) by omega) (F_n F41 (show ¬ (105 = 77 ∧ 7 ≤ i ∧ i ≤ 10) by omega) (W_n W33 (by omega) (W_n W26 (by omega) rfl))))))
        · refine to_an (pc := 100) rw_215_100 rfl (to_c (pc := 101) rw_215_101 (x := (2 : Int32)) rfl rfl (s_v (pc := 102) rw_215_102 (dp0 hd (by decide)) (ls0 := [.ref 77, .int (2 : Int32)]) rfl (Nat.le_of_ble_eq_true rfl) (Nat.le_of_ble_eq_true rfl) rfl (to_rc rfl rfl rfl (g_o hG rfl)) rfl (to_an (pc := 0) rw_152_0 rfl (to_in (pc := 1) rw_152_1 rfl (s_pI (pc := 2) rw_152_2 hG rfl (fun M83 W82 => ?_))))))
          have hG84 := g_wf hG W82 rfl rfl (by decide)
          have F85 := FR.w F0 W82 (show 77 = 77 ∧ (4 = 4 ∨ 4 = 5 ∨ 7 ≤ 4 ∧ 4 ≤ 10) ∨ 77 = 77 ∧ (4 = 44 ∨ 4 = 52) ∨ 101 ≤ 77 ∧ 77 ≤ 108 by decide)
          refine to_an (pc := 5) rw_152_5 rfl (to_an (pc := 6) rw_152_6 rfl ?_)
          have c_86 : M83.2.1 77 10 = (M.2.1 77 10) := (W_n W82 (by decide) rfl)
          have b_87 := g_b hG (a := 77) (i := 10) (lo := 0) (hi := 500) rfl rfl
          refine tt_gI (pc := 7) rw_152_7 (g_o hG84 rfl) (v := (M.2.1 77 10)) c_86 (s_pI (pc := 10) rw_152_10 hG84 rfl (fun M89 W88 => ?_))
          have hG90 := g_wf hG84 W88 rfl rfl (by decide)
          have F91 := FR.w F85 W88 (show 77 = 77 ∧ (5 = 4 ∨ 5 = 5 ∨ 7 ≤ 5 ∧ 5 ≤ 10) ∨ 77 = 77 ∧ (5 = 44 ∨ 5 = 52) ∨ 101 ≤ 77 ∧ 77 ≤ 108 by decide)
          refine to_c (pc := 13) rw_152_13 (x := (0 : Int32)) rfl rfl (s_r1 (pc := 14) rw_152_14 (A := 0) rfl (by decide) (s_r1 (pc := 105) rw_215_105 (A := 0) rfl (by decide) ?_))
          have k_92 : (0 : Int32).toInt = 0 := rfl
          have c_93 : M89.2.1 77 7 = (M.2.1 77 7) := (W_n W88 (by decide) (W_n W82 (by decide) rfl))
          have t_94 : (M89.2.1 77 7).toInt = (M.2.1 77 7).toInt := congrArg Int32.toInt c_93
          have c_95 : M89.2.1 77 6 = (M.2.1 77 6) := (W_n W88 (by decide) (W_n W82 (by decide) rfl))
          have t_96 : (M89.2.1 77 6).toInt = (M.2.1 77 6).toInt := congrArg Int32.toInt c_95
          have c_97 : M89.2.1 77 8 = (M.2.1 77 8) := (W_n W88 (by decide) (W_n W82 (by decide) rfl))
          have t_98 : (M89.2.1 77 8).toInt = (M.2.1 77 8).toInt := congrArg Int32.toInt c_97
          exact h (0 : Int32) M89 hG90 F91 (by decide) (by decide) (by omega) (by omega) (by omega) (by omega) (fun z => absurd z (by omega)) (fun z => absurd z (by omega))
      · refine to_an (pc := 67) rw_215_67 rfl (tt_gI (pc := 68) rw_215_68 (g_o hG rfl) (v := (M.2.1 77 9)) rfl (to_c (pc := 71) rw_215_71 (x := (10 : Int32)) rfl rfl (b_ceq (pc := 73) rw_215_73 (A := (M.2.1 77 9).toInt) (B := 10) rfl rfl (fun h99 => ?_) (fun h99 => ?_))))
        · refine to_an (pc := 91) rw_215_91 rfl ?_
          have b_100 := g_b hG (a := 77) (i := 44) (lo := 0) (hi := 40) rfl rfl
          refine tt_gI (pc := 92) rw_215_92 (g_o hG rfl) (v := (M.2.1 77 44)) rfl (to_c (pc := 95) rw_215_95 (x := (40 : Int32)) rfl rfl (b_cne (pc := 97) rw_215_97 (A := (M.2.1 77 44).toInt) (B := 40) rfl rfl (fun h101 => ?_) (fun h101 => ?_)))
          · refine to_an (pc := 106) rw_215_106 rfl (tt_gI (pc := 107) rw_215_107 (g_o hG rfl) (v := (M.2.1 77 44)) rfl (to_isn (pc := 110) rw_215_110 (ls2 := [.ref 77, .int (M.2.1 77 44)]) rfl rfl (to_an (pc := 111) rw_215_111 rfl (s_gR (pc := 112) rw_215_112 hG rfl (v := 101) rfl (to_in (pc := 115) rw_215_115 rfl (to_an (pc := 116) rw_215_116 rfl (tt_gI (pc := 117) rw_215_117 (g_o hG rfl) (v := (M.2.1 77 9)) rfl (to_c (pc := 120) rw_215_120 (x := (7 : Int32)) rfl rfl (b_cne_t (pc := 122) rw_215_122 (A := (M.2.1 77 9).toInt) (B := 7) rfl rfl (by omega) (to_an (pc := 129) rw_215_129 rfl (tt_gI (pc := 130) rw_215_130 (g_o hG rfl) (v := (M.2.1 77 9)) rfl ?_)))))))))))
            refine to_c (pc := 133) rw_215_133 (x := (10 : Int32)) rfl rfl (b_cne_f (pc := 135) rw_215_135 (A := (M.2.1 77 9).toInt) (B := 10) rfl rfl (by omega) (to_c (pc := 138) rw_215_138 (x := (1 : Int32)) rfl rfl (to_go (pc := 139) rw_215_139 (s_ias (pc := 143) rw_215_143 hG rfl (n := 40) rfl (A := (M.2.1 77 44).toInt) rfl (by omega) (by omega) (fun M103 W102 => ?_)))))
            have hG104 := g_w hG W102 (A := 1) rfl (lo := 0) (hi := 2) rfl rfl (by omega) (by decide)
            have F105 := FR.w F0 W102 (show 101 = 77 ∧ (((M.2.1 77 44).toInt).toNat = 4 ∨ ((M.2.1 77 44).toInt).toNat = 5 ∨ 7 ≤ ((M.2.1 77 44).toInt).toNat ∧ ((M.2.1 77 44).toInt).toNat ≤ 10) ∨ 101 = 77 ∧ (((M.2.1 77 44).toInt).toNat = 44 ∨ ((M.2.1 77 44).toInt).toNat = 52) ∨ 101 ≤ 101 ∧ 101 ≤ 108 by omega)
            refine to_an (pc := 144) rw_215_144 rfl (to_dupr (pc := 145) rw_215_145 ?_)
            have c_106 : M103.2.1 77 44 = (M.2.1 77 44) := (W_n W102 (fun z => absurd z.1 (by decide)) rfl)
            refine tt_gI (pc := 146) rw_215_146 (g_o hG104 rfl) (v := (M.2.1 77 44)) c_106 (to_c (pc := 149) rw_215_149 (x := (1 : Int32)) rfl rfl (s_add (pc := 150) rw_215_150 (A := (M.2.1 77 44).toInt) (B := 1) rfl rfl (by omega) (fun v107 e108 => s_pI (pc := 151) rw_215_151 hG104 rfl (fun M110 W109 => ?_))))
            have hG111 := g_w hG104 W109 (A := v107.toInt) rfl (lo := 0) (hi := 40) rfl rfl (by omega) (by decide)
            have F112 := FR.w F105 W109 (show 77 = 77 ∧ (44 = 4 ∨ 44 = 5 ∨ 7 ≤ 44 ∧ 44 ≤ 10) ∨ 77 = 77 ∧ (44 = 44 ∨ 44 = 52) ∨ 101 ≤ 77 ∧ 77 ≤ 108 by decide)
            refine to_an (pc := 154) rw_215_154 rfl (s_v (pc := 155) rw_215_155 (dp0 hd (by decide)) (ls0 := [.ref 77]) rfl (Nat.le_of_ble_eq_true rfl) (Nat.le_of_ble_eq_true rfl) rfl (to_rc rfl rfl rfl (g_o hG111 rfl)) rfl ?_)
            have c_113 : M110.2.1 77 7 = (M.2.1 77 7) := (W_n W109 (by decide) (W_n W102 (fun z => absurd z.1 (by decide)) rfl))
            have t_114 : (M110.2.1 77 7).toInt = (M.2.1 77 7).toInt := congrArg Int32.toInt c_113
            have c_115 : M110.2.1 77 6 = (M.2.1 77 6) := (W_n W109 (by decide) (W_n W102 (fun z => absurd z.1 (by decide)) rfl))
            have t_116 : (M110.2.1 77 6).toInt = (M.2.1 77 6).toInt := congrArg Int32.toInt c_115
            refine C_156 hX (dp1 hd (by decide)) hG111 (by omega)  (fun M122 hG118 F117 p_119 p_120 p_121 => ?_)
            have F123 := FR.c F112 F117 tg_276
            have b_124 := g_b hG118 (a := 77) (i := 7) (lo := 0) (hi := 500) rfl rfl
            have c_125 : M122.2.1 77 6 = (M.2.1 77 6) := (F_n F117 (show ¬ (77 = 77 ∧ 7 ≤ 6 ∧ 6 ≤ 10) by decide) c_115)
            have t_126 : (M122.2.1 77 6).toInt = (M.2.1 77 6).toInt := congrArg Int32.toInt c_125
            have b_127 := g_b hG118 (a := 77) (i := 8) (lo := 0) (hi := 5) rfl rfl
            refine to_an (pc := 158) rw_215_158 rfl (s_gR (pc := 159) rw_215_159 hG118 rfl (v := 101) rfl (to_in (pc := 162) rw_215_162 rfl (s_ialk (pc := 163) rw_215_163 hG118 rfl (n := 40) rfl rfl (A := (M.2.1 77 44).toInt) rfl (by omega) (by omega) (v := (1 : Int32)) (F_n F117 (show ¬ (101 = 77 ∧ 7 ≤ ((M.2.1 77 44).toInt).toNat ∧ ((M.2.1 77 44).toInt).toNat ≤ 10) by omega) (W_n W109 (by omega) (W_e W102))) (b_ine_t (pc := 164) rw_215_164 (A := 1) rfl (by decide) (to_an (pc := 173) rw_215_173 rfl (s_gR (pc := 174) rw_215_174 hG118 rfl (v := 101) rfl (to_in (pc := 177) rw_215_177 rfl (s_ialk (pc := 178) rw_215_178 hG118 rfl (n := 40) rfl rfl (A := (M.2.1 77 44).toInt) rfl (by omega) (by omega) (v := (1 : Int32)) (F_n F117 (show ¬ (101 = 77 ∧ 7 ≤ ((M.2.1 77 44).toInt).toNat ∧ ((M.2.1 77 44).toInt).toNat ≤ 10) by omega) (W_n W109 (by omega) (W_e W102))) (to_c (pc := 179) rw_215_179 (x := (1 : Int32)) rfl rfl (b_cne_f (pc := 180) rw_215_180 (A := 1) (B := 1) rfl rfl (by decide) (to_an (pc := 183) rw_215_183 rfl ?_)))))))))))
            refine to_in (pc := 184) rw_215_184 rfl (s_v (pc := 185) rw_215_185 (dp0 hd (by decide)) (ls0 := [.ref 77, .int (M.2.1 77 44)]) rfl (Nat.le_of_ble_eq_true rfl) (Nat.le_of_ble_eq_true rfl) rfl (to_rc rfl rfl rfl (g_o hG118 rfl)) rfl (C_214 hX (dp1 hd (by decide)) hG118 (by omega) (by omega) (by omega) (a := (M.2.1 77 44)) (fun r132 M142 hG134 F133 p_135 p_136 p_137 p_138 p_139 p_140 p_141 => ?_)))
            have F143 := FR.c F123 F133 tg_277
            have b_144 := g_b hG134 (a := 77) (i := 7) (lo := 0) (hi := 500) rfl rfl
            have c_145 : M142.2.1 77 6 = (M.2.1 77 6) := (F_n F133 (show ¬ (77 = 77 ∧ (6 = 4 ∨ 6 = 5 ∨ 7 ≤ 6 ∧ 6 ≤ 10) ∨ 102 ≤ 77 ∧ 77 ≤ 104 ∨ 77 = 106 ∨ 77 = 107) by decide) c_125)
            have t_146 : (M142.2.1 77 6).toInt = (M.2.1 77 6).toInt := congrArg Int32.toInt c_145
            have b_147 := g_b hG134 (a := 77) (i := 8) (lo := 0) (hi := 5) rfl rfl
            refine s_r1 (pc := 188) rw_215_188 (A := r132.toInt) rfl (by omega) ?_
            have c_148 : M142.2.1 77 44 = v107 := (F_n F133 (show ¬ (77 = 77 ∧ (44 = 4 ∨ 44 = 5 ∨ 7 ≤ 44 ∧ 44 ≤ 10) ∨ 102 ≤ 77 ∧ 77 ≤ 104 ∨ 77 = 106 ∨ 77 = 107) by decide) (F_n F117 (show ¬ (77 = 77 ∧ 7 ≤ 44 ∧ 44 ≤ 10) by decide) (W_e W109)))
            have t_149 : (M142.2.1 77 44).toInt = v107.toInt := congrArg Int32.toInt c_148
            have c_150 : M142.2.1 77 52 = (M.2.1 77 52) := (F_n F133 (show ¬ (77 = 77 ∧ (52 = 4 ∨ 52 = 5 ∨ 7 ≤ 52 ∧ 52 ≤ 10) ∨ 102 ≤ 77 ∧ 77 ≤ 104 ∨ 77 = 106 ∨ 77 = 107) by decide) (F_n F117 (show ¬ (77 = 77 ∧ 7 ≤ 52 ∧ 52 ≤ 10) by decide) (W_n W109 (by decide) (W_n W102 (fun z => absurd z.1 (by decide)) rfl))))
            have b_151 := g_b hG (a := 77) (i := 52) (lo := 0) (hi := 5) rfl rfl
            have t_152 : (M142.2.1 77 52).toInt = (M.2.1 77 52).toInt := congrArg Int32.toInt c_150
            have t_154 : (M103.2.1 101 ((M.2.1 77 44).toInt).toNat).toInt = (1 : Int32).toInt := congrArg Int32.toInt (W_e W102)
            have k_155 : (1 : Int32).toInt = 1 := rfl
            have t_156 : (M142.2.1 101 ((M.2.1 77 44).toInt).toNat).toInt = (M103.2.1 101 ((M.2.1 77 44).toInt).toNat).toInt := congrArg Int32.toInt (F_n F133 (show ¬ (101 = 77 ∧ ((((M.2.1 77 44).toInt).toNat) = 4 ∨ (((M.2.1 77 44).toInt).toNat) = 5 ∨ 7 ≤ (((M.2.1 77 44).toInt).toNat) ∧ (((M.2.1 77 44).toInt).toNat) ≤ 10) ∨ 102 ≤ 101 ∧ 101 ≤ 104 ∨ 101 = 106 ∨ 101 = 107) by omega) (F_n F117 (show ¬ (101 = 77 ∧ 7 ≤ (((M.2.1 77 44).toInt).toNat) ∧ (((M.2.1 77 44).toInt).toNat) ≤ 10) by omega) (W_n W109 (by omega) rfl)))
            have t_158 : (M103.2.1 101 ((M.2.1 77 44).toInt).toNat).toInt = (1 : Int32).toInt := congrArg Int32.toInt (W_e W102)
            have t_159 : (M142.2.1 101 ((M.2.1 77 44).toInt).toNat).toInt = (M103.2.1 101 ((M.2.1 77 44).toInt).toNat).toInt := congrArg Int32.toInt (F_n F133 (show ¬ (101 = 77 ∧ ((((M.2.1 77 44).toInt).toNat) = 4 ∨ (((M.2.1 77 44).toInt).toNat) = 5 ∨ 7 ≤ (((M.2.1 77 44).toInt).toNat) ∧ (((M.2.1 77 44).toInt).toNat) ≤ 10) ∨ 102 ≤ 101 ∧ 101 ≤ 104 ∨ 101 = 106 ∨ 101 = 107) by omega) (F_n F117 (show ¬ (101 = 77 ∧ 7 ≤ (((M.2.1 77 44).toInt).toNat) ∧ (((M.2.1 77 44).toInt).toNat) ≤ 10) by omega) (W_n W109 (by omega) rfl)))
            exact h r132 M142 hG134 F143 (by omega) (by omega) (by omega) (by omega) (by omega) (by omega) (fun zr => AB_k (M1 := M142) (n := ((M.2.1 77 44).toInt).toNat) q2 (by omega) (by omega) (fun r i z z2 => by
                by_cases e : r = 101
                · subst e; exact (F_n F133 (show ¬ (101 = 77 ∧ (i = 4 ∨ i = 5 ∨ 7 ≤ i ∧ i ≤ 10) ∨ 102 ≤ 101 ∧ 101 ≤ 104 ∨ 101 = 106 ∨ 101 = 107) by omega) (F_n F117 (show ¬ (101 = 77 ∧ 7 ≤ i ∧ i ≤ 10) by omega) (W_n W109 (by omega) (W_n W102 (by omega) rfl))))
                · exact (p_141 r i (by omega) z2).trans (F_n F117 (show ¬ (r = 77 ∧ 7 ≤ i ∧ i ≤ 10) by omega) (W_n W109 (by omega) (W_n W102 (by omega) rfl)))) (by refine ⟨fun _ => ?_, fun _ => ?_, fun _ => ?_⟩ <;> omega)) (fun _ => ST_plain (M1 := M142) (n := ((M.2.1 77 44).toInt).toNat) q3 (by omega) (by omega) (by omega) (fun i z => (F_n F133 (show ¬ (101 = 77 ∧ (i = 4 ∨ i = 5 ∨ 7 ≤ i ∧ i ≤ 10) ∨ 102 ≤ 101 ∧ 101 ≤ 104 ∨ 101 = 106 ∨ 101 = 107) by omega) (F_n F117 (show ¬ (101 = 77 ∧ 7 ≤ i ∧ i ≤ 10) by omega) (W_n W109 (by omega) (W_n W102 (by omega) rfl))))) (by omega) (fun i => (F_n F133 (show ¬ (108 = 77 ∧ (i = 4 ∨ i = 5 ∨ 7 ≤ i ∧ i ≤ 10) ∨ 102 ≤ 108 ∧ 108 ≤ 104 ∨ 108 = 106 ∨ 108 = 107) by omega) (F_n F117 (show ¬ (108 = 77 ∧ 7 ≤ i ∧ i ≤ 10) by omega) (W_n W109 (by omega) (W_n W102 (by omega) rfl))))) (fun i => (F_n F133 (show ¬ (105 = 77 ∧ (i = 4 ∨ i = 5 ∨ 7 ≤ i ∧ i ≤ 10) ∨ 102 ≤ 105 ∧ 105 ≤ 104 ∨ 105 = 106 ∨ 105 = 107) by omega) (F_n F117 (show ¬ (105 = 77 ∧ 7 ≤ i ∧ i ≤ 10) by omega) (W_n W109 (by omega) (W_n W102 (by omega) rfl))))))
          · refine to_an (pc := 100) rw_215_100 rfl (to_c (pc := 101) rw_215_101 (x := (2 : Int32)) rfl rfl (s_v (pc := 102) rw_215_102 (dp0 hd (by decide)) (ls0 := [.ref 77, .int (2 : Int32)]) rfl (Nat.le_of_ble_eq_true rfl) (Nat.le_of_ble_eq_true rfl) rfl (to_rc rfl rfl rfl (g_o hG rfl)) rfl (to_an (pc := 0) rw_152_0 rfl (to_in (pc := 1) rw_152_1 rfl (s_pI (pc := 2) rw_152_2 hG rfl (fun M161 W160 => ?_))))))
            have hG162 := g_wf hG W160 rfl rfl (by decide)
            have F163 := FR.w F0 W160 (show 77 = 77 ∧ (4 = 4 ∨ 4 = 5 ∨ 7 ≤ 4 ∧ 4 ≤ 10) ∨ 77 = 77 ∧ (4 = 44 ∨ 4 = 52) ∨ 101 ≤ 77 ∧ 77 ≤ 108 by decide)
            refine to_an (pc := 5) rw_152_5 rfl (to_an (pc := 6) rw_152_6 rfl ?_)
            have c_164 : M161.2.1 77 10 = (M.2.1 77 10) := (W_n W160 (by decide) rfl)
            have b_165 := g_b hG (a := 77) (i := 10) (lo := 0) (hi := 500) rfl rfl
            refine tt_gI (pc := 7) rw_152_7 (g_o hG162 rfl) (v := (M.2.1 77 10)) c_164 (s_pI (pc := 10) rw_152_10 hG162 rfl (fun M167 W166 => ?_))
            have hG168 := g_wf hG162 W166 rfl rfl (by decide)
            have F169 := FR.w F163 W166 (show 77 = 77 ∧ (5 = 4 ∨ 5 = 5 ∨ 7 ≤ 5 ∧ 5 ≤ 10) ∨ 77 = 77 ∧ (5 = 44 ∨ 5 = 52) ∨ 101 ≤ 77 ∧ 77 ≤ 108 by decide)
            refine to_c (pc := 13) rw_152_13 (x := (0 : Int32)) rfl rfl (s_r1 (pc := 14) rw_152_14 (A := 0) rfl (by decide) (s_r1 (pc := 105) rw_215_105 (A := 0) rfl (by decide) ?_))
            have k_170 : (0 : Int32).toInt = 0 := rfl
            have c_171 : M167.2.1 77 7 = (M.2.1 77 7) := (W_n W166 (by decide) (W_n W160 (by decide) rfl))
            have t_172 : (M167.2.1 77 7).toInt = (M.2.1 77 7).toInt := congrArg Int32.toInt c_171
            have c_173 : M167.2.1 77 6 = (M.2.1 77 6) := (W_n W166 (by decide) (W_n W160 (by decide) rfl))
            have t_174 : (M167.2.1 77 6).toInt = (M.2.1 77 6).toInt := congrArg Int32.toInt c_173
            have c_175 : M167.2.1 77 8 = (M.2.1 77 8) := (W_n W166 (by decide) (W_n W160 (by decide) rfl))
            have t_176 : (M167.2.1 77 8).toInt = (M.2.1 77 8).toInt := congrArg Int32.toInt c_175
            exact h (0 : Int32) M167 hG168 F169 (by decide) (by decide) (by omega) (by omega) (by omega) (by omega) (fun z => absurd z (by omega)) (fun z => absurd z (by omega))
        · refine to_an (pc := 76) rw_215_76 rfl (tt_gI (pc := 77) rw_215_77 (g_o hG rfl) (v := (M.2.1 77 9)) rfl (to_c (pc := 80) rw_215_80 (x := (11 : Int32)) rfl rfl (b_ceq (pc := 82) rw_215_82 (A := (M.2.1 77 9).toInt) (B := 11) rfl rfl (fun h177 => ?_) (fun h177 => ?_))))
          · refine to_an (pc := 91) rw_215_91 rfl ?_
            have b_178 := g_b hG (a := 77) (i := 44) (lo := 0) (hi := 40) rfl rfl
            refine tt_gI (pc := 92) rw_215_92 (g_o hG rfl) (v := (M.2.1 77 44)) rfl (to_c (pc := 95) rw_215_95 (x := (40 : Int32)) rfl rfl (b_cne (pc := 97) rw_215_97 (A := (M.2.1 77 44).toInt) (B := 40) rfl rfl (fun h179 => ?_) (fun h179 => ?_)))
            · refine to_an (pc := 106) rw_215_106 rfl (tt_gI (pc := 107) rw_215_107 (g_o hG rfl) (v := (M.2.1 77 44)) rfl (to_isn (pc := 110) rw_215_110 (ls2 := [.ref 77, .int (M.2.1 77 44)]) rfl rfl (to_an (pc := 111) rw_215_111 rfl (s_gR (pc := 112) rw_215_112 hG rfl (v := 101) rfl (to_in (pc := 115) rw_215_115 rfl (to_an (pc := 116) rw_215_116 rfl (tt_gI (pc := 117) rw_215_117 (g_o hG rfl) (v := (M.2.1 77 9)) rfl (to_c (pc := 120) rw_215_120 (x := (7 : Int32)) rfl rfl (b_cne_t (pc := 122) rw_215_122 (A := (M.2.1 77 9).toInt) (B := 7) rfl rfl (by omega) (to_an (pc := 129) rw_215_129 rfl (tt_gI (pc := 130) rw_215_130 (g_o hG rfl) (v := (M.2.1 77 9)) rfl ?_)))))))))))
              refine to_c (pc := 133) rw_215_133 (x := (10 : Int32)) rfl rfl (b_cne_t (pc := 135) rw_215_135 (A := (M.2.1 77 9).toInt) (B := 10) rfl rfl (by omega) (to_c (pc := 142) rw_215_142 (x := (2 : Int32)) rfl rfl (s_ias (pc := 143) rw_215_143 hG rfl (n := 40) rfl (A := (M.2.1 77 44).toInt) rfl (by omega) (by omega) (fun M181 W180 => ?_))))
              have hG182 := g_w hG W180 (A := 2) rfl (lo := 0) (hi := 2) rfl rfl (by omega) (by decide)
              have F183 := FR.w F0 W180 (show 101 = 77 ∧ (((M.2.1 77 44).toInt).toNat = 4 ∨ ((M.2.1 77 44).toInt).toNat = 5 ∨ 7 ≤ ((M.2.1 77 44).toInt).toNat ∧ ((M.2.1 77 44).toInt).toNat ≤ 10) ∨ 101 = 77 ∧ (((M.2.1 77 44).toInt).toNat = 44 ∨ ((M.2.1 77 44).toInt).toNat = 52) ∨ 101 ≤ 101 ∧ 101 ≤ 108 by omega)
              refine to_an (pc := 144) rw_215_144 rfl (to_dupr (pc := 145) rw_215_145 ?_)
              have c_184 : M181.2.1 77 44 = (M.2.1 77 44) := (W_n W180 (fun z => absurd z.1 (by decide)) rfl)
              refine tt_gI (pc := 146) rw_215_146 (g_o hG182 rfl) (v := (M.2.1 77 44)) c_184 (to_c (pc := 149) rw_215_149 (x := (1 : Int32)) rfl rfl (s_add (pc := 150) rw_215_150 (A := (M.2.1 77 44).toInt) (B := 1) rfl rfl (by omega) (fun v185 e186 => s_pI (pc := 151) rw_215_151 hG182 rfl (fun M188 W187 => ?_))))
              have hG189 := g_w hG182 W187 (A := v185.toInt) rfl (lo := 0) (hi := 40) rfl rfl (by omega) (by decide)
              have F190 := FR.w F183 W187 (show 77 = 77 ∧ (44 = 4 ∨ 44 = 5 ∨ 7 ≤ 44 ∧ 44 ≤ 10) ∨ 77 = 77 ∧ (44 = 44 ∨ 44 = 52) ∨ 101 ≤ 77 ∧ 77 ≤ 108 by decide)
              refine to_an (pc := 154) rw_215_154 rfl (s_v (pc := 155) rw_215_155 (dp0 hd (by decide)) (ls0 := [.ref 77]) rfl (Nat.le_of_ble_eq_true rfl) (Nat.le_of_ble_eq_true rfl) rfl (to_rc rfl rfl rfl (g_o hG189 rfl)) rfl ?_)
              have c_191 : M188.2.1 77 7 = (M.2.1 77 7) := (W_n W187 (by decide) (W_n W180 (fun z => absurd z.1 (by decide)) rfl))
              have t_192 : (M188.2.1 77 7).toInt = (M.2.1 77 7).toInt := congrArg Int32.toInt c_191
              have c_193 : M188.2.1 77 6 = (M.2.1 77 6) := (W_n W187 (by decide) (W_n W180 (fun z => absurd z.1 (by decide)) rfl))
              have t_194 : (M188.2.1 77 6).toInt = (M.2.1 77 6).toInt := congrArg Int32.toInt c_193
              refine C_156 hX (dp1 hd (by decide)) hG189 (by omega)  (fun M200 hG196 F195 p_197 p_198 p_199 => ?_)
              have F201 := FR.c F190 F195 tg_276
              have b_202 := g_b hG196 (a := 77) (i := 7) (lo := 0) (hi := 500) rfl rfl
              have c_203 : M200.2.1 77 6 = (M.2.1 77 6) := (F_n F195 (show ¬ (77 = 77 ∧ 7 ≤ 6 ∧ 6 ≤ 10) by decide) c_193)
              have t_204 : (M200.2.1 77 6).toInt = (M.2.1 77 6).toInt := congrArg Int32.toInt c_203
              have b_205 := g_b hG196 (a := 77) (i := 8) (lo := 0) (hi := 5) rfl rfl
              refine to_an (pc := 158) rw_215_158 rfl (s_gR (pc := 159) rw_215_159 hG196 rfl (v := 101) rfl (to_in (pc := 162) rw_215_162 rfl (s_ialk (pc := 163) rw_215_163 hG196 rfl (n := 40) rfl rfl (A := (M.2.1 77 44).toInt) rfl (by omega) (by omega) (v := (2 : Int32)) (F_n F195 (show ¬ (101 = 77 ∧ 7 ≤ ((M.2.1 77 44).toInt).toNat ∧ ((M.2.1 77 44).toInt).toNat ≤ 10) by omega) (W_n W187 (by omega) (W_e W180))) (b_ine_t (pc := 164) rw_215_164 (A := 2) rfl (by decide) (to_an (pc := 173) rw_215_173 rfl (s_gR (pc := 174) rw_215_174 hG196 rfl (v := 101) rfl (to_in (pc := 177) rw_215_177 rfl (s_ialk (pc := 178) rw_215_178 hG196 rfl (n := 40) rfl rfl (A := (M.2.1 77 44).toInt) rfl (by omega) (by omega) (v := (2 : Int32)) (F_n F195 (show ¬ (101 = 77 ∧ 7 ≤ ((M.2.1 77 44).toInt).toNat ∧ ((M.2.1 77 44).toInt).toNat ≤ 10) by omega) (W_n W187 (by omega) (W_e W180))) (to_c (pc := 179) rw_215_179 (x := (1 : Int32)) rfl rfl (b_cne_t (pc := 180) rw_215_180 (A := 2) (B := 1) rfl rfl (by decide) (to_an (pc := 189) rw_215_189 rfl ?_)))))))))))
              refine to_c (pc := 190) rw_215_190 (x := (0 : Int32)) rfl rfl (to_c (pc := 191) rw_215_191 (x := (99 : Int32)) rfl rfl (s_v (pc := 193) rw_215_193 (dp0 hd (by decide)) (ls0 := [.ref 77, .int (0 : Int32), .int (99 : Int32)]) rfl (Nat.le_of_ble_eq_true rfl) (Nat.le_of_ble_eq_true rfl) rfl (to_rc rfl rfl rfl (g_o hG196 rfl)) rfl (to_an (pc := 0) rw_162_0 rfl (tt_gI (pc := 1) rw_162_1 (g_o hG196 rfl) (v := (M200.2.1 77 8)) rfl (to_c (pc := 4) rw_162_4 (x := (3 : Int32)) rfl rfl (b_ceq (pc := 5) rw_162_5 (A := (M200.2.1 77 8).toInt) (B := 3) rfl rfl (fun h210 => ?_) (fun h210 => ?_)))))))
              · refine to_an (pc := 14) rw_162_14 rfl (tt_gI (pc := 15) rw_162_15 (g_o hG196 rfl) (v := (M200.2.1 77 9)) rfl (to_in (pc := 18) rw_162_18 rfl (b_clt (pc := 19) rw_162_19 (A := (M200.2.1 77 9).toInt) (B := 0) rfl rfl (fun h211 => ?_) (fun h211 => ?_))))
                · refine to_an (pc := 30) rw_162_30 rfl (to_c (pc := 31) rw_162_31 (x := (2 : Int32)) rfl rfl (s_v (pc := 32) rw_162_32 (dp1 hd (by decide)) (ls0 := [.ref 77, .int (2 : Int32)]) rfl (Nat.le_of_ble_eq_true rfl) (Nat.le_of_ble_eq_true rfl) rfl (to_rc rfl rfl rfl (g_o hG196 rfl)) rfl (to_an (pc := 0) rw_152_0 rfl (to_in (pc := 1) rw_152_1 rfl (s_pI (pc := 2) rw_152_2 hG196 rfl (fun M213 W212 => ?_))))))
                  have hG214 := g_wf hG196 W212 rfl rfl (by decide)
                  have F215 := FR.w F201 W212 (show 77 = 77 ∧ (4 = 4 ∨ 4 = 5 ∨ 7 ≤ 4 ∧ 4 ≤ 10) ∨ 77 = 77 ∧ (4 = 44 ∨ 4 = 52) ∨ 101 ≤ 77 ∧ 77 ≤ 108 by decide)
                  refine to_an (pc := 5) rw_152_5 rfl (to_an (pc := 6) rw_152_6 rfl ?_)
                  have c_216 : M213.2.1 77 10 = (M200.2.1 77 10) := (W_n W212 (by decide) rfl)
                  have b_217 := g_b hG196 (a := 77) (i := 10) (lo := 0) (hi := 500) rfl rfl
                  refine tt_gI (pc := 7) rw_152_7 (g_o hG214 rfl) (v := (M200.2.1 77 10)) c_216 (s_pI (pc := 10) rw_152_10 hG214 rfl (fun M219 W218 => ?_))
                  have hG220 := g_wf hG214 W218 rfl rfl (by decide)
                  have F221 := FR.w F215 W218 (show 77 = 77 ∧ (5 = 4 ∨ 5 = 5 ∨ 7 ≤ 5 ∧ 5 ≤ 10) ∨ 77 = 77 ∧ (5 = 44 ∨ 5 = 52) ∨ 101 ≤ 77 ∧ 77 ≤ 108 by decide)
                  refine to_c (pc := 13) rw_152_13 (x := (0 : Int32)) rfl rfl (s_r1 (pc := 14) rw_152_14 (A := 0) rfl (by decide) (b_ieq_t (pc := 35) rw_162_35 (A := 0) rfl (by decide) (to_c (pc := 42) rw_162_42 (x := (0 : Int32)) rfl rfl (s_r1 (pc := 43) rw_162_43 (A := 0) rfl (by decide) (b_ine_f (pc := 196) rw_215_196 (A := 0) rfl (by decide) (to_c (pc := 199) rw_215_199 (x := (0 : Int32)) rfl rfl (s_r1 (pc := 200) rw_215_200 (A := 0) rfl (by decide) ?_)))))))
                  have k_222 : (0 : Int32).toInt = 0 := rfl
                  have c_223 : M219.2.1 77 7 = (M200.2.1 77 7) := (W_n W218 (by decide) (W_n W212 (by decide) rfl))
                  have t_224 : (M219.2.1 77 7).toInt = (M200.2.1 77 7).toInt := congrArg Int32.toInt c_223
                  have c_225 : M219.2.1 77 6 = (M.2.1 77 6) := (W_n W218 (by decide) (W_n W212 (by decide) c_203))
                  have t_226 : (M219.2.1 77 6).toInt = (M.2.1 77 6).toInt := congrArg Int32.toInt c_225
                  have c_227 : M219.2.1 77 8 = (M200.2.1 77 8) := (W_n W218 (by decide) (W_n W212 (by decide) rfl))
                  have t_228 : (M219.2.1 77 8).toInt = (M200.2.1 77 8).toInt := congrArg Int32.toInt c_227
                  exact h (0 : Int32) M219 hG220 F221 (by decide) (by decide) (by omega) (by omega) (by omega) (by omega) (fun z => absurd z (by omega)) (fun z => absurd z (by omega))
                · refine to_an (pc := 22) rw_162_22 rfl (tt_gI (pc := 23) rw_162_23 (g_o hG196 rfl) (v := (M200.2.1 77 9)) rfl (to_in (pc := 26) rw_162_26 rfl (b_cle (pc := 27) rw_162_27 (A := (M200.2.1 77 9).toInt) (B := 99) rfl rfl (fun h229 => ?_) (fun h229 => ?_))))
                  · refine to_c (pc := 38) rw_162_38 (x := (1 : Int32)) rfl rfl (to_go (pc := 39) rw_162_39 (s_r1 (pc := 43) rw_162_43 (A := 1) rfl (by decide) (b_ine_t (pc := 196) rw_215_196 (A := 1) rfl (by decide) (to_an (pc := 201) rw_215_201 rfl (s_gR (pc := 202) rw_215_202 hG196 rfl (v := 102) rfl (to_in (pc := 205) rw_215_205 rfl (to_an (pc := 206) rw_215_206 rfl (tt_gI (pc := 207) rw_215_207 (g_o hG196 rfl) (v := (M200.2.1 77 9)) rfl (s_ias (pc := 210) rw_215_210 hG196 rfl (n := 40) rfl (A := (M.2.1 77 44).toInt) rfl (by omega) (by omega) (fun M231 W230 => ?_))))))))))
                    have hG232 := g_w hG196 W230 (A := (M200.2.1 77 9).toInt) rfl (lo := -1) (hi := 99) rfl rfl (by omega) (by decide)
                    have F233 := FR.w F201 W230 (show 102 = 77 ∧ (((M.2.1 77 44).toInt).toNat = 4 ∨ ((M.2.1 77 44).toInt).toNat = 5 ∨ 7 ≤ ((M.2.1 77 44).toInt).toNat ∧ ((M.2.1 77 44).toInt).toNat ≤ 10) ∨ 102 = 77 ∧ (((M.2.1 77 44).toInt).toNat = 44 ∨ ((M.2.1 77 44).toInt).toNat = 52) ∨ 101 ≤ 102 ∧ 102 ≤ 108 by omega)
                    refine to_an (pc := 211) rw_215_211 rfl (s_v (pc := 212) rw_215_212 (dp0 hd (by decide)) (ls0 := [.ref 77]) rfl (Nat.le_of_ble_eq_true rfl) (Nat.le_of_ble_eq_true rfl) rfl (to_rc rfl rfl rfl (g_o hG232 rfl)) rfl ?_)
                    have c_234 : M231.2.1 77 7 = (M200.2.1 77 7) := (W_n W230 (fun z => absurd z.1 (by decide)) rfl)
                    have t_235 : (M231.2.1 77 7).toInt = (M200.2.1 77 7).toInt := congrArg Int32.toInt c_234
                    have c_236 : M231.2.1 77 6 = (M.2.1 77 6) := (W_n W230 (fun z => absurd z.1 (by decide)) c_203)
                    have t_237 : (M231.2.1 77 6).toInt = (M.2.1 77 6).toInt := congrArg Int32.toInt c_236
                    refine C_156 hX (dp1 hd (by decide)) hG232 (by omega)  (fun M243 hG239 F238 p_240 p_241 p_242 => ?_)
                    have F244 := FR.c F233 F238 tg_276
                    have b_245 := g_b hG239 (a := 77) (i := 7) (lo := 0) (hi := 500) rfl rfl
                    have c_246 : M243.2.1 77 6 = (M.2.1 77 6) := (F_n F238 (show ¬ (77 = 77 ∧ 7 ≤ 6 ∧ 6 ≤ 10) by decide) c_236)
                    have t_247 : (M243.2.1 77 6).toInt = (M.2.1 77 6).toInt := congrArg Int32.toInt c_246
                    have b_248 := g_b hG239 (a := 77) (i := 8) (lo := 0) (hi := 5) rfl rfl
                    refine to_an (pc := 215) rw_215_215 rfl (to_c (pc := 216) rw_215_216 (x := (40 : Int32)) rfl rfl (s_v (pc := 218) rw_215_218 (dp0 hd (by decide)) (ls0 := [.ref 77, .int (40 : Int32)]) rfl (Nat.le_of_ble_eq_true rfl) (Nat.le_of_ble_eq_true rfl) rfl (to_rc rfl rfl rfl (g_o hG239 rfl)) rfl (to_an (pc := 0) rw_159_0 rfl (tt_gI (pc := 1) rw_159_1 (g_o hG239 rfl) (v := (M243.2.1 77 8)) rfl (to_c (pc := 4) rw_159_4 (x := (4 : Int32)) rfl rfl (b_cne (pc := 5) rw_159_5 (A := (M243.2.1 77 8).toInt) (B := 4) rfl rfl (fun h249 => ?_) (fun h249 => ?_)))))))
                    · refine to_c (pc := 20) rw_159_20 (x := (0 : Int32)) rfl rfl (s_r1 (pc := 21) rw_159_21 (A := 0) rfl (by decide) (b_ine_f (pc := 221) rw_215_221 (A := 0) rfl (by decide) (to_an (pc := 224) rw_215_224 rfl (to_c (pc := 225) rw_215_225 (x := (1 : Int32)) rfl rfl (s_v (pc := 226) rw_215_226 (dp0 hd (by decide)) (ls0 := [.ref 77, .int (1 : Int32)]) rfl (Nat.le_of_ble_eq_true rfl) (Nat.le_of_ble_eq_true rfl) rfl (to_rc rfl rfl rfl (g_o hG239 rfl)) rfl (to_an (pc := 0) rw_152_0 rfl (to_in (pc := 1) rw_152_1 rfl (s_pI (pc := 2) rw_152_2 hG239 rfl (fun M251 W250 => ?_)))))))))
                      have hG252 := g_wf hG239 W250 rfl rfl (by decide)
                      have F253 := FR.w F244 W250 (show 77 = 77 ∧ (4 = 4 ∨ 4 = 5 ∨ 7 ≤ 4 ∧ 4 ≤ 10) ∨ 77 = 77 ∧ (4 = 44 ∨ 4 = 52) ∨ 101 ≤ 77 ∧ 77 ≤ 108 by decide)
                      refine to_an (pc := 5) rw_152_5 rfl (to_an (pc := 6) rw_152_6 rfl ?_)
                      have c_254 : M251.2.1 77 10 = (M243.2.1 77 10) := (W_n W250 (by decide) rfl)
                      have b_255 := g_b hG239 (a := 77) (i := 10) (lo := 0) (hi := 500) rfl rfl
                      refine tt_gI (pc := 7) rw_152_7 (g_o hG252 rfl) (v := (M243.2.1 77 10)) c_254 (s_pI (pc := 10) rw_152_10 hG252 rfl (fun M257 W256 => ?_))
                      have hG258 := g_wf hG252 W256 rfl rfl (by decide)
                      have F259 := FR.w F253 W256 (show 77 = 77 ∧ (5 = 4 ∨ 5 = 5 ∨ 7 ≤ 5 ∧ 5 ≤ 10) ∨ 77 = 77 ∧ (5 = 44 ∨ 5 = 52) ∨ 101 ≤ 77 ∧ 77 ≤ 108 by decide)
                      refine to_c (pc := 13) rw_152_13 (x := (0 : Int32)) rfl rfl (s_r1 (pc := 14) rw_152_14 (A := 0) rfl (by decide) (s_r1 (pc := 229) rw_215_229 (A := 0) rfl (by decide) ?_))
                      have k_260 : (0 : Int32).toInt = 0 := rfl
                      have c_261 : M257.2.1 77 7 = (M243.2.1 77 7) := (W_n W256 (by decide) (W_n W250 (by decide) rfl))
                      have t_262 : (M257.2.1 77 7).toInt = (M243.2.1 77 7).toInt := congrArg Int32.toInt c_261
                      have c_263 : M257.2.1 77 6 = (M.2.1 77 6) := (W_n W256 (by decide) (W_n W250 (by decide) c_246))
                      have t_264 : (M257.2.1 77 6).toInt = (M.2.1 77 6).toInt := congrArg Int32.toInt c_263
                      have c_265 : M257.2.1 77 8 = (M243.2.1 77 8) := (W_n W256 (by decide) (W_n W250 (by decide) rfl))
                      have t_266 : (M257.2.1 77 8).toInt = (M243.2.1 77 8).toInt := congrArg Int32.toInt c_265
                      exact h (0 : Int32) M257 hG258 F259 (by decide) (by decide) (by omega) (by omega) (by omega) (by omega) (fun z => absurd z (by omega)) (fun z => absurd z (by omega))
                    · refine to_an (pc := 8) rw_159_8 rfl (tt_gI (pc := 9) rw_159_9 (g_o hG239 rfl) (v := (M243.2.1 77 9)) rfl (to_in (pc := 12) rw_159_12 rfl (b_cne (pc := 13) rw_159_13 (A := (M243.2.1 77 9).toInt) (B := 40) rfl rfl (fun h267 => ?_) (fun h267 => ?_))))
                      · refine to_c (pc := 20) rw_159_20 (x := (0 : Int32)) rfl rfl (s_r1 (pc := 21) rw_159_21 (A := 0) rfl (by decide) (b_ine_f (pc := 221) rw_215_221 (A := 0) rfl (by decide) (to_an (pc := 224) rw_215_224 rfl (to_c (pc := 225) rw_215_225 (x := (1 : Int32)) rfl rfl (s_v (pc := 226) rw_215_226 (dp0 hd (by decide)) (ls0 := [.ref 77, .int (1 : Int32)]) rfl (Nat.le_of_ble_eq_true rfl) (Nat.le_of_ble_eq_true rfl) rfl (to_rc rfl rfl rfl (g_o hG239 rfl)) rfl (to_an (pc := 0) rw_152_0 rfl (to_in (pc := 1) rw_152_1 rfl (s_pI (pc := 2) rw_152_2 hG239 rfl (fun M269 W268 => ?_)))))))))
                        have hG270 := g_wf hG239 W268 rfl rfl (by decide)
                        have F271 := FR.w F244 W268 (show 77 = 77 ∧ (4 = 4 ∨ 4 = 5 ∨ 7 ≤ 4 ∧ 4 ≤ 10) ∨ 77 = 77 ∧ (4 = 44 ∨ 4 = 52) ∨ 101 ≤ 77 ∧ 77 ≤ 108 by decide)
                        refine to_an (pc := 5) rw_152_5 rfl (to_an (pc := 6) rw_152_6 rfl ?_)
                        have c_272 : M269.2.1 77 10 = (M243.2.1 77 10) := (W_n W268 (by decide) rfl)
                        have b_273 := g_b hG239 (a := 77) (i := 10) (lo := 0) (hi := 500) rfl rfl
                        refine tt_gI (pc := 7) rw_152_7 (g_o hG270 rfl) (v := (M243.2.1 77 10)) c_272 (s_pI (pc := 10) rw_152_10 hG270 rfl (fun M275 W274 => ?_))
                        have hG276 := g_wf hG270 W274 rfl rfl (by decide)
                        have F277 := FR.w F271 W274 (show 77 = 77 ∧ (5 = 4 ∨ 5 = 5 ∨ 7 ≤ 5 ∧ 5 ≤ 10) ∨ 77 = 77 ∧ (5 = 44 ∨ 5 = 52) ∨ 101 ≤ 77 ∧ 77 ≤ 108 by decide)
                        refine to_c (pc := 13) rw_152_13 (x := (0 : Int32)) rfl rfl (s_r1 (pc := 14) rw_152_14 (A := 0) rfl (by decide) (s_r1 (pc := 229) rw_215_229 (A := 0) rfl (by decide) ?_))
                        have k_278 : (0 : Int32).toInt = 0 := rfl
                        have c_279 : M275.2.1 77 7 = (M243.2.1 77 7) := (W_n W274 (by decide) (W_n W268 (by decide) rfl))
                        have t_280 : (M275.2.1 77 7).toInt = (M243.2.1 77 7).toInt := congrArg Int32.toInt c_279
                        have c_281 : M275.2.1 77 6 = (M.2.1 77 6) := (W_n W274 (by decide) (W_n W268 (by decide) c_246))
                        have t_282 : (M275.2.1 77 6).toInt = (M.2.1 77 6).toInt := congrArg Int32.toInt c_281
                        have c_283 : M275.2.1 77 8 = (M243.2.1 77 8) := (W_n W274 (by decide) (W_n W268 (by decide) rfl))
                        have t_284 : (M275.2.1 77 8).toInt = (M243.2.1 77 8).toInt := congrArg Int32.toInt c_283
                        exact h (0 : Int32) M275 hG276 F277 (by decide) (by decide) (by omega) (by omega) (by omega) (by omega) (fun z => absurd z (by omega)) (fun z => absurd z (by omega))
                      · refine to_c (pc := 16) rw_159_16 (x := (1 : Int32)) rfl rfl (to_go (pc := 17) rw_159_17 (s_r1 (pc := 21) rw_159_21 (A := 1) rfl (by decide) (b_ine_t (pc := 221) rw_215_221 (A := 1) rfl (by decide) (to_an (pc := 230) rw_215_230 rfl ?_))))
                        have c_285 : M243.2.1 77 52 = (M.2.1 77 52) := (F_n F238 (show ¬ (77 = 77 ∧ 7 ≤ 52 ∧ 52 ≤ 10) by decide) (W_n W230 (fun z => absurd z.1 (by decide)) (F_n F195 (show ¬ (77 = 77 ∧ 7 ≤ 52 ∧ 52 ≤ 10) by decide) (W_n W187 (by decide) (W_n W180 (fun z => absurd z.1 (by decide)) rfl)))))
                        have b_286 := g_b hG (a := 77) (i := 52) (lo := 0) (hi := 5) rfl rfl
                        refine tt_gI (pc := 231) rw_215_231 (g_o hG239 rfl) (v := (M.2.1 77 52)) c_285 (to_c (pc := 234) rw_215_234 (x := (5 : Int32)) rfl rfl (b_cne (pc := 235) rw_215_235 (A := (M.2.1 77 52).toInt) (B := 5) rfl rfl (fun h287 => ?_) (fun h287 => ?_)))
                        · refine to_an (pc := 244) rw_215_244 rfl (s_gR (pc := 245) rw_215_245 hG239 rfl (v := 108) rfl (to_an (pc := 248) rw_215_248 rfl (tt_gI (pc := 249) rw_215_249 (g_o hG239 rfl) (v := (M.2.1 77 52)) c_285 (to_in (pc := 252) rw_215_252 rfl (s_ias (pc := 253) rw_215_253 hG239 rfl (n := 5) rfl (A := (M.2.1 77 52).toInt) rfl (by omega) (by omega) (fun M289 W288 => ?_))))))
                          have hG290 := g_w hG239 W288 (A := (M.2.1 77 44).toInt) rfl (lo := 0) (hi := 39) rfl rfl (by omega) (by decide)
                          have F291 := FR.w F244 W288 (show 108 = 77 ∧ (((M.2.1 77 52).toInt).toNat = 4 ∨ ((M.2.1 77 52).toInt).toNat = 5 ∨ 7 ≤ ((M.2.1 77 52).toInt).toNat ∧ ((M.2.1 77 52).toInt).toNat ≤ 10) ∨ 108 = 77 ∧ (((M.2.1 77 52).toInt).toNat = 44 ∨ ((M.2.1 77 52).toInt).toNat = 52) ∨ 101 ≤ 108 ∧ 108 ≤ 108 by omega)
                          refine to_an (pc := 254) rw_215_254 rfl (to_dupr (pc := 255) rw_215_255 ?_)
                          have c_292 : M289.2.1 77 52 = (M.2.1 77 52) := (W_n W288 (fun z => absurd z.1 (by decide)) c_285)
                          refine tt_gI (pc := 256) rw_215_256 (g_o hG290 rfl) (v := (M.2.1 77 52)) c_292 (to_c (pc := 259) rw_215_259 (x := (1 : Int32)) rfl rfl (s_add (pc := 260) rw_215_260 (A := (M.2.1 77 52).toInt) (B := 1) rfl rfl (by omega) (fun v293 e294 => s_pI (pc := 261) rw_215_261 hG290 rfl (fun M296 W295 => ?_))))
                          have hG297 := g_w hG290 W295 (A := v293.toInt) rfl (lo := 0) (hi := 5) rfl rfl (by omega) (by decide)
                          have F298 := FR.w F291 W295 (show 77 = 77 ∧ (52 = 4 ∨ 52 = 5 ∨ 7 ≤ 52 ∧ 52 ≤ 10) ∨ 77 = 77 ∧ (52 = 44 ∨ 52 = 52) ∨ 101 ≤ 77 ∧ 77 ≤ 108 by decide)
                          refine to_an (pc := 264) rw_215_264 rfl (s_v (pc := 265) rw_215_265 (dp0 hd (by decide)) (ls0 := [.ref 77]) rfl (Nat.le_of_ble_eq_true rfl) (Nat.le_of_ble_eq_true rfl) rfl (to_rc rfl rfl rfl (g_o hG297 rfl)) rfl ?_)
                          have c_299 : M296.2.1 77 7 = (M243.2.1 77 7) := (W_n W295 (by decide) (W_n W288 (fun z => absurd z.1 (by decide)) rfl))
                          have t_300 : (M296.2.1 77 7).toInt = (M243.2.1 77 7).toInt := congrArg Int32.toInt c_299
                          have c_301 : M296.2.1 77 6 = (M.2.1 77 6) := (W_n W295 (by decide) (W_n W288 (fun z => absurd z.1 (by decide)) c_246))
                          have t_302 : (M296.2.1 77 6).toInt = (M.2.1 77 6).toInt := congrArg Int32.toInt c_301
                          refine C_156 hX (dp1 hd (by decide)) hG297 (by omega)  (fun M308 hG304 F303 p_305 p_306 p_307 => ?_)
                          have F309 := FR.c F298 F303 tg_276
                          have b_310 := g_b hG304 (a := 77) (i := 7) (lo := 0) (hi := 500) rfl rfl
                          have c_311 : M308.2.1 77 6 = (M.2.1 77 6) := (F_n F303 (show ¬ (77 = 77 ∧ 7 ≤ 6 ∧ 6 ≤ 10) by decide) c_301)
                          have t_312 : (M308.2.1 77 6).toInt = (M.2.1 77 6).toInt := congrArg Int32.toInt c_311
                          have b_313 := g_b hG304 (a := 77) (i := 8) (lo := 0) (hi := 5) rfl rfl
                          refine to_c (pc := 268) rw_215_268 (x := (1 : Int32)) rfl rfl (s_r1 (pc := 269) rw_215_269 (A := 1) rfl (by decide) ?_)
                          have k_314 : (1 : Int32).toInt = 1 := rfl
                          have c_315 : M308.2.1 77 44 = v185 := (F_n F303 (show ¬ (77 = 77 ∧ 7 ≤ 44 ∧ 44 ≤ 10) by decide) (W_n W295 (by decide) (W_n W288 (fun z => absurd z.1 (by decide)) (F_n F238 (show ¬ (77 = 77 ∧ 7 ≤ 44 ∧ 44 ≤ 10) by decide) (W_n W230 (fun z => absurd z.1 (by decide)) (F_n F195 (show ¬ (77 = 77 ∧ 7 ≤ 44 ∧ 44 ≤ 10) by decide) (W_e W187)))))))
                          have t_316 : (M308.2.1 77 44).toInt = v185.toInt := congrArg Int32.toInt c_315
                          have c_317 : M308.2.1 77 52 = v293 := (F_n F303 (show ¬ (77 = 77 ∧ 7 ≤ 52 ∧ 52 ≤ 10) by decide) (W_e W295))
                          have t_318 : (M308.2.1 77 52).toInt = v293.toInt := congrArg Int32.toInt c_317
                          have t_320 : (M181.2.1 101 ((M.2.1 77 44).toInt).toNat).toInt = (2 : Int32).toInt := congrArg Int32.toInt (W_e W180)
                          have k_321 : (2 : Int32).toInt = 2 := rfl
                          have t_322 : (M308.2.1 101 ((M.2.1 77 44).toInt).toNat).toInt = (M181.2.1 101 ((M.2.1 77 44).toInt).toNat).toInt := congrArg Int32.toInt (F_n F303 (show ¬ (101 = 77 ∧ 7 ≤ (((M.2.1 77 44).toInt).toNat) ∧ (((M.2.1 77 44).toInt).toNat) ≤ 10) by omega) (W_n W295 (by omega) (W_n W288 (by omega) (F_n F238 (show ¬ (101 = 77 ∧ 7 ≤ (((M.2.1 77 44).toInt).toNat) ∧ (((M.2.1 77 44).toInt).toNat) ≤ 10) by omega) (W_n W230 (by omega) (F_n F195 (show ¬ (101 = 77 ∧ 7 ≤ (((M.2.1 77 44).toInt).toNat) ∧ (((M.2.1 77 44).toInt).toNat) ≤ 10) by omega) (W_n W187 (by omega) rfl)))))))
                          have t_323 : (M231.2.1 102 ((M.2.1 77 44).toInt).toNat).toInt = (M200.2.1 77 9).toInt := congrArg Int32.toInt (W_e W230)
                          have t_324 : (M308.2.1 102 ((M.2.1 77 44).toInt).toNat).toInt = (M231.2.1 102 ((M.2.1 77 44).toInt).toNat).toInt := congrArg Int32.toInt (F_n F303 (show ¬ (102 = 77 ∧ 7 ≤ (((M.2.1 77 44).toInt).toNat) ∧ (((M.2.1 77 44).toInt).toNat) ≤ 10) by omega) (W_n W295 (by omega) (W_n W288 (by omega) (F_n F238 (show ¬ (102 = 77 ∧ 7 ≤ (((M.2.1 77 44).toInt).toNat) ∧ (((M.2.1 77 44).toInt).toNat) ≤ 10) by omega) rfl))))
                          have t_326 : (M181.2.1 101 ((M.2.1 77 44).toInt).toNat).toInt = (2 : Int32).toInt := congrArg Int32.toInt (W_e W180)
                          have t_327 : (M308.2.1 101 ((M.2.1 77 44).toInt).toNat).toInt = (M181.2.1 101 ((M.2.1 77 44).toInt).toNat).toInt := congrArg Int32.toInt (F_n F303 (show ¬ (101 = 77 ∧ 7 ≤ (((M.2.1 77 44).toInt).toNat) ∧ (((M.2.1 77 44).toInt).toNat) ≤ 10) by omega) (W_n W295 (by omega) (W_n W288 (by omega) (F_n F238 (show ¬ (101 = 77 ∧ 7 ≤ (((M.2.1 77 44).toInt).toNat) ∧ (((M.2.1 77 44).toInt).toNat) ≤ 10) by omega) (W_n W230 (by omega) (F_n F195 (show ¬ (101 = 77 ∧ 7 ≤ (((M.2.1 77 44).toInt).toNat) ∧ (((M.2.1 77 44).toInt).toNat) ≤ 10) by omega) (W_n W187 (by omega) rfl)))))))
                          exact h (1 : Int32) M308 hG304 F309 (by decide) (by decide) (by omega) (by omega) (by omega) (by omega) (fun _ => AB_k (M1 := M308) (n := ((M.2.1 77 44).toInt).toNat) q2 (by omega) (by omega) (fun r i z z2 => (F_n F303 (show ¬ (r = 77 ∧ 7 ≤ i ∧ i ≤ 10) by omega) (W_n W295 (by omega) (W_n W288 (by omega) (F_n F238 (show ¬ (r = 77 ∧ 7 ≤ i ∧ i ≤ 10) by omega) (W_n W230 (by omega) (F_n F195 (show ¬ (r = 77 ∧ 7 ≤ i ∧ i ≤ 10) by omega) (W_n W187 (by omega) (W_n W180 (by omega) rfl))))))))) (by refine ⟨fun _ => ?_, fun _ => ?_, fun _ => ?_⟩ <;> omega)) (fun _ => ST_push (M1 := M308) (n := ((M.2.1 77 44).toInt).toNat) (k := ((M.2.1 77 52).toInt).toNat) q3 (by omega) (by omega) (by omega) (by omega) (by omega) (fun i z => (F_n F303 (show ¬ (101 = 77 ∧ 7 ≤ i ∧ i ≤ 10) by omega) (W_n W295 (by omega) (W_n W288 (by omega) (F_n F238 (show ¬ (101 = 77 ∧ 7 ≤ i ∧ i ≤ 10) by omega) (W_n W230 (by omega) (F_n F195 (show ¬ (101 = 77 ∧ 7 ≤ i ∧ i ≤ 10) by omega) (W_n W187 (by omega) (W_n W180 (by omega) rfl))))))))) (by omega) (fun i z => (F_n F303 (show ¬ (108 = 77 ∧ 7 ≤ i ∧ i ≤ 10) by omega) (W_n W295 (by omega) (W_n W288 (by omega) (F_n F238 (show ¬ (108 = 77 ∧ 7 ≤ i ∧ i ≤ 10) by omega) (W_n W230 (by omega) (F_n F195 (show ¬ (108 = 77 ∧ 7 ≤ i ∧ i ≤ 10) by omega) (W_n W187 (by omega) (W_n W180 (by omega) rfl))))))))) (by rw [(F_n F303 (show ¬ (108 = 77 ∧ 7 ≤ (((M.2.1 77 52).toInt).toNat) ∧ (((M.2.1 77 52).toInt).toNat) ≤ 10) by omega) (W_n W295 (by omega) (W_e W288)))] <;> omega) (fun i => (F_n F303 (show ¬ (105 = 77 ∧ 7 ≤ i ∧ i ≤ 10) by omega) (W_n W295 (by omega) (W_n W288 (by omega) (F_n F238 (show ¬ (105 = 77 ∧ 7 ≤ i ∧ i ≤ 10) by omega) (W_n W230 (by omega) (F_n F195 (show ¬ (105 = 77 ∧ 7 ≤ i ∧ i ≤ 10) by omega) (W_n W187 (by omega) (W_n W180 (by omega) rfl))))))))))
                        · refine to_an (pc := 238) rw_215_238 rfl (to_c (pc := 239) rw_215_239 (x := (2 : Int32)) rfl rfl (s_v (pc := 240) rw_215_240 (dp0 hd (by decide)) (ls0 := [.ref 77, .int (2 : Int32)]) rfl (Nat.le_of_ble_eq_true rfl) (Nat.le_of_ble_eq_true rfl) rfl (to_rc rfl rfl rfl (g_o hG239 rfl)) rfl (to_an (pc := 0) rw_152_0 rfl (to_in (pc := 1) rw_152_1 rfl (s_pI (pc := 2) rw_152_2 hG239 rfl (fun M329 W328 => ?_))))))
                          have hG330 := g_wf hG239 W328 rfl rfl (by decide)
                          have F331 := FR.w F244 W328 (show 77 = 77 ∧ (4 = 4 ∨ 4 = 5 ∨ 7 ≤ 4 ∧ 4 ≤ 10) ∨ 77 = 77 ∧ (4 = 44 ∨ 4 = 52) ∨ 101 ≤ 77 ∧ 77 ≤ 108 by decide)
                          refine to_an (pc := 5) rw_152_5 rfl (to_an (pc := 6) rw_152_6 rfl ?_)
                          have c_332 : M329.2.1 77 10 = (M243.2.1 77 10) := (W_n W328 (by decide) rfl)
                          have b_333 := g_b hG239 (a := 77) (i := 10) (lo := 0) (hi := 500) rfl rfl
                          refine tt_gI (pc := 7) rw_152_7 (g_o hG330 rfl) (v := (M243.2.1 77 10)) c_332 (s_pI (pc := 10) rw_152_10 hG330 rfl (fun M335 W334 => ?_))
                          have hG336 := g_wf hG330 W334 rfl rfl (by decide)
                          have F337 := FR.w F331 W334 (show 77 = 77 ∧ (5 = 4 ∨ 5 = 5 ∨ 7 ≤ 5 ∧ 5 ≤ 10) ∨ 77 = 77 ∧ (5 = 44 ∨ 5 = 52) ∨ 101 ≤ 77 ∧ 77 ≤ 108 by decide)
                          refine to_c (pc := 13) rw_152_13 (x := (0 : Int32)) rfl rfl (s_r1 (pc := 14) rw_152_14 (A := 0) rfl (by decide) (s_r1 (pc := 243) rw_215_243 (A := 0) rfl (by decide) ?_))
                          have k_338 : (0 : Int32).toInt = 0 := rfl
                          have c_339 : M335.2.1 77 7 = (M243.2.1 77 7) := (W_n W334 (by decide) (W_n W328 (by decide) rfl))
                          have t_340 : (M335.2.1 77 7).toInt = (M243.2.1 77 7).toInt := congrArg Int32.toInt c_339
                          have c_341 : M335.2.1 77 6 = (M.2.1 77 6) := (W_n W334 (by decide) (W_n W328 (by decide) c_246))
                          have t_342 : (M335.2.1 77 6).toInt = (M.2.1 77 6).toInt := congrArg Int32.toInt c_341
                          have c_343 : M335.2.1 77 8 = (M243.2.1 77 8) := (W_n W334 (by decide) (W_n W328 (by decide) rfl))
                          have t_344 : (M335.2.1 77 8).toInt = (M243.2.1 77 8).toInt := congrArg Int32.toInt c_343
                          exact h (0 : Int32) M335 hG336 F337 (by decide) (by decide) (by omega) (by omega) (by omega) (by omega) (fun z => absurd z (by omega)) (fun z => absurd z (by omega))
                  · refine to_an (pc := 30) rw_162_30 rfl (to_c (pc := 31) rw_162_31 (x := (2 : Int32)) rfl rfl (s_v (pc := 32) rw_162_32 (dp1 hd (by decide)) (ls0 := [.ref 77, .int (2 : Int32)]) rfl (Nat.le_of_ble_eq_true rfl) (Nat.le_of_ble_eq_true rfl) rfl (to_rc rfl rfl rfl (g_o hG196 rfl)) rfl (to_an (pc := 0) rw_152_0 rfl (to_in (pc := 1) rw_152_1 rfl (s_pI (pc := 2) rw_152_2 hG196 rfl (fun M346 W345 => ?_))))))
                    have hG347 := g_wf hG196 W345 rfl rfl (by decide)
                    have F348 := FR.w F201 W345 (show 77 = 77 ∧ (4 = 4 ∨ 4 = 5 ∨ 7 ≤ 4 ∧ 4 ≤ 10) ∨ 77 = 77 ∧ (4 = 44 ∨ 4 = 52) ∨ 101 ≤ 77 ∧ 77 ≤ 108 by decide)
                    refine to_an (pc := 5) rw_152_5 rfl (to_an (pc := 6) rw_152_6 rfl ?_)
                    have c_349 : M346.2.1 77 10 = (M200.2.1 77 10) := (W_n W345 (by decide) rfl)
                    have b_350 := g_b hG196 (a := 77) (i := 10) (lo := 0) (hi := 500) rfl rfl
                    refine tt_gI (pc := 7) rw_152_7 (g_o hG347 rfl) (v := (M200.2.1 77 10)) c_349 (s_pI (pc := 10) rw_152_10 hG347 rfl (fun M352 W351 => ?_))
                    have hG353 := g_wf hG347 W351 rfl rfl (by decide)
                    have F354 := FR.w F348 W351 (show 77 = 77 ∧ (5 = 4 ∨ 5 = 5 ∨ 7 ≤ 5 ∧ 5 ≤ 10) ∨ 77 = 77 ∧ (5 = 44 ∨ 5 = 52) ∨ 101 ≤ 77 ∧ 77 ≤ 108 by decide)
                    refine to_c (pc := 13) rw_152_13 (x := (0 : Int32)) rfl rfl (s_r1 (pc := 14) rw_152_14 (A := 0) rfl (by decide) (b_ieq_t (pc := 35) rw_162_35 (A := 0) rfl (by decide) (to_c (pc := 42) rw_162_42 (x := (0 : Int32)) rfl rfl (s_r1 (pc := 43) rw_162_43 (A := 0) rfl (by decide) (b_ine_f (pc := 196) rw_215_196 (A := 0) rfl (by decide) (to_c (pc := 199) rw_215_199 (x := (0 : Int32)) rfl rfl (s_r1 (pc := 200) rw_215_200 (A := 0) rfl (by decide) ?_)))))))
                    have k_355 : (0 : Int32).toInt = 0 := rfl
                    have c_356 : M352.2.1 77 7 = (M200.2.1 77 7) := (W_n W351 (by decide) (W_n W345 (by decide) rfl))
                    have t_357 : (M352.2.1 77 7).toInt = (M200.2.1 77 7).toInt := congrArg Int32.toInt c_356
                    have c_358 : M352.2.1 77 6 = (M.2.1 77 6) := (W_n W351 (by decide) (W_n W345 (by decide) c_203))
                    have t_359 : (M352.2.1 77 6).toInt = (M.2.1 77 6).toInt := congrArg Int32.toInt c_358
                    have c_360 : M352.2.1 77 8 = (M200.2.1 77 8) := (W_n W351 (by decide) (W_n W345 (by decide) rfl))
                    have t_361 : (M352.2.1 77 8).toInt = (M200.2.1 77 8).toInt := congrArg Int32.toInt c_360
                    exact h (0 : Int32) M352 hG353 F354 (by decide) (by decide) (by omega) (by omega) (by omega) (by omega) (fun z => absurd z (by omega)) (fun z => absurd z (by omega))
              · refine to_an (pc := 8) rw_162_8 rfl (to_c (pc := 9) rw_162_9 (x := (1 : Int32)) rfl rfl (s_v (pc := 10) rw_162_10 (dp1 hd (by decide)) (ls0 := [.ref 77, .int (1 : Int32)]) rfl (Nat.le_of_ble_eq_true rfl) (Nat.le_of_ble_eq_true rfl) rfl (to_rc rfl rfl rfl (g_o hG196 rfl)) rfl (to_an (pc := 0) rw_152_0 rfl (to_in (pc := 1) rw_152_1 rfl (s_pI (pc := 2) rw_152_2 hG196 rfl (fun M363 W362 => ?_))))))
                have hG364 := g_wf hG196 W362 rfl rfl (by decide)
                have F365 := FR.w F201 W362 (show 77 = 77 ∧ (4 = 4 ∨ 4 = 5 ∨ 7 ≤ 4 ∧ 4 ≤ 10) ∨ 77 = 77 ∧ (4 = 44 ∨ 4 = 52) ∨ 101 ≤ 77 ∧ 77 ≤ 108 by decide)
                refine to_an (pc := 5) rw_152_5 rfl (to_an (pc := 6) rw_152_6 rfl ?_)
                have c_366 : M363.2.1 77 10 = (M200.2.1 77 10) := (W_n W362 (by decide) rfl)
                have b_367 := g_b hG196 (a := 77) (i := 10) (lo := 0) (hi := 500) rfl rfl
                refine tt_gI (pc := 7) rw_152_7 (g_o hG364 rfl) (v := (M200.2.1 77 10)) c_366 (s_pI (pc := 10) rw_152_10 hG364 rfl (fun M369 W368 => ?_))
                have hG370 := g_wf hG364 W368 rfl rfl (by decide)
                have F371 := FR.w F365 W368 (show 77 = 77 ∧ (5 = 4 ∨ 5 = 5 ∨ 7 ≤ 5 ∧ 5 ≤ 10) ∨ 77 = 77 ∧ (5 = 44 ∨ 5 = 52) ∨ 101 ≤ 77 ∧ 77 ≤ 108 by decide)
                refine to_c (pc := 13) rw_152_13 (x := (0 : Int32)) rfl rfl (s_r1 (pc := 14) rw_152_14 (A := 0) rfl (by decide) (s_r1 (pc := 13) rw_162_13 (A := 0) rfl (by decide) (b_ine_f (pc := 196) rw_215_196 (A := 0) rfl (by decide) (to_c (pc := 199) rw_215_199 (x := (0 : Int32)) rfl rfl (s_r1 (pc := 200) rw_215_200 (A := 0) rfl (by decide) ?_)))))
                have k_372 : (0 : Int32).toInt = 0 := rfl
                have c_373 : M369.2.1 77 7 = (M200.2.1 77 7) := (W_n W368 (by decide) (W_n W362 (by decide) rfl))
                have t_374 : (M369.2.1 77 7).toInt = (M200.2.1 77 7).toInt := congrArg Int32.toInt c_373
                have c_375 : M369.2.1 77 6 = (M.2.1 77 6) := (W_n W368 (by decide) (W_n W362 (by decide) c_203))
                have t_376 : (M369.2.1 77 6).toInt = (M.2.1 77 6).toInt := congrArg Int32.toInt c_375
                have c_377 : M369.2.1 77 8 = (M200.2.1 77 8) := (W_n W368 (by decide) (W_n W362 (by decide) rfl))
                have t_378 : (M369.2.1 77 8).toInt = (M200.2.1 77 8).toInt := congrArg Int32.toInt c_377
                exact h (0 : Int32) M369 hG370 F371 (by decide) (by decide) (by omega) (by omega) (by omega) (by omega) (fun z => absurd z (by omega)) (fun z => absurd z (by omega))
            · refine to_an (pc := 100) rw_215_100 rfl (to_c (pc := 101) rw_215_101 (x := (2 : Int32)) rfl rfl (s_v (pc := 102) rw_215_102 (dp0 hd (by decide)) (ls0 := [.ref 77, .int (2 : Int32)]) rfl (Nat.le_of_ble_eq_true rfl) (Nat.le_of_ble_eq_true rfl) rfl (to_rc rfl rfl rfl (g_o hG rfl)) rfl (to_an (pc := 0) rw_152_0 rfl (to_in (pc := 1) rw_152_1 rfl (s_pI (pc := 2) rw_152_2 hG rfl (fun M380 W379 => ?_))))))
              have hG381 := g_wf hG W379 rfl rfl (by decide)
              have F382 := FR.w F0 W379 (show 77 = 77 ∧ (4 = 4 ∨ 4 = 5 ∨ 7 ≤ 4 ∧ 4 ≤ 10) ∨ 77 = 77 ∧ (4 = 44 ∨ 4 = 52) ∨ 101 ≤ 77 ∧ 77 ≤ 108 by decide)
              refine to_an (pc := 5) rw_152_5 rfl (to_an (pc := 6) rw_152_6 rfl ?_)
              have c_383 : M380.2.1 77 10 = (M.2.1 77 10) := (W_n W379 (by decide) rfl)
              have b_384 := g_b hG (a := 77) (i := 10) (lo := 0) (hi := 500) rfl rfl
              refine tt_gI (pc := 7) rw_152_7 (g_o hG381 rfl) (v := (M.2.1 77 10)) c_383 (s_pI (pc := 10) rw_152_10 hG381 rfl (fun M386 W385 => ?_))
              have hG387 := g_wf hG381 W385 rfl rfl (by decide)
              have F388 := FR.w F382 W385 (show 77 = 77 ∧ (5 = 4 ∨ 5 = 5 ∨ 7 ≤ 5 ∧ 5 ≤ 10) ∨ 77 = 77 ∧ (5 = 44 ∨ 5 = 52) ∨ 101 ≤ 77 ∧ 77 ≤ 108 by decide)
              refine to_c (pc := 13) rw_152_13 (x := (0 : Int32)) rfl rfl (s_r1 (pc := 14) rw_152_14 (A := 0) rfl (by decide) (s_r1 (pc := 105) rw_215_105 (A := 0) rfl (by decide) ?_))
              have k_389 : (0 : Int32).toInt = 0 := rfl
              have c_390 : M386.2.1 77 7 = (M.2.1 77 7) := (W_n W385 (by decide) (W_n W379 (by decide) rfl))
              have t_391 : (M386.2.1 77 7).toInt = (M.2.1 77 7).toInt := congrArg Int32.toInt c_390
              have c_392 : M386.2.1 77 6 = (M.2.1 77 6) := (W_n W385 (by decide) (W_n W379 (by decide) rfl))
              have t_393 : (M386.2.1 77 6).toInt = (M.2.1 77 6).toInt := congrArg Int32.toInt c_392
              have c_394 : M386.2.1 77 8 = (M.2.1 77 8) := (W_n W385 (by decide) (W_n W379 (by decide) rfl))
              have t_395 : (M386.2.1 77 8).toInt = (M.2.1 77 8).toInt := congrArg Int32.toInt c_394
              exact h (0 : Int32) M386 hG387 F388 (by decide) (by decide) (by omega) (by omega) (by omega) (by omega) (fun z => absurd z (by omega)) (fun z => absurd z (by omega))
          · refine to_an (pc := 85) rw_215_85 rfl (to_c (pc := 86) rw_215_86 (x := (1 : Int32)) rfl rfl (s_v (pc := 87) rw_215_87 (dp0 hd (by decide)) (ls0 := [.ref 77, .int (1 : Int32)]) rfl (Nat.le_of_ble_eq_true rfl) (Nat.le_of_ble_eq_true rfl) rfl (to_rc rfl rfl rfl (g_o hG rfl)) rfl (to_an (pc := 0) rw_152_0 rfl (to_in (pc := 1) rw_152_1 rfl (s_pI (pc := 2) rw_152_2 hG rfl (fun M397 W396 => ?_))))))
            have hG398 := g_wf hG W396 rfl rfl (by decide)
            have F399 := FR.w F0 W396 (show 77 = 77 ∧ (4 = 4 ∨ 4 = 5 ∨ 7 ≤ 4 ∧ 4 ≤ 10) ∨ 77 = 77 ∧ (4 = 44 ∨ 4 = 52) ∨ 101 ≤ 77 ∧ 77 ≤ 108 by decide)
            refine to_an (pc := 5) rw_152_5 rfl (to_an (pc := 6) rw_152_6 rfl ?_)
            have c_400 : M397.2.1 77 10 = (M.2.1 77 10) := (W_n W396 (by decide) rfl)
            have b_401 := g_b hG (a := 77) (i := 10) (lo := 0) (hi := 500) rfl rfl
            refine tt_gI (pc := 7) rw_152_7 (g_o hG398 rfl) (v := (M.2.1 77 10)) c_400 (s_pI (pc := 10) rw_152_10 hG398 rfl (fun M403 W402 => ?_))
            have hG404 := g_wf hG398 W402 rfl rfl (by decide)
            have F405 := FR.w F399 W402 (show 77 = 77 ∧ (5 = 4 ∨ 5 = 5 ∨ 7 ≤ 5 ∧ 5 ≤ 10) ∨ 77 = 77 ∧ (5 = 44 ∨ 5 = 52) ∨ 101 ≤ 77 ∧ 77 ≤ 108 by decide)
            refine to_c (pc := 13) rw_152_13 (x := (0 : Int32)) rfl rfl (s_r1 (pc := 14) rw_152_14 (A := 0) rfl (by decide) (s_r1 (pc := 90) rw_215_90 (A := 0) rfl (by decide) ?_))
            have k_406 : (0 : Int32).toInt = 0 := rfl
            have c_407 : M403.2.1 77 7 = (M.2.1 77 7) := (W_n W402 (by decide) (W_n W396 (by decide) rfl))
            have t_408 : (M403.2.1 77 7).toInt = (M.2.1 77 7).toInt := congrArg Int32.toInt c_407
            have c_409 : M403.2.1 77 6 = (M.2.1 77 6) := (W_n W402 (by decide) (W_n W396 (by decide) rfl))
            have t_410 : (M403.2.1 77 6).toInt = (M.2.1 77 6).toInt := congrArg Int32.toInt c_409
            have c_411 : M403.2.1 77 8 = (M.2.1 77 8) := (W_n W402 (by decide) (W_n W396 (by decide) rfl))
            have t_412 : (M403.2.1 77 8).toInt = (M.2.1 77 8).toInt := congrArg Int32.toInt c_411
            exact h (0 : Int32) M403 hG404 F405 (by decide) (by decide) (by omega) (by omega) (by omega) (by omega) (fun z => absurd z (by omega)) (fun z => absurd z (by omega))
  · refine to_an (pc := 8) rw_159_8 rfl (tt_gI (pc := 9) rw_159_9 (g_o hG rfl) (v := (M.2.1 77 9)) rfl (to_in (pc := 12) rw_159_12 rfl (b_cne (pc := 13) rw_159_13 (A := (M.2.1 77 9).toInt) (B := 41) rfl rfl (fun h413 => ?_) (fun h413 => ?_))))
    · refine to_c (pc := 20) rw_159_20 (x := (0 : Int32)) rfl rfl (s_r1 (pc := 21) rw_159_21 (A := 0) rfl (by decide) (b_ieq_t (pc := 6) rw_215_6 (A := 0) rfl (by decide) (to_an (pc := 50) rw_215_50 rfl (tt_gI (pc := 51) rw_215_51 (g_o hG rfl) (v := (M.2.1 77 8)) rfl (to_c (pc := 54) rw_215_54 (x := (1 : Int32)) rfl rfl (b_cne_t (pc := 55) rw_215_55 (A := (M.2.1 77 8).toInt) (B := 1) rfl rfl (by omega) (to_an (pc := 85) rw_215_85 rfl (to_c (pc := 86) rw_215_86 (x := (1 : Int32)) rfl rfl (s_v (pc := 87) rw_215_87 (dp0 hd (by decide)) (ls0 := [.ref 77, .int (1 : Int32)]) rfl (Nat.le_of_ble_eq_true rfl) (Nat.le_of_ble_eq_true rfl) rfl (to_rc rfl rfl rfl (g_o hG rfl)) rfl (to_an (pc := 0) rw_152_0 rfl (to_in (pc := 1) rw_152_1 rfl ?_)))))))))))
      refine s_pI (pc := 2) rw_152_2 hG rfl (fun M415 W414 => ?_)
      have hG416 := g_wf hG W414 rfl rfl (by decide)
      have F417 := FR.w F0 W414 (show 77 = 77 ∧ (4 = 4 ∨ 4 = 5 ∨ 7 ≤ 4 ∧ 4 ≤ 10) ∨ 77 = 77 ∧ (4 = 44 ∨ 4 = 52) ∨ 101 ≤ 77 ∧ 77 ≤ 108 by decide)
      refine to_an (pc := 5) rw_152_5 rfl (to_an (pc := 6) rw_152_6 rfl ?_)
      have c_418 : M415.2.1 77 10 = (M.2.1 77 10) := (W_n W414 (by decide) rfl)
      have b_419 := g_b hG (a := 77) (i := 10) (lo := 0) (hi := 500) rfl rfl
      refine tt_gI (pc := 7) rw_152_7 (g_o hG416 rfl) (v := (M.2.1 77 10)) c_418 (s_pI (pc := 10) rw_152_10 hG416 rfl (fun M421 W420 => ?_))
      have hG422 := g_wf hG416 W420 rfl rfl (by decide)
      have F423 := FR.w F417 W420 (show 77 = 77 ∧ (5 = 4 ∨ 5 = 5 ∨ 7 ≤ 5 ∧ 5 ≤ 10) ∨ 77 = 77 ∧ (5 = 44 ∨ 5 = 52) ∨ 101 ≤ 77 ∧ 77 ≤ 108 by decide)
      refine to_c (pc := 13) rw_152_13 (x := (0 : Int32)) rfl rfl (s_r1 (pc := 14) rw_152_14 (A := 0) rfl (by decide) (s_r1 (pc := 90) rw_215_90 (A := 0) rfl (by decide) ?_))
      have k_424 : (0 : Int32).toInt = 0 := rfl
      have c_425 : M421.2.1 77 7 = (M.2.1 77 7) := (W_n W420 (by decide) (W_n W414 (by decide) rfl))
      have t_426 : (M421.2.1 77 7).toInt = (M.2.1 77 7).toInt := congrArg Int32.toInt c_425
      have c_427 : M421.2.1 77 6 = (M.2.1 77 6) := (W_n W420 (by decide) (W_n W414 (by decide) rfl))
      have t_428 : (M421.2.1 77 6).toInt = (M.2.1 77 6).toInt := congrArg Int32.toInt c_427
      have c_429 : M421.2.1 77 8 = (M.2.1 77 8) := (W_n W420 (by decide) (W_n W414 (by decide) rfl))
      have t_430 : (M421.2.1 77 8).toInt = (M.2.1 77 8).toInt := congrArg Int32.toInt c_429
      exact h (0 : Int32) M421 hG422 F423 (by decide) (by decide) (by omega) (by omega) (by omega) (by omega) (fun z => absurd z (by omega)) (fun z => absurd z (by omega))
    · refine to_c (pc := 16) rw_159_16 (x := (1 : Int32)) rfl rfl (to_go (pc := 17) rw_159_17 (s_r1 (pc := 21) rw_159_21 (A := 1) rfl (by decide) (b_ieq_f (pc := 6) rw_215_6 (A := 1) rfl (by decide) (to_an (pc := 9) rw_215_9 rfl ?_))))
      have b_431 := g_b hG (a := 77) (i := 52) (lo := 0) (hi := 5) rfl rfl
      refine tt_gI (pc := 10) rw_215_10 (g_o hG rfl) (v := (M.2.1 77 52)) rfl (b_ile (pc := 13) rw_215_13 (A := (M.2.1 77 52).toInt) rfl (fun h432 => ?_) (fun h432 => ?_))
      · refine to_an (pc := 50) rw_215_50 rfl (tt_gI (pc := 51) rw_215_51 (g_o hG rfl) (v := (M.2.1 77 8)) rfl (to_c (pc := 54) rw_215_54 (x := (1 : Int32)) rfl rfl (b_cne_t (pc := 55) rw_215_55 (A := (M.2.1 77 8).toInt) (B := 1) rfl rfl (by omega) (to_an (pc := 85) rw_215_85 rfl (to_c (pc := 86) rw_215_86 (x := (1 : Int32)) rfl rfl (s_v (pc := 87) rw_215_87 (dp0 hd (by decide)) (ls0 := [.ref 77, .int (1 : Int32)]) rfl (Nat.le_of_ble_eq_true rfl) (Nat.le_of_ble_eq_true rfl) rfl (to_rc rfl rfl rfl (g_o hG rfl)) rfl (to_an (pc := 0) rw_152_0 rfl (to_in (pc := 1) rw_152_1 rfl (s_pI (pc := 2) rw_152_2 hG rfl (fun M434 W433 => ?_))))))))))
        have hG435 := g_wf hG W433 rfl rfl (by decide)
        have F436 := FR.w F0 W433 (show 77 = 77 ∧ (4 = 4 ∨ 4 = 5 ∨ 7 ≤ 4 ∧ 4 ≤ 10) ∨ 77 = 77 ∧ (4 = 44 ∨ 4 = 52) ∨ 101 ≤ 77 ∧ 77 ≤ 108 by decide)
        refine to_an (pc := 5) rw_152_5 rfl (to_an (pc := 6) rw_152_6 rfl ?_)
        have c_437 : M434.2.1 77 10 = (M.2.1 77 10) := (W_n W433 (by decide) rfl)
        have b_438 := g_b hG (a := 77) (i := 10) (lo := 0) (hi := 500) rfl rfl
        refine tt_gI (pc := 7) rw_152_7 (g_o hG435 rfl) (v := (M.2.1 77 10)) c_437 (s_pI (pc := 10) rw_152_10 hG435 rfl (fun M440 W439 => ?_))
        have hG441 := g_wf hG435 W439 rfl rfl (by decide)
        have F442 := FR.w F436 W439 (show 77 = 77 ∧ (5 = 4 ∨ 5 = 5 ∨ 7 ≤ 5 ∧ 5 ≤ 10) ∨ 77 = 77 ∧ (5 = 44 ∨ 5 = 52) ∨ 101 ≤ 77 ∧ 77 ≤ 108 by decide)
        refine to_c (pc := 13) rw_152_13 (x := (0 : Int32)) rfl rfl (s_r1 (pc := 14) rw_152_14 (A := 0) rfl (by decide) (s_r1 (pc := 90) rw_215_90 (A := 0) rfl (by decide) ?_))
        have k_443 : (0 : Int32).toInt = 0 := rfl
        have c_444 : M440.2.1 77 7 = (M.2.1 77 7) := (W_n W439 (by decide) (W_n W433 (by decide) rfl))
        have t_445 : (M440.2.1 77 7).toInt = (M.2.1 77 7).toInt := congrArg Int32.toInt c_444
        have c_446 : M440.2.1 77 6 = (M.2.1 77 6) := (W_n W439 (by decide) (W_n W433 (by decide) rfl))
        have t_447 : (M440.2.1 77 6).toInt = (M.2.1 77 6).toInt := congrArg Int32.toInt c_446
        have c_448 : M440.2.1 77 8 = (M.2.1 77 8) := (W_n W439 (by decide) (W_n W433 (by decide) rfl))
        have t_449 : (M440.2.1 77 8).toInt = (M.2.1 77 8).toInt := congrArg Int32.toInt c_448
        exact h (0 : Int32) M440 hG441 F442 (by decide) (by decide) (by omega) (by omega) (by omega) (by omega) (fun z => absurd z (by omega)) (fun z => absurd z (by omega))
      · refine to_an (pc := 16) rw_215_16 rfl (to_dupr (pc := 17) rw_215_17 (tt_gI (pc := 18) rw_215_18 (g_o hG rfl) (v := (M.2.1 77 52)) rfl (to_c (pc := 21) rw_215_21 (x := (1 : Int32)) rfl rfl (s_sub (pc := 22) rw_215_22 (A := (M.2.1 77 52).toInt) (B := 1) rfl rfl (by omega) (fun v450 e451 => s_pI (pc := 23) rw_215_23 hG rfl (fun M453 W452 => ?_))))))
        have hG454 := g_w hG W452 (A := v450.toInt) rfl (lo := 0) (hi := 5) rfl rfl (by omega) (by decide)
        have F455 := FR.w F0 W452 (show 77 = 77 ∧ (52 = 4 ∨ 52 = 5 ∨ 7 ≤ 52 ∧ 52 ≤ 10) ∨ 77 = 77 ∧ (52 = 44 ∨ 52 = 52) ∨ 101 ≤ 77 ∧ 77 ≤ 108 by decide)
        refine to_an (pc := 26) rw_215_26 rfl (s_gR (pc := 27) rw_215_27 hG454 rfl (v := 105) rfl (to_an (pc := 30) rw_215_30 rfl (s_gR (pc := 31) rw_215_31 hG454 rfl (v := 108) rfl (to_an (pc := 34) rw_215_34 rfl ?_))))
        have c_456 : M453.2.1 77 52 = v450 := (W_e W452)
        refine tt_gI (pc := 35) rw_215_35 (g_o hG454 rfl) (v := v450) c_456 (s_ial (pc := 38) rw_215_38 hG454 rfl (n := 5) rfl rfl (A := v450.toInt) rfl (by omega) (by omega) (lo := 0) (hi := 39) rfl rfl (fun v457 w_458 _ _ => ?_))
        have t_459 := congrArg Int32.toInt w_458
        refine to_an (pc := 39) rw_215_39 rfl ?_
        have c_460 : M453.2.1 77 44 = (M.2.1 77 44) := (W_n W452 (by decide) rfl)
        have b_461 := g_b hG (a := 77) (i := 44) (lo := 0) (hi := 40) rfl rfl
        refine tt_gI (pc := 40) rw_215_40 (g_o hG454 rfl) (v := (M.2.1 77 44)) c_460 (s_ias (pc := 43) rw_215_43 hG454 rfl (n := 40) rfl (A := v457.toInt) rfl (by omega) (by omega) (fun M463 W462 => ?_))
        have hG464 := g_w hG454 W462 (A := (M.2.1 77 44).toInt) rfl (lo := 0) (hi := 40) rfl rfl (by omega) (by decide)
        have F465 := FR.w F455 W462 (show 105 = 77 ∧ ((v457.toInt).toNat = 4 ∨ (v457.toInt).toNat = 5 ∨ 7 ≤ (v457.toInt).toNat ∧ (v457.toInt).toNat ≤ 10) ∨ 105 = 77 ∧ ((v457.toInt).toNat = 44 ∨ (v457.toInt).toNat = 52) ∨ 101 ≤ 105 ∧ 105 ≤ 108 by omega)
        refine to_an (pc := 44) rw_215_44 rfl (s_v (pc := 45) rw_215_45 (dp0 hd (by decide)) (ls0 := [.ref 77]) rfl (Nat.le_of_ble_eq_true rfl) (Nat.le_of_ble_eq_true rfl) rfl (to_rc rfl rfl rfl (g_o hG464 rfl)) rfl ?_)
        have c_466 : M463.2.1 77 7 = (M.2.1 77 7) := (W_n W462 (fun z => absurd z.1 (by decide)) (W_n W452 (by decide) rfl))
        have t_467 : (M463.2.1 77 7).toInt = (M.2.1 77 7).toInt := congrArg Int32.toInt c_466
        have c_468 : M463.2.1 77 6 = (M.2.1 77 6) := (W_n W462 (fun z => absurd z.1 (by decide)) (W_n W452 (by decide) rfl))
        have t_469 : (M463.2.1 77 6).toInt = (M.2.1 77 6).toInt := congrArg Int32.toInt c_468
        refine C_156 hX (dp1 hd (by decide)) hG464 (by omega)  (fun M475 hG471 F470 p_472 p_473 p_474 => ?_)
        have F476 := FR.c F465 F470 tg_276
        have b_477 := g_b hG471 (a := 77) (i := 7) (lo := 0) (hi := 500) rfl rfl
        have c_478 : M475.2.1 77 6 = (M.2.1 77 6) := (F_n F470 (show ¬ (77 = 77 ∧ 7 ≤ 6 ∧ 6 ≤ 10) by decide) c_468)
        have t_479 : (M475.2.1 77 6).toInt = (M.2.1 77 6).toInt := congrArg Int32.toInt c_478
        have b_480 := g_b hG471 (a := 77) (i := 8) (lo := 0) (hi := 5) rfl rfl
        refine to_c (pc := 48) rw_215_48 (x := (1 : Int32)) rfl rfl (s_r1 (pc := 49) rw_215_49 (A := 1) rfl (by decide) ?_)
        have k_481 : (1 : Int32).toInt = 1 := rfl
        have c_482 : M475.2.1 77 44 = (M.2.1 77 44) := (F_n F470 (show ¬ (77 = 77 ∧ 7 ≤ 44 ∧ 44 ≤ 10) by decide) (W_n W462 (fun z => absurd z.1 (by decide)) c_460))
        have t_483 : (M475.2.1 77 44).toInt = (M.2.1 77 44).toInt := congrArg Int32.toInt c_482
        have c_484 : M475.2.1 77 52 = v450 := (F_n F470 (show ¬ (77 = 77 ∧ 7 ≤ 52 ∧ 52 ≤ 10) by decide) (W_n W462 (fun z => absurd z.1 (by decide)) c_456))
        have t_485 : (M475.2.1 77 52).toInt = v450.toInt := congrArg Int32.toInt c_484
        have j_488 : M.2.1 108 (v450.toInt).toNat = v457 := (W_n W452 (by omega) rfl).symm.trans w_458
        exact h (1 : Int32) M475 hG471 F476 (by decide) (by decide) (by omega) (by omega) (by omega) (by omega) (fun _ => AB_f (fun a i z => (F_n F470 (show ¬ (a = 77 ∧ 7 ≤ i ∧ i ≤ 10) by omega) (W_n W462 (by /-r105-/ omega) (W_n W452 (by /-r77,52-/ omega) rfl)))) q2) (fun _ => ST_close (M1 := M475) (k := (v450.toInt).toNat) q3 (by omega) (by omega) (by omega) (fun i => (F_n F470 (show ¬ (101 = 77 ∧ 7 ≤ i ∧ i ≤ 10) by omega) (W_n W462 (by omega) (W_n W452 (by omega) rfl)))) (fun i => (F_n F470 (show ¬ (108 = 77 ∧ 7 ≤ i ∧ i ≤ 10) by omega) (W_n W462 (by omega) (W_n W452 (by omega) rfl)))) (fun i z => by rw [j_488] at z; exact (F_n F470 (show ¬ (105 = 77 ∧ 7 ≤ i ∧ i ≤ 10) by omega) (W_n W462 (by omega) (W_n W452 (by omega) rfl)))) (by rw [j_488, (F_n F470 (show ¬ (105 = 77 ∧ 7 ≤ ((v457.toInt).toNat) ∧ ((v457.toInt).toNat) ≤ 10) by omega) (W_e W462))] <;> omega))
end
section
theorem tg_278 {M M1 : mm_M} (F : FR (fun a i : Nat => a = 99 ∨ a = 100) M M1) : ∀ a i : Nat, AB_r a i → M1.2.1 a i = M.2.1 a i := fun a i z => F_n F (show ¬ (a = 99 ∨ a = 100) by omega) rfl
theorem tg_279 {M M1 : mm_M} (F : FR (fun a i : Nat => a = 77 ∧ i = 42 ∨ a = 99 ∨ a = 100 ∨ a = 109) M M1) : ∀ a i : Nat, AB_r a i → M1.2.1 a i = M.2.1 a i := fun a i z => F_n F (show ¬ (a = 77 ∧ i = 42 ∨ a = 99 ∨ a = 100 ∨ a = 109) by omega) rfl
theorem tg_280 {M M1 : mm_M} (F : FR (fun a i : Nat => 94 ≤ a ∧ a ≤ 98) M M1) : ∀ a i : Nat, ST_r a i → M1.2.1 a i = M.2.1 a i := fun a i z => F_n F (show ¬ (94 ≤ a ∧ a ≤ 98) by omega) rfl
theorem tg_281 {M M1 : mm_M} (F : FR (fun a i : Nat => 94 ≤ a ∧ a ≤ 98) M M1) : ∀ a i : Nat, AB_r a i → M1.2.1 a i = M.2.1 a i := fun a i z => F_n F (show ¬ (94 ≤ a ∧ a ≤ 98) by omega) rfl
theorem tg_282 {M M1 : mm_M} (F : FR (fun a i : Nat => 94 ≤ a ∧ a ≤ 98) M M1) : ∀ a i : Nat, (a = 100 ∨ a = 77 ∧ i = 28) → M1.2.1 a i = M.2.1 a i := fun a i z => F_n F (show ¬ (94 ≤ a ∧ a ≤ 98) by omega) rfl
theorem tg_283 {M M1 : mm_M} (F : FR (fun a i : Nat => a = 77 ∧ (i = 4 ∨ i = 5 ∨ 7 ≤ i ∧ i ≤ 10) ∨ a = 77 ∧ (i = 44 ∨ i = 52) ∨ 101 ≤ a ∧ a ≤ 108) M M1) : ∀ a i : Nat, (81 ≤ a ∧ a ≤ 84) → M1.2.1 a i = M.2.1 a i := fun a i z => F_n F (show ¬ (a = 77 ∧ (i = 4 ∨ i = 5 ∨ 7 ≤ i ∧ i ≤ 10) ∨ a = 77 ∧ (i = 44 ∨ i = 52) ∨ 101 ≤ a ∧ a ≤ 108) by omega) rfl
theorem tg_284 {M M1 : mm_M} (F : FR (fun a i : Nat => a = 77 ∧ (i = 4 ∨ i = 5 ∨ 7 ≤ i ∧ i ≤ 10) ∨ a = 77 ∧ (i = 44 ∨ i = 52) ∨ 101 ≤ a ∧ a ≤ 108) M M1) : ∀ a i : Nat, WC_r a i → M1.2.1 a i = M.2.1 a i := fun a i z => F_n F (show ¬ (a = 77 ∧ (i = 4 ∨ i = 5 ∨ 7 ≤ i ∧ i ≤ 10) ∨ a = 77 ∧ (i = 44 ∨ i = 52) ∨ 101 ≤ a ∧ a ≤ 108) by omega) rfl
theorem tg_285 {M M1 : mm_M} (F : FR (fun a i : Nat => a = 77 ∧ (i = 4 ∨ i = 5 ∨ 7 ≤ i ∧ i ≤ 10) ∨ a = 77 ∧ (i = 44 ∨ i = 52) ∨ 101 ≤ a ∧ a ≤ 108) M M1) : ∀ a i : Nat, NJ_r a i → M1.2.1 a i = M.2.1 a i := fun a i z => F_n F (show ¬ (a = 77 ∧ (i = 4 ∨ i = 5 ∨ 7 ≤ i ∧ i ≤ 10) ∨ a = 77 ∧ (i = 44 ∨ i = 52) ∨ 101 ≤ a ∧ a ≤ 108) by omega) rfl
theorem tg_286 {M M1 : mm_M} (F : FR (fun a i : Nat => a = 77 ∧ (i = 4 ∨ i = 5 ∨ 7 ≤ i ∧ i ≤ 10) ∨ a = 77 ∧ (i = 44 ∨ i = 52) ∨ 101 ≤ a ∧ a ≤ 108) M M1) : ∀ a i : Nat, (a = 100 ∨ a = 77 ∧ i = 28) → M1.2.1 a i = M.2.1 a i := fun a i z => F_n F (show ¬ (a = 77 ∧ (i = 4 ∨ i = 5 ∨ 7 ≤ i ∧ i ≤ 10) ∨ a = 77 ∧ (i = 44 ∨ i = 52) ∨ 101 ≤ a ∧ a ≤ 108) by omega) rfl
theorem tg_287 {M M1 : mm_M} (F : FR (fun a i : Nat => a = 77 ∧ (i = 4 ∨ i = 5 ∨ 7 ≤ i ∧ i ≤ 10) ∨ a = 77 ∧ (i = 44 ∨ i = 52) ∨ 101 ≤ a ∧ a ≤ 108) M M1) : ∀ a i : Nat, KQ_r a i → M1.2.1 a i = M.2.1 a i := fun a i z => F_n F (show ¬ (a = 77 ∧ (i = 4 ∨ i = 5 ∨ 7 ≤ i ∧ i ≤ 10) ∨ a = 77 ∧ (i = 44 ∨ i = 52) ∨ 101 ≤ a ∧ a ≤ 108) by omega) rfl
theorem tg_288 {M M1 : mm_M} (F : FR (fun a i : Nat => a = 77 ∧ (i = 42 ∨ i = 43) ∨ 94 ≤ a ∧ a ≤ 98 ∨ a = 99 ∨ a = 100 ∨ a = 109 ∨ a = 110 ∨ a = 111) M M1) : ∀ a i : Nat, (81 ≤ a ∧ a ≤ 84) → M1.2.1 a i = M.2.1 a i := fun a i z => F_n F (show ¬ (a = 77 ∧ (i = 42 ∨ i = 43) ∨ 94 ≤ a ∧ a ≤ 98 ∨ a = 99 ∨ a = 100 ∨ a = 109 ∨ a = 110 ∨ a = 111) by omega) rfl
theorem tg_289 {M M1 : mm_M} (F : FR (fun a i : Nat => a = 77 ∧ (i = 42 ∨ i = 43) ∨ 94 ≤ a ∧ a ≤ 98 ∨ a = 99 ∨ a = 100 ∨ a = 109 ∨ a = 110 ∨ a = 111) M M1) : ∀ a i : Nat, WC_r a i → M1.2.1 a i = M.2.1 a i := fun a i z => F_n F (show ¬ (a = 77 ∧ (i = 42 ∨ i = 43) ∨ 94 ≤ a ∧ a ≤ 98 ∨ a = 99 ∨ a = 100 ∨ a = 109 ∨ a = 110 ∨ a = 111) by omega) rfl
theorem tg_290 {M M1 : mm_M} (F : FR (fun a i : Nat => a = 77 ∧ (i = 42 ∨ i = 43) ∨ 94 ≤ a ∧ a ≤ 98 ∨ a = 99 ∨ a = 100 ∨ a = 109 ∨ a = 110 ∨ a = 111) M M1) : ∀ a i : Nat, NJ_r a i → M1.2.1 a i = M.2.1 a i := fun a i z => F_n F (show ¬ (a = 77 ∧ (i = 42 ∨ i = 43) ∨ 94 ≤ a ∧ a ≤ 98 ∨ a = 99 ∨ a = 100 ∨ a = 109 ∨ a = 110 ∨ a = 111) by omega) rfl
theorem tg_291 {M M1 : mm_M} (F : FR (fun a i : Nat => a = 77 ∧ (i = 42 ∨ i = 43) ∨ 94 ≤ a ∧ a ≤ 98 ∨ a = 99 ∨ a = 100 ∨ a = 109 ∨ a = 110 ∨ a = 111) M M1) : ∀ a i : Nat, KQ_r a i → M1.2.1 a i = M.2.1 a i := fun a i z => F_n F (show ¬ (a = 77 ∧ (i = 42 ∨ i = 43) ∨ 94 ≤ a ∧ a ≤ 98 ∨ a = 99 ∨ a = 100 ∨ a = 109 ∨ a = 110 ∨ a = 111) by omega) rfl
theorem tg_292 : ∀ a i : Nat, (a = 99 ∨ a = 100) → (a = 77 ∧ (i = 42 ∨ i = 43) ∨ 94 ≤ a ∧ a ≤ 98 ∨ a = 99 ∨ a = 100 ∨ a = 109 ∨ a = 110 ∨ a = 111) := fun a i z => by omega
theorem tg_293 : ∀ a i : Nat, (a = 77 ∧ i = 42 ∨ a = 99 ∨ a = 100 ∨ a = 109) → (a = 77 ∧ (i = 42 ∨ i = 43) ∨ 94 ≤ a ∧ a ≤ 98 ∨ a = 99 ∨ a = 100 ∨ a = 109 ∨ a = 110 ∨ a = 111) := fun a i z => by omega
theorem tg_294 : ∀ a i : Nat, (94 ≤ a ∧ a ≤ 98) → (a = 77 ∧ (i = 42 ∨ i = 43) ∨ 94 ≤ a ∧ a ≤ 98 ∨ a = 99 ∨ a = 100 ∨ a = 109 ∨ a = 110 ∨ a = 111) := fun a i z => by omega
theorem tg_295 : ∀ a i : Nat, (a = 77 ∧ (i = 4 ∨ i = 5 ∨ 7 ≤ i ∧ i ≤ 10) ∨ a = 77 ∧ (i = 44 ∨ i = 52) ∨ 101 ≤ a ∧ a ≤ 108) → (a = 77 ∧ (1 ≤ i ∧ i ≤ 2 ∨ 4 ≤ i ∧ i ≤ 10 ∨ 42 ≤ i ∧ i ≤ 44 ∨ i = 52) ∨ 94 ≤ a ∧ a ≤ 111) := fun a i z => by omega
theorem tg_296 : ∀ a i : Nat, (a = 77 ∧ (i = 42 ∨ i = 43) ∨ 94 ≤ a ∧ a ≤ 98 ∨ a = 99 ∨ a = 100 ∨ a = 109 ∨ a = 110 ∨ a = 111) → (a = 77 ∧ (1 ≤ i ∧ i ≤ 2 ∨ 4 ≤ i ∧ i ≤ 10 ∨ 42 ≤ i ∧ i ≤ 44 ∨ i = 52) ∨ 94 ≤ a ∧ a ≤ 111) := fun a i z => by omega
theorem tg_297 : ∀ a i : Nat, (a = 77 ∧ (i = 1 ∨ 4 ≤ i ∧ i ≤ 10)) → (a = 77 ∧ (1 ≤ i ∧ i ≤ 2 ∨ 4 ≤ i ∧ i ≤ 10 ∨ 42 ≤ i ∧ i ≤ 44 ∨ i = 52) ∨ 94 ≤ a ∧ a ≤ 111) := fun a i z => by omega
theorem tg_298 : ∀ a i j : Nat, (a = 100 ∨ a = 77 ∧ i = 28) → ¬ (a = 111 ∧ i = j) := fun a i j z => by omega
theorem tg_299 : ∀ a i j : Nat, (a = 100 ∨ a = 77 ∧ i = 28) → ¬ (a = 110 ∧ i = j) := fun a i j z => by omega
theorem tg_300 : ∀ a i : Nat, (a = 100 ∨ a = 77 ∧ i = 28) → ¬ (a = 77 ∧ i = 43) := fun a i z => by omega
theorem tg_301 : ∀ a i : Nat, (a = 100 ∨ a = 77 ∧ i = 28) → ¬ (a = 77 ∧ i = 42) := fun a i z => by omega
theorem tg_302 : ∀ a i : Nat, (81 ≤ a ∧ a ≤ 84) → ¬ (a = 77 ∧ i = 52) := fun a i z => by omega
theorem tg_303 : ∀ a i : Nat, (81 ≤ a ∧ a ≤ 84) → ¬ (a = 77 ∧ i = 44) := fun a i z => by omega
theorem tg_304 : ∀ a i : Nat, (a = 100 ∨ a = 77 ∧ i = 28) → ¬ (a = 77 ∧ i = 52) := fun a i z => by omega
theorem tg_305 : ∀ a i : Nat, (a = 100 ∨ a = 77 ∧ i = 28) → ¬ (a = 77 ∧ i = 44) := fun a i z => by omega
set_option maxRecDepth 4000 in
set_option maxHeartbeats 0 in
theorem T_218_0 {X : mm_X} {d : Nat} {M : mm_M} {Q : Option Value → mm_M → Prop} (hX : g_X X) (hd : 3 ≤ d) (q1 : NJ M) (q2 : PS M) (q3 : AB M) (q4 : ST M) (q5 : (M.2.1 77 52).toInt ≤ 0) (h : ∀ (r : Int32) (M1 : mm_M), g_G M1 → FR md_do M M1 → PS M1 → Q (some (.int r)) M1) : ∀ nn9 : Nat, (∀ (N : mm_M) (x1 : Int32) (x2 : Int32), g_G N → FR md_do M N → (0 ≤ x1.toInt) → (x1.toInt ≤ 5) → (0 ≤ x2.toInt) → (x2.toInt ≤ 40) → (x2.toInt ≤ (N.2.1 77 44).toInt) → (DK N x2.toInt (x1.toInt).toNat) → (∀ i : Nat, i < (x1.toInt).toNat → 1 ≤ (N.2.1 111 i).toInt) → (AB N) → (PS N) → (3000 - (N.2.1 77 43).toInt) * 1000 + LSm N (x1.toInt).toNat < (nn9 : Int) → mm_T X d 217 22 [.ref 77, .int x1, .int x2] [] N Q) := by
  intro nn9
  induction nn9 with
  | zero =>
    intro N x1 x2 hG F0 g1 g2 g3 g4 g5 g6 g7 g8 g9 hm
    have b_1 := g_b hG (a := 77) (i := 43) (lo := 0) (hi := 3000) rfl rfl
    have b_2 := g_b hG (a := 77) (i := 44) (lo := 0) (hi := 40) rfl rfl
    have s_3 := LSm_nn hG (x1.toInt).toNat
    exfalso; omega
  | succ nn9 ih =>
    intro N x1 x2 hG F0 g1 g2 g3 g4 g5 g6 g7 g8 g9 hm
    have b_4 := g_b hG (a := 77) (i := 43) (lo := 0) (hi := 3000) rfl rfl
    have b_5 := g_b hG (a := 77) (i := 44) (lo := 0) (hi := 40) rfl rfl
    have s_6 := LSm_nn hG (x1.toInt).toNat
    refine to_in (pc := 22) rw_218_22 rfl (b_ile (pc := 23) rw_218_23 (A := x1.toInt) rfl (fun h7 => ?_) (fun h7 => ?_))
    · refine to_in (pc := 86) rw_218_86 rfl (to_an (pc := 87) rw_218_87 rfl (tt_gI (pc := 88) rw_218_88 (g_o hG rfl) (v := (N.2.1 77 44)) rfl (b_cne (pc := 91) rw_218_91 (A := x2.toInt) (B := (N.2.1 77 44).toInt) rfl rfl (fun h8 => ?_) (fun h8 => ?_))))
      · refine to_an (pc := 96) rw_218_96 rfl (tt_gI (pc := 97) rw_218_97 (g_o hG rfl) (v := (N.2.1 77 43)) rfl (to_c (pc := 100) rw_218_100 (x := (3000 : Int32)) rfl rfl (b_cne (pc := 103) rw_218_103 (A := (N.2.1 77 43).toInt) (B := 3000) rfl rfl (fun h9 => ?_) (fun h9 => ?_))))
        · refine to_an (pc := 108) rw_218_108 rfl (to_dupr (pc := 109) rw_218_109 (tt_gI (pc := 110) rw_218_110 (g_o hG rfl) (v := (N.2.1 77 43)) rfl (to_c (pc := 113) rw_218_113 (x := (1 : Int32)) rfl rfl (s_add (pc := 114) rw_218_114 (A := (N.2.1 77 43).toInt) (B := 1) rfl rfl (by omega) (fun v10 e11 => s_pI (pc := 115) rw_218_115 hG rfl (fun M13 W12 => ?_))))))
          have hG14 := g_w hG W12 (A := v10.toInt) rfl (lo := 0) (hi := 3000) rfl rfl (by omega) (by decide)
          have F15 := FR.w F0 W12 (show 77 = 77 ∧ (43 = 42 ∨ 43 = 43) ∨ 94 ≤ 77 ∧ 77 ≤ 98 ∨ 77 = 99 ∨ 77 = 100 ∨ 77 = 109 ∨ 77 = 110 ∨ 77 = 111 by decide)
          refine to_an (pc := 118) rw_218_118 rfl (s_gR (pc := 119) rw_218_119 hG14 rfl (v := 101) rfl (to_in (pc := 122) rw_218_122 rfl (s_ial (pc := 123) rw_218_123 hG14 rfl (n := 40) rfl rfl (A := x2.toInt) rfl (by omega) (by omega) (lo := 0) (hi := 2) rfl rfl (fun v16 w_17 _ _ => ?_))))
          have c_18 : M13.2.1 77 44 = (N.2.1 77 44) := (W_n W12 (by decide) rfl)
          have t_19 : (M13.2.1 77 44).toInt = (N.2.1 77 44).toInt := congrArg Int32.toInt c_18
          have j_21 := (AB_f (fun a i z => W_n W12 (by /-r77,43-/ omega) rfl) g8)
          have s_20 := AB_u (A := x2.toInt) j_21 (by omega) (by omega) (by omega)
          have t_22 := congrArg Int32.toInt w_17
          have t_23 : (M13.2.1 101 (x2.toInt).toNat).toInt = (N.2.1 101 (x2.toInt).toNat).toInt := congrArg Int32.toInt (W_n W12 (by omega) rfl)
          have t_24 : (M13.2.1 102 (x2.toInt).toNat).toInt = (N.2.1 102 (x2.toInt).toNat).toInt := congrArg Int32.toInt (W_n W12 (by omega) rfl)
          have t_25 : (M13.2.1 103 (x2.toInt).toNat).toInt = (N.2.1 103 (x2.toInt).toNat).toInt := congrArg Int32.toInt (W_n W12 (by omega) rfl)
          have t_26 : (M13.2.1 104 (x2.toInt).toNat).toInt = (N.2.1 104 (x2.toInt).toNat).toInt := congrArg Int32.toInt (W_n W12 (by omega) rfl)
          refine b_ine (pc := 124) rw_218_124 (A := v16.toInt) rfl (fun h27 => ?_) (fun h27 => ?_)
          · refine to_an (pc := 132) rw_218_132 rfl (s_gR (pc := 133) rw_218_133 hG14 rfl (v := 101) rfl (to_in (pc := 136) rw_218_136 rfl (s_ialk (pc := 137) rw_218_137 hG14 rfl (n := 40) rfl rfl (A := x2.toInt) rfl (by omega) (by omega) (v := v16) w_17 (to_c (pc := 138) rw_218_138 (x := (1 : Int32)) rfl rfl (b_cne (pc := 139) rw_218_139 (A := v16.toInt) (B := 1) rfl rfl (fun h30 => ?_) (fun h30 => ?_))))))
            · refine to_an (pc := 147) rw_218_147 rfl (s_gR (pc := 148) rw_218_148 hG14 rfl (v := 101) rfl (to_in (pc := 151) rw_218_151 rfl (s_ialk (pc := 152) rw_218_152 hG14 rfl (n := 40) rfl rfl (A := x2.toInt) rfl (by omega) (by omega) (v := v16) w_17 (to_c (pc := 153) rw_218_153 (x := (2 : Int32)) rfl rfl (b_cge_t (pc := 154) rw_218_154 (A := v16.toInt) (B := 2) rfl rfl (by omega) (to_an (pc := 163) rw_218_163 rfl (s_gR (pc := 164) rw_218_164 hG14 rfl (v := 102) rfl (to_in (pc := 167) rw_218_167 rfl (s_ial (pc := 168) rw_218_168 hG14 rfl (n := 40) rfl rfl (A := x2.toInt) rfl (by omega) (by omega) (lo := -1) (hi := 99) rfl rfl (fun v33 w_34 _ _ => ?_))))))))))
              have t_35 := congrArg Int32.toInt w_34
              have s_36 := DK_le g6 (by omega) (by omega) (by have z : N.2.1 101 (x2.toInt).toNat = v16 := (((W_n W12 (by omega) rfl)).symm.trans w_17); rw [z]; omega) (Or.inl (by omega))
              refine b_ine (pc := 169) rw_218_169 (A := v33.toInt) rfl (fun h37 => ?_) (fun h37 => ?_)
              · refine to_an (pc := 182) rw_218_182 rfl (s_gR (pc := 183) rw_218_183 hG14 rfl (v := 110) rfl (to_in (pc := 186) rw_218_186 rfl (to_in (pc := 187) rw_218_187 rfl (s_ias (pc := 188) rw_218_188 hG14 rfl (n := 5) rfl (A := x1.toInt) rfl (by omega) (by omega) (fun M39 W38 => ?_)))))
                have hG40 := g_w hG14 W38 (A := x2.toInt) rfl (lo := 0) (hi := 39) rfl rfl (by omega) (by decide)
                have F41 := FR.w F15 W38 (show 110 = 77 ∧ ((x1.toInt).toNat = 42 ∨ (x1.toInt).toNat = 43) ∨ 94 ≤ 110 ∧ 110 ≤ 98 ∨ 110 = 99 ∨ 110 = 100 ∨ 110 = 109 ∨ 110 = 110 ∨ 110 = 111 by omega)
                refine to_an (pc := 189) rw_218_189 rfl (s_gR (pc := 190) rw_218_190 hG40 rfl (v := 111) rfl (to_in (pc := 193) rw_218_193 rfl (to_an (pc := 194) rw_218_194 rfl (s_gR (pc := 195) rw_218_195 hG40 rfl (v := 102) rfl (to_in (pc := 198) rw_218_198 rfl (s_ialk (pc := 199) rw_218_199 hG40 rfl (n := 40) rfl rfl (A := x2.toInt) rfl (by omega) (by omega) (v := v33) (W_n W38 (by omega) w_34) (s_ias (pc := 200) rw_218_200 hG40 rfl (n := 5) rfl (A := x1.toInt) rfl (by omega) (by omega) (fun M45 W44 => ?_))))))))
                have hG46 := g_w hG40 W44 (A := v33.toInt) rfl (lo := 0) (hi := 99) rfl rfl (by omega) (by decide)
                have F47 := FR.w F41 W44 (show 111 = 77 ∧ ((x1.toInt).toNat = 42 ∨ (x1.toInt).toNat = 43) ∨ 94 ≤ 111 ∧ 111 ≤ 98 ∨ 111 = 99 ∨ 111 = 100 ∨ 111 = 109 ∨ 111 = 110 ∨ 111 = 111 by omega)
                refine s_inc (pc := 201) rw_218_201 (ls2 := fun v => [.ref 77, .int v, .int x2]) rfl rfl (fun _ => rfl) (A := x1.toInt) (B := 1) rfl rfl (by omega) (fun v48 e49 => s_inc (pc := 204) rw_218_204 (ls2 := fun v => [.ref 77, .int v48, .int v]) rfl rfl (fun _ => rfl) (A := x2.toInt) (B := 1) rfl rfl (by omega) (fun v50 e51 => to_go (pc := 207) rw_218_207 ?_))
                have c_52 : M45.2.1 77 44 = (N.2.1 77 44) := (W_n W44 (fun z => absurd z.1 (by decide)) (W_n W38 (fun z => absurd z.1 (by decide)) c_18))
                have t_53 : (M45.2.1 77 44).toInt = (N.2.1 77 44).toInt := congrArg Int32.toInt c_52
                have s_54 : LSm M45 (v48.toInt).toNat = LSm M45 ((x1.toInt).toNat + 1) := by rw [show (v48.toInt).toNat = (x1.toInt).toNat + 1 by omega]
                have s_55 := LSm_s (M := M45) (x1.toInt).toNat
                have s_56 : LSm M45 (x1.toInt).toNat = LSm N (x1.toInt).toNat := LSm_f _ (fun i z => (W_n W44 (by omega) (W_n W38 (by omega) (W_n W12 (by omega) rfl))))
                have s_57 : (M45.2.1 111 (x1.toInt).toNat).toInt = v33.toInt := by rw [show (x1.toInt).toNat = (x1.toInt).toNat by omega]; exact congrArg Int32.toInt (W_e W44)
                have j_58 := (AB_f (fun a i z => W_n W44 (by /-r111-/ omega) rfl) (AB_f (fun a i z => W_n W38 (by /-r110-/ omega) rfl) j_21))
                have j_59 := (PS_f (fun a i z => W_n W44 (tg_298 a i _ z) rfl) (PS_f (fun a i z => W_n W38 (tg_299 a i _ z) rfl) (PS_f (fun a i z => W_n W12 (tg_300 a i z) rfl) g9)))
                have c_60 : M45.2.1 77 43 = v10 := (W_n W44 (fun z => absurd z.1 (by decide)) (W_n W38 (fun z => absurd z.1 (by decide)) (W_e W12)))
                have t_61 : (M45.2.1 77 43).toInt = v10.toInt := congrArg Int32.toInt c_60
                exact ih M45 v48 v50 hG46 F47 (by omega) (by omega) (by omega) (by omega) (by omega) (by rw [show (v48.toInt).toNat = (x1.toInt).toNat + 1 by omega, show v50.toInt = x2.toInt + 1 by omega]; exact DK_push g6 (by omega) (by omega) (by have z : N.2.1 101 (x2.toInt).toNat = v16 := (((W_n W12 (by omega) rfl)).symm.trans w_17); rw [z]; omega) (Or.inl (by omega)) (fun r i z => (W_n W44 (by omega) (W_n W38 (by omega) (W_n W12 (by omega) rfl)))) (by rw [(W_n W44 (by omega) (W_e W38))] <;> omega)) (fun i z => by
                    by_cases ei : i = (x1.toInt).toNat
                    · rw [ei]; omega
                    · rw [(W_n W44 (by omega) (W_n W38 (by omega) (W_n W12 (by omega) rfl)))]; exact g7 i (by omega)) j_58 j_59 (by omega)
              · refine to_an (pc := 172) rw_218_172 rfl (s_gR (pc := 173) rw_218_173 hG14 rfl (v := 105) rfl (to_in (pc := 176) rw_218_176 rfl (s_ial (pc := 177) rw_218_177 hG14 rfl (n := 40) rfl rfl (A := x2.toInt) rfl (by omega) (by omega) (lo := 0) (hi := 40) rfl rfl (fun v62 w_63 _ _ => ?_))))
                have t_64 := congrArg Int32.toInt w_63
                have s_65 := DK_skip g6 (by omega) (by omega) (by have z : N.2.1 101 (x2.toInt).toNat = v16 := (((W_n W12 (by omega) rfl)).symm.trans w_17); rw [z]; omega) (Or.inl (by omega))
                have s_66 := s_65.2
                rw [(((W_n W12 (by omega) rfl)).symm.trans w_63)] at s_66
                refine to_isn (pc := 178) rw_218_178 (ls2 := [.ref 77, .int x1, .int v62]) rfl rfl (to_go (pc := 179) rw_218_179 ?_)
                have s_68 : LSm M13 (x1.toInt).toNat = LSm N (x1.toInt).toNat := LSm_f _ (fun i z => (W_n W12 (by omega) rfl))
                have j_69 := (PS_f (fun a i z => W_n W12 (tg_300 a i z) rfl) g9)
                have c_70 : M13.2.1 77 43 = v10 := (W_e W12)
                have t_71 : (M13.2.1 77 43).toInt = v10.toInt := congrArg Int32.toInt c_70
                exact ih M13 x1 v62 hG14 F15 (by omega) (by omega) (by omega) (by omega) (by omega) (DK_f (fun r i z => (W_n W12 (by omega) rfl)) (by have z := (s_65).1; rw [(((W_n W12 (by omega) rfl)).symm.trans w_63)] at z; exact z)) (fun i z => by rw [(W_n W12 (by omega) rfl)]; exact g7 i z) j_21 j_69 (by omega)
            · refine to_an (pc := 142) rw_218_142 rfl (to_in (pc := 143) rw_218_143 rfl (s_v (pc := 144) rw_218_144 (dp0 hd (by decide)) (ls0 := [.ref 77, .int x2, .null, .null]) rfl (Nat.le_of_ble_eq_true rfl) (Nat.le_of_ble_eq_true rfl) rfl (to_rc rfl rfl rfl (g_o hG14 rfl)) rfl ?_))
              have s_72 := AB_u (A := x2.toInt) j_21 (by omega) (by omega) (by omega)
              have t_73 : (M13.2.1 101 (x2.toInt).toNat).toInt = (N.2.1 101 (x2.toInt).toNat).toInt := congrArg Int32.toInt (W_n W12 (by omega) rfl)
              have t_74 : (M13.2.1 102 (x2.toInt).toNat).toInt = (N.2.1 102 (x2.toInt).toNat).toInt := congrArg Int32.toInt (W_n W12 (by omega) rfl)
              have t_75 : (M13.2.1 103 (x2.toInt).toNat).toInt = (N.2.1 103 (x2.toInt).toNat).toInt := congrArg Int32.toInt (W_n W12 (by omega) rfl)
              have t_76 : (M13.2.1 104 (x2.toInt).toNat).toInt = (N.2.1 104 (x2.toInt).toNat).toInt := congrArg Int32.toInt (W_n W12 (by omega) rfl)
              have s_77 := g_b hG14 (a := 103) (i := (x2.toInt).toNat) (lo := -1) (hi := 5) rfl rfl
              have j_78 := (PS_f (fun a i z => W_n W12 (tg_300 a i z) rfl) g9)
              refine C_217 hX (dp1 hd (by decide)) hG14 (by omega) (by omega) rfl rfl (by omega) (by omega) (by omega) (by omega) (by omega) j_78 (a := x2) (o := (M13.2.1 102 (x2.toInt).toNat)) (t := (M13.2.1 103 (x2.toInt).toNat)) (fun M82 hG80 F79 p_81 => ?_)
              have F83 := FR.c F15 F79 tg_292
              refine to_an (pc := 147) rw_218_147 rfl (s_gR (pc := 148) rw_218_148 hG80 rfl (v := 101) rfl (to_in (pc := 151) rw_218_151 rfl (s_ialk (pc := 152) rw_218_152 hG80 rfl (n := 40) rfl rfl (A := x2.toInt) rfl (by omega) (by omega) (v := v16) (F_n F79 (show ¬ (101 = 99 ∨ 101 = 100) by decide) w_17) (to_c (pc := 153) rw_218_153 (x := (2 : Int32)) rfl rfl (b_cge_f (pc := 154) rw_218_154 (A := v16.toInt) (B := 2) rfl rfl (by omega) (s_inc (pc := 157) rw_218_157 (ls2 := fun v => [.ref 77, .int x1, .int v]) rfl rfl (fun _ => rfl) (A := x2.toInt) (B := 1) rfl rfl (by omega) (fun v86 e87 => to_go (pc := 160) rw_218_160 ?_)))))))
              have c_88 : M82.2.1 77 44 = (N.2.1 77 44) := (F_n F79 (show ¬ (77 = 99 ∨ 77 = 100) by decide) c_18)
              have t_89 : (M82.2.1 77 44).toInt = (N.2.1 77 44).toInt := congrArg Int32.toInt c_88
              have s_90 : LSm M82 (x1.toInt).toNat = LSm N (x1.toInt).toNat := LSm_f _ (fun i z => (F_n F79 (show ¬ (111 = 99 ∨ 111 = 100) by decide) (W_n W12 (by omega) rfl)))
              have j_91 := (AB_f (tg_278 F79) j_21)
              have c_92 : M82.2.1 77 43 = v10 := (F_n F79 (show ¬ (77 = 99 ∨ 77 = 100) by decide) (W_e W12))
              have t_93 : (M82.2.1 77 43).toInt = v10.toInt := congrArg Int32.toInt c_92
              exact ih M82 x1 v86 hG80 F83 (by omega) (by omega) (by omega) (by omega) (by omega) (by rw [show v86.toInt = x2.toInt + 1 by omega]; exact (DK_f (fun r i z => (F_n F79 (show ¬ (r = 99 ∨ r = 100) by omega) (W_n W12 (by omega) rfl))) (DK_next g6 (Or.inl (by omega))))) (fun i z => by rw [(F_n F79 (show ¬ (111 = 99 ∨ 111 = 100) by decide) (W_n W12 (by omega) rfl))]; exact g7 i z) j_91 p_81 (by omega)
          · refine to_an (pc := 127) rw_218_127 rfl (to_in (pc := 128) rw_218_128 rfl (s_v (pc := 129) rw_218_129 (dp0 hd (by decide)) (ls0 := [.ref 77, .int x2, .null, .null, .null, .null, .null]) rfl (Nat.le_of_ble_eq_true rfl) (Nat.le_of_ble_eq_true rfl) rfl (to_rc rfl rfl rfl (g_o hG14 rfl)) rfl ?_))
            have s_94 := AB_u (A := x2.toInt) j_21 (by omega) (by omega) (by omega)
            have t_95 : (M13.2.1 101 (x2.toInt).toNat).toInt = (N.2.1 101 (x2.toInt).toNat).toInt := congrArg Int32.toInt (W_n W12 (by omega) rfl)
            have t_96 : (M13.2.1 102 (x2.toInt).toNat).toInt = (N.2.1 102 (x2.toInt).toNat).toInt := congrArg Int32.toInt (W_n W12 (by omega) rfl)
            have t_97 : (M13.2.1 103 (x2.toInt).toNat).toInt = (N.2.1 103 (x2.toInt).toNat).toInt := congrArg Int32.toInt (W_n W12 (by omega) rfl)
            have t_98 : (M13.2.1 104 (x2.toInt).toNat).toInt = (N.2.1 104 (x2.toInt).toNat).toInt := congrArg Int32.toInt (W_n W12 (by omega) rfl)
            have s_99 := g_b hG14 (a := 103) (i := (x2.toInt).toNat) (lo := -1) (hi := 5) rfl rfl
            have t_100 : (M13.2.1 102 (x2.toInt).toNat).toInt = (N.2.1 102 (x2.toInt).toNat).toInt := congrArg Int32.toInt (W_n W12 (by omega) rfl)
            have t_101 : (M13.2.1 102 (x2.toInt).toNat).toInt = (N.2.1 102 (x2.toInt).toNat).toInt := congrArg Int32.toInt (W_n W12 (by omega) rfl)
            have t_102 : (M13.2.1 103 (x2.toInt).toNat).toInt = (N.2.1 103 (x2.toInt).toNat).toInt := congrArg Int32.toInt (W_n W12 (by omega) rfl)
            have t_103 : (M13.2.1 104 (x2.toInt).toNat).toInt = (N.2.1 104 (x2.toInt).toNat).toInt := congrArg Int32.toInt (W_n W12 (by omega) rfl)
            have j_104 := (PS_f (fun a i z => W_n W12 (tg_300 a i z) rfl) g9)
            refine C_216 hX (dp1 hd (by decide)) hG14 (by omega) (by omega) (by omega) (by omega) (by omega) (by omega) j_104 (a := x2) (fun M108 hG106 F105 p_107 => ?_)
            have F109 := FR.c F15 F105 tg_293
            refine to_an (pc := 132) rw_218_132 rfl (s_gR (pc := 133) rw_218_133 hG106 rfl (v := 101) rfl (to_in (pc := 136) rw_218_136 rfl (s_ialk (pc := 137) rw_218_137 hG106 rfl (n := 40) rfl rfl (A := x2.toInt) rfl (by omega) (by omega) (v := v16) (F_n F105 (show ¬ (101 = 77 ∧ (x2.toInt).toNat = 42 ∨ 101 = 99 ∨ 101 = 100 ∨ 101 = 109) by omega) w_17) (to_c (pc := 138) rw_218_138 (x := (1 : Int32)) rfl rfl (b_cne_t (pc := 139) rw_218_139 (A := v16.toInt) (B := 1) rfl rfl (by omega) (to_an (pc := 147) rw_218_147 rfl (s_gR (pc := 148) rw_218_148 hG106 rfl (v := 101) rfl (to_in (pc := 151) rw_218_151 rfl (s_ialk (pc := 152) rw_218_152 hG106 rfl (n := 40) rfl rfl (A := x2.toInt) rfl (by omega) (by omega) (v := v16) (F_n F105 (show ¬ (101 = 77 ∧ (x2.toInt).toNat = 42 ∨ 101 = 99 ∨ 101 = 100 ∨ 101 = 109) by omega) w_17) (to_c (pc := 153) rw_218_153 (x := (2 : Int32)) rfl rfl (b_cge_f (pc := 154) rw_218_154 (A := v16.toInt) (B := 2) rfl rfl (by omega) ?_)))))))))))
            refine s_inc (pc := 157) rw_218_157 (ls2 := fun v => [.ref 77, .int x1, .int v]) rfl rfl (fun _ => rfl) (A := x2.toInt) (B := 1) rfl rfl (by omega) (fun v114 e115 => to_go (pc := 160) rw_218_160 ?_)
            have c_116 : M108.2.1 77 44 = (N.2.1 77 44) := (F_n F105 (show ¬ (77 = 77 ∧ 44 = 42 ∨ 77 = 99 ∨ 77 = 100 ∨ 77 = 109) by decide) c_18)
            have t_117 : (M108.2.1 77 44).toInt = (N.2.1 77 44).toInt := congrArg Int32.toInt c_116
            have s_118 : LSm M108 (x1.toInt).toNat = LSm N (x1.toInt).toNat := LSm_f _ (fun i z => (F_n F105 (show ¬ (111 = 77 ∧ i = 42 ∨ 111 = 99 ∨ 111 = 100 ∨ 111 = 109) by omega) (W_n W12 (by omega) rfl)))
            have j_119 := (AB_f (tg_279 F105) j_21)
            have c_120 : M108.2.1 77 43 = v10 := (F_n F105 (show ¬ (77 = 77 ∧ 43 = 42 ∨ 77 = 99 ∨ 77 = 100 ∨ 77 = 109) by decide) (W_e W12))
            have t_121 : (M108.2.1 77 43).toInt = v10.toInt := congrArg Int32.toInt c_120
            exact ih M108 x1 v114 hG106 F109 (by omega) (by omega) (by omega) (by omega) (by omega) (by rw [show v114.toInt = x2.toInt + 1 by omega]; exact (DK_f (fun r i z => (F_n F105 (show ¬ (r = 77 ∧ i = 42 ∨ r = 99 ∨ r = 100 ∨ r = 109) by omega) (W_n W12 (by omega) rfl))) (DK_next g6 (Or.inl (by omega))))) (fun i z => by rw [(F_n F105 (show ¬ (111 = 77 ∧ i = 42 ∨ 111 = 99 ∨ 111 = 100 ∨ 111 = 109) by omega) (W_n W12 (by omega) rfl))]; exact g7 i z) j_119 p_107 (by omega)
        · refine to_c (pc := 106) rw_218_106 (x := (1 : Int32)) rfl rfl (to_r0 (pc := 107) rw_218_107 ?_)
          have k_122 : (1 : Int32).toInt = 1 := rfl
          exact h (1 : Int32) N hG F0 g9
      · refine to_c (pc := 94) rw_218_94 (x := (0 : Int32)) rfl rfl (to_r0 (pc := 95) rw_218_95 ?_)
        have k_123 : (0 : Int32).toInt = 0 := rfl
        exact h (0 : Int32) N hG F0 g9
    · refine to_in (pc := 26) rw_218_26 rfl (to_an (pc := 27) rw_218_27 rfl (s_gR (pc := 28) rw_218_28 hG rfl (v := 105) rfl (to_an (pc := 31) rw_218_31 rfl (s_gR (pc := 32) rw_218_32 hG rfl (v := 110) rfl (to_in (pc := 35) rw_218_35 rfl (to_c (pc := 36) rw_218_36 (x := (1 : Int32)) rfl rfl (s_sub (pc := 37) rw_218_37 (A := x1.toInt) (B := 1) rfl rfl (by omega) (fun v124 e125 => s_ial (pc := 38) rw_218_38 hG rfl (n := 5) rfl rfl (A := v124.toInt) rfl (by omega) (by omega) (lo := 0) (hi := 39) rfl rfl (fun v126 w_127 _ _ => ?_)))))))))
      have s_128 : DK N x2.toInt ((v124.toInt).toNat + 1) := by rw [show (v124.toInt).toNat + 1 = (x1.toInt).toNat by omega]; exact g6
      have s_129 := DK_t s_128
      rw [w_127] at s_129
      refine s_ial (pc := 39) rw_218_39 hG rfl (n := 40) rfl rfl (A := v126.toInt) rfl (by omega) (by omega) (lo := 0) (hi := 40) rfl rfl (fun v130 w_131 _ _ => ?_)
      rw [w_131] at s_129
      refine b_cne (pc := 40) rw_218_40 (A := x2.toInt) (B := v130.toInt) rfl rfl (fun h132 => ?_) (fun h132 => ?_)
      · refine to_in (pc := 86) rw_218_86 rfl (to_an (pc := 87) rw_218_87 rfl (tt_gI (pc := 88) rw_218_88 (g_o hG rfl) (v := (N.2.1 77 44)) rfl (b_cne (pc := 91) rw_218_91 (A := x2.toInt) (B := (N.2.1 77 44).toInt) rfl rfl (fun h133 => ?_) (fun h133 => ?_))))
        · refine to_an (pc := 96) rw_218_96 rfl (tt_gI (pc := 97) rw_218_97 (g_o hG rfl) (v := (N.2.1 77 43)) rfl (to_c (pc := 100) rw_218_100 (x := (3000 : Int32)) rfl rfl (b_cne (pc := 103) rw_218_103 (A := (N.2.1 77 43).toInt) (B := 3000) rfl rfl (fun h134 => ?_) (fun h134 => ?_))))
          · refine to_an (pc := 108) rw_218_108 rfl (to_dupr (pc := 109) rw_218_109 (tt_gI (pc := 110) rw_218_110 (g_o hG rfl) (v := (N.2.1 77 43)) rfl (to_c (pc := 113) rw_218_113 (x := (1 : Int32)) rfl rfl (s_add (pc := 114) rw_218_114 (A := (N.2.1 77 43).toInt) (B := 1) rfl rfl (by omega) (fun v135 e136 => s_pI (pc := 115) rw_218_115 hG rfl (fun M138 W137 => ?_))))))
            have hG139 := g_w hG W137 (A := v135.toInt) rfl (lo := 0) (hi := 3000) rfl rfl (by omega) (by decide)
            have F140 := FR.w F0 W137 (show 77 = 77 ∧ (43 = 42 ∨ 43 = 43) ∨ 94 ≤ 77 ∧ 77 ≤ 98 ∨ 77 = 99 ∨ 77 = 100 ∨ 77 = 109 ∨ 77 = 110 ∨ 77 = 111 by decide)
            refine to_an (pc := 118) rw_218_118 rfl (s_gR (pc := 119) rw_218_119 hG139 rfl (v := 101) rfl (to_in (pc := 122) rw_218_122 rfl (s_ial (pc := 123) rw_218_123 hG139 rfl (n := 40) rfl rfl (A := x2.toInt) rfl (by omega) (by omega) (lo := 0) (hi := 2) rfl rfl (fun v141 w_142 _ _ => ?_))))
            have c_143 : M138.2.1 77 44 = (N.2.1 77 44) := (W_n W137 (by decide) rfl)
            have t_144 : (M138.2.1 77 44).toInt = (N.2.1 77 44).toInt := congrArg Int32.toInt c_143
            have j_146 := (AB_f (fun a i z => W_n W137 (by /-r77,43-/ omega) rfl) g8)
            have s_145 := AB_u (A := x2.toInt) j_146 (by omega) (by omega) (by omega)
            have t_147 := congrArg Int32.toInt w_142
            have t_148 : (M138.2.1 101 (x2.toInt).toNat).toInt = (N.2.1 101 (x2.toInt).toNat).toInt := congrArg Int32.toInt (W_n W137 (by omega) rfl)
            have t_149 : (M138.2.1 102 (x2.toInt).toNat).toInt = (N.2.1 102 (x2.toInt).toNat).toInt := congrArg Int32.toInt (W_n W137 (by omega) rfl)
            have t_150 : (M138.2.1 103 (x2.toInt).toNat).toInt = (N.2.1 103 (x2.toInt).toNat).toInt := congrArg Int32.toInt (W_n W137 (by omega) rfl)
            have t_151 : (M138.2.1 104 (x2.toInt).toNat).toInt = (N.2.1 104 (x2.toInt).toNat).toInt := congrArg Int32.toInt (W_n W137 (by omega) rfl)
            refine b_ine (pc := 124) rw_218_124 (A := v141.toInt) rfl (fun h152 => ?_) (fun h152 => ?_)
            · refine to_an (pc := 132) rw_218_132 rfl (s_gR (pc := 133) rw_218_133 hG139 rfl (v := 101) rfl (to_in (pc := 136) rw_218_136 rfl (s_ialk (pc := 137) rw_218_137 hG139 rfl (n := 40) rfl rfl (A := x2.toInt) rfl (by omega) (by omega) (v := v141) w_142 (to_c (pc := 138) rw_218_138 (x := (1 : Int32)) rfl rfl (b_cne (pc := 139) rw_218_139 (A := v141.toInt) (B := 1) rfl rfl (fun h155 => ?_) (fun h155 => ?_))))))
              · refine to_an (pc := 147) rw_218_147 rfl (s_gR (pc := 148) rw_218_148 hG139 rfl (v := 101) rfl (to_in (pc := 151) rw_218_151 rfl (s_ialk (pc := 152) rw_218_152 hG139 rfl (n := 40) rfl rfl (A := x2.toInt) rfl (by omega) (by omega) (v := v141) w_142 (to_c (pc := 153) rw_218_153 (x := (2 : Int32)) rfl rfl (b_cge_t (pc := 154) rw_218_154 (A := v141.toInt) (B := 2) rfl rfl (by omega) (to_an (pc := 163) rw_218_163 rfl (s_gR (pc := 164) rw_218_164 hG139 rfl (v := 102) rfl (to_in (pc := 167) rw_218_167 rfl (s_ial (pc := 168) rw_218_168 hG139 rfl (n := 40) rfl rfl (A := x2.toInt) rfl (by omega) (by omega) (lo := -1) (hi := 99) rfl rfl (fun v158 w_159 _ _ => ?_))))))))))
                have t_160 := congrArg Int32.toInt w_159
                have s_161 := DK_le g6 (by omega) (by omega) (by have z : N.2.1 101 (x2.toInt).toNat = v141 := (((W_n W137 (by omega) rfl)).symm.trans w_142); rw [z]; omega) (Or.inr (by rw [show (x1.toInt).toNat - 1 = (v124.toInt).toNat by omega, w_127, w_131]; omega))
                refine b_ine (pc := 169) rw_218_169 (A := v158.toInt) rfl (fun h162 => ?_) (fun h162 => ?_)
                · refine to_an (pc := 182) rw_218_182 rfl (s_gR (pc := 183) rw_218_183 hG139 rfl (v := 110) rfl (to_in (pc := 186) rw_218_186 rfl (to_in (pc := 187) rw_218_187 rfl (s_ias (pc := 188) rw_218_188 hG139 rfl (n := 5) rfl (A := x1.toInt) rfl (by omega) (by omega) (fun M164 W163 => ?_)))))
                  have hG165 := g_w hG139 W163 (A := x2.toInt) rfl (lo := 0) (hi := 39) rfl rfl (by omega) (by decide)
                  have F166 := FR.w F140 W163 (show 110 = 77 ∧ ((x1.toInt).toNat = 42 ∨ (x1.toInt).toNat = 43) ∨ 94 ≤ 110 ∧ 110 ≤ 98 ∨ 110 = 99 ∨ 110 = 100 ∨ 110 = 109 ∨ 110 = 110 ∨ 110 = 111 by omega)
                  refine to_an (pc := 189) rw_218_189 rfl (s_gR (pc := 190) rw_218_190 hG165 rfl (v := 111) rfl (to_in (pc := 193) rw_218_193 rfl (to_an (pc := 194) rw_218_194 rfl (s_gR (pc := 195) rw_218_195 hG165 rfl (v := 102) rfl (to_in (pc := 198) rw_218_198 rfl (s_ialk (pc := 199) rw_218_199 hG165 rfl (n := 40) rfl rfl (A := x2.toInt) rfl (by omega) (by omega) (v := v158) (W_n W163 (by omega) w_159) (s_ias (pc := 200) rw_218_200 hG165 rfl (n := 5) rfl (A := x1.toInt) rfl (by omega) (by omega) (fun M170 W169 => ?_))))))))
                  have hG171 := g_w hG165 W169 (A := v158.toInt) rfl (lo := 0) (hi := 99) rfl rfl (by omega) (by decide)
                  have F172 := FR.w F166 W169 (show 111 = 77 ∧ ((x1.toInt).toNat = 42 ∨ (x1.toInt).toNat = 43) ∨ 94 ≤ 111 ∧ 111 ≤ 98 ∨ 111 = 99 ∨ 111 = 100 ∨ 111 = 109 ∨ 111 = 110 ∨ 111 = 111 by omega)
                  refine s_inc (pc := 201) rw_218_201 (ls2 := fun v => [.ref 77, .int v, .int x2]) rfl rfl (fun _ => rfl) (A := x1.toInt) (B := 1) rfl rfl (by omega) (fun v173 e174 => s_inc (pc := 204) rw_218_204 (ls2 := fun v => [.ref 77, .int v173, .int v]) rfl rfl (fun _ => rfl) (A := x2.toInt) (B := 1) rfl rfl (by omega) (fun v175 e176 => to_go (pc := 207) rw_218_207 ?_))
                  have c_177 : M170.2.1 77 44 = (N.2.1 77 44) := (W_n W169 (fun z => absurd z.1 (by decide)) (W_n W163 (fun z => absurd z.1 (by decide)) c_143))
                  have t_178 : (M170.2.1 77 44).toInt = (N.2.1 77 44).toInt := congrArg Int32.toInt c_177
                  have s_179 : LSm M170 (v173.toInt).toNat = LSm M170 ((x1.toInt).toNat + 1) := by rw [show (v173.toInt).toNat = (x1.toInt).toNat + 1 by omega]
                  have s_180 := LSm_s (M := M170) (x1.toInt).toNat
                  have s_181 : LSm M170 (x1.toInt).toNat = LSm N (x1.toInt).toNat := LSm_f _ (fun i z => (W_n W169 (by omega) (W_n W163 (by omega) (W_n W137 (by omega) rfl))))
                  have s_182 : (M170.2.1 111 (x1.toInt).toNat).toInt = v158.toInt := by rw [show (x1.toInt).toNat = (x1.toInt).toNat by omega]; exact congrArg Int32.toInt (W_e W169)
                  have j_183 := (AB_f (fun a i z => W_n W169 (by /-r111-/ omega) rfl) (AB_f (fun a i z => W_n W163 (by /-r110-/ omega) rfl) j_146))
                  have j_184 := (PS_f (fun a i z => W_n W169 (tg_298 a i _ z) rfl) (PS_f (fun a i z => W_n W163 (tg_299 a i _ z) rfl) (PS_f (fun a i z => W_n W137 (tg_300 a i z) rfl) g9)))
                  have c_185 : M170.2.1 77 43 = v135 := (W_n W169 (fun z => absurd z.1 (by decide)) (W_n W163 (fun z => absurd z.1 (by decide)) (W_e W137)))
                  have t_186 : (M170.2.1 77 43).toInt = v135.toInt := congrArg Int32.toInt c_185
                  exact ih M170 v173 v175 hG171 F172 (by omega) (by omega) (by omega) (by omega) (by omega) (by rw [show (v173.toInt).toNat = (x1.toInt).toNat + 1 by omega, show v175.toInt = x2.toInt + 1 by omega]; exact DK_push g6 (by omega) (by omega) (by have z : N.2.1 101 (x2.toInt).toNat = v141 := (((W_n W137 (by omega) rfl)).symm.trans w_142); rw [z]; omega) (Or.inr (by rw [show (x1.toInt).toNat - 1 = (v124.toInt).toNat by omega, w_127, w_131]; omega)) (fun r i z => (W_n W169 (by omega) (W_n W163 (by omega) (W_n W137 (by omega) rfl)))) (by rw [(W_n W169 (by omega) (W_e W163))] <;> omega)) (fun i z => by
                      by_cases ei : i = (x1.toInt).toNat
                      · rw [ei]; omega
                      · rw [(W_n W169 (by omega) (W_n W163 (by omega) (W_n W137 (by omega) rfl)))]; exact g7 i (by omega)) j_183 j_184 (by omega)
                · refine to_an (pc := 172) rw_218_172 rfl (s_gR (pc := 173) rw_218_173 hG139 rfl (v := 105) rfl (to_in (pc := 176) rw_218_176 rfl (s_ial (pc := 177) rw_218_177 hG139 rfl (n := 40) rfl rfl (A := x2.toInt) rfl (by omega) (by omega) (lo := 0) (hi := 40) rfl rfl (fun v187 w_188 _ _ => ?_))))
                  have t_189 := congrArg Int32.toInt w_188
                  have s_190 := DK_skip g6 (by omega) (by omega) (by have z : N.2.1 101 (x2.toInt).toNat = v141 := (((W_n W137 (by omega) rfl)).symm.trans w_142); rw [z]; omega) (Or.inr (by rw [show (x1.toInt).toNat - 1 = (v124.toInt).toNat by omega, w_127, w_131]; omega))
                  have s_191 := s_190.2
                  rw [(((W_n W137 (by omega) rfl)).symm.trans w_188)] at s_191
                  refine to_isn (pc := 178) rw_218_178 (ls2 := [.ref 77, .int x1, .int v187]) rfl rfl (to_go (pc := 179) rw_218_179 ?_)
                  have s_193 : LSm M138 (x1.toInt).toNat = LSm N (x1.toInt).toNat := LSm_f _ (fun i z => (W_n W137 (by omega) rfl))
                  have j_194 := (PS_f (fun a i z => W_n W137 (tg_300 a i z) rfl) g9)
                  have c_195 : M138.2.1 77 43 = v135 := (W_e W137)
                  have t_196 : (M138.2.1 77 43).toInt = v135.toInt := congrArg Int32.toInt c_195
                  exact ih M138 x1 v187 hG139 F140 (by omega) (by omega) (by omega) (by omega) (by omega) (DK_f (fun r i z => (W_n W137 (by omega) rfl)) (by have z := (s_190).1; rw [(((W_n W137 (by omega) rfl)).symm.trans w_188)] at z; exact z)) (fun i z => by rw [(W_n W137 (by omega) rfl)]; exact g7 i z) j_146 j_194 (by omega)
              · refine to_an (pc := 142) rw_218_142 rfl (to_in (pc := 143) rw_218_143 rfl (s_v (pc := 144) rw_218_144 (dp0 hd (by decide)) (ls0 := [.ref 77, .int x2, .null, .null]) rfl (Nat.le_of_ble_eq_true rfl) (Nat.le_of_ble_eq_true rfl) rfl (to_rc rfl rfl rfl (g_o hG139 rfl)) rfl ?_))
                have s_197 := AB_u (A := x2.toInt) j_146 (by omega) (by omega) (by omega)
                have t_198 : (M138.2.1 101 (x2.toInt).toNat).toInt = (N.2.1 101 (x2.toInt).toNat).toInt := congrArg Int32.toInt (W_n W137 (by omega) rfl)
                have t_199 : (M138.2.1 102 (x2.toInt).toNat).toInt = (N.2.1 102 (x2.toInt).toNat).toInt := congrArg Int32.toInt (W_n W137 (by omega) rfl)
                have t_200 : (M138.2.1 103 (x2.toInt).toNat).toInt = (N.2.1 103 (x2.toInt).toNat).toInt := congrArg Int32.toInt (W_n W137 (by omega) rfl)
                have t_201 : (M138.2.1 104 (x2.toInt).toNat).toInt = (N.2.1 104 (x2.toInt).toNat).toInt := congrArg Int32.toInt (W_n W137 (by omega) rfl)
                have s_202 := g_b hG139 (a := 103) (i := (x2.toInt).toNat) (lo := -1) (hi := 5) rfl rfl
                have j_203 := (PS_f (fun a i z => W_n W137 (tg_300 a i z) rfl) g9)
                refine C_217 hX (dp1 hd (by decide)) hG139 (by omega) (by omega) rfl rfl (by omega) (by omega) (by omega) (by omega) (by omega) j_203 (a := x2) (o := (M138.2.1 102 (x2.toInt).toNat)) (t := (M138.2.1 103 (x2.toInt).toNat)) (fun M207 hG205 F204 p_206 => ?_)
                have F208 := FR.c F140 F204 tg_292
                refine to_an (pc := 147) rw_218_147 rfl (s_gR (pc := 148) rw_218_148 hG205 rfl (v := 101) rfl (to_in (pc := 151) rw_218_151 rfl (s_ialk (pc := 152) rw_218_152 hG205 rfl (n := 40) rfl rfl (A := x2.toInt) rfl (by omega) (by omega) (v := v141) (F_n F204 (show ¬ (101 = 99 ∨ 101 = 100) by decide) w_142) (to_c (pc := 153) rw_218_153 (x := (2 : Int32)) rfl rfl (b_cge_f (pc := 154) rw_218_154 (A := v141.toInt) (B := 2) rfl rfl (by omega) (s_inc (pc := 157) rw_218_157 (ls2 := fun v => [.ref 77, .int x1, .int v]) rfl rfl (fun _ => rfl) (A := x2.toInt) (B := 1) rfl rfl (by omega) (fun v211 e212 => to_go (pc := 160) rw_218_160 ?_)))))))
                have c_213 : M207.2.1 77 44 = (N.2.1 77 44) := (F_n F204 (show ¬ (77 = 99 ∨ 77 = 100) by decide) c_143)
                have t_214 : (M207.2.1 77 44).toInt = (N.2.1 77 44).toInt := congrArg Int32.toInt c_213
                have s_215 : LSm M207 (x1.toInt).toNat = LSm N (x1.toInt).toNat := LSm_f _ (fun i z => (F_n F204 (show ¬ (111 = 99 ∨ 111 = 100) by decide) (W_n W137 (by omega) rfl)))
                have j_216 := (AB_f (tg_278 F204) j_146)
                have c_217 : M207.2.1 77 43 = v135 := (F_n F204 (show ¬ (77 = 99 ∨ 77 = 100) by decide) (W_e W137))
                have t_218 : (M207.2.1 77 43).toInt = v135.toInt := congrArg Int32.toInt c_217
                exact ih M207 x1 v211 hG205 F208 (by omega) (by omega) (by omega) (by omega) (by omega) (by rw [show v211.toInt = x2.toInt + 1 by omega]; exact (DK_f (fun r i z => (F_n F204 (show ¬ (r = 99 ∨ r = 100) by omega) (W_n W137 (by omega) rfl))) (DK_next g6 (Or.inr (by rw [show (x1.toInt).toNat - 1 = (v124.toInt).toNat by omega, w_127, w_131]; omega))))) (fun i z => by rw [(F_n F204 (show ¬ (111 = 99 ∨ 111 = 100) by decide) (W_n W137 (by omega) rfl))]; exact g7 i z) j_216 p_206 (by omega)
            · refine to_an (pc := 127) rw_218_127 rfl (to_in (pc := 128) rw_218_128 rfl (s_v (pc := 129) rw_218_129 (dp0 hd (by decide)) (ls0 := [.ref 77, .int x2, .null, .null, .null, .null, .null]) rfl (Nat.le_of_ble_eq_true rfl) (Nat.le_of_ble_eq_true rfl) rfl (to_rc rfl rfl rfl (g_o hG139 rfl)) rfl ?_))
              have s_219 := AB_u (A := x2.toInt) j_146 (by omega) (by omega) (by omega)
              have t_220 : (M138.2.1 101 (x2.toInt).toNat).toInt = (N.2.1 101 (x2.toInt).toNat).toInt := congrArg Int32.toInt (W_n W137 (by omega) rfl)
              have t_221 : (M138.2.1 102 (x2.toInt).toNat).toInt = (N.2.1 102 (x2.toInt).toNat).toInt := congrArg Int32.toInt (W_n W137 (by omega) rfl)
              have t_222 : (M138.2.1 103 (x2.toInt).toNat).toInt = (N.2.1 103 (x2.toInt).toNat).toInt := congrArg Int32.toInt (W_n W137 (by omega) rfl)
              have t_223 : (M138.2.1 104 (x2.toInt).toNat).toInt = (N.2.1 104 (x2.toInt).toNat).toInt := congrArg Int32.toInt (W_n W137 (by omega) rfl)
              have s_224 := g_b hG139 (a := 103) (i := (x2.toInt).toNat) (lo := -1) (hi := 5) rfl rfl
              have t_225 : (M138.2.1 102 (x2.toInt).toNat).toInt = (N.2.1 102 (x2.toInt).toNat).toInt := congrArg Int32.toInt (W_n W137 (by omega) rfl)
              have t_226 : (M138.2.1 102 (x2.toInt).toNat).toInt = (N.2.1 102 (x2.toInt).toNat).toInt := congrArg Int32.toInt (W_n W137 (by omega) rfl)
              have t_227 : (M138.2.1 103 (x2.toInt).toNat).toInt = (N.2.1 103 (x2.toInt).toNat).toInt := congrArg Int32.toInt (W_n W137 (by omega) rfl)
              have t_228 : (M138.2.1 104 (x2.toInt).toNat).toInt = (N.2.1 104 (x2.toInt).toNat).toInt := congrArg Int32.toInt (W_n W137 (by omega) rfl)
              have j_229 := (PS_f (fun a i z => W_n W137 (tg_300 a i z) rfl) g9)
              refine C_216 hX (dp1 hd (by decide)) hG139 (by omega) (by omega) (by omega) (by omega) (by omega) (by omega) j_229 (a := x2) (fun M233 hG231 F230 p_232 => ?_)
              have F234 := FR.c F140 F230 tg_293
              refine to_an (pc := 132) rw_218_132 rfl (s_gR (pc := 133) rw_218_133 hG231 rfl (v := 101) rfl (to_in (pc := 136) rw_218_136 rfl (s_ialk (pc := 137) rw_218_137 hG231 rfl (n := 40) rfl rfl (A := x2.toInt) rfl (by omega) (by omega) (v := v141) (F_n F230 (show ¬ (101 = 77 ∧ (x2.toInt).toNat = 42 ∨ 101 = 99 ∨ 101 = 100 ∨ 101 = 109) by omega) w_142) (to_c (pc := 138) rw_218_138 (x := (1 : Int32)) rfl rfl (b_cne_t (pc := 139) rw_218_139 (A := v141.toInt) (B := 1) rfl rfl (by omega) (to_an (pc := 147) rw_218_147 rfl (s_gR (pc := 148) rw_218_148 hG231 rfl (v := 101) rfl (to_in (pc := 151) rw_218_151 rfl (s_ialk (pc := 152) rw_218_152 hG231 rfl (n := 40) rfl rfl (A := x2.toInt) rfl (by omega) (by omega) (v := v141) (F_n F230 (show ¬ (101 = 77 ∧ (x2.toInt).toNat = 42 ∨ 101 = 99 ∨ 101 = 100 ∨ 101 = 109) by omega) w_142) (to_c (pc := 153) rw_218_153 (x := (2 : Int32)) rfl rfl (b_cge_f (pc := 154) rw_218_154 (A := v141.toInt) (B := 2) rfl rfl (by omega) ?_)))))))))))
              refine s_inc (pc := 157) rw_218_157 (ls2 := fun v => [.ref 77, .int x1, .int v]) rfl rfl (fun _ => rfl) (A := x2.toInt) (B := 1) rfl rfl (by omega) (fun v239 e240 => to_go (pc := 160) rw_218_160 ?_)
              have c_241 : M233.2.1 77 44 = (N.2.1 77 44) := (F_n F230 (show ¬ (77 = 77 ∧ 44 = 42 ∨ 77 = 99 ∨ 77 = 100 ∨ 77 = 109) by decide) c_143)
              have t_242 : (M233.2.1 77 44).toInt = (N.2.1 77 44).toInt := congrArg Int32.toInt c_241
              have s_243 : LSm M233 (x1.toInt).toNat = LSm N (x1.toInt).toNat := LSm_f _ (fun i z => (F_n F230 (show ¬ (111 = 77 ∧ i = 42 ∨ 111 = 99 ∨ 111 = 100 ∨ 111 = 109) by omega) (W_n W137 (by omega) rfl)))
              have j_244 := (AB_f (tg_279 F230) j_146)
              have c_245 : M233.2.1 77 43 = v135 := (F_n F230 (show ¬ (77 = 77 ∧ 43 = 42 ∨ 77 = 99 ∨ 77 = 100 ∨ 77 = 109) by decide) (W_e W137))
              have t_246 : (M233.2.1 77 43).toInt = v135.toInt := congrArg Int32.toInt c_245
              exact ih M233 x1 v239 hG231 F234 (by omega) (by omega) (by omega) (by omega) (by omega) (by rw [show v239.toInt = x2.toInt + 1 by omega]; exact (DK_f (fun r i z => (F_n F230 (show ¬ (r = 77 ∧ i = 42 ∨ r = 99 ∨ r = 100 ∨ r = 109) by omega) (W_n W137 (by omega) rfl))) (DK_next g6 (Or.inr (by rw [show (x1.toInt).toNat - 1 = (v124.toInt).toNat by omega, w_127, w_131]; omega))))) (fun i z => by rw [(F_n F230 (show ¬ (111 = 77 ∧ i = 42 ∨ 111 = 99 ∨ 111 = 100 ∨ 111 = 109) by omega) (W_n W137 (by omega) rfl))]; exact g7 i z) j_244 p_232 (by omega)
          · refine to_c (pc := 106) rw_218_106 (x := (1 : Int32)) rfl rfl (to_r0 (pc := 107) rw_218_107 ?_)
            have k_247 : (1 : Int32).toInt = 1 := rfl
            exact h (1 : Int32) N hG F0 g9
        · refine to_c (pc := 94) rw_218_94 (x := (0 : Int32)) rfl rfl (to_r0 (pc := 95) rw_218_95 ?_)
          have k_248 : (0 : Int32).toInt = 0 := rfl
          exact h (0 : Int32) N hG F0 g9
      · refine to_an (pc := 43) rw_218_43 rfl (s_gR (pc := 44) rw_218_44 hG rfl (v := 111) rfl (to_in (pc := 47) rw_218_47 rfl (to_c (pc := 48) rw_218_48 (x := (1 : Int32)) rfl rfl (s_subk (pc := 49) rw_218_49 (A := x1.toInt) (B := 1) rfl rfl (by omega) (v := v124) e125 (to_dup2 (pc := 50) rw_218_50 (s_ial (pc := 51) rw_218_51 hG rfl (n := 5) rfl rfl (A := v124.toInt) rfl (by omega) (by omega) (lo := 0) (hi := 99) rfl rfl (fun v251 w_252 _ _ => ?_)))))))
        have t_253 := congrArg Int32.toInt w_252
        have s_254 := g7 (v124.toInt).toNat (by omega)
        rw [w_252] at s_254
        refine to_c (pc := 52) rw_218_52 (x := (1 : Int32)) rfl rfl (s_sub (pc := 53) rw_218_53 (A := v251.toInt) (B := 1) rfl rfl (by omega) (fun v255 e256 => s_ias (pc := 54) rw_218_54 hG rfl (n := 5) rfl (A := v124.toInt) rfl (by omega) (by omega) (fun M258 W257 => ?_)))
        have hG259 := g_w hG W257 (A := v255.toInt) rfl (lo := 0) (hi := 99) rfl rfl (by omega) (by decide)
        have F260 := FR.w F0 W257 (show 111 = 77 ∧ ((v124.toInt).toNat = 42 ∨ (v124.toInt).toNat = 43) ∨ 94 ≤ 111 ∧ 111 ≤ 98 ∨ 111 = 99 ∨ 111 = 100 ∨ 111 = 109 ∨ 111 = 110 ∨ 111 = 111 by omega)
        refine to_an (pc := 55) rw_218_55 rfl (s_gR (pc := 56) rw_218_56 hG259 rfl (v := 111) rfl (to_in (pc := 59) rw_218_59 rfl (to_c (pc := 60) rw_218_60 (x := (1 : Int32)) rfl rfl (s_subk (pc := 61) rw_218_61 (A := x1.toInt) (B := 1) rfl rfl (by omega) (v := v124) e125 (s_ialk (pc := 62) rw_218_62 hG259 rfl (n := 5) rfl rfl (A := v124.toInt) rfl (by omega) (by omega) (v := v255) (W_e W257) (b_ile (pc := 63) rw_218_63 (A := v255.toInt) rfl (fun h265 => ?_) (fun h265 => ?_)))))))
        · refine s_inc (pc := 80) rw_218_80 (ls2 := fun v => [.ref 77, .int v, .int x2]) rfl rfl (fun _ => rfl) (A := x1.toInt) (B := -1) rfl rfl (by omega) (fun v266 e267 => to_go (pc := 83) rw_218_83 ?_)
          have c_268 : M258.2.1 77 44 = (N.2.1 77 44) := (W_n W257 (fun z => absurd z.1 (by decide)) rfl)
          have t_269 : (M258.2.1 77 44).toInt = (N.2.1 77 44).toInt := congrArg Int32.toInt c_268
          have s_270 : LSm N (x1.toInt).toNat = LSm N ((v124.toInt).toNat + 1) := by rw [show (x1.toInt).toNat = (v124.toInt).toNat + 1 by omega]
          have s_271 := LSm_s (M := N) (v124.toInt).toNat
          have s_272 : LSm M258 (v124.toInt).toNat = LSm N (v124.toInt).toNat := LSm_f _ (fun i z => (W_n W257 (by omega) rfl))
          have s_273 := g_b hG (a := 111) (i := (v124.toInt).toNat) (lo := 0) (hi := 99) rfl rfl
          have s_274 : LSm M258 (v266.toInt).toNat = LSm M258 (v124.toInt).toNat := by rw [show (v266.toInt).toNat = (v124.toInt).toNat by omega]
          have j_275 := (AB_f (fun a i z => W_n W257 (by /-r111-/ omega) rfl) g8)
          have j_276 := (PS_f (fun a i z => W_n W257 (tg_298 a i _ z) rfl) g9)
          have c_277 : M258.2.1 77 43 = (N.2.1 77 43) := (W_n W257 (fun z => absurd z.1 (by decide)) rfl)
          have t_278 : (M258.2.1 77 43).toInt = (N.2.1 77 43).toInt := congrArg Int32.toInt c_277
          exact ih M258 v266 x2 hG259 F260 (by omega) (by omega) (by omega) (by omega) (by omega) (by rw [show (v266.toInt).toNat = (v124.toInt).toNat by omega]; exact (DK_f (fun r i z => (W_n W257 (by omega) rfl)) (DK_pop s_128))) (fun i z => by rw [(W_n W257 (by omega) rfl)]; exact g7 i (by omega)) j_275 j_276 (by omega)
        · refine to_an (pc := 66) rw_218_66 rfl (s_gR (pc := 67) rw_218_67 hG259 rfl (v := 110) rfl (to_in (pc := 70) rw_218_70 rfl (to_c (pc := 71) rw_218_71 (x := (1 : Int32)) rfl rfl (s_subk (pc := 72) rw_218_72 (A := x1.toInt) (B := 1) rfl rfl (by omega) (v := v124) e125 (s_ialk (pc := 73) rw_218_73 hG259 rfl (n := 5) rfl rfl (A := v124.toInt) rfl (by omega) (by omega) (v := v126) (W_n W257 (by omega) w_127) (to_c (pc := 74) rw_218_74 (x := (1 : Int32)) rfl rfl (s_add (pc := 75) rw_218_75 (A := v126.toInt) (B := 1) rfl rfl (by omega) (fun v283 e284 => to_isn (pc := 76) rw_218_76 (ls2 := [.ref 77, .int x1, .int v283]) rfl rfl (to_go (pc := 77) rw_218_77 ?_)))))))))
          have c_285 : M258.2.1 77 44 = (N.2.1 77 44) := (W_n W257 (fun z => absurd z.1 (by decide)) rfl)
          have t_286 : (M258.2.1 77 44).toInt = (N.2.1 77 44).toInt := congrArg Int32.toInt c_285
          have s_287 : LSm N (x1.toInt).toNat = LSm N ((v124.toInt).toNat + 1) := by rw [show (x1.toInt).toNat = (v124.toInt).toNat + 1 by omega]
          have s_288 := LSm_s (M := N) (v124.toInt).toNat
          have s_289 : LSm M258 (v124.toInt).toNat = LSm N (v124.toInt).toNat := LSm_f _ (fun i z => (W_n W257 (by omega) rfl))
          have s_290 := g_b hG (a := 111) (i := (v124.toInt).toNat) (lo := 0) (hi := 99) rfl rfl
          have s_291 : LSm M258 (x1.toInt).toNat = LSm M258 ((v124.toInt).toNat + 1) := by rw [show (x1.toInt).toNat = (v124.toInt).toNat + 1 by omega]
          have s_292 := LSm_s (M := M258) (v124.toInt).toNat
          have s_293 : (M258.2.1 111 (v124.toInt).toNat).toInt = v255.toInt := by rw [show (v124.toInt).toNat = (v124.toInt).toNat by omega]; exact congrArg Int32.toInt (W_e W257)
          have j_294 := (AB_f (fun a i z => W_n W257 (by /-r111-/ omega) rfl) g8)
          have j_295 := (PS_f (fun a i z => W_n W257 (tg_298 a i _ z) rfl) g9)
          have c_296 : M258.2.1 77 43 = (N.2.1 77 43) := (W_n W257 (fun z => absurd z.1 (by decide)) rfl)
          have t_297 : (M258.2.1 77 43).toInt = (N.2.1 77 43).toInt := congrArg Int32.toInt c_296
          exact ih M258 x1 v283 hG259 F260 (by omega) (by omega) (by omega) (by omega) (by omega) (by rw [show (x1.toInt).toNat = (v124.toInt).toNat + 1 by omega]; exact (DK_f (fun r i z => (W_n W257 (by omega) rfl)) (DK_dec s_128 (by rw [w_127]; omega)))) (fun i z => by
              by_cases ei : i = (v124.toInt).toNat
              · rw [ei]; omega
              · rw [(W_n W257 (by omega) rfl)]; exact g7 i (by omega)) j_294 j_295 (by omega)
set_option maxRecDepth 4000 in
set_option maxHeartbeats 0 in
theorem C_218 {X : mm_X} {d : Nat} {M : mm_M} {Q : Option Value → mm_M → Prop} (hX : g_X X) (hd : 3 ≤ d) (hG : g_G M) (q1 : NJ M) (q2 : PS M) (q3 : AB M) (q4 : ST M) (q5 : (M.2.1 77 52).toInt ≤ 0) (h : ∀ (r : Int32) (M1 : mm_M), g_G M1 → FR md_do M M1 → PS M1 → Q (some (.int r)) M1) : mm_T X d 217 0 [.ref 77, .null, .null] [] M Q := by
  have F0 : FR md_do M M := FR.rf
  have b_298 := g_b hG (a := 77) (i := 52) (lo := 0) (hi := 5) rfl rfl
  refine to_an (pc := 0) rw_218_0 rfl (to_an (pc := 1) rw_218_1 rfl ?_)
  have b_299 := g_b hG (a := 77) (i := 29) (lo := 0) (hi := 150) rfl rfl
  refine tt_gI (pc := 2) rw_218_2 (g_o hG rfl) (v := (M.2.1 77 29)) rfl (s_v (pc := 5) rw_218_5 (dp0 hd (by decide)) (ls0 := [.ref 77, .int (M.2.1 77 29), .null, .null]) rfl (Nat.le_of_ble_eq_true rfl) (Nat.le_of_ble_eq_true rfl) rfl (to_rc rfl rfl rfl (g_o hG rfl)) rfl (C_189 hX (dp1 hd (by decide)) hG (by omega) (by omega) (by omega) q1 (n := (M.2.1 77 29)) (fun M302 hG301 F300 => ?_)))
  have F303 := FR.c F0 F300 tg_294
  refine to_an (pc := 8) rw_218_8 rfl (to_c (pc := 9) rw_218_9 (x := (0 : Int32)) rfl rfl (s_pI (pc := 10) rw_218_10 hG301 rfl (fun M305 W304 => ?_)))
  have hG306 := g_wf hG301 W304 rfl rfl (by decide)
  have F307 := FR.w F303 W304 (show 77 = 77 ∧ (42 = 42 ∨ 42 = 43) ∨ 94 ≤ 77 ∧ 77 ≤ 98 ∨ 77 = 99 ∨ 77 = 100 ∨ 77 = 109 ∨ 77 = 110 ∨ 77 = 111 by decide)
  refine to_an (pc := 13) rw_218_13 rfl (to_c (pc := 14) rw_218_14 (x := (0 : Int32)) rfl rfl (s_pI (pc := 15) rw_218_15 hG306 rfl (fun M309 W308 => ?_)))
  have hG310 := g_w hG306 W308 (A := 0) rfl (lo := 0) (hi := 3000) rfl rfl (by omega) (by decide)
  have F311 := FR.w F307 W308 (show 77 = 77 ∧ (43 = 42 ∨ 43 = 43) ∨ 94 ≤ 77 ∧ 77 ≤ 98 ∨ 77 = 99 ∨ 77 = 100 ∨ 77 = 109 ∨ 77 = 110 ∨ 77 = 111 by decide)
  refine to_c (pc := 18) rw_218_18 (x := (0 : Int32)) rfl rfl (to_isn (pc := 19) rw_218_19 (ls2 := [.ref 77, .int (0 : Int32), .null]) rfl rfl (to_c (pc := 20) rw_218_20 (x := (0 : Int32)) rfl rfl (to_isn (pc := 21) rw_218_21 (ls2 := [.ref 77, .int (0 : Int32), .int (0 : Int32)]) rfl rfl ?_)))
  have k_312 : (0 : Int32).toInt = 0 := rfl
  have c_313 : M309.2.1 77 44 = (M.2.1 77 44) := (W_n W308 (by decide) (W_n W304 (by decide) (F_n F300 (show ¬ (94 ≤ 77 ∧ 77 ≤ 98) by decide) rfl)))
  have b_314 := g_b hG (a := 77) (i := 44) (lo := 0) (hi := 40) rfl rfl
  have t_315 : (M309.2.1 77 44).toInt = (M.2.1 77 44).toInt := congrArg Int32.toInt c_313
  have c_316 : M309.2.1 77 52 = (M.2.1 77 52) := (W_n W308 (by decide) (W_n W304 (by decide) (F_n F300 (show ¬ (94 ≤ 77 ∧ 77 ≤ 98) by decide) rfl)))
  have t_317 : (M309.2.1 77 52).toInt = (M.2.1 77 52).toInt := congrArg Int32.toInt c_316
  have j_318 := (ST_f (fun a i z => W_n W308 (by /-r77,43-/ omega) rfl) (ST_f (fun a i z => W_n W304 (by /-r77,42-/ omega) rfl) (ST_f (tg_280 F300) q4)))
  have s_319 : LSm M309 ((0 : Int32).toInt).toNat = 0 := rfl
  have j_320 := (AB_f (fun a i z => W_n W308 (by /-r77,43-/ omega) rfl) (AB_f (fun a i z => W_n W304 (by /-r77,42-/ omega) rfl) (AB_f (tg_281 F300) q3)))
  have j_321 := (PS_f (fun a i z => W_n W308 (tg_300 a i z) rfl) (PS_f (fun a i z => W_n W304 (tg_301 a i z) rfl) (PS_f (tg_282 F300) q2)))
  have c_322 : M309.2.1 77 43 = (0 : Int32) := (W_e W308)
  have t_323 : (M309.2.1 77 43).toInt = (0 : Int32).toInt := congrArg Int32.toInt c_322
  exact (T_218_0 hX hd q1 q2 q3 q4 q5 h (((3000 - (M309.2.1 77 43).toInt) * 1000 + LSm M309 ((0 : Int32).toInt).toNat).toNat + 1)) M309 (0 : Int32) (0 : Int32) hG310 F311 (by omega) (by omega) (by omega) (by omega) (by omega) (DK_0 j_318 (by omega)) (fun i z => absurd z (by omega)) j_320 j_321 (by omega)
set_option maxRecDepth 4000 in
set_option maxHeartbeats 0 in
theorem T_219_0 {X : mm_X} {d : Nat} {M : mm_M} {Q : Option Value → mm_M → Prop} {n : Int32} (hX : g_X X) (hd : 5 ≤ d) (q1 : (M.2.1 77 7).toInt ≤ (M.2.1 77 6).toInt) (q2 : FA M) (q3 : WC M) (q4 : NJ M) (q5 : PS M) (q6 : KQ M) (h : ∀ (r : Int32) (M1 : mm_M), g_G M1 → FR md_wk M M1 → ((M1.2.1 77 7).toInt ≤ (M1.2.1 77 6).toInt) → FA M1 → WC M1 → NJ M1 → PS M1 → KQ M1 → (n.toInt < 0 ∨ (M.2.1 77 1).toInt < n.toInt → (M1.2.1 77 1).toInt = (M.2.1 77 1).toInt) → (0 ≤ n.toInt ∧ n.toInt ≤ (M.2.1 77 1).toInt → (M1.2.1 77 1).toInt = 0) → Q (some (.int r)) M1) : ∀ nn9 : Nat, (∀ (N : mm_M) (u1 : Value), g_G N → FR md_wk M N → ((N.2.1 77 7).toInt ≤ (N.2.1 77 6).toInt) → (FA N) → (WC N) → (NJ N) → (PS N) → (KQ N) → (AB N) → (ST N) → ((N.2.1 77 1).toInt = 0) → (0 ≤ n.toInt) → (n.toInt ≤ (M.2.1 77 1).toInt) → 6 * (500 - (N.2.1 77 7).toInt) + (N.2.1 77 8).toInt < (nn9 : Int) → mm_T X d 218 26 [.ref 77, u1] [] N Q) := by
  intro nn9
  induction nn9 with
  | zero =>
    intro N u1 hG F0 g1 g2 g3 g4 g5 g6 g7 g8 g9 g10 g11 hm
    have b_1 := g_b hG (a := 77) (i := 7) (lo := 0) (hi := 500) rfl rfl
    have b_2 := g_b hG (a := 77) (i := 8) (lo := 0) (hi := 5) rfl rfl
    have b_3 := g_b hG (a := 77) (i := 6) (lo := 0) (hi := 500) rfl rfl
    have b_4 := g_b hG (a := 77) (i := 1) (lo := 0) (hi := 500) rfl rfl
    exfalso; omega
  | succ nn9 ih =>
    intro N u1 hG F0 g1 g2 g3 g4 g5 g6 g7 g8 g9 g10 g11 hm
    have b_5 := g_b hG (a := 77) (i := 7) (lo := 0) (hi := 500) rfl rfl
    have b_6 := g_b hG (a := 77) (i := 8) (lo := 0) (hi := 5) rfl rfl
    have b_7 := g_b hG (a := 77) (i := 6) (lo := 0) (hi := 500) rfl rfl
    have b_8 := g_b hG (a := 77) (i := 1) (lo := 0) (hi := 500) rfl rfl
    refine to_an (pc := 26) rw_219_26 rfl (tt_gI (pc := 27) rw_219_27 (g_o hG rfl) (v := (N.2.1 77 8)) rfl (b_ine (pc := 30) rw_219_30 (A := (N.2.1 77 8).toInt) rfl (fun h9 => ?_) (fun h9 => ?_)))
    · refine to_an (pc := 40) rw_219_40 rfl (s_v (pc := 41) rw_219_41 (dp0 hd (by decide)) (ls0 := [.ref 77, .null]) rfl (Nat.le_of_ble_eq_true rfl) (Nat.le_of_ble_eq_true rfl) rfl (to_rc rfl rfl rfl (g_o hG rfl)) rfl (C_215 hX (dp1 hd (by decide)) hG (by omega) g7 g8  (fun r10 M21 hG12 F11 p_13 p_14 p_15 p_16 p_17 p_18 p_19 p_20 => ?_)))
      have F22 := FR.c F0 F11 tg_295
      have b_23 := g_b hG12 (a := 77) (i := 7) (lo := 0) (hi := 500) rfl rfl
      have c_24 : M21.2.1 77 6 = (N.2.1 77 6) := (F_n F11 (show ¬ (77 = 77 ∧ (6 = 4 ∨ 6 = 5 ∨ 7 ≤ 6 ∧ 6 ≤ 10) ∨ 77 = 77 ∧ (6 = 44 ∨ 6 = 52) ∨ 101 ≤ 77 ∧ 77 ≤ 108) by decide) rfl)
      have t_25 : (M21.2.1 77 6).toInt = (N.2.1 77 6).toInt := congrArg Int32.toInt c_24
      have b_26 := g_b hG12 (a := 77) (i := 8) (lo := 0) (hi := 5) rfl rfl
      refine b_ine (pc := 44) rw_219_44 (A := r10.toInt) rfl (fun h27 => ?_) (fun h27 => ?_)
      · have j_28 := (FA_f (tg_283 F11) g2)
        have j_29 := (WC_f (tg_284 F11) g3)
        have j_30 := (NJ_f (tg_285 F11) g4)
        have j_31 := (PS_f (tg_286 F11) g5)
        have j_32 := (KQ_f (tg_287 F11) g6)
        have c_33 : M21.2.1 77 1 = (N.2.1 77 1) := (F_n F11 (show ¬ (77 = 77 ∧ (1 = 4 ∨ 1 = 5 ∨ 7 ≤ 1 ∧ 1 ≤ 10) ∨ 77 = 77 ∧ (1 = 44 ∨ 1 = 52) ∨ 101 ≤ 77 ∧ 77 ≤ 108) by decide) rfl)
        have t_34 : (M21.2.1 77 1).toInt = (N.2.1 77 1).toInt := congrArg Int32.toInt c_33
        exact ih M21 (u1) hG12 F22 (by omega) j_28 j_29 j_30 j_31 j_32 (p_19 (by omega)) (p_20 (by omega)) (by omega) (by omega) (by omega) (by omega)
      · refine to_c (pc := 47) rw_219_47 (x := (-1 : Int32)) rfl rfl (to_r0 (pc := 48) rw_219_48 ?_)
        have k_35 : (-1 : Int32).toInt = -1 := rfl
        have j_36 := (FA_f (tg_283 F11) g2)
        have j_37 := (WC_f (tg_284 F11) g3)
        have j_38 := (NJ_f (tg_285 F11) g4)
        have j_39 := (PS_f (tg_286 F11) g5)
        have j_40 := (KQ_f (tg_287 F11) g6)
        have c_41 : M21.2.1 77 1 = (N.2.1 77 1) := (F_n F11 (show ¬ (77 = 77 ∧ (1 = 4 ∨ 1 = 5 ∨ 7 ≤ 1 ∧ 1 ≤ 10) ∨ 77 = 77 ∧ (1 = 44 ∨ 1 = 52) ∨ 101 ≤ 77 ∧ 77 ≤ 108) by decide) rfl)
        have t_42 : (M21.2.1 77 1).toInt = (N.2.1 77 1).toInt := congrArg Int32.toInt c_41
        exact h (-1 : Int32) M21 hG12 F22 (by omega) j_36 j_37 j_38 j_39 j_40 (by omega) (by omega)
    · refine to_an (pc := 33) rw_219_33 rfl ?_
      have b_43 := g_b hG (a := 77) (i := 52) (lo := 0) (hi := 5) rfl rfl
      refine tt_gI (pc := 34) rw_219_34 (g_o hG rfl) (v := (N.2.1 77 52)) rfl (b_ile (pc := 37) rw_219_37 (A := (N.2.1 77 52).toInt) rfl (fun h44 => ?_) (fun h44 => ?_))
      · refine to_an (pc := 49) rw_219_49 rfl (s_v (pc := 50) rw_219_50 (dp0 hd (by decide)) (ls0 := [.ref 77, .null, .null]) rfl (Nat.le_of_ble_eq_true rfl) (Nat.le_of_ble_eq_true rfl) rfl (to_rc rfl rfl rfl (g_o hG rfl)) rfl (C_218 hX (dp1 hd (by decide)) hG g4 g5 g7 g8 (by omega)  (fun r45 M49 hG47 F46 p_48 => ?_)))
        have F50 := FR.c F0 F46 tg_296
        refine to_r0 (pc := 53) rw_219_53 ?_
        have c_51 : M49.2.1 77 7 = (N.2.1 77 7) := (F_n F46 (show ¬ (77 = 77 ∧ (7 = 42 ∨ 7 = 43) ∨ 94 ≤ 77 ∧ 77 ≤ 98 ∨ 77 = 99 ∨ 77 = 100 ∨ 77 = 109 ∨ 77 = 110 ∨ 77 = 111) by decide) rfl)
        have t_52 : (M49.2.1 77 7).toInt = (N.2.1 77 7).toInt := congrArg Int32.toInt c_51
        have c_53 : M49.2.1 77 6 = (N.2.1 77 6) := (F_n F46 (show ¬ (77 = 77 ∧ (6 = 42 ∨ 6 = 43) ∨ 94 ≤ 77 ∧ 77 ≤ 98 ∨ 77 = 99 ∨ 77 = 100 ∨ 77 = 109 ∨ 77 = 110 ∨ 77 = 111) by decide) rfl)
        have t_54 : (M49.2.1 77 6).toInt = (N.2.1 77 6).toInt := congrArg Int32.toInt c_53
        have j_55 := (FA_f (tg_288 F46) g2)
        have j_56 := (WC_f (tg_289 F46) g3)
        have j_57 := (NJ_f (tg_290 F46) g4)
        have j_58 := (KQ_f (tg_291 F46) g6)
        have c_59 : M49.2.1 77 1 = (N.2.1 77 1) := (F_n F46 (show ¬ (77 = 77 ∧ (1 = 42 ∨ 1 = 43) ∨ 94 ≤ 77 ∧ 77 ≤ 98 ∨ 77 = 99 ∨ 77 = 100 ∨ 77 = 109 ∨ 77 = 110 ∨ 77 = 111) by decide) rfl)
        have t_60 : (M49.2.1 77 1).toInt = (N.2.1 77 1).toInt := congrArg Int32.toInt c_59
        exact h r45 M49 hG47 F50 (by omega) j_55 j_56 j_57 p_48 j_58 (by omega) (by omega)
      · refine to_an (pc := 40) rw_219_40 rfl (s_v (pc := 41) rw_219_41 (dp0 hd (by decide)) (ls0 := [.ref 77, .null]) rfl (Nat.le_of_ble_eq_true rfl) (Nat.le_of_ble_eq_true rfl) rfl (to_rc rfl rfl rfl (g_o hG rfl)) rfl (C_215 hX (dp1 hd (by decide)) hG (by omega) g7 g8  (fun r61 M72 hG63 F62 p_64 p_65 p_66 p_67 p_68 p_69 p_70 p_71 => ?_)))
        have F73 := FR.c F0 F62 tg_295
        have b_74 := g_b hG63 (a := 77) (i := 7) (lo := 0) (hi := 500) rfl rfl
        have c_75 : M72.2.1 77 6 = (N.2.1 77 6) := (F_n F62 (show ¬ (77 = 77 ∧ (6 = 4 ∨ 6 = 5 ∨ 7 ≤ 6 ∧ 6 ≤ 10) ∨ 77 = 77 ∧ (6 = 44 ∨ 6 = 52) ∨ 101 ≤ 77 ∧ 77 ≤ 108) by decide) rfl)
        have t_76 : (M72.2.1 77 6).toInt = (N.2.1 77 6).toInt := congrArg Int32.toInt c_75
        have b_77 := g_b hG63 (a := 77) (i := 8) (lo := 0) (hi := 5) rfl rfl
        refine b_ine (pc := 44) rw_219_44 (A := r61.toInt) rfl (fun h78 => ?_) (fun h78 => ?_)
        · have j_79 := (FA_f (tg_283 F62) g2)
          have j_80 := (WC_f (tg_284 F62) g3)
          have j_81 := (NJ_f (tg_285 F62) g4)
          have j_82 := (PS_f (tg_286 F62) g5)
          have j_83 := (KQ_f (tg_287 F62) g6)
          have c_84 : M72.2.1 77 1 = (N.2.1 77 1) := (F_n F62 (show ¬ (77 = 77 ∧ (1 = 4 ∨ 1 = 5 ∨ 7 ≤ 1 ∧ 1 ≤ 10) ∨ 77 = 77 ∧ (1 = 44 ∨ 1 = 52) ∨ 101 ≤ 77 ∧ 77 ≤ 108) by decide) rfl)
          have t_85 : (M72.2.1 77 1).toInt = (N.2.1 77 1).toInt := congrArg Int32.toInt c_84
          exact ih M72 (u1) hG63 F73 (by omega) j_79 j_80 j_81 j_82 j_83 (p_70 (by omega)) (p_71 (by omega)) (by omega) (by omega) (by omega) (by omega)
        · refine to_c (pc := 47) rw_219_47 (x := (-1 : Int32)) rfl rfl (to_r0 (pc := 48) rw_219_48 ?_)
          have k_86 : (-1 : Int32).toInt = -1 := rfl
          have j_87 := (FA_f (tg_283 F62) g2)
          have j_88 := (WC_f (tg_284 F62) g3)
          have j_89 := (NJ_f (tg_285 F62) g4)
          have j_90 := (PS_f (tg_286 F62) g5)
          have j_91 := (KQ_f (tg_287 F62) g6)
          have c_92 : M72.2.1 77 1 = (N.2.1 77 1) := (F_n F62 (show ¬ (77 = 77 ∧ (1 = 4 ∨ 1 = 5 ∨ 7 ≤ 1 ∧ 1 ≤ 10) ∨ 77 = 77 ∧ (1 = 44 ∨ 1 = 52) ∨ 101 ≤ 77 ∧ 77 ≤ 108) by decide) rfl)
          have t_93 : (M72.2.1 77 1).toInt = (N.2.1 77 1).toInt := congrArg Int32.toInt c_92
          exact h (-1 : Int32) M72 hG63 F73 (by omega) j_87 j_88 j_89 j_90 j_91 (by omega) (by omega)
set_option maxRecDepth 4000 in
set_option maxHeartbeats 0 in
theorem C_219 {X : mm_X} {d : Nat} {M : mm_M} {Q : Option Value → mm_M → Prop} {n : Int32} (hX : g_X X) (hd : 5 ≤ d) (hG : g_G M) (q1 : (M.2.1 77 7).toInt ≤ (M.2.1 77 6).toInt) (q2 : FA M) (q3 : WC M) (q4 : NJ M) (q5 : PS M) (q6 : KQ M) (h : ∀ (r : Int32) (M1 : mm_M), g_G M1 → FR md_wk M M1 → ((M1.2.1 77 7).toInt ≤ (M1.2.1 77 6).toInt) → FA M1 → WC M1 → NJ M1 → PS M1 → KQ M1 → (n.toInt < 0 ∨ (M.2.1 77 1).toInt < n.toInt → (M1.2.1 77 1).toInt = (M.2.1 77 1).toInt) → (0 ≤ n.toInt ∧ n.toInt ≤ (M.2.1 77 1).toInt → (M1.2.1 77 1).toInt = 0) → Q (some (.int r)) M1) : mm_T X d 218 0 [.ref 77, .int n] [] M Q := by
  have F0 : FR md_wk M M := FR.rf
  have b_94 := g_b hG (a := 77) (i := 7) (lo := 0) (hi := 500) rfl rfl
  have b_95 := g_b hG (a := 77) (i := 6) (lo := 0) (hi := 500) rfl rfl
  refine to_an (pc := 0) rw_219_0 rfl (to_c (pc := 1) rw_219_1 (x := (0 : Int32)) rfl rfl (s_pI (pc := 2) rw_219_2 hG rfl (fun M97 W96 => ?_)))
  have hG98 := g_wf hG W96 rfl rfl (by decide)
  have F99 := FR.w F0 W96 (show 77 = 77 ∧ (1 ≤ 2 ∧ 2 ≤ 2 ∨ 4 ≤ 2 ∧ 2 ≤ 10 ∨ 42 ≤ 2 ∧ 2 ≤ 44 ∨ 2 = 52) ∨ 94 ≤ 77 ∧ 77 ≤ 111 by decide)
  refine to_an (pc := 5) rw_219_5 rfl (to_in (pc := 6) rw_219_6 rfl (s_v (pc := 7) rw_219_7 (dp0 hd (by decide)) (ls0 := [.ref 77, .int n]) rfl (Nat.le_of_ble_eq_true rfl) (Nat.le_of_ble_eq_true rfl) rfl (to_rc rfl rfl rfl (g_o hG98 rfl)) rfl ?_))
  have c_100 : M97.2.1 77 1 = (M.2.1 77 1) := (W_n W96 (by decide) rfl)
  have b_101 := g_b hG (a := 77) (i := 1) (lo := 0) (hi := 500) rfl rfl
  have t_102 : (M97.2.1 77 1).toInt = (M.2.1 77 1).toInt := congrArg Int32.toInt c_100
  have c_103 : M97.2.1 77 7 = (M.2.1 77 7) := (W_n W96 (by decide) rfl)
  have t_104 : (M97.2.1 77 7).toInt = (M.2.1 77 7).toInt := congrArg Int32.toInt c_103
  have c_105 : M97.2.1 77 6 = (M.2.1 77 6) := (W_n W96 (by decide) rfl)
  have t_106 : (M97.2.1 77 6).toInt = (M.2.1 77 6).toInt := congrArg Int32.toInt c_105
  refine C_163 hX (dp1 hd (by decide)) hG98 (by omega) (n := n) (fun r107 M115 hG109 F108 p_110 p_111 p_112 p_113 p_114 => ?_)
  have F116 := FR.c F99 F108 tg_297
  have b_117 := g_b hG109 (a := 77) (i := 7) (lo := 0) (hi := 500) rfl rfl
  have b_118 := g_b hG109 (a := 77) (i := 6) (lo := 0) (hi := 500) rfl rfl
  have b_119 := g_b hG109 (a := 77) (i := 1) (lo := 0) (hi := 500) rfl rfl
  refine b_ine (pc := 10) rw_219_10 (A := r107.toInt) rfl (fun h120 => ?_) (fun h120 => ?_)
  · refine to_an (pc := 16) rw_219_16 rfl (to_c (pc := 17) rw_219_17 (x := (0 : Int32)) rfl rfl (s_pI (pc := 18) rw_219_18 hG109 rfl (fun M122 W121 => ?_)))
    have hG123 := g_w hG109 W121 (A := 0) rfl (lo := 0) (hi := 40) rfl rfl (by omega) (by decide)
    have F124 := FR.w F116 W121 (show 77 = 77 ∧ (1 ≤ 44 ∧ 44 ≤ 2 ∨ 4 ≤ 44 ∧ 44 ≤ 10 ∨ 42 ≤ 44 ∧ 44 ≤ 44 ∨ 44 = 52) ∨ 94 ≤ 77 ∧ 77 ≤ 111 by decide)
    refine to_an (pc := 21) rw_219_21 rfl (to_c (pc := 22) rw_219_22 (x := (0 : Int32)) rfl rfl (s_pI (pc := 23) rw_219_23 hG123 rfl (fun M126 W125 => ?_)))
    have hG127 := g_w hG123 W125 (A := 0) rfl (lo := 0) (hi := 5) rfl rfl (by omega) (by decide)
    have F128 := FR.w F124 W125 (show 77 = 77 ∧ (1 ≤ 52 ∧ 52 ≤ 2 ∨ 4 ≤ 52 ∧ 52 ≤ 10 ∨ 42 ≤ 52 ∧ 52 ≤ 44 ∨ 52 = 52) ∨ 94 ≤ 77 ∧ 77 ≤ 111 by decide)
    have c_129 : M126.2.1 77 44 = (0 : Int32) := (W_n W125 (by decide) (W_e W121))
    have k_130 : (0 : Int32).toInt = 0 := rfl
    have t_131 : (M126.2.1 77 44).toInt = (0 : Int32).toInt := congrArg Int32.toInt c_129
    have c_132 : M126.2.1 77 52 = (0 : Int32) := (W_e W125)
    have t_133 : (M126.2.1 77 52).toInt = (0 : Int32).toInt := congrArg Int32.toInt c_132
    have j_134 : AB M126 := AB_0 (by omega)
    have j_135 : ST M126 := ST_0 (by omega) (by omega)
    have c_136 : M126.2.1 77 7 = (M115.2.1 77 7) := (W_n W125 (by decide) (W_n W121 (by decide) rfl))
    have t_137 : (M126.2.1 77 7).toInt = (M115.2.1 77 7).toInt := congrArg Int32.toInt c_136
    have c_138 : M126.2.1 77 6 = (M115.2.1 77 6) := (W_n W125 (by decide) (W_n W121 (by decide) rfl))
    have t_139 : (M126.2.1 77 6).toInt = (M115.2.1 77 6).toInt := congrArg Int32.toInt c_138
    have j_140 := (FA_f (fun a i z => W_n W125 (tg_302 a i z) rfl) (FA_f (fun a i z => W_n W121 (tg_303 a i z) rfl) (FA_f (tg_239 F108) (FA_f (fun a i z => W_n W96 (tg_94 a i z) rfl) q2))))
    have j_141 := (WC_f (fun a i z => W_n W125 (by /-r77,52-/ omega) rfl) (WC_f (fun a i z => W_n W121 (by /-r77,44-/ omega) rfl) (WC_f (tg_241 F108) (WC_f (fun a i z => W_n W96 (by /-r77,2-/ omega) rfl) q3))))
    have j_142 := (NJ_f (fun a i z => W_n W125 (by /-r77,52-/ omega) rfl) (NJ_f (fun a i z => W_n W121 (by /-r77,44-/ omega) rfl) (NJ_f (tg_243 F108) (NJ_f (fun a i z => W_n W96 (by /-r77,2-/ omega) rfl) q4))))
    have j_143 := (PS_f (fun a i z => W_n W125 (tg_304 a i z) rfl) (PS_f (fun a i z => W_n W121 (tg_305 a i z) rfl) (PS_f (tg_245 F108) (PS_f (fun a i z => W_n W96 (tg_259 a i z) rfl) q5))))
    have j_144 := (KQ_f (fun a i z => W_n W125 (by /-r77,52-/ omega) rfl) (KQ_f (fun a i z => W_n W121 (by /-r77,44-/ omega) rfl) (KQ_f (tg_247 F108) (KQ_f (fun a i z => W_n W96 (by /-r77,2-/ omega) rfl) q6))))
    have c_145 : M126.2.1 77 1 = (M115.2.1 77 1) := (W_n W125 (by decide) (W_n W121 (by decide) rfl))
    have t_146 : (M126.2.1 77 1).toInt = (M115.2.1 77 1).toInt := congrArg Int32.toInt c_145
    have c_147 : M126.2.1 77 8 = (M115.2.1 77 8) := (W_n W125 (by decide) (W_n W121 (by decide) rfl))
    have b_148 := g_b hG109 (a := 77) (i := 8) (lo := 0) (hi := 5) rfl rfl
    have t_149 : (M126.2.1 77 8).toInt = (M115.2.1 77 8).toInt := congrArg Int32.toInt c_147
    exact (T_219_0 (n := n) hX hd q1 q2 q3 q4 q5 q6 h ((6 * (500 - (M126.2.1 77 7).toInt) + (M126.2.1 77 8).toInt).toNat + 1)) M126 (.int n) hG127 F128 (by omega) j_140 j_141 j_142 j_143 j_144 j_134 j_135 (by omega) (by omega) (by omega) (by omega)
  · refine to_c (pc := 13) rw_219_13 (x := (-2 : Int32)) rfl rfl (to_r0 (pc := 15) rw_219_15 ?_)
    have k_150 : (-2 : Int32).toInt = -2 := rfl
    have j_151 := (FA_f (tg_239 F108) (FA_f (fun a i z => W_n W96 (tg_94 a i z) rfl) q2))
    have j_152 := (WC_f (tg_241 F108) (WC_f (fun a i z => W_n W96 (by /-r77,2-/ omega) rfl) q3))
    have j_153 := (NJ_f (tg_243 F108) (NJ_f (fun a i z => W_n W96 (by /-r77,2-/ omega) rfl) q4))
    have j_154 := (PS_f (tg_245 F108) (PS_f (fun a i z => W_n W96 (tg_259 a i z) rfl) q5))
    have j_155 := (KQ_f (tg_247 F108) (KQ_f (fun a i z => W_n W96 (by /-r77,2-/ omega) rfl) q6))
    exact h (-2 : Int32) M115 hG109 F116 (by omega) j_151 j_152 j_153 j_154 j_155 (by omega) (by omega)
end
section
theorem tg_306 : ∀ a i : Nat, (a = 77 ∧ (i = 59 ∨ i = 66) ∨ 112 ≤ a ∧ a ≤ 114 ∧ 40 ≤ i ∨ a = 116) → (a = 77 ∧ (i = 59 ∨ i = 65 ∨ i = 66) ∨ 112 ≤ a ∧ a ≤ 114 ∧ 40 ≤ i ∨ a = 116) := fun a i z => by omega
set_option maxRecDepth 4000 in
set_option maxHeartbeats 0 in
theorem C_221 {X : mm_X} {d : Nat} {M : mm_M} {Q : Option Value → mm_M → Prop} {k : Int32} {p : Int32} {o : Int32} (hX : g_X X) (hd : 0 ≤ d) (hG : g_G M) (q1 : 0 ≤ k.toInt) (q2 : k.toInt ≤ 4) (q3 : 0 ≤ p.toInt) (q4 : p.toInt ≤ 39) (q5 : (M.2.1 77 59).toInt ≤ 39) (q6 : (M.2.1 77 66).toInt ≤ 39) (q7 : KN M 40 ((M.2.1 77 59).toInt).toNat) (q8 : k.toInt = 0 → (0 ≤ p.toInt ∧ p.toInt ≤ 7) ∧ 0 ≤ o.toInt ∧ ((M.2.1 81 (p.toInt).toNat).toInt = 0 ∨ o.toInt ≤ 9)) (q9 : k.toInt = 1 → 0 ≤ p.toInt ∧ p.toInt ≤ 11) (q10 : k.toInt = 3 → 0 ≤ o.toInt ∧ o.toInt ≤ 39) (q11 : k.toInt = 4 → 0 ≤ o.toInt ∧ o.toInt ≤ 39) (h : ∀ (M1 : mm_M), g_G M1 → FR md_gr M M1 → ((M1.2.1 77 59).toInt = (M.2.1 77 59).toInt + 1) → ((M1.2.1 77 66).toInt = (M.2.1 77 66).toInt + 1) → (KN M1 40 ((M1.2.1 77 59).toInt).toNat) → Q (none) M1) : mm_T X d 220 0 [.ref 77, .int k, .int p, .int o] [] M Q := by
  have F0 : FR md_gr M M := FR.rf
  have b_1 := g_b hG (a := 77) (i := 59) (lo := 0) (hi := 40) rfl rfl
  have b_2 := g_b hG (a := 77) (i := 66) (lo := 0) (hi := 40) rfl rfl
  refine to_an (pc := 0) rw_221_0 rfl (s_gR (pc := 1) rw_221_1 hG rfl (v := 112) rfl (to_c (pc := 4) rw_221_4 (x := (40 : Int32)) rfl rfl (to_an (pc := 6) rw_221_6 rfl (tt_gI (pc := 7) rw_221_7 (g_o hG rfl) (v := (M.2.1 77 59)) rfl (s_add (pc := 10) rw_221_10 (A := 40) (B := (M.2.1 77 59).toInt) rfl rfl (by omega) (fun v3 e4 => to_in (pc := 11) rw_221_11 rfl (s_ias (pc := 12) rw_221_12 hG rfl (n := 80) rfl (A := v3.toInt) rfl (by omega) (by omega) (fun M6 W5 => ?_))))))))
  have hG7 := g_w hG W5 (A := k.toInt) rfl (lo := 0) (hi := 4) rfl rfl (by omega) (by decide)
  have F8 := FR.w F0 W5 (show 112 = 77 ∧ ((v3.toInt).toNat = 59 ∨ (v3.toInt).toNat = 66) ∨ 112 ≤ 112 ∧ 112 ≤ 114 ∧ 40 ≤ (v3.toInt).toNat ∨ 112 = 116 by omega)
  refine to_an (pc := 13) rw_221_13 rfl (s_gR (pc := 14) rw_221_14 hG7 rfl (v := 113) rfl (to_c (pc := 17) rw_221_17 (x := (40 : Int32)) rfl rfl (to_an (pc := 19) rw_221_19 rfl ?_)))
  have c_9 : M6.2.1 77 59 = (M.2.1 77 59) := (W_n W5 (fun z => absurd z.1 (by decide)) rfl)
  refine tt_gI (pc := 20) rw_221_20 (g_o hG7 rfl) (v := (M.2.1 77 59)) c_9 (s_add (pc := 23) rw_221_23 (A := 40) (B := (M.2.1 77 59).toInt) rfl rfl (by omega) (fun v10 e11 => to_in (pc := 24) rw_221_24 rfl (s_ias (pc := 25) rw_221_25 hG7 rfl (n := 80) rfl (A := v10.toInt) rfl (by omega) (by omega) (fun M13 W12 => ?_))))
  have hG14 := g_w hG7 W12 (A := p.toInt) rfl (lo := 0) (hi := 39) rfl rfl (by omega) (by decide)
  have F15 := FR.w F8 W12 (show 113 = 77 ∧ ((v10.toInt).toNat = 59 ∨ (v10.toInt).toNat = 66) ∨ 112 ≤ 113 ∧ 113 ≤ 114 ∧ 40 ≤ (v10.toInt).toNat ∨ 113 = 116 by omega)
  refine to_an (pc := 26) rw_221_26 rfl (s_gR (pc := 27) rw_221_27 hG14 rfl (v := 114) rfl (to_c (pc := 30) rw_221_30 (x := (40 : Int32)) rfl rfl (to_an (pc := 32) rw_221_32 rfl ?_)))
  have c_16 : M13.2.1 77 59 = (M.2.1 77 59) := (W_n W12 (fun z => absurd z.1 (by decide)) c_9)
  refine tt_gI (pc := 33) rw_221_33 (g_o hG14 rfl) (v := (M.2.1 77 59)) c_16 (s_add (pc := 36) rw_221_36 (A := 40) (B := (M.2.1 77 59).toInt) rfl rfl (by omega) (fun v17 e18 => to_in (pc := 37) rw_221_37 rfl (s_ias (pc := 38) rw_221_38 hG14 rfl (n := 80) rfl (A := v17.toInt) rfl (by omega) (by omega) (fun M20 W19 => ?_))))
  have hG21 := g_wf hG14 W19 rfl rfl (by decide)
  have F22 := FR.w F15 W19 (show 114 = 77 ∧ ((v17.toInt).toNat = 59 ∨ (v17.toInt).toNat = 66) ∨ 112 ≤ 114 ∧ 114 ≤ 114 ∧ 40 ≤ (v17.toInt).toNat ∨ 114 = 116 by omega)
  refine to_an (pc := 39) rw_221_39 rfl (s_gR (pc := 40) rw_221_40 hG21 rfl (v := 116) rfl (to_an (pc := 43) rw_221_43 rfl ?_))
  have c_23 : M20.2.1 77 66 = (M.2.1 77 66) := (W_n W19 (fun z => absurd z.1 (by decide)) (W_n W12 (fun z => absurd z.1 (by decide)) (W_n W5 (fun z => absurd z.1 (by decide)) rfl)))
  refine tt_gI (pc := 44) rw_221_44 (g_o hG21 rfl) (v := (M.2.1 77 66)) c_23 (to_an (pc := 47) rw_221_47 rfl ?_)
  have c_24 : M20.2.1 77 59 = (M.2.1 77 59) := (W_n W19 (fun z => absurd z.1 (by decide)) c_16)
  refine tt_gI (pc := 48) rw_221_48 (g_o hG21 rfl) (v := (M.2.1 77 59)) c_24 (s_ias (pc := 51) rw_221_51 hG21 rfl (n := 64) rfl (A := (M.2.1 77 66).toInt) rfl (by omega) (by omega) (fun M26 W25 => ?_))
  have hG27 := g_w hG21 W25 (A := (M.2.1 77 59).toInt) rfl (lo := 0) (hi := 39) rfl rfl (by omega) (by decide)
  have F28 := FR.w F22 W25 (show 116 = 77 ∧ (((M.2.1 77 66).toInt).toNat = 59 ∨ ((M.2.1 77 66).toInt).toNat = 66) ∨ 112 ≤ 116 ∧ 116 ≤ 114 ∧ 40 ≤ ((M.2.1 77 66).toInt).toNat ∨ 116 = 116 by omega)
  refine to_an (pc := 52) rw_221_52 rfl (to_dupr (pc := 53) rw_221_53 ?_)
  have c_29 : M26.2.1 77 66 = (M.2.1 77 66) := (W_n W25 (fun z => absurd z.1 (by decide)) c_23)
  refine tt_gI (pc := 54) rw_221_54 (g_o hG27 rfl) (v := (M.2.1 77 66)) c_29 (to_c (pc := 57) rw_221_57 (x := (1 : Int32)) rfl rfl (s_add (pc := 58) rw_221_58 (A := (M.2.1 77 66).toInt) (B := 1) rfl rfl (by omega) (fun v30 e31 => s_pI (pc := 59) rw_221_59 hG27 rfl (fun M33 W32 => ?_))))
  have hG34 := g_w hG27 W32 (A := v30.toInt) rfl (lo := 0) (hi := 40) rfl rfl (by omega) (by decide)
  have F35 := FR.w F28 W32 (show 77 = 77 ∧ (66 = 59 ∨ 66 = 66) ∨ 112 ≤ 77 ∧ 77 ≤ 114 ∧ 40 ≤ 66 ∨ 77 = 116 by decide)
  refine to_an (pc := 62) rw_221_62 rfl (to_dupr (pc := 63) rw_221_63 ?_)
  have c_36 : M33.2.1 77 59 = (M.2.1 77 59) := (W_n W32 (by decide) (W_n W25 (fun z => absurd z.1 (by decide)) c_24))
  refine tt_gI (pc := 64) rw_221_64 (g_o hG34 rfl) (v := (M.2.1 77 59)) c_36 (to_c (pc := 67) rw_221_67 (x := (1 : Int32)) rfl rfl (s_add (pc := 68) rw_221_68 (A := (M.2.1 77 59).toInt) (B := 1) rfl rfl (by omega) (fun v37 e38 => s_pI (pc := 69) rw_221_69 hG34 rfl (fun M40 W39 => ?_))))
  have hG41 := g_w hG34 W39 (A := v37.toInt) rfl (lo := 0) (hi := 40) rfl rfl (by omega) (by decide)
  have F42 := FR.w F35 W39 (show 77 = 77 ∧ (59 = 59 ∨ 59 = 66) ∨ 112 ≤ 77 ∧ 77 ≤ 114 ∧ 40 ≤ 59 ∨ 77 = 116 by decide)
  refine to_rv (pc := 72) rw_221_72 ?_
  have c_43 : M40.2.1 77 59 = v37 := (W_e W39)
  have t_44 : (M40.2.1 77 59).toInt = v37.toInt := congrArg Int32.toInt c_43
  have c_45 : M40.2.1 77 66 = v30 := (W_n W39 (by decide) (W_e W32))
  have t_46 : (M40.2.1 77 66).toInt = v30.toInt := congrArg Int32.toInt c_45
  have j_47 : M40.2.1 112 (40 + ((M.2.1 77 59).toInt).toNat) = k := by rw [show 40 + ((M.2.1 77 59).toInt).toNat = (v3.toInt).toNat by omega]; exact (W_n W39 (by omega) (W_n W32 (by omega) (W_n W25 (by omega) (W_n W19 (by omega) (W_n W12 (by omega) (W_e W5))))))
  have j_48 : M40.2.1 113 (40 + ((M.2.1 77 59).toInt).toNat) = p := by rw [show 40 + ((M.2.1 77 59).toInt).toNat = (v10.toInt).toNat by omega]; exact (W_n W39 (by omega) (W_n W32 (by omega) (W_n W25 (by omega) (W_n W19 (by omega) (W_e W12)))))
  have j_49 : M40.2.1 114 (40 + ((M.2.1 77 59).toInt).toNat) = o := by rw [show 40 + ((M.2.1 77 59).toInt).toNat = (v17.toInt).toNat by omega]; exact (W_n W39 (by omega) (W_n W32 (by omega) (W_n W25 (by omega) (W_e W19))))
  exact h M40 hG41 F42 (by omega) (by omega) (by rw [show ((M40.2.1 77 59).toInt).toNat = ((M.2.1 77 59).toInt).toNat + 1 by omega]; exact KN_k (M1 := M40) q7 (fun a i z => (W_n W39 (by /-r77,59-/ omega) (W_n W32 (by /-r77,66-/ omega) (W_n W25 (by /-r116-/ omega) (W_n W19 (by /-r114-/ omega) (W_n W12 (by /-r113-/ omega) (W_n W5 (by /-r112-/ omega) rfl))))))) j_47 j_48 j_49 q8 q9 q10 q11)
set_option maxRecDepth 4000 in
set_option maxHeartbeats 0 in
theorem T_223_0 {X : mm_X} {d : Nat} {M : mm_M} {Q : Option Value → mm_M → Prop} {l : Int32} (hX : g_X X) (hd : 1 ≤ d) (q1 : 1 ≤ l.toInt) (q2 : l.toInt ≤ 3) (q3 : (M.2.1 77 68).toInt = 1) (q4 : QK M) (h : ∀ (M1 : mm_M), g_G M1 → FR md_bi M M1 → QK M1 → ((M1.2.1 77 59).toInt + Wo M1 ((M1.2.1 77 65).toInt).toNat = (M.2.1 77 59).toInt + Wo M ((M.2.1 77 65).toInt).toNat) → (l.toInt = 1 → (M1.2.1 77 65).toInt = 0 ∨ ((M1.2.1 115 (((M1.2.1 77 65).toInt).toNat - 1)).toInt = 0 ∨ (M1.2.1 115 (((M1.2.1 77 65).toInt).toNat - 1)).toInt = 1)) → Q (none) M1) : ∀ nn9 : Nat, (∀ (N : mm_M) (u2 : Value) (u3 : Value) (u4 : Value), g_G N → FR md_bi M N → ((N.2.1 77 68).toInt = 1) → (QK N) → ((N.2.1 77 59).toInt + Wo N ((N.2.1 77 65).toInt).toNat = (M.2.1 77 59).toInt + Wo M ((M.2.1 77 65).toInt).toNat) → (N.2.1 77 65).toInt < (nn9 : Int) → mm_T X d 222 0 [.ref 77, .int l, u2, u3, u4] [] N Q) := by
  intro nn9
  induction nn9 with
  | zero =>
    intro N u2 u3 u4 hG F0 g1 g2 g3 hm
    have b_1 := g_b hG (a := 77) (i := 65) (lo := 0) (hi := 48) rfl rfl
    have b_2 := g_b hG (a := 77) (i := 68) (lo := 0) (hi := 1) rfl rfl
    exfalso; omega
  | succ nn9 ih =>
    intro N u2 u3 u4 hG F0 g1 g2 g3 hm
    have b_3 := g_b hG (a := 77) (i := 65) (lo := 0) (hi := 48) rfl rfl
    have b_4 := g_b hG (a := 77) (i := 68) (lo := 0) (hi := 1) rfl rfl
    have b_5 := g_b hG (a := 77) (i := 59) (lo := 0) (hi := 40) rfl rfl
    have b_6 := g_b hG (a := 77) (i := 66) (lo := 0) (hi := 40) rfl rfl
    have b_7 := g_b hG (a := 77) (i := 67) (lo := 0) (hi := 8) rfl rfl
    have b_8 := g_b hG (a := 77) (i := 69) (lo := 0) (hi := 40) rfl rfl
    have s_q := QK_e g2
    have s_w := Wx_b N ((N.2.1 77 65).toInt).toNat
    refine to_an (pc := 0) rw_223_0 rfl (tt_gI (pc := 1) rw_223_1 (g_o hG rfl) (v := (N.2.1 77 65)) rfl (b_ile (pc := 4) rw_223_4 (A := (N.2.1 77 65).toInt) rfl (fun h9 => ?_) (fun h9 => ?_)))
    · refine to_rv (pc := 77) rw_223_77 ?_
      exact h N hG F0 g2 g3 (fun _ => Or.inl (by omega))
    · refine to_an (pc := 7) rw_223_7 rfl (to_an (pc := 8) rw_223_8 rfl (s_gR (pc := 9) rw_223_9 hG rfl (v := 115) rfl (to_an (pc := 12) rw_223_12 rfl (tt_gI (pc := 13) rw_223_13 (g_o hG rfl) (v := (N.2.1 77 65)) rfl (to_c (pc := 16) rw_223_16 (x := (1 : Int32)) rfl rfl (s_sub (pc := 17) rw_223_17 (A := (N.2.1 77 65).toInt) (B := 1) rfl rfl (by omega) (fun v10 e11 => s_ial (pc := 18) rw_223_18 hG rfl (n := 64) rfl rfl (A := v10.toInt) rfl (by omega) (by omega) (lo := 0) (hi := 4) rfl rfl (fun v12 w_13 _ _ => ?_))))))))
      have t_14 := congrArg Int32.toInt w_13
      have s_s := Wx_s N (v10.toInt).toNat
      rw [show (v10.toInt).toNat + 1 = ((N.2.1 77 65).toInt).toNat by omega, w_13] at s_s
      have s_b := Wx_b N (v10.toInt).toNat
      have s_1 := g2.2.1 (v10.toInt).toNat (by omega)
      rw [w_13] at s_1
      refine s_v (pc := 19) rw_223_19 (dp0 hd (by decide)) (ls0 := [.ref 77, .int v12]) rfl (Nat.le_of_ble_eq_true rfl) (Nat.le_of_ble_eq_true rfl) rfl (to_rc rfl rfl rfl (g_o hG rfl)) rfl (to_in (pc := 0) rw_220_0 rfl (to_c (pc := 1) rw_220_1 (x := (2 : Int32)) rfl rfl (b_cne (pc := 2) rw_220_2 (A := v12.toInt) (B := 2) rfl rfl (fun h15 => ?_) (fun h15 => ?_))))
      · refine to_in (pc := 9) rw_220_9 rfl (to_c (pc := 10) rw_220_10 (x := (3 : Int32)) rfl rfl (b_cne (pc := 11) rw_220_11 (A := v12.toInt) (B := 3) rfl rfl (fun h16 => ?_) (fun h16 => ?_)))
        · refine to_in (pc := 18) rw_220_18 rfl (to_c (pc := 19) rw_220_19 (x := (4 : Int32)) rfl rfl (b_cne (pc := 20) rw_220_20 (A := v12.toInt) (B := 4) rfl rfl (fun h17 => ?_) (fun h17 => ?_)))
          · refine to_c (pc := 27) rw_220_27 (x := (0 : Int32)) rfl rfl (to_r0 (pc := 28) rw_220_28 (to_in (pc := 22) rw_223_22 rfl (b_clt_t (pc := 23) rw_223_23 (A := 0) (B := l.toInt) rfl rfl (by omega) (to_rv (pc := 77) rw_223_77 ?_))))
            exact h N hG F0 g2 g3 (fun zl => Or.inr (by rw [show ((N.2.1 77 65).toInt).toNat - 1 = (v10.toInt).toNat by omega, w_13]; omega))
          · refine to_c (pc := 23) rw_220_23 (x := (1 : Int32)) rfl rfl (to_go (pc := 24) rw_220_24 (to_r0 (pc := 28) rw_220_28 (to_in (pc := 22) rw_223_22 rfl (b_clt (pc := 23) rw_223_23 (A := 1) (B := l.toInt) rfl rfl (fun h18 => ?_) (fun h18 => ?_)))))
            · refine to_rv (pc := 77) rw_223_77 ?_
              exact h N hG F0 g2 g3 (fun zl => Or.inr (by rw [show ((N.2.1 77 65).toInt).toNat - 1 = (v10.toInt).toNat by omega, w_13]; omega))
            · refine to_an (pc := 26) rw_223_26 rfl (to_dupr (pc := 27) rw_223_27 (tt_gI (pc := 28) rw_223_28 (g_o hG rfl) (v := (N.2.1 77 65)) rfl (to_c (pc := 31) rw_223_31 (x := (1 : Int32)) rfl rfl (s_subk (pc := 32) rw_223_32 (A := (N.2.1 77 65).toInt) (B := 1) rfl rfl (by omega) (v := v10) e11 (s_pI (pc := 33) rw_223_33 hG rfl (fun M22 W21 => ?_))))))
              have hG23 := g_w hG W21 (A := v10.toInt) rfl (lo := 0) (hi := 48) rfl rfl (by omega) (by decide)
              have F24 := FR.w F0 W21 (show 77 = 77 ∧ (65 = 59 ∨ 65 = 65 ∨ 65 = 66) ∨ 112 ≤ 77 ∧ 77 ≤ 114 ∧ 40 ≤ 65 ∨ 77 = 116 by decide)
              refine to_an (pc := 36) rw_223_36 rfl (s_gR (pc := 37) rw_223_37 hG23 rfl (v := 115) rfl (to_an (pc := 40) rw_223_40 rfl ?_))
              have c_25 : M22.2.1 77 65 = v10 := (W_e W21)
              refine tt_gI (pc := 41) rw_223_41 (g_o hG23 rfl) (v := v10) c_25 (s_ialk (pc := 44) rw_223_44 hG23 rfl (n := 64) rfl rfl (A := v10.toInt) rfl (by omega) (by omega) (v := v12) (W_n W21 (by omega) w_13) (to_isn (pc := 45) rw_223_45 (ls2 := [.ref 77, .int l, .int v12, u3, u4]) rfl rfl (to_in (pc := 46) rw_223_46 rfl (to_c (pc := 47) rw_223_47 (x := (2 : Int32)) rfl rfl (b_cne_t (pc := 48) rw_223_48 (A := v12.toInt) (B := 2) rfl rfl (by omega) (to_an (pc := 55) rw_223_55 rfl (s_v (pc := 56) rw_223_56 (dp0 hd (by decide)) (ls0 := [.ref 77]) rfl (Nat.le_of_ble_eq_true rfl) (Nat.le_of_ble_eq_true rfl) rfl (to_rc rfl rfl rfl (g_o hG23 rfl)) rfl (to_an (pc := 0) rw_222_0 rfl (to_dupr (pc := 1) rw_222_1 ?_)))))))))
              have c_28 : M22.2.1 77 66 = (N.2.1 77 66) := (W_n W21 (by decide) rfl)
              refine tt_gI (pc := 2) rw_222_2 (g_o hG23 rfl) (v := (N.2.1 77 66)) c_28 (to_c (pc := 5) rw_222_5 (x := (1 : Int32)) rfl rfl (s_sub (pc := 6) rw_222_6 (A := (N.2.1 77 66).toInt) (B := 1) rfl rfl (by omega) (fun v29 e30 => s_pI (pc := 7) rw_222_7 hG23 rfl (fun M32 W31 => ?_))))
              have hG33 := g_w hG23 W31 (A := v29.toInt) rfl (lo := 0) (hi := 40) rfl rfl (by omega) (by decide)
              have F34 := FR.w F24 W31 (show 77 = 77 ∧ (66 = 59 ∨ 66 = 65 ∨ 66 = 66) ∨ 112 ≤ 77 ∧ 77 ≤ 114 ∧ 40 ≤ 66 ∨ 77 = 116 by decide)
              refine to_an (pc := 10) rw_222_10 rfl (s_gR (pc := 11) rw_222_11 hG33 rfl (v := 116) rfl (to_an (pc := 14) rw_222_14 rfl ?_))
              have c_35 : M32.2.1 77 66 = v29 := (W_e W31)
              refine tt_gI (pc := 15) rw_222_15 (g_o hG33 rfl) (v := v29) c_35 (s_ial (pc := 18) rw_222_18 hG33 rfl (n := 64) rfl rfl (A := v29.toInt) rfl (by omega) (by omega) (lo := 0) (hi := 39) rfl rfl (fun v36 w_37 _ _ => to_r0 (pc := 19) rw_222_19 (to_isn (pc := 59) rw_223_59 (ls2 := [.ref 77, .int l, .int v12, .int v36, u4]) rfl rfl (to_an (pc := 60) rw_223_60 rfl (s_v (pc := 61) rw_223_61 (dp0 hd (by decide)) (ls0 := [.ref 77]) rfl (Nat.le_of_ble_eq_true rfl) (Nat.le_of_ble_eq_true rfl) rfl (to_rc rfl rfl rfl (g_o hG33 rfl)) rfl (to_an (pc := 0) rw_222_0 rfl (to_dupr (pc := 1) rw_222_1 (tt_gI (pc := 2) rw_222_2 (g_o hG33 rfl) (v := v29) c_35 (to_c (pc := 5) rw_222_5 (x := (1 : Int32)) rfl rfl (s_sub (pc := 6) rw_222_6 (A := v29.toInt) (B := 1) rfl rfl (by omega) (fun v38 e39 => s_pI (pc := 7) rw_222_7 hG33 rfl (fun M41 W40 => ?_))))))))))))
              have hG42 := g_w hG33 W40 (A := v38.toInt) rfl (lo := 0) (hi := 40) rfl rfl (by omega) (by decide)
              have F43 := FR.w F34 W40 (show 77 = 77 ∧ (66 = 59 ∨ 66 = 65 ∨ 66 = 66) ∨ 112 ≤ 77 ∧ 77 ≤ 114 ∧ 40 ≤ 66 ∨ 77 = 116 by decide)
              refine to_an (pc := 10) rw_222_10 rfl (s_gR (pc := 11) rw_222_11 hG42 rfl (v := 116) rfl (to_an (pc := 14) rw_222_14 rfl ?_))
              have c_44 : M41.2.1 77 66 = v38 := (W_e W40)
              refine tt_gI (pc := 15) rw_222_15 (g_o hG42 rfl) (v := v38) c_44 (s_ial (pc := 18) rw_222_18 hG42 rfl (n := 64) rfl rfl (A := v38.toInt) rfl (by omega) (by omega) (lo := 0) (hi := 39) rfl rfl (fun v45 w_46 _ _ => to_r0 (pc := 19) rw_222_19 (to_is (pc := 64) rw_223_64 (ls2 := [.ref 77, .int l, .int v12, .int v36, .int v45]) rfl rfl (to_an (pc := 66) rw_223_66 rfl (to_in (pc := 67) rw_223_67 rfl (to_i (pc := 68) rw_223_68 rfl (to_in (pc := 70) rw_223_70 rfl (s_v (pc := 71) rw_223_71 (dp0 hd (by decide)) (ls0 := [.ref 77, .int v12, .int v45, .int v36]) rfl (Nat.le_of_ble_eq_true rfl) (Nat.le_of_ble_eq_true rfl) rfl (to_rc rfl rfl rfl (g_o hG42 rfl)) rfl ?_))))))))
              have c_47 : M41.2.1 77 59 = (N.2.1 77 59) := (W_n W40 (by decide) (W_n W31 (by decide) (W_n W21 (by decide) rfl)))
              have t_48 : (M41.2.1 77 59).toInt = (N.2.1 77 59).toInt := congrArg Int32.toInt c_47
              have t_49 : (M41.2.1 77 66).toInt = v38.toInt := congrArg Int32.toInt c_44
              refine C_221 hX (dp1 hd (by decide)) hG42 (by omega) (by omega) (by omega) (by omega) (by omega) (by omega) (by rw [(W_n W40 (by omega) (W_n W31 (by omega) (W_n W21 (by omega) rfl)))]; exact KN_f (fun a i z => (W_n W40 (by /-r77,66-/ omega) (W_n W31 (by /-r77,66-/ omega) (W_n W21 (by /-r77,65-/ omega) rfl)))) g2.2.2) (by omega) (by omega) (by omega) (by omega) (k := v12) (p := v45) (o := v36) (fun M55 hG51 F50 p_52 p_53 p_54 => ?_)
              have F56 := FR.c F43 F50 tg_306
              have b_57 := g_b hG51 (a := 77) (i := 59) (lo := 0) (hi := 40) rfl rfl
              have b_58 := g_b hG51 (a := 77) (i := 66) (lo := 0) (hi := 40) rfl rfl
              have s_59 := Wx_f (M := N) (M1 := M55) (v10.toInt).toNat (fun i z => (F_n F50 (show ¬ (115 = 77 ∧ (i = 59 ∨ i = 66) ∨ 112 ≤ 115 ∧ 115 ≤ 114 ∧ 40 ≤ i ∨ 115 = 116) by omega) (W_n W40 (by omega) (W_n W31 (by omega) (W_n W21 (by omega) rfl)))))
              have c_62 : M55.2.1 77 65 = v10 := (F_n F50 (show ¬ (77 = 77 ∧ (65 = 59 ∨ 65 = 66) ∨ 112 ≤ 77 ∧ 77 ≤ 114 ∧ 40 ≤ 65 ∨ 77 = 116) by decide) (W_n W40 (by decide) (W_n W31 (by decide) c_25)))
              have t_63 : (M55.2.1 77 65).toInt = v10.toInt := congrArg Int32.toInt c_62
              have c_64 : M55.2.1 77 67 = (N.2.1 77 67) := (F_n F50 (show ¬ (77 = 77 ∧ (67 = 59 ∨ 67 = 66) ∨ 112 ≤ 77 ∧ 77 ≤ 114 ∧ 40 ≤ 67 ∨ 77 = 116) by decide) (W_n W40 (by decide) (W_n W31 (by decide) (W_n W21 (by decide) rfl))))
              have t_65 : (M55.2.1 77 67).toInt = (N.2.1 77 67).toInt := congrArg Int32.toInt c_64
              have c_66 : M55.2.1 77 68 = (N.2.1 77 68) := (F_n F50 (show ¬ (77 = 77 ∧ (68 = 59 ∨ 68 = 66) ∨ 112 ≤ 77 ∧ 77 ≤ 114 ∧ 40 ≤ 68 ∨ 77 = 116) by decide) (W_n W40 (by decide) (W_n W31 (by decide) (W_n W21 (by decide) rfl))))
              have t_67 : (M55.2.1 77 68).toInt = (N.2.1 77 68).toInt := congrArg Int32.toInt c_66
              have c_68 : M55.2.1 77 69 = (N.2.1 77 69) := (F_n F50 (show ¬ (77 = 77 ∧ (69 = 59 ∨ 69 = 66) ∨ 112 ≤ 77 ∧ 77 ≤ 114 ∧ 40 ≤ 69 ∨ 77 = 116) by decide) (W_n W40 (by decide) (W_n W31 (by decide) (W_n W21 (by decide) rfl))))
              have t_69 : (M55.2.1 77 69).toInt = (N.2.1 77 69).toInt := congrArg Int32.toInt c_68
              have j_61 : QK M55 := QK_i (by unfold QK_c; rw [show ((M55.2.1 77 65).toInt).toNat = (v10.toInt).toNat by omega]; refine ⟨by omega, by omega, by omega, by omega⟩) (fun i z => by rw [(F_n F50 (show ¬ (115 = 77 ∧ (i = 59 ∨ i = 66) ∨ 112 ≤ 115 ∧ 115 ≤ 114 ∧ 40 ≤ i ∨ 115 = 116) by omega) (W_n W40 (by omega) (W_n W31 (by omega) (W_n W21 (by omega) rfl))))]; exact g2.2.1 i (by omega)) p_54
              refine to_go (pc := 74) rw_223_74 ?_
              have s_70 : Wo M55 ((M55.2.1 77 65).toInt).toNat = Wo M55 (v10.toInt).toNat := by rw [show ((M55.2.1 77 65).toInt).toNat = (v10.toInt).toNat by omega]
              exact ih M55 (.int v12) (.int v36) (.int v45) hG51 F56 (by omega) j_61 (by omega) (by omega)
        · refine to_c (pc := 14) rw_220_14 (x := (2 : Int32)) rfl rfl (to_go (pc := 15) rw_220_15 (to_r0 (pc := 28) rw_220_28 (to_in (pc := 22) rw_223_22 rfl (b_clt (pc := 23) rw_223_23 (A := 2) (B := l.toInt) rfl rfl (fun h71 => ?_) (fun h71 => ?_)))))
          · refine to_rv (pc := 77) rw_223_77 ?_
            exact h N hG F0 g2 g3 (fun zl => Or.inr (by rw [show ((N.2.1 77 65).toInt).toNat - 1 = (v10.toInt).toNat by omega, w_13]; omega))
          · refine to_an (pc := 26) rw_223_26 rfl (to_dupr (pc := 27) rw_223_27 (tt_gI (pc := 28) rw_223_28 (g_o hG rfl) (v := (N.2.1 77 65)) rfl (to_c (pc := 31) rw_223_31 (x := (1 : Int32)) rfl rfl (s_subk (pc := 32) rw_223_32 (A := (N.2.1 77 65).toInt) (B := 1) rfl rfl (by omega) (v := v10) e11 (s_pI (pc := 33) rw_223_33 hG rfl (fun M75 W74 => ?_))))))
            have hG76 := g_w hG W74 (A := v10.toInt) rfl (lo := 0) (hi := 48) rfl rfl (by omega) (by decide)
            have F77 := FR.w F0 W74 (show 77 = 77 ∧ (65 = 59 ∨ 65 = 65 ∨ 65 = 66) ∨ 112 ≤ 77 ∧ 77 ≤ 114 ∧ 40 ≤ 65 ∨ 77 = 116 by decide)
            refine to_an (pc := 36) rw_223_36 rfl (s_gR (pc := 37) rw_223_37 hG76 rfl (v := 115) rfl (to_an (pc := 40) rw_223_40 rfl ?_))
            have c_78 : M75.2.1 77 65 = v10 := (W_e W74)
            refine tt_gI (pc := 41) rw_223_41 (g_o hG76 rfl) (v := v10) c_78 (s_ialk (pc := 44) rw_223_44 hG76 rfl (n := 64) rfl rfl (A := v10.toInt) rfl (by omega) (by omega) (v := v12) (W_n W74 (by omega) w_13) (to_isn (pc := 45) rw_223_45 (ls2 := [.ref 77, .int l, .int v12, u3, u4]) rfl rfl (to_in (pc := 46) rw_223_46 rfl (to_c (pc := 47) rw_223_47 (x := (2 : Int32)) rfl rfl (b_cne_t (pc := 48) rw_223_48 (A := v12.toInt) (B := 2) rfl rfl (by omega) (to_an (pc := 55) rw_223_55 rfl (s_v (pc := 56) rw_223_56 (dp0 hd (by decide)) (ls0 := [.ref 77]) rfl (Nat.le_of_ble_eq_true rfl) (Nat.le_of_ble_eq_true rfl) rfl (to_rc rfl rfl rfl (g_o hG76 rfl)) rfl (to_an (pc := 0) rw_222_0 rfl (to_dupr (pc := 1) rw_222_1 ?_)))))))))
            have c_81 : M75.2.1 77 66 = (N.2.1 77 66) := (W_n W74 (by decide) rfl)
            refine tt_gI (pc := 2) rw_222_2 (g_o hG76 rfl) (v := (N.2.1 77 66)) c_81 (to_c (pc := 5) rw_222_5 (x := (1 : Int32)) rfl rfl (s_sub (pc := 6) rw_222_6 (A := (N.2.1 77 66).toInt) (B := 1) rfl rfl (by omega) (fun v82 e83 => s_pI (pc := 7) rw_222_7 hG76 rfl (fun M85 W84 => ?_))))
            have hG86 := g_w hG76 W84 (A := v82.toInt) rfl (lo := 0) (hi := 40) rfl rfl (by omega) (by decide)
            have F87 := FR.w F77 W84 (show 77 = 77 ∧ (66 = 59 ∨ 66 = 65 ∨ 66 = 66) ∨ 112 ≤ 77 ∧ 77 ≤ 114 ∧ 40 ≤ 66 ∨ 77 = 116 by decide)
            refine to_an (pc := 10) rw_222_10 rfl (s_gR (pc := 11) rw_222_11 hG86 rfl (v := 116) rfl (to_an (pc := 14) rw_222_14 rfl ?_))
            have c_88 : M85.2.1 77 66 = v82 := (W_e W84)
            refine tt_gI (pc := 15) rw_222_15 (g_o hG86 rfl) (v := v82) c_88 (s_ial (pc := 18) rw_222_18 hG86 rfl (n := 64) rfl rfl (A := v82.toInt) rfl (by omega) (by omega) (lo := 0) (hi := 39) rfl rfl (fun v89 w_90 _ _ => to_r0 (pc := 19) rw_222_19 (to_isn (pc := 59) rw_223_59 (ls2 := [.ref 77, .int l, .int v12, .int v89, u4]) rfl rfl (to_an (pc := 60) rw_223_60 rfl (s_v (pc := 61) rw_223_61 (dp0 hd (by decide)) (ls0 := [.ref 77]) rfl (Nat.le_of_ble_eq_true rfl) (Nat.le_of_ble_eq_true rfl) rfl (to_rc rfl rfl rfl (g_o hG86 rfl)) rfl (to_an (pc := 0) rw_222_0 rfl (to_dupr (pc := 1) rw_222_1 (tt_gI (pc := 2) rw_222_2 (g_o hG86 rfl) (v := v82) c_88 (to_c (pc := 5) rw_222_5 (x := (1 : Int32)) rfl rfl (s_sub (pc := 6) rw_222_6 (A := v82.toInt) (B := 1) rfl rfl (by omega) (fun v91 e92 => s_pI (pc := 7) rw_222_7 hG86 rfl (fun M94 W93 => ?_))))))))))))
            have hG95 := g_w hG86 W93 (A := v91.toInt) rfl (lo := 0) (hi := 40) rfl rfl (by omega) (by decide)
            have F96 := FR.w F87 W93 (show 77 = 77 ∧ (66 = 59 ∨ 66 = 65 ∨ 66 = 66) ∨ 112 ≤ 77 ∧ 77 ≤ 114 ∧ 40 ≤ 66 ∨ 77 = 116 by decide)
            refine to_an (pc := 10) rw_222_10 rfl (s_gR (pc := 11) rw_222_11 hG95 rfl (v := 116) rfl (to_an (pc := 14) rw_222_14 rfl ?_))
            have c_97 : M94.2.1 77 66 = v91 := (W_e W93)
            refine tt_gI (pc := 15) rw_222_15 (g_o hG95 rfl) (v := v91) c_97 (s_ial (pc := 18) rw_222_18 hG95 rfl (n := 64) rfl rfl (A := v91.toInt) rfl (by omega) (by omega) (lo := 0) (hi := 39) rfl rfl (fun v98 w_99 _ _ => to_r0 (pc := 19) rw_222_19 (to_is (pc := 64) rw_223_64 (ls2 := [.ref 77, .int l, .int v12, .int v89, .int v98]) rfl rfl (to_an (pc := 66) rw_223_66 rfl (to_in (pc := 67) rw_223_67 rfl (to_i (pc := 68) rw_223_68 rfl (to_in (pc := 70) rw_223_70 rfl (s_v (pc := 71) rw_223_71 (dp0 hd (by decide)) (ls0 := [.ref 77, .int v12, .int v98, .int v89]) rfl (Nat.le_of_ble_eq_true rfl) (Nat.le_of_ble_eq_true rfl) rfl (to_rc rfl rfl rfl (g_o hG95 rfl)) rfl ?_))))))))
            have c_100 : M94.2.1 77 59 = (N.2.1 77 59) := (W_n W93 (by decide) (W_n W84 (by decide) (W_n W74 (by decide) rfl)))
            have t_101 : (M94.2.1 77 59).toInt = (N.2.1 77 59).toInt := congrArg Int32.toInt c_100
            have t_102 : (M94.2.1 77 66).toInt = v91.toInt := congrArg Int32.toInt c_97
            refine C_221 hX (dp1 hd (by decide)) hG95 (by omega) (by omega) (by omega) (by omega) (by omega) (by omega) (by rw [(W_n W93 (by omega) (W_n W84 (by omega) (W_n W74 (by omega) rfl)))]; exact KN_f (fun a i z => (W_n W93 (by /-r77,66-/ omega) (W_n W84 (by /-r77,66-/ omega) (W_n W74 (by /-r77,65-/ omega) rfl)))) g2.2.2) (by omega) (by omega) (by omega) (by omega) (k := v12) (p := v98) (o := v89) (fun M108 hG104 F103 p_105 p_106 p_107 => ?_)
            have F109 := FR.c F96 F103 tg_306
            have b_110 := g_b hG104 (a := 77) (i := 59) (lo := 0) (hi := 40) rfl rfl
            have b_111 := g_b hG104 (a := 77) (i := 66) (lo := 0) (hi := 40) rfl rfl
            have s_112 := Wx_f (M := N) (M1 := M108) (v10.toInt).toNat (fun i z => (F_n F103 (show ¬ (115 = 77 ∧ (i = 59 ∨ i = 66) ∨ 112 ≤ 115 ∧ 115 ≤ 114 ∧ 40 ≤ i ∨ 115 = 116) by omega) (W_n W93 (by omega) (W_n W84 (by omega) (W_n W74 (by omega) rfl)))))
            have c_115 : M108.2.1 77 65 = v10 := (F_n F103 (show ¬ (77 = 77 ∧ (65 = 59 ∨ 65 = 66) ∨ 112 ≤ 77 ∧ 77 ≤ 114 ∧ 40 ≤ 65 ∨ 77 = 116) by decide) (W_n W93 (by decide) (W_n W84 (by decide) c_78)))
            have t_116 : (M108.2.1 77 65).toInt = v10.toInt := congrArg Int32.toInt c_115
            have c_117 : M108.2.1 77 67 = (N.2.1 77 67) := (F_n F103 (show ¬ (77 = 77 ∧ (67 = 59 ∨ 67 = 66) ∨ 112 ≤ 77 ∧ 77 ≤ 114 ∧ 40 ≤ 67 ∨ 77 = 116) by decide) (W_n W93 (by decide) (W_n W84 (by decide) (W_n W74 (by decide) rfl))))
            have t_118 : (M108.2.1 77 67).toInt = (N.2.1 77 67).toInt := congrArg Int32.toInt c_117
            have c_119 : M108.2.1 77 68 = (N.2.1 77 68) := (F_n F103 (show ¬ (77 = 77 ∧ (68 = 59 ∨ 68 = 66) ∨ 112 ≤ 77 ∧ 77 ≤ 114 ∧ 40 ≤ 68 ∨ 77 = 116) by decide) (W_n W93 (by decide) (W_n W84 (by decide) (W_n W74 (by decide) rfl))))
            have t_120 : (M108.2.1 77 68).toInt = (N.2.1 77 68).toInt := congrArg Int32.toInt c_119
            have c_121 : M108.2.1 77 69 = (N.2.1 77 69) := (F_n F103 (show ¬ (77 = 77 ∧ (69 = 59 ∨ 69 = 66) ∨ 112 ≤ 77 ∧ 77 ≤ 114 ∧ 40 ≤ 69 ∨ 77 = 116) by decide) (W_n W93 (by decide) (W_n W84 (by decide) (W_n W74 (by decide) rfl))))
            have t_122 : (M108.2.1 77 69).toInt = (N.2.1 77 69).toInt := congrArg Int32.toInt c_121
            have j_114 : QK M108 := QK_i (by unfold QK_c; rw [show ((M108.2.1 77 65).toInt).toNat = (v10.toInt).toNat by omega]; refine ⟨by omega, by omega, by omega, by omega⟩) (fun i z => by rw [(F_n F103 (show ¬ (115 = 77 ∧ (i = 59 ∨ i = 66) ∨ 112 ≤ 115 ∧ 115 ≤ 114 ∧ 40 ≤ i ∨ 115 = 116) by omega) (W_n W93 (by omega) (W_n W84 (by omega) (W_n W74 (by omega) rfl))))]; exact g2.2.1 i (by omega)) p_107
            refine to_go (pc := 74) rw_223_74 ?_
            have s_123 : Wo M108 ((M108.2.1 77 65).toInt).toNat = Wo M108 (v10.toInt).toNat := by rw [show ((M108.2.1 77 65).toInt).toNat = (v10.toInt).toNat by omega]
            exact ih M108 (.int v12) (.int v89) (.int v98) hG104 F109 (by omega) j_114 (by omega) (by omega)
      · refine to_c (pc := 5) rw_220_5 (x := (3 : Int32)) rfl rfl (to_go (pc := 6) rw_220_6 (to_r0 (pc := 28) rw_220_28 (to_in (pc := 22) rw_223_22 rfl (b_clt_f (pc := 23) rw_223_23 (A := 3) (B := l.toInt) rfl rfl (by omega) (to_an (pc := 26) rw_223_26 rfl (to_dupr (pc := 27) rw_223_27 (tt_gI (pc := 28) rw_223_28 (g_o hG rfl) (v := (N.2.1 77 65)) rfl (to_c (pc := 31) rw_223_31 (x := (1 : Int32)) rfl rfl (s_subk (pc := 32) rw_223_32 (A := (N.2.1 77 65).toInt) (B := 1) rfl rfl (by omega) (v := v10) e11 (s_pI (pc := 33) rw_223_33 hG rfl (fun M127 W126 => ?_)))))))))))
        have hG128 := g_w hG W126 (A := v10.toInt) rfl (lo := 0) (hi := 48) rfl rfl (by omega) (by decide)
        have F129 := FR.w F0 W126 (show 77 = 77 ∧ (65 = 59 ∨ 65 = 65 ∨ 65 = 66) ∨ 112 ≤ 77 ∧ 77 ≤ 114 ∧ 40 ≤ 65 ∨ 77 = 116 by decide)
        refine to_an (pc := 36) rw_223_36 rfl (s_gR (pc := 37) rw_223_37 hG128 rfl (v := 115) rfl (to_an (pc := 40) rw_223_40 rfl ?_))
        have c_130 : M127.2.1 77 65 = v10 := (W_e W126)
        refine tt_gI (pc := 41) rw_223_41 (g_o hG128 rfl) (v := v10) c_130 (s_ialk (pc := 44) rw_223_44 hG128 rfl (n := 64) rfl rfl (A := v10.toInt) rfl (by omega) (by omega) (v := v12) (W_n W126 (by omega) w_13) (to_isn (pc := 45) rw_223_45 (ls2 := [.ref 77, .int l, .int v12, u3, u4]) rfl rfl (to_in (pc := 46) rw_223_46 rfl (to_c (pc := 47) rw_223_47 (x := (2 : Int32)) rfl rfl (b_cne_f (pc := 48) rw_223_48 (A := v12.toInt) (B := 2) rfl rfl (by omega) (to_c (pc := 51) rw_223_51 (x := (-1 : Int32)) rfl rfl (to_go (pc := 52) rw_223_52 (to_isn (pc := 59) rw_223_59 (ls2 := [.ref 77, .int l, .int v12, .int (-1 : Int32), u4]) rfl rfl (to_an (pc := 60) rw_223_60 rfl (s_v (pc := 61) rw_223_61 (dp0 hd (by decide)) (ls0 := [.ref 77]) rfl (Nat.le_of_ble_eq_true rfl) (Nat.le_of_ble_eq_true rfl) rfl (to_rc rfl rfl rfl (g_o hG128 rfl)) rfl (to_an (pc := 0) rw_222_0 rfl ?_)))))))))))
        refine to_dupr (pc := 1) rw_222_1 ?_
        have c_133 : M127.2.1 77 66 = (N.2.1 77 66) := (W_n W126 (by decide) rfl)
        refine tt_gI (pc := 2) rw_222_2 (g_o hG128 rfl) (v := (N.2.1 77 66)) c_133 (to_c (pc := 5) rw_222_5 (x := (1 : Int32)) rfl rfl (s_sub (pc := 6) rw_222_6 (A := (N.2.1 77 66).toInt) (B := 1) rfl rfl (by omega) (fun v134 e135 => s_pI (pc := 7) rw_222_7 hG128 rfl (fun M137 W136 => ?_))))
        have hG138 := g_w hG128 W136 (A := v134.toInt) rfl (lo := 0) (hi := 40) rfl rfl (by omega) (by decide)
        have F139 := FR.w F129 W136 (show 77 = 77 ∧ (66 = 59 ∨ 66 = 65 ∨ 66 = 66) ∨ 112 ≤ 77 ∧ 77 ≤ 114 ∧ 40 ≤ 66 ∨ 77 = 116 by decide)
        refine to_an (pc := 10) rw_222_10 rfl (s_gR (pc := 11) rw_222_11 hG138 rfl (v := 116) rfl (to_an (pc := 14) rw_222_14 rfl ?_))
        have c_140 : M137.2.1 77 66 = v134 := (W_e W136)
        refine tt_gI (pc := 15) rw_222_15 (g_o hG138 rfl) (v := v134) c_140 (s_ial (pc := 18) rw_222_18 hG138 rfl (n := 64) rfl rfl (A := v134.toInt) rfl (by omega) (by omega) (lo := 0) (hi := 39) rfl rfl (fun v141 w_142 _ _ => to_r0 (pc := 19) rw_222_19 (to_is (pc := 64) rw_223_64 (ls2 := [.ref 77, .int l, .int v12, .int (-1 : Int32), .int v141]) rfl rfl (to_an (pc := 66) rw_223_66 rfl (to_in (pc := 67) rw_223_67 rfl (to_i (pc := 68) rw_223_68 rfl (to_in (pc := 70) rw_223_70 rfl (s_v (pc := 71) rw_223_71 (dp0 hd (by decide)) (ls0 := [.ref 77, .int v12, .int v141, .int (-1 : Int32)]) rfl (Nat.le_of_ble_eq_true rfl) (Nat.le_of_ble_eq_true rfl) rfl (to_rc rfl rfl rfl (g_o hG138 rfl)) rfl ?_))))))))
        have k_143 : (-1 : Int32).toInt = -1 := rfl
        have c_144 : M137.2.1 77 59 = (N.2.1 77 59) := (W_n W136 (by decide) (W_n W126 (by decide) rfl))
        have t_145 : (M137.2.1 77 59).toInt = (N.2.1 77 59).toInt := congrArg Int32.toInt c_144
        have t_146 : (M137.2.1 77 66).toInt = v134.toInt := congrArg Int32.toInt c_140
        refine C_221 hX (dp1 hd (by decide)) hG138 (by omega) (by omega) (by omega) (by omega) (by omega) (by omega) (by rw [(W_n W136 (by omega) (W_n W126 (by omega) rfl))]; exact KN_f (fun a i z => (W_n W136 (by /-r77,66-/ omega) (W_n W126 (by /-r77,65-/ omega) rfl))) g2.2.2) (by omega) (by omega) (by omega) (by omega) (k := v12) (p := v141) (o := (-1 : Int32)) (fun M152 hG148 F147 p_149 p_150 p_151 => ?_)
        have F153 := FR.c F139 F147 tg_306
        have b_154 := g_b hG148 (a := 77) (i := 59) (lo := 0) (hi := 40) rfl rfl
        have b_155 := g_b hG148 (a := 77) (i := 66) (lo := 0) (hi := 40) rfl rfl
        have s_156 := Wx_f (M := N) (M1 := M152) (v10.toInt).toNat (fun i z => (F_n F147 (show ¬ (115 = 77 ∧ (i = 59 ∨ i = 66) ∨ 112 ≤ 115 ∧ 115 ≤ 114 ∧ 40 ≤ i ∨ 115 = 116) by omega) (W_n W136 (by omega) (W_n W126 (by omega) rfl))))
        have c_159 : M152.2.1 77 65 = v10 := (F_n F147 (show ¬ (77 = 77 ∧ (65 = 59 ∨ 65 = 66) ∨ 112 ≤ 77 ∧ 77 ≤ 114 ∧ 40 ≤ 65 ∨ 77 = 116) by decide) (W_n W136 (by decide) c_130))
        have t_160 : (M152.2.1 77 65).toInt = v10.toInt := congrArg Int32.toInt c_159
        have c_161 : M152.2.1 77 67 = (N.2.1 77 67) := (F_n F147 (show ¬ (77 = 77 ∧ (67 = 59 ∨ 67 = 66) ∨ 112 ≤ 77 ∧ 77 ≤ 114 ∧ 40 ≤ 67 ∨ 77 = 116) by decide) (W_n W136 (by decide) (W_n W126 (by decide) rfl)))
        have t_162 : (M152.2.1 77 67).toInt = (N.2.1 77 67).toInt := congrArg Int32.toInt c_161
        have c_163 : M152.2.1 77 68 = (N.2.1 77 68) := (F_n F147 (show ¬ (77 = 77 ∧ (68 = 59 ∨ 68 = 66) ∨ 112 ≤ 77 ∧ 77 ≤ 114 ∧ 40 ≤ 68 ∨ 77 = 116) by decide) (W_n W136 (by decide) (W_n W126 (by decide) rfl)))
        have t_164 : (M152.2.1 77 68).toInt = (N.2.1 77 68).toInt := congrArg Int32.toInt c_163
        have c_165 : M152.2.1 77 69 = (N.2.1 77 69) := (F_n F147 (show ¬ (77 = 77 ∧ (69 = 59 ∨ 69 = 66) ∨ 112 ≤ 77 ∧ 77 ≤ 114 ∧ 40 ≤ 69 ∨ 77 = 116) by decide) (W_n W136 (by decide) (W_n W126 (by decide) rfl)))
        have t_166 : (M152.2.1 77 69).toInt = (N.2.1 77 69).toInt := congrArg Int32.toInt c_165
        have j_158 : QK M152 := QK_i (by unfold QK_c; rw [show ((M152.2.1 77 65).toInt).toNat = (v10.toInt).toNat by omega]; refine ⟨by omega, by omega, by omega, by omega⟩) (fun i z => by rw [(F_n F147 (show ¬ (115 = 77 ∧ (i = 59 ∨ i = 66) ∨ 112 ≤ 115 ∧ 115 ≤ 114 ∧ 40 ≤ i ∨ 115 = 116) by omega) (W_n W136 (by omega) (W_n W126 (by omega) rfl)))]; exact g2.2.1 i (by omega)) p_151
        refine to_go (pc := 74) rw_223_74 ?_
        have s_167 : Wo M152 ((M152.2.1 77 65).toInt).toNat = Wo M152 (v10.toInt).toNat := by rw [show ((M152.2.1 77 65).toInt).toNat = (v10.toInt).toNat by omega]
        exact ih M152 (.int v12) (.int (-1 : Int32)) (.int v141) hG148 F153 (by omega) j_158 (by omega) (by omega)
set_option maxRecDepth 4000 in
set_option maxHeartbeats 0 in
theorem C_223 {X : mm_X} {d : Nat} {M : mm_M} {Q : Option Value → mm_M → Prop} {l : Int32} (hX : g_X X) (hd : 1 ≤ d) (hG : g_G M) (q1 : 1 ≤ l.toInt) (q2 : l.toInt ≤ 3) (q3 : (M.2.1 77 68).toInt = 1) (q4 : QK M) (h : ∀ (M1 : mm_M), g_G M1 → FR md_bi M M1 → QK M1 → ((M1.2.1 77 59).toInt + Wo M1 ((M1.2.1 77 65).toInt).toNat = (M.2.1 77 59).toInt + Wo M ((M.2.1 77 65).toInt).toNat) → (l.toInt = 1 → (M1.2.1 77 65).toInt = 0 ∨ ((M1.2.1 115 (((M1.2.1 77 65).toInt).toNat - 1)).toInt = 0 ∨ (M1.2.1 115 (((M1.2.1 77 65).toInt).toNat - 1)).toInt = 1)) → Q (none) M1) : mm_T X d 222 0 [.ref 77, .int l, .null, .null, .null] [] M Q := by
  have F0 : FR md_bi M M := FR.rf
  have b_168 := g_b hG (a := 77) (i := 68) (lo := 0) (hi := 1) rfl rfl
  have b_169 := g_b hG (a := 77) (i := 59) (lo := 0) (hi := 40) rfl rfl
  have b_170 := g_b hG (a := 77) (i := 65) (lo := 0) (hi := 48) rfl rfl
  have b_171 := g_b hG (a := 77) (i := 66) (lo := 0) (hi := 40) rfl rfl
  have b_172 := g_b hG (a := 77) (i := 67) (lo := 0) (hi := 8) rfl rfl
  have b_173 := g_b hG (a := 77) (i := 69) (lo := 0) (hi := 40) rfl rfl
  have s_q := QK_e q4
  have s_w := Wx_b M ((M.2.1 77 65).toInt).toNat
  exact (T_223_0 (l := l) hX hd q1 q2 q3 q4 h (((M.2.1 77 65).toInt).toNat + 1)) M (.null) (.null) (.null) hG F0 (by omega) q4 rfl (by omega)
end
section
theorem tg_307 : ∀ a i : Nat, (a = 77 ∧ (i = 59 ∨ i = 65 ∨ i = 66) ∨ 112 ≤ a ∧ a ≤ 114 ∧ 40 ≤ i ∨ a = 116) → (a = 77 ∧ (i = 4 ∨ i = 5 ∨ 7 ≤ i ∧ i ≤ 10) ∨ a = 77 ∧ (i = 59 ∨ 65 ≤ i ∧ i ≤ 69) ∨ 112 ≤ a ∧ a ≤ 114 ∧ 40 ≤ i ∨ a = 115 ∨ a = 116) := fun a i z => by omega
theorem tg_308 : ∀ a i : Nat, (a = 77 ∧ 7 ≤ i ∧ i ≤ 10) → (a = 77 ∧ (i = 4 ∨ i = 5 ∨ 7 ≤ i ∧ i ≤ 10) ∨ a = 77 ∧ (i = 59 ∨ 65 ≤ i ∧ i ≤ 69) ∨ 112 ≤ a ∧ a ≤ 114 ∧ 40 ≤ i ∨ a = 115 ∨ a = 116) := fun a i z => by omega
set_option maxRecDepth 4000 in
set_option maxHeartbeats 0 in
theorem C_226 {X : mm_X} {d : Nat} {M : mm_M} {Q : Option Value → mm_M → Prop} (hX : g_X X) (hd : 2 ≤ d) (hG : g_G M) (q1 : (M.2.1 77 7).toInt ≤ (M.2.1 77 6).toInt) (q2 : QK M) (q3 : (M.2.1 77 68).toInt = 1) (h : ∀ (r : Int32) (M1 : mm_M), g_G M1 → FR md_qr M M1 → (0 ≤ r.toInt) → (r.toInt ≤ 1) → ((M1.2.1 77 7).toInt ≤ (M1.2.1 77 6).toInt) → ((M.2.1 77 7).toInt ≤ (M1.2.1 77 7).toInt) → (r.toInt = 1 → (M1.2.1 77 8).toInt = 0 ∨ (M.2.1 77 7).toInt < (M1.2.1 77 7).toInt) → (r.toInt = 1 → ¬ (M.2.1 77 8).toInt = 0) → (r.toInt = 1 → QK M1) → Q (some (.int r)) M1) : mm_T X d 225 0 [.ref 77, .null] [] M Q := by
  have F0 : FR md_qr M M := FR.rf
  have b_1 := g_b hG (a := 77) (i := 7) (lo := 0) (hi := 500) rfl rfl
  have b_2 := g_b hG (a := 77) (i := 6) (lo := 0) (hi := 500) rfl rfl
  have b_3 := g_b hG (a := 77) (i := 68) (lo := 0) (hi := 1) rfl rfl
  have b_4 := g_b hG (a := 77) (i := 59) (lo := 0) (hi := 40) rfl rfl
  have b_5 := g_b hG (a := 77) (i := 65) (lo := 0) (hi := 48) rfl rfl
  have b_6 := g_b hG (a := 77) (i := 66) (lo := 0) (hi := 40) rfl rfl
  have b_7 := g_b hG (a := 77) (i := 67) (lo := 0) (hi := 8) rfl rfl
  have b_8 := g_b hG (a := 77) (i := 69) (lo := 0) (hi := 40) rfl rfl
  have s_9 := QK_e q2
  have s_10 := Wx_b M ((M.2.1 77 65).toInt).toNat
  refine to_an (pc := 0) rw_226_0 rfl (to_c (pc := 1) rw_226_1 (x := (12 : Int32)) rfl rfl (s_v (pc := 3) rw_226_3 (dp0 hd (by decide)) (ls0 := [.ref 77, .int (12 : Int32)]) rfl (Nat.le_of_ble_eq_true rfl) (Nat.le_of_ble_eq_true rfl) rfl (to_rc rfl rfl rfl (g_o hG rfl)) rfl (to_an (pc := 0) rw_158_0 rfl ?_)))
  have b_11 := g_b hG (a := 77) (i := 8) (lo := 0) (hi := 5) rfl rfl
  refine tt_gI (pc := 1) rw_158_1 (g_o hG rfl) (v := (M.2.1 77 8)) rfl (to_c (pc := 4) rw_158_4 (x := (1 : Int32)) rfl rfl (b_cne (pc := 5) rw_158_5 (A := (M.2.1 77 8).toInt) (B := 1) rfl rfl (fun h12 => ?_) (fun h12 => ?_)))
  · refine to_c (pc := 20) rw_158_20 (x := (0 : Int32)) rfl rfl (s_r1 (pc := 21) rw_158_21 (A := 0) rfl (by decide) (b_ine_f (pc := 6) rw_226_6 (A := 0) rfl (by decide) (to_an (pc := 9) rw_226_9 rfl (to_c (pc := 10) rw_226_10 (x := (13 : Int32)) rfl rfl (s_v (pc := 12) rw_226_12 (dp0 hd (by decide)) (ls0 := [.ref 77, .int (13 : Int32)]) rfl (Nat.le_of_ble_eq_true rfl) (Nat.le_of_ble_eq_true rfl) rfl (to_rc rfl rfl rfl (g_o hG rfl)) rfl (to_an (pc := 0) rw_158_0 rfl (tt_gI (pc := 1) rw_158_1 (g_o hG rfl) (v := (M.2.1 77 8)) rfl (to_c (pc := 4) rw_158_4 (x := (1 : Int32)) rfl rfl (b_cne (pc := 5) rw_158_5 (A := (M.2.1 77 8).toInt) (B := 1) rfl rfl (fun h13 => ?_) (fun h13 => ?_))))))))))
    · refine to_c (pc := 20) rw_158_20 (x := (0 : Int32)) rfl rfl (s_r1 (pc := 21) rw_158_21 (A := 0) rfl (by decide) (b_ieq_t (pc := 15) rw_226_15 (A := 0) rfl (by decide) (to_an (pc := 82) rw_226_82 rfl (to_c (pc := 83) rw_226_83 (x := (41 : Int32)) rfl rfl (s_v (pc := 85) rw_226_85 (dp0 hd (by decide)) (ls0 := [.ref 77, .int (41 : Int32)]) rfl (Nat.le_of_ble_eq_true rfl) (Nat.le_of_ble_eq_true rfl) rfl (to_rc rfl rfl rfl (g_o hG rfl)) rfl (to_an (pc := 0) rw_159_0 rfl (tt_gI (pc := 1) rw_159_1 (g_o hG rfl) (v := (M.2.1 77 8)) rfl (to_c (pc := 4) rw_159_4 (x := (4 : Int32)) rfl rfl (b_cne (pc := 5) rw_159_5 (A := (M.2.1 77 8).toInt) (B := 4) rfl rfl (fun h14 => ?_) (fun h14 => ?_))))))))))
      · refine to_c (pc := 20) rw_159_20 (x := (0 : Int32)) rfl rfl (s_r1 (pc := 21) rw_159_21 (A := 0) rfl (by decide) (b_ieq_t (pc := 88) rw_226_88 (A := 0) rfl (by decide) (to_an (pc := 98) rw_226_98 rfl (to_c (pc := 99) rw_226_99 (x := (1 : Int32)) rfl rfl (s_v (pc := 100) rw_226_100 (dp0 hd (by decide)) (ls0 := [.ref 77, .int (1 : Int32)]) rfl (Nat.le_of_ble_eq_true rfl) (Nat.le_of_ble_eq_true rfl) rfl (to_rc rfl rfl rfl (g_o hG rfl)) rfl (to_an (pc := 0) rw_152_0 rfl (to_in (pc := 1) rw_152_1 rfl (s_pI (pc := 2) rw_152_2 hG rfl (fun M16 W15 => ?_)))))))))
        have hG17 := g_wf hG W15 rfl rfl (by decide)
        have F18 := FR.w F0 W15 (show 77 = 77 ∧ (4 = 4 ∨ 4 = 5 ∨ 7 ≤ 4 ∧ 4 ≤ 10) ∨ 77 = 77 ∧ (4 = 59 ∨ 65 ≤ 4 ∧ 4 ≤ 69) ∨ 112 ≤ 77 ∧ 77 ≤ 114 ∧ 40 ≤ 4 ∨ 77 = 115 ∨ 77 = 116 by decide)
        refine to_an (pc := 5) rw_152_5 rfl (to_an (pc := 6) rw_152_6 rfl ?_)
        have c_19 : M16.2.1 77 10 = (M.2.1 77 10) := (W_n W15 (by decide) rfl)
        have b_20 := g_b hG (a := 77) (i := 10) (lo := 0) (hi := 500) rfl rfl
        refine tt_gI (pc := 7) rw_152_7 (g_o hG17 rfl) (v := (M.2.1 77 10)) c_19 (s_pI (pc := 10) rw_152_10 hG17 rfl (fun M22 W21 => ?_))
        have hG23 := g_wf hG17 W21 rfl rfl (by decide)
        have F24 := FR.w F18 W21 (show 77 = 77 ∧ (5 = 4 ∨ 5 = 5 ∨ 7 ≤ 5 ∧ 5 ≤ 10) ∨ 77 = 77 ∧ (5 = 59 ∨ 65 ≤ 5 ∧ 5 ≤ 69) ∨ 112 ≤ 77 ∧ 77 ≤ 114 ∧ 40 ≤ 5 ∨ 77 = 115 ∨ 77 = 116 by decide)
        refine to_c (pc := 13) rw_152_13 (x := (0 : Int32)) rfl rfl (s_r1 (pc := 14) rw_152_14 (A := 0) rfl (by decide) (s_r1 (pc := 103) rw_226_103 (A := 0) rfl (by decide) ?_))
        have k_25 : (0 : Int32).toInt = 0 := rfl
        have c_26 : M22.2.1 77 7 = (M.2.1 77 7) := (W_n W21 (by decide) (W_n W15 (by decide) rfl))
        have t_27 : (M22.2.1 77 7).toInt = (M.2.1 77 7).toInt := congrArg Int32.toInt c_26
        have c_28 : M22.2.1 77 6 = (M.2.1 77 6) := (W_n W21 (by decide) (W_n W15 (by decide) rfl))
        have t_29 : (M22.2.1 77 6).toInt = (M.2.1 77 6).toInt := congrArg Int32.toInt c_28
        have c_30 : M22.2.1 77 8 = (M.2.1 77 8) := (W_n W21 (by decide) (W_n W15 (by decide) rfl))
        have t_31 : (M22.2.1 77 8).toInt = (M.2.1 77 8).toInt := congrArg Int32.toInt c_30
        exact h (0 : Int32) M22 hG23 F24 (by decide) (by decide) (by omega) (by omega) (by omega) (by omega) (fun z => absurd z (by omega))
      · refine to_an (pc := 8) rw_159_8 rfl (tt_gI (pc := 9) rw_159_9 (g_o hG rfl) (v := (M.2.1 77 9)) rfl (to_in (pc := 12) rw_159_12 rfl (b_cne (pc := 13) rw_159_13 (A := (M.2.1 77 9).toInt) (B := 41) rfl rfl (fun h32 => ?_) (fun h32 => ?_))))
        · refine to_c (pc := 20) rw_159_20 (x := (0 : Int32)) rfl rfl (s_r1 (pc := 21) rw_159_21 (A := 0) rfl (by decide) (b_ieq_t (pc := 88) rw_226_88 (A := 0) rfl (by decide) (to_an (pc := 98) rw_226_98 rfl (to_c (pc := 99) rw_226_99 (x := (1 : Int32)) rfl rfl (s_v (pc := 100) rw_226_100 (dp0 hd (by decide)) (ls0 := [.ref 77, .int (1 : Int32)]) rfl (Nat.le_of_ble_eq_true rfl) (Nat.le_of_ble_eq_true rfl) rfl (to_rc rfl rfl rfl (g_o hG rfl)) rfl (to_an (pc := 0) rw_152_0 rfl (to_in (pc := 1) rw_152_1 rfl (s_pI (pc := 2) rw_152_2 hG rfl (fun M34 W33 => ?_)))))))))
          have hG35 := g_wf hG W33 rfl rfl (by decide)
          have F36 := FR.w F0 W33 (show 77 = 77 ∧ (4 = 4 ∨ 4 = 5 ∨ 7 ≤ 4 ∧ 4 ≤ 10) ∨ 77 = 77 ∧ (4 = 59 ∨ 65 ≤ 4 ∧ 4 ≤ 69) ∨ 112 ≤ 77 ∧ 77 ≤ 114 ∧ 40 ≤ 4 ∨ 77 = 115 ∨ 77 = 116 by decide)
          refine to_an (pc := 5) rw_152_5 rfl (to_an (pc := 6) rw_152_6 rfl ?_)
          have c_37 : M34.2.1 77 10 = (M.2.1 77 10) := (W_n W33 (by decide) rfl)
          have b_38 := g_b hG (a := 77) (i := 10) (lo := 0) (hi := 500) rfl rfl
          refine tt_gI (pc := 7) rw_152_7 (g_o hG35 rfl) (v := (M.2.1 77 10)) c_37 (s_pI (pc := 10) rw_152_10 hG35 rfl (fun M40 W39 => ?_))
          have hG41 := g_wf hG35 W39 rfl rfl (by decide)
          have F42 := FR.w F36 W39 (show 77 = 77 ∧ (5 = 4 ∨ 5 = 5 ∨ 7 ≤ 5 ∧ 5 ≤ 10) ∨ 77 = 77 ∧ (5 = 59 ∨ 65 ≤ 5 ∧ 5 ≤ 69) ∨ 112 ≤ 77 ∧ 77 ≤ 114 ∧ 40 ≤ 5 ∨ 77 = 115 ∨ 77 = 116 by decide)
          refine to_c (pc := 13) rw_152_13 (x := (0 : Int32)) rfl rfl (s_r1 (pc := 14) rw_152_14 (A := 0) rfl (by decide) (s_r1 (pc := 103) rw_226_103 (A := 0) rfl (by decide) ?_))
          have k_43 : (0 : Int32).toInt = 0 := rfl
          have c_44 : M40.2.1 77 7 = (M.2.1 77 7) := (W_n W39 (by decide) (W_n W33 (by decide) rfl))
          have t_45 : (M40.2.1 77 7).toInt = (M.2.1 77 7).toInt := congrArg Int32.toInt c_44
          have c_46 : M40.2.1 77 6 = (M.2.1 77 6) := (W_n W39 (by decide) (W_n W33 (by decide) rfl))
          have t_47 : (M40.2.1 77 6).toInt = (M.2.1 77 6).toInt := congrArg Int32.toInt c_46
          have c_48 : M40.2.1 77 8 = (M.2.1 77 8) := (W_n W39 (by decide) (W_n W33 (by decide) rfl))
          have t_49 : (M40.2.1 77 8).toInt = (M.2.1 77 8).toInt := congrArg Int32.toInt c_48
          exact h (0 : Int32) M40 hG41 F42 (by decide) (by decide) (by omega) (by omega) (by omega) (by omega) (fun z => absurd z (by omega))
        · refine to_c (pc := 16) rw_159_16 (x := (1 : Int32)) rfl rfl (to_go (pc := 17) rw_159_17 (s_r1 (pc := 21) rw_159_21 (A := 1) rfl (by decide) (b_ieq_f (pc := 88) rw_226_88 (A := 1) rfl (by decide) (to_an (pc := 91) rw_226_91 rfl (tt_gI (pc := 92) rw_226_92 (g_o hG rfl) (v := (M.2.1 77 67)) rfl (b_ine (pc := 95) rw_226_95 (A := (M.2.1 77 67).toInt) rfl (fun h50 => ?_) (fun h50 => ?_)))))))
          · refine to_an (pc := 104) rw_226_104 rfl (to_c (pc := 105) rw_226_105 (x := (1 : Int32)) rfl rfl (s_v (pc := 106) rw_226_106 (dp0 hd (by decide)) (ls0 := [.ref 77, .int (1 : Int32), .null, .null, .null]) rfl (Nat.le_of_ble_eq_true rfl) (Nat.le_of_ble_eq_true rfl) rfl (to_rc rfl rfl rfl (g_o hG rfl)) rfl ?_))
            have k_51 : (1 : Int32).toInt = 1 := rfl
            refine C_223 hX (dp1 hd (by decide)) hG (by omega) (by omega) (by omega) q2 (l := (1 : Int32)) (fun M58 hG54 F53 p_55 p_56 p_57 => ?_)
            have F59 := FR.c F0 F53 tg_307
            have s_60 := p_56
            have b_61 := g_b hG54 (a := 77) (i := 59) (lo := 0) (hi := 40) rfl rfl
            have b_62 := g_b hG54 (a := 77) (i := 65) (lo := 0) (hi := 48) rfl rfl
            have b_63 := g_b hG54 (a := 77) (i := 66) (lo := 0) (hi := 40) rfl rfl
            have c_64 : M58.2.1 77 67 = (M.2.1 77 67) := (F_n F53 (show ¬ (77 = 77 ∧ (67 = 59 ∨ 67 = 65 ∨ 67 = 66) ∨ 112 ≤ 77 ∧ 77 ≤ 114 ∧ 40 ≤ 67 ∨ 77 = 116) by decide) rfl)
            have t_65 : (M58.2.1 77 67).toInt = (M.2.1 77 67).toInt := congrArg Int32.toInt c_64
            have c_66 : M58.2.1 77 68 = (M.2.1 77 68) := (F_n F53 (show ¬ (77 = 77 ∧ (68 = 59 ∨ 68 = 65 ∨ 68 = 66) ∨ 112 ≤ 77 ∧ 77 ≤ 114 ∧ 40 ≤ 68 ∨ 77 = 116) by decide) rfl)
            have t_67 : (M58.2.1 77 68).toInt = (M.2.1 77 68).toInt := congrArg Int32.toInt c_66
            have c_68 : M58.2.1 77 69 = (M.2.1 77 69) := (F_n F53 (show ¬ (77 = 77 ∧ (69 = 59 ∨ 69 = 65 ∨ 69 = 66) ∨ 112 ≤ 77 ∧ 77 ≤ 114 ∧ 40 ≤ 69 ∨ 77 = 116) by decide) rfl)
            have t_69 : (M58.2.1 77 69).toInt = (M.2.1 77 69).toInt := congrArg Int32.toInt c_68
            have s_70 := QK_e p_55
            have s_71 := Wx_b M58 ((M58.2.1 77 65).toInt).toNat
            have s_t := p_57 rfl
            have s_n := p_55.2.1 (((M58.2.1 77 65).toInt).toNat - 1)
            have s_s := Wx_s M58 (((M58.2.1 77 65).toInt).toNat - 1)
            have s_p : 1 ≤ (M58.2.1 77 65).toInt := by omega
            rw [show ((M58.2.1 77 65).toInt).toNat - 1 + 1 = ((M58.2.1 77 65).toInt).toNat by omega] at s_s
            have s_n := s_n (by omega)
            have s_z : (M58.2.1 115 (((M58.2.1 77 65).toInt).toNat - 1)).toInt = 0 := by omega
            have s_s := s_s.1 s_z
            refine to_an (pc := 109) rw_226_109 rfl (to_dupr (pc := 110) rw_226_110 (tt_gI (pc := 111) rw_226_111 (g_o hG54 rfl) (v := (M58.2.1 77 65)) rfl (to_c (pc := 114) rw_226_114 (x := (1 : Int32)) rfl rfl (s_sub (pc := 115) rw_226_115 (A := (M58.2.1 77 65).toInt) (B := 1) rfl rfl (by omega) (fun v72 e73 => s_pI (pc := 116) rw_226_116 hG54 rfl (fun M75 W74 => ?_))))))
            have hG76 := g_w hG54 W74 (A := v72.toInt) rfl (lo := 0) (hi := 48) rfl rfl (by omega) (by decide)
            have F77 := FR.w F59 W74 (show 77 = 77 ∧ (65 = 4 ∨ 65 = 5 ∨ 7 ≤ 65 ∧ 65 ≤ 10) ∨ 77 = 77 ∧ (65 = 59 ∨ 65 ≤ 65 ∧ 65 ≤ 69) ∨ 112 ≤ 77 ∧ 77 ≤ 114 ∧ 40 ≤ 65 ∨ 77 = 115 ∨ 77 = 116 by decide)
            refine to_an (pc := 119) rw_226_119 rfl (to_dupr (pc := 120) rw_226_120 ?_)
            have c_78 : M75.2.1 77 67 = (M.2.1 77 67) := (W_n W74 (by decide) c_64)
            refine tt_gI (pc := 121) rw_226_121 (g_o hG76 rfl) (v := (M.2.1 77 67)) c_78 (to_c (pc := 124) rw_226_124 (x := (1 : Int32)) rfl rfl (s_sub (pc := 125) rw_226_125 (A := (M.2.1 77 67).toInt) (B := 1) rfl rfl (by omega) (fun v79 e80 => s_pI (pc := 126) rw_226_126 hG76 rfl (fun M82 W81 => ?_))))
            have hG83 := g_w hG76 W81 (A := v79.toInt) rfl (lo := 0) (hi := 8) rfl rfl (by omega) (by decide)
            have F84 := FR.w F77 W81 (show 77 = 77 ∧ (67 = 4 ∨ 67 = 5 ∨ 7 ≤ 67 ∧ 67 ≤ 10) ∨ 77 = 77 ∧ (67 = 59 ∨ 65 ≤ 67 ∧ 67 ≤ 69) ∨ 112 ≤ 77 ∧ 77 ≤ 114 ∧ 40 ≤ 67 ∨ 77 = 115 ∨ 77 = 116 by decide)
            refine to_an (pc := 129) rw_226_129 rfl (s_v (pc := 130) rw_226_130 (dp0 hd (by decide)) (ls0 := [.ref 77]) rfl (Nat.le_of_ble_eq_true rfl) (Nat.le_of_ble_eq_true rfl) rfl (to_rc rfl rfl rfl (g_o hG83 rfl)) rfl ?_)
            have c_85 : M82.2.1 77 7 = (M.2.1 77 7) := (W_n W81 (by decide) (W_n W74 (by decide) (F_n F53 (show ¬ (77 = 77 ∧ (7 = 59 ∨ 7 = 65 ∨ 7 = 66) ∨ 112 ≤ 77 ∧ 77 ≤ 114 ∧ 40 ≤ 7 ∨ 77 = 116) by decide) rfl)))
            have t_86 : (M82.2.1 77 7).toInt = (M.2.1 77 7).toInt := congrArg Int32.toInt c_85
            have c_87 : M82.2.1 77 6 = (M.2.1 77 6) := (W_n W81 (by decide) (W_n W74 (by decide) (F_n F53 (show ¬ (77 = 77 ∧ (6 = 59 ∨ 6 = 65 ∨ 6 = 66) ∨ 112 ≤ 77 ∧ 77 ≤ 114 ∧ 40 ≤ 6 ∨ 77 = 116) by decide) rfl)))
            have t_88 : (M82.2.1 77 6).toInt = (M.2.1 77 6).toInt := congrArg Int32.toInt c_87
            refine C_156 hX (dp1 hd (by decide)) hG83 (by omega)  (fun M94 hG90 F89 p_91 p_92 p_93 => ?_)
            have F95 := FR.c F84 F89 tg_308
            have b_96 := g_b hG90 (a := 77) (i := 7) (lo := 0) (hi := 500) rfl rfl
            have c_97 : M94.2.1 77 6 = (M.2.1 77 6) := (F_n F89 (show ¬ (77 = 77 ∧ 7 ≤ 6 ∧ 6 ≤ 10) by decide) c_87)
            have t_98 : (M94.2.1 77 6).toInt = (M.2.1 77 6).toInt := congrArg Int32.toInt c_97
            have b_99 := g_b hG90 (a := 77) (i := 8) (lo := 0) (hi := 5) rfl rfl
            refine to_c (pc := 133) rw_226_133 (x := (1 : Int32)) rfl rfl (s_r1 (pc := 134) rw_226_134 (A := 1) rfl (by decide) ?_)
            have c_100 : M94.2.1 77 59 = (M58.2.1 77 59) := (F_n F89 (show ¬ (77 = 77 ∧ 7 ≤ 59 ∧ 59 ≤ 10) by decide) (W_n W81 (by decide) (W_n W74 (by decide) rfl)))
            have t_101 : (M94.2.1 77 59).toInt = (M58.2.1 77 59).toInt := congrArg Int32.toInt c_100
            have c_102 : M94.2.1 77 65 = v72 := (F_n F89 (show ¬ (77 = 77 ∧ 7 ≤ 65 ∧ 65 ≤ 10) by decide) (W_n W81 (by decide) (W_e W74)))
            have t_103 : (M94.2.1 77 65).toInt = v72.toInt := congrArg Int32.toInt c_102
            have c_104 : M94.2.1 77 66 = (M58.2.1 77 66) := (F_n F89 (show ¬ (77 = 77 ∧ 7 ≤ 66 ∧ 66 ≤ 10) by decide) (W_n W81 (by decide) (W_n W74 (by decide) rfl)))
            have t_105 : (M94.2.1 77 66).toInt = (M58.2.1 77 66).toInt := congrArg Int32.toInt c_104
            have c_106 : M94.2.1 77 67 = v79 := (F_n F89 (show ¬ (77 = 77 ∧ 7 ≤ 67 ∧ 67 ≤ 10) by decide) (W_e W81))
            have t_107 : (M94.2.1 77 67).toInt = v79.toInt := congrArg Int32.toInt c_106
            have c_108 : M94.2.1 77 68 = (M.2.1 77 68) := (F_n F89 (show ¬ (77 = 77 ∧ 7 ≤ 68 ∧ 68 ≤ 10) by decide) (W_n W81 (by decide) (W_n W74 (by decide) c_66)))
            have t_109 : (M94.2.1 77 68).toInt = (M.2.1 77 68).toInt := congrArg Int32.toInt c_108
            have c_110 : M94.2.1 77 69 = (M.2.1 77 69) := (F_n F89 (show ¬ (77 = 77 ∧ 7 ≤ 69 ∧ 69 ≤ 10) by decide) (W_n W81 (by decide) (W_n W74 (by decide) c_68)))
            have t_111 : (M94.2.1 77 69).toInt = (M.2.1 77 69).toInt := congrArg Int32.toInt c_110
            have s_113 := Wx_f (M := M58) (M1 := M94) (((M58.2.1 77 65).toInt).toNat - 1) (fun i z => (F_n F89 (show ¬ (115 = 77 ∧ 7 ≤ i ∧ i ≤ 10) by omega) (W_n W81 (by omega) (W_n W74 (by omega) rfl))))
            have j_112 : QK M94 := QK_i (by unfold QK_c; rw [show ((M94.2.1 77 65).toInt).toNat = ((M58.2.1 77 65).toInt).toNat - 1 by omega]; refine ⟨by omega, by omega, by omega, by omega⟩) (fun i z => by rw [(F_n F89 (show ¬ (115 = 77 ∧ 7 ≤ i ∧ i ≤ 10) by omega) (W_n W81 (by omega) (W_n W74 (by omega) rfl)))]; exact p_55.2.1 i (by omega)) (by rw [(F_n F89 (show ¬ (77 = 77 ∧ 7 ≤ 59 ∧ 59 ≤ 10) by decide) (W_n W81 (by omega) (W_n W74 (by omega) rfl)))]; exact KN_f (fun a i z => (F_n F89 (show ¬ (a = 77 ∧ 7 ≤ i ∧ i ≤ 10) by omega) (W_n W81 (by /-r77,67-/ omega) (W_n W74 (by /-r77,65-/ omega) rfl)))) p_55.2.2)
            exact h (1 : Int32) M94 hG90 F95 (by decide) (by decide) (by omega) (by omega) (by omega) (by omega) (fun _ => j_112)
          · refine to_an (pc := 98) rw_226_98 rfl (to_c (pc := 99) rw_226_99 (x := (1 : Int32)) rfl rfl (s_v (pc := 100) rw_226_100 (dp0 hd (by decide)) (ls0 := [.ref 77, .int (1 : Int32)]) rfl (Nat.le_of_ble_eq_true rfl) (Nat.le_of_ble_eq_true rfl) rfl (to_rc rfl rfl rfl (g_o hG rfl)) rfl (to_an (pc := 0) rw_152_0 rfl (to_in (pc := 1) rw_152_1 rfl (s_pI (pc := 2) rw_152_2 hG rfl (fun M115 W114 => ?_))))))
            have hG116 := g_wf hG W114 rfl rfl (by decide)
            have F117 := FR.w F0 W114 (show 77 = 77 ∧ (4 = 4 ∨ 4 = 5 ∨ 7 ≤ 4 ∧ 4 ≤ 10) ∨ 77 = 77 ∧ (4 = 59 ∨ 65 ≤ 4 ∧ 4 ≤ 69) ∨ 112 ≤ 77 ∧ 77 ≤ 114 ∧ 40 ≤ 4 ∨ 77 = 115 ∨ 77 = 116 by decide)
            refine to_an (pc := 5) rw_152_5 rfl (to_an (pc := 6) rw_152_6 rfl ?_)
            have c_118 : M115.2.1 77 10 = (M.2.1 77 10) := (W_n W114 (by decide) rfl)
            have b_119 := g_b hG (a := 77) (i := 10) (lo := 0) (hi := 500) rfl rfl
            refine tt_gI (pc := 7) rw_152_7 (g_o hG116 rfl) (v := (M.2.1 77 10)) c_118 (s_pI (pc := 10) rw_152_10 hG116 rfl (fun M121 W120 => ?_))
            have hG122 := g_wf hG116 W120 rfl rfl (by decide)
            have F123 := FR.w F117 W120 (show 77 = 77 ∧ (5 = 4 ∨ 5 = 5 ∨ 7 ≤ 5 ∧ 5 ≤ 10) ∨ 77 = 77 ∧ (5 = 59 ∨ 65 ≤ 5 ∧ 5 ≤ 69) ∨ 112 ≤ 77 ∧ 77 ≤ 114 ∧ 40 ≤ 5 ∨ 77 = 115 ∨ 77 = 116 by decide)
            refine to_c (pc := 13) rw_152_13 (x := (0 : Int32)) rfl rfl (s_r1 (pc := 14) rw_152_14 (A := 0) rfl (by decide) (s_r1 (pc := 103) rw_226_103 (A := 0) rfl (by decide) ?_))
            have k_124 : (0 : Int32).toInt = 0 := rfl
            have c_125 : M121.2.1 77 7 = (M.2.1 77 7) := (W_n W120 (by decide) (W_n W114 (by decide) rfl))
            have t_126 : (M121.2.1 77 7).toInt = (M.2.1 77 7).toInt := congrArg Int32.toInt c_125
            have c_127 : M121.2.1 77 6 = (M.2.1 77 6) := (W_n W120 (by decide) (W_n W114 (by decide) rfl))
            have t_128 : (M121.2.1 77 6).toInt = (M.2.1 77 6).toInt := congrArg Int32.toInt c_127
            have c_129 : M121.2.1 77 8 = (M.2.1 77 8) := (W_n W120 (by decide) (W_n W114 (by decide) rfl))
            have t_130 : (M121.2.1 77 8).toInt = (M.2.1 77 8).toInt := congrArg Int32.toInt c_129
            exact h (0 : Int32) M121 hG122 F123 (by decide) (by decide) (by omega) (by omega) (by omega) (by omega) (fun z => absurd z (by omega))
    · refine to_an (pc := 8) rw_158_8 rfl (tt_gI (pc := 9) rw_158_9 (g_o hG rfl) (v := (M.2.1 77 9)) rfl (to_in (pc := 12) rw_158_12 rfl (b_cne (pc := 13) rw_158_13 (A := (M.2.1 77 9).toInt) (B := 13) rfl rfl (fun h131 => ?_) (fun h131 => ?_))))
      · refine to_c (pc := 20) rw_158_20 (x := (0 : Int32)) rfl rfl (s_r1 (pc := 21) rw_158_21 (A := 0) rfl (by decide) (b_ieq_t (pc := 15) rw_226_15 (A := 0) rfl (by decide) (to_an (pc := 82) rw_226_82 rfl (to_c (pc := 83) rw_226_83 (x := (41 : Int32)) rfl rfl (s_v (pc := 85) rw_226_85 (dp0 hd (by decide)) (ls0 := [.ref 77, .int (41 : Int32)]) rfl (Nat.le_of_ble_eq_true rfl) (Nat.le_of_ble_eq_true rfl) rfl (to_rc rfl rfl rfl (g_o hG rfl)) rfl (to_an (pc := 0) rw_159_0 rfl (tt_gI (pc := 1) rw_159_1 (g_o hG rfl) (v := (M.2.1 77 8)) rfl (to_c (pc := 4) rw_159_4 (x := (4 : Int32)) rfl rfl (b_cne_t (pc := 5) rw_159_5 (A := (M.2.1 77 8).toInt) (B := 4) rfl rfl (by omega) (to_c (pc := 20) rw_159_20 (x := (0 : Int32)) rfl rfl (s_r1 (pc := 21) rw_159_21 (A := 0) rfl (by decide) ?_)))))))))))
        refine b_ieq_t (pc := 88) rw_226_88 (A := 0) rfl (by decide) (to_an (pc := 98) rw_226_98 rfl (to_c (pc := 99) rw_226_99 (x := (1 : Int32)) rfl rfl (s_v (pc := 100) rw_226_100 (dp0 hd (by decide)) (ls0 := [.ref 77, .int (1 : Int32)]) rfl (Nat.le_of_ble_eq_true rfl) (Nat.le_of_ble_eq_true rfl) rfl (to_rc rfl rfl rfl (g_o hG rfl)) rfl (to_an (pc := 0) rw_152_0 rfl (to_in (pc := 1) rw_152_1 rfl (s_pI (pc := 2) rw_152_2 hG rfl (fun M133 W132 => ?_)))))))
        have hG134 := g_wf hG W132 rfl rfl (by decide)
        have F135 := FR.w F0 W132 (show 77 = 77 ∧ (4 = 4 ∨ 4 = 5 ∨ 7 ≤ 4 ∧ 4 ≤ 10) ∨ 77 = 77 ∧ (4 = 59 ∨ 65 ≤ 4 ∧ 4 ≤ 69) ∨ 112 ≤ 77 ∧ 77 ≤ 114 ∧ 40 ≤ 4 ∨ 77 = 115 ∨ 77 = 116 by decide)
        refine to_an (pc := 5) rw_152_5 rfl (to_an (pc := 6) rw_152_6 rfl ?_)
        have c_136 : M133.2.1 77 10 = (M.2.1 77 10) := (W_n W132 (by decide) rfl)
        have b_137 := g_b hG (a := 77) (i := 10) (lo := 0) (hi := 500) rfl rfl
        refine tt_gI (pc := 7) rw_152_7 (g_o hG134 rfl) (v := (M.2.1 77 10)) c_136 (s_pI (pc := 10) rw_152_10 hG134 rfl (fun M139 W138 => ?_))
        have hG140 := g_wf hG134 W138 rfl rfl (by decide)
        have F141 := FR.w F135 W138 (show 77 = 77 ∧ (5 = 4 ∨ 5 = 5 ∨ 7 ≤ 5 ∧ 5 ≤ 10) ∨ 77 = 77 ∧ (5 = 59 ∨ 65 ≤ 5 ∧ 5 ≤ 69) ∨ 112 ≤ 77 ∧ 77 ≤ 114 ∧ 40 ≤ 5 ∨ 77 = 115 ∨ 77 = 116 by decide)
        refine to_c (pc := 13) rw_152_13 (x := (0 : Int32)) rfl rfl (s_r1 (pc := 14) rw_152_14 (A := 0) rfl (by decide) (s_r1 (pc := 103) rw_226_103 (A := 0) rfl (by decide) ?_))
        have k_142 : (0 : Int32).toInt = 0 := rfl
        have c_143 : M139.2.1 77 7 = (M.2.1 77 7) := (W_n W138 (by decide) (W_n W132 (by decide) rfl))
        have t_144 : (M139.2.1 77 7).toInt = (M.2.1 77 7).toInt := congrArg Int32.toInt c_143
        have c_145 : M139.2.1 77 6 = (M.2.1 77 6) := (W_n W138 (by decide) (W_n W132 (by decide) rfl))
        have t_146 : (M139.2.1 77 6).toInt = (M.2.1 77 6).toInt := congrArg Int32.toInt c_145
        have c_147 : M139.2.1 77 8 = (M.2.1 77 8) := (W_n W138 (by decide) (W_n W132 (by decide) rfl))
        have t_148 : (M139.2.1 77 8).toInt = (M.2.1 77 8).toInt := congrArg Int32.toInt c_147
        exact h (0 : Int32) M139 hG140 F141 (by decide) (by decide) (by omega) (by omega) (by omega) (by omega) (fun z => absurd z (by omega))
      · refine to_c (pc := 16) rw_158_16 (x := (1 : Int32)) rfl rfl (to_go (pc := 17) rw_158_17 (s_r1 (pc := 21) rw_158_21 (A := 1) rfl (by decide) (b_ieq_f (pc := 15) rw_226_15 (A := 1) rfl (by decide) (to_an (pc := 18) rw_226_18 rfl (tt_gI (pc := 19) rw_226_19 (g_o hG rfl) (v := (M.2.1 77 9)) rfl (to_c (pc := 22) rw_226_22 (x := (12 : Int32)) rfl rfl (b_cne_t (pc := 24) rw_226_24 (A := (M.2.1 77 9).toInt) (B := 12) rfl rfl (by omega) (to_c (pc := 31) rw_226_31 (x := (4 : Int32)) rfl rfl (to_isn (pc := 32) rw_226_32 (ls2 := [.ref 77, .int (4 : Int32)]) rfl rfl (to_an (pc := 33) rw_226_33 rfl (s_v (pc := 34) rw_226_34 (dp0 hd (by decide)) (ls0 := [.ref 77]) rfl (Nat.le_of_ble_eq_true rfl) (Nat.le_of_ble_eq_true rfl) rfl (to_rc rfl rfl rfl (g_o hG rfl)) rfl ?_)))))))))))
        refine to_an (pc := 0) rw_224_0 rfl (tt_gI (pc := 1) rw_224_1 (g_o hG rfl) (v := (M.2.1 77 69)) rfl (to_c (pc := 4) rw_224_4 (x := (40 : Int32)) rfl rfl (b_cne (pc := 6) rw_224_6 (A := (M.2.1 77 69).toInt) (B := 40) rfl rfl (fun h149 => ?_) (fun h149 => ?_))))
        · refine to_an (pc := 15) rw_224_15 rfl (to_dupr (pc := 16) rw_224_16 (tt_gI (pc := 17) rw_224_17 (g_o hG rfl) (v := (M.2.1 77 69)) rfl (to_c (pc := 20) rw_224_20 (x := (1 : Int32)) rfl rfl (s_add (pc := 21) rw_224_21 (A := (M.2.1 77 69).toInt) (B := 1) rfl rfl (by omega) (fun v150 e151 => s_pI (pc := 22) rw_224_22 hG rfl (fun M153 W152 => ?_))))))
          have hG154 := g_w hG W152 (A := v150.toInt) rfl (lo := 0) (hi := 40) rfl rfl (by omega) (by decide)
          have F155 := FR.w F0 W152 (show 77 = 77 ∧ (69 = 4 ∨ 69 = 5 ∨ 7 ≤ 69 ∧ 69 ≤ 10) ∨ 77 = 77 ∧ (69 = 59 ∨ 65 ≤ 69 ∧ 69 ≤ 69) ∨ 112 ≤ 77 ∧ 77 ≤ 114 ∧ 40 ≤ 69 ∨ 77 = 115 ∨ 77 = 116 by decide)
          refine to_c (pc := 25) rw_224_25 (x := (1 : Int32)) rfl rfl (s_r1 (pc := 26) rw_224_26 (A := 1) rfl (by decide) (b_ine_t (pc := 37) rw_226_37 (A := 1) rfl (by decide) (to_an (pc := 42) rw_226_42 rfl (to_an (pc := 43) rw_226_43 rfl (to_in (pc := 44) rw_226_44 rfl (s_v (pc := 45) rw_226_45 (dp0 hd (by decide)) (ls0 := [.ref 77, .int (4 : Int32)]) rfl (Nat.le_of_ble_eq_true rfl) (Nat.le_of_ble_eq_true rfl) rfl (to_rc rfl rfl rfl (g_o hG154 rfl)) rfl (to_in (pc := 0) rw_220_0 rfl (to_c (pc := 1) rw_220_1 (x := (2 : Int32)) rfl rfl (b_cne_t (pc := 2) rw_220_2 (A := 4) (B := 2) rfl rfl (by decide) (to_in (pc := 9) rw_220_9 rfl (to_c (pc := 10) rw_220_10 (x := (3 : Int32)) rfl rfl ?_)))))))))))
          refine b_cne_t (pc := 11) rw_220_11 (A := 4) (B := 3) rfl rfl (by decide) (to_in (pc := 18) rw_220_18 rfl (to_c (pc := 19) rw_220_19 (x := (4 : Int32)) rfl rfl (b_cne_f (pc := 20) rw_220_20 (A := 4) (B := 4) rfl rfl (by decide) (to_c (pc := 23) rw_220_23 (x := (1 : Int32)) rfl rfl (to_go (pc := 24) rw_220_24 (to_r0 (pc := 28) rw_220_28 (s_v (pc := 48) rw_226_48 (dp0 hd (by decide)) (ls0 := [.ref 77, .int (1 : Int32), .null, .null, .null]) rfl (Nat.le_of_ble_eq_true rfl) (Nat.le_of_ble_eq_true rfl) rfl (to_rc rfl rfl rfl (g_o hG154 rfl)) rfl ?_)))))))
          have k_156 : (1 : Int32).toInt = 1 := rfl
          have c_157 : M153.2.1 77 59 = (M.2.1 77 59) := (W_n W152 (by decide) rfl)
          have t_158 : (M153.2.1 77 59).toInt = (M.2.1 77 59).toInt := congrArg Int32.toInt c_157
          have c_159 : M153.2.1 77 65 = (M.2.1 77 65) := (W_n W152 (by decide) rfl)
          have t_160 : (M153.2.1 77 65).toInt = (M.2.1 77 65).toInt := congrArg Int32.toInt c_159
          have c_161 : M153.2.1 77 66 = (M.2.1 77 66) := (W_n W152 (by decide) rfl)
          have t_162 : (M153.2.1 77 66).toInt = (M.2.1 77 66).toInt := congrArg Int32.toInt c_161
          have c_163 : M153.2.1 77 67 = (M.2.1 77 67) := (W_n W152 (by decide) rfl)
          have t_164 : (M153.2.1 77 67).toInt = (M.2.1 77 67).toInt := congrArg Int32.toInt c_163
          have c_165 : M153.2.1 77 68 = (M.2.1 77 68) := (W_n W152 (by decide) rfl)
          have t_166 : (M153.2.1 77 68).toInt = (M.2.1 77 68).toInt := congrArg Int32.toInt c_165
          have c_167 : M153.2.1 77 69 = v150 := (W_e W152)
          have t_168 : (M153.2.1 77 69).toInt = v150.toInt := congrArg Int32.toInt c_167
          have s_170 := Wx_f (M := M) (M1 := M153) ((M.2.1 77 65).toInt).toNat (fun i z => (W_n W152 (by omega) rfl))
          have j_169 : QK M153 := QK_i (by unfold QK_c; rw [show ((M153.2.1 77 65).toInt).toNat = ((M.2.1 77 65).toInt).toNat by omega]; refine ⟨by omega, by omega, by omega, by omega⟩) (fun i z => by rw [(W_n W152 (by omega) rfl)]; exact q2.2.1 i (by omega)) (by rw [(W_n W152 (by omega) rfl)]; exact KN_f (fun a i z => (W_n W152 (by /-r77,69-/ omega) rfl)) q2.2.2)
          refine C_223 hX (dp1 hd (by decide)) hG154 (by omega) (by omega) (by omega) j_169 (l := (1 : Int32)) (fun M176 hG172 F171 p_173 p_174 p_175 => ?_)
          have F177 := FR.c F155 F171 tg_307
          have s_178 := p_174
          have s_179 : Wo M153 ((M153.2.1 77 65).toInt).toNat = Wo M ((M.2.1 77 65).toInt).toNat := by rw [show (M153.2.1 77 65) = (M.2.1 77 65) from (W_n W152 (by omega) rfl)]; exact (Wx_f (M := M) (M1 := M153) _ (fun i z => (W_n W152 (by omega) rfl))).1
          have b_180 := g_b hG172 (a := 77) (i := 59) (lo := 0) (hi := 40) rfl rfl
          have b_181 := g_b hG172 (a := 77) (i := 65) (lo := 0) (hi := 48) rfl rfl
          have b_182 := g_b hG172 (a := 77) (i := 66) (lo := 0) (hi := 40) rfl rfl
          have c_183 : M176.2.1 77 67 = (M.2.1 77 67) := (F_n F171 (show ¬ (77 = 77 ∧ (67 = 59 ∨ 67 = 65 ∨ 67 = 66) ∨ 112 ≤ 77 ∧ 77 ≤ 114 ∧ 40 ≤ 67 ∨ 77 = 116) by decide) c_163)
          have t_184 : (M176.2.1 77 67).toInt = (M.2.1 77 67).toInt := congrArg Int32.toInt c_183
          have c_185 : M176.2.1 77 68 = (M.2.1 77 68) := (F_n F171 (show ¬ (77 = 77 ∧ (68 = 59 ∨ 68 = 65 ∨ 68 = 66) ∨ 112 ≤ 77 ∧ 77 ≤ 114 ∧ 40 ≤ 68 ∨ 77 = 116) by decide) c_165)
          have t_186 : (M176.2.1 77 68).toInt = (M.2.1 77 68).toInt := congrArg Int32.toInt c_185
          have c_187 : M176.2.1 77 69 = v150 := (F_n F171 (show ¬ (77 = 77 ∧ (69 = 59 ∨ 69 = 65 ∨ 69 = 66) ∨ 112 ≤ 77 ∧ 77 ≤ 114 ∧ 40 ≤ 69 ∨ 77 = 116) by decide) c_167)
          have t_188 : (M176.2.1 77 69).toInt = v150.toInt := congrArg Int32.toInt c_187
          have s_189 := QK_e p_173
          have s_190 := Wx_b M176 ((M176.2.1 77 65).toInt).toNat
          refine to_an (pc := 51) rw_226_51 rfl (s_gR (pc := 52) rw_226_52 hG172 rfl (v := 115) rfl (to_an (pc := 55) rw_226_55 rfl (tt_gI (pc := 56) rw_226_56 (g_o hG172 rfl) (v := (M176.2.1 77 65)) rfl (to_in (pc := 59) rw_226_59 rfl (s_ias (pc := 60) rw_226_60 hG172 rfl (n := 64) rfl (A := (M176.2.1 77 65).toInt) rfl (by omega) (by omega) (fun M192 W191 => ?_))))))
          have hG193 := g_w hG172 W191 (A := 4) rfl (lo := 0) (hi := 4) rfl rfl (by omega) (by decide)
          have F194 := FR.w F177 W191 (show 115 = 77 ∧ (((M176.2.1 77 65).toInt).toNat = 4 ∨ ((M176.2.1 77 65).toInt).toNat = 5 ∨ 7 ≤ ((M176.2.1 77 65).toInt).toNat ∧ ((M176.2.1 77 65).toInt).toNat ≤ 10) ∨ 115 = 77 ∧ (((M176.2.1 77 65).toInt).toNat = 59 ∨ 65 ≤ ((M176.2.1 77 65).toInt).toNat ∧ ((M176.2.1 77 65).toInt).toNat ≤ 69) ∨ 112 ≤ 115 ∧ 115 ≤ 114 ∧ 40 ≤ ((M176.2.1 77 65).toInt).toNat ∨ 115 = 115 ∨ 115 = 116 by omega)
          refine to_an (pc := 61) rw_226_61 rfl (to_dupr (pc := 62) rw_226_62 ?_)
          have c_195 : M192.2.1 77 65 = (M176.2.1 77 65) := (W_n W191 (fun z => absurd z.1 (by decide)) rfl)
          refine tt_gI (pc := 63) rw_226_63 (g_o hG193 rfl) (v := (M176.2.1 77 65)) c_195 (to_c (pc := 66) rw_226_66 (x := (1 : Int32)) rfl rfl (s_add (pc := 67) rw_226_67 (A := (M176.2.1 77 65).toInt) (B := 1) rfl rfl (by omega) (fun v196 e197 => s_pI (pc := 68) rw_226_68 hG193 rfl (fun M199 W198 => ?_))))
          have hG200 := g_w hG193 W198 (A := v196.toInt) rfl (lo := 0) (hi := 48) rfl rfl (by omega) (by decide)
          have F201 := FR.w F194 W198 (show 77 = 77 ∧ (65 = 4 ∨ 65 = 5 ∨ 7 ≤ 65 ∧ 65 ≤ 10) ∨ 77 = 77 ∧ (65 = 59 ∨ 65 ≤ 65 ∧ 65 ≤ 69) ∨ 112 ≤ 77 ∧ 77 ≤ 114 ∧ 40 ≤ 65 ∨ 77 = 115 ∨ 77 = 116 by decide)
          refine to_an (pc := 71) rw_226_71 rfl (to_c (pc := 72) rw_226_72 (x := (0 : Int32)) rfl rfl (s_pI (pc := 73) rw_226_73 hG200 rfl (fun M203 W202 => ?_)))
          have hG204 := g_w hG200 W202 (A := 0) rfl (lo := 0) (hi := 1) rfl rfl (by omega) (by decide)
          have F205 := FR.w F201 W202 (show 77 = 77 ∧ (68 = 4 ∨ 68 = 5 ∨ 7 ≤ 68 ∧ 68 ≤ 10) ∨ 77 = 77 ∧ (68 = 59 ∨ 65 ≤ 68 ∧ 68 ≤ 69) ∨ 112 ≤ 77 ∧ 77 ≤ 114 ∧ 40 ≤ 68 ∨ 77 = 115 ∨ 77 = 116 by decide)
          refine to_an (pc := 76) rw_226_76 rfl (s_v (pc := 77) rw_226_77 (dp0 hd (by decide)) (ls0 := [.ref 77]) rfl (Nat.le_of_ble_eq_true rfl) (Nat.le_of_ble_eq_true rfl) rfl (to_rc rfl rfl rfl (g_o hG204 rfl)) rfl ?_)
          have c_206 : M203.2.1 77 7 = (M.2.1 77 7) := (W_n W202 (by decide) (W_n W198 (by decide) (W_n W191 (fun z => absurd z.1 (by decide)) (F_n F171 (show ¬ (77 = 77 ∧ (7 = 59 ∨ 7 = 65 ∨ 7 = 66) ∨ 112 ≤ 77 ∧ 77 ≤ 114 ∧ 40 ≤ 7 ∨ 77 = 116) by decide) (W_n W152 (by decide) rfl)))))
          have t_207 : (M203.2.1 77 7).toInt = (M.2.1 77 7).toInt := congrArg Int32.toInt c_206
          have c_208 : M203.2.1 77 6 = (M.2.1 77 6) := (W_n W202 (by decide) (W_n W198 (by decide) (W_n W191 (fun z => absurd z.1 (by decide)) (F_n F171 (show ¬ (77 = 77 ∧ (6 = 59 ∨ 6 = 65 ∨ 6 = 66) ∨ 112 ≤ 77 ∧ 77 ≤ 114 ∧ 40 ≤ 6 ∨ 77 = 116) by decide) (W_n W152 (by decide) rfl)))))
          have t_209 : (M203.2.1 77 6).toInt = (M.2.1 77 6).toInt := congrArg Int32.toInt c_208
          refine C_156 hX (dp1 hd (by decide)) hG204 (by omega)  (fun M215 hG211 F210 p_212 p_213 p_214 => ?_)
          have F216 := FR.c F205 F210 tg_308
          have b_217 := g_b hG211 (a := 77) (i := 7) (lo := 0) (hi := 500) rfl rfl
          have c_218 : M215.2.1 77 6 = (M.2.1 77 6) := (F_n F210 (show ¬ (77 = 77 ∧ 7 ≤ 6 ∧ 6 ≤ 10) by decide) c_208)
          have t_219 : (M215.2.1 77 6).toInt = (M.2.1 77 6).toInt := congrArg Int32.toInt c_218
          have b_220 := g_b hG211 (a := 77) (i := 8) (lo := 0) (hi := 5) rfl rfl
          refine to_c (pc := 80) rw_226_80 (x := (1 : Int32)) rfl rfl (s_r1 (pc := 81) rw_226_81 (A := 1) rfl (by decide) ?_)
          have c_221 : M215.2.1 77 59 = (M176.2.1 77 59) := (F_n F210 (show ¬ (77 = 77 ∧ 7 ≤ 59 ∧ 59 ≤ 10) by decide) (W_n W202 (by decide) (W_n W198 (by decide) (W_n W191 (fun z => absurd z.1 (by decide)) rfl))))
          have t_222 : (M215.2.1 77 59).toInt = (M176.2.1 77 59).toInt := congrArg Int32.toInt c_221
          have c_223 : M215.2.1 77 65 = v196 := (F_n F210 (show ¬ (77 = 77 ∧ 7 ≤ 65 ∧ 65 ≤ 10) by decide) (W_n W202 (by decide) (W_e W198)))
          have t_224 : (M215.2.1 77 65).toInt = v196.toInt := congrArg Int32.toInt c_223
          have c_225 : M215.2.1 77 66 = (M176.2.1 77 66) := (F_n F210 (show ¬ (77 = 77 ∧ 7 ≤ 66 ∧ 66 ≤ 10) by decide) (W_n W202 (by decide) (W_n W198 (by decide) (W_n W191 (fun z => absurd z.1 (by decide)) rfl))))
          have t_226 : (M215.2.1 77 66).toInt = (M176.2.1 77 66).toInt := congrArg Int32.toInt c_225
          have c_227 : M215.2.1 77 67 = (M.2.1 77 67) := (F_n F210 (show ¬ (77 = 77 ∧ 7 ≤ 67 ∧ 67 ≤ 10) by decide) (W_n W202 (by decide) (W_n W198 (by decide) (W_n W191 (fun z => absurd z.1 (by decide)) c_183))))
          have t_228 : (M215.2.1 77 67).toInt = (M.2.1 77 67).toInt := congrArg Int32.toInt c_227
          have c_229 : M215.2.1 77 68 = (0 : Int32) := (F_n F210 (show ¬ (77 = 77 ∧ 7 ≤ 68 ∧ 68 ≤ 10) by decide) (W_e W202))
          have k_230 : (0 : Int32).toInt = 0 := rfl
          have t_231 : (M215.2.1 77 68).toInt = (0 : Int32).toInt := congrArg Int32.toInt c_229
          have c_232 : M215.2.1 77 69 = v150 := (F_n F210 (show ¬ (77 = 77 ∧ 7 ≤ 69 ∧ 69 ≤ 10) by decide) (W_n W202 (by decide) (W_n W198 (by decide) (W_n W191 (fun z => absurd z.1 (by decide)) c_187))))
          have t_233 : (M215.2.1 77 69).toInt = v150.toInt := congrArg Int32.toInt c_232
          have k_235 : (4 : Int32).toInt = 4 := rfl
          have s_236 := Wx_f (M := M176) (M1 := M215) ((M176.2.1 77 65).toInt).toNat (fun i z => (F_n F210 (show ¬ (115 = 77 ∧ 7 ≤ i ∧ i ≤ 10) by omega) (W_n W202 (by omega) (W_n W198 (by omega) (W_n W191 (by omega) rfl)))))
          have s_237 : (M215.2.1 115 ((M176.2.1 77 65).toInt).toNat).toInt = (4 : Int32).toInt := by rw [show ((M176.2.1 77 65).toInt).toNat = ((M176.2.1 77 65).toInt).toNat by omega]; exact congrArg Int32.toInt (F_n F210 (show ¬ (115 = 77 ∧ 7 ≤ (((M176.2.1 77 65).toInt).toNat) ∧ (((M176.2.1 77 65).toInt).toNat) ≤ 10) by omega) (W_n W202 (by omega) (W_n W198 (by omega) (W_e W191))))
          have s_238 := Wx_s M215 ((M176.2.1 77 65).toInt).toNat
          have j_234 : QK M215 := QK_i (by unfold QK_c; rw [show ((M215.2.1 77 65).toInt).toNat = ((M176.2.1 77 65).toInt).toNat + 1 by omega]; refine ⟨by omega, by omega, by omega, by omega⟩) (fun i z => by
              by_cases ei : i = ((M176.2.1 77 65).toInt).toNat
              · rw [ei]; omega
              · rw [(F_n F210 (show ¬ (115 = 77 ∧ 7 ≤ i ∧ i ≤ 10) by omega) (W_n W202 (by omega) (W_n W198 (by omega) (W_n W191 (by omega) rfl))))]; exact p_173.2.1 i (by omega)) (by rw [(F_n F210 (show ¬ (77 = 77 ∧ 7 ≤ 59 ∧ 59 ≤ 10) by decide) (W_n W202 (by omega) (W_n W198 (by omega) (W_n W191 (by omega) rfl))))]; exact KN_f (fun a i z => (F_n F210 (show ¬ (a = 77 ∧ 7 ≤ i ∧ i ≤ 10) by omega) (W_n W202 (by /-r77,68-/ omega) (W_n W198 (by /-r77,65-/ omega) (W_n W191 (by /-r115-/ omega) rfl))))) p_173.2.2)
          exact h (1 : Int32) M215 hG211 F216 (by decide) (by decide) (by omega) (by omega) (by omega) (by omega) (fun _ => j_234)
        · refine to_an (pc := 9) rw_224_9 rfl (to_c (pc := 10) rw_224_10 (x := (2 : Int32)) rfl rfl (s_v (pc := 11) rw_224_11 (dp1 hd (by decide)) (ls0 := [.ref 77, .int (2 : Int32)]) rfl (Nat.le_of_ble_eq_true rfl) (Nat.le_of_ble_eq_true rfl) rfl (to_rc rfl rfl rfl (g_o hG rfl)) rfl (to_an (pc := 0) rw_152_0 rfl (to_in (pc := 1) rw_152_1 rfl (s_pI (pc := 2) rw_152_2 hG rfl (fun M240 W239 => ?_))))))
          have hG241 := g_wf hG W239 rfl rfl (by decide)
          have F242 := FR.w F0 W239 (show 77 = 77 ∧ (4 = 4 ∨ 4 = 5 ∨ 7 ≤ 4 ∧ 4 ≤ 10) ∨ 77 = 77 ∧ (4 = 59 ∨ 65 ≤ 4 ∧ 4 ≤ 69) ∨ 112 ≤ 77 ∧ 77 ≤ 114 ∧ 40 ≤ 4 ∨ 77 = 115 ∨ 77 = 116 by decide)
          refine to_an (pc := 5) rw_152_5 rfl (to_an (pc := 6) rw_152_6 rfl ?_)
          have c_243 : M240.2.1 77 10 = (M.2.1 77 10) := (W_n W239 (by decide) rfl)
          have b_244 := g_b hG (a := 77) (i := 10) (lo := 0) (hi := 500) rfl rfl
          refine tt_gI (pc := 7) rw_152_7 (g_o hG241 rfl) (v := (M.2.1 77 10)) c_243 (s_pI (pc := 10) rw_152_10 hG241 rfl (fun M246 W245 => ?_))
          have hG247 := g_wf hG241 W245 rfl rfl (by decide)
          have F248 := FR.w F242 W245 (show 77 = 77 ∧ (5 = 4 ∨ 5 = 5 ∨ 7 ≤ 5 ∧ 5 ≤ 10) ∨ 77 = 77 ∧ (5 = 59 ∨ 65 ≤ 5 ∧ 5 ≤ 69) ∨ 112 ≤ 77 ∧ 77 ≤ 114 ∧ 40 ≤ 5 ∨ 77 = 115 ∨ 77 = 116 by decide)
          refine to_c (pc := 13) rw_152_13 (x := (0 : Int32)) rfl rfl (s_r1 (pc := 14) rw_152_14 (A := 0) rfl (by decide) (s_r1 (pc := 14) rw_224_14 (A := 0) rfl (by decide) (b_ine_f (pc := 37) rw_226_37 (A := 0) rfl (by decide) (to_c (pc := 40) rw_226_40 (x := (0 : Int32)) rfl rfl (s_r1 (pc := 41) rw_226_41 (A := 0) rfl (by decide) ?_)))))
          have k_249 : (0 : Int32).toInt = 0 := rfl
          have c_250 : M246.2.1 77 7 = (M.2.1 77 7) := (W_n W245 (by decide) (W_n W239 (by decide) rfl))
          have t_251 : (M246.2.1 77 7).toInt = (M.2.1 77 7).toInt := congrArg Int32.toInt c_250
          have c_252 : M246.2.1 77 6 = (M.2.1 77 6) := (W_n W245 (by decide) (W_n W239 (by decide) rfl))
          have t_253 : (M246.2.1 77 6).toInt = (M.2.1 77 6).toInt := congrArg Int32.toInt c_252
          have c_254 : M246.2.1 77 8 = (M.2.1 77 8) := (W_n W245 (by decide) (W_n W239 (by decide) rfl))
          have t_255 : (M246.2.1 77 8).toInt = (M.2.1 77 8).toInt := congrArg Int32.toInt c_254
          exact h (0 : Int32) M246 hG247 F248 (by decide) (by decide) (by omega) (by omega) (by omega) (by omega) (fun z => absurd z (by omega))
  · refine to_an (pc := 8) rw_158_8 rfl (tt_gI (pc := 9) rw_158_9 (g_o hG rfl) (v := (M.2.1 77 9)) rfl (to_in (pc := 12) rw_158_12 rfl (b_cne (pc := 13) rw_158_13 (A := (M.2.1 77 9).toInt) (B := 12) rfl rfl (fun h256 => ?_) (fun h256 => ?_))))
    · refine to_c (pc := 20) rw_158_20 (x := (0 : Int32)) rfl rfl (s_r1 (pc := 21) rw_158_21 (A := 0) rfl (by decide) (b_ine_f (pc := 6) rw_226_6 (A := 0) rfl (by decide) (to_an (pc := 9) rw_226_9 rfl (to_c (pc := 10) rw_226_10 (x := (13 : Int32)) rfl rfl (s_v (pc := 12) rw_226_12 (dp0 hd (by decide)) (ls0 := [.ref 77, .int (13 : Int32)]) rfl (Nat.le_of_ble_eq_true rfl) (Nat.le_of_ble_eq_true rfl) rfl (to_rc rfl rfl rfl (g_o hG rfl)) rfl (to_an (pc := 0) rw_158_0 rfl (tt_gI (pc := 1) rw_158_1 (g_o hG rfl) (v := (M.2.1 77 8)) rfl (to_c (pc := 4) rw_158_4 (x := (1 : Int32)) rfl rfl (b_cne_f (pc := 5) rw_158_5 (A := (M.2.1 77 8).toInt) (B := 1) rfl rfl (by omega) (to_an (pc := 8) rw_158_8 rfl (tt_gI (pc := 9) rw_158_9 (g_o hG rfl) (v := (M.2.1 77 9)) rfl ?_)))))))))))
      refine to_in (pc := 12) rw_158_12 rfl (b_cne (pc := 13) rw_158_13 (A := (M.2.1 77 9).toInt) (B := 13) rfl rfl (fun h257 => ?_) (fun h257 => ?_))
      · refine to_c (pc := 20) rw_158_20 (x := (0 : Int32)) rfl rfl (s_r1 (pc := 21) rw_158_21 (A := 0) rfl (by decide) (b_ieq_t (pc := 15) rw_226_15 (A := 0) rfl (by decide) (to_an (pc := 82) rw_226_82 rfl (to_c (pc := 83) rw_226_83 (x := (41 : Int32)) rfl rfl (s_v (pc := 85) rw_226_85 (dp0 hd (by decide)) (ls0 := [.ref 77, .int (41 : Int32)]) rfl (Nat.le_of_ble_eq_true rfl) (Nat.le_of_ble_eq_true rfl) rfl (to_rc rfl rfl rfl (g_o hG rfl)) rfl (to_an (pc := 0) rw_159_0 rfl (tt_gI (pc := 1) rw_159_1 (g_o hG rfl) (v := (M.2.1 77 8)) rfl (to_c (pc := 4) rw_159_4 (x := (4 : Int32)) rfl rfl (b_cne_t (pc := 5) rw_159_5 (A := (M.2.1 77 8).toInt) (B := 4) rfl rfl (by omega) (to_c (pc := 20) rw_159_20 (x := (0 : Int32)) rfl rfl (s_r1 (pc := 21) rw_159_21 (A := 0) rfl (by decide) ?_)))))))))))
        refine b_ieq_t (pc := 88) rw_226_88 (A := 0) rfl (by decide) (to_an (pc := 98) rw_226_98 rfl (to_c (pc := 99) rw_226_99 (x := (1 : Int32)) rfl rfl (s_v (pc := 100) rw_226_100 (dp0 hd (by decide)) (ls0 := [.ref 77, .int (1 : Int32)]) rfl (Nat.le_of_ble_eq_true rfl) (Nat.le_of_ble_eq_true rfl) rfl (to_rc rfl rfl rfl (g_o hG rfl)) rfl (to_an (pc := 0) rw_152_0 rfl (to_in (pc := 1) rw_152_1 rfl (s_pI (pc := 2) rw_152_2 hG rfl (fun M259 W258 => ?_)))))))
        have hG260 := g_wf hG W258 rfl rfl (by decide)
        have F261 := FR.w F0 W258 (show 77 = 77 ∧ (4 = 4 ∨ 4 = 5 ∨ 7 ≤ 4 ∧ 4 ≤ 10) ∨ 77 = 77 ∧ (4 = 59 ∨ 65 ≤ 4 ∧ 4 ≤ 69) ∨ 112 ≤ 77 ∧ 77 ≤ 114 ∧ 40 ≤ 4 ∨ 77 = 115 ∨ 77 = 116 by decide)
        refine to_an (pc := 5) rw_152_5 rfl (to_an (pc := 6) rw_152_6 rfl ?_)
        have c_262 : M259.2.1 77 10 = (M.2.1 77 10) := (W_n W258 (by decide) rfl)
        have b_263 := g_b hG (a := 77) (i := 10) (lo := 0) (hi := 500) rfl rfl
        refine tt_gI (pc := 7) rw_152_7 (g_o hG260 rfl) (v := (M.2.1 77 10)) c_262 (s_pI (pc := 10) rw_152_10 hG260 rfl (fun M265 W264 => ?_))
        have hG266 := g_wf hG260 W264 rfl rfl (by decide)
        have F267 := FR.w F261 W264 (show 77 = 77 ∧ (5 = 4 ∨ 5 = 5 ∨ 7 ≤ 5 ∧ 5 ≤ 10) ∨ 77 = 77 ∧ (5 = 59 ∨ 65 ≤ 5 ∧ 5 ≤ 69) ∨ 112 ≤ 77 ∧ 77 ≤ 114 ∧ 40 ≤ 5 ∨ 77 = 115 ∨ 77 = 116 by decide)
        refine to_c (pc := 13) rw_152_13 (x := (0 : Int32)) rfl rfl (s_r1 (pc := 14) rw_152_14 (A := 0) rfl (by decide) (s_r1 (pc := 103) rw_226_103 (A := 0) rfl (by decide) ?_))
        have k_268 : (0 : Int32).toInt = 0 := rfl
        have c_269 : M265.2.1 77 7 = (M.2.1 77 7) := (W_n W264 (by decide) (W_n W258 (by decide) rfl))
        have t_270 : (M265.2.1 77 7).toInt = (M.2.1 77 7).toInt := congrArg Int32.toInt c_269
        have c_271 : M265.2.1 77 6 = (M.2.1 77 6) := (W_n W264 (by decide) (W_n W258 (by decide) rfl))
        have t_272 : (M265.2.1 77 6).toInt = (M.2.1 77 6).toInt := congrArg Int32.toInt c_271
        have c_273 : M265.2.1 77 8 = (M.2.1 77 8) := (W_n W264 (by decide) (W_n W258 (by decide) rfl))
        have t_274 : (M265.2.1 77 8).toInt = (M.2.1 77 8).toInt := congrArg Int32.toInt c_273
        exact h (0 : Int32) M265 hG266 F267 (by decide) (by decide) (by omega) (by omega) (by omega) (by omega) (fun z => absurd z (by omega))
      · refine to_c (pc := 16) rw_158_16 (x := (1 : Int32)) rfl rfl (to_go (pc := 17) rw_158_17 (s_r1 (pc := 21) rw_158_21 (A := 1) rfl (by decide) (b_ieq_f (pc := 15) rw_226_15 (A := 1) rfl (by decide) (to_an (pc := 18) rw_226_18 rfl (tt_gI (pc := 19) rw_226_19 (g_o hG rfl) (v := (M.2.1 77 9)) rfl (to_c (pc := 22) rw_226_22 (x := (12 : Int32)) rfl rfl (b_cne_t (pc := 24) rw_226_24 (A := (M.2.1 77 9).toInt) (B := 12) rfl rfl (by omega) (to_c (pc := 31) rw_226_31 (x := (4 : Int32)) rfl rfl (to_isn (pc := 32) rw_226_32 (ls2 := [.ref 77, .int (4 : Int32)]) rfl rfl (to_an (pc := 33) rw_226_33 rfl (s_v (pc := 34) rw_226_34 (dp0 hd (by decide)) (ls0 := [.ref 77]) rfl (Nat.le_of_ble_eq_true rfl) (Nat.le_of_ble_eq_true rfl) rfl (to_rc rfl rfl rfl (g_o hG rfl)) rfl ?_)))))))))))
        refine to_an (pc := 0) rw_224_0 rfl (tt_gI (pc := 1) rw_224_1 (g_o hG rfl) (v := (M.2.1 77 69)) rfl (to_c (pc := 4) rw_224_4 (x := (40 : Int32)) rfl rfl (b_cne (pc := 6) rw_224_6 (A := (M.2.1 77 69).toInt) (B := 40) rfl rfl (fun h275 => ?_) (fun h275 => ?_))))
        · refine to_an (pc := 15) rw_224_15 rfl (to_dupr (pc := 16) rw_224_16 (tt_gI (pc := 17) rw_224_17 (g_o hG rfl) (v := (M.2.1 77 69)) rfl (to_c (pc := 20) rw_224_20 (x := (1 : Int32)) rfl rfl (s_add (pc := 21) rw_224_21 (A := (M.2.1 77 69).toInt) (B := 1) rfl rfl (by omega) (fun v276 e277 => s_pI (pc := 22) rw_224_22 hG rfl (fun M279 W278 => ?_))))))
          have hG280 := g_w hG W278 (A := v276.toInt) rfl (lo := 0) (hi := 40) rfl rfl (by omega) (by decide)
          have F281 := FR.w F0 W278 (show 77 = 77 ∧ (69 = 4 ∨ 69 = 5 ∨ 7 ≤ 69 ∧ 69 ≤ 10) ∨ 77 = 77 ∧ (69 = 59 ∨ 65 ≤ 69 ∧ 69 ≤ 69) ∨ 112 ≤ 77 ∧ 77 ≤ 114 ∧ 40 ≤ 69 ∨ 77 = 115 ∨ 77 = 116 by decide)
          refine to_c (pc := 25) rw_224_25 (x := (1 : Int32)) rfl rfl (s_r1 (pc := 26) rw_224_26 (A := 1) rfl (by decide) (b_ine_t (pc := 37) rw_226_37 (A := 1) rfl (by decide) (to_an (pc := 42) rw_226_42 rfl (to_an (pc := 43) rw_226_43 rfl (to_in (pc := 44) rw_226_44 rfl (s_v (pc := 45) rw_226_45 (dp0 hd (by decide)) (ls0 := [.ref 77, .int (4 : Int32)]) rfl (Nat.le_of_ble_eq_true rfl) (Nat.le_of_ble_eq_true rfl) rfl (to_rc rfl rfl rfl (g_o hG280 rfl)) rfl (to_in (pc := 0) rw_220_0 rfl (to_c (pc := 1) rw_220_1 (x := (2 : Int32)) rfl rfl (b_cne_t (pc := 2) rw_220_2 (A := 4) (B := 2) rfl rfl (by decide) (to_in (pc := 9) rw_220_9 rfl (to_c (pc := 10) rw_220_10 (x := (3 : Int32)) rfl rfl ?_)))))))))))
          refine b_cne_t (pc := 11) rw_220_11 (A := 4) (B := 3) rfl rfl (by decide) (to_in (pc := 18) rw_220_18 rfl (to_c (pc := 19) rw_220_19 (x := (4 : Int32)) rfl rfl (b_cne_f (pc := 20) rw_220_20 (A := 4) (B := 4) rfl rfl (by decide) (to_c (pc := 23) rw_220_23 (x := (1 : Int32)) rfl rfl (to_go (pc := 24) rw_220_24 (to_r0 (pc := 28) rw_220_28 (s_v (pc := 48) rw_226_48 (dp0 hd (by decide)) (ls0 := [.ref 77, .int (1 : Int32), .null, .null, .null]) rfl (Nat.le_of_ble_eq_true rfl) (Nat.le_of_ble_eq_true rfl) rfl (to_rc rfl rfl rfl (g_o hG280 rfl)) rfl ?_)))))))
          have k_282 : (1 : Int32).toInt = 1 := rfl
          have c_283 : M279.2.1 77 59 = (M.2.1 77 59) := (W_n W278 (by decide) rfl)
          have t_284 : (M279.2.1 77 59).toInt = (M.2.1 77 59).toInt := congrArg Int32.toInt c_283
          have c_285 : M279.2.1 77 65 = (M.2.1 77 65) := (W_n W278 (by decide) rfl)
          have t_286 : (M279.2.1 77 65).toInt = (M.2.1 77 65).toInt := congrArg Int32.toInt c_285
          have c_287 : M279.2.1 77 66 = (M.2.1 77 66) := (W_n W278 (by decide) rfl)
          have t_288 : (M279.2.1 77 66).toInt = (M.2.1 77 66).toInt := congrArg Int32.toInt c_287
          have c_289 : M279.2.1 77 67 = (M.2.1 77 67) := (W_n W278 (by decide) rfl)
          have t_290 : (M279.2.1 77 67).toInt = (M.2.1 77 67).toInt := congrArg Int32.toInt c_289
          have c_291 : M279.2.1 77 68 = (M.2.1 77 68) := (W_n W278 (by decide) rfl)
          have t_292 : (M279.2.1 77 68).toInt = (M.2.1 77 68).toInt := congrArg Int32.toInt c_291
          have c_293 : M279.2.1 77 69 = v276 := (W_e W278)
          have t_294 : (M279.2.1 77 69).toInt = v276.toInt := congrArg Int32.toInt c_293
          have s_296 := Wx_f (M := M) (M1 := M279) ((M.2.1 77 65).toInt).toNat (fun i z => (W_n W278 (by omega) rfl))
          have j_295 : QK M279 := QK_i (by unfold QK_c; rw [show ((M279.2.1 77 65).toInt).toNat = ((M.2.1 77 65).toInt).toNat by omega]; refine ⟨by omega, by omega, by omega, by omega⟩) (fun i z => by rw [(W_n W278 (by omega) rfl)]; exact q2.2.1 i (by omega)) (by rw [(W_n W278 (by omega) rfl)]; exact KN_f (fun a i z => (W_n W278 (by /-r77,69-/ omega) rfl)) q2.2.2)
          refine C_223 hX (dp1 hd (by decide)) hG280 (by omega) (by omega) (by omega) j_295 (l := (1 : Int32)) (fun M302 hG298 F297 p_299 p_300 p_301 => ?_)
          have F303 := FR.c F281 F297 tg_307
          have s_304 := p_300
          have s_305 : Wo M279 ((M279.2.1 77 65).toInt).toNat = Wo M ((M.2.1 77 65).toInt).toNat := by rw [show (M279.2.1 77 65) = (M.2.1 77 65) from (W_n W278 (by omega) rfl)]; exact (Wx_f (M := M) (M1 := M279) _ (fun i z => (W_n W278 (by omega) rfl))).1
          have b_306 := g_b hG298 (a := 77) (i := 59) (lo := 0) (hi := 40) rfl rfl
          have b_307 := g_b hG298 (a := 77) (i := 65) (lo := 0) (hi := 48) rfl rfl
          have b_308 := g_b hG298 (a := 77) (i := 66) (lo := 0) (hi := 40) rfl rfl
          have c_309 : M302.2.1 77 67 = (M.2.1 77 67) := (F_n F297 (show ¬ (77 = 77 ∧ (67 = 59 ∨ 67 = 65 ∨ 67 = 66) ∨ 112 ≤ 77 ∧ 77 ≤ 114 ∧ 40 ≤ 67 ∨ 77 = 116) by decide) c_289)
          have t_310 : (M302.2.1 77 67).toInt = (M.2.1 77 67).toInt := congrArg Int32.toInt c_309
          have c_311 : M302.2.1 77 68 = (M.2.1 77 68) := (F_n F297 (show ¬ (77 = 77 ∧ (68 = 59 ∨ 68 = 65 ∨ 68 = 66) ∨ 112 ≤ 77 ∧ 77 ≤ 114 ∧ 40 ≤ 68 ∨ 77 = 116) by decide) c_291)
          have t_312 : (M302.2.1 77 68).toInt = (M.2.1 77 68).toInt := congrArg Int32.toInt c_311
          have c_313 : M302.2.1 77 69 = v276 := (F_n F297 (show ¬ (77 = 77 ∧ (69 = 59 ∨ 69 = 65 ∨ 69 = 66) ∨ 112 ≤ 77 ∧ 77 ≤ 114 ∧ 40 ≤ 69 ∨ 77 = 116) by decide) c_293)
          have t_314 : (M302.2.1 77 69).toInt = v276.toInt := congrArg Int32.toInt c_313
          have s_315 := QK_e p_299
          have s_316 := Wx_b M302 ((M302.2.1 77 65).toInt).toNat
          refine to_an (pc := 51) rw_226_51 rfl (s_gR (pc := 52) rw_226_52 hG298 rfl (v := 115) rfl (to_an (pc := 55) rw_226_55 rfl (tt_gI (pc := 56) rw_226_56 (g_o hG298 rfl) (v := (M302.2.1 77 65)) rfl (to_in (pc := 59) rw_226_59 rfl (s_ias (pc := 60) rw_226_60 hG298 rfl (n := 64) rfl (A := (M302.2.1 77 65).toInt) rfl (by omega) (by omega) (fun M318 W317 => ?_))))))
          have hG319 := g_w hG298 W317 (A := 4) rfl (lo := 0) (hi := 4) rfl rfl (by omega) (by decide)
          have F320 := FR.w F303 W317 (show 115 = 77 ∧ (((M302.2.1 77 65).toInt).toNat = 4 ∨ ((M302.2.1 77 65).toInt).toNat = 5 ∨ 7 ≤ ((M302.2.1 77 65).toInt).toNat ∧ ((M302.2.1 77 65).toInt).toNat ≤ 10) ∨ 115 = 77 ∧ (((M302.2.1 77 65).toInt).toNat = 59 ∨ 65 ≤ ((M302.2.1 77 65).toInt).toNat ∧ ((M302.2.1 77 65).toInt).toNat ≤ 69) ∨ 112 ≤ 115 ∧ 115 ≤ 114 ∧ 40 ≤ ((M302.2.1 77 65).toInt).toNat ∨ 115 = 115 ∨ 115 = 116 by omega)
          refine to_an (pc := 61) rw_226_61 rfl (to_dupr (pc := 62) rw_226_62 ?_)
          have c_321 : M318.2.1 77 65 = (M302.2.1 77 65) := (W_n W317 (fun z => absurd z.1 (by decide)) rfl)
          refine tt_gI (pc := 63) rw_226_63 (g_o hG319 rfl) (v := (M302.2.1 77 65)) c_321 (to_c (pc := 66) rw_226_66 (x := (1 : Int32)) rfl rfl (s_add (pc := 67) rw_226_67 (A := (M302.2.1 77 65).toInt) (B := 1) rfl rfl (by omega) (fun v322 e323 => s_pI (pc := 68) rw_226_68 hG319 rfl (fun M325 W324 => ?_))))
          have hG326 := g_w hG319 W324 (A := v322.toInt) rfl (lo := 0) (hi := 48) rfl rfl (by omega) (by decide)
          have F327 := FR.w F320 W324 (show 77 = 77 ∧ (65 = 4 ∨ 65 = 5 ∨ 7 ≤ 65 ∧ 65 ≤ 10) ∨ 77 = 77 ∧ (65 = 59 ∨ 65 ≤ 65 ∧ 65 ≤ 69) ∨ 112 ≤ 77 ∧ 77 ≤ 114 ∧ 40 ≤ 65 ∨ 77 = 115 ∨ 77 = 116 by decide)
          refine to_an (pc := 71) rw_226_71 rfl (to_c (pc := 72) rw_226_72 (x := (0 : Int32)) rfl rfl (s_pI (pc := 73) rw_226_73 hG326 rfl (fun M329 W328 => ?_)))
          have hG330 := g_w hG326 W328 (A := 0) rfl (lo := 0) (hi := 1) rfl rfl (by omega) (by decide)
          have F331 := FR.w F327 W328 (show 77 = 77 ∧ (68 = 4 ∨ 68 = 5 ∨ 7 ≤ 68 ∧ 68 ≤ 10) ∨ 77 = 77 ∧ (68 = 59 ∨ 65 ≤ 68 ∧ 68 ≤ 69) ∨ 112 ≤ 77 ∧ 77 ≤ 114 ∧ 40 ≤ 68 ∨ 77 = 115 ∨ 77 = 116 by decide)
          refine to_an (pc := 76) rw_226_76 rfl (s_v (pc := 77) rw_226_77 (dp0 hd (by decide)) (ls0 := [.ref 77]) rfl (Nat.le_of_ble_eq_true rfl) (Nat.le_of_ble_eq_true rfl) rfl (to_rc rfl rfl rfl (g_o hG330 rfl)) rfl ?_)
          have c_332 : M329.2.1 77 7 = (M.2.1 77 7) := (W_n W328 (by decide) (W_n W324 (by decide) (W_n W317 (fun z => absurd z.1 (by decide)) (F_n F297 (show ¬ (77 = 77 ∧ (7 = 59 ∨ 7 = 65 ∨ 7 = 66) ∨ 112 ≤ 77 ∧ 77 ≤ 114 ∧ 40 ≤ 7 ∨ 77 = 116) by decide) (W_n W278 (by decide) rfl)))))
          have t_333 : (M329.2.1 77 7).toInt = (M.2.1 77 7).toInt := congrArg Int32.toInt c_332
          have c_334 : M329.2.1 77 6 = (M.2.1 77 6) := (W_n W328 (by decide) (W_n W324 (by decide) (W_n W317 (fun z => absurd z.1 (by decide)) (F_n F297 (show ¬ (77 = 77 ∧ (6 = 59 ∨ 6 = 65 ∨ 6 = 66) ∨ 112 ≤ 77 ∧ 77 ≤ 114 ∧ 40 ≤ 6 ∨ 77 = 116) by decide) (W_n W278 (by decide) rfl)))))
          have t_335 : (M329.2.1 77 6).toInt = (M.2.1 77 6).toInt := congrArg Int32.toInt c_334
          refine C_156 hX (dp1 hd (by decide)) hG330 (by omega)  (fun M341 hG337 F336 p_338 p_339 p_340 => ?_)
          have F342 := FR.c F331 F336 tg_308
          have b_343 := g_b hG337 (a := 77) (i := 7) (lo := 0) (hi := 500) rfl rfl
          have c_344 : M341.2.1 77 6 = (M.2.1 77 6) := (F_n F336 (show ¬ (77 = 77 ∧ 7 ≤ 6 ∧ 6 ≤ 10) by decide) c_334)
          have t_345 : (M341.2.1 77 6).toInt = (M.2.1 77 6).toInt := congrArg Int32.toInt c_344
          have b_346 := g_b hG337 (a := 77) (i := 8) (lo := 0) (hi := 5) rfl rfl
          refine to_c (pc := 80) rw_226_80 (x := (1 : Int32)) rfl rfl (s_r1 (pc := 81) rw_226_81 (A := 1) rfl (by decide) ?_)
          have c_347 : M341.2.1 77 59 = (M302.2.1 77 59) := (F_n F336 (show ¬ (77 = 77 ∧ 7 ≤ 59 ∧ 59 ≤ 10) by decide) (W_n W328 (by decide) (W_n W324 (by decide) (W_n W317 (fun z => absurd z.1 (by decide)) rfl))))
          have t_348 : (M341.2.1 77 59).toInt = (M302.2.1 77 59).toInt := congrArg Int32.toInt c_347
          have c_349 : M341.2.1 77 65 = v322 := (F_n F336 (show ¬ (77 = 77 ∧ 7 ≤ 65 ∧ 65 ≤ 10) by decide) (W_n W328 (by decide) (W_e W324)))
          have t_350 : (M341.2.1 77 65).toInt = v322.toInt := congrArg Int32.toInt c_349
          have c_351 : M341.2.1 77 66 = (M302.2.1 77 66) := (F_n F336 (show ¬ (77 = 77 ∧ 7 ≤ 66 ∧ 66 ≤ 10) by decide) (W_n W328 (by decide) (W_n W324 (by decide) (W_n W317 (fun z => absurd z.1 (by decide)) rfl))))
          have t_352 : (M341.2.1 77 66).toInt = (M302.2.1 77 66).toInt := congrArg Int32.toInt c_351
          have c_353 : M341.2.1 77 67 = (M.2.1 77 67) := (F_n F336 (show ¬ (77 = 77 ∧ 7 ≤ 67 ∧ 67 ≤ 10) by decide) (W_n W328 (by decide) (W_n W324 (by decide) (W_n W317 (fun z => absurd z.1 (by decide)) c_309))))
          have t_354 : (M341.2.1 77 67).toInt = (M.2.1 77 67).toInt := congrArg Int32.toInt c_353
          have c_355 : M341.2.1 77 68 = (0 : Int32) := (F_n F336 (show ¬ (77 = 77 ∧ 7 ≤ 68 ∧ 68 ≤ 10) by decide) (W_e W328))
          have k_356 : (0 : Int32).toInt = 0 := rfl
          have t_357 : (M341.2.1 77 68).toInt = (0 : Int32).toInt := congrArg Int32.toInt c_355
          have c_358 : M341.2.1 77 69 = v276 := (F_n F336 (show ¬ (77 = 77 ∧ 7 ≤ 69 ∧ 69 ≤ 10) by decide) (W_n W328 (by decide) (W_n W324 (by decide) (W_n W317 (fun z => absurd z.1 (by decide)) c_313))))
          have t_359 : (M341.2.1 77 69).toInt = v276.toInt := congrArg Int32.toInt c_358
          have k_361 : (4 : Int32).toInt = 4 := rfl
          have s_362 := Wx_f (M := M302) (M1 := M341) ((M302.2.1 77 65).toInt).toNat (fun i z => (F_n F336 (show ¬ (115 = 77 ∧ 7 ≤ i ∧ i ≤ 10) by omega) (W_n W328 (by omega) (W_n W324 (by omega) (W_n W317 (by omega) rfl)))))
          have s_363 : (M341.2.1 115 ((M302.2.1 77 65).toInt).toNat).toInt = (4 : Int32).toInt := by rw [show ((M302.2.1 77 65).toInt).toNat = ((M302.2.1 77 65).toInt).toNat by omega]; exact congrArg Int32.toInt (F_n F336 (show ¬ (115 = 77 ∧ 7 ≤ (((M302.2.1 77 65).toInt).toNat) ∧ (((M302.2.1 77 65).toInt).toNat) ≤ 10) by omega) (W_n W328 (by omega) (W_n W324 (by omega) (W_e W317))))
          have s_364 := Wx_s M341 ((M302.2.1 77 65).toInt).toNat
          have j_360 : QK M341 := QK_i (by unfold QK_c; rw [show ((M341.2.1 77 65).toInt).toNat = ((M302.2.1 77 65).toInt).toNat + 1 by omega]; refine ⟨by omega, by omega, by omega, by omega⟩) (fun i z => by
              by_cases ei : i = ((M302.2.1 77 65).toInt).toNat
              · rw [ei]; omega
              · rw [(F_n F336 (show ¬ (115 = 77 ∧ 7 ≤ i ∧ i ≤ 10) by omega) (W_n W328 (by omega) (W_n W324 (by omega) (W_n W317 (by omega) rfl))))]; exact p_299.2.1 i (by omega)) (by rw [(F_n F336 (show ¬ (77 = 77 ∧ 7 ≤ 59 ∧ 59 ≤ 10) by decide) (W_n W328 (by omega) (W_n W324 (by omega) (W_n W317 (by omega) rfl))))]; exact KN_f (fun a i z => (F_n F336 (show ¬ (a = 77 ∧ 7 ≤ i ∧ i ≤ 10) by omega) (W_n W328 (by /-r77,68-/ omega) (W_n W324 (by /-r77,65-/ omega) (W_n W317 (by /-r115-/ omega) rfl))))) p_299.2.2)
          exact h (1 : Int32) M341 hG337 F342 (by decide) (by decide) (by omega) (by omega) (by omega) (by omega) (fun _ => j_360)
        · refine to_an (pc := 9) rw_224_9 rfl (to_c (pc := 10) rw_224_10 (x := (2 : Int32)) rfl rfl (s_v (pc := 11) rw_224_11 (dp1 hd (by decide)) (ls0 := [.ref 77, .int (2 : Int32)]) rfl (Nat.le_of_ble_eq_true rfl) (Nat.le_of_ble_eq_true rfl) rfl (to_rc rfl rfl rfl (g_o hG rfl)) rfl (to_an (pc := 0) rw_152_0 rfl (to_in (pc := 1) rw_152_1 rfl (s_pI (pc := 2) rw_152_2 hG rfl (fun M366 W365 => ?_))))))
          have hG367 := g_wf hG W365 rfl rfl (by decide)
          have F368 := FR.w F0 W365 (show 77 = 77 ∧ (4 = 4 ∨ 4 = 5 ∨ 7 ≤ 4 ∧ 4 ≤ 10) ∨ 77 = 77 ∧ (4 = 59 ∨ 65 ≤ 4 ∧ 4 ≤ 69) ∨ 112 ≤ 77 ∧ 77 ≤ 114 ∧ 40 ≤ 4 ∨ 77 = 115 ∨ 77 = 116 by decide)
          refine to_an (pc := 5) rw_152_5 rfl (to_an (pc := 6) rw_152_6 rfl ?_)
          have c_369 : M366.2.1 77 10 = (M.2.1 77 10) := (W_n W365 (by decide) rfl)
          have b_370 := g_b hG (a := 77) (i := 10) (lo := 0) (hi := 500) rfl rfl
          refine tt_gI (pc := 7) rw_152_7 (g_o hG367 rfl) (v := (M.2.1 77 10)) c_369 (s_pI (pc := 10) rw_152_10 hG367 rfl (fun M372 W371 => ?_))
          have hG373 := g_wf hG367 W371 rfl rfl (by decide)
          have F374 := FR.w F368 W371 (show 77 = 77 ∧ (5 = 4 ∨ 5 = 5 ∨ 7 ≤ 5 ∧ 5 ≤ 10) ∨ 77 = 77 ∧ (5 = 59 ∨ 65 ≤ 5 ∧ 5 ≤ 69) ∨ 112 ≤ 77 ∧ 77 ≤ 114 ∧ 40 ≤ 5 ∨ 77 = 115 ∨ 77 = 116 by decide)
          refine to_c (pc := 13) rw_152_13 (x := (0 : Int32)) rfl rfl (s_r1 (pc := 14) rw_152_14 (A := 0) rfl (by decide) (s_r1 (pc := 14) rw_224_14 (A := 0) rfl (by decide) (b_ine_f (pc := 37) rw_226_37 (A := 0) rfl (by decide) (to_c (pc := 40) rw_226_40 (x := (0 : Int32)) rfl rfl (s_r1 (pc := 41) rw_226_41 (A := 0) rfl (by decide) ?_)))))
          have k_375 : (0 : Int32).toInt = 0 := rfl
          have c_376 : M372.2.1 77 7 = (M.2.1 77 7) := (W_n W371 (by decide) (W_n W365 (by decide) rfl))
          have t_377 : (M372.2.1 77 7).toInt = (M.2.1 77 7).toInt := congrArg Int32.toInt c_376
          have c_378 : M372.2.1 77 6 = (M.2.1 77 6) := (W_n W371 (by decide) (W_n W365 (by decide) rfl))
          have t_379 : (M372.2.1 77 6).toInt = (M.2.1 77 6).toInt := congrArg Int32.toInt c_378
          have c_380 : M372.2.1 77 8 = (M.2.1 77 8) := (W_n W371 (by decide) (W_n W365 (by decide) rfl))
          have t_381 : (M372.2.1 77 8).toInt = (M.2.1 77 8).toInt := congrArg Int32.toInt c_380
          exact h (0 : Int32) M372 hG373 F374 (by decide) (by decide) (by omega) (by omega) (by omega) (by omega) (fun z => absurd z (by omega))
    · refine to_c (pc := 16) rw_158_16 (x := (1 : Int32)) rfl rfl (to_go (pc := 17) rw_158_17 (s_r1 (pc := 21) rw_158_21 (A := 1) rfl (by decide) (b_ine_t (pc := 6) rw_226_6 (A := 1) rfl (by decide) (to_an (pc := 18) rw_226_18 rfl (tt_gI (pc := 19) rw_226_19 (g_o hG rfl) (v := (M.2.1 77 9)) rfl (to_c (pc := 22) rw_226_22 (x := (12 : Int32)) rfl rfl (b_cne_f (pc := 24) rw_226_24 (A := (M.2.1 77 9).toInt) (B := 12) rfl rfl (by omega) (to_c (pc := 27) rw_226_27 (x := (3 : Int32)) rfl rfl (to_go (pc := 28) rw_226_28 (to_isn (pc := 32) rw_226_32 (ls2 := [.ref 77, .int (3 : Int32)]) rfl rfl (to_an (pc := 33) rw_226_33 rfl ?_)))))))))))
      refine s_v (pc := 34) rw_226_34 (dp0 hd (by decide)) (ls0 := [.ref 77]) rfl (Nat.le_of_ble_eq_true rfl) (Nat.le_of_ble_eq_true rfl) rfl (to_rc rfl rfl rfl (g_o hG rfl)) rfl (to_an (pc := 0) rw_224_0 rfl (tt_gI (pc := 1) rw_224_1 (g_o hG rfl) (v := (M.2.1 77 69)) rfl (to_c (pc := 4) rw_224_4 (x := (40 : Int32)) rfl rfl (b_cne (pc := 6) rw_224_6 (A := (M.2.1 77 69).toInt) (B := 40) rfl rfl (fun h382 => ?_) (fun h382 => ?_)))))
      · refine to_an (pc := 15) rw_224_15 rfl (to_dupr (pc := 16) rw_224_16 (tt_gI (pc := 17) rw_224_17 (g_o hG rfl) (v := (M.2.1 77 69)) rfl (to_c (pc := 20) rw_224_20 (x := (1 : Int32)) rfl rfl (s_add (pc := 21) rw_224_21 (A := (M.2.1 77 69).toInt) (B := 1) rfl rfl (by omega) (fun v383 e384 => s_pI (pc := 22) rw_224_22 hG rfl (fun M386 W385 => ?_))))))
        have hG387 := g_w hG W385 (A := v383.toInt) rfl (lo := 0) (hi := 40) rfl rfl (by omega) (by decide)
        have F388 := FR.w F0 W385 (show 77 = 77 ∧ (69 = 4 ∨ 69 = 5 ∨ 7 ≤ 69 ∧ 69 ≤ 10) ∨ 77 = 77 ∧ (69 = 59 ∨ 65 ≤ 69 ∧ 69 ≤ 69) ∨ 112 ≤ 77 ∧ 77 ≤ 114 ∧ 40 ≤ 69 ∨ 77 = 115 ∨ 77 = 116 by decide)
        refine to_c (pc := 25) rw_224_25 (x := (1 : Int32)) rfl rfl (s_r1 (pc := 26) rw_224_26 (A := 1) rfl (by decide) (b_ine_t (pc := 37) rw_226_37 (A := 1) rfl (by decide) (to_an (pc := 42) rw_226_42 rfl (to_an (pc := 43) rw_226_43 rfl (to_in (pc := 44) rw_226_44 rfl (s_v (pc := 45) rw_226_45 (dp0 hd (by decide)) (ls0 := [.ref 77, .int (3 : Int32)]) rfl (Nat.le_of_ble_eq_true rfl) (Nat.le_of_ble_eq_true rfl) rfl (to_rc rfl rfl rfl (g_o hG387 rfl)) rfl (to_in (pc := 0) rw_220_0 rfl (to_c (pc := 1) rw_220_1 (x := (2 : Int32)) rfl rfl (b_cne_t (pc := 2) rw_220_2 (A := 3) (B := 2) rfl rfl (by decide) (to_in (pc := 9) rw_220_9 rfl (to_c (pc := 10) rw_220_10 (x := (3 : Int32)) rfl rfl ?_)))))))))))
        refine b_cne_f (pc := 11) rw_220_11 (A := 3) (B := 3) rfl rfl (by decide) (to_c (pc := 14) rw_220_14 (x := (2 : Int32)) rfl rfl (to_go (pc := 15) rw_220_15 (to_r0 (pc := 28) rw_220_28 (s_v (pc := 48) rw_226_48 (dp0 hd (by decide)) (ls0 := [.ref 77, .int (2 : Int32), .null, .null, .null]) rfl (Nat.le_of_ble_eq_true rfl) (Nat.le_of_ble_eq_true rfl) rfl (to_rc rfl rfl rfl (g_o hG387 rfl)) rfl ?_))))
        have k_389 : (2 : Int32).toInt = 2 := rfl
        have c_390 : M386.2.1 77 59 = (M.2.1 77 59) := (W_n W385 (by decide) rfl)
        have t_391 : (M386.2.1 77 59).toInt = (M.2.1 77 59).toInt := congrArg Int32.toInt c_390
        have c_392 : M386.2.1 77 65 = (M.2.1 77 65) := (W_n W385 (by decide) rfl)
        have t_393 : (M386.2.1 77 65).toInt = (M.2.1 77 65).toInt := congrArg Int32.toInt c_392
        have c_394 : M386.2.1 77 66 = (M.2.1 77 66) := (W_n W385 (by decide) rfl)
        have t_395 : (M386.2.1 77 66).toInt = (M.2.1 77 66).toInt := congrArg Int32.toInt c_394
        have c_396 : M386.2.1 77 67 = (M.2.1 77 67) := (W_n W385 (by decide) rfl)
        have t_397 : (M386.2.1 77 67).toInt = (M.2.1 77 67).toInt := congrArg Int32.toInt c_396
        have c_398 : M386.2.1 77 68 = (M.2.1 77 68) := (W_n W385 (by decide) rfl)
        have t_399 : (M386.2.1 77 68).toInt = (M.2.1 77 68).toInt := congrArg Int32.toInt c_398
        have c_400 : M386.2.1 77 69 = v383 := (W_e W385)
        have t_401 : (M386.2.1 77 69).toInt = v383.toInt := congrArg Int32.toInt c_400
        have s_403 := Wx_f (M := M) (M1 := M386) ((M.2.1 77 65).toInt).toNat (fun i z => (W_n W385 (by omega) rfl))
        have j_402 : QK M386 := QK_i (by unfold QK_c; rw [show ((M386.2.1 77 65).toInt).toNat = ((M.2.1 77 65).toInt).toNat by omega]; refine ⟨by omega, by omega, by omega, by omega⟩) (fun i z => by rw [(W_n W385 (by omega) rfl)]; exact q2.2.1 i (by omega)) (by rw [(W_n W385 (by omega) rfl)]; exact KN_f (fun a i z => (W_n W385 (by /-r77,69-/ omega) rfl)) q2.2.2)
        refine C_223 hX (dp1 hd (by decide)) hG387 (by omega) (by omega) (by omega) j_402 (l := (2 : Int32)) (fun M409 hG405 F404 p_406 p_407 p_408 => ?_)
        have F410 := FR.c F388 F404 tg_307
        have s_411 := p_407
        have s_412 : Wo M386 ((M386.2.1 77 65).toInt).toNat = Wo M ((M.2.1 77 65).toInt).toNat := by rw [show (M386.2.1 77 65) = (M.2.1 77 65) from (W_n W385 (by omega) rfl)]; exact (Wx_f (M := M) (M1 := M386) _ (fun i z => (W_n W385 (by omega) rfl))).1
        have b_413 := g_b hG405 (a := 77) (i := 59) (lo := 0) (hi := 40) rfl rfl
        have b_414 := g_b hG405 (a := 77) (i := 65) (lo := 0) (hi := 48) rfl rfl
        have b_415 := g_b hG405 (a := 77) (i := 66) (lo := 0) (hi := 40) rfl rfl
        have c_416 : M409.2.1 77 67 = (M.2.1 77 67) := (F_n F404 (show ¬ (77 = 77 ∧ (67 = 59 ∨ 67 = 65 ∨ 67 = 66) ∨ 112 ≤ 77 ∧ 77 ≤ 114 ∧ 40 ≤ 67 ∨ 77 = 116) by decide) c_396)
        have t_417 : (M409.2.1 77 67).toInt = (M.2.1 77 67).toInt := congrArg Int32.toInt c_416
        have c_418 : M409.2.1 77 68 = (M.2.1 77 68) := (F_n F404 (show ¬ (77 = 77 ∧ (68 = 59 ∨ 68 = 65 ∨ 68 = 66) ∨ 112 ≤ 77 ∧ 77 ≤ 114 ∧ 40 ≤ 68 ∨ 77 = 116) by decide) c_398)
        have t_419 : (M409.2.1 77 68).toInt = (M.2.1 77 68).toInt := congrArg Int32.toInt c_418
        have c_420 : M409.2.1 77 69 = v383 := (F_n F404 (show ¬ (77 = 77 ∧ (69 = 59 ∨ 69 = 65 ∨ 69 = 66) ∨ 112 ≤ 77 ∧ 77 ≤ 114 ∧ 40 ≤ 69 ∨ 77 = 116) by decide) c_400)
        have t_421 : (M409.2.1 77 69).toInt = v383.toInt := congrArg Int32.toInt c_420
        have s_422 := QK_e p_406
        have s_423 := Wx_b M409 ((M409.2.1 77 65).toInt).toNat
        refine to_an (pc := 51) rw_226_51 rfl (s_gR (pc := 52) rw_226_52 hG405 rfl (v := 115) rfl (to_an (pc := 55) rw_226_55 rfl (tt_gI (pc := 56) rw_226_56 (g_o hG405 rfl) (v := (M409.2.1 77 65)) rfl (to_in (pc := 59) rw_226_59 rfl (s_ias (pc := 60) rw_226_60 hG405 rfl (n := 64) rfl (A := (M409.2.1 77 65).toInt) rfl (by omega) (by omega) (fun M425 W424 => ?_))))))
        have hG426 := g_w hG405 W424 (A := 3) rfl (lo := 0) (hi := 4) rfl rfl (by omega) (by decide)
        have F427 := FR.w F410 W424 (show 115 = 77 ∧ (((M409.2.1 77 65).toInt).toNat = 4 ∨ ((M409.2.1 77 65).toInt).toNat = 5 ∨ 7 ≤ ((M409.2.1 77 65).toInt).toNat ∧ ((M409.2.1 77 65).toInt).toNat ≤ 10) ∨ 115 = 77 ∧ (((M409.2.1 77 65).toInt).toNat = 59 ∨ 65 ≤ ((M409.2.1 77 65).toInt).toNat ∧ ((M409.2.1 77 65).toInt).toNat ≤ 69) ∨ 112 ≤ 115 ∧ 115 ≤ 114 ∧ 40 ≤ ((M409.2.1 77 65).toInt).toNat ∨ 115 = 115 ∨ 115 = 116 by omega)
        refine to_an (pc := 61) rw_226_61 rfl (to_dupr (pc := 62) rw_226_62 ?_)
        have c_428 : M425.2.1 77 65 = (M409.2.1 77 65) := (W_n W424 (fun z => absurd z.1 (by decide)) rfl)
        refine tt_gI (pc := 63) rw_226_63 (g_o hG426 rfl) (v := (M409.2.1 77 65)) c_428 (to_c (pc := 66) rw_226_66 (x := (1 : Int32)) rfl rfl (s_add (pc := 67) rw_226_67 (A := (M409.2.1 77 65).toInt) (B := 1) rfl rfl (by omega) (fun v429 e430 => s_pI (pc := 68) rw_226_68 hG426 rfl (fun M432 W431 => ?_))))
        have hG433 := g_w hG426 W431 (A := v429.toInt) rfl (lo := 0) (hi := 48) rfl rfl (by omega) (by decide)
        have F434 := FR.w F427 W431 (show 77 = 77 ∧ (65 = 4 ∨ 65 = 5 ∨ 7 ≤ 65 ∧ 65 ≤ 10) ∨ 77 = 77 ∧ (65 = 59 ∨ 65 ≤ 65 ∧ 65 ≤ 69) ∨ 112 ≤ 77 ∧ 77 ≤ 114 ∧ 40 ≤ 65 ∨ 77 = 115 ∨ 77 = 116 by decide)
        refine to_an (pc := 71) rw_226_71 rfl (to_c (pc := 72) rw_226_72 (x := (0 : Int32)) rfl rfl (s_pI (pc := 73) rw_226_73 hG433 rfl (fun M436 W435 => ?_)))
        have hG437 := g_w hG433 W435 (A := 0) rfl (lo := 0) (hi := 1) rfl rfl (by omega) (by decide)
        have F438 := FR.w F434 W435 (show 77 = 77 ∧ (68 = 4 ∨ 68 = 5 ∨ 7 ≤ 68 ∧ 68 ≤ 10) ∨ 77 = 77 ∧ (68 = 59 ∨ 65 ≤ 68 ∧ 68 ≤ 69) ∨ 112 ≤ 77 ∧ 77 ≤ 114 ∧ 40 ≤ 68 ∨ 77 = 115 ∨ 77 = 116 by decide)
        refine to_an (pc := 76) rw_226_76 rfl (s_v (pc := 77) rw_226_77 (dp0 hd (by decide)) (ls0 := [.ref 77]) rfl (Nat.le_of_ble_eq_true rfl) (Nat.le_of_ble_eq_true rfl) rfl (to_rc rfl rfl rfl (g_o hG437 rfl)) rfl ?_)
        have c_439 : M436.2.1 77 7 = (M.2.1 77 7) := (W_n W435 (by decide) (W_n W431 (by decide) (W_n W424 (fun z => absurd z.1 (by decide)) (F_n F404 (show ¬ (77 = 77 ∧ (7 = 59 ∨ 7 = 65 ∨ 7 = 66) ∨ 112 ≤ 77 ∧ 77 ≤ 114 ∧ 40 ≤ 7 ∨ 77 = 116) by decide) (W_n W385 (by decide) rfl)))))
        have t_440 : (M436.2.1 77 7).toInt = (M.2.1 77 7).toInt := congrArg Int32.toInt c_439
        have c_441 : M436.2.1 77 6 = (M.2.1 77 6) := (W_n W435 (by decide) (W_n W431 (by decide) (W_n W424 (fun z => absurd z.1 (by decide)) (F_n F404 (show ¬ (77 = 77 ∧ (6 = 59 ∨ 6 = 65 ∨ 6 = 66) ∨ 112 ≤ 77 ∧ 77 ≤ 114 ∧ 40 ≤ 6 ∨ 77 = 116) by decide) (W_n W385 (by decide) rfl)))))
        have t_442 : (M436.2.1 77 6).toInt = (M.2.1 77 6).toInt := congrArg Int32.toInt c_441
        refine C_156 hX (dp1 hd (by decide)) hG437 (by omega)  (fun M448 hG444 F443 p_445 p_446 p_447 => ?_)
        have F449 := FR.c F438 F443 tg_308
        have b_450 := g_b hG444 (a := 77) (i := 7) (lo := 0) (hi := 500) rfl rfl
        have c_451 : M448.2.1 77 6 = (M.2.1 77 6) := (F_n F443 (show ¬ (77 = 77 ∧ 7 ≤ 6 ∧ 6 ≤ 10) by decide) c_441)
        have t_452 : (M448.2.1 77 6).toInt = (M.2.1 77 6).toInt := congrArg Int32.toInt c_451
        have b_453 := g_b hG444 (a := 77) (i := 8) (lo := 0) (hi := 5) rfl rfl
        refine to_c (pc := 80) rw_226_80 (x := (1 : Int32)) rfl rfl (s_r1 (pc := 81) rw_226_81 (A := 1) rfl (by decide) ?_)
        have k_454 : (1 : Int32).toInt = 1 := rfl
        have c_455 : M448.2.1 77 59 = (M409.2.1 77 59) := (F_n F443 (show ¬ (77 = 77 ∧ 7 ≤ 59 ∧ 59 ≤ 10) by decide) (W_n W435 (by decide) (W_n W431 (by decide) (W_n W424 (fun z => absurd z.1 (by decide)) rfl))))
        have t_456 : (M448.2.1 77 59).toInt = (M409.2.1 77 59).toInt := congrArg Int32.toInt c_455
        have c_457 : M448.2.1 77 65 = v429 := (F_n F443 (show ¬ (77 = 77 ∧ 7 ≤ 65 ∧ 65 ≤ 10) by decide) (W_n W435 (by decide) (W_e W431)))
        have t_458 : (M448.2.1 77 65).toInt = v429.toInt := congrArg Int32.toInt c_457
        have c_459 : M448.2.1 77 66 = (M409.2.1 77 66) := (F_n F443 (show ¬ (77 = 77 ∧ 7 ≤ 66 ∧ 66 ≤ 10) by decide) (W_n W435 (by decide) (W_n W431 (by decide) (W_n W424 (fun z => absurd z.1 (by decide)) rfl))))
        have t_460 : (M448.2.1 77 66).toInt = (M409.2.1 77 66).toInt := congrArg Int32.toInt c_459
        have c_461 : M448.2.1 77 67 = (M.2.1 77 67) := (F_n F443 (show ¬ (77 = 77 ∧ 7 ≤ 67 ∧ 67 ≤ 10) by decide) (W_n W435 (by decide) (W_n W431 (by decide) (W_n W424 (fun z => absurd z.1 (by decide)) c_416))))
        have t_462 : (M448.2.1 77 67).toInt = (M.2.1 77 67).toInt := congrArg Int32.toInt c_461
        have c_463 : M448.2.1 77 68 = (0 : Int32) := (F_n F443 (show ¬ (77 = 77 ∧ 7 ≤ 68 ∧ 68 ≤ 10) by decide) (W_e W435))
        have k_464 : (0 : Int32).toInt = 0 := rfl
        have t_465 : (M448.2.1 77 68).toInt = (0 : Int32).toInt := congrArg Int32.toInt c_463
        have c_466 : M448.2.1 77 69 = v383 := (F_n F443 (show ¬ (77 = 77 ∧ 7 ≤ 69 ∧ 69 ≤ 10) by decide) (W_n W435 (by decide) (W_n W431 (by decide) (W_n W424 (fun z => absurd z.1 (by decide)) c_420))))
        have t_467 : (M448.2.1 77 69).toInt = v383.toInt := congrArg Int32.toInt c_466
        have k_469 : (3 : Int32).toInt = 3 := rfl
        have s_470 := Wx_f (M := M409) (M1 := M448) ((M409.2.1 77 65).toInt).toNat (fun i z => (F_n F443 (show ¬ (115 = 77 ∧ 7 ≤ i ∧ i ≤ 10) by omega) (W_n W435 (by omega) (W_n W431 (by omega) (W_n W424 (by omega) rfl)))))
        have s_471 : (M448.2.1 115 ((M409.2.1 77 65).toInt).toNat).toInt = (3 : Int32).toInt := by rw [show ((M409.2.1 77 65).toInt).toNat = ((M409.2.1 77 65).toInt).toNat by omega]; exact congrArg Int32.toInt (F_n F443 (show ¬ (115 = 77 ∧ 7 ≤ (((M409.2.1 77 65).toInt).toNat) ∧ (((M409.2.1 77 65).toInt).toNat) ≤ 10) by omega) (W_n W435 (by omega) (W_n W431 (by omega) (W_e W424))))
        have s_472 := Wx_s M448 ((M409.2.1 77 65).toInt).toNat
        have j_468 : QK M448 := QK_i (by unfold QK_c; rw [show ((M448.2.1 77 65).toInt).toNat = ((M409.2.1 77 65).toInt).toNat + 1 by omega]; refine ⟨by omega, by omega, by omega, by omega⟩) (fun i z => by
            by_cases ei : i = ((M409.2.1 77 65).toInt).toNat
            · rw [ei]; omega
            · rw [(F_n F443 (show ¬ (115 = 77 ∧ 7 ≤ i ∧ i ≤ 10) by omega) (W_n W435 (by omega) (W_n W431 (by omega) (W_n W424 (by omega) rfl))))]; exact p_406.2.1 i (by omega)) (by rw [(F_n F443 (show ¬ (77 = 77 ∧ 7 ≤ 59 ∧ 59 ≤ 10) by decide) (W_n W435 (by omega) (W_n W431 (by omega) (W_n W424 (by omega) rfl))))]; exact KN_f (fun a i z => (F_n F443 (show ¬ (a = 77 ∧ 7 ≤ i ∧ i ≤ 10) by omega) (W_n W435 (by /-r77,68-/ omega) (W_n W431 (by /-r77,65-/ omega) (W_n W424 (by /-r115-/ omega) rfl))))) p_406.2.2)
        exact h (1 : Int32) M448 hG444 F449 (by decide) (by decide) (by omega) (by omega) (by omega) (by omega) (fun _ => j_468)
      · refine to_an (pc := 9) rw_224_9 rfl (to_c (pc := 10) rw_224_10 (x := (2 : Int32)) rfl rfl (s_v (pc := 11) rw_224_11 (dp1 hd (by decide)) (ls0 := [.ref 77, .int (2 : Int32)]) rfl (Nat.le_of_ble_eq_true rfl) (Nat.le_of_ble_eq_true rfl) rfl (to_rc rfl rfl rfl (g_o hG rfl)) rfl (to_an (pc := 0) rw_152_0 rfl (to_in (pc := 1) rw_152_1 rfl (s_pI (pc := 2) rw_152_2 hG rfl (fun M474 W473 => ?_))))))
        have hG475 := g_wf hG W473 rfl rfl (by decide)
        have F476 := FR.w F0 W473 (show 77 = 77 ∧ (4 = 4 ∨ 4 = 5 ∨ 7 ≤ 4 ∧ 4 ≤ 10) ∨ 77 = 77 ∧ (4 = 59 ∨ 65 ≤ 4 ∧ 4 ≤ 69) ∨ 112 ≤ 77 ∧ 77 ≤ 114 ∧ 40 ≤ 4 ∨ 77 = 115 ∨ 77 = 116 by decide)
        refine to_an (pc := 5) rw_152_5 rfl (to_an (pc := 6) rw_152_6 rfl ?_)
        have c_477 : M474.2.1 77 10 = (M.2.1 77 10) := (W_n W473 (by decide) rfl)
        have b_478 := g_b hG (a := 77) (i := 10) (lo := 0) (hi := 500) rfl rfl
        refine tt_gI (pc := 7) rw_152_7 (g_o hG475 rfl) (v := (M.2.1 77 10)) c_477 (s_pI (pc := 10) rw_152_10 hG475 rfl (fun M480 W479 => ?_))
        have hG481 := g_wf hG475 W479 rfl rfl (by decide)
        have F482 := FR.w F476 W479 (show 77 = 77 ∧ (5 = 4 ∨ 5 = 5 ∨ 7 ≤ 5 ∧ 5 ≤ 10) ∨ 77 = 77 ∧ (5 = 59 ∨ 65 ≤ 5 ∧ 5 ≤ 69) ∨ 112 ≤ 77 ∧ 77 ≤ 114 ∧ 40 ≤ 5 ∨ 77 = 115 ∨ 77 = 116 by decide)
        refine to_c (pc := 13) rw_152_13 (x := (0 : Int32)) rfl rfl (s_r1 (pc := 14) rw_152_14 (A := 0) rfl (by decide) (s_r1 (pc := 14) rw_224_14 (A := 0) rfl (by decide) (b_ine_f (pc := 37) rw_226_37 (A := 0) rfl (by decide) (to_c (pc := 40) rw_226_40 (x := (0 : Int32)) rfl rfl (s_r1 (pc := 41) rw_226_41 (A := 0) rfl (by decide) ?_)))))
        have k_483 : (0 : Int32).toInt = 0 := rfl
        have c_484 : M480.2.1 77 7 = (M.2.1 77 7) := (W_n W479 (by decide) (W_n W473 (by decide) rfl))
        have t_485 : (M480.2.1 77 7).toInt = (M.2.1 77 7).toInt := congrArg Int32.toInt c_484
        have c_486 : M480.2.1 77 6 = (M.2.1 77 6) := (W_n W479 (by decide) (W_n W473 (by decide) rfl))
        have t_487 : (M480.2.1 77 6).toInt = (M.2.1 77 6).toInt := congrArg Int32.toInt c_486
        have c_488 : M480.2.1 77 8 = (M.2.1 77 8) := (W_n W479 (by decide) (W_n W473 (by decide) rfl))
        have t_489 : (M480.2.1 77 8).toInt = (M.2.1 77 8).toInt := congrArg Int32.toInt c_488
        exact h (0 : Int32) M480 hG481 F482 (by decide) (by decide) (by omega) (by omega) (by omega) (by omega) (fun z => absurd z (by omega))
end
section
theorem tg_309 : ∀ a i : Nat, (a < 0) → (a = 77 ∧ (i = 4 ∨ i = 5 ∨ 7 ≤ i ∧ i ≤ 10) ∨ a = 77 ∧ (i = 59 ∨ 65 ≤ i ∧ i ≤ 69) ∨ 112 ≤ a ∧ a ≤ 114 ∧ 40 ≤ i ∨ a = 115 ∨ a = 116) := fun a i z => by omega
theorem tg_310 : ∀ a i : Nat, (a = 77 ∧ (i = 59 ∨ i = 66) ∨ 112 ≤ a ∧ a ≤ 114 ∧ 40 ≤ i ∨ a = 116) → (a = 77 ∧ (i = 4 ∨ i = 5 ∨ 7 ≤ i ∧ i ≤ 10) ∨ a = 77 ∧ (i = 59 ∨ 65 ≤ i ∧ i ≤ 69) ∨ 112 ≤ a ∧ a ≤ 114 ∧ 40 ≤ i ∨ a = 115 ∨ a = 116) := fun a i z => by omega
theorem tg_311 : ∀ a i : Nat, (81 ≤ a ∧ a ≤ 84) → ¬ (a = 77 ∧ i = 69) := fun a i z => by omega
theorem tg_312 : ∀ a i : Nat, (81 ≤ a ∧ a ≤ 84) → ¬ (a = 77 ∧ i = 68) := fun a i z => by omega
set_option maxRecDepth 4000 in
set_option maxHeartbeats 0 in
theorem C_225 {X : mm_X} {d : Nat} {M : mm_M} {Q : Option Value → mm_M → Prop} (hX : g_X X) (hd : 2 ≤ d) (hG : g_G M) (q1 : (M.2.1 77 7).toInt ≤ (M.2.1 77 6).toInt) (q2 : QK M) (q3 : FA M) (q4 : (M.2.1 77 68).toInt = 0) (h : ∀ (r : Int32) (M1 : mm_M), g_G M1 → FR md_qr M M1 → (0 ≤ r.toInt) → (r.toInt ≤ 1) → ((M1.2.1 77 7).toInt ≤ (M1.2.1 77 6).toInt) → ((M.2.1 77 7).toInt ≤ (M1.2.1 77 7).toInt) → (r.toInt = 1 → (M1.2.1 77 8).toInt = 0 ∨ (M.2.1 77 7).toInt < (M1.2.1 77 7).toInt) → (r.toInt = 1 → ¬ (M.2.1 77 8).toInt = 0) → (r.toInt = 1 → QK M1) → Q (some (.int r)) M1) : mm_T X d 224 0 [.ref 77, .null, .null, .null, .null, .null] [] M Q := by
  have F0 : FR md_qr M M := FR.rf
  have b_1 := g_b hG (a := 77) (i := 7) (lo := 0) (hi := 500) rfl rfl
  have b_2 := g_b hG (a := 77) (i := 6) (lo := 0) (hi := 500) rfl rfl
  have b_3 := g_b hG (a := 77) (i := 68) (lo := 0) (hi := 1) rfl rfl
  have b_4 := g_b hG (a := 77) (i := 59) (lo := 0) (hi := 40) rfl rfl
  have b_5 := g_b hG (a := 77) (i := 65) (lo := 0) (hi := 48) rfl rfl
  have b_6 := g_b hG (a := 77) (i := 66) (lo := 0) (hi := 40) rfl rfl
  have b_7 := g_b hG (a := 77) (i := 67) (lo := 0) (hi := 8) rfl rfl
  have b_8 := g_b hG (a := 77) (i := 69) (lo := 0) (hi := 40) rfl rfl
  have s_9 := QK_e q2
  have s_10 := Wx_b M ((M.2.1 77 65).toInt).toNat
  refine to_an (pc := 0) rw_225_0 rfl (to_c (pc := 1) rw_225_1 (x := (40 : Int32)) rfl rfl (s_v (pc := 3) rw_225_3 (dp0 hd (by decide)) (ls0 := [.ref 77, .int (40 : Int32)]) rfl (Nat.le_of_ble_eq_true rfl) (Nat.le_of_ble_eq_true rfl) rfl (to_rc rfl rfl rfl (g_o hG rfl)) rfl (to_an (pc := 0) rw_159_0 rfl ?_)))
  have b_11 := g_b hG (a := 77) (i := 8) (lo := 0) (hi := 5) rfl rfl
  refine tt_gI (pc := 1) rw_159_1 (g_o hG rfl) (v := (M.2.1 77 8)) rfl (to_c (pc := 4) rw_159_4 (x := (4 : Int32)) rfl rfl (b_cne (pc := 5) rw_159_5 (A := (M.2.1 77 8).toInt) (B := 4) rfl rfl (fun h12 => ?_) (fun h12 => ?_)))
  · refine to_c (pc := 20) rw_159_20 (x := (0 : Int32)) rfl rfl (s_r1 (pc := 21) rw_159_21 (A := 0) rfl (by decide) (b_ieq_t (pc := 6) rw_225_6 (A := 0) rfl (by decide) (to_an (pc := 60) rw_225_60 rfl (to_c (pc := 61) rw_225_61 (x := (14 : Int32)) rfl rfl (s_v (pc := 63) rw_225_63 (dp0 hd (by decide)) (ls0 := [.ref 77, .int (14 : Int32)]) rfl (Nat.le_of_ble_eq_true rfl) (Nat.le_of_ble_eq_true rfl) rfl (to_rc rfl rfl rfl (g_o hG rfl)) rfl (to_an (pc := 0) rw_158_0 rfl (tt_gI (pc := 1) rw_158_1 (g_o hG rfl) (v := (M.2.1 77 8)) rfl (to_c (pc := 4) rw_158_4 (x := (1 : Int32)) rfl rfl (b_cne (pc := 5) rw_158_5 (A := (M.2.1 77 8).toInt) (B := 1) rfl rfl (fun h13 => ?_) (fun h13 => ?_))))))))))
    · refine to_c (pc := 20) rw_158_20 (x := (0 : Int32)) rfl rfl (s_r1 (pc := 21) rw_158_21 (A := 0) rfl (by decide) (b_ieq_t (pc := 66) rw_225_66 (A := 0) rfl (by decide) (to_an (pc := 104) rw_225_104 rfl (tt_gI (pc := 105) rw_225_105 (g_o hG rfl) (v := (M.2.1 77 8)) rfl (to_c (pc := 108) rw_225_108 (x := (2 : Int32)) rfl rfl (b_ceq (pc := 109) rw_225_109 (A := (M.2.1 77 8).toInt) (B := 2) rfl rfl (fun h14 => ?_) (fun h14 => ?_)))))))
      · refine to_an (pc := 118) rw_225_118 rfl (s_v (pc := 119) rw_225_119 (dp0 hd (by decide)) (ls0 := [.ref 77]) rfl (Nat.le_of_ble_eq_true rfl) (Nat.le_of_ble_eq_true rfl) rfl (to_rc rfl rfl rfl (g_o hG rfl)) rfl (to_an (pc := 0) rw_224_0 rfl (tt_gI (pc := 1) rw_224_1 (g_o hG rfl) (v := (M.2.1 77 69)) rfl (to_c (pc := 4) rw_224_4 (x := (40 : Int32)) rfl rfl (b_cne (pc := 6) rw_224_6 (A := (M.2.1 77 69).toInt) (B := 40) rfl rfl (fun h15 => ?_) (fun h15 => ?_))))))
        · refine to_an (pc := 15) rw_224_15 rfl (to_dupr (pc := 16) rw_224_16 (tt_gI (pc := 17) rw_224_17 (g_o hG rfl) (v := (M.2.1 77 69)) rfl (to_c (pc := 20) rw_224_20 (x := (1 : Int32)) rfl rfl (s_add (pc := 21) rw_224_21 (A := (M.2.1 77 69).toInt) (B := 1) rfl rfl (by omega) (fun v16 e17 => s_pI (pc := 22) rw_224_22 hG rfl (fun M19 W18 => ?_))))))
          have hG20 := g_w hG W18 (A := v16.toInt) rfl (lo := 0) (hi := 40) rfl rfl (by omega) (by decide)
          have F21 := FR.w F0 W18 (show 77 = 77 ∧ (69 = 4 ∨ 69 = 5 ∨ 7 ≤ 69 ∧ 69 ≤ 10) ∨ 77 = 77 ∧ (69 = 59 ∨ 65 ≤ 69 ∧ 69 ≤ 69) ∨ 112 ≤ 77 ∧ 77 ≤ 114 ∧ 40 ≤ 69 ∨ 77 = 115 ∨ 77 = 116 by decide)
          refine to_c (pc := 25) rw_224_25 (x := (1 : Int32)) rfl rfl (s_r1 (pc := 26) rw_224_26 (A := 1) rfl (by decide) (b_ine_t (pc := 122) rw_225_122 (A := 1) rfl (by decide) (to_an (pc := 127) rw_225_127 rfl ?_)))
          have c_22 : M19.2.1 77 9 = (M.2.1 77 9) := (W_n W18 (by decide) rfl)
          refine tt_gI (pc := 128) rw_225_128 (g_o hG20 rfl) (v := (M.2.1 77 9)) c_22 (to_isn (pc := 131) rw_225_131 (ls2 := [.ref 77, .int (M.2.1 77 9), .null, .null, .null, .null]) rfl rfl (to_an (pc := 132) rw_225_132 rfl ?_))
          have c_23 : M19.2.1 77 10 = (M.2.1 77 10) := (W_n W18 (by decide) rfl)
          have b_24 := g_b hG (a := 77) (i := 10) (lo := 0) (hi := 500) rfl rfl
          refine tt_gI (pc := 133) rw_225_133 (g_o hG20 rfl) (v := (M.2.1 77 10)) c_23 (to_isn (pc := 136) rw_225_136 (ls2 := [.ref 77, .int (M.2.1 77 9), .int (M.2.1 77 10), .null, .null, .null]) rfl rfl (to_an (pc := 137) rw_225_137 rfl (s_v (pc := 138) rw_225_138 (dp0 hd (by decide)) (ls0 := [.ref 77]) rfl (Nat.le_of_ble_eq_true rfl) (Nat.le_of_ble_eq_true rfl) rfl (to_rc rfl rfl rfl (g_o hG20 rfl)) rfl ?_)))
          have c_25 : M19.2.1 77 7 = (M.2.1 77 7) := (W_n W18 (by decide) rfl)
          have t_26 : (M19.2.1 77 7).toInt = (M.2.1 77 7).toInt := congrArg Int32.toInt c_25
          have c_27 : M19.2.1 77 6 = (M.2.1 77 6) := (W_n W18 (by decide) rfl)
          have t_28 : (M19.2.1 77 6).toInt = (M.2.1 77 6).toInt := congrArg Int32.toInt c_27
          refine C_156 hX (dp1 hd (by decide)) hG20 (by omega)  (fun M34 hG30 F29 p_31 p_32 p_33 => ?_)
          have F35 := FR.c F21 F29 tg_308
          have b_36 := g_b hG30 (a := 77) (i := 7) (lo := 0) (hi := 500) rfl rfl
          have c_37 : M34.2.1 77 6 = (M.2.1 77 6) := (F_n F29 (show ¬ (77 = 77 ∧ 7 ≤ 6 ∧ 6 ≤ 10) by decide) c_27)
          have t_38 : (M34.2.1 77 6).toInt = (M.2.1 77 6).toInt := congrArg Int32.toInt c_37
          have b_39 := g_b hG30 (a := 77) (i := 8) (lo := 0) (hi := 5) rfl rfl
          refine to_an (pc := 141) rw_225_141 rfl (to_c (pc := 142) rw_225_142 (x := (61 : Int32)) rfl rfl (s_v (pc := 144) rw_225_144 (dp0 hd (by decide)) (ls0 := [.ref 77, .int (61 : Int32)]) rfl (Nat.le_of_ble_eq_true rfl) (Nat.le_of_ble_eq_true rfl) rfl (to_rc rfl rfl rfl (g_o hG30 rfl)) rfl (to_an (pc := 0) rw_159_0 rfl (tt_gI (pc := 1) rw_159_1 (g_o hG30 rfl) (v := (M34.2.1 77 8)) rfl (to_c (pc := 4) rw_159_4 (x := (4 : Int32)) rfl rfl (b_cne (pc := 5) rw_159_5 (A := (M34.2.1 77 8).toInt) (B := 4) rfl rfl (fun h40 => ?_) (fun h40 => ?_)))))))
          · refine to_c (pc := 20) rw_159_20 (x := (0 : Int32)) rfl rfl (s_r1 (pc := 21) rw_159_21 (A := 0) rfl (by decide) (to_isn (pc := 147) rw_225_147 (ls2 := [.ref 77, .int (M.2.1 77 9), .int (M.2.1 77 10), .int (0 : Int32), .null, .null]) rfl rfl (to_an (pc := 148) rw_225_148 rfl (to_in (pc := 149) rw_225_149 rfl (s_v (pc := 150) rw_225_150 (dp0 hd (by decide)) (ls0 := [.ref 77, .int (M.2.1 77 9), .null]) rfl (Nat.le_of_ble_eq_true rfl) (Nat.le_of_ble_eq_true rfl) rfl (to_rc rfl rfl rfl (g_o hG30 rfl)) rfl ?_)))))
            have c_41 : M34.2.1 77 12 = (M.2.1 77 12) := (F_n F29 (show ¬ (77 = 77 ∧ 7 ≤ 12 ∧ 12 ≤ 10) by decide) (W_n W18 (by decide) rfl))
            have b_42 := g_b hG (a := 77) (i := 12) (lo := 0) (hi := 8) rfl rfl
            have t_43 : (M34.2.1 77 12).toInt = (M.2.1 77 12).toInt := congrArg Int32.toInt c_41
            refine C_175 hX (dp1 hd (by decide)) hG30 (n := (M.2.1 77 9)) (fun r44 M50 hG46 F45 p_47 p_48 p_49 => ?_)
            have F51 := FR.c F35 F45 tg_309
            refine to_is (pc := 153) rw_225_153 (ls2 := [.ref 77, .int (M.2.1 77 9), .int (M.2.1 77 10), .int (0 : Int32), .int r44, .null]) rfl rfl (to_an (pc := 155) rw_225_155 rfl (to_in (pc := 156) rw_225_156 rfl (s_v (pc := 157) rw_225_157 (dp0 hd (by decide)) (ls0 := [.ref 77, .int (M.2.1 77 9), .null]) rfl (Nat.le_of_ble_eq_true rfl) (Nat.le_of_ble_eq_true rfl) rfl (to_rc rfl rfl rfl (g_o hG46 rfl)) rfl ?_)))
            have c_52 : M50.2.1 77 13 = (M.2.1 77 13) := (F_n F45 (show ¬ (77 < 0) by decide) (F_n F29 (show ¬ (77 = 77 ∧ 7 ≤ 13 ∧ 13 ≤ 10) by decide) (W_n W18 (by decide) rfl)))
            have b_53 := g_b hG (a := 77) (i := 13) (lo := 0) (hi := 12) rfl rfl
            have t_54 : (M50.2.1 77 13).toInt = (M.2.1 77 13).toInt := congrArg Int32.toInt c_52
            refine C_176 hX (dp1 hd (by decide)) hG46 (n := (M.2.1 77 9)) (fun r55 M61 hG57 F56 p_58 p_59 p_60 => ?_)
            have F62 := FR.c F51 F56 tg_309
            refine to_is (pc := 160) rw_225_160 (ls2 := [.ref 77, .int (M.2.1 77 9), .int (M.2.1 77 10), .int (0 : Int32), .int r44, .int r55]) rfl rfl (to_in (pc := 162) rw_225_162 rfl (b_ieq_t (pc := 163) rw_225_163 (A := 0) rfl (by decide) (to_i (pc := 178) rw_225_178 rfl (b_ige (pc := 180) rw_225_180 (A := r55.toInt) rfl (fun h63 => ?_) (fun h63 => ?_)))))
            · refine to_an (pc := 194) rw_225_194 rfl (to_c (pc := 195) rw_225_195 (x := (1 : Int32)) rfl rfl (s_pI (pc := 196) rw_225_196 hG57 rfl (fun M65 W64 => ?_)))
              have hG66 := g_w hG57 W64 (A := 1) rfl (lo := 0) (hi := 1) rfl rfl (by omega) (by decide)
              have F67 := FR.w F62 W64 (show 77 = 77 ∧ (68 = 4 ∨ 68 = 5 ∨ 7 ≤ 68 ∧ 68 ≤ 10) ∨ 77 = 77 ∧ (68 = 59 ∨ 65 ≤ 68 ∧ 68 ≤ 69) ∨ 112 ≤ 77 ∧ 77 ≤ 114 ∧ 40 ≤ 68 ∨ 77 = 115 ∨ 77 = 116 by decide)
              refine to_in (pc := 199) rw_225_199 rfl (b_ine_f (pc := 200) rw_225_200 (A := 0) rfl (by decide) (to_an (pc := 203) rw_225_203 rfl (to_c (pc := 204) rw_225_204 (x := (1 : Int32)) rfl rfl (to_i (pc := 205) rw_225_205 rfl (to_c (pc := 207) rw_225_207 (x := (0 : Int32)) rfl rfl (s_v (pc := 208) rw_225_208 (dp0 hd (by decide)) (ls0 := [.ref 77, .int (1 : Int32), .int r55, .int (0 : Int32)]) rfl (Nat.le_of_ble_eq_true rfl) (Nat.le_of_ble_eq_true rfl) rfl (to_rc rfl rfl rfl (g_o hG66 rfl)) rfl ?_))))))
              have k_68 : (1 : Int32).toInt = 1 := rfl
              have k_69 : (0 : Int32).toInt = 0 := rfl
              have c_70 : M65.2.1 77 59 = (M.2.1 77 59) := (W_n W64 (by decide) (F_n F56 (show ¬ (77 < 0) by decide) (F_n F45 (show ¬ (77 < 0) by decide) (F_n F29 (show ¬ (77 = 77 ∧ 7 ≤ 59 ∧ 59 ≤ 10) by decide) (W_n W18 (by decide) rfl)))))
              have t_71 : (M65.2.1 77 59).toInt = (M.2.1 77 59).toInt := congrArg Int32.toInt c_70
              have c_72 : M65.2.1 77 66 = (M.2.1 77 66) := (W_n W64 (by decide) (F_n F56 (show ¬ (77 < 0) by decide) (F_n F45 (show ¬ (77 < 0) by decide) (F_n F29 (show ¬ (77 = 77 ∧ 7 ≤ 66 ∧ 66 ≤ 10) by decide) (W_n W18 (by decide) rfl)))))
              have t_73 : (M65.2.1 77 66).toInt = (M.2.1 77 66).toInt := congrArg Int32.toInt c_72
              refine C_221 hX (dp1 hd (by decide)) hG66 (by omega) (by omega) (by omega) (by omega) (by omega) (by omega) (by rw [(W_n W64 (by omega) (F_n F56 (show ¬ (77 < 0) by decide) (F_n F45 (show ¬ (77 < 0) by decide) (F_n F29 (show ¬ (77 = 77 ∧ 7 ≤ 59 ∧ 59 ≤ 10) by decide) (W_n W18 (by omega) rfl)))))]; exact KN_f (fun a i z => (W_n W64 (by /-r77,68-/ omega) (F_n F56 (show ¬ (a < 0) by omega) (F_n F45 (show ¬ (a < 0) by omega) (F_n F29 (show ¬ (a = 77 ∧ 7 ≤ i ∧ i ≤ 10) by omega) (W_n W18 (by /-r77,69-/ omega) rfl)))))) q2.2.2) (by omega) (by omega) (by omega) (by omega) (k := (1 : Int32)) (p := r55) (o := (0 : Int32)) (fun M79 hG75 F74 p_76 p_77 p_78 => ?_)
              have F80 := FR.c F67 F74 tg_310
              have b_81 := g_b hG75 (a := 77) (i := 59) (lo := 0) (hi := 40) rfl rfl
              have b_82 := g_b hG75 (a := 77) (i := 66) (lo := 0) (hi := 40) rfl rfl
              refine to_c (pc := 211) rw_225_211 (x := (1 : Int32)) rfl rfl (s_r1 (pc := 212) rw_225_212 (A := 1) rfl (by decide) ?_)
              have c_83 : M79.2.1 77 7 = (M34.2.1 77 7) := (F_n F74 (show ¬ (77 = 77 ∧ (7 = 59 ∨ 7 = 66) ∨ 112 ≤ 77 ∧ 77 ≤ 114 ∧ 40 ≤ 7 ∨ 77 = 116) by decide) (W_n W64 (by decide) (F_n F56 (show ¬ (77 < 0) by decide) (F_n F45 (show ¬ (77 < 0) by decide) rfl))))
              have t_84 : (M79.2.1 77 7).toInt = (M34.2.1 77 7).toInt := congrArg Int32.toInt c_83
              have c_85 : M79.2.1 77 6 = (M.2.1 77 6) := (F_n F74 (show ¬ (77 = 77 ∧ (6 = 59 ∨ 6 = 66) ∨ 112 ≤ 77 ∧ 77 ≤ 114 ∧ 40 ≤ 6 ∨ 77 = 116) by decide) (W_n W64 (by decide) (F_n F56 (show ¬ (77 < 0) by decide) (F_n F45 (show ¬ (77 < 0) by decide) c_37))))
              have t_86 : (M79.2.1 77 6).toInt = (M.2.1 77 6).toInt := congrArg Int32.toInt c_85
              have c_87 : M79.2.1 77 8 = (M34.2.1 77 8) := (F_n F74 (show ¬ (77 = 77 ∧ (8 = 59 ∨ 8 = 66) ∨ 112 ≤ 77 ∧ 77 ≤ 114 ∧ 40 ≤ 8 ∨ 77 = 116) by decide) (W_n W64 (by decide) (F_n F56 (show ¬ (77 < 0) by decide) (F_n F45 (show ¬ (77 < 0) by decide) rfl))))
              have t_88 : (M79.2.1 77 8).toInt = (M34.2.1 77 8).toInt := congrArg Int32.toInt c_87
              have c_89 : M79.2.1 77 65 = (M.2.1 77 65) := (F_n F74 (show ¬ (77 = 77 ∧ (65 = 59 ∨ 65 = 66) ∨ 112 ≤ 77 ∧ 77 ≤ 114 ∧ 40 ≤ 65 ∨ 77 = 116) by decide) (W_n W64 (by decide) (F_n F56 (show ¬ (77 < 0) by decide) (F_n F45 (show ¬ (77 < 0) by decide) (F_n F29 (show ¬ (77 = 77 ∧ 7 ≤ 65 ∧ 65 ≤ 10) by decide) (W_n W18 (by decide) rfl))))))
              have t_90 : (M79.2.1 77 65).toInt = (M.2.1 77 65).toInt := congrArg Int32.toInt c_89
              have c_91 : M79.2.1 77 67 = (M.2.1 77 67) := (F_n F74 (show ¬ (77 = 77 ∧ (67 = 59 ∨ 67 = 66) ∨ 112 ≤ 77 ∧ 77 ≤ 114 ∧ 40 ≤ 67 ∨ 77 = 116) by decide) (W_n W64 (by decide) (F_n F56 (show ¬ (77 < 0) by decide) (F_n F45 (show ¬ (77 < 0) by decide) (F_n F29 (show ¬ (77 = 77 ∧ 7 ≤ 67 ∧ 67 ≤ 10) by decide) (W_n W18 (by decide) rfl))))))
              have t_92 : (M79.2.1 77 67).toInt = (M.2.1 77 67).toInt := congrArg Int32.toInt c_91
              have c_93 : M79.2.1 77 68 = (1 : Int32) := (F_n F74 (show ¬ (77 = 77 ∧ (68 = 59 ∨ 68 = 66) ∨ 112 ≤ 77 ∧ 77 ≤ 114 ∧ 40 ≤ 68 ∨ 77 = 116) by decide) (W_e W64))
              have t_94 : (M79.2.1 77 68).toInt = (1 : Int32).toInt := congrArg Int32.toInt c_93
              have c_95 : M79.2.1 77 69 = v16 := (F_n F74 (show ¬ (77 = 77 ∧ (69 = 59 ∨ 69 = 66) ∨ 112 ≤ 77 ∧ 77 ≤ 114 ∧ 40 ≤ 69 ∨ 77 = 116) by decide) (W_n W64 (by decide) (F_n F56 (show ¬ (77 < 0) by decide) (F_n F45 (show ¬ (77 < 0) by decide) (F_n F29 (show ¬ (77 = 77 ∧ 7 ≤ 69 ∧ 69 ≤ 10) by decide) (W_e W18))))))
              have t_96 : (M79.2.1 77 69).toInt = v16.toInt := congrArg Int32.toInt c_95
              have s_98 := Wx_f (M := M) (M1 := M79) ((M.2.1 77 65).toInt).toNat (fun i z => (F_n F74 (show ¬ (115 = 77 ∧ (i = 59 ∨ i = 66) ∨ 112 ≤ 115 ∧ 115 ≤ 114 ∧ 40 ≤ i ∨ 115 = 116) by omega) (W_n W64 (by omega) (F_n F56 (show ¬ (115 < 0) by decide) (F_n F45 (show ¬ (115 < 0) by decide) (F_n F29 (show ¬ (115 = 77 ∧ 7 ≤ i ∧ i ≤ 10) by omega) (W_n W18 (by omega) rfl)))))))
              have j_97 : QK M79 := QK_i (by unfold QK_c; rw [show ((M79.2.1 77 65).toInt).toNat = ((M.2.1 77 65).toInt).toNat by omega]; refine ⟨by omega, by omega, by omega, by omega⟩) (fun i z => by rw [(F_n F74 (show ¬ (115 = 77 ∧ (i = 59 ∨ i = 66) ∨ 112 ≤ 115 ∧ 115 ≤ 114 ∧ 40 ≤ i ∨ 115 = 116) by omega) (W_n W64 (by omega) (F_n F56 (show ¬ (115 < 0) by decide) (F_n F45 (show ¬ (115 < 0) by decide) (F_n F29 (show ¬ (115 = 77 ∧ 7 ≤ i ∧ i ≤ 10) by omega) (W_n W18 (by omega) rfl))))))]; exact q2.2.1 i (by omega)) p_78
              exact h (1 : Int32) M79 hG75 F80 (by decide) (by decide) (by omega) (by omega) (by omega) (by omega) (fun _ => j_97)
            · refine to_an (pc := 183) rw_225_183 rfl (to_in (pc := 184) rw_225_184 rfl (s_pI (pc := 185) rw_225_185 hG57 rfl (fun M100 W99 => ?_)))
              have hG101 := g_w hG57 W99 (A := (M.2.1 77 10).toInt) rfl (lo := 0) (hi := 500) rfl rfl (by omega) (by decide)
              have F102 := FR.w F62 W99 (show 77 = 77 ∧ (10 = 4 ∨ 10 = 5 ∨ 7 ≤ 10 ∧ 10 ≤ 10) ∨ 77 = 77 ∧ (10 = 59 ∨ 65 ≤ 10 ∧ 10 ≤ 69) ∨ 112 ≤ 77 ∧ 77 ≤ 114 ∧ 40 ≤ 10 ∨ 77 = 115 ∨ 77 = 116 by decide)
              refine to_an (pc := 188) rw_225_188 rfl (to_c (pc := 189) rw_225_189 (x := (4 : Int32)) rfl rfl (s_v (pc := 190) rw_225_190 (dp0 hd (by decide)) (ls0 := [.ref 77, .int (4 : Int32)]) rfl (Nat.le_of_ble_eq_true rfl) (Nat.le_of_ble_eq_true rfl) rfl (to_rc rfl rfl rfl (g_o hG101 rfl)) rfl (to_an (pc := 0) rw_152_0 rfl (to_in (pc := 1) rw_152_1 rfl (s_pI (pc := 2) rw_152_2 hG101 rfl (fun M104 W103 => ?_))))))
              have hG105 := g_wf hG101 W103 rfl rfl (by decide)
              have F106 := FR.w F102 W103 (show 77 = 77 ∧ (4 = 4 ∨ 4 = 5 ∨ 7 ≤ 4 ∧ 4 ≤ 10) ∨ 77 = 77 ∧ (4 = 59 ∨ 65 ≤ 4 ∧ 4 ≤ 69) ∨ 112 ≤ 77 ∧ 77 ≤ 114 ∧ 40 ≤ 4 ∨ 77 = 115 ∨ 77 = 116 by decide)
              refine to_an (pc := 5) rw_152_5 rfl (to_an (pc := 6) rw_152_6 rfl ?_)
              have c_107 : M104.2.1 77 10 = (M.2.1 77 10) := (W_n W103 (by decide) (W_e W99))
              refine tt_gI (pc := 7) rw_152_7 (g_o hG105 rfl) (v := (M.2.1 77 10)) c_107 (s_pI (pc := 10) rw_152_10 hG105 rfl (fun M109 W108 => ?_))
              have hG110 := g_wf hG105 W108 rfl rfl (by decide)
              have F111 := FR.w F106 W108 (show 77 = 77 ∧ (5 = 4 ∨ 5 = 5 ∨ 7 ≤ 5 ∧ 5 ≤ 10) ∨ 77 = 77 ∧ (5 = 59 ∨ 65 ≤ 5 ∧ 5 ≤ 69) ∨ 112 ≤ 77 ∧ 77 ≤ 114 ∧ 40 ≤ 5 ∨ 77 = 115 ∨ 77 = 116 by decide)
              refine to_c (pc := 13) rw_152_13 (x := (0 : Int32)) rfl rfl (s_r1 (pc := 14) rw_152_14 (A := 0) rfl (by decide) (s_r1 (pc := 193) rw_225_193 (A := 0) rfl (by decide) ?_))
              have k_112 : (0 : Int32).toInt = 0 := rfl
              have c_113 : M109.2.1 77 7 = (M34.2.1 77 7) := (W_n W108 (by decide) (W_n W103 (by decide) (W_n W99 (by decide) (F_n F56 (show ¬ (77 < 0) by decide) (F_n F45 (show ¬ (77 < 0) by decide) rfl)))))
              have t_114 : (M109.2.1 77 7).toInt = (M34.2.1 77 7).toInt := congrArg Int32.toInt c_113
              have c_115 : M109.2.1 77 6 = (M.2.1 77 6) := (W_n W108 (by decide) (W_n W103 (by decide) (W_n W99 (by decide) (F_n F56 (show ¬ (77 < 0) by decide) (F_n F45 (show ¬ (77 < 0) by decide) c_37)))))
              have t_116 : (M109.2.1 77 6).toInt = (M.2.1 77 6).toInt := congrArg Int32.toInt c_115
              have c_117 : M109.2.1 77 8 = (M34.2.1 77 8) := (W_n W108 (by decide) (W_n W103 (by decide) (W_n W99 (by decide) (F_n F56 (show ¬ (77 < 0) by decide) (F_n F45 (show ¬ (77 < 0) by decide) rfl)))))
              have t_118 : (M109.2.1 77 8).toInt = (M34.2.1 77 8).toInt := congrArg Int32.toInt c_117
              exact h (0 : Int32) M109 hG110 F111 (by decide) (by decide) (by omega) (by omega) (by omega) (by omega) (fun z => absurd z (by omega))
          · refine to_an (pc := 8) rw_159_8 rfl (tt_gI (pc := 9) rw_159_9 (g_o hG30 rfl) (v := (M34.2.1 77 9)) rfl (to_in (pc := 12) rw_159_12 rfl (b_cne (pc := 13) rw_159_13 (A := (M34.2.1 77 9).toInt) (B := 61) rfl rfl (fun h119 => ?_) (fun h119 => ?_))))
            · refine to_c (pc := 20) rw_159_20 (x := (0 : Int32)) rfl rfl (s_r1 (pc := 21) rw_159_21 (A := 0) rfl (by decide) (to_isn (pc := 147) rw_225_147 (ls2 := [.ref 77, .int (M.2.1 77 9), .int (M.2.1 77 10), .int (0 : Int32), .null, .null]) rfl rfl (to_an (pc := 148) rw_225_148 rfl (to_in (pc := 149) rw_225_149 rfl (s_v (pc := 150) rw_225_150 (dp0 hd (by decide)) (ls0 := [.ref 77, .int (M.2.1 77 9), .null]) rfl (Nat.le_of_ble_eq_true rfl) (Nat.le_of_ble_eq_true rfl) rfl (to_rc rfl rfl rfl (g_o hG30 rfl)) rfl ?_)))))
              have c_120 : M34.2.1 77 12 = (M.2.1 77 12) := (F_n F29 (show ¬ (77 = 77 ∧ 7 ≤ 12 ∧ 12 ≤ 10) by decide) (W_n W18 (by decide) rfl))
              have b_121 := g_b hG (a := 77) (i := 12) (lo := 0) (hi := 8) rfl rfl
              have t_122 : (M34.2.1 77 12).toInt = (M.2.1 77 12).toInt := congrArg Int32.toInt c_120
              refine C_175 hX (dp1 hd (by decide)) hG30 (n := (M.2.1 77 9)) (fun r123 M129 hG125 F124 p_126 p_127 p_128 => ?_)
              have F130 := FR.c F35 F124 tg_309
              refine to_is (pc := 153) rw_225_153 (ls2 := [.ref 77, .int (M.2.1 77 9), .int (M.2.1 77 10), .int (0 : Int32), .int r123, .null]) rfl rfl (to_an (pc := 155) rw_225_155 rfl (to_in (pc := 156) rw_225_156 rfl (s_v (pc := 157) rw_225_157 (dp0 hd (by decide)) (ls0 := [.ref 77, .int (M.2.1 77 9), .null]) rfl (Nat.le_of_ble_eq_true rfl) (Nat.le_of_ble_eq_true rfl) rfl (to_rc rfl rfl rfl (g_o hG125 rfl)) rfl ?_)))
              have c_131 : M129.2.1 77 13 = (M.2.1 77 13) := (F_n F124 (show ¬ (77 < 0) by decide) (F_n F29 (show ¬ (77 = 77 ∧ 7 ≤ 13 ∧ 13 ≤ 10) by decide) (W_n W18 (by decide) rfl)))
              have b_132 := g_b hG (a := 77) (i := 13) (lo := 0) (hi := 12) rfl rfl
              have t_133 : (M129.2.1 77 13).toInt = (M.2.1 77 13).toInt := congrArg Int32.toInt c_131
              refine C_176 hX (dp1 hd (by decide)) hG125 (n := (M.2.1 77 9)) (fun r134 M140 hG136 F135 p_137 p_138 p_139 => ?_)
              have F141 := FR.c F130 F135 tg_309
              refine to_is (pc := 160) rw_225_160 (ls2 := [.ref 77, .int (M.2.1 77 9), .int (M.2.1 77 10), .int (0 : Int32), .int r123, .int r134]) rfl rfl (to_in (pc := 162) rw_225_162 rfl (b_ieq_t (pc := 163) rw_225_163 (A := 0) rfl (by decide) (to_i (pc := 178) rw_225_178 rfl (b_ige (pc := 180) rw_225_180 (A := r134.toInt) rfl (fun h142 => ?_) (fun h142 => ?_)))))
              · refine to_an (pc := 194) rw_225_194 rfl (to_c (pc := 195) rw_225_195 (x := (1 : Int32)) rfl rfl (s_pI (pc := 196) rw_225_196 hG136 rfl (fun M144 W143 => ?_)))
                have hG145 := g_w hG136 W143 (A := 1) rfl (lo := 0) (hi := 1) rfl rfl (by omega) (by decide)
                have F146 := FR.w F141 W143 (show 77 = 77 ∧ (68 = 4 ∨ 68 = 5 ∨ 7 ≤ 68 ∧ 68 ≤ 10) ∨ 77 = 77 ∧ (68 = 59 ∨ 65 ≤ 68 ∧ 68 ≤ 69) ∨ 112 ≤ 77 ∧ 77 ≤ 114 ∧ 40 ≤ 68 ∨ 77 = 115 ∨ 77 = 116 by decide)
                refine to_in (pc := 199) rw_225_199 rfl (b_ine_f (pc := 200) rw_225_200 (A := 0) rfl (by decide) (to_an (pc := 203) rw_225_203 rfl (to_c (pc := 204) rw_225_204 (x := (1 : Int32)) rfl rfl (to_i (pc := 205) rw_225_205 rfl (to_c (pc := 207) rw_225_207 (x := (0 : Int32)) rfl rfl (s_v (pc := 208) rw_225_208 (dp0 hd (by decide)) (ls0 := [.ref 77, .int (1 : Int32), .int r134, .int (0 : Int32)]) rfl (Nat.le_of_ble_eq_true rfl) (Nat.le_of_ble_eq_true rfl) rfl (to_rc rfl rfl rfl (g_o hG145 rfl)) rfl ?_))))))
                have k_147 : (1 : Int32).toInt = 1 := rfl
                have k_148 : (0 : Int32).toInt = 0 := rfl
                have c_149 : M144.2.1 77 59 = (M.2.1 77 59) := (W_n W143 (by decide) (F_n F135 (show ¬ (77 < 0) by decide) (F_n F124 (show ¬ (77 < 0) by decide) (F_n F29 (show ¬ (77 = 77 ∧ 7 ≤ 59 ∧ 59 ≤ 10) by decide) (W_n W18 (by decide) rfl)))))
                have t_150 : (M144.2.1 77 59).toInt = (M.2.1 77 59).toInt := congrArg Int32.toInt c_149
                have c_151 : M144.2.1 77 66 = (M.2.1 77 66) := (W_n W143 (by decide) (F_n F135 (show ¬ (77 < 0) by decide) (F_n F124 (show ¬ (77 < 0) by decide) (F_n F29 (show ¬ (77 = 77 ∧ 7 ≤ 66 ∧ 66 ≤ 10) by decide) (W_n W18 (by decide) rfl)))))
                have t_152 : (M144.2.1 77 66).toInt = (M.2.1 77 66).toInt := congrArg Int32.toInt c_151
                refine C_221 hX (dp1 hd (by decide)) hG145 (by omega) (by omega) (by omega) (by omega) (by omega) (by omega) (by rw [(W_n W143 (by omega) (F_n F135 (show ¬ (77 < 0) by decide) (F_n F124 (show ¬ (77 < 0) by decide) (F_n F29 (show ¬ (77 = 77 ∧ 7 ≤ 59 ∧ 59 ≤ 10) by decide) (W_n W18 (by omega) rfl)))))]; exact KN_f (fun a i z => (W_n W143 (by /-r77,68-/ omega) (F_n F135 (show ¬ (a < 0) by omega) (F_n F124 (show ¬ (a < 0) by omega) (F_n F29 (show ¬ (a = 77 ∧ 7 ≤ i ∧ i ≤ 10) by omega) (W_n W18 (by /-r77,69-/ omega) rfl)))))) q2.2.2) (by omega) (by omega) (by omega) (by omega) (k := (1 : Int32)) (p := r134) (o := (0 : Int32)) (fun M158 hG154 F153 p_155 p_156 p_157 => ?_)
                have F159 := FR.c F146 F153 tg_310
                have b_160 := g_b hG154 (a := 77) (i := 59) (lo := 0) (hi := 40) rfl rfl
                have b_161 := g_b hG154 (a := 77) (i := 66) (lo := 0) (hi := 40) rfl rfl
                refine to_c (pc := 211) rw_225_211 (x := (1 : Int32)) rfl rfl (s_r1 (pc := 212) rw_225_212 (A := 1) rfl (by decide) ?_)
                have c_162 : M158.2.1 77 7 = (M34.2.1 77 7) := (F_n F153 (show ¬ (77 = 77 ∧ (7 = 59 ∨ 7 = 66) ∨ 112 ≤ 77 ∧ 77 ≤ 114 ∧ 40 ≤ 7 ∨ 77 = 116) by decide) (W_n W143 (by decide) (F_n F135 (show ¬ (77 < 0) by decide) (F_n F124 (show ¬ (77 < 0) by decide) rfl))))
                have t_163 : (M158.2.1 77 7).toInt = (M34.2.1 77 7).toInt := congrArg Int32.toInt c_162
                have c_164 : M158.2.1 77 6 = (M.2.1 77 6) := (F_n F153 (show ¬ (77 = 77 ∧ (6 = 59 ∨ 6 = 66) ∨ 112 ≤ 77 ∧ 77 ≤ 114 ∧ 40 ≤ 6 ∨ 77 = 116) by decide) (W_n W143 (by decide) (F_n F135 (show ¬ (77 < 0) by decide) (F_n F124 (show ¬ (77 < 0) by decide) c_37))))
                have t_165 : (M158.2.1 77 6).toInt = (M.2.1 77 6).toInt := congrArg Int32.toInt c_164
                have c_166 : M158.2.1 77 8 = (M34.2.1 77 8) := (F_n F153 (show ¬ (77 = 77 ∧ (8 = 59 ∨ 8 = 66) ∨ 112 ≤ 77 ∧ 77 ≤ 114 ∧ 40 ≤ 8 ∨ 77 = 116) by decide) (W_n W143 (by decide) (F_n F135 (show ¬ (77 < 0) by decide) (F_n F124 (show ¬ (77 < 0) by decide) rfl))))
                have t_167 : (M158.2.1 77 8).toInt = (M34.2.1 77 8).toInt := congrArg Int32.toInt c_166
                have c_168 : M158.2.1 77 65 = (M.2.1 77 65) := (F_n F153 (show ¬ (77 = 77 ∧ (65 = 59 ∨ 65 = 66) ∨ 112 ≤ 77 ∧ 77 ≤ 114 ∧ 40 ≤ 65 ∨ 77 = 116) by decide) (W_n W143 (by decide) (F_n F135 (show ¬ (77 < 0) by decide) (F_n F124 (show ¬ (77 < 0) by decide) (F_n F29 (show ¬ (77 = 77 ∧ 7 ≤ 65 ∧ 65 ≤ 10) by decide) (W_n W18 (by decide) rfl))))))
                have t_169 : (M158.2.1 77 65).toInt = (M.2.1 77 65).toInt := congrArg Int32.toInt c_168
                have c_170 : M158.2.1 77 67 = (M.2.1 77 67) := (F_n F153 (show ¬ (77 = 77 ∧ (67 = 59 ∨ 67 = 66) ∨ 112 ≤ 77 ∧ 77 ≤ 114 ∧ 40 ≤ 67 ∨ 77 = 116) by decide) (W_n W143 (by decide) (F_n F135 (show ¬ (77 < 0) by decide) (F_n F124 (show ¬ (77 < 0) by decide) (F_n F29 (show ¬ (77 = 77 ∧ 7 ≤ 67 ∧ 67 ≤ 10) by decide) (W_n W18 (by decide) rfl))))))
                have t_171 : (M158.2.1 77 67).toInt = (M.2.1 77 67).toInt := congrArg Int32.toInt c_170
                have c_172 : M158.2.1 77 68 = (1 : Int32) := (F_n F153 (show ¬ (77 = 77 ∧ (68 = 59 ∨ 68 = 66) ∨ 112 ≤ 77 ∧ 77 ≤ 114 ∧ 40 ≤ 68 ∨ 77 = 116) by decide) (W_e W143))
                have t_173 : (M158.2.1 77 68).toInt = (1 : Int32).toInt := congrArg Int32.toInt c_172
                have c_174 : M158.2.1 77 69 = v16 := (F_n F153 (show ¬ (77 = 77 ∧ (69 = 59 ∨ 69 = 66) ∨ 112 ≤ 77 ∧ 77 ≤ 114 ∧ 40 ≤ 69 ∨ 77 = 116) by decide) (W_n W143 (by decide) (F_n F135 (show ¬ (77 < 0) by decide) (F_n F124 (show ¬ (77 < 0) by decide) (F_n F29 (show ¬ (77 = 77 ∧ 7 ≤ 69 ∧ 69 ≤ 10) by decide) (W_e W18))))))
                have t_175 : (M158.2.1 77 69).toInt = v16.toInt := congrArg Int32.toInt c_174
                have s_177 := Wx_f (M := M) (M1 := M158) ((M.2.1 77 65).toInt).toNat (fun i z => (F_n F153 (show ¬ (115 = 77 ∧ (i = 59 ∨ i = 66) ∨ 112 ≤ 115 ∧ 115 ≤ 114 ∧ 40 ≤ i ∨ 115 = 116) by omega) (W_n W143 (by omega) (F_n F135 (show ¬ (115 < 0) by decide) (F_n F124 (show ¬ (115 < 0) by decide) (F_n F29 (show ¬ (115 = 77 ∧ 7 ≤ i ∧ i ≤ 10) by omega) (W_n W18 (by omega) rfl)))))))
                have j_176 : QK M158 := QK_i (by unfold QK_c; rw [show ((M158.2.1 77 65).toInt).toNat = ((M.2.1 77 65).toInt).toNat by omega]; refine ⟨by omega, by omega, by omega, by omega⟩) (fun i z => by rw [(F_n F153 (show ¬ (115 = 77 ∧ (i = 59 ∨ i = 66) ∨ 112 ≤ 115 ∧ 115 ≤ 114 ∧ 40 ≤ i ∨ 115 = 116) by omega) (W_n W143 (by omega) (F_n F135 (show ¬ (115 < 0) by decide) (F_n F124 (show ¬ (115 < 0) by decide) (F_n F29 (show ¬ (115 = 77 ∧ 7 ≤ i ∧ i ≤ 10) by omega) (W_n W18 (by omega) rfl))))))]; exact q2.2.1 i (by omega)) p_157
                exact h (1 : Int32) M158 hG154 F159 (by decide) (by decide) (by omega) (by omega) (by omega) (by omega) (fun _ => j_176)
              · refine to_an (pc := 183) rw_225_183 rfl (to_in (pc := 184) rw_225_184 rfl (s_pI (pc := 185) rw_225_185 hG136 rfl (fun M179 W178 => ?_)))
                have hG180 := g_w hG136 W178 (A := (M.2.1 77 10).toInt) rfl (lo := 0) (hi := 500) rfl rfl (by omega) (by decide)
                have F181 := FR.w F141 W178 (show 77 = 77 ∧ (10 = 4 ∨ 10 = 5 ∨ 7 ≤ 10 ∧ 10 ≤ 10) ∨ 77 = 77 ∧ (10 = 59 ∨ 65 ≤ 10 ∧ 10 ≤ 69) ∨ 112 ≤ 77 ∧ 77 ≤ 114 ∧ 40 ≤ 10 ∨ 77 = 115 ∨ 77 = 116 by decide)
                refine to_an (pc := 188) rw_225_188 rfl (to_c (pc := 189) rw_225_189 (x := (4 : Int32)) rfl rfl (s_v (pc := 190) rw_225_190 (dp0 hd (by decide)) (ls0 := [.ref 77, .int (4 : Int32)]) rfl (Nat.le_of_ble_eq_true rfl) (Nat.le_of_ble_eq_true rfl) rfl (to_rc rfl rfl rfl (g_o hG180 rfl)) rfl (to_an (pc := 0) rw_152_0 rfl (to_in (pc := 1) rw_152_1 rfl (s_pI (pc := 2) rw_152_2 hG180 rfl (fun M183 W182 => ?_))))))
                have hG184 := g_wf hG180 W182 rfl rfl (by decide)
                have F185 := FR.w F181 W182 (show 77 = 77 ∧ (4 = 4 ∨ 4 = 5 ∨ 7 ≤ 4 ∧ 4 ≤ 10) ∨ 77 = 77 ∧ (4 = 59 ∨ 65 ≤ 4 ∧ 4 ≤ 69) ∨ 112 ≤ 77 ∧ 77 ≤ 114 ∧ 40 ≤ 4 ∨ 77 = 115 ∨ 77 = 116 by decide)
                refine to_an (pc := 5) rw_152_5 rfl (to_an (pc := 6) rw_152_6 rfl ?_)
                have c_186 : M183.2.1 77 10 = (M.2.1 77 10) := (W_n W182 (by decide) (W_e W178))
                refine tt_gI (pc := 7) rw_152_7 (g_o hG184 rfl) (v := (M.2.1 77 10)) c_186 (s_pI (pc := 10) rw_152_10 hG184 rfl (fun M188 W187 => ?_))
                have hG189 := g_wf hG184 W187 rfl rfl (by decide)
                have F190 := FR.w F185 W187 (show 77 = 77 ∧ (5 = 4 ∨ 5 = 5 ∨ 7 ≤ 5 ∧ 5 ≤ 10) ∨ 77 = 77 ∧ (5 = 59 ∨ 65 ≤ 5 ∧ 5 ≤ 69) ∨ 112 ≤ 77 ∧ 77 ≤ 114 ∧ 40 ≤ 5 ∨ 77 = 115 ∨ 77 = 116 by decide)
                refine to_c (pc := 13) rw_152_13 (x := (0 : Int32)) rfl rfl (s_r1 (pc := 14) rw_152_14 (A := 0) rfl (by decide) (s_r1 (pc := 193) rw_225_193 (A := 0) rfl (by decide) ?_))
                have k_191 : (0 : Int32).toInt = 0 := rfl
                have c_192 : M188.2.1 77 7 = (M34.2.1 77 7) := (W_n W187 (by decide) (W_n W182 (by decide) (W_n W178 (by decide) (F_n F135 (show ¬ (77 < 0) by decide) (F_n F124 (show ¬ (77 < 0) by decide) rfl)))))
                have t_193 : (M188.2.1 77 7).toInt = (M34.2.1 77 7).toInt := congrArg Int32.toInt c_192
                have c_194 : M188.2.1 77 6 = (M.2.1 77 6) := (W_n W187 (by decide) (W_n W182 (by decide) (W_n W178 (by decide) (F_n F135 (show ¬ (77 < 0) by decide) (F_n F124 (show ¬ (77 < 0) by decide) c_37)))))
                have t_195 : (M188.2.1 77 6).toInt = (M.2.1 77 6).toInt := congrArg Int32.toInt c_194
                have c_196 : M188.2.1 77 8 = (M34.2.1 77 8) := (W_n W187 (by decide) (W_n W182 (by decide) (W_n W178 (by decide) (F_n F135 (show ¬ (77 < 0) by decide) (F_n F124 (show ¬ (77 < 0) by decide) rfl)))))
                have t_197 : (M188.2.1 77 8).toInt = (M34.2.1 77 8).toInt := congrArg Int32.toInt c_196
                exact h (0 : Int32) M188 hG189 F190 (by decide) (by decide) (by omega) (by omega) (by omega) (by omega) (fun z => absurd z (by omega))
            · refine to_c (pc := 16) rw_159_16 (x := (1 : Int32)) rfl rfl (to_go (pc := 17) rw_159_17 (s_r1 (pc := 21) rw_159_21 (A := 1) rfl (by decide) (to_isn (pc := 147) rw_225_147 (ls2 := [.ref 77, .int (M.2.1 77 9), .int (M.2.1 77 10), .int (1 : Int32), .null, .null]) rfl rfl (to_an (pc := 148) rw_225_148 rfl (to_in (pc := 149) rw_225_149 rfl (s_v (pc := 150) rw_225_150 (dp0 hd (by decide)) (ls0 := [.ref 77, .int (M.2.1 77 9), .null]) rfl (Nat.le_of_ble_eq_true rfl) (Nat.le_of_ble_eq_true rfl) rfl (to_rc rfl rfl rfl (g_o hG30 rfl)) rfl ?_))))))
              have c_198 : M34.2.1 77 12 = (M.2.1 77 12) := (F_n F29 (show ¬ (77 = 77 ∧ 7 ≤ 12 ∧ 12 ≤ 10) by decide) (W_n W18 (by decide) rfl))
              have b_199 := g_b hG (a := 77) (i := 12) (lo := 0) (hi := 8) rfl rfl
              have t_200 : (M34.2.1 77 12).toInt = (M.2.1 77 12).toInt := congrArg Int32.toInt c_198
              refine C_175 hX (dp1 hd (by decide)) hG30 (n := (M.2.1 77 9)) (fun r201 M207 hG203 F202 p_204 p_205 p_206 => ?_)
              have F208 := FR.c F35 F202 tg_309
              refine to_is (pc := 153) rw_225_153 (ls2 := [.ref 77, .int (M.2.1 77 9), .int (M.2.1 77 10), .int (1 : Int32), .int r201, .null]) rfl rfl (to_an (pc := 155) rw_225_155 rfl (to_in (pc := 156) rw_225_156 rfl (s_v (pc := 157) rw_225_157 (dp0 hd (by decide)) (ls0 := [.ref 77, .int (M.2.1 77 9), .null]) rfl (Nat.le_of_ble_eq_true rfl) (Nat.le_of_ble_eq_true rfl) rfl (to_rc rfl rfl rfl (g_o hG203 rfl)) rfl ?_)))
              have c_209 : M207.2.1 77 13 = (M.2.1 77 13) := (F_n F202 (show ¬ (77 < 0) by decide) (F_n F29 (show ¬ (77 = 77 ∧ 7 ≤ 13 ∧ 13 ≤ 10) by decide) (W_n W18 (by decide) rfl)))
              have b_210 := g_b hG (a := 77) (i := 13) (lo := 0) (hi := 12) rfl rfl
              have t_211 : (M207.2.1 77 13).toInt = (M.2.1 77 13).toInt := congrArg Int32.toInt c_209
              refine C_176 hX (dp1 hd (by decide)) hG203 (n := (M.2.1 77 9)) (fun r212 M218 hG214 F213 p_215 p_216 p_217 => ?_)
              have F219 := FR.c F208 F213 tg_309
              refine to_is (pc := 160) rw_225_160 (ls2 := [.ref 77, .int (M.2.1 77 9), .int (M.2.1 77 10), .int (1 : Int32), .int r201, .int r212]) rfl rfl (to_in (pc := 162) rw_225_162 rfl (b_ieq_f (pc := 163) rw_225_163 (A := 1) rfl (by decide) (to_an (pc := 166) rw_225_166 rfl (to_i (pc := 167) rw_225_167 rfl (s_v (pc := 169) rw_225_169 (dp0 hd (by decide)) (ls0 := [.ref 77, .int r201]) rfl (Nat.le_of_ble_eq_true rfl) (Nat.le_of_ble_eq_true rfl) rfl (to_rc rfl rfl rfl (g_o hG214 rfl)) rfl (to_an (pc := 0) rw_179_0 rfl (to_in (pc := 1) rw_179_1 rfl (s_v (pc := 2) rw_179_2 (dp1 hd (by decide)) (ls0 := [.ref 77, .int r201]) rfl (Nat.le_of_ble_eq_true rfl) (Nat.le_of_ble_eq_true rfl) rfl (to_rc rfl rfl rfl (g_o hG214 rfl)) rfl (to_in (pc := 0) rw_178_0 rfl (b_ilt (pc := 1) rw_178_1 (A := r201.toInt) rfl (fun h220 => ?_) (fun h220 => ?_)))))))))))
              · refine to_c (pc := 16) rw_178_16 (x := (0 : Int32)) rfl rfl (s_r1 (pc := 17) rw_178_17 (A := 0) rfl (by decide) (b_ieq_t (pc := 5) rw_179_5 (A := 0) rfl (by decide) (to_c (pc := 22) rw_179_22 (x := (0 : Int32)) rfl rfl (s_r1 (pc := 23) rw_179_23 (A := 0) rfl (by decide) (b_ine_f (pc := 172) rw_225_172 (A := 0) rfl (by decide) (to_go (pc := 175) rw_225_175 (to_an (pc := 183) rw_225_183 rfl (to_in (pc := 184) rw_225_184 rfl (s_pI (pc := 185) rw_225_185 hG214 rfl (fun M222 W221 => ?_))))))))))
                have hG223 := g_w hG214 W221 (A := (M.2.1 77 10).toInt) rfl (lo := 0) (hi := 500) rfl rfl (by omega) (by decide)
                have F224 := FR.w F219 W221 (show 77 = 77 ∧ (10 = 4 ∨ 10 = 5 ∨ 7 ≤ 10 ∧ 10 ≤ 10) ∨ 77 = 77 ∧ (10 = 59 ∨ 65 ≤ 10 ∧ 10 ≤ 69) ∨ 112 ≤ 77 ∧ 77 ≤ 114 ∧ 40 ≤ 10 ∨ 77 = 115 ∨ 77 = 116 by decide)
                refine to_an (pc := 188) rw_225_188 rfl (to_c (pc := 189) rw_225_189 (x := (4 : Int32)) rfl rfl (s_v (pc := 190) rw_225_190 (dp0 hd (by decide)) (ls0 := [.ref 77, .int (4 : Int32)]) rfl (Nat.le_of_ble_eq_true rfl) (Nat.le_of_ble_eq_true rfl) rfl (to_rc rfl rfl rfl (g_o hG223 rfl)) rfl (to_an (pc := 0) rw_152_0 rfl (to_in (pc := 1) rw_152_1 rfl (s_pI (pc := 2) rw_152_2 hG223 rfl (fun M226 W225 => ?_))))))
                have hG227 := g_wf hG223 W225 rfl rfl (by decide)
                have F228 := FR.w F224 W225 (show 77 = 77 ∧ (4 = 4 ∨ 4 = 5 ∨ 7 ≤ 4 ∧ 4 ≤ 10) ∨ 77 = 77 ∧ (4 = 59 ∨ 65 ≤ 4 ∧ 4 ≤ 69) ∨ 112 ≤ 77 ∧ 77 ≤ 114 ∧ 40 ≤ 4 ∨ 77 = 115 ∨ 77 = 116 by decide)
                refine to_an (pc := 5) rw_152_5 rfl (to_an (pc := 6) rw_152_6 rfl ?_)
                have c_229 : M226.2.1 77 10 = (M.2.1 77 10) := (W_n W225 (by decide) (W_e W221))
                refine tt_gI (pc := 7) rw_152_7 (g_o hG227 rfl) (v := (M.2.1 77 10)) c_229 (s_pI (pc := 10) rw_152_10 hG227 rfl (fun M231 W230 => ?_))
                have hG232 := g_wf hG227 W230 rfl rfl (by decide)
                have F233 := FR.w F228 W230 (show 77 = 77 ∧ (5 = 4 ∨ 5 = 5 ∨ 7 ≤ 5 ∧ 5 ≤ 10) ∨ 77 = 77 ∧ (5 = 59 ∨ 65 ≤ 5 ∧ 5 ≤ 69) ∨ 112 ≤ 77 ∧ 77 ≤ 114 ∧ 40 ≤ 5 ∨ 77 = 115 ∨ 77 = 116 by decide)
                refine to_c (pc := 13) rw_152_13 (x := (0 : Int32)) rfl rfl (s_r1 (pc := 14) rw_152_14 (A := 0) rfl (by decide) (s_r1 (pc := 193) rw_225_193 (A := 0) rfl (by decide) ?_))
                have k_234 : (0 : Int32).toInt = 0 := rfl
                have c_235 : M231.2.1 77 7 = (M34.2.1 77 7) := (W_n W230 (by decide) (W_n W225 (by decide) (W_n W221 (by decide) (F_n F213 (show ¬ (77 < 0) by decide) (F_n F202 (show ¬ (77 < 0) by decide) rfl)))))
                have t_236 : (M231.2.1 77 7).toInt = (M34.2.1 77 7).toInt := congrArg Int32.toInt c_235
                have c_237 : M231.2.1 77 6 = (M.2.1 77 6) := (W_n W230 (by decide) (W_n W225 (by decide) (W_n W221 (by decide) (F_n F213 (show ¬ (77 < 0) by decide) (F_n F202 (show ¬ (77 < 0) by decide) c_37)))))
                have t_238 : (M231.2.1 77 6).toInt = (M.2.1 77 6).toInt := congrArg Int32.toInt c_237
                have c_239 : M231.2.1 77 8 = (M34.2.1 77 8) := (W_n W230 (by decide) (W_n W225 (by decide) (W_n W221 (by decide) (F_n F213 (show ¬ (77 < 0) by decide) (F_n F202 (show ¬ (77 < 0) by decide) rfl)))))
                have t_240 : (M231.2.1 77 8).toInt = (M34.2.1 77 8).toInt := congrArg Int32.toInt c_239
                exact h (0 : Int32) M231 hG232 F233 (by decide) (by decide) (by omega) (by omega) (by omega) (by omega) (fun z => absurd z (by omega))
              · refine to_in (pc := 4) rw_178_4 rfl (to_an (pc := 5) rw_178_5 rfl ?_)
                have c_241 : M218.2.1 77 12 = (M.2.1 77 12) := (F_n F213 (show ¬ (77 < 0) by decide) (F_n F202 (show ¬ (77 < 0) by decide) c_198))
                refine tt_gI (pc := 6) rw_178_6 (g_o hG214 rfl) (v := (M.2.1 77 12)) c_241 (b_cge (pc := 9) rw_178_9 (A := r201.toInt) (B := (M.2.1 77 12).toInt) rfl rfl (fun h242 => ?_) (fun h242 => ?_))
                · refine to_c (pc := 16) rw_178_16 (x := (0 : Int32)) rfl rfl (s_r1 (pc := 17) rw_178_17 (A := 0) rfl (by decide) (b_ieq_t (pc := 5) rw_179_5 (A := 0) rfl (by decide) (to_c (pc := 22) rw_179_22 (x := (0 : Int32)) rfl rfl (s_r1 (pc := 23) rw_179_23 (A := 0) rfl (by decide) (b_ine_f (pc := 172) rw_225_172 (A := 0) rfl (by decide) (to_go (pc := 175) rw_225_175 (to_an (pc := 183) rw_225_183 rfl (to_in (pc := 184) rw_225_184 rfl (s_pI (pc := 185) rw_225_185 hG214 rfl (fun M244 W243 => ?_))))))))))
                  have hG245 := g_w hG214 W243 (A := (M.2.1 77 10).toInt) rfl (lo := 0) (hi := 500) rfl rfl (by omega) (by decide)
                  have F246 := FR.w F219 W243 (show 77 = 77 ∧ (10 = 4 ∨ 10 = 5 ∨ 7 ≤ 10 ∧ 10 ≤ 10) ∨ 77 = 77 ∧ (10 = 59 ∨ 65 ≤ 10 ∧ 10 ≤ 69) ∨ 112 ≤ 77 ∧ 77 ≤ 114 ∧ 40 ≤ 10 ∨ 77 = 115 ∨ 77 = 116 by decide)
                  refine to_an (pc := 188) rw_225_188 rfl (to_c (pc := 189) rw_225_189 (x := (4 : Int32)) rfl rfl (s_v (pc := 190) rw_225_190 (dp0 hd (by decide)) (ls0 := [.ref 77, .int (4 : Int32)]) rfl (Nat.le_of_ble_eq_true rfl) (Nat.le_of_ble_eq_true rfl) rfl (to_rc rfl rfl rfl (g_o hG245 rfl)) rfl (to_an (pc := 0) rw_152_0 rfl (to_in (pc := 1) rw_152_1 rfl (s_pI (pc := 2) rw_152_2 hG245 rfl (fun M248 W247 => ?_))))))
                  have hG249 := g_wf hG245 W247 rfl rfl (by decide)
                  have F250 := FR.w F246 W247 (show 77 = 77 ∧ (4 = 4 ∨ 4 = 5 ∨ 7 ≤ 4 ∧ 4 ≤ 10) ∨ 77 = 77 ∧ (4 = 59 ∨ 65 ≤ 4 ∧ 4 ≤ 69) ∨ 112 ≤ 77 ∧ 77 ≤ 114 ∧ 40 ≤ 4 ∨ 77 = 115 ∨ 77 = 116 by decide)
                  refine to_an (pc := 5) rw_152_5 rfl (to_an (pc := 6) rw_152_6 rfl ?_)
                  have c_251 : M248.2.1 77 10 = (M.2.1 77 10) := (W_n W247 (by decide) (W_e W243))
                  refine tt_gI (pc := 7) rw_152_7 (g_o hG249 rfl) (v := (M.2.1 77 10)) c_251 (s_pI (pc := 10) rw_152_10 hG249 rfl (fun M253 W252 => ?_))
                  have hG254 := g_wf hG249 W252 rfl rfl (by decide)
                  have F255 := FR.w F250 W252 (show 77 = 77 ∧ (5 = 4 ∨ 5 = 5 ∨ 7 ≤ 5 ∧ 5 ≤ 10) ∨ 77 = 77 ∧ (5 = 59 ∨ 65 ≤ 5 ∧ 5 ≤ 69) ∨ 112 ≤ 77 ∧ 77 ≤ 114 ∧ 40 ≤ 5 ∨ 77 = 115 ∨ 77 = 116 by decide)
                  refine to_c (pc := 13) rw_152_13 (x := (0 : Int32)) rfl rfl (s_r1 (pc := 14) rw_152_14 (A := 0) rfl (by decide) (s_r1 (pc := 193) rw_225_193 (A := 0) rfl (by decide) ?_))
                  have k_256 : (0 : Int32).toInt = 0 := rfl
                  have c_257 : M253.2.1 77 7 = (M34.2.1 77 7) := (W_n W252 (by decide) (W_n W247 (by decide) (W_n W243 (by decide) (F_n F213 (show ¬ (77 < 0) by decide) (F_n F202 (show ¬ (77 < 0) by decide) rfl)))))
                  have t_258 : (M253.2.1 77 7).toInt = (M34.2.1 77 7).toInt := congrArg Int32.toInt c_257
                  have c_259 : M253.2.1 77 6 = (M.2.1 77 6) := (W_n W252 (by decide) (W_n W247 (by decide) (W_n W243 (by decide) (F_n F213 (show ¬ (77 < 0) by decide) (F_n F202 (show ¬ (77 < 0) by decide) c_37)))))
                  have t_260 : (M253.2.1 77 6).toInt = (M.2.1 77 6).toInt := congrArg Int32.toInt c_259
                  have c_261 : M253.2.1 77 8 = (M34.2.1 77 8) := (W_n W252 (by decide) (W_n W247 (by decide) (W_n W243 (by decide) (F_n F213 (show ¬ (77 < 0) by decide) (F_n F202 (show ¬ (77 < 0) by decide) rfl)))))
                  have t_262 : (M253.2.1 77 8).toInt = (M34.2.1 77 8).toInt := congrArg Int32.toInt c_261
                  exact h (0 : Int32) M253 hG254 F255 (by decide) (by decide) (by omega) (by omega) (by omega) (by omega) (fun z => absurd z (by omega))
                · refine to_c (pc := 12) rw_178_12 (x := (1 : Int32)) rfl rfl (to_go (pc := 13) rw_178_13 (s_r1 (pc := 17) rw_178_17 (A := 1) rfl (by decide) (b_ieq_f (pc := 5) rw_179_5 (A := 1) rfl (by decide) (to_an (pc := 8) rw_179_8 rfl (s_gR (pc := 9) rw_179_9 hG214 rfl (v := 81) rfl (to_in (pc := 12) rw_179_12 rfl (s_ial (pc := 13) rw_179_13 hG214 rfl (n := 16) rfl rfl (A := r201.toInt) rfl (by omega) (by omega) (lo := 0) (hi := 3) rfl rfl (fun v263 w_264 _ _ => ?_))))))))
                  have t_265 := congrArg Int32.toInt w_264
                  have j_267 := (FA_f (tg_218 F213) (FA_f (tg_218 F202) (FA_f (tg_220 F29) (FA_f (fun a i z => W_n W18 (tg_311 a i z) rfl) q3))))
                  have j_266 := FA_u j_267 (r201.toInt).toNat
                  have t_268 : (M218.2.1 81 (r201.toInt).toNat).toInt = (M.2.1 81 (r201.toInt).toNat).toInt := congrArg Int32.toInt (F_n F213 (show ¬ (81 < 0) by decide) (F_n F202 (show ¬ (81 < 0) by decide) (F_n F29 (show ¬ (81 = 77 ∧ 7 ≤ ((r201.toInt).toNat) ∧ ((r201.toInt).toNat) ≤ 10) by omega) (W_n W18 (by omega) rfl))))
                  have t_269 : (M218.2.1 84 (r201.toInt).toNat).toInt = (M.2.1 84 (r201.toInt).toNat).toInt := congrArg Int32.toInt (F_n F213 (show ¬ (84 < 0) by decide) (F_n F202 (show ¬ (84 < 0) by decide) (F_n F29 (show ¬ (84 = 77 ∧ 7 ≤ ((r201.toInt).toNat) ∧ ((r201.toInt).toNat) ≤ 10) by omega) (W_n W18 (by omega) rfl))))
                  have j_270 := FA_u q3 (r201.toInt).toNat
                  refine to_c (pc := 14) rw_179_14 (x := (3 : Int32)) rfl rfl (b_ceq (pc := 15) rw_179_15 (A := v263.toInt) (B := 3) rfl rfl (fun h271 => ?_) (fun h271 => ?_))
                  · refine to_c (pc := 22) rw_179_22 (x := (0 : Int32)) rfl rfl (s_r1 (pc := 23) rw_179_23 (A := 0) rfl (by decide) (b_ine_f (pc := 172) rw_225_172 (A := 0) rfl (by decide) (to_go (pc := 175) rw_225_175 (to_an (pc := 183) rw_225_183 rfl (to_in (pc := 184) rw_225_184 rfl (s_pI (pc := 185) rw_225_185 hG214 rfl (fun M273 W272 => ?_)))))))
                    have hG274 := g_w hG214 W272 (A := (M.2.1 77 10).toInt) rfl (lo := 0) (hi := 500) rfl rfl (by omega) (by decide)
                    have F275 := FR.w F219 W272 (show 77 = 77 ∧ (10 = 4 ∨ 10 = 5 ∨ 7 ≤ 10 ∧ 10 ≤ 10) ∨ 77 = 77 ∧ (10 = 59 ∨ 65 ≤ 10 ∧ 10 ≤ 69) ∨ 112 ≤ 77 ∧ 77 ≤ 114 ∧ 40 ≤ 10 ∨ 77 = 115 ∨ 77 = 116 by decide)
                    refine to_an (pc := 188) rw_225_188 rfl (to_c (pc := 189) rw_225_189 (x := (4 : Int32)) rfl rfl (s_v (pc := 190) rw_225_190 (dp0 hd (by decide)) (ls0 := [.ref 77, .int (4 : Int32)]) rfl (Nat.le_of_ble_eq_true rfl) (Nat.le_of_ble_eq_true rfl) rfl (to_rc rfl rfl rfl (g_o hG274 rfl)) rfl (to_an (pc := 0) rw_152_0 rfl (to_in (pc := 1) rw_152_1 rfl (s_pI (pc := 2) rw_152_2 hG274 rfl (fun M277 W276 => ?_))))))
                    have hG278 := g_wf hG274 W276 rfl rfl (by decide)
                    have F279 := FR.w F275 W276 (show 77 = 77 ∧ (4 = 4 ∨ 4 = 5 ∨ 7 ≤ 4 ∧ 4 ≤ 10) ∨ 77 = 77 ∧ (4 = 59 ∨ 65 ≤ 4 ∧ 4 ≤ 69) ∨ 112 ≤ 77 ∧ 77 ≤ 114 ∧ 40 ≤ 4 ∨ 77 = 115 ∨ 77 = 116 by decide)
                    refine to_an (pc := 5) rw_152_5 rfl (to_an (pc := 6) rw_152_6 rfl ?_)
                    have c_280 : M277.2.1 77 10 = (M.2.1 77 10) := (W_n W276 (by decide) (W_e W272))
                    refine tt_gI (pc := 7) rw_152_7 (g_o hG278 rfl) (v := (M.2.1 77 10)) c_280 (s_pI (pc := 10) rw_152_10 hG278 rfl (fun M282 W281 => ?_))
                    have hG283 := g_wf hG278 W281 rfl rfl (by decide)
                    have F284 := FR.w F279 W281 (show 77 = 77 ∧ (5 = 4 ∨ 5 = 5 ∨ 7 ≤ 5 ∧ 5 ≤ 10) ∨ 77 = 77 ∧ (5 = 59 ∨ 65 ≤ 5 ∧ 5 ≤ 69) ∨ 112 ≤ 77 ∧ 77 ≤ 114 ∧ 40 ≤ 5 ∨ 77 = 115 ∨ 77 = 116 by decide)
                    refine to_c (pc := 13) rw_152_13 (x := (0 : Int32)) rfl rfl (s_r1 (pc := 14) rw_152_14 (A := 0) rfl (by decide) (s_r1 (pc := 193) rw_225_193 (A := 0) rfl (by decide) ?_))
                    have k_285 : (0 : Int32).toInt = 0 := rfl
                    have c_286 : M282.2.1 77 7 = (M34.2.1 77 7) := (W_n W281 (by decide) (W_n W276 (by decide) (W_n W272 (by decide) (F_n F213 (show ¬ (77 < 0) by decide) (F_n F202 (show ¬ (77 < 0) by decide) rfl)))))
                    have t_287 : (M282.2.1 77 7).toInt = (M34.2.1 77 7).toInt := congrArg Int32.toInt c_286
                    have c_288 : M282.2.1 77 6 = (M.2.1 77 6) := (W_n W281 (by decide) (W_n W276 (by decide) (W_n W272 (by decide) (F_n F213 (show ¬ (77 < 0) by decide) (F_n F202 (show ¬ (77 < 0) by decide) c_37)))))
                    have t_289 : (M282.2.1 77 6).toInt = (M.2.1 77 6).toInt := congrArg Int32.toInt c_288
                    have c_290 : M282.2.1 77 8 = (M34.2.1 77 8) := (W_n W281 (by decide) (W_n W276 (by decide) (W_n W272 (by decide) (F_n F213 (show ¬ (77 < 0) by decide) (F_n F202 (show ¬ (77 < 0) by decide) rfl)))))
                    have t_291 : (M282.2.1 77 8).toInt = (M34.2.1 77 8).toInt := congrArg Int32.toInt c_290
                    exact h (0 : Int32) M282 hG283 F284 (by decide) (by decide) (by omega) (by omega) (by omega) (by omega) (fun z => absurd z (by omega))
                  · refine to_c (pc := 18) rw_179_18 (x := (1 : Int32)) rfl rfl (to_go (pc := 19) rw_179_19 (s_r1 (pc := 23) rw_179_23 (A := 1) rfl (by decide) (b_ine_t (pc := 172) rw_225_172 (A := 1) rfl (by decide) (to_an (pc := 194) rw_225_194 rfl (to_c (pc := 195) rw_225_195 (x := (1 : Int32)) rfl rfl (s_pI (pc := 196) rw_225_196 hG214 rfl (fun M293 W292 => ?_)))))))
                    have hG294 := g_w hG214 W292 (A := 1) rfl (lo := 0) (hi := 1) rfl rfl (by omega) (by decide)
                    have F295 := FR.w F219 W292 (show 77 = 77 ∧ (68 = 4 ∨ 68 = 5 ∨ 7 ≤ 68 ∧ 68 ≤ 10) ∨ 77 = 77 ∧ (68 = 59 ∨ 65 ≤ 68 ∧ 68 ≤ 69) ∨ 112 ≤ 77 ∧ 77 ≤ 114 ∧ 40 ≤ 68 ∨ 77 = 115 ∨ 77 = 116 by decide)
                    refine to_in (pc := 199) rw_225_199 rfl (b_ine_t (pc := 200) rw_225_200 (A := 1) rfl (by decide) (to_an (pc := 213) rw_225_213 rfl (s_v (pc := 214) rw_225_214 (dp0 hd (by decide)) (ls0 := [.ref 77]) rfl (Nat.le_of_ble_eq_true rfl) (Nat.le_of_ble_eq_true rfl) rfl (to_rc rfl rfl rfl (g_o hG294 rfl)) rfl ?_)))
                    have c_296 : M293.2.1 77 7 = (M34.2.1 77 7) := (W_n W292 (by decide) (F_n F213 (show ¬ (77 < 0) by decide) (F_n F202 (show ¬ (77 < 0) by decide) rfl)))
                    have t_297 : (M293.2.1 77 7).toInt = (M34.2.1 77 7).toInt := congrArg Int32.toInt c_296
                    have c_298 : M293.2.1 77 6 = (M.2.1 77 6) := (W_n W292 (by decide) (F_n F213 (show ¬ (77 < 0) by decide) (F_n F202 (show ¬ (77 < 0) by decide) c_37)))
                    have t_299 : (M293.2.1 77 6).toInt = (M.2.1 77 6).toInt := congrArg Int32.toInt c_298
                    refine C_156 hX (dp1 hd (by decide)) hG294 (by omega)  (fun M305 hG301 F300 p_302 p_303 p_304 => ?_)
                    have F306 := FR.c F295 F300 tg_308
                    have b_307 := g_b hG301 (a := 77) (i := 7) (lo := 0) (hi := 500) rfl rfl
                    have c_308 : M305.2.1 77 6 = (M.2.1 77 6) := (F_n F300 (show ¬ (77 = 77 ∧ 7 ≤ 6 ∧ 6 ≤ 10) by decide) c_298)
                    have t_309 : (M305.2.1 77 6).toInt = (M.2.1 77 6).toInt := congrArg Int32.toInt c_308
                    have b_310 := g_b hG301 (a := 77) (i := 8) (lo := 0) (hi := 5) rfl rfl
                    refine to_an (pc := 217) rw_225_217 rfl (to_c (pc := 218) rw_225_218 (x := (0 : Int32)) rfl rfl (to_an (pc := 219) rw_225_219 rfl (s_gR (pc := 220) rw_225_220 hG301 rfl (v := 84) rfl (to_i (pc := 223) rw_225_223 rfl (s_ial (pc := 225) rw_225_225 hG301 rfl (n := 16) rfl rfl (A := r201.toInt) rfl (by omega) (by omega) (lo := 0) (hi := 24) rfl rfl (fun v311 w_312 _ _ => ?_))))))
                    have t_313 := congrArg Int32.toInt w_312
                    have j_315 := (FA_f (tg_220 F300) (FA_f (fun a i z => W_n W292 (tg_312 a i z) rfl) j_267))
                    have j_314 := FA_u j_315 (r201.toInt).toNat
                    have t_316 : (M305.2.1 81 (r201.toInt).toNat).toInt = (M.2.1 81 (r201.toInt).toNat).toInt := congrArg Int32.toInt (F_n F300 (show ¬ (81 = 77 ∧ 7 ≤ ((r201.toInt).toNat) ∧ ((r201.toInt).toNat) ≤ 10) by omega) (W_n W292 (by omega) (F_n F213 (show ¬ (81 < 0) by decide) (F_n F202 (show ¬ (81 < 0) by decide) (F_n F29 (show ¬ (81 = 77 ∧ 7 ≤ ((r201.toInt).toNat) ∧ ((r201.toInt).toNat) ≤ 10) by omega) (W_n W18 (by omega) rfl))))))
                    have t_317 : (M305.2.1 84 (r201.toInt).toNat).toInt = (M.2.1 84 (r201.toInt).toNat).toInt := congrArg Int32.toInt (F_n F300 (show ¬ (84 = 77 ∧ 7 ≤ ((r201.toInt).toNat) ∧ ((r201.toInt).toNat) ≤ 10) by omega) (W_n W292 (by omega) (F_n F213 (show ¬ (84 < 0) by decide) (F_n F202 (show ¬ (84 < 0) by decide) (F_n F29 (show ¬ (84 = 77 ∧ 7 ≤ ((r201.toInt).toNat) ∧ ((r201.toInt).toNat) ≤ 10) by omega) (W_n W18 (by omega) rfl))))))
                    refine to_c (pc := 226) rw_225_226 (x := (1 : Int32)) rfl rfl (s_sub (pc := 227) rw_225_227 (A := v311.toInt) (B := 1) rfl rfl (by omega) (fun v318 e319 => s_v (pc := 228) rw_225_228 (dp0 hd (by decide)) (ls0 := [.ref 77, .int (0 : Int32), .int v318]) rfl (Nat.le_of_ble_eq_true rfl) (Nat.le_of_ble_eq_true rfl) rfl (to_rc rfl rfl rfl (g_o hG301 rfl)) rfl (to_an (pc := 0) rw_162_0 rfl (tt_gI (pc := 1) rw_162_1 (g_o hG301 rfl) (v := (M305.2.1 77 8)) rfl (to_c (pc := 4) rw_162_4 (x := (3 : Int32)) rfl rfl (b_ceq (pc := 5) rw_162_5 (A := (M305.2.1 77 8).toInt) (B := 3) rfl rfl (fun h320 => ?_) (fun h320 => ?_)))))))
                    · refine to_an (pc := 14) rw_162_14 rfl (tt_gI (pc := 15) rw_162_15 (g_o hG301 rfl) (v := (M305.2.1 77 9)) rfl (to_in (pc := 18) rw_162_18 rfl (b_clt (pc := 19) rw_162_19 (A := (M305.2.1 77 9).toInt) (B := 0) rfl rfl (fun h321 => ?_) (fun h321 => ?_))))
                      · refine to_an (pc := 30) rw_162_30 rfl (to_c (pc := 31) rw_162_31 (x := (2 : Int32)) rfl rfl (s_v (pc := 32) rw_162_32 (dp1 hd (by decide)) (ls0 := [.ref 77, .int (2 : Int32)]) rfl (Nat.le_of_ble_eq_true rfl) (Nat.le_of_ble_eq_true rfl) rfl (to_rc rfl rfl rfl (g_o hG301 rfl)) rfl (to_an (pc := 0) rw_152_0 rfl (to_in (pc := 1) rw_152_1 rfl (s_pI (pc := 2) rw_152_2 hG301 rfl (fun M323 W322 => ?_))))))
                        have hG324 := g_wf hG301 W322 rfl rfl (by decide)
                        have F325 := FR.w F306 W322 (show 77 = 77 ∧ (4 = 4 ∨ 4 = 5 ∨ 7 ≤ 4 ∧ 4 ≤ 10) ∨ 77 = 77 ∧ (4 = 59 ∨ 65 ≤ 4 ∧ 4 ≤ 69) ∨ 112 ≤ 77 ∧ 77 ≤ 114 ∧ 40 ≤ 4 ∨ 77 = 115 ∨ 77 = 116 by decide)
                        refine to_an (pc := 5) rw_152_5 rfl (to_an (pc := 6) rw_152_6 rfl ?_)
                        have c_326 : M323.2.1 77 10 = (M305.2.1 77 10) := (W_n W322 (by decide) rfl)
                        have b_327 := g_b hG301 (a := 77) (i := 10) (lo := 0) (hi := 500) rfl rfl
                        refine tt_gI (pc := 7) rw_152_7 (g_o hG324 rfl) (v := (M305.2.1 77 10)) c_326 (s_pI (pc := 10) rw_152_10 hG324 rfl (fun M329 W328 => ?_))
                        have hG330 := g_wf hG324 W328 rfl rfl (by decide)
                        have F331 := FR.w F325 W328 (show 77 = 77 ∧ (5 = 4 ∨ 5 = 5 ∨ 7 ≤ 5 ∧ 5 ≤ 10) ∨ 77 = 77 ∧ (5 = 59 ∨ 65 ≤ 5 ∧ 5 ≤ 69) ∨ 112 ≤ 77 ∧ 77 ≤ 114 ∧ 40 ≤ 5 ∨ 77 = 115 ∨ 77 = 116 by decide)
                        refine to_c (pc := 13) rw_152_13 (x := (0 : Int32)) rfl rfl (s_r1 (pc := 14) rw_152_14 (A := 0) rfl (by decide) (b_ieq_t (pc := 35) rw_162_35 (A := 0) rfl (by decide) (to_c (pc := 42) rw_162_42 (x := (0 : Int32)) rfl rfl (s_r1 (pc := 43) rw_162_43 (A := 0) rfl (by decide) (b_ine_f (pc := 231) rw_225_231 (A := 0) rfl (by decide) (to_c (pc := 234) rw_225_234 (x := (0 : Int32)) rfl rfl (s_r1 (pc := 235) rw_225_235 (A := 0) rfl (by decide) ?_)))))))
                        have k_332 : (0 : Int32).toInt = 0 := rfl
                        have c_333 : M329.2.1 77 7 = (M305.2.1 77 7) := (W_n W328 (by decide) (W_n W322 (by decide) rfl))
                        have t_334 : (M329.2.1 77 7).toInt = (M305.2.1 77 7).toInt := congrArg Int32.toInt c_333
                        have c_335 : M329.2.1 77 6 = (M.2.1 77 6) := (W_n W328 (by decide) (W_n W322 (by decide) c_308))
                        have t_336 : (M329.2.1 77 6).toInt = (M.2.1 77 6).toInt := congrArg Int32.toInt c_335
                        have c_337 : M329.2.1 77 8 = (M305.2.1 77 8) := (W_n W328 (by decide) (W_n W322 (by decide) rfl))
                        have t_338 : (M329.2.1 77 8).toInt = (M305.2.1 77 8).toInt := congrArg Int32.toInt c_337
                        exact h (0 : Int32) M329 hG330 F331 (by decide) (by decide) (by omega) (by omega) (by omega) (by omega) (fun z => absurd z (by omega))
                      · refine to_an (pc := 22) rw_162_22 rfl (tt_gI (pc := 23) rw_162_23 (g_o hG301 rfl) (v := (M305.2.1 77 9)) rfl (to_in (pc := 26) rw_162_26 rfl (b_cle (pc := 27) rw_162_27 (A := (M305.2.1 77 9).toInt) (B := v318.toInt) rfl rfl (fun h339 => ?_) (fun h339 => ?_))))
                        · refine to_c (pc := 38) rw_162_38 (x := (1 : Int32)) rfl rfl (to_go (pc := 39) rw_162_39 (s_r1 (pc := 43) rw_162_43 (A := 1) rfl (by decide) (b_ine_t (pc := 231) rw_225_231 (A := 1) rfl (by decide) (to_an (pc := 236) rw_225_236 rfl (to_c (pc := 237) rw_225_237 (x := (0 : Int32)) rfl rfl (to_i (pc := 238) rw_225_238 rfl (to_an (pc := 240) rw_225_240 rfl (tt_gI (pc := 241) rw_225_241 (g_o hG301 rfl) (v := (M305.2.1 77 9)) rfl (s_v (pc := 244) rw_225_244 (dp0 hd (by decide)) (ls0 := [.ref 77, .int (0 : Int32), .int r201, .int (M305.2.1 77 9)]) rfl (Nat.le_of_ble_eq_true rfl) (Nat.le_of_ble_eq_true rfl) rfl (to_rc rfl rfl rfl (g_o hG301 rfl)) rfl ?_)))))))))
                          have k_340 : (0 : Int32).toInt = 0 := rfl
                          have c_341 : M305.2.1 77 59 = (M.2.1 77 59) := (F_n F300 (show ¬ (77 = 77 ∧ 7 ≤ 59 ∧ 59 ≤ 10) by decide) (W_n W292 (by decide) (F_n F213 (show ¬ (77 < 0) by decide) (F_n F202 (show ¬ (77 < 0) by decide) (F_n F29 (show ¬ (77 = 77 ∧ 7 ≤ 59 ∧ 59 ≤ 10) by decide) (W_n W18 (by decide) rfl))))))
                          have t_342 : (M305.2.1 77 59).toInt = (M.2.1 77 59).toInt := congrArg Int32.toInt c_341
                          have c_343 : M305.2.1 77 66 = (M.2.1 77 66) := (F_n F300 (show ¬ (77 = 77 ∧ 7 ≤ 66 ∧ 66 ≤ 10) by decide) (W_n W292 (by decide) (F_n F213 (show ¬ (77 < 0) by decide) (F_n F202 (show ¬ (77 < 0) by decide) (F_n F29 (show ¬ (77 = 77 ∧ 7 ≤ 66 ∧ 66 ≤ 10) by decide) (W_n W18 (by decide) rfl))))))
                          have t_344 : (M305.2.1 77 66).toInt = (M.2.1 77 66).toInt := congrArg Int32.toInt c_343
                          have t_345 : (M305.2.1 81 (r201.toInt).toNat).toInt = (M.2.1 81 (r201.toInt).toNat).toInt := congrArg Int32.toInt (F_n F300 (show ¬ (81 = 77 ∧ 7 ≤ ((r201.toInt).toNat) ∧ ((r201.toInt).toNat) ≤ 10) by omega) (W_n W292 (by omega) (F_n F213 (show ¬ (81 < 0) by decide) (F_n F202 (show ¬ (81 < 0) by decide) (F_n F29 (show ¬ (81 = 77 ∧ 7 ≤ ((r201.toInt).toNat) ∧ ((r201.toInt).toNat) ≤ 10) by omega) (W_n W18 (by omega) rfl))))))
                          refine C_221 hX (dp1 hd (by decide)) hG301 (by omega) (by omega) (by omega) (by omega) (by omega) (by omega) (by rw [(F_n F300 (show ¬ (77 = 77 ∧ 7 ≤ 59 ∧ 59 ≤ 10) by decide) (W_n W292 (by omega) (F_n F213 (show ¬ (77 < 0) by decide) (F_n F202 (show ¬ (77 < 0) by decide) (F_n F29 (show ¬ (77 = 77 ∧ 7 ≤ 59 ∧ 59 ≤ 10) by decide) (W_n W18 (by omega) rfl))))))]; exact KN_f (fun a i z => (F_n F300 (show ¬ (a = 77 ∧ 7 ≤ i ∧ i ≤ 10) by omega) (W_n W292 (by /-r77,68-/ omega) (F_n F213 (show ¬ (a < 0) by omega) (F_n F202 (show ¬ (a < 0) by omega) (F_n F29 (show ¬ (a = 77 ∧ 7 ≤ i ∧ i ≤ 10) by omega) (W_n W18 (by /-r77,69-/ omega) rfl))))))) q2.2.2) (by omega) (by omega) (by omega) (by omega) (k := (0 : Int32)) (p := r201) (o := (M305.2.1 77 9)) (fun M351 hG347 F346 p_348 p_349 p_350 => ?_)
                          have F352 := FR.c F306 F346 tg_310
                          have b_353 := g_b hG347 (a := 77) (i := 59) (lo := 0) (hi := 40) rfl rfl
                          have b_354 := g_b hG347 (a := 77) (i := 66) (lo := 0) (hi := 40) rfl rfl
                          refine to_an (pc := 247) rw_225_247 rfl (s_v (pc := 248) rw_225_248 (dp0 hd (by decide)) (ls0 := [.ref 77]) rfl (Nat.le_of_ble_eq_true rfl) (Nat.le_of_ble_eq_true rfl) rfl (to_rc rfl rfl rfl (g_o hG347 rfl)) rfl ?_)
                          have c_355 : M351.2.1 77 7 = (M305.2.1 77 7) := (F_n F346 (show ¬ (77 = 77 ∧ (7 = 59 ∨ 7 = 66) ∨ 112 ≤ 77 ∧ 77 ≤ 114 ∧ 40 ≤ 7 ∨ 77 = 116) by decide) rfl)
                          have t_356 : (M351.2.1 77 7).toInt = (M305.2.1 77 7).toInt := congrArg Int32.toInt c_355
                          have c_357 : M351.2.1 77 6 = (M.2.1 77 6) := (F_n F346 (show ¬ (77 = 77 ∧ (6 = 59 ∨ 6 = 66) ∨ 112 ≤ 77 ∧ 77 ≤ 114 ∧ 40 ≤ 6 ∨ 77 = 116) by decide) c_308)
                          have t_358 : (M351.2.1 77 6).toInt = (M.2.1 77 6).toInt := congrArg Int32.toInt c_357
                          refine C_156 hX (dp1 hd (by decide)) hG347 (by omega)  (fun M364 hG360 F359 p_361 p_362 p_363 => ?_)
                          have F365 := FR.c F352 F359 tg_308
                          have b_366 := g_b hG360 (a := 77) (i := 7) (lo := 0) (hi := 500) rfl rfl
                          have c_367 : M364.2.1 77 6 = (M.2.1 77 6) := (F_n F359 (show ¬ (77 = 77 ∧ 7 ≤ 6 ∧ 6 ≤ 10) by decide) c_357)
                          have t_368 : (M364.2.1 77 6).toInt = (M.2.1 77 6).toInt := congrArg Int32.toInt c_367
                          have b_369 := g_b hG360 (a := 77) (i := 8) (lo := 0) (hi := 5) rfl rfl
                          refine to_c (pc := 251) rw_225_251 (x := (1 : Int32)) rfl rfl (s_r1 (pc := 252) rw_225_252 (A := 1) rfl (by decide) ?_)
                          have k_370 : (1 : Int32).toInt = 1 := rfl
                          have c_371 : M364.2.1 77 59 = (M351.2.1 77 59) := (F_n F359 (show ¬ (77 = 77 ∧ 7 ≤ 59 ∧ 59 ≤ 10) by decide) rfl)
                          have t_372 : (M364.2.1 77 59).toInt = (M351.2.1 77 59).toInt := congrArg Int32.toInt c_371
                          have c_373 : M364.2.1 77 65 = (M.2.1 77 65) := (F_n F359 (show ¬ (77 = 77 ∧ 7 ≤ 65 ∧ 65 ≤ 10) by decide) (F_n F346 (show ¬ (77 = 77 ∧ (65 = 59 ∨ 65 = 66) ∨ 112 ≤ 77 ∧ 77 ≤ 114 ∧ 40 ≤ 65 ∨ 77 = 116) by decide) (F_n F300 (show ¬ (77 = 77 ∧ 7 ≤ 65 ∧ 65 ≤ 10) by decide) (W_n W292 (by decide) (F_n F213 (show ¬ (77 < 0) by decide) (F_n F202 (show ¬ (77 < 0) by decide) (F_n F29 (show ¬ (77 = 77 ∧ 7 ≤ 65 ∧ 65 ≤ 10) by decide) (W_n W18 (by decide) rfl))))))))
                          have t_374 : (M364.2.1 77 65).toInt = (M.2.1 77 65).toInt := congrArg Int32.toInt c_373
                          have c_375 : M364.2.1 77 66 = (M351.2.1 77 66) := (F_n F359 (show ¬ (77 = 77 ∧ 7 ≤ 66 ∧ 66 ≤ 10) by decide) rfl)
                          have t_376 : (M364.2.1 77 66).toInt = (M351.2.1 77 66).toInt := congrArg Int32.toInt c_375
                          have c_377 : M364.2.1 77 67 = (M.2.1 77 67) := (F_n F359 (show ¬ (77 = 77 ∧ 7 ≤ 67 ∧ 67 ≤ 10) by decide) (F_n F346 (show ¬ (77 = 77 ∧ (67 = 59 ∨ 67 = 66) ∨ 112 ≤ 77 ∧ 77 ≤ 114 ∧ 40 ≤ 67 ∨ 77 = 116) by decide) (F_n F300 (show ¬ (77 = 77 ∧ 7 ≤ 67 ∧ 67 ≤ 10) by decide) (W_n W292 (by decide) (F_n F213 (show ¬ (77 < 0) by decide) (F_n F202 (show ¬ (77 < 0) by decide) (F_n F29 (show ¬ (77 = 77 ∧ 7 ≤ 67 ∧ 67 ≤ 10) by decide) (W_n W18 (by decide) rfl))))))))
                          have t_378 : (M364.2.1 77 67).toInt = (M.2.1 77 67).toInt := congrArg Int32.toInt c_377
                          have c_379 : M364.2.1 77 68 = (1 : Int32) := (F_n F359 (show ¬ (77 = 77 ∧ 7 ≤ 68 ∧ 68 ≤ 10) by decide) (F_n F346 (show ¬ (77 = 77 ∧ (68 = 59 ∨ 68 = 66) ∨ 112 ≤ 77 ∧ 77 ≤ 114 ∧ 40 ≤ 68 ∨ 77 = 116) by decide) (F_n F300 (show ¬ (77 = 77 ∧ 7 ≤ 68 ∧ 68 ≤ 10) by decide) (W_e W292))))
                          have t_380 : (M364.2.1 77 68).toInt = (1 : Int32).toInt := congrArg Int32.toInt c_379
                          have c_381 : M364.2.1 77 69 = v16 := (F_n F359 (show ¬ (77 = 77 ∧ 7 ≤ 69 ∧ 69 ≤ 10) by decide) (F_n F346 (show ¬ (77 = 77 ∧ (69 = 59 ∨ 69 = 66) ∨ 112 ≤ 77 ∧ 77 ≤ 114 ∧ 40 ≤ 69 ∨ 77 = 116) by decide) (F_n F300 (show ¬ (77 = 77 ∧ 7 ≤ 69 ∧ 69 ≤ 10) by decide) (W_n W292 (by decide) (F_n F213 (show ¬ (77 < 0) by decide) (F_n F202 (show ¬ (77 < 0) by decide) (F_n F29 (show ¬ (77 = 77 ∧ 7 ≤ 69 ∧ 69 ≤ 10) by decide) (W_e W18))))))))
                          have t_382 : (M364.2.1 77 69).toInt = v16.toInt := congrArg Int32.toInt c_381
                          have s_384 := Wx_f (M := M) (M1 := M364) ((M.2.1 77 65).toInt).toNat (fun i z => (F_n F359 (show ¬ (115 = 77 ∧ 7 ≤ i ∧ i ≤ 10) by omega) (F_n F346 (show ¬ (115 = 77 ∧ (i = 59 ∨ i = 66) ∨ 112 ≤ 115 ∧ 115 ≤ 114 ∧ 40 ≤ i ∨ 115 = 116) by omega) (F_n F300 (show ¬ (115 = 77 ∧ 7 ≤ i ∧ i ≤ 10) by omega) (W_n W292 (by omega) (F_n F213 (show ¬ (115 < 0) by decide) (F_n F202 (show ¬ (115 < 0) by decide) (F_n F29 (show ¬ (115 = 77 ∧ 7 ≤ i ∧ i ≤ 10) by omega) (W_n W18 (by omega) rfl)))))))))
                          have j_383 : QK M364 := QK_i (by unfold QK_c; rw [show ((M364.2.1 77 65).toInt).toNat = ((M.2.1 77 65).toInt).toNat by omega]; refine ⟨by omega, by omega, by omega, by omega⟩) (fun i z => by rw [(F_n F359 (show ¬ (115 = 77 ∧ 7 ≤ i ∧ i ≤ 10) by omega) (F_n F346 (show ¬ (115 = 77 ∧ (i = 59 ∨ i = 66) ∨ 112 ≤ 115 ∧ 115 ≤ 114 ∧ 40 ≤ i ∨ 115 = 116) by omega) (F_n F300 (show ¬ (115 = 77 ∧ 7 ≤ i ∧ i ≤ 10) by omega) (W_n W292 (by omega) (F_n F213 (show ¬ (115 < 0) by decide) (F_n F202 (show ¬ (115 < 0) by decide) (F_n F29 (show ¬ (115 = 77 ∧ 7 ≤ i ∧ i ≤ 10) by omega) (W_n W18 (by omega) rfl))))))))]; exact q2.2.1 i (by omega)) (by rw [(F_n F359 (show ¬ (77 = 77 ∧ 7 ≤ 59 ∧ 59 ≤ 10) by decide) rfl)]; exact KN_f (fun a i z => (F_n F359 (show ¬ (a = 77 ∧ 7 ≤ i ∧ i ≤ 10) by omega) rfl)) p_350)
                          exact h (1 : Int32) M364 hG360 F365 (by decide) (by decide) (by omega) (by omega) (by omega) (by omega) (fun _ => j_383)
                        · refine to_an (pc := 30) rw_162_30 rfl (to_c (pc := 31) rw_162_31 (x := (2 : Int32)) rfl rfl (s_v (pc := 32) rw_162_32 (dp1 hd (by decide)) (ls0 := [.ref 77, .int (2 : Int32)]) rfl (Nat.le_of_ble_eq_true rfl) (Nat.le_of_ble_eq_true rfl) rfl (to_rc rfl rfl rfl (g_o hG301 rfl)) rfl (to_an (pc := 0) rw_152_0 rfl (to_in (pc := 1) rw_152_1 rfl (s_pI (pc := 2) rw_152_2 hG301 rfl (fun M386 W385 => ?_))))))
                          have hG387 := g_wf hG301 W385 rfl rfl (by decide)
                          have F388 := FR.w F306 W385 (show 77 = 77 ∧ (4 = 4 ∨ 4 = 5 ∨ 7 ≤ 4 ∧ 4 ≤ 10) ∨ 77 = 77 ∧ (4 = 59 ∨ 65 ≤ 4 ∧ 4 ≤ 69) ∨ 112 ≤ 77 ∧ 77 ≤ 114 ∧ 40 ≤ 4 ∨ 77 = 115 ∨ 77 = 116 by decide)
                          refine to_an (pc := 5) rw_152_5 rfl (to_an (pc := 6) rw_152_6 rfl ?_)
                          have c_389 : M386.2.1 77 10 = (M305.2.1 77 10) := (W_n W385 (by decide) rfl)
                          have b_390 := g_b hG301 (a := 77) (i := 10) (lo := 0) (hi := 500) rfl rfl
                          refine tt_gI (pc := 7) rw_152_7 (g_o hG387 rfl) (v := (M305.2.1 77 10)) c_389 (s_pI (pc := 10) rw_152_10 hG387 rfl (fun M392 W391 => ?_))
                          have hG393 := g_wf hG387 W391 rfl rfl (by decide)
                          have F394 := FR.w F388 W391 (show 77 = 77 ∧ (5 = 4 ∨ 5 = 5 ∨ 7 ≤ 5 ∧ 5 ≤ 10) ∨ 77 = 77 ∧ (5 = 59 ∨ 65 ≤ 5 ∧ 5 ≤ 69) ∨ 112 ≤ 77 ∧ 77 ≤ 114 ∧ 40 ≤ 5 ∨ 77 = 115 ∨ 77 = 116 by decide)
                          refine to_c (pc := 13) rw_152_13 (x := (0 : Int32)) rfl rfl (s_r1 (pc := 14) rw_152_14 (A := 0) rfl (by decide) (b_ieq_t (pc := 35) rw_162_35 (A := 0) rfl (by decide) (to_c (pc := 42) rw_162_42 (x := (0 : Int32)) rfl rfl (s_r1 (pc := 43) rw_162_43 (A := 0) rfl (by decide) (b_ine_f (pc := 231) rw_225_231 (A := 0) rfl (by decide) (to_c (pc := 234) rw_225_234 (x := (0 : Int32)) rfl rfl (s_r1 (pc := 235) rw_225_235 (A := 0) rfl (by decide) ?_)))))))
                          have k_395 : (0 : Int32).toInt = 0 := rfl
                          have c_396 : M392.2.1 77 7 = (M305.2.1 77 7) := (W_n W391 (by decide) (W_n W385 (by decide) rfl))
                          have t_397 : (M392.2.1 77 7).toInt = (M305.2.1 77 7).toInt := congrArg Int32.toInt c_396
                          have c_398 : M392.2.1 77 6 = (M.2.1 77 6) := (W_n W391 (by decide) (W_n W385 (by decide) c_308))
                          have t_399 : (M392.2.1 77 6).toInt = (M.2.1 77 6).toInt := congrArg Int32.toInt c_398
                          have c_400 : M392.2.1 77 8 = (M305.2.1 77 8) := (W_n W391 (by decide) (W_n W385 (by decide) rfl))
                          have t_401 : (M392.2.1 77 8).toInt = (M305.2.1 77 8).toInt := congrArg Int32.toInt c_400
                          exact h (0 : Int32) M392 hG393 F394 (by decide) (by decide) (by omega) (by omega) (by omega) (by omega) (fun z => absurd z (by omega))
                    · refine to_an (pc := 8) rw_162_8 rfl (to_c (pc := 9) rw_162_9 (x := (1 : Int32)) rfl rfl (s_v (pc := 10) rw_162_10 (dp1 hd (by decide)) (ls0 := [.ref 77, .int (1 : Int32)]) rfl (Nat.le_of_ble_eq_true rfl) (Nat.le_of_ble_eq_true rfl) rfl (to_rc rfl rfl rfl (g_o hG301 rfl)) rfl (to_an (pc := 0) rw_152_0 rfl (to_in (pc := 1) rw_152_1 rfl (s_pI (pc := 2) rw_152_2 hG301 rfl (fun M403 W402 => ?_))))))
                      have hG404 := g_wf hG301 W402 rfl rfl (by decide)
                      have F405 := FR.w F306 W402 (show 77 = 77 ∧ (4 = 4 ∨ 4 = 5 ∨ 7 ≤ 4 ∧ 4 ≤ 10) ∨ 77 = 77 ∧ (4 = 59 ∨ 65 ≤ 4 ∧ 4 ≤ 69) ∨ 112 ≤ 77 ∧ 77 ≤ 114 ∧ 40 ≤ 4 ∨ 77 = 115 ∨ 77 = 116 by decide)
                      refine to_an (pc := 5) rw_152_5 rfl (to_an (pc := 6) rw_152_6 rfl ?_)
                      have c_406 : M403.2.1 77 10 = (M305.2.1 77 10) := (W_n W402 (by decide) rfl)
                      have b_407 := g_b hG301 (a := 77) (i := 10) (lo := 0) (hi := 500) rfl rfl
                      refine tt_gI (pc := 7) rw_152_7 (g_o hG404 rfl) (v := (M305.2.1 77 10)) c_406 (s_pI (pc := 10) rw_152_10 hG404 rfl (fun M409 W408 => ?_))
                      have hG410 := g_wf hG404 W408 rfl rfl (by decide)
                      have F411 := FR.w F405 W408 (show 77 = 77 ∧ (5 = 4 ∨ 5 = 5 ∨ 7 ≤ 5 ∧ 5 ≤ 10) ∨ 77 = 77 ∧ (5 = 59 ∨ 65 ≤ 5 ∧ 5 ≤ 69) ∨ 112 ≤ 77 ∧ 77 ≤ 114 ∧ 40 ≤ 5 ∨ 77 = 115 ∨ 77 = 116 by decide)
                      refine to_c (pc := 13) rw_152_13 (x := (0 : Int32)) rfl rfl (s_r1 (pc := 14) rw_152_14 (A := 0) rfl (by decide) (s_r1 (pc := 13) rw_162_13 (A := 0) rfl (by decide) (b_ine_f (pc := 231) rw_225_231 (A := 0) rfl (by decide) (to_c (pc := 234) rw_225_234 (x := (0 : Int32)) rfl rfl (s_r1 (pc := 235) rw_225_235 (A := 0) rfl (by decide) ?_)))))
                      have k_412 : (0 : Int32).toInt = 0 := rfl
                      have c_413 : M409.2.1 77 7 = (M305.2.1 77 7) := (W_n W408 (by decide) (W_n W402 (by decide) rfl))
                      have t_414 : (M409.2.1 77 7).toInt = (M305.2.1 77 7).toInt := congrArg Int32.toInt c_413
                      have c_415 : M409.2.1 77 6 = (M.2.1 77 6) := (W_n W408 (by decide) (W_n W402 (by decide) c_308))
                      have t_416 : (M409.2.1 77 6).toInt = (M.2.1 77 6).toInt := congrArg Int32.toInt c_415
                      have c_417 : M409.2.1 77 8 = (M305.2.1 77 8) := (W_n W408 (by decide) (W_n W402 (by decide) rfl))
                      have t_418 : (M409.2.1 77 8).toInt = (M305.2.1 77 8).toInt := congrArg Int32.toInt c_417
                      exact h (0 : Int32) M409 hG410 F411 (by decide) (by decide) (by omega) (by omega) (by omega) (by omega) (fun z => absurd z (by omega))
        · refine to_an (pc := 9) rw_224_9 rfl (to_c (pc := 10) rw_224_10 (x := (2 : Int32)) rfl rfl (s_v (pc := 11) rw_224_11 (dp1 hd (by decide)) (ls0 := [.ref 77, .int (2 : Int32)]) rfl (Nat.le_of_ble_eq_true rfl) (Nat.le_of_ble_eq_true rfl) rfl (to_rc rfl rfl rfl (g_o hG rfl)) rfl (to_an (pc := 0) rw_152_0 rfl (to_in (pc := 1) rw_152_1 rfl (s_pI (pc := 2) rw_152_2 hG rfl (fun M420 W419 => ?_))))))
          have hG421 := g_wf hG W419 rfl rfl (by decide)
          have F422 := FR.w F0 W419 (show 77 = 77 ∧ (4 = 4 ∨ 4 = 5 ∨ 7 ≤ 4 ∧ 4 ≤ 10) ∨ 77 = 77 ∧ (4 = 59 ∨ 65 ≤ 4 ∧ 4 ≤ 69) ∨ 112 ≤ 77 ∧ 77 ≤ 114 ∧ 40 ≤ 4 ∨ 77 = 115 ∨ 77 = 116 by decide)
          refine to_an (pc := 5) rw_152_5 rfl (to_an (pc := 6) rw_152_6 rfl ?_)
          have c_423 : M420.2.1 77 10 = (M.2.1 77 10) := (W_n W419 (by decide) rfl)
          have b_424 := g_b hG (a := 77) (i := 10) (lo := 0) (hi := 500) rfl rfl
          refine tt_gI (pc := 7) rw_152_7 (g_o hG421 rfl) (v := (M.2.1 77 10)) c_423 (s_pI (pc := 10) rw_152_10 hG421 rfl (fun M426 W425 => ?_))
          have hG427 := g_wf hG421 W425 rfl rfl (by decide)
          have F428 := FR.w F422 W425 (show 77 = 77 ∧ (5 = 4 ∨ 5 = 5 ∨ 7 ≤ 5 ∧ 5 ≤ 10) ∨ 77 = 77 ∧ (5 = 59 ∨ 65 ≤ 5 ∧ 5 ≤ 69) ∨ 112 ≤ 77 ∧ 77 ≤ 114 ∧ 40 ≤ 5 ∨ 77 = 115 ∨ 77 = 116 by decide)
          refine to_c (pc := 13) rw_152_13 (x := (0 : Int32)) rfl rfl (s_r1 (pc := 14) rw_152_14 (A := 0) rfl (by decide) (s_r1 (pc := 14) rw_224_14 (A := 0) rfl (by decide) (b_ine_f (pc := 122) rw_225_122 (A := 0) rfl (by decide) (to_c (pc := 125) rw_225_125 (x := (0 : Int32)) rfl rfl (s_r1 (pc := 126) rw_225_126 (A := 0) rfl (by decide) ?_)))))
          have k_429 : (0 : Int32).toInt = 0 := rfl
          have c_430 : M426.2.1 77 7 = (M.2.1 77 7) := (W_n W425 (by decide) (W_n W419 (by decide) rfl))
          have t_431 : (M426.2.1 77 7).toInt = (M.2.1 77 7).toInt := congrArg Int32.toInt c_430
          have c_432 : M426.2.1 77 6 = (M.2.1 77 6) := (W_n W425 (by decide) (W_n W419 (by decide) rfl))
          have t_433 : (M426.2.1 77 6).toInt = (M.2.1 77 6).toInt := congrArg Int32.toInt c_432
          have c_434 : M426.2.1 77 8 = (M.2.1 77 8) := (W_n W425 (by decide) (W_n W419 (by decide) rfl))
          have t_435 : (M426.2.1 77 8).toInt = (M.2.1 77 8).toInt := congrArg Int32.toInt c_434
          exact h (0 : Int32) M426 hG427 F428 (by decide) (by decide) (by omega) (by omega) (by omega) (by omega) (fun z => absurd z (by omega))
      · refine to_an (pc := 112) rw_225_112 rfl (to_c (pc := 113) rw_225_113 (x := (1 : Int32)) rfl rfl (s_v (pc := 114) rw_225_114 (dp0 hd (by decide)) (ls0 := [.ref 77, .int (1 : Int32)]) rfl (Nat.le_of_ble_eq_true rfl) (Nat.le_of_ble_eq_true rfl) rfl (to_rc rfl rfl rfl (g_o hG rfl)) rfl (to_an (pc := 0) rw_152_0 rfl (to_in (pc := 1) rw_152_1 rfl (s_pI (pc := 2) rw_152_2 hG rfl (fun M437 W436 => ?_))))))
        have hG438 := g_wf hG W436 rfl rfl (by decide)
        have F439 := FR.w F0 W436 (show 77 = 77 ∧ (4 = 4 ∨ 4 = 5 ∨ 7 ≤ 4 ∧ 4 ≤ 10) ∨ 77 = 77 ∧ (4 = 59 ∨ 65 ≤ 4 ∧ 4 ≤ 69) ∨ 112 ≤ 77 ∧ 77 ≤ 114 ∧ 40 ≤ 4 ∨ 77 = 115 ∨ 77 = 116 by decide)
        refine to_an (pc := 5) rw_152_5 rfl (to_an (pc := 6) rw_152_6 rfl ?_)
        have c_440 : M437.2.1 77 10 = (M.2.1 77 10) := (W_n W436 (by decide) rfl)
        have b_441 := g_b hG (a := 77) (i := 10) (lo := 0) (hi := 500) rfl rfl
        refine tt_gI (pc := 7) rw_152_7 (g_o hG438 rfl) (v := (M.2.1 77 10)) c_440 (s_pI (pc := 10) rw_152_10 hG438 rfl (fun M443 W442 => ?_))
        have hG444 := g_wf hG438 W442 rfl rfl (by decide)
        have F445 := FR.w F439 W442 (show 77 = 77 ∧ (5 = 4 ∨ 5 = 5 ∨ 7 ≤ 5 ∧ 5 ≤ 10) ∨ 77 = 77 ∧ (5 = 59 ∨ 65 ≤ 5 ∧ 5 ≤ 69) ∨ 112 ≤ 77 ∧ 77 ≤ 114 ∧ 40 ≤ 5 ∨ 77 = 115 ∨ 77 = 116 by decide)
        refine to_c (pc := 13) rw_152_13 (x := (0 : Int32)) rfl rfl (s_r1 (pc := 14) rw_152_14 (A := 0) rfl (by decide) (s_r1 (pc := 117) rw_225_117 (A := 0) rfl (by decide) ?_))
        have k_446 : (0 : Int32).toInt = 0 := rfl
        have c_447 : M443.2.1 77 7 = (M.2.1 77 7) := (W_n W442 (by decide) (W_n W436 (by decide) rfl))
        have t_448 : (M443.2.1 77 7).toInt = (M.2.1 77 7).toInt := congrArg Int32.toInt c_447
        have c_449 : M443.2.1 77 6 = (M.2.1 77 6) := (W_n W442 (by decide) (W_n W436 (by decide) rfl))
        have t_450 : (M443.2.1 77 6).toInt = (M.2.1 77 6).toInt := congrArg Int32.toInt c_449
        have c_451 : M443.2.1 77 8 = (M.2.1 77 8) := (W_n W442 (by decide) (W_n W436 (by decide) rfl))
        have t_452 : (M443.2.1 77 8).toInt = (M.2.1 77 8).toInt := congrArg Int32.toInt c_451
        exact h (0 : Int32) M443 hG444 F445 (by decide) (by decide) (by omega) (by omega) (by omega) (by omega) (fun z => absurd z (by omega))
    · refine to_an (pc := 8) rw_158_8 rfl (tt_gI (pc := 9) rw_158_9 (g_o hG rfl) (v := (M.2.1 77 9)) rfl (to_in (pc := 12) rw_158_12 rfl (b_cne (pc := 13) rw_158_13 (A := (M.2.1 77 9).toInt) (B := 14) rfl rfl (fun h453 => ?_) (fun h453 => ?_))))
      · refine to_c (pc := 20) rw_158_20 (x := (0 : Int32)) rfl rfl (s_r1 (pc := 21) rw_158_21 (A := 0) rfl (by decide) (b_ieq_t (pc := 66) rw_225_66 (A := 0) rfl (by decide) (to_an (pc := 104) rw_225_104 rfl (tt_gI (pc := 105) rw_225_105 (g_o hG rfl) (v := (M.2.1 77 8)) rfl (to_c (pc := 108) rw_225_108 (x := (2 : Int32)) rfl rfl (b_ceq_f (pc := 109) rw_225_109 (A := (M.2.1 77 8).toInt) (B := 2) rfl rfl (by omega) (to_an (pc := 112) rw_225_112 rfl (to_c (pc := 113) rw_225_113 (x := (1 : Int32)) rfl rfl (s_v (pc := 114) rw_225_114 (dp0 hd (by decide)) (ls0 := [.ref 77, .int (1 : Int32)]) rfl (Nat.le_of_ble_eq_true rfl) (Nat.le_of_ble_eq_true rfl) rfl (to_rc rfl rfl rfl (g_o hG rfl)) rfl (to_an (pc := 0) rw_152_0 rfl (to_in (pc := 1) rw_152_1 rfl ?_)))))))))))
        refine s_pI (pc := 2) rw_152_2 hG rfl (fun M455 W454 => ?_)
        have hG456 := g_wf hG W454 rfl rfl (by decide)
        have F457 := FR.w F0 W454 (show 77 = 77 ∧ (4 = 4 ∨ 4 = 5 ∨ 7 ≤ 4 ∧ 4 ≤ 10) ∨ 77 = 77 ∧ (4 = 59 ∨ 65 ≤ 4 ∧ 4 ≤ 69) ∨ 112 ≤ 77 ∧ 77 ≤ 114 ∧ 40 ≤ 4 ∨ 77 = 115 ∨ 77 = 116 by decide)
        refine to_an (pc := 5) rw_152_5 rfl (to_an (pc := 6) rw_152_6 rfl ?_)
        have c_458 : M455.2.1 77 10 = (M.2.1 77 10) := (W_n W454 (by decide) rfl)
        have b_459 := g_b hG (a := 77) (i := 10) (lo := 0) (hi := 500) rfl rfl
        refine tt_gI (pc := 7) rw_152_7 (g_o hG456 rfl) (v := (M.2.1 77 10)) c_458 (s_pI (pc := 10) rw_152_10 hG456 rfl (fun M461 W460 => ?_))
        have hG462 := g_wf hG456 W460 rfl rfl (by decide)
        have F463 := FR.w F457 W460 (show 77 = 77 ∧ (5 = 4 ∨ 5 = 5 ∨ 7 ≤ 5 ∧ 5 ≤ 10) ∨ 77 = 77 ∧ (5 = 59 ∨ 65 ≤ 5 ∧ 5 ≤ 69) ∨ 112 ≤ 77 ∧ 77 ≤ 114 ∧ 40 ≤ 5 ∨ 77 = 115 ∨ 77 = 116 by decide)
        refine to_c (pc := 13) rw_152_13 (x := (0 : Int32)) rfl rfl (s_r1 (pc := 14) rw_152_14 (A := 0) rfl (by decide) (s_r1 (pc := 117) rw_225_117 (A := 0) rfl (by decide) ?_))
        have k_464 : (0 : Int32).toInt = 0 := rfl
        have c_465 : M461.2.1 77 7 = (M.2.1 77 7) := (W_n W460 (by decide) (W_n W454 (by decide) rfl))
        have t_466 : (M461.2.1 77 7).toInt = (M.2.1 77 7).toInt := congrArg Int32.toInt c_465
        have c_467 : M461.2.1 77 6 = (M.2.1 77 6) := (W_n W460 (by decide) (W_n W454 (by decide) rfl))
        have t_468 : (M461.2.1 77 6).toInt = (M.2.1 77 6).toInt := congrArg Int32.toInt c_467
        have c_469 : M461.2.1 77 8 = (M.2.1 77 8) := (W_n W460 (by decide) (W_n W454 (by decide) rfl))
        have t_470 : (M461.2.1 77 8).toInt = (M.2.1 77 8).toInt := congrArg Int32.toInt c_469
        exact h (0 : Int32) M461 hG462 F463 (by decide) (by decide) (by omega) (by omega) (by omega) (by omega) (fun z => absurd z (by omega))
      · refine to_c (pc := 16) rw_158_16 (x := (1 : Int32)) rfl rfl (to_go (pc := 17) rw_158_17 (s_r1 (pc := 21) rw_158_21 (A := 1) rfl (by decide) (b_ieq_f (pc := 66) rw_225_66 (A := 1) rfl (by decide) (to_an (pc := 69) rw_225_69 rfl (s_v (pc := 70) rw_225_70 (dp0 hd (by decide)) (ls0 := [.ref 77]) rfl (Nat.le_of_ble_eq_true rfl) (Nat.le_of_ble_eq_true rfl) rfl (to_rc rfl rfl rfl (g_o hG rfl)) rfl (to_an (pc := 0) rw_224_0 rfl (tt_gI (pc := 1) rw_224_1 (g_o hG rfl) (v := (M.2.1 77 69)) rfl (to_c (pc := 4) rw_224_4 (x := (40 : Int32)) rfl rfl (b_cne (pc := 6) rw_224_6 (A := (M.2.1 77 69).toInt) (B := 40) rfl rfl (fun h471 => ?_) (fun h471 => ?_))))))))))
        · refine to_an (pc := 15) rw_224_15 rfl (to_dupr (pc := 16) rw_224_16 (tt_gI (pc := 17) rw_224_17 (g_o hG rfl) (v := (M.2.1 77 69)) rfl (to_c (pc := 20) rw_224_20 (x := (1 : Int32)) rfl rfl (s_add (pc := 21) rw_224_21 (A := (M.2.1 77 69).toInt) (B := 1) rfl rfl (by omega) (fun v472 e473 => s_pI (pc := 22) rw_224_22 hG rfl (fun M475 W474 => ?_))))))
          have hG476 := g_w hG W474 (A := v472.toInt) rfl (lo := 0) (hi := 40) rfl rfl (by omega) (by decide)
          have F477 := FR.w F0 W474 (show 77 = 77 ∧ (69 = 4 ∨ 69 = 5 ∨ 7 ≤ 69 ∧ 69 ≤ 10) ∨ 77 = 77 ∧ (69 = 59 ∨ 65 ≤ 69 ∧ 69 ≤ 69) ∨ 112 ≤ 77 ∧ 77 ≤ 114 ∧ 40 ≤ 69 ∨ 77 = 115 ∨ 77 = 116 by decide)
          refine to_c (pc := 25) rw_224_25 (x := (1 : Int32)) rfl rfl (s_r1 (pc := 26) rw_224_26 (A := 1) rfl (by decide) (b_ine_t (pc := 73) rw_225_73 (A := 1) rfl (by decide) (to_an (pc := 78) rw_225_78 rfl (s_gR (pc := 79) rw_225_79 hG476 rfl (v := 115) rfl (to_an (pc := 82) rw_225_82 rfl ?_)))))
          have c_478 : M475.2.1 77 65 = (M.2.1 77 65) := (W_n W474 (by decide) rfl)
          refine tt_gI (pc := 83) rw_225_83 (g_o hG476 rfl) (v := (M.2.1 77 65)) c_478 (to_c (pc := 86) rw_225_86 (x := (2 : Int32)) rfl rfl (s_ias (pc := 87) rw_225_87 hG476 rfl (n := 64) rfl (A := (M.2.1 77 65).toInt) rfl (by omega) (by omega) (fun M480 W479 => ?_)))
          have hG481 := g_w hG476 W479 (A := 2) rfl (lo := 0) (hi := 4) rfl rfl (by omega) (by decide)
          have F482 := FR.w F477 W479 (show 115 = 77 ∧ (((M.2.1 77 65).toInt).toNat = 4 ∨ ((M.2.1 77 65).toInt).toNat = 5 ∨ 7 ≤ ((M.2.1 77 65).toInt).toNat ∧ ((M.2.1 77 65).toInt).toNat ≤ 10) ∨ 115 = 77 ∧ (((M.2.1 77 65).toInt).toNat = 59 ∨ 65 ≤ ((M.2.1 77 65).toInt).toNat ∧ ((M.2.1 77 65).toInt).toNat ≤ 69) ∨ 112 ≤ 115 ∧ 115 ≤ 114 ∧ 40 ≤ ((M.2.1 77 65).toInt).toNat ∨ 115 = 115 ∨ 115 = 116 by omega)
          refine to_an (pc := 88) rw_225_88 rfl (to_dupr (pc := 89) rw_225_89 ?_)
          have c_483 : M480.2.1 77 65 = (M.2.1 77 65) := (W_n W479 (fun z => absurd z.1 (by decide)) c_478)
          refine tt_gI (pc := 90) rw_225_90 (g_o hG481 rfl) (v := (M.2.1 77 65)) c_483 (to_c (pc := 93) rw_225_93 (x := (1 : Int32)) rfl rfl (s_add (pc := 94) rw_225_94 (A := (M.2.1 77 65).toInt) (B := 1) rfl rfl (by omega) (fun v484 e485 => s_pI (pc := 95) rw_225_95 hG481 rfl (fun M487 W486 => ?_))))
          have hG488 := g_w hG481 W486 (A := v484.toInt) rfl (lo := 0) (hi := 48) rfl rfl (by omega) (by decide)
          have F489 := FR.w F482 W486 (show 77 = 77 ∧ (65 = 4 ∨ 65 = 5 ∨ 7 ≤ 65 ∧ 65 ≤ 10) ∨ 77 = 77 ∧ (65 = 59 ∨ 65 ≤ 65 ∧ 65 ≤ 69) ∨ 112 ≤ 77 ∧ 77 ≤ 114 ∧ 40 ≤ 65 ∨ 77 = 115 ∨ 77 = 116 by decide)
          refine to_an (pc := 98) rw_225_98 rfl (s_v (pc := 99) rw_225_99 (dp0 hd (by decide)) (ls0 := [.ref 77]) rfl (Nat.le_of_ble_eq_true rfl) (Nat.le_of_ble_eq_true rfl) rfl (to_rc rfl rfl rfl (g_o hG488 rfl)) rfl ?_)
          have c_490 : M487.2.1 77 7 = (M.2.1 77 7) := (W_n W486 (by decide) (W_n W479 (fun z => absurd z.1 (by decide)) (W_n W474 (by decide) rfl)))
          have t_491 : (M487.2.1 77 7).toInt = (M.2.1 77 7).toInt := congrArg Int32.toInt c_490
          have c_492 : M487.2.1 77 6 = (M.2.1 77 6) := (W_n W486 (by decide) (W_n W479 (fun z => absurd z.1 (by decide)) (W_n W474 (by decide) rfl)))
          have t_493 : (M487.2.1 77 6).toInt = (M.2.1 77 6).toInt := congrArg Int32.toInt c_492
          refine C_156 hX (dp1 hd (by decide)) hG488 (by omega)  (fun M499 hG495 F494 p_496 p_497 p_498 => ?_)
          have F500 := FR.c F489 F494 tg_308
          have b_501 := g_b hG495 (a := 77) (i := 7) (lo := 0) (hi := 500) rfl rfl
          have c_502 : M499.2.1 77 6 = (M.2.1 77 6) := (F_n F494 (show ¬ (77 = 77 ∧ 7 ≤ 6 ∧ 6 ≤ 10) by decide) c_492)
          have t_503 : (M499.2.1 77 6).toInt = (M.2.1 77 6).toInt := congrArg Int32.toInt c_502
          have b_504 := g_b hG495 (a := 77) (i := 8) (lo := 0) (hi := 5) rfl rfl
          refine to_c (pc := 102) rw_225_102 (x := (1 : Int32)) rfl rfl (s_r1 (pc := 103) rw_225_103 (A := 1) rfl (by decide) ?_)
          have k_505 : (1 : Int32).toInt = 1 := rfl
          have c_506 : M499.2.1 77 59 = (M.2.1 77 59) := (F_n F494 (show ¬ (77 = 77 ∧ 7 ≤ 59 ∧ 59 ≤ 10) by decide) (W_n W486 (by decide) (W_n W479 (fun z => absurd z.1 (by decide)) (W_n W474 (by decide) rfl))))
          have t_507 : (M499.2.1 77 59).toInt = (M.2.1 77 59).toInt := congrArg Int32.toInt c_506
          have c_508 : M499.2.1 77 65 = v484 := (F_n F494 (show ¬ (77 = 77 ∧ 7 ≤ 65 ∧ 65 ≤ 10) by decide) (W_e W486))
          have t_509 : (M499.2.1 77 65).toInt = v484.toInt := congrArg Int32.toInt c_508
          have c_510 : M499.2.1 77 66 = (M.2.1 77 66) := (F_n F494 (show ¬ (77 = 77 ∧ 7 ≤ 66 ∧ 66 ≤ 10) by decide) (W_n W486 (by decide) (W_n W479 (fun z => absurd z.1 (by decide)) (W_n W474 (by decide) rfl))))
          have t_511 : (M499.2.1 77 66).toInt = (M.2.1 77 66).toInt := congrArg Int32.toInt c_510
          have c_512 : M499.2.1 77 67 = (M.2.1 77 67) := (F_n F494 (show ¬ (77 = 77 ∧ 7 ≤ 67 ∧ 67 ≤ 10) by decide) (W_n W486 (by decide) (W_n W479 (fun z => absurd z.1 (by decide)) (W_n W474 (by decide) rfl))))
          have t_513 : (M499.2.1 77 67).toInt = (M.2.1 77 67).toInt := congrArg Int32.toInt c_512
          have c_514 : M499.2.1 77 68 = (M.2.1 77 68) := (F_n F494 (show ¬ (77 = 77 ∧ 7 ≤ 68 ∧ 68 ≤ 10) by decide) (W_n W486 (by decide) (W_n W479 (fun z => absurd z.1 (by decide)) (W_n W474 (by decide) rfl))))
          have t_515 : (M499.2.1 77 68).toInt = (M.2.1 77 68).toInt := congrArg Int32.toInt c_514
          have c_516 : M499.2.1 77 69 = v472 := (F_n F494 (show ¬ (77 = 77 ∧ 7 ≤ 69 ∧ 69 ≤ 10) by decide) (W_n W486 (by decide) (W_n W479 (fun z => absurd z.1 (by decide)) (W_e W474))))
          have t_517 : (M499.2.1 77 69).toInt = v472.toInt := congrArg Int32.toInt c_516
          have k_519 : (2 : Int32).toInt = 2 := rfl
          have s_520 := Wx_f (M := M) (M1 := M499) ((M.2.1 77 65).toInt).toNat (fun i z => (F_n F494 (show ¬ (115 = 77 ∧ 7 ≤ i ∧ i ≤ 10) by omega) (W_n W486 (by omega) (W_n W479 (by omega) (W_n W474 (by omega) rfl)))))
          have s_521 : (M499.2.1 115 ((M.2.1 77 65).toInt).toNat).toInt = (2 : Int32).toInt := by rw [show ((M.2.1 77 65).toInt).toNat = ((M.2.1 77 65).toInt).toNat by omega]; exact congrArg Int32.toInt (F_n F494 (show ¬ (115 = 77 ∧ 7 ≤ (((M.2.1 77 65).toInt).toNat) ∧ (((M.2.1 77 65).toInt).toNat) ≤ 10) by omega) (W_n W486 (by omega) (W_e W479)))
          have s_522 := Wx_s M499 ((M.2.1 77 65).toInt).toNat
          have j_518 : QK M499 := QK_i (by unfold QK_c; rw [show ((M499.2.1 77 65).toInt).toNat = ((M.2.1 77 65).toInt).toNat + 1 by omega]; refine ⟨by omega, by omega, by omega, by omega⟩) (fun i z => by
              by_cases ei : i = ((M.2.1 77 65).toInt).toNat
              · rw [ei]; omega
              · rw [(F_n F494 (show ¬ (115 = 77 ∧ 7 ≤ i ∧ i ≤ 10) by omega) (W_n W486 (by omega) (W_n W479 (by omega) (W_n W474 (by omega) rfl))))]; exact q2.2.1 i (by omega)) (by rw [(F_n F494 (show ¬ (77 = 77 ∧ 7 ≤ 59 ∧ 59 ≤ 10) by decide) (W_n W486 (by omega) (W_n W479 (by omega) (W_n W474 (by omega) rfl))))]; exact KN_f (fun a i z => (F_n F494 (show ¬ (a = 77 ∧ 7 ≤ i ∧ i ≤ 10) by omega) (W_n W486 (by /-r77,65-/ omega) (W_n W479 (by /-r115-/ omega) (W_n W474 (by /-r77,69-/ omega) rfl))))) q2.2.2)
          exact h (1 : Int32) M499 hG495 F500 (by decide) (by decide) (by omega) (by omega) (by omega) (by omega) (fun _ => j_518)
        · refine to_an (pc := 9) rw_224_9 rfl (to_c (pc := 10) rw_224_10 (x := (2 : Int32)) rfl rfl (s_v (pc := 11) rw_224_11 (dp1 hd (by decide)) (ls0 := [.ref 77, .int (2 : Int32)]) rfl (Nat.le_of_ble_eq_true rfl) (Nat.le_of_ble_eq_true rfl) rfl (to_rc rfl rfl rfl (g_o hG rfl)) rfl (to_an (pc := 0) rw_152_0 rfl (to_in (pc := 1) rw_152_1 rfl (s_pI (pc := 2) rw_152_2 hG rfl (fun M524 W523 => ?_))))))
          have hG525 := g_wf hG W523 rfl rfl (by decide)
          have F526 := FR.w F0 W523 (show 77 = 77 ∧ (4 = 4 ∨ 4 = 5 ∨ 7 ≤ 4 ∧ 4 ≤ 10) ∨ 77 = 77 ∧ (4 = 59 ∨ 65 ≤ 4 ∧ 4 ≤ 69) ∨ 112 ≤ 77 ∧ 77 ≤ 114 ∧ 40 ≤ 4 ∨ 77 = 115 ∨ 77 = 116 by decide)
          refine to_an (pc := 5) rw_152_5 rfl (to_an (pc := 6) rw_152_6 rfl ?_)
          have c_527 : M524.2.1 77 10 = (M.2.1 77 10) := (W_n W523 (by decide) rfl)
          have b_528 := g_b hG (a := 77) (i := 10) (lo := 0) (hi := 500) rfl rfl
          refine tt_gI (pc := 7) rw_152_7 (g_o hG525 rfl) (v := (M.2.1 77 10)) c_527 (s_pI (pc := 10) rw_152_10 hG525 rfl (fun M530 W529 => ?_))
          have hG531 := g_wf hG525 W529 rfl rfl (by decide)
          have F532 := FR.w F526 W529 (show 77 = 77 ∧ (5 = 4 ∨ 5 = 5 ∨ 7 ≤ 5 ∧ 5 ≤ 10) ∨ 77 = 77 ∧ (5 = 59 ∨ 65 ≤ 5 ∧ 5 ≤ 69) ∨ 112 ≤ 77 ∧ 77 ≤ 114 ∧ 40 ≤ 5 ∨ 77 = 115 ∨ 77 = 116 by decide)
          refine to_c (pc := 13) rw_152_13 (x := (0 : Int32)) rfl rfl (s_r1 (pc := 14) rw_152_14 (A := 0) rfl (by decide) (s_r1 (pc := 14) rw_224_14 (A := 0) rfl (by decide) (b_ine_f (pc := 73) rw_225_73 (A := 0) rfl (by decide) (to_c (pc := 76) rw_225_76 (x := (0 : Int32)) rfl rfl (s_r1 (pc := 77) rw_225_77 (A := 0) rfl (by decide) ?_)))))
          have k_533 : (0 : Int32).toInt = 0 := rfl
          have c_534 : M530.2.1 77 7 = (M.2.1 77 7) := (W_n W529 (by decide) (W_n W523 (by decide) rfl))
          have t_535 : (M530.2.1 77 7).toInt = (M.2.1 77 7).toInt := congrArg Int32.toInt c_534
          have c_536 : M530.2.1 77 6 = (M.2.1 77 6) := (W_n W529 (by decide) (W_n W523 (by decide) rfl))
          have t_537 : (M530.2.1 77 6).toInt = (M.2.1 77 6).toInt := congrArg Int32.toInt c_536
          have c_538 : M530.2.1 77 8 = (M.2.1 77 8) := (W_n W529 (by decide) (W_n W523 (by decide) rfl))
          have t_539 : (M530.2.1 77 8).toInt = (M.2.1 77 8).toInt := congrArg Int32.toInt c_538
          exact h (0 : Int32) M530 hG531 F532 (by decide) (by decide) (by omega) (by omega) (by omega) (by omega) (fun z => absurd z (by omega))
  · refine to_an (pc := 8) rw_159_8 rfl (tt_gI (pc := 9) rw_159_9 (g_o hG rfl) (v := (M.2.1 77 9)) rfl (to_in (pc := 12) rw_159_12 rfl (b_cne (pc := 13) rw_159_13 (A := (M.2.1 77 9).toInt) (B := 40) rfl rfl (fun h540 => ?_) (fun h540 => ?_))))
    · refine to_c (pc := 20) rw_159_20 (x := (0 : Int32)) rfl rfl (s_r1 (pc := 21) rw_159_21 (A := 0) rfl (by decide) (b_ieq_t (pc := 6) rw_225_6 (A := 0) rfl (by decide) (to_an (pc := 60) rw_225_60 rfl (to_c (pc := 61) rw_225_61 (x := (14 : Int32)) rfl rfl (s_v (pc := 63) rw_225_63 (dp0 hd (by decide)) (ls0 := [.ref 77, .int (14 : Int32)]) rfl (Nat.le_of_ble_eq_true rfl) (Nat.le_of_ble_eq_true rfl) rfl (to_rc rfl rfl rfl (g_o hG rfl)) rfl (to_an (pc := 0) rw_158_0 rfl (tt_gI (pc := 1) rw_158_1 (g_o hG rfl) (v := (M.2.1 77 8)) rfl (to_c (pc := 4) rw_158_4 (x := (1 : Int32)) rfl rfl (b_cne_t (pc := 5) rw_158_5 (A := (M.2.1 77 8).toInt) (B := 1) rfl rfl (by omega) (to_c (pc := 20) rw_158_20 (x := (0 : Int32)) rfl rfl (s_r1 (pc := 21) rw_158_21 (A := 0) rfl (by decide) ?_)))))))))))
      refine b_ieq_t (pc := 66) rw_225_66 (A := 0) rfl (by decide) (to_an (pc := 104) rw_225_104 rfl (tt_gI (pc := 105) rw_225_105 (g_o hG rfl) (v := (M.2.1 77 8)) rfl (to_c (pc := 108) rw_225_108 (x := (2 : Int32)) rfl rfl (b_ceq_f (pc := 109) rw_225_109 (A := (M.2.1 77 8).toInt) (B := 2) rfl rfl (by omega) (to_an (pc := 112) rw_225_112 rfl (to_c (pc := 113) rw_225_113 (x := (1 : Int32)) rfl rfl (s_v (pc := 114) rw_225_114 (dp0 hd (by decide)) (ls0 := [.ref 77, .int (1 : Int32)]) rfl (Nat.le_of_ble_eq_true rfl) (Nat.le_of_ble_eq_true rfl) rfl (to_rc rfl rfl rfl (g_o hG rfl)) rfl (to_an (pc := 0) rw_152_0 rfl (to_in (pc := 1) rw_152_1 rfl (s_pI (pc := 2) rw_152_2 hG rfl (fun M542 W541 => ?_)))))))))))
      have hG543 := g_wf hG W541 rfl rfl (by decide)
      have F544 := FR.w F0 W541 (show 77 = 77 ∧ (4 = 4 ∨ 4 = 5 ∨ 7 ≤ 4 ∧ 4 ≤ 10) ∨ 77 = 77 ∧ (4 = 59 ∨ 65 ≤ 4 ∧ 4 ≤ 69) ∨ 112 ≤ 77 ∧ 77 ≤ 114 ∧ 40 ≤ 4 ∨ 77 = 115 ∨ 77 = 116 by decide)
      refine to_an (pc := 5) rw_152_5 rfl (to_an (pc := 6) rw_152_6 rfl ?_)
      have c_545 : M542.2.1 77 10 = (M.2.1 77 10) := (W_n W541 (by decide) rfl)
      have b_546 := g_b hG (a := 77) (i := 10) (lo := 0) (hi := 500) rfl rfl
      refine tt_gI (pc := 7) rw_152_7 (g_o hG543 rfl) (v := (M.2.1 77 10)) c_545 (s_pI (pc := 10) rw_152_10 hG543 rfl (fun M548 W547 => ?_))
      have hG549 := g_wf hG543 W547 rfl rfl (by decide)
      have F550 := FR.w F544 W547 (show 77 = 77 ∧ (5 = 4 ∨ 5 = 5 ∨ 7 ≤ 5 ∧ 5 ≤ 10) ∨ 77 = 77 ∧ (5 = 59 ∨ 65 ≤ 5 ∧ 5 ≤ 69) ∨ 112 ≤ 77 ∧ 77 ≤ 114 ∧ 40 ≤ 5 ∨ 77 = 115 ∨ 77 = 116 by decide)
      refine to_c (pc := 13) rw_152_13 (x := (0 : Int32)) rfl rfl (s_r1 (pc := 14) rw_152_14 (A := 0) rfl (by decide) (s_r1 (pc := 117) rw_225_117 (A := 0) rfl (by decide) ?_))
      have k_551 : (0 : Int32).toInt = 0 := rfl
      have c_552 : M548.2.1 77 7 = (M.2.1 77 7) := (W_n W547 (by decide) (W_n W541 (by decide) rfl))
      have t_553 : (M548.2.1 77 7).toInt = (M.2.1 77 7).toInt := congrArg Int32.toInt c_552
      have c_554 : M548.2.1 77 6 = (M.2.1 77 6) := (W_n W547 (by decide) (W_n W541 (by decide) rfl))
      have t_555 : (M548.2.1 77 6).toInt = (M.2.1 77 6).toInt := congrArg Int32.toInt c_554
      have c_556 : M548.2.1 77 8 = (M.2.1 77 8) := (W_n W547 (by decide) (W_n W541 (by decide) rfl))
      have t_557 : (M548.2.1 77 8).toInt = (M.2.1 77 8).toInt := congrArg Int32.toInt c_556
      exact h (0 : Int32) M548 hG549 F550 (by decide) (by decide) (by omega) (by omega) (by omega) (by omega) (fun z => absurd z (by omega))
    · refine to_c (pc := 16) rw_159_16 (x := (1 : Int32)) rfl rfl (to_go (pc := 17) rw_159_17 (s_r1 (pc := 21) rw_159_21 (A := 1) rfl (by decide) (b_ieq_f (pc := 6) rw_225_6 (A := 1) rfl (by decide) (to_an (pc := 9) rw_225_9 rfl (tt_gI (pc := 10) rw_225_10 (g_o hG rfl) (v := (M.2.1 77 67)) rfl (to_c (pc := 13) rw_225_13 (x := (8 : Int32)) rfl rfl (b_cne (pc := 15) rw_225_15 (A := (M.2.1 77 67).toInt) (B := 8) rfl rfl (fun h558 => ?_) (fun h558 => ?_))))))))
      · refine to_an (pc := 24) rw_225_24 rfl (to_dupr (pc := 25) rw_225_25 (tt_gI (pc := 26) rw_225_26 (g_o hG rfl) (v := (M.2.1 77 67)) rfl (to_c (pc := 29) rw_225_29 (x := (1 : Int32)) rfl rfl (s_add (pc := 30) rw_225_30 (A := (M.2.1 77 67).toInt) (B := 1) rfl rfl (by omega) (fun v559 e560 => s_pI (pc := 31) rw_225_31 hG rfl (fun M562 W561 => ?_))))))
        have hG563 := g_w hG W561 (A := v559.toInt) rfl (lo := 0) (hi := 8) rfl rfl (by omega) (by decide)
        have F564 := FR.w F0 W561 (show 77 = 77 ∧ (67 = 4 ∨ 67 = 5 ∨ 7 ≤ 67 ∧ 67 ≤ 10) ∨ 77 = 77 ∧ (67 = 59 ∨ 65 ≤ 67 ∧ 67 ≤ 69) ∨ 112 ≤ 77 ∧ 77 ≤ 114 ∧ 40 ≤ 67 ∨ 77 = 115 ∨ 77 = 116 by decide)
        refine to_an (pc := 34) rw_225_34 rfl (s_gR (pc := 35) rw_225_35 hG563 rfl (v := 115) rfl (to_an (pc := 38) rw_225_38 rfl ?_))
        have c_565 : M562.2.1 77 65 = (M.2.1 77 65) := (W_n W561 (by decide) rfl)
        refine tt_gI (pc := 39) rw_225_39 (g_o hG563 rfl) (v := (M.2.1 77 65)) c_565 (to_c (pc := 42) rw_225_42 (x := (0 : Int32)) rfl rfl (s_ias (pc := 43) rw_225_43 hG563 rfl (n := 64) rfl (A := (M.2.1 77 65).toInt) rfl (by omega) (by omega) (fun M567 W566 => ?_)))
        have hG568 := g_w hG563 W566 (A := 0) rfl (lo := 0) (hi := 4) rfl rfl (by omega) (by decide)
        have F569 := FR.w F564 W566 (show 115 = 77 ∧ (((M.2.1 77 65).toInt).toNat = 4 ∨ ((M.2.1 77 65).toInt).toNat = 5 ∨ 7 ≤ ((M.2.1 77 65).toInt).toNat ∧ ((M.2.1 77 65).toInt).toNat ≤ 10) ∨ 115 = 77 ∧ (((M.2.1 77 65).toInt).toNat = 59 ∨ 65 ≤ ((M.2.1 77 65).toInt).toNat ∧ ((M.2.1 77 65).toInt).toNat ≤ 69) ∨ 112 ≤ 115 ∧ 115 ≤ 114 ∧ 40 ≤ ((M.2.1 77 65).toInt).toNat ∨ 115 = 115 ∨ 115 = 116 by omega)
        refine to_an (pc := 44) rw_225_44 rfl (to_dupr (pc := 45) rw_225_45 ?_)
        have c_570 : M567.2.1 77 65 = (M.2.1 77 65) := (W_n W566 (fun z => absurd z.1 (by decide)) c_565)
        refine tt_gI (pc := 46) rw_225_46 (g_o hG568 rfl) (v := (M.2.1 77 65)) c_570 (to_c (pc := 49) rw_225_49 (x := (1 : Int32)) rfl rfl (s_add (pc := 50) rw_225_50 (A := (M.2.1 77 65).toInt) (B := 1) rfl rfl (by omega) (fun v571 e572 => s_pI (pc := 51) rw_225_51 hG568 rfl (fun M574 W573 => ?_))))
        have hG575 := g_w hG568 W573 (A := v571.toInt) rfl (lo := 0) (hi := 48) rfl rfl (by omega) (by decide)
        have F576 := FR.w F569 W573 (show 77 = 77 ∧ (65 = 4 ∨ 65 = 5 ∨ 7 ≤ 65 ∧ 65 ≤ 10) ∨ 77 = 77 ∧ (65 = 59 ∨ 65 ≤ 65 ∧ 65 ≤ 69) ∨ 112 ≤ 77 ∧ 77 ≤ 114 ∧ 40 ≤ 65 ∨ 77 = 115 ∨ 77 = 116 by decide)
        refine to_an (pc := 54) rw_225_54 rfl (s_v (pc := 55) rw_225_55 (dp0 hd (by decide)) (ls0 := [.ref 77]) rfl (Nat.le_of_ble_eq_true rfl) (Nat.le_of_ble_eq_true rfl) rfl (to_rc rfl rfl rfl (g_o hG575 rfl)) rfl ?_)
        have c_577 : M574.2.1 77 7 = (M.2.1 77 7) := (W_n W573 (by decide) (W_n W566 (fun z => absurd z.1 (by decide)) (W_n W561 (by decide) rfl)))
        have t_578 : (M574.2.1 77 7).toInt = (M.2.1 77 7).toInt := congrArg Int32.toInt c_577
        have c_579 : M574.2.1 77 6 = (M.2.1 77 6) := (W_n W573 (by decide) (W_n W566 (fun z => absurd z.1 (by decide)) (W_n W561 (by decide) rfl)))
        have t_580 : (M574.2.1 77 6).toInt = (M.2.1 77 6).toInt := congrArg Int32.toInt c_579
        refine C_156 hX (dp1 hd (by decide)) hG575 (by omega)  (fun M586 hG582 F581 p_583 p_584 p_585 => ?_)
        have F587 := FR.c F576 F581 tg_308
        have b_588 := g_b hG582 (a := 77) (i := 7) (lo := 0) (hi := 500) rfl rfl
        have c_589 : M586.2.1 77 6 = (M.2.1 77 6) := (F_n F581 (show ¬ (77 = 77 ∧ 7 ≤ 6 ∧ 6 ≤ 10) by decide) c_579)
        have t_590 : (M586.2.1 77 6).toInt = (M.2.1 77 6).toInt := congrArg Int32.toInt c_589
        have b_591 := g_b hG582 (a := 77) (i := 8) (lo := 0) (hi := 5) rfl rfl
        refine to_c (pc := 58) rw_225_58 (x := (1 : Int32)) rfl rfl (s_r1 (pc := 59) rw_225_59 (A := 1) rfl (by decide) ?_)
        have k_592 : (1 : Int32).toInt = 1 := rfl
        have c_593 : M586.2.1 77 59 = (M.2.1 77 59) := (F_n F581 (show ¬ (77 = 77 ∧ 7 ≤ 59 ∧ 59 ≤ 10) by decide) (W_n W573 (by decide) (W_n W566 (fun z => absurd z.1 (by decide)) (W_n W561 (by decide) rfl))))
        have t_594 : (M586.2.1 77 59).toInt = (M.2.1 77 59).toInt := congrArg Int32.toInt c_593
        have c_595 : M586.2.1 77 65 = v571 := (F_n F581 (show ¬ (77 = 77 ∧ 7 ≤ 65 ∧ 65 ≤ 10) by decide) (W_e W573))
        have t_596 : (M586.2.1 77 65).toInt = v571.toInt := congrArg Int32.toInt c_595
        have c_597 : M586.2.1 77 66 = (M.2.1 77 66) := (F_n F581 (show ¬ (77 = 77 ∧ 7 ≤ 66 ∧ 66 ≤ 10) by decide) (W_n W573 (by decide) (W_n W566 (fun z => absurd z.1 (by decide)) (W_n W561 (by decide) rfl))))
        have t_598 : (M586.2.1 77 66).toInt = (M.2.1 77 66).toInt := congrArg Int32.toInt c_597
        have c_599 : M586.2.1 77 67 = v559 := (F_n F581 (show ¬ (77 = 77 ∧ 7 ≤ 67 ∧ 67 ≤ 10) by decide) (W_n W573 (by decide) (W_n W566 (fun z => absurd z.1 (by decide)) (W_e W561))))
        have t_600 : (M586.2.1 77 67).toInt = v559.toInt := congrArg Int32.toInt c_599
        have c_601 : M586.2.1 77 68 = (M.2.1 77 68) := (F_n F581 (show ¬ (77 = 77 ∧ 7 ≤ 68 ∧ 68 ≤ 10) by decide) (W_n W573 (by decide) (W_n W566 (fun z => absurd z.1 (by decide)) (W_n W561 (by decide) rfl))))
        have t_602 : (M586.2.1 77 68).toInt = (M.2.1 77 68).toInt := congrArg Int32.toInt c_601
        have c_603 : M586.2.1 77 69 = (M.2.1 77 69) := (F_n F581 (show ¬ (77 = 77 ∧ 7 ≤ 69 ∧ 69 ≤ 10) by decide) (W_n W573 (by decide) (W_n W566 (fun z => absurd z.1 (by decide)) (W_n W561 (by decide) rfl))))
        have t_604 : (M586.2.1 77 69).toInt = (M.2.1 77 69).toInt := congrArg Int32.toInt c_603
        have k_606 : (0 : Int32).toInt = 0 := rfl
        have s_607 := Wx_f (M := M) (M1 := M586) ((M.2.1 77 65).toInt).toNat (fun i z => (F_n F581 (show ¬ (115 = 77 ∧ 7 ≤ i ∧ i ≤ 10) by omega) (W_n W573 (by omega) (W_n W566 (by omega) (W_n W561 (by omega) rfl)))))
        have s_608 : (M586.2.1 115 ((M.2.1 77 65).toInt).toNat).toInt = (0 : Int32).toInt := by rw [show ((M.2.1 77 65).toInt).toNat = ((M.2.1 77 65).toInt).toNat by omega]; exact congrArg Int32.toInt (F_n F581 (show ¬ (115 = 77 ∧ 7 ≤ (((M.2.1 77 65).toInt).toNat) ∧ (((M.2.1 77 65).toInt).toNat) ≤ 10) by omega) (W_n W573 (by omega) (W_e W566)))
        have s_609 := Wx_s M586 ((M.2.1 77 65).toInt).toNat
        have j_605 : QK M586 := QK_i (by unfold QK_c; rw [show ((M586.2.1 77 65).toInt).toNat = ((M.2.1 77 65).toInt).toNat + 1 by omega]; refine ⟨by omega, by omega, by omega, by omega⟩) (fun i z => by
            by_cases ei : i = ((M.2.1 77 65).toInt).toNat
            · rw [ei]; omega
            · rw [(F_n F581 (show ¬ (115 = 77 ∧ 7 ≤ i ∧ i ≤ 10) by omega) (W_n W573 (by omega) (W_n W566 (by omega) (W_n W561 (by omega) rfl))))]; exact q2.2.1 i (by omega)) (by rw [(F_n F581 (show ¬ (77 = 77 ∧ 7 ≤ 59 ∧ 59 ≤ 10) by decide) (W_n W573 (by omega) (W_n W566 (by omega) (W_n W561 (by omega) rfl))))]; exact KN_f (fun a i z => (F_n F581 (show ¬ (a = 77 ∧ 7 ≤ i ∧ i ≤ 10) by omega) (W_n W573 (by /-r77,65-/ omega) (W_n W566 (by /-r115-/ omega) (W_n W561 (by /-r77,67-/ omega) rfl))))) q2.2.2)
        exact h (1 : Int32) M586 hG582 F587 (by decide) (by decide) (by omega) (by omega) (by omega) (by omega) (fun _ => j_605)
      · refine to_an (pc := 18) rw_225_18 rfl (to_c (pc := 19) rw_225_19 (x := (2 : Int32)) rfl rfl (s_v (pc := 20) rw_225_20 (dp0 hd (by decide)) (ls0 := [.ref 77, .int (2 : Int32)]) rfl (Nat.le_of_ble_eq_true rfl) (Nat.le_of_ble_eq_true rfl) rfl (to_rc rfl rfl rfl (g_o hG rfl)) rfl (to_an (pc := 0) rw_152_0 rfl (to_in (pc := 1) rw_152_1 rfl (s_pI (pc := 2) rw_152_2 hG rfl (fun M611 W610 => ?_))))))
        have hG612 := g_wf hG W610 rfl rfl (by decide)
        have F613 := FR.w F0 W610 (show 77 = 77 ∧ (4 = 4 ∨ 4 = 5 ∨ 7 ≤ 4 ∧ 4 ≤ 10) ∨ 77 = 77 ∧ (4 = 59 ∨ 65 ≤ 4 ∧ 4 ≤ 69) ∨ 112 ≤ 77 ∧ 77 ≤ 114 ∧ 40 ≤ 4 ∨ 77 = 115 ∨ 77 = 116 by decide)
        refine to_an (pc := 5) rw_152_5 rfl (to_an (pc := 6) rw_152_6 rfl ?_)
        have c_614 : M611.2.1 77 10 = (M.2.1 77 10) := (W_n W610 (by decide) rfl)
        have b_615 := g_b hG (a := 77) (i := 10) (lo := 0) (hi := 500) rfl rfl
        refine tt_gI (pc := 7) rw_152_7 (g_o hG612 rfl) (v := (M.2.1 77 10)) c_614 (s_pI (pc := 10) rw_152_10 hG612 rfl (fun M617 W616 => ?_))
        have hG618 := g_wf hG612 W616 rfl rfl (by decide)
        have F619 := FR.w F613 W616 (show 77 = 77 ∧ (5 = 4 ∨ 5 = 5 ∨ 7 ≤ 5 ∧ 5 ≤ 10) ∨ 77 = 77 ∧ (5 = 59 ∨ 65 ≤ 5 ∧ 5 ≤ 69) ∨ 112 ≤ 77 ∧ 77 ≤ 114 ∧ 40 ≤ 5 ∨ 77 = 115 ∨ 77 = 116 by decide)
        refine to_c (pc := 13) rw_152_13 (x := (0 : Int32)) rfl rfl (s_r1 (pc := 14) rw_152_14 (A := 0) rfl (by decide) (s_r1 (pc := 23) rw_225_23 (A := 0) rfl (by decide) ?_))
        have k_620 : (0 : Int32).toInt = 0 := rfl
        have c_621 : M617.2.1 77 7 = (M.2.1 77 7) := (W_n W616 (by decide) (W_n W610 (by decide) rfl))
        have t_622 : (M617.2.1 77 7).toInt = (M.2.1 77 7).toInt := congrArg Int32.toInt c_621
        have c_623 : M617.2.1 77 6 = (M.2.1 77 6) := (W_n W616 (by decide) (W_n W610 (by decide) rfl))
        have t_624 : (M617.2.1 77 6).toInt = (M.2.1 77 6).toInt := congrArg Int32.toInt c_623
        have c_625 : M617.2.1 77 8 = (M.2.1 77 8) := (W_n W616 (by decide) (W_n W610 (by decide) rfl))
        have t_626 : (M617.2.1 77 8).toInt = (M.2.1 77 8).toInt := congrArg Int32.toInt c_625
        exact h (0 : Int32) M617 hG618 F619 (by decide) (by decide) (by omega) (by omega) (by omega) (by omega) (fun z => absurd z (by omega))
end
section
theorem tg_313 {M M1 : mm_M} (F : FR (fun a i : Nat => a = 77 ∧ (i = 4 ∨ i = 5 ∨ 7 ≤ i ∧ i ≤ 10) ∨ a = 77 ∧ (i = 59 ∨ 65 ≤ i ∧ i ≤ 69) ∨ 112 ≤ a ∧ a ≤ 114 ∧ 40 ≤ i ∨ a = 115 ∨ a = 116) M M1) : ∀ a i : Nat, (81 ≤ a ∧ a ≤ 84) → M1.2.1 a i = M.2.1 a i := fun a i z => F_n F (show ¬ (a = 77 ∧ (i = 4 ∨ i = 5 ∨ 7 ≤ i ∧ i ≤ 10) ∨ a = 77 ∧ (i = 59 ∨ 65 ≤ i ∧ i ≤ 69) ∨ 112 ≤ a ∧ a ≤ 114 ∧ 40 ≤ i ∨ a = 115 ∨ a = 116) by omega) rfl
theorem tg_314 {M M1 : mm_M} (F : FR (fun a i : Nat => a = 77 ∧ (i = 4 ∨ i = 5 ∨ 7 ≤ i ∧ i ≤ 10) ∨ a = 77 ∧ (i = 59 ∨ 65 ≤ i ∧ i ≤ 69) ∨ 112 ≤ a ∧ a ≤ 114 ∧ 40 ≤ i ∨ a = 115 ∨ a = 116) M M1) : ∀ a i : Nat, WC_r a i → M1.2.1 a i = M.2.1 a i := fun a i z => F_n F (show ¬ (a = 77 ∧ (i = 4 ∨ i = 5 ∨ 7 ≤ i ∧ i ≤ 10) ∨ a = 77 ∧ (i = 59 ∨ 65 ≤ i ∧ i ≤ 69) ∨ 112 ≤ a ∧ a ≤ 114 ∧ 40 ≤ i ∨ a = 115 ∨ a = 116) by omega) rfl
theorem tg_315 {M M1 : mm_M} (F : FR (fun a i : Nat => a = 77 ∧ (i = 4 ∨ i = 5 ∨ 7 ≤ i ∧ i ≤ 10) ∨ a = 77 ∧ (i = 59 ∨ 65 ≤ i ∧ i ≤ 69) ∨ 112 ≤ a ∧ a ≤ 114 ∧ 40 ≤ i ∨ a = 115 ∨ a = 116) M M1) : ∀ a i : Nat, NJ_r a i → M1.2.1 a i = M.2.1 a i := fun a i z => F_n F (show ¬ (a = 77 ∧ (i = 4 ∨ i = 5 ∨ 7 ≤ i ∧ i ≤ 10) ∨ a = 77 ∧ (i = 59 ∨ 65 ≤ i ∧ i ≤ 69) ∨ 112 ≤ a ∧ a ≤ 114 ∧ 40 ≤ i ∨ a = 115 ∨ a = 116) by omega) rfl
theorem tg_316 {M M1 : mm_M} (F : FR (fun a i : Nat => a = 77 ∧ (i = 4 ∨ i = 5 ∨ 7 ≤ i ∧ i ≤ 10) ∨ a = 77 ∧ (i = 59 ∨ 65 ≤ i ∧ i ≤ 69) ∨ 112 ≤ a ∧ a ≤ 114 ∧ 40 ≤ i ∨ a = 115 ∨ a = 116) M M1) : ∀ a i : Nat, (a = 100 ∨ a = 77 ∧ i = 28) → M1.2.1 a i = M.2.1 a i := fun a i z => F_n F (show ¬ (a = 77 ∧ (i = 4 ∨ i = 5 ∨ 7 ≤ i ∧ i ≤ 10) ∨ a = 77 ∧ (i = 59 ∨ 65 ≤ i ∧ i ≤ 69) ∨ 112 ≤ a ∧ a ≤ 114 ∧ 40 ≤ i ∨ a = 115 ∨ a = 116) by omega) rfl
theorem tg_317 {M M1 : mm_M} (F : FR (fun a i : Nat => a = 77 ∧ (i = 4 ∨ i = 5 ∨ 7 ≤ i ∧ i ≤ 10) ∨ a = 77 ∧ (i = 59 ∨ 65 ≤ i ∧ i ≤ 69) ∨ 112 ≤ a ∧ a ≤ 114 ∧ 40 ≤ i ∨ a = 115 ∨ a = 116) M M1) : ∀ a i : Nat, KQ_r a i → M1.2.1 a i = M.2.1 a i := fun a i z => F_n F (show ¬ (a = 77 ∧ (i = 4 ∨ i = 5 ∨ 7 ≤ i ∧ i ≤ 10) ∨ a = 77 ∧ (i = 59 ∨ 65 ≤ i ∧ i ≤ 69) ∨ 112 ≤ a ∧ a ≤ 114 ∧ 40 ≤ i ∨ a = 115 ∨ a = 116) by omega) rfl
theorem tg_318 {M M1 : mm_M} (F : FR (fun a i : Nat => a = 77 ∧ (i = 59 ∨ i = 65 ∨ i = 66) ∨ 112 ≤ a ∧ a ≤ 114 ∧ 40 ≤ i ∨ a = 116) M M1) : ∀ a i : Nat, (81 ≤ a ∧ a ≤ 84) → M1.2.1 a i = M.2.1 a i := fun a i z => F_n F (show ¬ (a = 77 ∧ (i = 59 ∨ i = 65 ∨ i = 66) ∨ 112 ≤ a ∧ a ≤ 114 ∧ 40 ≤ i ∨ a = 116) by omega) rfl
theorem tg_319 {M M1 : mm_M} (F : FR (fun a i : Nat => a = 77 ∧ (i = 59 ∨ i = 65 ∨ i = 66) ∨ 112 ≤ a ∧ a ≤ 114 ∧ 40 ≤ i ∨ a = 116) M M1) : ∀ a i : Nat, WC_r a i → M1.2.1 a i = M.2.1 a i := fun a i z => F_n F (show ¬ (a = 77 ∧ (i = 59 ∨ i = 65 ∨ i = 66) ∨ 112 ≤ a ∧ a ≤ 114 ∧ 40 ≤ i ∨ a = 116) by omega) rfl
theorem tg_320 {M M1 : mm_M} (F : FR (fun a i : Nat => a = 77 ∧ (i = 59 ∨ i = 65 ∨ i = 66) ∨ 112 ≤ a ∧ a ≤ 114 ∧ 40 ≤ i ∨ a = 116) M M1) : ∀ a i : Nat, NJ_r a i → M1.2.1 a i = M.2.1 a i := fun a i z => F_n F (show ¬ (a = 77 ∧ (i = 59 ∨ i = 65 ∨ i = 66) ∨ 112 ≤ a ∧ a ≤ 114 ∧ 40 ≤ i ∨ a = 116) by omega) rfl
theorem tg_321 {M M1 : mm_M} (F : FR (fun a i : Nat => a = 77 ∧ (i = 59 ∨ i = 65 ∨ i = 66) ∨ 112 ≤ a ∧ a ≤ 114 ∧ 40 ≤ i ∨ a = 116) M M1) : ∀ a i : Nat, (a = 100 ∨ a = 77 ∧ i = 28) → M1.2.1 a i = M.2.1 a i := fun a i z => F_n F (show ¬ (a = 77 ∧ (i = 59 ∨ i = 65 ∨ i = 66) ∨ 112 ≤ a ∧ a ≤ 114 ∧ 40 ≤ i ∨ a = 116) by omega) rfl
theorem tg_322 : ∀ a i : Nat, (a = 77 ∧ (i = 4 ∨ i = 5 ∨ 7 ≤ i ∧ i ≤ 10) ∨ a = 77 ∧ (i = 59 ∨ 65 ≤ i ∧ i ≤ 69) ∨ 112 ≤ a ∧ a ≤ 114 ∧ 40 ≤ i ∨ a = 115 ∨ a = 116) → (a = 77 ∧ (1 ≤ i ∧ i ≤ 2 ∨ 4 ≤ i ∧ i ≤ 10 ∨ 57 ≤ i ∧ i ≤ 59 ∨ 65 ≤ i ∧ i ≤ 69) ∨ 112 ≤ a ∧ a ≤ 116) := fun a i z => by omega
theorem tg_323 : ∀ a i : Nat, (a = 77 ∧ (i = 59 ∨ i = 65 ∨ i = 66) ∨ 112 ≤ a ∧ a ≤ 114 ∧ 40 ≤ i ∨ a = 116) → (a = 77 ∧ (1 ≤ i ∧ i ≤ 2 ∨ 4 ≤ i ∧ i ≤ 10 ∨ 57 ≤ i ∧ i ≤ 59 ∨ 65 ≤ i ∧ i ≤ 69) ∨ 112 ≤ a ∧ a ≤ 116) := fun a i z => by omega
theorem tg_324 : ∀ a i : Nat, (a = 77 ∧ (i = 1 ∨ 4 ≤ i ∧ i ≤ 10)) → (a = 77 ∧ (1 ≤ i ∧ i ≤ 2 ∨ 4 ≤ i ∧ i ≤ 10 ∨ 57 ≤ i ∧ i ≤ 59 ∨ 65 ≤ i ∧ i ≤ 69) ∨ 112 ≤ a ∧ a ≤ 116) := fun a i z => by omega
theorem tg_325 : ∀ a i j : Nat, (81 ≤ a ∧ a ≤ 84) → ¬ (a = 114 ∧ i = j) := fun a i j z => by omega
theorem tg_326 : ∀ a i j : Nat, (81 ≤ a ∧ a ≤ 84) → ¬ (a = 113 ∧ i = j) := fun a i j z => by omega
theorem tg_327 : ∀ a i j : Nat, (81 ≤ a ∧ a ≤ 84) → ¬ (a = 112 ∧ i = j) := fun a i j z => by omega
theorem tg_328 : ∀ a i j : Nat, (a = 100 ∨ a = 77 ∧ i = 28) → ¬ (a = 114 ∧ i = j) := fun a i j z => by omega
theorem tg_329 : ∀ a i j : Nat, (a = 100 ∨ a = 77 ∧ i = 28) → ¬ (a = 113 ∧ i = j) := fun a i j z => by omega
theorem tg_330 : ∀ a i j : Nat, (a = 100 ∨ a = 77 ∧ i = 28) → ¬ (a = 112 ∧ i = j) := fun a i j z => by omega
theorem tg_331 : ∀ a i : Nat, (a = 100 ∨ a = 77 ∧ i = 28) → ¬ (a = 77 ∧ i = 57) := fun a i z => by omega
theorem tg_332 : ∀ a i : Nat, (a = 100 ∨ a = 77 ∧ i = 28) → ¬ (a = 77 ∧ i = 58) := fun a i z => by omega
theorem tg_333 : ∀ a i : Nat, (81 ≤ a ∧ a ≤ 84) → ¬ (a = 77 ∧ i = 67) := fun a i z => by omega
theorem tg_334 : ∀ a i : Nat, (81 ≤ a ∧ a ≤ 84) → ¬ (a = 77 ∧ i = 66) := fun a i z => by omega
theorem tg_335 : ∀ a i : Nat, (81 ≤ a ∧ a ≤ 84) → ¬ (a = 77 ∧ i = 65) := fun a i z => by omega
theorem tg_336 : ∀ a i : Nat, (81 ≤ a ∧ a ≤ 84) → ¬ (a = 77 ∧ i = 59) := fun a i z => by omega
theorem tg_337 : ∀ a i : Nat, (a = 100 ∨ a = 77 ∧ i = 28) → ¬ (a = 77 ∧ i = 68) := fun a i z => by omega
theorem tg_338 : ∀ a i : Nat, (a = 100 ∨ a = 77 ∧ i = 28) → ¬ (a = 77 ∧ i = 67) := fun a i z => by omega
theorem tg_339 : ∀ a i : Nat, (a = 100 ∨ a = 77 ∧ i = 28) → ¬ (a = 77 ∧ i = 66) := fun a i z => by omega
theorem tg_340 : ∀ a i : Nat, (a = 100 ∨ a = 77 ∧ i = 28) → ¬ (a = 77 ∧ i = 65) := fun a i z => by omega
theorem tg_341 : ∀ a i : Nat, (a = 100 ∨ a = 77 ∧ i = 28) → ¬ (a = 77 ∧ i = 69) := fun a i z => by omega
theorem tg_342 : ∀ a i : Nat, (a = 100 ∨ a = 77 ∧ i = 28) → ¬ (a = 77 ∧ i = 59) := fun a i z => by omega
set_option maxRecDepth 4000 in
set_option maxHeartbeats 0 in
theorem T_227_0 {X : mm_X} {d : Nat} {M : mm_M} {Q : Option Value → mm_M → Prop} {n : Int32} (hX : g_X X) (hd : 3 ≤ d) (q1 : (M.2.1 77 7).toInt ≤ (M.2.1 77 6).toInt) (q2 : FA M) (q3 : WC M) (q4 : NJ M) (q5 : PS M) (q6 : KQ M) (h : ∀ (r : Int32) (M1 : mm_M), g_G M1 → FR md_qu M M1 → ((M1.2.1 77 7).toInt ≤ (M1.2.1 77 6).toInt) → FA M1 → WC M1 → NJ M1 → PS M1 → KQ M1 → (n.toInt < 0 ∨ (M.2.1 77 1).toInt < n.toInt → (M1.2.1 77 1).toInt = (M.2.1 77 1).toInt) → (0 ≤ n.toInt ∧ n.toInt ≤ (M.2.1 77 1).toInt → (M1.2.1 77 1).toInt = 0) → Q (some (.int r)) M1) : ∀ nn9 : Nat, (∀ (N : mm_M) (u1 : Value) (x2 : Int32), g_G N → FR md_qu M N → (0 ≤ x2.toInt) → (x2.toInt ≤ 40) → (1 ≤ (N.2.1 77 58).toInt) → (∀ a j : Nat, (112 ≤ a ∧ a ≤ 114) → j < (x2.toInt).toNat → N.2.1 a j = N.2.1 a (40 + j)) → (KN N 40 ((N.2.1 77 58).toInt).toNat) → ((N.2.1 77 7).toInt ≤ (N.2.1 77 6).toInt) → (FA N) → (WC N) → (NJ N) → (PS N) → ((N.2.1 77 1).toInt = 0) → (0 ≤ n.toInt) → (n.toInt ≤ (M.2.1 77 1).toInt) → 40 - x2.toInt < (nn9 : Int) → mm_T X d 226 113 [.ref 77, u1, .int x2] [] N Q) := by
  intro nn9
  induction nn9 with
  | zero =>
    intro N u1 x2 hG F0 g1 g2 g3 g4 g5 g6 g7 g8 g9 g10 g11 g12 g13 hm
    have b_1 := g_b hG (a := 77) (i := 58) (lo := 0) (hi := 40) rfl rfl
    have b_2 := g_b hG (a := 77) (i := 7) (lo := 0) (hi := 500) rfl rfl
    have b_3 := g_b hG (a := 77) (i := 6) (lo := 0) (hi := 500) rfl rfl
    have b_4 := g_b hG (a := 77) (i := 1) (lo := 0) (hi := 500) rfl rfl
    exfalso; omega
  | succ nn9 ih =>
    intro N u1 x2 hG F0 g1 g2 g3 g4 g5 g6 g7 g8 g9 g10 g11 g12 g13 hm
    have b_5 := g_b hG (a := 77) (i := 58) (lo := 0) (hi := 40) rfl rfl
    have b_6 := g_b hG (a := 77) (i := 7) (lo := 0) (hi := 500) rfl rfl
    have b_7 := g_b hG (a := 77) (i := 6) (lo := 0) (hi := 500) rfl rfl
    have b_8 := g_b hG (a := 77) (i := 1) (lo := 0) (hi := 500) rfl rfl
    refine to_in (pc := 113) rw_227_113 rfl (to_an (pc := 114) rw_227_114 rfl (tt_gI (pc := 115) rw_227_115 (g_o hG rfl) (v := (N.2.1 77 58)) rfl (b_cge (pc := 118) rw_227_118 (A := x2.toInt) (B := (N.2.1 77 58).toInt) rfl rfl (fun h9 => ?_) (fun h9 => ?_))))
    · refine to_an (pc := 172) rw_227_172 rfl (tt_gI (pc := 173) rw_227_173 (g_o hG rfl) (v := (N.2.1 77 58)) rfl (to_r0 (pc := 176) rw_227_176 ?_))
      have j_10 : KQ N := ⟨KN_c g5 (fun a j z zl => g4 a j z (by omega)), fun _ => by omega⟩
      exact h (N.2.1 77 58) N hG F0 (by omega) g7 g8 g9 g10 j_10 (by omega) (by omega)
    · refine to_an (pc := 121) rw_227_121 rfl (s_gR (pc := 122) rw_227_122 hG rfl (v := 112) rfl (to_in (pc := 125) rw_227_125 rfl (to_an (pc := 126) rw_227_126 rfl (s_gR (pc := 127) rw_227_127 hG rfl (v := 112) rfl (to_c (pc := 130) rw_227_130 (x := (40 : Int32)) rfl rfl (to_in (pc := 132) rw_227_132 rfl (s_add (pc := 133) rw_227_133 (A := 40) (B := x2.toInt) rfl rfl (by omega) (fun v11 e12 => s_ial (pc := 134) rw_227_134 hG rfl (n := 80) rfl rfl (A := v11.toInt) rfl (by omega) (by omega) (lo := 0) (hi := 4) rfl rfl (fun v13 w_14 _ _ => s_ias (pc := 135) rw_227_135 hG rfl (n := 80) rfl (A := x2.toInt) rfl (by omega) (by omega) (fun M16 W15 => ?_))))))))))
      have hG17 := g_w hG W15 (A := v13.toInt) rfl (lo := 0) (hi := 4) rfl rfl (by omega) (by decide)
      have F18 := FR.w F0 W15 (show 112 = 77 ∧ (1 ≤ (x2.toInt).toNat ∧ (x2.toInt).toNat ≤ 2 ∨ 4 ≤ (x2.toInt).toNat ∧ (x2.toInt).toNat ≤ 10 ∨ 57 ≤ (x2.toInt).toNat ∧ (x2.toInt).toNat ≤ 59 ∨ 65 ≤ (x2.toInt).toNat ∧ (x2.toInt).toNat ≤ 69) ∨ 112 ≤ 112 ∧ 112 ≤ 116 by omega)
      refine to_an (pc := 136) rw_227_136 rfl (s_gR (pc := 137) rw_227_137 hG17 rfl (v := 113) rfl (to_in (pc := 140) rw_227_140 rfl (to_an (pc := 141) rw_227_141 rfl (s_gR (pc := 142) rw_227_142 hG17 rfl (v := 113) rfl (to_c (pc := 145) rw_227_145 (x := (40 : Int32)) rfl rfl (to_in (pc := 147) rw_227_147 rfl (s_add (pc := 148) rw_227_148 (A := 40) (B := x2.toInt) rfl rfl (by omega) (fun v19 e20 => s_ial (pc := 149) rw_227_149 hG17 rfl (n := 80) rfl rfl (A := v19.toInt) rfl (by omega) (by omega) (lo := 0) (hi := 39) rfl rfl (fun v21 w_22 _ _ => s_ias (pc := 150) rw_227_150 hG17 rfl (n := 80) rfl (A := x2.toInt) rfl (by omega) (by omega) (fun M24 W23 => ?_))))))))))
      have hG25 := g_w hG17 W23 (A := v21.toInt) rfl (lo := 0) (hi := 39) rfl rfl (by omega) (by decide)
      have F26 := FR.w F18 W23 (show 113 = 77 ∧ (1 ≤ (x2.toInt).toNat ∧ (x2.toInt).toNat ≤ 2 ∨ 4 ≤ (x2.toInt).toNat ∧ (x2.toInt).toNat ≤ 10 ∨ 57 ≤ (x2.toInt).toNat ∧ (x2.toInt).toNat ≤ 59 ∨ 65 ≤ (x2.toInt).toNat ∧ (x2.toInt).toNat ≤ 69) ∨ 112 ≤ 113 ∧ 113 ≤ 116 by omega)
      refine to_an (pc := 151) rw_227_151 rfl (s_gR (pc := 152) rw_227_152 hG25 rfl (v := 114) rfl (to_in (pc := 155) rw_227_155 rfl (to_an (pc := 156) rw_227_156 rfl (s_gR (pc := 157) rw_227_157 hG25 rfl (v := 114) rfl (to_c (pc := 160) rw_227_160 (x := (40 : Int32)) rfl rfl (to_in (pc := 162) rw_227_162 rfl (s_add (pc := 163) rw_227_163 (A := 40) (B := x2.toInt) rfl rfl (by omega) (fun v27 e28 => s_ial (pc := 164) rw_227_164 hG25 rfl (n := 80) rfl rfl (A := v27.toInt) rfl (by omega) (by omega) (lo := -2147483648) (hi := 2147483647) rfl rfl (fun v29 w_30 _ _ => s_ias (pc := 165) rw_227_165 hG25 rfl (n := 80) rfl (A := x2.toInt) rfl (by omega) (by omega) (fun M32 W31 => ?_))))))))))
      have hG33 := g_wf hG25 W31 rfl rfl (by decide)
      have F34 := FR.w F26 W31 (show 114 = 77 ∧ (1 ≤ (x2.toInt).toNat ∧ (x2.toInt).toNat ≤ 2 ∨ 4 ≤ (x2.toInt).toNat ∧ (x2.toInt).toNat ≤ 10 ∨ 57 ≤ (x2.toInt).toNat ∧ (x2.toInt).toNat ≤ 59 ∨ 65 ≤ (x2.toInt).toNat ∧ (x2.toInt).toNat ≤ 69) ∨ 112 ≤ 114 ∧ 114 ≤ 116 by omega)
      refine s_inc (pc := 166) rw_227_166 (ls2 := fun v => [.ref 77, u1, .int v]) rfl rfl (fun _ => rfl) (A := x2.toInt) (B := 1) rfl rfl (by omega) (fun v35 e36 => to_go (pc := 169) rw_227_169 ?_)
      have c_37 : M32.2.1 77 58 = (N.2.1 77 58) := (W_n W31 (fun z => absurd z.1 (by decide)) (W_n W23 (fun z => absurd z.1 (by decide)) (W_n W15 (fun z => absurd z.1 (by decide)) rfl)))
      have t_38 : (M32.2.1 77 58).toInt = (N.2.1 77 58).toInt := congrArg Int32.toInt c_37
      have j_39 : ∀ j : Nat, j < (v35.toInt).toNat → M32.2.1 112 j = M32.2.1 112 (40 + j) := by
        rw [show (v35.toInt).toNat = (x2.toInt).toNat + 1 by omega]
        exact CP_s (M1 := M32) (fun j z => g4 112 j (by omega) z) (by omega) (fun i z => (W_n W31 (by omega) (W_n W23 (by omega) (W_n W15 (by omega) rfl)))) (W_n W31 (by omega) (W_n W23 (by omega) (W_e W15))) (by rw [show 40 + (x2.toInt).toNat = (v11.toInt).toNat by omega]; exact w_14)
      have j_40 : ∀ j : Nat, j < (v35.toInt).toNat → M32.2.1 113 j = M32.2.1 113 (40 + j) := by
        rw [show (v35.toInt).toNat = (x2.toInt).toNat + 1 by omega]
        exact CP_s (M1 := M32) (fun j z => g4 113 j (by omega) z) (by omega) (fun i z => (W_n W31 (by omega) (W_n W23 (by omega) (W_n W15 (by omega) rfl)))) (W_n W31 (by omega) (W_e W23)) (by rw [show 40 + (x2.toInt).toNat = (v19.toInt).toNat by omega]; exact (((W_n W15 (by omega) rfl)).symm.trans w_22))
      have j_41 : ∀ j : Nat, j < (v35.toInt).toNat → M32.2.1 114 j = M32.2.1 114 (40 + j) := by
        rw [show (v35.toInt).toNat = (x2.toInt).toNat + 1 by omega]
        exact CP_s (M1 := M32) (fun j z => g4 114 j (by omega) z) (by omega) (fun i z => (W_n W31 (by omega) (W_n W23 (by omega) (W_n W15 (by omega) rfl)))) (W_e W31) (by rw [show 40 + (x2.toInt).toNat = (v27.toInt).toNat by omega]; exact (((W_n W23 (by omega) (W_n W15 (by omega) rfl))).symm.trans w_30))
      have c_42 : M32.2.1 77 7 = (N.2.1 77 7) := (W_n W31 (fun z => absurd z.1 (by decide)) (W_n W23 (fun z => absurd z.1 (by decide)) (W_n W15 (fun z => absurd z.1 (by decide)) rfl)))
      have t_43 : (M32.2.1 77 7).toInt = (N.2.1 77 7).toInt := congrArg Int32.toInt c_42
      have c_44 : M32.2.1 77 6 = (N.2.1 77 6) := (W_n W31 (fun z => absurd z.1 (by decide)) (W_n W23 (fun z => absurd z.1 (by decide)) (W_n W15 (fun z => absurd z.1 (by decide)) rfl)))
      have t_45 : (M32.2.1 77 6).toInt = (N.2.1 77 6).toInt := congrArg Int32.toInt c_44
      have j_46 := (FA_f (fun a i z => W_n W31 (tg_325 a i _ z) rfl) (FA_f (fun a i z => W_n W23 (tg_326 a i _ z) rfl) (FA_f (fun a i z => W_n W15 (tg_327 a i _ z) rfl) g7)))
      have j_47 := (WC_f (fun a i z => W_n W31 (by /-r114-/ omega) rfl) (WC_f (fun a i z => W_n W23 (by /-r113-/ omega) rfl) (WC_f (fun a i z => W_n W15 (by /-r112-/ omega) rfl) g8)))
      have j_48 := (NJ_f (fun a i z => W_n W31 (by /-r114-/ omega) rfl) (NJ_f (fun a i z => W_n W23 (by /-r113-/ omega) rfl) (NJ_f (fun a i z => W_n W15 (by /-r112-/ omega) rfl) g9)))
      have j_49 := (PS_f (fun a i z => W_n W31 (tg_328 a i _ z) rfl) (PS_f (fun a i z => W_n W23 (tg_329 a i _ z) rfl) (PS_f (fun a i z => W_n W15 (tg_330 a i _ z) rfl) g10)))
      have c_50 : M32.2.1 77 1 = (N.2.1 77 1) := (W_n W31 (fun z => absurd z.1 (by decide)) (W_n W23 (fun z => absurd z.1 (by decide)) (W_n W15 (fun z => absurd z.1 (by decide)) rfl)))
      have t_51 : (M32.2.1 77 1).toInt = (N.2.1 77 1).toInt := congrArg Int32.toInt c_50
      exact ih M32 (u1) v35 hG33 F34 (by omega) (by omega) (by omega) (fun a j z zl => by
          rcases (show a = 112 ∨ a = 113 ∨ a = 114 by omega) with e | e | e <;> subst e
          · exact j_39 j zl
          · exact j_40 j zl
          · exact j_41 j zl) (by rw [(W_n W31 (by omega) (W_n W23 (by omega) (W_n W15 (by omega) rfl)))]; exact KN_f (fun a i z => (W_n W31 (by /-r114-/ omega) (W_n W23 (by /-r113-/ omega) (W_n W15 (by /-r112-/ omega) rfl)))) g5) (by omega) j_46 j_47 j_48 j_49 (by omega) (by omega) (by omega) (by omega)
set_option maxRecDepth 4000 in
set_option maxHeartbeats 0 in
theorem T_227_1 {X : mm_X} {d : Nat} {M : mm_M} {Q : Option Value → mm_M → Prop} {n : Int32} (hX : g_X X) (hd : 3 ≤ d) (q1 : (M.2.1 77 7).toInt ≤ (M.2.1 77 6).toInt) (q2 : FA M) (q3 : WC M) (q4 : NJ M) (q5 : PS M) (q6 : KQ M) (h : ∀ (r : Int32) (M1 : mm_M), g_G M1 → FR md_qu M M1 → ((M1.2.1 77 7).toInt ≤ (M1.2.1 77 6).toInt) → FA M1 → WC M1 → NJ M1 → PS M1 → KQ M1 → (n.toInt < 0 ∨ (M.2.1 77 1).toInt < n.toInt → (M1.2.1 77 1).toInt = (M.2.1 77 1).toInt) → (0 ≤ n.toInt ∧ n.toInt ≤ (M.2.1 77 1).toInt → (M1.2.1 77 1).toInt = 0) → Q (some (.int r)) M1) : ∀ nn9 : Nat, (∀ (N : mm_M) (u1 : Value) (u2 : Value), g_G N → FR md_qu M N → ((N.2.1 77 7).toInt ≤ (N.2.1 77 6).toInt) → (FA N) → (WC N) → (NJ N) → (PS N) → (KQ N) → (QK N) → ((N.2.1 77 1).toInt = 0) → (0 ≤ n.toInt) → (n.toInt ≤ (M.2.1 77 1).toInt) → 6 * (500 - (N.2.1 77 7).toInt) + (N.2.1 77 8).toInt < (nn9 : Int) → mm_T X d 226 46 [.ref 77, u1, u2] [] N Q) := by
  intro nn9
  induction nn9 with
  | zero =>
    intro N u1 u2 hG F0 g1 g2 g3 g4 g5 g6 g7 g8 g9 g10 hm
    have b_52 := g_b hG (a := 77) (i := 7) (lo := 0) (hi := 500) rfl rfl
    have b_53 := g_b hG (a := 77) (i := 8) (lo := 0) (hi := 5) rfl rfl
    have b_54 := g_b hG (a := 77) (i := 6) (lo := 0) (hi := 500) rfl rfl
    have b_55 := g_b hG (a := 77) (i := 1) (lo := 0) (hi := 500) rfl rfl
    exfalso; omega
  | succ nn9 ih =>
    intro N u1 u2 hG F0 g1 g2 g3 g4 g5 g6 g7 g8 g9 g10 hm
    have b_56 := g_b hG (a := 77) (i := 7) (lo := 0) (hi := 500) rfl rfl
    have b_57 := g_b hG (a := 77) (i := 8) (lo := 0) (hi := 5) rfl rfl
    have b_58 := g_b hG (a := 77) (i := 6) (lo := 0) (hi := 500) rfl rfl
    have b_59 := g_b hG (a := 77) (i := 1) (lo := 0) (hi := 500) rfl rfl
    refine to_an (pc := 46) rw_227_46 rfl (tt_gI (pc := 47) rw_227_47 (g_o hG rfl) (v := (N.2.1 77 8)) rfl (b_ine (pc := 50) rw_227_50 (A := (N.2.1 77 8).toInt) rfl (fun h60 => ?_) (fun h60 => ?_)))
    · refine to_an (pc := 67) rw_227_67 rfl ?_
      have b_61 := g_b hG (a := 77) (i := 68) (lo := 0) (hi := 1) rfl rfl
      refine tt_gI (pc := 68) rw_227_68 (g_o hG rfl) (v := (N.2.1 77 68)) rfl (b_ine (pc := 71) rw_227_71 (A := (N.2.1 77 68).toInt) rfl (fun h62 => ?_) (fun h62 => ?_))
      · refine to_an (pc := 84) rw_227_84 rfl (s_v (pc := 85) rw_227_85 (dp0 hd (by decide)) (ls0 := [.ref 77, .null]) rfl (Nat.le_of_ble_eq_true rfl) (Nat.le_of_ble_eq_true rfl) rfl (to_rc rfl rfl rfl (g_o hG rfl)) rfl (C_226 hX (dp1 hd (by decide)) hG (by omega) g7 (by omega)  (fun r63 M73 hG65 F64 p_66 p_67 p_68 p_69 p_70 p_71 p_72 => ?_)))
        have F74 := FR.c F0 F64 tg_322
        have b_75 := g_b hG65 (a := 77) (i := 7) (lo := 0) (hi := 500) rfl rfl
        have c_76 : M73.2.1 77 6 = (N.2.1 77 6) := (F_n F64 (show ¬ (77 = 77 ∧ (6 = 4 ∨ 6 = 5 ∨ 7 ≤ 6 ∧ 6 ≤ 10) ∨ 77 = 77 ∧ (6 = 59 ∨ 65 ≤ 6 ∧ 6 ≤ 69) ∨ 112 ≤ 77 ∧ 77 ≤ 114 ∧ 40 ≤ 6 ∨ 77 = 115 ∨ 77 = 116) by decide) rfl)
        have t_77 : (M73.2.1 77 6).toInt = (N.2.1 77 6).toInt := congrArg Int32.toInt c_76
        have b_78 := g_b hG65 (a := 77) (i := 8) (lo := 0) (hi := 5) rfl rfl
        refine b_ine (pc := 88) rw_227_88 (A := r63.toInt) rfl (fun h79 => ?_) (fun h79 => ?_)
        · have j_80 := (FA_f (tg_313 F64) g2)
          have j_81 := (WC_f (tg_314 F64) g3)
          have j_82 := (NJ_f (tg_315 F64) g4)
          have j_83 := (PS_f (tg_316 F64) g5)
          have j_84 := (KQ_f (tg_317 F64) g6)
          have c_85 : M73.2.1 77 1 = (N.2.1 77 1) := (F_n F64 (show ¬ (77 = 77 ∧ (1 = 4 ∨ 1 = 5 ∨ 7 ≤ 1 ∧ 1 ≤ 10) ∨ 77 = 77 ∧ (1 = 59 ∨ 65 ≤ 1 ∧ 1 ≤ 69) ∨ 112 ≤ 77 ∧ 77 ≤ 114 ∧ 40 ≤ 1 ∨ 77 = 115 ∨ 77 = 116) by decide) rfl)
          have t_86 : (M73.2.1 77 1).toInt = (N.2.1 77 1).toInt := congrArg Int32.toInt c_85
          exact ih M73 (u1) (u2) hG65 F74 (by omega) j_80 j_81 j_82 j_83 j_84 (p_72 (by omega)) (by omega) (by omega) (by omega) (by omega)
        · refine to_c (pc := 91) rw_227_91 (x := (-1 : Int32)) rfl rfl (to_r0 (pc := 92) rw_227_92 ?_)
          have k_87 : (-1 : Int32).toInt = -1 := rfl
          have j_88 := (FA_f (tg_313 F64) g2)
          have j_89 := (WC_f (tg_314 F64) g3)
          have j_90 := (NJ_f (tg_315 F64) g4)
          have j_91 := (PS_f (tg_316 F64) g5)
          have j_92 := (KQ_f (tg_317 F64) g6)
          have c_93 : M73.2.1 77 1 = (N.2.1 77 1) := (F_n F64 (show ¬ (77 = 77 ∧ (1 = 4 ∨ 1 = 5 ∨ 7 ≤ 1 ∧ 1 ≤ 10) ∨ 77 = 77 ∧ (1 = 59 ∨ 65 ≤ 1 ∧ 1 ≤ 69) ∨ 112 ≤ 77 ∧ 77 ≤ 114 ∧ 40 ≤ 1 ∨ 77 = 115 ∨ 77 = 116) by decide) rfl)
          have t_94 : (M73.2.1 77 1).toInt = (N.2.1 77 1).toInt := congrArg Int32.toInt c_93
          exact h (-1 : Int32) M73 hG65 F74 (by omega) j_88 j_89 j_90 j_91 j_92 (by omega) (by omega)
      · refine to_an (pc := 74) rw_227_74 rfl (s_v (pc := 75) rw_227_75 (dp0 hd (by decide)) (ls0 := [.ref 77, .null, .null, .null, .null, .null]) rfl (Nat.le_of_ble_eq_true rfl) (Nat.le_of_ble_eq_true rfl) rfl (to_rc rfl rfl rfl (g_o hG rfl)) rfl (C_225 hX (dp1 hd (by decide)) hG (by omega) g7 g2 (by omega)  (fun r95 M105 hG97 F96 p_98 p_99 p_100 p_101 p_102 p_103 p_104 => ?_)))
        have F106 := FR.c F0 F96 tg_322
        have b_107 := g_b hG97 (a := 77) (i := 7) (lo := 0) (hi := 500) rfl rfl
        have c_108 : M105.2.1 77 6 = (N.2.1 77 6) := (F_n F96 (show ¬ (77 = 77 ∧ (6 = 4 ∨ 6 = 5 ∨ 7 ≤ 6 ∧ 6 ≤ 10) ∨ 77 = 77 ∧ (6 = 59 ∨ 65 ≤ 6 ∧ 6 ≤ 69) ∨ 112 ≤ 77 ∧ 77 ≤ 114 ∧ 40 ≤ 6 ∨ 77 = 115 ∨ 77 = 116) by decide) rfl)
        have t_109 : (M105.2.1 77 6).toInt = (N.2.1 77 6).toInt := congrArg Int32.toInt c_108
        have b_110 := g_b hG97 (a := 77) (i := 8) (lo := 0) (hi := 5) rfl rfl
        refine b_ieq (pc := 78) rw_227_78 (A := r95.toInt) rfl (fun h111 => ?_) (fun h111 => ?_)
        · refine to_c (pc := 91) rw_227_91 (x := (-1 : Int32)) rfl rfl (to_r0 (pc := 92) rw_227_92 ?_)
          have k_112 : (-1 : Int32).toInt = -1 := rfl
          have j_113 := (FA_f (tg_313 F96) g2)
          have j_114 := (WC_f (tg_314 F96) g3)
          have j_115 := (NJ_f (tg_315 F96) g4)
          have j_116 := (PS_f (tg_316 F96) g5)
          have j_117 := (KQ_f (tg_317 F96) g6)
          have c_118 : M105.2.1 77 1 = (N.2.1 77 1) := (F_n F96 (show ¬ (77 = 77 ∧ (1 = 4 ∨ 1 = 5 ∨ 7 ≤ 1 ∧ 1 ≤ 10) ∨ 77 = 77 ∧ (1 = 59 ∨ 65 ≤ 1 ∧ 1 ≤ 69) ∨ 112 ≤ 77 ∧ 77 ≤ 114 ∧ 40 ≤ 1 ∨ 77 = 115 ∨ 77 = 116) by decide) rfl)
          have t_119 : (M105.2.1 77 1).toInt = (N.2.1 77 1).toInt := congrArg Int32.toInt c_118
          exact h (-1 : Int32) M105 hG97 F106 (by omega) j_113 j_114 j_115 j_116 j_117 (by omega) (by omega)
        · refine to_go (pc := 81) rw_227_81 ?_
          have j_120 := (FA_f (tg_313 F96) g2)
          have j_121 := (WC_f (tg_314 F96) g3)
          have j_122 := (NJ_f (tg_315 F96) g4)
          have j_123 := (PS_f (tg_316 F96) g5)
          have j_124 := (KQ_f (tg_317 F96) g6)
          have c_125 : M105.2.1 77 1 = (N.2.1 77 1) := (F_n F96 (show ¬ (77 = 77 ∧ (1 = 4 ∨ 1 = 5 ∨ 7 ≤ 1 ∧ 1 ≤ 10) ∨ 77 = 77 ∧ (1 = 59 ∨ 65 ≤ 1 ∧ 1 ≤ 69) ∨ 112 ≤ 77 ∧ 77 ≤ 114 ∧ 40 ≤ 1 ∨ 77 = 115 ∨ 77 = 116) by decide) rfl)
          have t_126 : (M105.2.1 77 1).toInt = (N.2.1 77 1).toInt := congrArg Int32.toInt c_125
          exact ih M105 (u1) (u2) hG97 F106 (by omega) j_120 j_121 j_122 j_123 j_124 (p_104 (by omega)) (by omega) (by omega) (by omega) (by omega)
    · refine to_an (pc := 53) rw_227_53 rfl ?_
      have b_127 := g_b hG (a := 77) (i := 68) (lo := 0) (hi := 1) rfl rfl
      refine tt_gI (pc := 54) rw_227_54 (g_o hG rfl) (v := (N.2.1 77 68)) rfl (b_ieq (pc := 57) rw_227_57 (A := (N.2.1 77 68).toInt) rfl (fun h128 => ?_) (fun h128 => ?_))
      · refine to_an (pc := 67) rw_227_67 rfl (tt_gI (pc := 68) rw_227_68 (g_o hG rfl) (v := (N.2.1 77 68)) rfl (b_ine_f (pc := 71) rw_227_71 (A := (N.2.1 77 68).toInt) rfl (by omega) (to_an (pc := 74) rw_227_74 rfl (s_v (pc := 75) rw_227_75 (dp0 hd (by decide)) (ls0 := [.ref 77, .null, .null, .null, .null, .null]) rfl (Nat.le_of_ble_eq_true rfl) (Nat.le_of_ble_eq_true rfl) rfl (to_rc rfl rfl rfl (g_o hG rfl)) rfl (C_225 hX (dp1 hd (by decide)) hG (by omega) g7 g2 (by omega)  (fun r129 M139 hG131 F130 p_132 p_133 p_134 p_135 p_136 p_137 p_138 => ?_))))))
        have F140 := FR.c F0 F130 tg_322
        have b_141 := g_b hG131 (a := 77) (i := 7) (lo := 0) (hi := 500) rfl rfl
        have c_142 : M139.2.1 77 6 = (N.2.1 77 6) := (F_n F130 (show ¬ (77 = 77 ∧ (6 = 4 ∨ 6 = 5 ∨ 7 ≤ 6 ∧ 6 ≤ 10) ∨ 77 = 77 ∧ (6 = 59 ∨ 65 ≤ 6 ∧ 6 ≤ 69) ∨ 112 ≤ 77 ∧ 77 ≤ 114 ∧ 40 ≤ 6 ∨ 77 = 115 ∨ 77 = 116) by decide) rfl)
        have t_143 : (M139.2.1 77 6).toInt = (N.2.1 77 6).toInt := congrArg Int32.toInt c_142
        have b_144 := g_b hG131 (a := 77) (i := 8) (lo := 0) (hi := 5) rfl rfl
        refine b_ieq (pc := 78) rw_227_78 (A := r129.toInt) rfl (fun h145 => ?_) (fun h145 => ?_)
        · refine to_c (pc := 91) rw_227_91 (x := (-1 : Int32)) rfl rfl (to_r0 (pc := 92) rw_227_92 ?_)
          have k_146 : (-1 : Int32).toInt = -1 := rfl
          have j_147 := (FA_f (tg_313 F130) g2)
          have j_148 := (WC_f (tg_314 F130) g3)
          have j_149 := (NJ_f (tg_315 F130) g4)
          have j_150 := (PS_f (tg_316 F130) g5)
          have j_151 := (KQ_f (tg_317 F130) g6)
          have c_152 : M139.2.1 77 1 = (N.2.1 77 1) := (F_n F130 (show ¬ (77 = 77 ∧ (1 = 4 ∨ 1 = 5 ∨ 7 ≤ 1 ∧ 1 ≤ 10) ∨ 77 = 77 ∧ (1 = 59 ∨ 65 ≤ 1 ∧ 1 ≤ 69) ∨ 112 ≤ 77 ∧ 77 ≤ 114 ∧ 40 ≤ 1 ∨ 77 = 115 ∨ 77 = 116) by decide) rfl)
          have t_153 : (M139.2.1 77 1).toInt = (N.2.1 77 1).toInt := congrArg Int32.toInt c_152
          exact h (-1 : Int32) M139 hG131 F140 (by omega) j_147 j_148 j_149 j_150 j_151 (by omega) (by omega)
        · refine to_go (pc := 81) rw_227_81 ?_
          have j_154 := (FA_f (tg_313 F130) g2)
          have j_155 := (WC_f (tg_314 F130) g3)
          have j_156 := (NJ_f (tg_315 F130) g4)
          have j_157 := (PS_f (tg_316 F130) g5)
          have j_158 := (KQ_f (tg_317 F130) g6)
          have c_159 : M139.2.1 77 1 = (N.2.1 77 1) := (F_n F130 (show ¬ (77 = 77 ∧ (1 = 4 ∨ 1 = 5 ∨ 7 ≤ 1 ∧ 1 ≤ 10) ∨ 77 = 77 ∧ (1 = 59 ∨ 65 ≤ 1 ∧ 1 ≤ 69) ∨ 112 ≤ 77 ∧ 77 ≤ 114 ∧ 40 ≤ 1 ∨ 77 = 115 ∨ 77 = 116) by decide) rfl)
          have t_160 : (M139.2.1 77 1).toInt = (N.2.1 77 1).toInt := congrArg Int32.toInt c_159
          exact ih M139 (u1) (u2) hG131 F140 (by omega) j_154 j_155 j_156 j_157 j_158 (p_138 (by omega)) (by omega) (by omega) (by omega) (by omega)
      · refine to_an (pc := 60) rw_227_60 rfl ?_
        have b_161 := g_b hG (a := 77) (i := 67) (lo := 0) (hi := 8) rfl rfl
        refine tt_gI (pc := 61) rw_227_61 (g_o hG rfl) (v := (N.2.1 77 67)) rfl (b_ile (pc := 64) rw_227_64 (A := (N.2.1 77 67).toInt) rfl (fun h162 => ?_) (fun h162 => ?_))
        · refine to_an (pc := 93) rw_227_93 rfl (to_c (pc := 94) rw_227_94 (x := (1 : Int32)) rfl rfl (s_v (pc := 95) rw_227_95 (dp0 hd (by decide)) (ls0 := [.ref 77, .int (1 : Int32), .null, .null, .null]) rfl (Nat.le_of_ble_eq_true rfl) (Nat.le_of_ble_eq_true rfl) rfl (to_rc rfl rfl rfl (g_o hG rfl)) rfl ?_))
          have k_163 : (1 : Int32).toInt = 1 := rfl
          refine C_223 hX (dp1 hd (by decide)) hG (by omega) (by omega) (by omega) g7 (l := (1 : Int32)) (fun M169 hG165 F164 p_166 p_167 p_168 => ?_)
          have F170 := FR.c F0 F164 tg_323
          have s_171 := QK_e p_166
          have s_172 := Wx_b M169 ((M169.2.1 77 65).toInt).toNat
          have b_173 := g_b hG165 (a := 77) (i := 59) (lo := 0) (hi := 40) rfl rfl
          have b_174 := g_b hG165 (a := 77) (i := 65) (lo := 0) (hi := 48) rfl rfl
          have b_175 := g_b hG165 (a := 77) (i := 66) (lo := 0) (hi := 40) rfl rfl
          have c_176 : M169.2.1 77 67 = (N.2.1 77 67) := (F_n F164 (show ¬ (77 = 77 ∧ (67 = 59 ∨ 67 = 65 ∨ 67 = 66) ∨ 112 ≤ 77 ∧ 77 ≤ 114 ∧ 40 ≤ 67 ∨ 77 = 116) by decide) rfl)
          have t_177 : (M169.2.1 77 67).toInt = (N.2.1 77 67).toInt := congrArg Int32.toInt c_176
          have c_178 : M169.2.1 77 68 = (N.2.1 77 68) := (F_n F164 (show ¬ (77 = 77 ∧ (68 = 59 ∨ 68 = 65 ∨ 68 = 66) ∨ 112 ≤ 77 ∧ 77 ≤ 114 ∧ 40 ≤ 68 ∨ 77 = 116) by decide) rfl)
          have t_179 : (M169.2.1 77 68).toInt = (N.2.1 77 68).toInt := congrArg Int32.toInt c_178
          have c_180 : M169.2.1 77 69 = (N.2.1 77 69) := (F_n F164 (show ¬ (77 = 77 ∧ (69 = 59 ∨ 69 = 65 ∨ 69 = 66) ∨ 112 ≤ 77 ∧ 77 ≤ 114 ∧ 40 ≤ 69 ∨ 77 = 116) by decide) rfl)
          have b_181 := g_b hG (a := 77) (i := 69) (lo := 0) (hi := 40) rfl rfl
          have t_182 : (M169.2.1 77 69).toInt = (N.2.1 77 69).toInt := congrArg Int32.toInt c_180
          refine to_an (pc := 98) rw_227_98 rfl (to_an (pc := 99) rw_227_99 rfl (tt_gI (pc := 100) rw_227_100 (g_o hG165 rfl) (v := (M169.2.1 77 59)) rfl (s_pI (pc := 103) rw_227_103 hG165 rfl (fun M184 W183 => ?_))))
          have hG185 := g_w hG165 W183 (A := (M169.2.1 77 59).toInt) rfl (lo := 0) (hi := 40) rfl rfl (by omega) (by decide)
          have F186 := FR.w F170 W183 (show 77 = 77 ∧ (1 ≤ 58 ∧ 58 ≤ 2 ∨ 4 ≤ 58 ∧ 58 ≤ 10 ∨ 57 ≤ 58 ∧ 58 ≤ 59 ∨ 65 ≤ 58 ∧ 58 ≤ 69) ∨ 112 ≤ 77 ∧ 77 ≤ 116 by decide)
          refine to_an (pc := 106) rw_227_106 rfl (to_c (pc := 107) rw_227_107 (x := (1 : Int32)) rfl rfl (s_pZ (pc := 108) rw_227_108 hG185 rfl (A := 1) rfl (by omega) (fun M188 W187 => ?_)))
          have hG189 := g_w hG185 W187 (A := 1) rfl (lo := 0) (hi := 1) rfl rfl (by omega) (by decide)
          have F190 := FR.w F186 W187 (show 77 = 77 ∧ (1 ≤ 57 ∧ 57 ≤ 2 ∨ 4 ≤ 57 ∧ 57 ≤ 10 ∨ 57 ≤ 57 ∧ 57 ≤ 59 ∨ 65 ≤ 57 ∧ 57 ≤ 69) ∨ 112 ≤ 77 ∧ 77 ≤ 116 by decide)
          refine to_c (pc := 111) rw_227_111 (x := (0 : Int32)) rfl rfl (to_isn (pc := 112) rw_227_112 (ls2 := [.ref 77, u1, .int (0 : Int32)]) rfl rfl ?_)
          have k_191 : (0 : Int32).toInt = 0 := rfl
          have c_192 : M188.2.1 77 58 = (M169.2.1 77 59) := (W_n W187 (by decide) (W_e W183))
          have t_193 : (M188.2.1 77 58).toInt = (M169.2.1 77 59).toInt := congrArg Int32.toInt c_192
          have c_194 : M188.2.1 77 7 = (N.2.1 77 7) := (W_n W187 (by decide) (W_n W183 (by decide) (F_n F164 (show ¬ (77 = 77 ∧ (7 = 59 ∨ 7 = 65 ∨ 7 = 66) ∨ 112 ≤ 77 ∧ 77 ≤ 114 ∧ 40 ≤ 7 ∨ 77 = 116) by decide) rfl)))
          have t_195 : (M188.2.1 77 7).toInt = (N.2.1 77 7).toInt := congrArg Int32.toInt c_194
          have c_196 : M188.2.1 77 6 = (N.2.1 77 6) := (W_n W187 (by decide) (W_n W183 (by decide) (F_n F164 (show ¬ (77 = 77 ∧ (6 = 59 ∨ 6 = 65 ∨ 6 = 66) ∨ 112 ≤ 77 ∧ 77 ≤ 114 ∧ 40 ≤ 6 ∨ 77 = 116) by decide) rfl)))
          have t_197 : (M188.2.1 77 6).toInt = (N.2.1 77 6).toInt := congrArg Int32.toInt c_196
          have j_198 := (FA_f (fun a i z => W_n W187 (tg_250 a i z) rfl) (FA_f (fun a i z => W_n W183 (tg_251 a i z) rfl) (FA_f (tg_318 F164) g2)))
          have j_199 := (WC_f (fun a i z => W_n W187 (by /-r77,57-/ omega) rfl) (WC_f (fun a i z => W_n W183 (by /-r77,58-/ omega) rfl) (WC_f (tg_319 F164) g3)))
          have j_200 := (NJ_f (fun a i z => W_n W187 (by /-r77,57-/ omega) rfl) (NJ_f (fun a i z => W_n W183 (by /-r77,58-/ omega) rfl) (NJ_f (tg_320 F164) g4)))
          have j_201 := (PS_f (fun a i z => W_n W187 (tg_331 a i z) rfl) (PS_f (fun a i z => W_n W183 (tg_332 a i z) rfl) (PS_f (tg_321 F164) g5)))
          have c_202 : M188.2.1 77 1 = (N.2.1 77 1) := (W_n W187 (by decide) (W_n W183 (by decide) (F_n F164 (show ¬ (77 = 77 ∧ (1 = 59 ∨ 1 = 65 ∨ 1 = 66) ∨ 112 ≤ 77 ∧ 77 ≤ 114 ∧ 40 ≤ 1 ∨ 77 = 116) by decide) rfl)))
          have t_203 : (M188.2.1 77 1).toInt = (N.2.1 77 1).toInt := congrArg Int32.toInt c_202
          exact (T_227_0 (n := n) hX hd q1 q2 q3 q4 q5 q6 h ((40 - (0 : Int32).toInt).toNat + 1)) M188 (u1) (0 : Int32) hG189 F190 (by omega) (by omega) (by omega) (fun a j _ z => absurd z (by omega)) (by rw [c_192]; exact KN_f (fun a i z => (W_n W187 (by /-r77,57-/ omega) (W_n W183 (by /-r77,58-/ omega) rfl))) p_166.2.2) (by omega) j_198 j_199 j_200 j_201 (by omega) (by omega) (by omega) (by omega)
        · refine to_an (pc := 67) rw_227_67 rfl (tt_gI (pc := 68) rw_227_68 (g_o hG rfl) (v := (N.2.1 77 68)) rfl (b_ine_t (pc := 71) rw_227_71 (A := (N.2.1 77 68).toInt) rfl (by omega) (to_an (pc := 84) rw_227_84 rfl (s_v (pc := 85) rw_227_85 (dp0 hd (by decide)) (ls0 := [.ref 77, .null]) rfl (Nat.le_of_ble_eq_true rfl) (Nat.le_of_ble_eq_true rfl) rfl (to_rc rfl rfl rfl (g_o hG rfl)) rfl (C_226 hX (dp1 hd (by decide)) hG (by omega) g7 (by omega)  (fun r204 M214 hG206 F205 p_207 p_208 p_209 p_210 p_211 p_212 p_213 => ?_))))))
          have F215 := FR.c F0 F205 tg_322
          have b_216 := g_b hG206 (a := 77) (i := 7) (lo := 0) (hi := 500) rfl rfl
          have c_217 : M214.2.1 77 6 = (N.2.1 77 6) := (F_n F205 (show ¬ (77 = 77 ∧ (6 = 4 ∨ 6 = 5 ∨ 7 ≤ 6 ∧ 6 ≤ 10) ∨ 77 = 77 ∧ (6 = 59 ∨ 65 ≤ 6 ∧ 6 ≤ 69) ∨ 112 ≤ 77 ∧ 77 ≤ 114 ∧ 40 ≤ 6 ∨ 77 = 115 ∨ 77 = 116) by decide) rfl)
          have t_218 : (M214.2.1 77 6).toInt = (N.2.1 77 6).toInt := congrArg Int32.toInt c_217
          have b_219 := g_b hG206 (a := 77) (i := 8) (lo := 0) (hi := 5) rfl rfl
          refine b_ine (pc := 88) rw_227_88 (A := r204.toInt) rfl (fun h220 => ?_) (fun h220 => ?_)
          · have j_221 := (FA_f (tg_313 F205) g2)
            have j_222 := (WC_f (tg_314 F205) g3)
            have j_223 := (NJ_f (tg_315 F205) g4)
            have j_224 := (PS_f (tg_316 F205) g5)
            have j_225 := (KQ_f (tg_317 F205) g6)
            have c_226 : M214.2.1 77 1 = (N.2.1 77 1) := (F_n F205 (show ¬ (77 = 77 ∧ (1 = 4 ∨ 1 = 5 ∨ 7 ≤ 1 ∧ 1 ≤ 10) ∨ 77 = 77 ∧ (1 = 59 ∨ 65 ≤ 1 ∧ 1 ≤ 69) ∨ 112 ≤ 77 ∧ 77 ≤ 114 ∧ 40 ≤ 1 ∨ 77 = 115 ∨ 77 = 116) by decide) rfl)
            have t_227 : (M214.2.1 77 1).toInt = (N.2.1 77 1).toInt := congrArg Int32.toInt c_226
            exact ih M214 (u1) (u2) hG206 F215 (by omega) j_221 j_222 j_223 j_224 j_225 (p_213 (by omega)) (by omega) (by omega) (by omega) (by omega)
          · refine to_c (pc := 91) rw_227_91 (x := (-1 : Int32)) rfl rfl (to_r0 (pc := 92) rw_227_92 ?_)
            have k_228 : (-1 : Int32).toInt = -1 := rfl
            have j_229 := (FA_f (tg_313 F205) g2)
            have j_230 := (WC_f (tg_314 F205) g3)
            have j_231 := (NJ_f (tg_315 F205) g4)
            have j_232 := (PS_f (tg_316 F205) g5)
            have j_233 := (KQ_f (tg_317 F205) g6)
            have c_234 : M214.2.1 77 1 = (N.2.1 77 1) := (F_n F205 (show ¬ (77 = 77 ∧ (1 = 4 ∨ 1 = 5 ∨ 7 ≤ 1 ∧ 1 ≤ 10) ∨ 77 = 77 ∧ (1 = 59 ∨ 65 ≤ 1 ∧ 1 ≤ 69) ∨ 112 ≤ 77 ∧ 77 ≤ 114 ∧ 40 ≤ 1 ∨ 77 = 115 ∨ 77 = 116) by decide) rfl)
            have t_235 : (M214.2.1 77 1).toInt = (N.2.1 77 1).toInt := congrArg Int32.toInt c_234
            exact h (-1 : Int32) M214 hG206 F215 (by omega) j_229 j_230 j_231 j_232 j_233 (by omega) (by omega)
set_option maxRecDepth 4000 in
set_option maxHeartbeats 0 in
theorem C_227 {X : mm_X} {d : Nat} {M : mm_M} {Q : Option Value → mm_M → Prop} {n : Int32} (hX : g_X X) (hd : 3 ≤ d) (hG : g_G M) (q1 : (M.2.1 77 7).toInt ≤ (M.2.1 77 6).toInt) (q2 : FA M) (q3 : WC M) (q4 : NJ M) (q5 : PS M) (q6 : KQ M) (h : ∀ (r : Int32) (M1 : mm_M), g_G M1 → FR md_qu M M1 → ((M1.2.1 77 7).toInt ≤ (M1.2.1 77 6).toInt) → FA M1 → WC M1 → NJ M1 → PS M1 → KQ M1 → (n.toInt < 0 ∨ (M.2.1 77 1).toInt < n.toInt → (M1.2.1 77 1).toInt = (M.2.1 77 1).toInt) → (0 ≤ n.toInt ∧ n.toInt ≤ (M.2.1 77 1).toInt → (M1.2.1 77 1).toInt = 0) → Q (some (.int r)) M1) : mm_T X d 226 0 [.ref 77, .int n, .null] [] M Q := by
  have F0 : FR md_qu M M := FR.rf
  have b_236 := g_b hG (a := 77) (i := 7) (lo := 0) (hi := 500) rfl rfl
  have b_237 := g_b hG (a := 77) (i := 6) (lo := 0) (hi := 500) rfl rfl
  refine to_an (pc := 0) rw_227_0 rfl (to_c (pc := 1) rw_227_1 (x := (0 : Int32)) rfl rfl (s_pI (pc := 2) rw_227_2 hG rfl (fun M239 W238 => ?_)))
  have hG240 := g_wf hG W238 rfl rfl (by decide)
  have F241 := FR.w F0 W238 (show 77 = 77 ∧ (1 ≤ 2 ∧ 2 ≤ 2 ∨ 4 ≤ 2 ∧ 2 ≤ 10 ∨ 57 ≤ 2 ∧ 2 ≤ 59 ∨ 65 ≤ 2 ∧ 2 ≤ 69) ∨ 112 ≤ 77 ∧ 77 ≤ 116 by decide)
  refine to_an (pc := 5) rw_227_5 rfl (to_in (pc := 6) rw_227_6 rfl (s_v (pc := 7) rw_227_7 (dp0 hd (by decide)) (ls0 := [.ref 77, .int n]) rfl (Nat.le_of_ble_eq_true rfl) (Nat.le_of_ble_eq_true rfl) rfl (to_rc rfl rfl rfl (g_o hG240 rfl)) rfl ?_))
  have c_242 : M239.2.1 77 1 = (M.2.1 77 1) := (W_n W238 (by decide) rfl)
  have b_243 := g_b hG (a := 77) (i := 1) (lo := 0) (hi := 500) rfl rfl
  have t_244 : (M239.2.1 77 1).toInt = (M.2.1 77 1).toInt := congrArg Int32.toInt c_242
  have c_245 : M239.2.1 77 7 = (M.2.1 77 7) := (W_n W238 (by decide) rfl)
  have t_246 : (M239.2.1 77 7).toInt = (M.2.1 77 7).toInt := congrArg Int32.toInt c_245
  have c_247 : M239.2.1 77 6 = (M.2.1 77 6) := (W_n W238 (by decide) rfl)
  have t_248 : (M239.2.1 77 6).toInt = (M.2.1 77 6).toInt := congrArg Int32.toInt c_247
  refine C_163 hX (dp1 hd (by decide)) hG240 (by omega) (n := n) (fun r249 M257 hG251 F250 p_252 p_253 p_254 p_255 p_256 => ?_)
  have F258 := FR.c F241 F250 tg_324
  have b_259 := g_b hG251 (a := 77) (i := 7) (lo := 0) (hi := 500) rfl rfl
  have b_260 := g_b hG251 (a := 77) (i := 6) (lo := 0) (hi := 500) rfl rfl
  have b_261 := g_b hG251 (a := 77) (i := 1) (lo := 0) (hi := 500) rfl rfl
  refine b_ine (pc := 10) rw_227_10 (A := r249.toInt) rfl (fun h262 => ?_) (fun h262 => ?_)
  · refine to_an (pc := 16) rw_227_16 rfl (to_c (pc := 17) rw_227_17 (x := (0 : Int32)) rfl rfl (s_pI (pc := 18) rw_227_18 hG251 rfl (fun M264 W263 => ?_)))
    have hG265 := g_w hG251 W263 (A := 0) rfl (lo := 0) (hi := 40) rfl rfl (by omega) (by decide)
    have F266 := FR.w F258 W263 (show 77 = 77 ∧ (1 ≤ 59 ∧ 59 ≤ 2 ∨ 4 ≤ 59 ∧ 59 ≤ 10 ∨ 57 ≤ 59 ∧ 59 ≤ 59 ∨ 65 ≤ 59 ∧ 59 ≤ 69) ∨ 112 ≤ 77 ∧ 77 ≤ 116 by decide)
    refine to_an (pc := 21) rw_227_21 rfl (to_c (pc := 22) rw_227_22 (x := (0 : Int32)) rfl rfl (s_pI (pc := 23) rw_227_23 hG265 rfl (fun M268 W267 => ?_)))
    have hG269 := g_w hG265 W267 (A := 0) rfl (lo := 0) (hi := 40) rfl rfl (by omega) (by decide)
    have F270 := FR.w F266 W267 (show 77 = 77 ∧ (1 ≤ 69 ∧ 69 ≤ 2 ∨ 4 ≤ 69 ∧ 69 ≤ 10 ∨ 57 ≤ 69 ∧ 69 ≤ 59 ∨ 65 ≤ 69 ∧ 69 ≤ 69) ∨ 112 ≤ 77 ∧ 77 ≤ 116 by decide)
    refine to_an (pc := 26) rw_227_26 rfl (to_c (pc := 27) rw_227_27 (x := (0 : Int32)) rfl rfl (s_pI (pc := 28) rw_227_28 hG269 rfl (fun M272 W271 => ?_)))
    have hG273 := g_w hG269 W271 (A := 0) rfl (lo := 0) (hi := 48) rfl rfl (by omega) (by decide)
    have F274 := FR.w F270 W271 (show 77 = 77 ∧ (1 ≤ 65 ∧ 65 ≤ 2 ∨ 4 ≤ 65 ∧ 65 ≤ 10 ∨ 57 ≤ 65 ∧ 65 ≤ 59 ∨ 65 ≤ 65 ∧ 65 ≤ 69) ∨ 112 ≤ 77 ∧ 77 ≤ 116 by decide)
    refine to_an (pc := 31) rw_227_31 rfl (to_c (pc := 32) rw_227_32 (x := (0 : Int32)) rfl rfl (s_pI (pc := 33) rw_227_33 hG273 rfl (fun M276 W275 => ?_)))
    have hG277 := g_w hG273 W275 (A := 0) rfl (lo := 0) (hi := 40) rfl rfl (by omega) (by decide)
    have F278 := FR.w F274 W275 (show 77 = 77 ∧ (1 ≤ 66 ∧ 66 ≤ 2 ∨ 4 ≤ 66 ∧ 66 ≤ 10 ∨ 57 ≤ 66 ∧ 66 ≤ 59 ∨ 65 ≤ 66 ∧ 66 ≤ 69) ∨ 112 ≤ 77 ∧ 77 ≤ 116 by decide)
    refine to_an (pc := 36) rw_227_36 rfl (to_c (pc := 37) rw_227_37 (x := (0 : Int32)) rfl rfl (s_pI (pc := 38) rw_227_38 hG277 rfl (fun M280 W279 => ?_)))
    have hG281 := g_w hG277 W279 (A := 0) rfl (lo := 0) (hi := 8) rfl rfl (by omega) (by decide)
    have F282 := FR.w F278 W279 (show 77 = 77 ∧ (1 ≤ 67 ∧ 67 ≤ 2 ∨ 4 ≤ 67 ∧ 67 ≤ 10 ∨ 57 ≤ 67 ∧ 67 ≤ 59 ∨ 65 ≤ 67 ∧ 67 ≤ 69) ∨ 112 ≤ 77 ∧ 77 ≤ 116 by decide)
    refine to_an (pc := 41) rw_227_41 rfl (to_c (pc := 42) rw_227_42 (x := (0 : Int32)) rfl rfl (s_pI (pc := 43) rw_227_43 hG281 rfl (fun M284 W283 => ?_)))
    have hG285 := g_w hG281 W283 (A := 0) rfl (lo := 0) (hi := 1) rfl rfl (by omega) (by decide)
    have F286 := FR.w F282 W283 (show 77 = 77 ∧ (1 ≤ 68 ∧ 68 ≤ 2 ∨ 4 ≤ 68 ∧ 68 ≤ 10 ∨ 57 ≤ 68 ∧ 68 ≤ 59 ∨ 65 ≤ 68 ∧ 68 ≤ 69) ∨ 112 ≤ 77 ∧ 77 ≤ 116 by decide)
    have c_287 : M284.2.1 77 59 = (0 : Int32) := (W_n W283 (by decide) (W_n W279 (by decide) (W_n W275 (by decide) (W_n W271 (by decide) (W_n W267 (by decide) (W_e W263))))))
    have k_288 : (0 : Int32).toInt = 0 := rfl
    have t_289 : (M284.2.1 77 59).toInt = (0 : Int32).toInt := congrArg Int32.toInt c_287
    have c_290 : M284.2.1 77 65 = (0 : Int32) := (W_n W283 (by decide) (W_n W279 (by decide) (W_n W275 (by decide) (W_e W271))))
    have t_291 : (M284.2.1 77 65).toInt = (0 : Int32).toInt := congrArg Int32.toInt c_290
    have c_292 : M284.2.1 77 66 = (0 : Int32) := (W_n W283 (by decide) (W_n W279 (by decide) (W_e W275)))
    have t_293 : (M284.2.1 77 66).toInt = (0 : Int32).toInt := congrArg Int32.toInt c_292
    have c_294 : M284.2.1 77 67 = (0 : Int32) := (W_n W283 (by decide) (W_e W279))
    have t_295 : (M284.2.1 77 67).toInt = (0 : Int32).toInt := congrArg Int32.toInt c_294
    have c_296 : M284.2.1 77 68 = (0 : Int32) := (W_e W283)
    have t_297 : (M284.2.1 77 68).toInt = (0 : Int32).toInt := congrArg Int32.toInt c_296
    have c_298 : M284.2.1 77 69 = (0 : Int32) := (W_n W283 (by decide) (W_n W279 (by decide) (W_n W275 (by decide) (W_n W271 (by decide) (W_e W267)))))
    have t_299 : (M284.2.1 77 69).toInt = (0 : Int32).toInt := congrArg Int32.toInt c_298
    have j_300 : QK M284 := QK_0 (by omega) (by omega) (by omega) (by omega) (by omega) (by omega)
    have c_301 : M284.2.1 77 7 = (M257.2.1 77 7) := (W_n W283 (by decide) (W_n W279 (by decide) (W_n W275 (by decide) (W_n W271 (by decide) (W_n W267 (by decide) (W_n W263 (by decide) rfl))))))
    have t_302 : (M284.2.1 77 7).toInt = (M257.2.1 77 7).toInt := congrArg Int32.toInt c_301
    have c_303 : M284.2.1 77 6 = (M257.2.1 77 6) := (W_n W283 (by decide) (W_n W279 (by decide) (W_n W275 (by decide) (W_n W271 (by decide) (W_n W267 (by decide) (W_n W263 (by decide) rfl))))))
    have t_304 : (M284.2.1 77 6).toInt = (M257.2.1 77 6).toInt := congrArg Int32.toInt c_303
    have j_305 := (FA_f (fun a i z => W_n W283 (tg_312 a i z) rfl) (FA_f (fun a i z => W_n W279 (tg_333 a i z) rfl) (FA_f (fun a i z => W_n W275 (tg_334 a i z) rfl) (FA_f (fun a i z => W_n W271 (tg_335 a i z) rfl) (FA_f (fun a i z => W_n W267 (tg_311 a i z) rfl) (FA_f (fun a i z => W_n W263 (tg_336 a i z) rfl) (FA_f (tg_239 F250) (FA_f (fun a i z => W_n W238 (tg_94 a i z) rfl) q2))))))))
    have j_306 := (WC_f (fun a i z => W_n W283 (by /-r77,68-/ omega) rfl) (WC_f (fun a i z => W_n W279 (by /-r77,67-/ omega) rfl) (WC_f (fun a i z => W_n W275 (by /-r77,66-/ omega) rfl) (WC_f (fun a i z => W_n W271 (by /-r77,65-/ omega) rfl) (WC_f (fun a i z => W_n W267 (by /-r77,69-/ omega) rfl) (WC_f (fun a i z => W_n W263 (by /-r77,59-/ omega) rfl) (WC_f (tg_241 F250) (WC_f (fun a i z => W_n W238 (by /-r77,2-/ omega) rfl) q3))))))))
    have j_307 := (NJ_f (fun a i z => W_n W283 (by /-r77,68-/ omega) rfl) (NJ_f (fun a i z => W_n W279 (by /-r77,67-/ omega) rfl) (NJ_f (fun a i z => W_n W275 (by /-r77,66-/ omega) rfl) (NJ_f (fun a i z => W_n W271 (by /-r77,65-/ omega) rfl) (NJ_f (fun a i z => W_n W267 (by /-r77,69-/ omega) rfl) (NJ_f (fun a i z => W_n W263 (by /-r77,59-/ omega) rfl) (NJ_f (tg_243 F250) (NJ_f (fun a i z => W_n W238 (by /-r77,2-/ omega) rfl) q4))))))))
    have j_308 := (PS_f (fun a i z => W_n W283 (tg_337 a i z) rfl) (PS_f (fun a i z => W_n W279 (tg_338 a i z) rfl) (PS_f (fun a i z => W_n W275 (tg_339 a i z) rfl) (PS_f (fun a i z => W_n W271 (tg_340 a i z) rfl) (PS_f (fun a i z => W_n W267 (tg_341 a i z) rfl) (PS_f (fun a i z => W_n W263 (tg_342 a i z) rfl) (PS_f (tg_245 F250) (PS_f (fun a i z => W_n W238 (tg_259 a i z) rfl) q5))))))))
    have j_309 := (KQ_f (fun a i z => W_n W283 (by /-r77,68-/ omega) rfl) (KQ_f (fun a i z => W_n W279 (by /-r77,67-/ omega) rfl) (KQ_f (fun a i z => W_n W275 (by /-r77,66-/ omega) rfl) (KQ_f (fun a i z => W_n W271 (by /-r77,65-/ omega) rfl) (KQ_f (fun a i z => W_n W267 (by /-r77,69-/ omega) rfl) (KQ_f (fun a i z => W_n W263 (by /-r77,59-/ omega) rfl) (KQ_f (tg_247 F250) (KQ_f (fun a i z => W_n W238 (by /-r77,2-/ omega) rfl) q6))))))))
    have c_310 : M284.2.1 77 1 = (M257.2.1 77 1) := (W_n W283 (by decide) (W_n W279 (by decide) (W_n W275 (by decide) (W_n W271 (by decide) (W_n W267 (by decide) (W_n W263 (by decide) rfl))))))
    have t_311 : (M284.2.1 77 1).toInt = (M257.2.1 77 1).toInt := congrArg Int32.toInt c_310
    have c_312 : M284.2.1 77 8 = (M257.2.1 77 8) := (W_n W283 (by decide) (W_n W279 (by decide) (W_n W275 (by decide) (W_n W271 (by decide) (W_n W267 (by decide) (W_n W263 (by decide) rfl))))))
    have b_313 := g_b hG251 (a := 77) (i := 8) (lo := 0) (hi := 5) rfl rfl
    have t_314 : (M284.2.1 77 8).toInt = (M257.2.1 77 8).toInt := congrArg Int32.toInt c_312
    exact (T_227_1 (n := n) hX hd q1 q2 q3 q4 q5 q6 h ((6 * (500 - (M284.2.1 77 7).toInt) + (M284.2.1 77 8).toInt).toNat + 1)) M284 (.int n) (.null) hG285 F286 (by omega) j_305 j_306 j_307 j_308 j_309 j_300 (by omega) (by omega) (by omega) (by omega)
  · refine to_c (pc := 13) rw_227_13 (x := (-2 : Int32)) rfl rfl (to_r0 (pc := 15) rw_227_15 ?_)
    have k_315 : (-2 : Int32).toInt = -2 := rfl
    have j_316 := (FA_f (tg_239 F250) (FA_f (fun a i z => W_n W238 (tg_94 a i z) rfl) q2))
    have j_317 := (WC_f (tg_241 F250) (WC_f (fun a i z => W_n W238 (by /-r77,2-/ omega) rfl) q3))
    have j_318 := (NJ_f (tg_243 F250) (NJ_f (fun a i z => W_n W238 (by /-r77,2-/ omega) rfl) q4))
    have j_319 := (PS_f (tg_245 F250) (PS_f (fun a i z => W_n W238 (tg_259 a i z) rfl) q5))
    have j_320 := (KQ_f (tg_247 F250) (KQ_f (fun a i z => W_n W238 (by /-r77,2-/ omega) rfl) q6))
    exact h (-2 : Int32) M257 hG251 F258 (by omega) j_316 j_317 j_318 j_319 j_320 (by omega) (by omega)
end
section
theorem tg_343 {M M1 : mm_M} (F : FR (fun a i : Nat => a < 0) M M1) : ∀ a i : Nat, KQ_r a i → M1.2.1 a i = M.2.1 a i := fun a i z => F_n F (show ¬ (a < 0) by omega) rfl
theorem tg_344 {M M1 : mm_M} (F : FR (fun a i : Nat => a = 117) M M1) : ∀ a i : Nat, KQ_r a i → M1.2.1 a i = M.2.1 a i := fun a i z => F_n F (show ¬ (a = 117) by omega) rfl
theorem tg_345 {M M1 : mm_M} (F : FR (fun a i : Nat => 94 ≤ a ∧ a ≤ 98) M M1) : ∀ a i : Nat, KQ_r a i → M1.2.1 a i = M.2.1 a i := fun a i z => F_n F (show ¬ (94 ≤ a ∧ a ≤ 98) by omega) rfl
theorem tg_346 {M M1 : mm_M} (F : FR (fun a i : Nat => 94 ≤ a ∧ a ≤ 98) M M1) : ∀ a i : Nat, (81 ≤ a ∧ a ≤ 84) → M1.2.1 a i = M.2.1 a i := fun a i z => F_n F (show ¬ (94 ≤ a ∧ a ≤ 98) by omega) rfl
theorem tg_347 : ∀ a i : Nat, (a < 0) → (a = 117) := fun a i z => by omega
theorem tg_348 : ∀ a i : Nat, (a = 117) → (a = 77 ∧ i = 2 ∨ 94 ≤ a ∧ a ≤ 98 ∨ a = 117) := fun a i z => by omega
theorem tg_349 : ∀ a i : Nat, (94 ≤ a ∧ a ≤ 98) → (a = 77 ∧ i = 2 ∨ 94 ≤ a ∧ a ≤ 98 ∨ a = 117) := fun a i z => by omega
theorem tg_350 : ∀ a i : Nat, (a < 0) → (a = 119) := fun a i z => by omega
theorem tg_351 : ∀ a i : Nat, (94 ≤ a ∧ a ≤ 98) → (a = 77 ∧ i = 2 ∨ 94 ≤ a ∧ a ≤ 98 ∨ a = 119) := fun a i z => by omega
theorem tg_352 : ∀ a i : Nat, (a < 0) → (a = 77 ∧ i = 2 ∨ 94 ≤ a ∧ a ≤ 98 ∨ a = 119) := fun a i z => by omega
theorem tg_353 : ∀ a i : Nat, (a = 119) → (a = 77 ∧ i = 2 ∨ 94 ≤ a ∧ a ≤ 98 ∨ a = 119) := fun a i z => by omega
theorem tg_354 : ∀ a i : Nat, (94 ≤ a ∧ a ≤ 98) → (a = 77 ∧ i = 2 ∨ 94 ≤ a ∧ a ≤ 98 ∨ a = 120) := fun a i z => by omega
set_option maxRecDepth 4000 in
set_option maxHeartbeats 0 in
theorem T_228_0 {X : mm_X} {d : Nat} {M : mm_M} {Q : Option Value → mm_M → Prop} {c : Int32} {t : Int32} (hX : g_X X) (hd : 1 ≤ d) (q1 : 0 ≤ c.toInt) (q2 : c.toInt ≤ 29) (q3 : 0 ≤ t.toInt) (q4 : t.toInt ≤ 1) (q5 : 1 ≤ (M.2.1 77 58).toInt) (q6 : KQ M) (h : ∀ (r : Int32) (M1 : mm_M), g_G M1 → FR md_an M M1 → (0 ≤ r.toInt) → (r.toInt ≤ 1) → Q (some (.int r)) M1) : ∀ nn9 : Nat, (∀ (N : mm_M) (x3 : Int32) (u4 : Value) (u5 : Value), g_G N → FR md_an M N → (0 ≤ x3.toInt) → (x3.toInt ≤ 40) → (1 ≤ (N.2.1 77 58).toInt) → (KQ N) → 40 - x3.toInt < (nn9 : Int) → mm_T X d 227 2 [.ref 77, .int c, .int t, .int x3, u4, u5] [] N Q) := by
  intro nn9
  induction nn9 with
  | zero =>
    intro N x3 u4 u5 hG F0 g1 g2 g3 g4 hm
    have b_1 := g_b hG (a := 77) (i := 58) (lo := 0) (hi := 40) rfl rfl
    exfalso; omega
  | succ nn9 ih =>
    intro N x3 u4 u5 hG F0 g1 g2 g3 g4 hm
    have b_2 := g_b hG (a := 77) (i := 58) (lo := 0) (hi := 40) rfl rfl
    refine to_in (pc := 2) rw_228_2 rfl (to_an (pc := 3) rw_228_3 rfl (tt_gI (pc := 4) rw_228_4 (g_o hG rfl) (v := (N.2.1 77 58)) rfl (b_cge (pc := 7) rw_228_7 (A := x3.toInt) (B := (N.2.1 77 58).toInt) rfl rfl (fun h3 => ?_) (fun h3 => ?_))))
    · refine to_an (pc := 290) rw_228_290 rfl (s_gR (pc := 291) rw_228_291 hG rfl (v := 117) rfl (to_an (pc := 294) rw_228_294 rfl (tt_gI (pc := 295) rw_228_295 (g_o hG rfl) (v := (N.2.1 77 58)) rfl (to_c (pc := 298) rw_228_298 (x := (1 : Int32)) rfl rfl (s_sub (pc := 299) rw_228_299 (A := (N.2.1 77 58).toInt) (B := 1) rfl rfl (by omega) (fun v4 e5 => s_bal (pc := 300) rw_228_300 hG rfl (n := 40) rfl (A := v4.toInt) rfl (by omega) (by omega) (lo := 0) (hi := 1) rfl rfl (fun v6 w_7 _ _ => s_r1 (pc := 301) rw_228_301 (A := v6.toInt) rfl (by omega) ?_)))))))
      exact h v6 N hG F0 (by omega) (by omega)
    · refine to_an (pc := 10) rw_228_10 rfl (s_gR (pc := 11) rw_228_11 hG rfl (v := 113) rfl (to_in (pc := 14) rw_228_14 rfl (s_ial (pc := 15) rw_228_15 hG rfl (n := 80) rfl rfl (A := x3.toInt) rfl (by omega) (by omega) (lo := 0) (hi := 39) rfl rfl (fun v8 w_9 _ _ => ?_))))
      have j_10 := KQ_u (A := x3.toInt) g4 (by omega) (by omega) (by omega)
      rw [w_9] at j_10
      refine to_is (pc := 16) rw_228_16 (ls2 := [.ref 77, .int c, .int t, .int x3, .int v8, u5]) rfl rfl (to_an (pc := 18) rw_228_18 rfl (s_gR (pc := 19) rw_228_19 hG rfl (v := 114) rfl (to_in (pc := 22) rw_228_22 rfl (s_ial (pc := 23) rw_228_23 hG rfl (n := 80) rfl rfl (A := x3.toInt) rfl (by omega) (by omega) (lo := -2147483648) (hi := 2147483647) rfl rfl (fun v11 w_12 _ _ => ?_)))))
      rw [w_12] at j_10
      refine to_is (pc := 24) rw_228_24 (ls2 := [.ref 77, .int c, .int t, .int x3, .int v8, .int v11]) rfl rfl (to_an (pc := 26) rw_228_26 rfl (s_gR (pc := 27) rw_228_27 hG rfl (v := 112) rfl (to_in (pc := 30) rw_228_30 rfl (s_ial (pc := 31) rw_228_31 hG rfl (n := 80) rfl rfl (A := x3.toInt) rfl (by omega) (by omega) (lo := 0) (hi := 4) rfl rfl (fun v13 w_14 _ _ => ?_)))))
      rw [w_14] at j_10
      rcases (show v13.toInt = 0 ∨ v13.toInt = 1 ∨ v13.toInt = 2 ∨ v13.toInt = 3 ∨ (v13.toInt < 0 ∨ 3 < v13.toInt) by omega) with h15 | h15 | h15 | h15 | h15
      · refine s_sw (pc := 32) rw_228_32 (A := v13.toInt) (k := 0) (t := 64) rfl h15 (by decide) rfl (to_an (pc := 64) rw_228_64 rfl (s_gR (pc := 65) rw_228_65 hG rfl (v := 117) rfl (to_in (pc := 68) rw_228_68 rfl (to_in (pc := 69) rw_228_69 rfl (b_ieq (pc := 70) rw_228_70 (A := t.toInt) rfl (fun h16 => ?_) (fun h16 => ?_))))))
        · refine to_an (pc := 98) rw_228_98 rfl (to_i (pc := 99) rw_228_99 rfl (to_i (pc := 101) rw_228_101 rfl (s_v (pc := 103) rw_228_103 (dp0 hd (by decide)) (ls0 := [.ref 77, .int v8, .int v11]) rfl (Nat.le_of_ble_eq_true rfl) (Nat.le_of_ble_eq_true rfl) rfl (to_rc rfl rfl rfl (g_o hG rfl)) rfl (C_183 hX (dp1 hd (by decide)) hG (by omega) (by omega) (by omega) (by omega) (f := v8) (v := v11) (fun r17 M20 hG19 F18 => ?_)))))
          have F21 := FR.c F0 F18 tg_347
          refine to_an (pc := 106) rw_228_106 rfl (s_gR (pc := 107) rw_228_107 hG19 rfl (v := 96) rfl (to_in (pc := 110) rw_228_110 rfl (s_lal (pc := 111) rw_228_111 hG19 rfl (n := 30) rfl (A := c.toInt) rfl (by omega) (by omega) (fun l22 => s_cl (pc := 112) rw_228_112 rfl (fun l23 => s_anyL (pc := 115) rw_228_115 (fun _ _ => rfl) (fun l24 => s_anyL (pc := 116) rw_228_116 (fun _ _ => rfl) (fun l25 => s_cl (pc := 117) rw_228_117 rfl (fun l26 => s_lcmp (pc := 118) rw_228_118 (fun v27 => b_ine (pc := 119) rw_228_119 (A := v27.toInt) rfl (fun h28 => ?_) (fun h28 => ?_))))))))))
          · refine to_c (pc := 126) rw_228_126 (x := (0 : Int32)) rfl rfl (s_zas (pc := 127) rw_228_127 hG19 rfl (n := 40) rfl (A := x3.toInt) rfl (by omega) (by omega) (B := 0) rfl (by omega) (fun M30 W29 => ?_))
            have hG31 := g_w hG19 W29 (A := 0) rfl (lo := 0) (hi := 1) rfl rfl (by omega) (by decide)
            have F32 := FR.w F21 W29 (show 117 = 117 by decide)
            refine to_go (pc := 128) rw_228_128 (s_inc (pc := 284) rw_228_284 (ls2 := fun v => [.ref 77, .int c, .int t, .int v, .int v8, .int v11]) rfl rfl (fun _ => rfl) (A := x3.toInt) (B := 1) rfl rfl (by omega) (fun v33 e34 => to_go (pc := 287) rw_228_287 ?_))
            have c_35 : M30.2.1 77 58 = (N.2.1 77 58) := (W_n W29 (fun z => absurd z.1 (by decide)) (F_n F18 (show ¬ (77 < 0) by decide) rfl))
            have t_36 : (M30.2.1 77 58).toInt = (N.2.1 77 58).toInt := congrArg Int32.toInt c_35
            have j_37 := (KQ_f (fun a i z => W_n W29 (by /-r117-/ omega) rfl) (KQ_f (tg_343 F18) g4))
            exact ih M30 v33 (.int v8) (.int v11) hG31 F32 (by omega) (by omega) (by omega) j_37 (by omega)
          · refine to_c (pc := 122) rw_228_122 (x := (1 : Int32)) rfl rfl (to_go (pc := 123) rw_228_123 (s_zas (pc := 127) rw_228_127 hG19 rfl (n := 40) rfl (A := x3.toInt) rfl (by omega) (by omega) (B := 1) rfl (by omega) (fun M39 W38 => ?_)))
            have hG40 := g_w hG19 W38 (A := 1) rfl (lo := 0) (hi := 1) rfl rfl (by omega) (by decide)
            have F41 := FR.w F21 W38 (show 117 = 117 by decide)
            refine to_go (pc := 128) rw_228_128 (s_inc (pc := 284) rw_228_284 (ls2 := fun v => [.ref 77, .int c, .int t, .int v, .int v8, .int v11]) rfl rfl (fun _ => rfl) (A := x3.toInt) (B := 1) rfl rfl (by omega) (fun v42 e43 => to_go (pc := 287) rw_228_287 ?_))
            have c_44 : M39.2.1 77 58 = (N.2.1 77 58) := (W_n W38 (fun z => absurd z.1 (by decide)) (F_n F18 (show ¬ (77 < 0) by decide) rfl))
            have t_45 : (M39.2.1 77 58).toInt = (N.2.1 77 58).toInt := congrArg Int32.toInt c_44
            have j_46 := (KQ_f (fun a i z => W_n W38 (by /-r117-/ omega) rfl) (KQ_f (tg_343 F18) g4))
            exact ih M39 v42 (.int v8) (.int v11) hG40 F41 (by omega) (by omega) (by omega) j_46 (by omega)
        · refine to_an (pc := 73) rw_228_73 rfl (s_gR (pc := 74) rw_228_74 hG rfl (v := 97) rfl (to_c (pc := 77) rw_228_77 (x := (8 : Int32)) rfl rfl (to_in (pc := 79) rw_228_79 rfl (s_mul (pc := 80) rw_228_80 (A := 8) (B := c.toInt) rfl rfl (by omega) (fun v47 e48 => to_i (pc := 81) rw_228_81 rfl (s_add (pc := 83) rw_228_83 (A := v47.toInt) (B := v8.toInt) rfl rfl (by omega) (fun v49 e50 => s_ial (pc := 84) rw_228_84 hG rfl (n := 240) rfl rfl (A := v49.toInt) rfl (by omega) (by omega) (lo := -2147483648) (hi := 2147483647) rfl rfl (fun v51 w_52 _ _ => to_i (pc := 85) rw_228_85 rfl (b_cne (pc := 87) rw_228_87 (A := v51.toInt) (B := v11.toInt) rfl rfl (fun h53 => ?_) (fun h53 => ?_))))))))))
          · refine to_c (pc := 94) rw_228_94 (x := (0 : Int32)) rfl rfl (to_go (pc := 95) rw_228_95 (s_zas (pc := 127) rw_228_127 hG rfl (n := 40) rfl (A := x3.toInt) rfl (by omega) (by omega) (B := 0) rfl (by omega) (fun M55 W54 => ?_)))
            have hG56 := g_w hG W54 (A := 0) rfl (lo := 0) (hi := 1) rfl rfl (by omega) (by decide)
            have F57 := FR.w F0 W54 (show 117 = 117 by decide)
            refine to_go (pc := 128) rw_228_128 (s_inc (pc := 284) rw_228_284 (ls2 := fun v => [.ref 77, .int c, .int t, .int v, .int v8, .int v11]) rfl rfl (fun _ => rfl) (A := x3.toInt) (B := 1) rfl rfl (by omega) (fun v58 e59 => to_go (pc := 287) rw_228_287 ?_))
            have c_60 : M55.2.1 77 58 = (N.2.1 77 58) := (W_n W54 (fun z => absurd z.1 (by decide)) rfl)
            have t_61 : (M55.2.1 77 58).toInt = (N.2.1 77 58).toInt := congrArg Int32.toInt c_60
            have j_62 := (KQ_f (fun a i z => W_n W54 (by /-r117-/ omega) rfl) g4)
            exact ih M55 v58 (.int v8) (.int v11) hG56 F57 (by omega) (by omega) (by omega) j_62 (by omega)
          · refine to_c (pc := 90) rw_228_90 (x := (1 : Int32)) rfl rfl (to_go (pc := 91) rw_228_91 (s_zas (pc := 127) rw_228_127 hG rfl (n := 40) rfl (A := x3.toInt) rfl (by omega) (by omega) (B := 1) rfl (by omega) (fun M64 W63 => ?_)))
            have hG65 := g_w hG W63 (A := 1) rfl (lo := 0) (hi := 1) rfl rfl (by omega) (by decide)
            have F66 := FR.w F0 W63 (show 117 = 117 by decide)
            refine to_go (pc := 128) rw_228_128 (s_inc (pc := 284) rw_228_284 (ls2 := fun v => [.ref 77, .int c, .int t, .int v, .int v8, .int v11]) rfl rfl (fun _ => rfl) (A := x3.toInt) (B := 1) rfl rfl (by omega) (fun v67 e68 => to_go (pc := 287) rw_228_287 ?_))
            have c_69 : M64.2.1 77 58 = (N.2.1 77 58) := (W_n W63 (fun z => absurd z.1 (by decide)) rfl)
            have t_70 : (M64.2.1 77 58).toInt = (N.2.1 77 58).toInt := congrArg Int32.toInt c_69
            have j_71 := (KQ_f (fun a i z => W_n W63 (by /-r117-/ omega) rfl) g4)
            exact ih M64 v67 (.int v8) (.int v11) hG65 F66 (by omega) (by omega) (by omega) j_71 (by omega)
      · refine s_sw (pc := 32) rw_228_32 (A := v13.toInt) (k := 1) (t := 131) rfl h15 (by decide) rfl (to_an (pc := 131) rw_228_131 rfl (s_gR (pc := 132) rw_228_132 hG rfl (v := 117) rfl (to_in (pc := 135) rw_228_135 rfl (to_in (pc := 136) rw_228_136 rfl (b_ieq (pc := 137) rw_228_137 (A := t.toInt) rfl (fun h72 => ?_) (fun h72 => ?_))))))
        · refine to_an (pc := 163) rw_228_163 rfl (s_gR (pc := 164) rw_228_164 hG rfl (v := 95) rfl (to_i (pc := 167) rw_228_167 rfl (s_lal (pc := 169) rw_228_169 hG rfl (n := 12) rfl (A := v8.toInt) rfl (by omega) (by omega) (fun l73 => to_an (pc := 170) rw_228_170 rfl (s_gR (pc := 171) rw_228_171 hG rfl (v := 96) rfl (to_in (pc := 174) rw_228_174 rfl (s_lal (pc := 175) rw_228_175 hG rfl (n := 30) rfl (A := c.toInt) rfl (by omega) (by omega) (fun l74 => s_cl (pc := 176) rw_228_176 rfl (fun l75 => s_anyL (pc := 179) rw_228_179 (fun _ _ => rfl) (fun l76 => s_anyL (pc := 180) rw_228_180 (fun _ _ => rfl) (fun l77 => s_cl (pc := 181) rw_228_181 rfl (fun l78 => ?_))))))))))))
          refine s_lcmp (pc := 182) rw_228_182 (fun v79 => b_ine (pc := 183) rw_228_183 (A := v79.toInt) rfl (fun h80 => ?_) (fun h80 => ?_))
          · refine to_c (pc := 190) rw_228_190 (x := (0 : Int32)) rfl rfl (s_zas (pc := 191) rw_228_191 hG rfl (n := 40) rfl (A := x3.toInt) rfl (by omega) (by omega) (B := 0) rfl (by omega) (fun M82 W81 => ?_))
            have hG83 := g_w hG W81 (A := 0) rfl (lo := 0) (hi := 1) rfl rfl (by omega) (by decide)
            have F84 := FR.w F0 W81 (show 117 = 117 by decide)
            refine to_go (pc := 192) rw_228_192 (s_inc (pc := 284) rw_228_284 (ls2 := fun v => [.ref 77, .int c, .int t, .int v, .int v8, .int v11]) rfl rfl (fun _ => rfl) (A := x3.toInt) (B := 1) rfl rfl (by omega) (fun v85 e86 => to_go (pc := 287) rw_228_287 ?_))
            have c_87 : M82.2.1 77 58 = (N.2.1 77 58) := (W_n W81 (fun z => absurd z.1 (by decide)) rfl)
            have t_88 : (M82.2.1 77 58).toInt = (N.2.1 77 58).toInt := congrArg Int32.toInt c_87
            have j_89 := (KQ_f (fun a i z => W_n W81 (by /-r117-/ omega) rfl) g4)
            exact ih M82 v85 (.int v8) (.int v11) hG83 F84 (by omega) (by omega) (by omega) j_89 (by omega)
          · refine to_c (pc := 186) rw_228_186 (x := (1 : Int32)) rfl rfl (to_go (pc := 187) rw_228_187 (s_zas (pc := 191) rw_228_191 hG rfl (n := 40) rfl (A := x3.toInt) rfl (by omega) (by omega) (B := 1) rfl (by omega) (fun M91 W90 => ?_)))
            have hG92 := g_w hG W90 (A := 1) rfl (lo := 0) (hi := 1) rfl rfl (by omega) (by decide)
            have F93 := FR.w F0 W90 (show 117 = 117 by decide)
            refine to_go (pc := 192) rw_228_192 (s_inc (pc := 284) rw_228_284 (ls2 := fun v => [.ref 77, .int c, .int t, .int v, .int v8, .int v11]) rfl rfl (fun _ => rfl) (A := x3.toInt) (B := 1) rfl rfl (by omega) (fun v94 e95 => to_go (pc := 287) rw_228_287 ?_))
            have c_96 : M91.2.1 77 58 = (N.2.1 77 58) := (W_n W90 (fun z => absurd z.1 (by decide)) rfl)
            have t_97 : (M91.2.1 77 58).toInt = (N.2.1 77 58).toInt := congrArg Int32.toInt c_96
            have j_98 := (KQ_f (fun a i z => W_n W90 (by /-r117-/ omega) rfl) g4)
            exact ih M91 v94 (.int v8) (.int v11) hG92 F93 (by omega) (by omega) (by omega) j_98 (by omega)
        · refine to_an (pc := 140) rw_228_140 rfl (s_gR (pc := 141) rw_228_141 hG rfl (v := 98) rfl (to_in (pc := 144) rw_228_144 rfl (s_ial (pc := 145) rw_228_145 hG rfl (n := 30) rfl rfl (A := c.toInt) rfl (by omega) (by omega) (lo := -2147483648) (hi := 2147483647) rfl rfl (fun v99 w_100 _ _ => to_i (pc := 146) rw_228_146 rfl (s_any (pc := 148) rw_228_148 (fun _ _ => rfl) (fun v101 => to_c (pc := 149) rw_228_149 (x := (1 : Int32)) rfl rfl (s_and (pc := 150) rw_228_150 (B := 1) rfl (by omega) (fun v102 e103 _ _ => to_c (pc := 151) rw_228_151 (x := (1 : Int32)) rfl rfl (b_cne (pc := 152) rw_228_152 (A := v102.toInt) (B := 1) rfl rfl (fun h104 => ?_) (fun h104 => ?_))))))))))
          · refine to_c (pc := 159) rw_228_159 (x := (0 : Int32)) rfl rfl (to_go (pc := 160) rw_228_160 (s_zas (pc := 191) rw_228_191 hG rfl (n := 40) rfl (A := x3.toInt) rfl (by omega) (by omega) (B := 0) rfl (by omega) (fun M106 W105 => ?_)))
            have hG107 := g_w hG W105 (A := 0) rfl (lo := 0) (hi := 1) rfl rfl (by omega) (by decide)
            have F108 := FR.w F0 W105 (show 117 = 117 by decide)
            refine to_go (pc := 192) rw_228_192 (s_inc (pc := 284) rw_228_284 (ls2 := fun v => [.ref 77, .int c, .int t, .int v, .int v8, .int v11]) rfl rfl (fun _ => rfl) (A := x3.toInt) (B := 1) rfl rfl (by omega) (fun v109 e110 => to_go (pc := 287) rw_228_287 ?_))
            have c_111 : M106.2.1 77 58 = (N.2.1 77 58) := (W_n W105 (fun z => absurd z.1 (by decide)) rfl)
            have t_112 : (M106.2.1 77 58).toInt = (N.2.1 77 58).toInt := congrArg Int32.toInt c_111
            have j_113 := (KQ_f (fun a i z => W_n W105 (by /-r117-/ omega) rfl) g4)
            exact ih M106 v109 (.int v8) (.int v11) hG107 F108 (by omega) (by omega) (by omega) j_113 (by omega)
          · refine to_c (pc := 155) rw_228_155 (x := (1 : Int32)) rfl rfl (to_go (pc := 156) rw_228_156 (s_zas (pc := 191) rw_228_191 hG rfl (n := 40) rfl (A := x3.toInt) rfl (by omega) (by omega) (B := 1) rfl (by omega) (fun M115 W114 => ?_)))
            have hG116 := g_w hG W114 (A := 1) rfl (lo := 0) (hi := 1) rfl rfl (by omega) (by decide)
            have F117 := FR.w F0 W114 (show 117 = 117 by decide)
            refine to_go (pc := 192) rw_228_192 (s_inc (pc := 284) rw_228_284 (ls2 := fun v => [.ref 77, .int c, .int t, .int v, .int v8, .int v11]) rfl rfl (fun _ => rfl) (A := x3.toInt) (B := 1) rfl rfl (by omega) (fun v118 e119 => to_go (pc := 287) rw_228_287 ?_))
            have c_120 : M115.2.1 77 58 = (N.2.1 77 58) := (W_n W114 (fun z => absurd z.1 (by decide)) rfl)
            have t_121 : (M115.2.1 77 58).toInt = (N.2.1 77 58).toInt := congrArg Int32.toInt c_120
            have j_122 := (KQ_f (fun a i z => W_n W114 (by /-r117-/ omega) rfl) g4)
            exact ih M115 v118 (.int v8) (.int v11) hG116 F117 (by omega) (by omega) (by omega) j_122 (by omega)
      · refine s_sw (pc := 32) rw_228_32 (A := v13.toInt) (k := 2) (t := 195) rfl h15 (by decide) rfl (to_an (pc := 195) rw_228_195 rfl (s_gR (pc := 196) rw_228_196 hG rfl (v := 117) rfl (to_in (pc := 199) rw_228_199 rfl (to_an (pc := 200) rw_228_200 rfl (s_gR (pc := 201) rw_228_201 hG rfl (v := 117) rfl (to_i (pc := 204) rw_228_204 rfl (s_bal (pc := 206) rw_228_206 hG rfl (n := 40) rfl (A := v8.toInt) rfl (by omega) (by omega) (lo := 0) (hi := 1) rfl rfl (fun v123 w_124 _ _ => b_ine (pc := 207) rw_228_207 (A := v123.toInt) rfl (fun h125 => ?_) (fun h125 => ?_)))))))))
        · refine to_c (pc := 214) rw_228_214 (x := (0 : Int32)) rfl rfl (s_zas (pc := 215) rw_228_215 hG rfl (n := 40) rfl (A := x3.toInt) rfl (by omega) (by omega) (B := 0) rfl (by omega) (fun M127 W126 => ?_))
          have hG128 := g_w hG W126 (A := 0) rfl (lo := 0) (hi := 1) rfl rfl (by omega) (by decide)
          have F129 := FR.w F0 W126 (show 117 = 117 by decide)
          refine to_go (pc := 216) rw_228_216 (s_inc (pc := 284) rw_228_284 (ls2 := fun v => [.ref 77, .int c, .int t, .int v, .int v8, .int v11]) rfl rfl (fun _ => rfl) (A := x3.toInt) (B := 1) rfl rfl (by omega) (fun v130 e131 => to_go (pc := 287) rw_228_287 ?_))
          have c_132 : M127.2.1 77 58 = (N.2.1 77 58) := (W_n W126 (fun z => absurd z.1 (by decide)) rfl)
          have t_133 : (M127.2.1 77 58).toInt = (N.2.1 77 58).toInt := congrArg Int32.toInt c_132
          have j_134 := (KQ_f (fun a i z => W_n W126 (by /-r117-/ omega) rfl) g4)
          exact ih M127 v130 (.int v8) (.int v11) hG128 F129 (by omega) (by omega) (by omega) j_134 (by omega)
        · refine to_c (pc := 210) rw_228_210 (x := (1 : Int32)) rfl rfl (to_go (pc := 211) rw_228_211 (s_zas (pc := 215) rw_228_215 hG rfl (n := 40) rfl (A := x3.toInt) rfl (by omega) (by omega) (B := 1) rfl (by omega) (fun M136 W135 => ?_)))
          have hG137 := g_w hG W135 (A := 1) rfl (lo := 0) (hi := 1) rfl rfl (by omega) (by decide)
          have F138 := FR.w F0 W135 (show 117 = 117 by decide)
          refine to_go (pc := 216) rw_228_216 (s_inc (pc := 284) rw_228_284 (ls2 := fun v => [.ref 77, .int c, .int t, .int v, .int v8, .int v11]) rfl rfl (fun _ => rfl) (A := x3.toInt) (B := 1) rfl rfl (by omega) (fun v139 e140 => to_go (pc := 287) rw_228_287 ?_))
          have c_141 : M136.2.1 77 58 = (N.2.1 77 58) := (W_n W135 (fun z => absurd z.1 (by decide)) rfl)
          have t_142 : (M136.2.1 77 58).toInt = (N.2.1 77 58).toInt := congrArg Int32.toInt c_141
          have j_143 := (KQ_f (fun a i z => W_n W135 (by /-r117-/ omega) rfl) g4)
          exact ih M136 v139 (.int v8) (.int v11) hG137 F138 (by omega) (by omega) (by omega) j_143 (by omega)
      · refine s_sw (pc := 32) rw_228_32 (A := v13.toInt) (k := 3) (t := 219) rfl h15 (by decide) rfl (to_an (pc := 219) rw_228_219 rfl (s_gR (pc := 220) rw_228_220 hG rfl (v := 117) rfl (to_in (pc := 223) rw_228_223 rfl (to_an (pc := 224) rw_228_224 rfl (s_gR (pc := 225) rw_228_225 hG rfl (v := 117) rfl (to_i (pc := 228) rw_228_228 rfl (s_bal (pc := 230) rw_228_230 hG rfl (n := 40) rfl (A := v8.toInt) rfl (by omega) (by omega) (lo := 0) (hi := 1) rfl rfl (fun v144 w_145 _ _ => b_ieq (pc := 231) rw_228_231 (A := v144.toInt) rfl (fun h146 => ?_) (fun h146 => ?_)))))))))
        · refine to_c (pc := 248) rw_228_248 (x := (0 : Int32)) rfl rfl (s_zas (pc := 249) rw_228_249 hG rfl (n := 40) rfl (A := x3.toInt) rfl (by omega) (by omega) (B := 0) rfl (by omega) (fun M148 W147 => ?_))
          have hG149 := g_w hG W147 (A := 0) rfl (lo := 0) (hi := 1) rfl rfl (by omega) (by decide)
          have F150 := FR.w F0 W147 (show 117 = 117 by decide)
          refine to_go (pc := 250) rw_228_250 (s_inc (pc := 284) rw_228_284 (ls2 := fun v => [.ref 77, .int c, .int t, .int v, .int v8, .int v11]) rfl rfl (fun _ => rfl) (A := x3.toInt) (B := 1) rfl rfl (by omega) (fun v151 e152 => to_go (pc := 287) rw_228_287 ?_))
          have c_153 : M148.2.1 77 58 = (N.2.1 77 58) := (W_n W147 (fun z => absurd z.1 (by decide)) rfl)
          have t_154 : (M148.2.1 77 58).toInt = (N.2.1 77 58).toInt := congrArg Int32.toInt c_153
          have j_155 := (KQ_f (fun a i z => W_n W147 (by /-r117-/ omega) rfl) g4)
          exact ih M148 v151 (.int v8) (.int v11) hG149 F150 (by omega) (by omega) (by omega) j_155 (by omega)
        · refine to_an (pc := 234) rw_228_234 rfl (s_gR (pc := 235) rw_228_235 hG rfl (v := 117) rfl (to_i (pc := 238) rw_228_238 rfl (s_bal (pc := 240) rw_228_240 hG rfl (n := 40) rfl (A := v11.toInt) rfl (by omega) (by omega) (lo := 0) (hi := 1) rfl rfl (fun v156 w_157 _ _ => b_ieq (pc := 241) rw_228_241 (A := v156.toInt) rfl (fun h158 => ?_) (fun h158 => ?_)))))
          · refine to_c (pc := 248) rw_228_248 (x := (0 : Int32)) rfl rfl (s_zas (pc := 249) rw_228_249 hG rfl (n := 40) rfl (A := x3.toInt) rfl (by omega) (by omega) (B := 0) rfl (by omega) (fun M160 W159 => ?_))
            have hG161 := g_w hG W159 (A := 0) rfl (lo := 0) (hi := 1) rfl rfl (by omega) (by decide)
            have F162 := FR.w F0 W159 (show 117 = 117 by decide)
            refine to_go (pc := 250) rw_228_250 (s_inc (pc := 284) rw_228_284 (ls2 := fun v => [.ref 77, .int c, .int t, .int v, .int v8, .int v11]) rfl rfl (fun _ => rfl) (A := x3.toInt) (B := 1) rfl rfl (by omega) (fun v163 e164 => to_go (pc := 287) rw_228_287 ?_))
            have c_165 : M160.2.1 77 58 = (N.2.1 77 58) := (W_n W159 (fun z => absurd z.1 (by decide)) rfl)
            have t_166 : (M160.2.1 77 58).toInt = (N.2.1 77 58).toInt := congrArg Int32.toInt c_165
            have j_167 := (KQ_f (fun a i z => W_n W159 (by /-r117-/ omega) rfl) g4)
            exact ih M160 v163 (.int v8) (.int v11) hG161 F162 (by omega) (by omega) (by omega) j_167 (by omega)
          · refine to_c (pc := 244) rw_228_244 (x := (1 : Int32)) rfl rfl (to_go (pc := 245) rw_228_245 (s_zas (pc := 249) rw_228_249 hG rfl (n := 40) rfl (A := x3.toInt) rfl (by omega) (by omega) (B := 1) rfl (by omega) (fun M169 W168 => ?_)))
            have hG170 := g_w hG W168 (A := 1) rfl (lo := 0) (hi := 1) rfl rfl (by omega) (by decide)
            have F171 := FR.w F0 W168 (show 117 = 117 by decide)
            refine to_go (pc := 250) rw_228_250 (s_inc (pc := 284) rw_228_284 (ls2 := fun v => [.ref 77, .int c, .int t, .int v, .int v8, .int v11]) rfl rfl (fun _ => rfl) (A := x3.toInt) (B := 1) rfl rfl (by omega) (fun v172 e173 => to_go (pc := 287) rw_228_287 ?_))
            have c_174 : M169.2.1 77 58 = (N.2.1 77 58) := (W_n W168 (fun z => absurd z.1 (by decide)) rfl)
            have t_175 : (M169.2.1 77 58).toInt = (N.2.1 77 58).toInt := congrArg Int32.toInt c_174
            have j_176 := (KQ_f (fun a i z => W_n W168 (by /-r117-/ omega) rfl) g4)
            exact ih M169 v172 (.int v8) (.int v11) hG170 F171 (by omega) (by omega) (by omega) j_176 (by omega)
      · refine s_swd (pc := 32) rw_228_32 (A := v13.toInt) rfl h15 (to_an (pc := 253) rw_228_253 rfl (s_gR (pc := 254) rw_228_254 hG rfl (v := 117) rfl (to_in (pc := 257) rw_228_257 rfl (to_an (pc := 258) rw_228_258 rfl (s_gR (pc := 259) rw_228_259 hG rfl (v := 117) rfl (to_i (pc := 262) rw_228_262 rfl (s_bal (pc := 264) rw_228_264 hG rfl (n := 40) rfl (A := v8.toInt) rfl (by omega) (by omega) (lo := 0) (hi := 1) rfl rfl (fun v177 w_178 _ _ => b_ine (pc := 265) rw_228_265 (A := v177.toInt) rfl (fun h179 => ?_) (fun h179 => ?_)))))))))
        · refine to_c (pc := 278) rw_228_278 (x := (1 : Int32)) rfl rfl (to_go (pc := 279) rw_228_279 (s_zas (pc := 283) rw_228_283 hG rfl (n := 40) rfl (A := x3.toInt) rfl (by omega) (by omega) (B := 1) rfl (by omega) (fun M181 W180 => ?_)))
          have hG182 := g_w hG W180 (A := 1) rfl (lo := 0) (hi := 1) rfl rfl (by omega) (by decide)
          have F183 := FR.w F0 W180 (show 117 = 117 by decide)
          refine s_inc (pc := 284) rw_228_284 (ls2 := fun v => [.ref 77, .int c, .int t, .int v, .int v8, .int v11]) rfl rfl (fun _ => rfl) (A := x3.toInt) (B := 1) rfl rfl (by omega) (fun v184 e185 => to_go (pc := 287) rw_228_287 ?_)
          have c_186 : M181.2.1 77 58 = (N.2.1 77 58) := (W_n W180 (fun z => absurd z.1 (by decide)) rfl)
          have t_187 : (M181.2.1 77 58).toInt = (N.2.1 77 58).toInt := congrArg Int32.toInt c_186
          have j_188 := (KQ_f (fun a i z => W_n W180 (by /-r117-/ omega) rfl) g4)
          exact ih M181 v184 (.int v8) (.int v11) hG182 F183 (by omega) (by omega) (by omega) j_188 (by omega)
        · refine to_an (pc := 268) rw_228_268 rfl (s_gR (pc := 269) rw_228_269 hG rfl (v := 117) rfl (to_i (pc := 272) rw_228_272 rfl (s_bal (pc := 274) rw_228_274 hG rfl (n := 40) rfl (A := v11.toInt) rfl (by omega) (by omega) (lo := 0) (hi := 1) rfl rfl (fun v189 w_190 _ _ => b_ieq (pc := 275) rw_228_275 (A := v189.toInt) rfl (fun h191 => ?_) (fun h191 => ?_)))))
          · refine to_c (pc := 282) rw_228_282 (x := (0 : Int32)) rfl rfl (s_zas (pc := 283) rw_228_283 hG rfl (n := 40) rfl (A := x3.toInt) rfl (by omega) (by omega) (B := 0) rfl (by omega) (fun M193 W192 => ?_))
            have hG194 := g_w hG W192 (A := 0) rfl (lo := 0) (hi := 1) rfl rfl (by omega) (by decide)
            have F195 := FR.w F0 W192 (show 117 = 117 by decide)
            refine s_inc (pc := 284) rw_228_284 (ls2 := fun v => [.ref 77, .int c, .int t, .int v, .int v8, .int v11]) rfl rfl (fun _ => rfl) (A := x3.toInt) (B := 1) rfl rfl (by omega) (fun v196 e197 => to_go (pc := 287) rw_228_287 ?_)
            have c_198 : M193.2.1 77 58 = (N.2.1 77 58) := (W_n W192 (fun z => absurd z.1 (by decide)) rfl)
            have t_199 : (M193.2.1 77 58).toInt = (N.2.1 77 58).toInt := congrArg Int32.toInt c_198
            have j_200 := (KQ_f (fun a i z => W_n W192 (by /-r117-/ omega) rfl) g4)
            exact ih M193 v196 (.int v8) (.int v11) hG194 F195 (by omega) (by omega) (by omega) j_200 (by omega)
          · refine to_c (pc := 278) rw_228_278 (x := (1 : Int32)) rfl rfl (to_go (pc := 279) rw_228_279 (s_zas (pc := 283) rw_228_283 hG rfl (n := 40) rfl (A := x3.toInt) rfl (by omega) (by omega) (B := 1) rfl (by omega) (fun M202 W201 => ?_)))
            have hG203 := g_w hG W201 (A := 1) rfl (lo := 0) (hi := 1) rfl rfl (by omega) (by decide)
            have F204 := FR.w F0 W201 (show 117 = 117 by decide)
            refine s_inc (pc := 284) rw_228_284 (ls2 := fun v => [.ref 77, .int c, .int t, .int v, .int v8, .int v11]) rfl rfl (fun _ => rfl) (A := x3.toInt) (B := 1) rfl rfl (by omega) (fun v205 e206 => to_go (pc := 287) rw_228_287 ?_)
            have c_207 : M202.2.1 77 58 = (N.2.1 77 58) := (W_n W201 (fun z => absurd z.1 (by decide)) rfl)
            have t_208 : (M202.2.1 77 58).toInt = (N.2.1 77 58).toInt := congrArg Int32.toInt c_207
            have j_209 := (KQ_f (fun a i z => W_n W201 (by /-r117-/ omega) rfl) g4)
            exact ih M202 v205 (.int v8) (.int v11) hG203 F204 (by omega) (by omega) (by omega) j_209 (by omega)
set_option maxRecDepth 4000 in
set_option maxHeartbeats 0 in
theorem C_228 {X : mm_X} {d : Nat} {M : mm_M} {Q : Option Value → mm_M → Prop} {c : Int32} {t : Int32} (hX : g_X X) (hd : 1 ≤ d) (hG : g_G M) (q1 : 0 ≤ c.toInt) (q2 : c.toInt ≤ 29) (q3 : 0 ≤ t.toInt) (q4 : t.toInt ≤ 1) (q5 : 1 ≤ (M.2.1 77 58).toInt) (q6 : KQ M) (h : ∀ (r : Int32) (M1 : mm_M), g_G M1 → FR md_an M M1 → (0 ≤ r.toInt) → (r.toInt ≤ 1) → Q (some (.int r)) M1) : mm_T X d 227 0 [.ref 77, .int c, .int t, .null, .null, .null] [] M Q := by
  have F0 : FR md_an M M := FR.rf
  have b_210 := g_b hG (a := 77) (i := 58) (lo := 0) (hi := 40) rfl rfl
  refine to_c (pc := 0) rw_228_0 (x := (0 : Int32)) rfl rfl (to_isn (pc := 1) rw_228_1 (ls2 := [.ref 77, .int c, .int t, .int (0 : Int32), .null, .null]) rfl rfl ?_)
  have k_211 : (0 : Int32).toInt = 0 := rfl
  exact (T_228_0 (c := c) (t := t) hX hd q1 q2 q3 q4 q5 q6 h ((40 - (0 : Int32).toInt).toNat + 1)) M (0 : Int32) (.null) (.null) hG F0 (by omega) (by omega) (by omega) q6 (by omega)
set_option maxRecDepth 4000 in
set_option maxHeartbeats 0 in
theorem T_229_0 {X : mm_X} {d : Nat} {M : mm_M} {Q : Option Value → mm_M → Prop} {n : Int32} {w : Int32} (hX : g_X X) (hd : 3 ≤ d) (q1 : NJ M) (q2 : KQ M) (h : ∀ (r : Int32) (M1 : mm_M), g_G M1 → FR md_as M M1 → Q (some (.int r)) M1) : ∀ nn9 : Nat, (∀ (N : mm_M) (u1 : Value) (x3 : Int32) (x4 : Int32) (x5 : Int32), g_G N → FR md_as M N → (0 ≤ x5.toInt) → (x5.toInt ≤ 30) → (1 ≤ (N.2.1 77 58).toInt) → (KQ N) → 30 - x5.toInt < (nn9 : Int) → mm_T X d 228 44 [.ref 77, u1, .int w, .int x3, .int x4, .int x5] [] N Q) := by
  intro nn9
  induction nn9 with
  | zero =>
    intro N u1 x3 x4 x5 hG F0 g1 g2 g3 g4 hm
    have b_1 := g_b hG (a := 77) (i := 58) (lo := 0) (hi := 40) rfl rfl
    exfalso; omega
  | succ nn9 ih =>
    intro N u1 x3 x4 x5 hG F0 g1 g2 g3 g4 hm
    have b_2 := g_b hG (a := 77) (i := 58) (lo := 0) (hi := 40) rfl rfl
    refine to_i (pc := 44) rw_229_44 rfl (to_an (pc := 46) rw_229_46 rfl ?_)
    have b_3 := g_b hG (a := 77) (i := 28) (lo := 0) (hi := 30) rfl rfl
    refine tt_gI (pc := 47) rw_229_47 (g_o hG rfl) (v := (N.2.1 77 28)) rfl (b_cge (pc := 50) rw_229_50 (A := x5.toInt) (B := (N.2.1 77 28).toInt) rfl rfl (fun h4 => ?_) (fun h4 => ?_))
    · refine to_in (pc := 103) rw_229_103 rfl (b_ine (pc := 104) rw_229_104 (A := w.toInt) rfl (fun h5 => ?_) (fun h5 => ?_))
      · refine to_in (pc := 111) rw_229_111 rfl (to_c (pc := 112) rw_229_112 (x := (1 : Int32)) rfl rfl (b_cne (pc := 113) rw_229_113 (A := w.toInt) (B := 1) rfl rfl (fun h6 => ?_) (fun h6 => ?_)))
        · refine to_in (pc := 121) rw_229_121 rfl (to_c (pc := 122) rw_229_122 (x := (2 : Int32)) rfl rfl (b_cne (pc := 123) rw_229_123 (A := w.toInt) (B := 2) rfl rfl (fun h7 => ?_) (fun h7 => ?_)))
          · refine to_i (pc := 135) rw_229_135 rfl (to_in (pc := 137) rw_229_137 rfl (to_c (pc := 138) rw_229_138 (x := (-1 : Int32)) rfl rfl (s_any (pc := 139) rw_229_139 (fun _ _ => rfl) (fun v8 => s_any (pc := 140) rw_229_140 (fun _ _ => rfl) (fun v9 => to_r0 (pc := 141) rw_229_141 ?_)))))
            exact h v9 N hG F0 
          · refine to_in (pc := 126) rw_229_126 rfl (to_i (pc := 127) rw_229_127 rfl (to_c (pc := 129) rw_229_129 (x := (-1 : Int32)) rfl rfl (s_any (pc := 130) rw_229_130 (fun _ _ => rfl) (fun v11 => s_any (pc := 131) rw_229_131 (fun _ _ => rfl) (fun v12 => to_go (pc := 132) rw_229_132 (to_r0 (pc := 141) rw_229_141 ?_))))))
            exact h v12 N hG F0 
        · refine to_i (pc := 116) rw_229_116 rfl (to_go (pc := 118) rw_229_118 (to_r0 (pc := 141) rw_229_141 ?_))
          exact h x4 N hG F0 
      · refine to_in (pc := 107) rw_229_107 rfl (to_go (pc := 108) rw_229_108 (to_r0 (pc := 141) rw_229_141 ?_))
        exact h x3 N hG F0 
    · refine to_in (pc := 53) rw_229_53 rfl (to_an (pc := 54) rw_229_54 rfl (to_i (pc := 55) rw_229_55 rfl (to_c (pc := 57) rw_229_57 (x := (0 : Int32)) rfl rfl (s_v (pc := 58) rw_229_58 (dp0 hd (by decide)) (ls0 := [.ref 77, .int x5, .int (0 : Int32), .null, .null, .null]) rfl (Nat.le_of_ble_eq_true rfl) (Nat.le_of_ble_eq_true rfl) rfl (to_rc rfl rfl rfl (g_o hG rfl)) rfl ?_))))
      have k_14 : (0 : Int32).toInt = 0 := rfl
      refine C_228 hX (dp1 hd (by decide)) hG (by omega) (by omega) (by omega) (by omega) (by omega) g4 (c := x5) (t := (0 : Int32)) (fun r15 M20 hG17 F16 p_18 p_19 => ?_)
      have F21 := FR.c F0 F16 tg_348
      refine b_ieq (pc := 61) rw_229_61 (A := r15.toInt) rfl (fun h22 => ?_) (fun h22 => ?_)
      · refine to_c (pc := 71) rw_229_71 (x := (0 : Int32)) rfl rfl (s_any (pc := 72) rw_229_72 (fun _ _ => rfl) (fun v23 => to_isn (pc := 73) rw_229_73 (ls2 := [.ref 77, u1, .int w, .int v23, .int x4, .int x5]) rfl rfl (to_i (pc := 74) rw_229_74 rfl (to_an (pc := 76) rw_229_76 rfl (to_i (pc := 77) rw_229_77 rfl (to_c (pc := 79) rw_229_79 (x := (1 : Int32)) rfl rfl (s_v (pc := 80) rw_229_80 (dp0 hd (by decide)) (ls0 := [.ref 77, .int x5, .int (1 : Int32), .null, .null, .null]) rfl (Nat.le_of_ble_eq_true rfl) (Nat.le_of_ble_eq_true rfl) rfl (to_rc rfl rfl rfl (g_o hG17 rfl)) rfl ?_)))))))
        have k_24 : (1 : Int32).toInt = 1 := rfl
        have c_25 : M20.2.1 77 58 = (N.2.1 77 58) := (F_n F16 (show ¬ (77 = 117) by decide) rfl)
        have t_26 : (M20.2.1 77 58).toInt = (N.2.1 77 58).toInt := congrArg Int32.toInt c_25
        have j_27 := (KQ_f (tg_344 F16) g4)
        refine C_228 hX (dp1 hd (by decide)) hG17 (by omega) (by omega) (by omega) (by omega) (by omega) j_27 (c := x5) (t := (1 : Int32)) (fun r28 M33 hG30 F29 p_31 p_32 => ?_)
        have F34 := FR.c F21 F29 tg_348
        refine b_ieq (pc := 83) rw_229_83 (A := r28.toInt) rfl (fun h35 => ?_) (fun h35 => ?_)
        · refine to_c (pc := 93) rw_229_93 (x := (0 : Int32)) rfl rfl (s_any (pc := 94) rw_229_94 (fun _ _ => rfl) (fun v36 => to_is (pc := 95) rw_229_95 (ls2 := [.ref 77, u1, .int w, .int v23, .int v36, .int x5]) rfl rfl (s_inc (pc := 97) rw_229_97 (ls2 := fun v => [.ref 77, u1, .int w, .int v23, .int v36, .int v]) rfl rfl (fun _ => rfl) (A := x5.toInt) (B := 1) rfl rfl (by omega) (fun v37 e38 => to_go (pc := 100) rw_229_100 ?_))))
          have c_39 : M33.2.1 77 58 = (N.2.1 77 58) := (F_n F29 (show ¬ (77 = 117) by decide) c_25)
          have t_40 : (M33.2.1 77 58).toInt = (N.2.1 77 58).toInt := congrArg Int32.toInt c_39
          have j_41 := (KQ_f (tg_344 F29) j_27)
          exact ih M33 (u1) v23 v36 v37 hG30 F34 (by omega) (by omega) (by omega) j_41 (by omega)
        · refine to_c (pc := 86) rw_229_86 (x := (1 : Int32)) rfl rfl (to_i (pc := 87) rw_229_87 rfl (s_any (pc := 89) rw_229_89 (fun _ _ => rfl) (fun v42 => to_go (pc := 90) rw_229_90 (s_any (pc := 94) rw_229_94 (fun _ _ => rfl) (fun v43 => to_is (pc := 95) rw_229_95 (ls2 := [.ref 77, u1, .int w, .int v23, .int v43, .int x5]) rfl rfl (s_inc (pc := 97) rw_229_97 (ls2 := fun v => [.ref 77, u1, .int w, .int v23, .int v43, .int v]) rfl rfl (fun _ => rfl) (A := x5.toInt) (B := 1) rfl rfl (by omega) (fun v44 e45 => to_go (pc := 100) rw_229_100 ?_)))))))
          have c_46 : M33.2.1 77 58 = (N.2.1 77 58) := (F_n F29 (show ¬ (77 = 117) by decide) c_25)
          have t_47 : (M33.2.1 77 58).toInt = (N.2.1 77 58).toInt := congrArg Int32.toInt c_46
          have j_48 := (KQ_f (tg_344 F29) j_27)
          exact ih M33 (u1) v23 v43 v44 hG30 F34 (by omega) (by omega) (by omega) j_48 (by omega)
      · refine to_c (pc := 64) rw_229_64 (x := (1 : Int32)) rfl rfl (to_i (pc := 65) rw_229_65 rfl (s_any (pc := 67) rw_229_67 (fun _ _ => rfl) (fun v49 => to_go (pc := 68) rw_229_68 (s_any (pc := 72) rw_229_72 (fun _ _ => rfl) (fun v50 => to_isn (pc := 73) rw_229_73 (ls2 := [.ref 77, u1, .int w, .int v50, .int x4, .int x5]) rfl rfl (to_i (pc := 74) rw_229_74 rfl (to_an (pc := 76) rw_229_76 rfl (to_i (pc := 77) rw_229_77 rfl (to_c (pc := 79) rw_229_79 (x := (1 : Int32)) rfl rfl (s_v (pc := 80) rw_229_80 (dp0 hd (by decide)) (ls0 := [.ref 77, .int x5, .int (1 : Int32), .null, .null, .null]) rfl (Nat.le_of_ble_eq_true rfl) (Nat.le_of_ble_eq_true rfl) rfl (to_rc rfl rfl rfl (g_o hG17 rfl)) rfl ?_))))))))))
        have k_51 : (1 : Int32).toInt = 1 := rfl
        have c_52 : M20.2.1 77 58 = (N.2.1 77 58) := (F_n F16 (show ¬ (77 = 117) by decide) rfl)
        have t_53 : (M20.2.1 77 58).toInt = (N.2.1 77 58).toInt := congrArg Int32.toInt c_52
        have j_54 := (KQ_f (tg_344 F16) g4)
        refine C_228 hX (dp1 hd (by decide)) hG17 (by omega) (by omega) (by omega) (by omega) (by omega) j_54 (c := x5) (t := (1 : Int32)) (fun r55 M60 hG57 F56 p_58 p_59 => ?_)
        have F61 := FR.c F21 F56 tg_348
        refine b_ieq (pc := 83) rw_229_83 (A := r55.toInt) rfl (fun h62 => ?_) (fun h62 => ?_)
        · refine to_c (pc := 93) rw_229_93 (x := (0 : Int32)) rfl rfl (s_any (pc := 94) rw_229_94 (fun _ _ => rfl) (fun v63 => to_is (pc := 95) rw_229_95 (ls2 := [.ref 77, u1, .int w, .int v50, .int v63, .int x5]) rfl rfl (s_inc (pc := 97) rw_229_97 (ls2 := fun v => [.ref 77, u1, .int w, .int v50, .int v63, .int v]) rfl rfl (fun _ => rfl) (A := x5.toInt) (B := 1) rfl rfl (by omega) (fun v64 e65 => to_go (pc := 100) rw_229_100 ?_))))
          have c_66 : M60.2.1 77 58 = (N.2.1 77 58) := (F_n F56 (show ¬ (77 = 117) by decide) c_52)
          have t_67 : (M60.2.1 77 58).toInt = (N.2.1 77 58).toInt := congrArg Int32.toInt c_66
          have j_68 := (KQ_f (tg_344 F56) j_54)
          exact ih M60 (u1) v50 v63 v64 hG57 F61 (by omega) (by omega) (by omega) j_68 (by omega)
        · refine to_c (pc := 86) rw_229_86 (x := (1 : Int32)) rfl rfl (to_i (pc := 87) rw_229_87 rfl (s_any (pc := 89) rw_229_89 (fun _ _ => rfl) (fun v69 => to_go (pc := 90) rw_229_90 (s_any (pc := 94) rw_229_94 (fun _ _ => rfl) (fun v70 => to_is (pc := 95) rw_229_95 (ls2 := [.ref 77, u1, .int w, .int v50, .int v70, .int x5]) rfl rfl (s_inc (pc := 97) rw_229_97 (ls2 := fun v => [.ref 77, u1, .int w, .int v50, .int v70, .int v]) rfl rfl (fun _ => rfl) (A := x5.toInt) (B := 1) rfl rfl (by omega) (fun v71 e72 => to_go (pc := 100) rw_229_100 ?_)))))))
          have c_73 : M60.2.1 77 58 = (N.2.1 77 58) := (F_n F56 (show ¬ (77 = 117) by decide) c_52)
          have t_74 : (M60.2.1 77 58).toInt = (N.2.1 77 58).toInt := congrArg Int32.toInt c_73
          have j_75 := (KQ_f (tg_344 F56) j_54)
          exact ih M60 (u1) v50 v70 v71 hG57 F61 (by omega) (by omega) (by omega) j_75 (by omega)
set_option maxRecDepth 4000 in
set_option maxHeartbeats 0 in
theorem C_229 {X : mm_X} {d : Nat} {M : mm_M} {Q : Option Value → mm_M → Prop} {n : Int32} {w : Int32} (hX : g_X X) (hd : 3 ≤ d) (hG : g_G M) (q1 : NJ M) (q2 : KQ M) (h : ∀ (r : Int32) (M1 : mm_M), g_G M1 → FR md_as M M1 → Q (some (.int r)) M1) : mm_T X d 228 0 [.ref 77, .int n, .int w, .null, .null, .null] [] M Q := by
  have F0 : FR md_as M M := FR.rf
  have b_76 := g_b hG (a := 77) (i := 57) (lo := 0) (hi := 1) rfl rfl
  have b_77 := g_b hG (a := 77) (i := 58) (lo := 0) (hi := 40) rfl rfl
  have s_78 := KQ_h q2
  refine to_an (pc := 0) rw_229_0 rfl (to_c (pc := 1) rw_229_1 (x := (0 : Int32)) rfl rfl (s_pI (pc := 2) rw_229_2 hG rfl (fun M80 W79 => ?_)))
  have hG81 := g_wf hG W79 rfl rfl (by decide)
  have F82 := FR.w F0 W79 (show 77 = 77 ∧ 2 = 2 ∨ 94 ≤ 77 ∧ 77 ≤ 98 ∨ 77 = 117 by decide)
  refine to_an (pc := 5) rw_229_5 rfl ?_
  have c_83 : M80.2.1 77 57 = (M.2.1 77 57) := (W_n W79 (by decide) rfl)
  refine tt_gZ (pc := 6) rw_229_6 (g_o hG81 rfl) (v := (M.2.1 77 57)) c_83 (b_ieq (pc := 9) rw_229_9 (A := (M.2.1 77 57).toInt) rfl (fun h84 => ?_) (fun h84 => ?_))
  · refine to_c (pc := 29) rw_229_29 (x := (-1 : Int32)) rfl rfl (to_r0 (pc := 30) rw_229_30 ?_)
    have k_85 : (-1 : Int32).toInt = -1 := rfl
    exact h (-1 : Int32) M80 hG81 F82 
  · refine to_an (pc := 12) rw_229_12 rfl (to_in (pc := 13) rw_229_13 rfl (s_v (pc := 14) rw_229_14 (dp0 hd (by decide)) (ls0 := [.ref 77, .int n]) rfl (Nat.le_of_ble_eq_true rfl) (Nat.le_of_ble_eq_true rfl) rfl (to_rc rfl rfl rfl (g_o hG81 rfl)) rfl (to_in (pc := 0) rw_186_0 rfl (b_ilt (pc := 1) rw_186_1 (A := n.toInt) rfl (fun h86 => ?_) (fun h86 => ?_)))))
    · refine to_c (pc := 16) rw_186_16 (x := (0 : Int32)) rfl rfl (s_r1 (pc := 17) rw_186_17 (A := 0) rfl (by decide) (b_ieq_t (pc := 17) rw_229_17 (A := 0) rfl (by decide) (to_c (pc := 29) rw_229_29 (x := (-1 : Int32)) rfl rfl (to_r0 (pc := 30) rw_229_30 ?_))))
      have k_87 : (-1 : Int32).toInt = -1 := rfl
      exact h (-1 : Int32) M80 hG81 F82 
    · refine to_in (pc := 4) rw_186_4 rfl (to_an (pc := 5) rw_186_5 rfl ?_)
      have c_88 : M80.2.1 77 29 = (M.2.1 77 29) := (W_n W79 (by decide) rfl)
      have b_89 := g_b hG (a := 77) (i := 29) (lo := 0) (hi := 150) rfl rfl
      refine tt_gI (pc := 6) rw_186_6 (g_o hG81 rfl) (v := (M.2.1 77 29)) c_88 (b_cgt (pc := 9) rw_186_9 (A := n.toInt) (B := (M.2.1 77 29).toInt) rfl rfl (fun h90 => ?_) (fun h90 => ?_))
      · refine to_c (pc := 16) rw_186_16 (x := (0 : Int32)) rfl rfl (s_r1 (pc := 17) rw_186_17 (A := 0) rfl (by decide) (b_ieq_t (pc := 17) rw_229_17 (A := 0) rfl (by decide) (to_c (pc := 29) rw_229_29 (x := (-1 : Int32)) rfl rfl (to_r0 (pc := 30) rw_229_30 ?_))))
        have k_91 : (-1 : Int32).toInt = -1 := rfl
        exact h (-1 : Int32) M80 hG81 F82 
      · refine to_c (pc := 12) rw_186_12 (x := (1 : Int32)) rfl rfl (to_go (pc := 13) rw_186_13 (s_r1 (pc := 17) rw_186_17 (A := 1) rfl (by decide) (b_ieq_f (pc := 17) rw_229_17 (A := 1) rfl (by decide) (to_in (pc := 20) rw_229_20 rfl (to_c (pc := 21) rw_229_21 (x := (0 : Int32)) rfl rfl (to_c (pc := 22) rw_229_22 (x := (3 : Int32)) rfl rfl (s_s (pc := 23) rw_229_23 (dp0 hd (by decide)) (ls0 := [.int w, .int (0 : Int32), .int (3 : Int32)]) rfl (Nat.le_of_ble_eq_true rfl) (Nat.le_of_ble_eq_true rfl) rfl (to_rcs rfl rfl) rfl (to_in (pc := 0) rw_149_0 rfl (to_in (pc := 1) rw_149_1 rfl (b_clt (pc := 2) rw_149_2 (A := w.toInt) (B := 0) rfl rfl (fun h92 => ?_) (fun h92 => ?_)))))))))))
        · refine to_c (pc := 14) rw_149_14 (x := (0 : Int32)) rfl rfl (s_r1 (pc := 15) rw_149_15 (A := 0) rfl (by decide) (b_ine_f (pc := 26) rw_229_26 (A := 0) rfl (by decide) (to_c (pc := 29) rw_229_29 (x := (-1 : Int32)) rfl rfl (to_r0 (pc := 30) rw_229_30 ?_))))
          have k_93 : (-1 : Int32).toInt = -1 := rfl
          exact h (-1 : Int32) M80 hG81 F82 
        · refine to_in (pc := 5) rw_149_5 rfl (to_in (pc := 6) rw_149_6 rfl (b_cgt (pc := 7) rw_149_7 (A := w.toInt) (B := 3) rfl rfl (fun h94 => ?_) (fun h94 => ?_)))
          · refine to_c (pc := 14) rw_149_14 (x := (0 : Int32)) rfl rfl (s_r1 (pc := 15) rw_149_15 (A := 0) rfl (by decide) (b_ine_f (pc := 26) rw_229_26 (A := 0) rfl (by decide) (to_c (pc := 29) rw_229_29 (x := (-1 : Int32)) rfl rfl (to_r0 (pc := 30) rw_229_30 ?_))))
            have k_95 : (-1 : Int32).toInt = -1 := rfl
            exact h (-1 : Int32) M80 hG81 F82 
          · refine to_c (pc := 10) rw_149_10 (x := (1 : Int32)) rfl rfl (to_go (pc := 11) rw_149_11 (s_r1 (pc := 15) rw_149_15 (A := 1) rfl (by decide) (b_ine_t (pc := 26) rw_229_26 (A := 1) rfl (by decide) (to_an (pc := 31) rw_229_31 rfl (to_in (pc := 32) rw_229_32 rfl (s_v (pc := 33) rw_229_33 (dp0 hd (by decide)) (ls0 := [.ref 77, .int n, .null, .null]) rfl (Nat.le_of_ble_eq_true rfl) (Nat.le_of_ble_eq_true rfl) rfl (to_rc rfl rfl rfl (g_o hG81 rfl)) rfl ?_))))))
            have t_96 : (M80.2.1 77 29).toInt = (M.2.1 77 29).toInt := congrArg Int32.toInt c_88
            have j_97 := (NJ_f (fun a i z => W_n W79 (by /-r77,2-/ omega) rfl) q1)
            refine C_189 hX (dp1 hd (by decide)) hG81 (by omega) (by omega) (by omega) j_97 (n := n) (fun M100 hG99 F98 => ?_)
            have F101 := FR.c F82 F98 tg_349
            refine to_c (pc := 36) rw_229_36 (x := (0 : Int32)) rfl rfl (to_isn (pc := 37) rw_229_37 (ls2 := [.ref 77, .int n, .int w, .int (0 : Int32), .null, .null]) rfl rfl (to_c (pc := 38) rw_229_38 (x := (0 : Int32)) rfl rfl (to_is (pc := 39) rw_229_39 (ls2 := [.ref 77, .int n, .int w, .int (0 : Int32), .int (0 : Int32), .null]) rfl rfl (to_c (pc := 41) rw_229_41 (x := (0 : Int32)) rfl rfl (to_is (pc := 42) rw_229_42 (ls2 := [.ref 77, .int n, .int w, .int (0 : Int32), .int (0 : Int32), .int (0 : Int32)]) rfl rfl ?_)))))
            have k_102 : (0 : Int32).toInt = 0 := rfl
            have c_103 : M100.2.1 77 58 = (M.2.1 77 58) := (F_n F98 (show ¬ (94 ≤ 77 ∧ 77 ≤ 98) by decide) (W_n W79 (by decide) rfl))
            have t_104 : (M100.2.1 77 58).toInt = (M.2.1 77 58).toInt := congrArg Int32.toInt c_103
            have j_105 := (KQ_f (tg_345 F98) (KQ_f (fun a i z => W_n W79 (by /-r77,2-/ omega) rfl) q2))
            exact (T_229_0 (n := n) (w := w) hX hd q1 q2 h ((30 - (0 : Int32).toInt).toNat + 1)) M100 (.int n) (0 : Int32) (0 : Int32) (0 : Int32) hG99 F101 (by omega) (by omega) (by omega) j_105 (by omega)
set_option maxRecDepth 4000 in
set_option maxHeartbeats 0 in
theorem T_230_0 {X : mm_X} {d : Nat} {M : mm_M} {Q : Option Value → mm_M → Prop} {n : Int32} {k : Int32} (hX : g_X X) (hd : 0 ≤ d) (q1 : k.toInt ≤ 24) (h : ∀ (r : Int64) (M1 : mm_M), g_G M1 → FR md_0 M M1 → Q (some (.long r)) M1) : ∀ nn9 : Nat, (∀ (N : mm_M) (y2 : Int64) (x4 : Int32), g_G N → FR md_0 M N → (0 ≤ x4.toInt) → (x4.toInt ≤ 24) → 24 - x4.toInt < (nn9 : Int) → mm_T X d 229 5 [.int n, .int k, .long y2, .null, .int x4] [] N Q) := by
  intro nn9
  induction nn9 with
  | zero =>
    intro N y2 x4 hG F0 g1 g2 hm
    exfalso; omega
  | succ nn9 ih =>
    intro N y2 x4 hG F0 g1 g2 hm
    refine to_i (pc := 5) rw_230_5 rfl (to_in (pc := 7) rw_230_7 rfl (b_cge (pc := 8) rw_230_8 (A := x4.toInt) (B := k.toInt) rfl rfl (fun h1 => ?_) (fun h1 => ?_)))
    · refine to_in (pc := 31) rw_230_31 rfl (to_in (pc := 32) rw_230_32 rfl (b_cge (pc := 33) rw_230_33 (A := n.toInt) (B := k.toInt) rfl rfl (fun h2 => ?_) (fun h2 => ?_)))
      · refine to_ln (pc := 40) rw_230_40 rfl rfl rfl (to_rl (pc := 41) rw_230_41 ?_)
        exact h y2 N hG F0 
      · refine s_cl (pc := 36) rw_230_36 rfl (fun l3 => to_go (pc := 37) rw_230_37 (to_rl (pc := 41) rw_230_41 ?_))
        exact h l3 N hG F0 
    · refine to_ln (pc := 11) rw_230_11 rfl rfl rfl (to_in (pc := 12) rw_230_12 rfl (to_i (pc := 13) rw_230_13 rfl (s_any (pc := 15) rw_230_15 (fun _ _ => rfl) (fun v4 => s_i2l (pc := 16) rw_230_16 (fun l5 e6 => s_anyL (pc := 17) rw_230_17 (fun _ _ => rfl) (fun l7 => to_i (pc := 18) rw_230_18 rfl (to_c (pc := 20) rw_230_20 (x := (1 : Int32)) rfl rfl (s_add (pc := 21) rw_230_21 (A := x4.toInt) (B := 1) rfl rfl (by omega) (fun v8 e9 => s_i2l (pc := 22) rw_230_22 (fun l10 e11 => s_ldiv (pc := 23) rw_230_23 e11 (A := v8.toInt) rfl (by omega) (fun l12 => to_lsn (pc := 24) rw_230_24 (ls2 := [.int n, .int k, .long l12, .null, .int x4]) rfl rfl ?_)))))))))))
      refine s_inc (pc := 25) rw_230_25 (ls2 := fun v => [.int n, .int k, .long l12, .null, .int v]) rfl rfl (fun _ => rfl) (A := x4.toInt) (B := 1) rfl rfl (by omega) (fun v13 e14 => to_go (pc := 28) rw_230_28 ?_)
      exact ih N l12 v13 hG F0 (by omega) (by omega) (by omega)
set_option maxRecDepth 4000 in
set_option maxHeartbeats 0 in
theorem C_230 {X : mm_X} {d : Nat} {M : mm_M} {Q : Option Value → mm_M → Prop} {n : Int32} {k : Int32} (hX : g_X X) (hd : 0 ≤ d) (hG : g_G M) (q1 : k.toInt ≤ 24) (h : ∀ (r : Int64) (M1 : mm_M), g_G M1 → FR md_0 M M1 → Q (some (.long r)) M1) : mm_T X d 229 0 [.int n, .int k, .null, .null, .null] [] M Q := by
  have F0 : FR md_0 M M := FR.rf
  refine s_cl (pc := 0) rw_230_0 rfl (fun l15 => to_lsn (pc := 1) rw_230_1 (ls2 := [.int n, .int k, .long l15, .null, .null]) rfl rfl (to_c (pc := 2) rw_230_2 (x := (0 : Int32)) rfl rfl (to_is (pc := 3) rw_230_3 (ls2 := [.int n, .int k, .long l15, .null, .int (0 : Int32)]) rfl rfl ?_)))
  have k_16 : (0 : Int32).toInt = 0 := rfl
  exact (T_230_0 (n := n) (k := k) hX hd q1 h ((24 - (0 : Int32).toInt).toNat + 1)) M l15 (0 : Int32) hG F0 (by omega) (by omega) (by omega)
set_option maxRecDepth 4000 in
set_option maxHeartbeats 0 in
theorem C_232 {X : mm_X} {d : Nat} {M : mm_M} {Q : Option Value → mm_M → Prop} {c : Int32} {f : Int32} (hX : g_X X) (hd : 1 ≤ d) (hG : g_G M) (q1 : 0 ≤ c.toInt) (q2 : c.toInt ≤ 29) (q3 : 0 ≤ f.toInt) (q4 : f.toInt ≤ 7) (h : ∀ (r : Int64) (M1 : mm_M), g_G M1 → FR md_0 M M1 → Q (some (.long r)) M1) : mm_T X d 231 0 [.ref 77, .int c, .int f] [] M Q := by
  have F0 : FR md_0 M M := FR.rf
  refine to_an (pc := 0) rw_232_0 rfl (s_gR (pc := 1) rw_232_1 hG rfl (v := 96) rfl (to_in (pc := 4) rw_232_4 rfl (s_lal (pc := 5) rw_232_5 hG rfl (n := 30) rfl (A := c.toInt) rfl (by omega) (by omega) (fun l1 => to_an (pc := 6) rw_232_6 rfl (s_gR (pc := 7) rw_232_7 hG rfl (v := 82) rfl (to_in (pc := 10) rw_232_10 rfl (s_ial (pc := 11) rw_232_11 hG rfl (n := 16) rfl rfl (A := f.toInt) rfl (by omega) (by omega) (lo := 0) (hi := 59) rfl rfl (fun v2 w_3 _ _ => to_an (pc := 12) rw_232_12 rfl (s_gR (pc := 13) rw_232_13 hG rfl (v := 83) rfl (to_in (pc := 16) rw_232_16 rfl (s_ial (pc := 17) rw_232_17 hG rfl (n := 16) rfl rfl (A := f.toInt) rfl (by omega) (by omega) (lo := 0) (hi := 63) rfl rfl (fun v4 w_5 _ _ => ?_))))))))))))
  refine s_s (pc := 18) rw_232_18 (dp0 hd (by decide)) (ls0 := [.int v2, .int v4, .null, .null, .null]) rfl (Nat.le_of_ble_eq_true rfl) (Nat.le_of_ble_eq_true rfl) rfl (to_rcs rfl rfl) rfl (C_168 hX (dp1 hd (by decide)) hG (by omega) (by omega) (by omega) (a := v2) (b := v4) (fun r6 M9 hG8 F7 => ?_))
  have F10 := FR.c F0 F7 tg_29
  refine s_anyL (pc := 21) rw_232_21 (fun _ _ => rfl) (fun l11 => to_rl (pc := 22) rw_232_22 ?_)
  exact h l11 M9 hG8 F10 
set_option maxRecDepth 4000 in
set_option maxHeartbeats 0 in
theorem T_233_0 {X : mm_X} {d : Nat} {M : mm_M} {Q : Option Value → mm_M → Prop} {n : Int32} {w : Int32} {k : Int32} (hX : g_X X) (hd : 3 ≤ d) (q1 : NJ M) (h : ∀ (r : Int64) (M1 : mm_M), g_G M1 → FR md_k2 M M1 → Q (some (.long r)) M1) : ∀ nn9 : Nat, (∀ (N : mm_M) (u1 : Value) (u3 : Value) (x4 : Int32) (y5 : Int64) (x7 : Int32), g_G N → FR md_k2 M N → (0 ≤ x7.toInt) → (x7.toInt ≤ 30) → (0 ≤ x4.toInt) → (x4.toInt ≤ 7) → 30 - x7.toInt < (nn9 : Int) → mm_T X d 232 75 [.ref 77, u1, .int w, u3, .int x4, .long y5, .null, .int x7] [] N Q) := by
  intro nn9
  induction nn9 with
  | zero =>
    intro N u1 u3 x4 y5 x7 hG F0 g1 g2 g3 g4 hm
    exfalso; omega
  | succ nn9 ih =>
    intro N u1 u3 x4 y5 x7 hG F0 g1 g2 g3 g4 hm
    refine to_i (pc := 75) rw_233_75 rfl (to_an (pc := 77) rw_233_77 rfl ?_)
    have b_1 := g_b hG (a := 77) (i := 28) (lo := 0) (hi := 30) rfl rfl
    refine tt_gI (pc := 78) rw_233_78 (g_o hG rfl) (v := (N.2.1 77 28)) rfl (b_cge (pc := 81) rw_233_81 (A := x7.toInt) (B := (N.2.1 77 28).toInt) rfl rfl (fun h2 => ?_) (fun h2 => ?_))
    · refine to_l (pc := 130) rw_233_130 rfl rfl rfl (to_rl (pc := 132) rw_233_132 ?_)
      exact h y5 N hG F0 
    · refine to_l (pc := 84) rw_233_84 rfl rfl rfl (to_an (pc := 86) rw_233_86 rfl (to_i (pc := 87) rw_233_87 rfl (to_in (pc := 89) rw_233_89 rfl (s_v (pc := 90) rw_233_90 (dp0 hd (by decide)) (ls0 := [.ref 77, .int x7, .int w]) rfl (Nat.le_of_ble_eq_true rfl) (Nat.le_of_ble_eq_true rfl) rfl (to_rc rfl rfl rfl (g_o hG rfl)) rfl (to_an (pc := 0) rw_231_0 rfl (s_gR (pc := 1) rw_231_1 hG rfl (v := 98) rfl (to_in (pc := 4) rw_231_4 rfl (s_ial (pc := 5) rw_231_5 hG rfl (n := 30) rfl rfl (A := x7.toInt) rfl (by omega) (by omega) (lo := -2147483648) (hi := 2147483647) rfl rfl (fun v3 w_4 _ _ => to_in (pc := 6) rw_231_6 rfl (s_any (pc := 7) rw_231_7 (fun _ _ => rfl) (fun v5 => to_c (pc := 8) rw_231_8 (x := (1 : Int32)) rfl rfl ?_)))))))))))
      refine s_and (pc := 9) rw_231_9 (B := 1) rfl (by omega) (fun v6 e7 _ _ => to_c (pc := 10) rw_231_10 (x := (1 : Int32)) rfl rfl (b_cne (pc := 11) rw_231_11 (A := v6.toInt) (B := 1) rfl rfl (fun h8 => ?_) (fun h8 => ?_)))
      · refine to_c (pc := 18) rw_231_18 (x := (0 : Int32)) rfl rfl (s_r1 (pc := 19) rw_231_19 (A := 0) rfl (by decide) (b_ieq_t (pc := 93) rw_233_93 (A := 0) rfl (by decide) (to_an (pc := 100) rw_233_100 rfl (to_i (pc := 101) rw_233_101 rfl (to_i (pc := 103) rw_233_103 rfl (s_v (pc := 105) rw_233_105 (dp0 hd (by decide)) (ls0 := [.ref 77, .int x7, .int x4]) rfl (Nat.le_of_ble_eq_true rfl) (Nat.le_of_ble_eq_true rfl) rfl (to_rc rfl rfl rfl (g_o hG rfl)) rfl (C_232 hX (dp1 hd (by decide)) hG (by omega) (by omega) (by omega) (by omega) (c := x7) (f := x4) (fun r9 M12 hG11 F10 => ?_))))))))
        have F13 := FR.c F0 F10 tg_264
        refine s_s (pc := 108) rw_233_108 (dp0 hd (by decide)) (ls0 := [.long r9, .null, .null, .null]) rfl (Nat.le_of_ble_eq_true rfl) (Nat.le_of_ble_eq_true rfl) rfl (to_rcs rfl rfl) rfl (C_151 hX (dp1 hd (by decide)) hG11 (x := r9) (fun r14 M19 hG16 F15 p_17 p_18 => ?_))
        have F20 := FR.c F13 F15 tg_264
        refine to_an (pc := 111) rw_233_111 rfl (s_gR (pc := 112) rw_233_112 hG16 rfl (v := 84) rfl (to_i (pc := 115) rw_233_115 rfl (s_ial (pc := 117) rw_233_117 hG16 rfl (n := 16) rfl rfl (A := x4.toInt) rfl (by omega) (by omega) (lo := 0) (hi := 24) rfl rfl (fun v21 w_22 _ _ => s_s (pc := 118) rw_233_118 (dp0 hd (by decide)) (ls0 := [.int r14, .int v21, .null, .null, .null]) rfl (Nat.le_of_ble_eq_true rfl) (Nat.le_of_ble_eq_true rfl) rfl (to_rcs rfl rfl) rfl (C_230 hX (dp1 hd (by decide)) hG16 (by omega) (n := r14) (k := v21) (fun r23 M26 hG25 F24 => ?_))))))
        have F27 := FR.c F20 F24 tg_264
        refine s_anyL (pc := 121) rw_233_121 (fun _ _ => rfl) (fun l28 => to_ls (pc := 122) rw_233_122 (ls2 := [.ref 77, u1, .int w, u3, .int x4, .long l28, .null, .int x7]) rfl rfl (s_inc (pc := 124) rw_233_124 (ls2 := fun v => [.ref 77, u1, .int w, u3, .int x4, .long l28, .null, .int v]) rfl rfl (fun _ => rfl) (A := x7.toInt) (B := 1) rfl rfl (by omega) (fun v29 e30 => to_go (pc := 127) rw_233_127 ?_)))
        exact ih M26 (u1) (u3) x4 l28 v29 hG25 F27 (by omega) (by omega) (by omega) (by omega) (by omega)
      · refine to_c (pc := 14) rw_231_14 (x := (1 : Int32)) rfl rfl (to_go (pc := 15) rw_231_15 (s_r1 (pc := 19) rw_231_19 (A := 1) rfl (by decide) (b_ieq_f (pc := 93) rw_233_93 (A := 1) rfl (by decide) (s_cl (pc := 96) rw_233_96 rfl (fun l31 => to_go (pc := 97) rw_233_97 (s_anyL (pc := 121) rw_233_121 (fun _ _ => rfl) (fun l32 => to_ls (pc := 122) rw_233_122 (ls2 := [.ref 77, u1, .int w, u3, .int x4, .long l32, .null, .int x7]) rfl rfl (s_inc (pc := 124) rw_233_124 (ls2 := fun v => [.ref 77, u1, .int w, u3, .int x4, .long l32, .null, .int v]) rfl rfl (fun _ => rfl) (A := x7.toInt) (B := 1) rfl rfl (by omega) (fun v33 e34 => to_go (pc := 127) rw_233_127 ?_)))))))))
        exact ih N (u1) (u3) x4 l32 v33 hG F0 (by omega) (by omega) (by omega) (by omega) (by omega)
set_option maxRecDepth 4000 in
set_option maxHeartbeats 0 in
theorem C_233 {X : mm_X} {d : Nat} {M : mm_M} {Q : Option Value → mm_M → Prop} {n : Int32} {w : Int32} {k : Int32} (hX : g_X X) (hd : 3 ≤ d) (hG : g_G M) (q1 : NJ M) (h : ∀ (r : Int64) (M1 : mm_M), g_G M1 → FR md_k2 M M1 → Q (some (.long r)) M1) : mm_T X d 232 0 [.ref 77, .int n, .int w, .int k, .null, .null, .null, .null] [] M Q := by
  have F0 : FR md_k2 M M := FR.rf
  refine to_an (pc := 0) rw_233_0 rfl (to_c (pc := 1) rw_233_1 (x := (0 : Int32)) rfl rfl (s_pI (pc := 2) rw_233_2 hG rfl (fun M36 W35 => ?_)))
  have hG37 := g_wf hG W35 rfl rfl (by decide)
  have F38 := FR.w F0 W35 (show 77 = 77 ∧ 2 = 2 ∨ 94 ≤ 77 ∧ 77 ≤ 98 by decide)
  refine to_an (pc := 5) rw_233_5 rfl (to_in (pc := 6) rw_233_6 rfl (s_v (pc := 7) rw_233_7 (dp0 hd (by decide)) (ls0 := [.ref 77, .int n]) rfl (Nat.le_of_ble_eq_true rfl) (Nat.le_of_ble_eq_true rfl) rfl (to_rc rfl rfl rfl (g_o hG37 rfl)) rfl (to_in (pc := 0) rw_186_0 rfl (b_ilt (pc := 1) rw_186_1 (A := n.toInt) rfl (fun h39 => ?_) (fun h39 => ?_)))))
  · refine to_c (pc := 16) rw_186_16 (x := (0 : Int32)) rfl rfl (s_r1 (pc := 17) rw_186_17 (A := 0) rfl (by decide) (b_ieq_t (pc := 10) rw_233_10 (A := 0) rfl (by decide) (s_cl (pc := 30) rw_233_30 rfl (fun l40 => to_rl (pc := 33) rw_233_33 ?_))))
    exact h l40 M36 hG37 F38 
  · refine to_in (pc := 4) rw_186_4 rfl (to_an (pc := 5) rw_186_5 rfl ?_)
    have c_41 : M36.2.1 77 29 = (M.2.1 77 29) := (W_n W35 (by decide) rfl)
    have b_42 := g_b hG (a := 77) (i := 29) (lo := 0) (hi := 150) rfl rfl
    refine tt_gI (pc := 6) rw_186_6 (g_o hG37 rfl) (v := (M.2.1 77 29)) c_41 (b_cgt (pc := 9) rw_186_9 (A := n.toInt) (B := (M.2.1 77 29).toInt) rfl rfl (fun h43 => ?_) (fun h43 => ?_))
    · refine to_c (pc := 16) rw_186_16 (x := (0 : Int32)) rfl rfl (s_r1 (pc := 17) rw_186_17 (A := 0) rfl (by decide) (b_ieq_t (pc := 10) rw_233_10 (A := 0) rfl (by decide) (s_cl (pc := 30) rw_233_30 rfl (fun l44 => to_rl (pc := 33) rw_233_33 ?_))))
      exact h l44 M36 hG37 F38 
    · refine to_c (pc := 12) rw_186_12 (x := (1 : Int32)) rfl rfl (to_go (pc := 13) rw_186_13 (s_r1 (pc := 17) rw_186_17 (A := 1) rfl (by decide) (b_ieq_f (pc := 10) rw_233_10 (A := 1) rfl (by decide) (to_an (pc := 13) rw_233_13 rfl (to_in (pc := 14) rw_233_14 rfl (s_v (pc := 15) rw_233_15 (dp0 hd (by decide)) (ls0 := [.ref 77, .int w]) rfl (Nat.le_of_ble_eq_true rfl) (Nat.le_of_ble_eq_true rfl) rfl (to_rc rfl rfl rfl (g_o hG37 rfl)) rfl (to_in (pc := 0) rw_180_0 rfl (b_ilt (pc := 1) rw_180_1 (A := w.toInt) rfl (fun h45 => ?_) (fun h45 => ?_)))))))))
      · refine to_c (pc := 16) rw_180_16 (x := (0 : Int32)) rfl rfl (s_r1 (pc := 17) rw_180_17 (A := 0) rfl (by decide) (b_ieq_t (pc := 18) rw_233_18 (A := 0) rfl (by decide) (s_cl (pc := 30) rw_233_30 rfl (fun l46 => to_rl (pc := 33) rw_233_33 ?_))))
        exact h l46 M36 hG37 F38 
      · refine to_in (pc := 4) rw_180_4 rfl (to_an (pc := 5) rw_180_5 rfl ?_)
        have c_47 : M36.2.1 77 13 = (M.2.1 77 13) := (W_n W35 (by decide) rfl)
        have b_48 := g_b hG (a := 77) (i := 13) (lo := 0) (hi := 12) rfl rfl
        refine tt_gI (pc := 6) rw_180_6 (g_o hG37 rfl) (v := (M.2.1 77 13)) c_47 (b_cge (pc := 9) rw_180_9 (A := w.toInt) (B := (M.2.1 77 13).toInt) rfl rfl (fun h49 => ?_) (fun h49 => ?_))
        · refine to_c (pc := 16) rw_180_16 (x := (0 : Int32)) rfl rfl (s_r1 (pc := 17) rw_180_17 (A := 0) rfl (by decide) (b_ieq_t (pc := 18) rw_233_18 (A := 0) rfl (by decide) (s_cl (pc := 30) rw_233_30 rfl (fun l50 => to_rl (pc := 33) rw_233_33 ?_))))
          exact h l50 M36 hG37 F38 
        · refine to_c (pc := 12) rw_180_12 (x := (1 : Int32)) rfl rfl (to_go (pc := 13) rw_180_13 (s_r1 (pc := 17) rw_180_17 (A := 1) rfl (by decide) (b_ieq_f (pc := 18) rw_233_18 (A := 1) rfl (by decide) (to_in (pc := 21) rw_233_21 rfl (to_c (pc := 22) rw_233_22 (x := (0 : Int32)) rfl rfl (to_c (pc := 23) rw_233_23 (x := (1 : Int32)) rfl rfl (s_s (pc := 24) rw_233_24 (dp0 hd (by decide)) (ls0 := [.int k, .int (0 : Int32), .int (1 : Int32)]) rfl (Nat.le_of_ble_eq_true rfl) (Nat.le_of_ble_eq_true rfl) rfl (to_rcs rfl rfl) rfl (to_in (pc := 0) rw_149_0 rfl (to_in (pc := 1) rw_149_1 rfl (b_clt (pc := 2) rw_149_2 (A := k.toInt) (B := 0) rfl rfl (fun h51 => ?_) (fun h51 => ?_)))))))))))
          · refine to_c (pc := 14) rw_149_14 (x := (0 : Int32)) rfl rfl (s_r1 (pc := 15) rw_149_15 (A := 0) rfl (by decide) (b_ine_f (pc := 27) rw_233_27 (A := 0) rfl (by decide) (s_cl (pc := 30) rw_233_30 rfl (fun l52 => to_rl (pc := 33) rw_233_33 ?_))))
            exact h l52 M36 hG37 F38 
          · refine to_in (pc := 5) rw_149_5 rfl (to_in (pc := 6) rw_149_6 rfl (b_cgt (pc := 7) rw_149_7 (A := k.toInt) (B := 1) rfl rfl (fun h53 => ?_) (fun h53 => ?_)))
            · refine to_c (pc := 14) rw_149_14 (x := (0 : Int32)) rfl rfl (s_r1 (pc := 15) rw_149_15 (A := 0) rfl (by decide) (b_ine_f (pc := 27) rw_233_27 (A := 0) rfl (by decide) (s_cl (pc := 30) rw_233_30 rfl (fun l54 => to_rl (pc := 33) rw_233_33 ?_))))
              exact h l54 M36 hG37 F38 
            · refine to_c (pc := 10) rw_149_10 (x := (1 : Int32)) rfl rfl (to_go (pc := 11) rw_149_11 (s_r1 (pc := 15) rw_149_15 (A := 1) rfl (by decide) (b_ine_t (pc := 27) rw_233_27 (A := 1) rfl (by decide) (to_an (pc := 34) rw_233_34 rfl (to_in (pc := 35) rw_233_35 rfl (s_v (pc := 36) rw_233_36 (dp0 hd (by decide)) (ls0 := [.ref 77, .int n, .null, .null]) rfl (Nat.le_of_ble_eq_true rfl) (Nat.le_of_ble_eq_true rfl) rfl (to_rc rfl rfl rfl (g_o hG37 rfl)) rfl ?_))))))
              have t_55 : (M36.2.1 77 29).toInt = (M.2.1 77 29).toInt := congrArg Int32.toInt c_41
              have j_56 := (NJ_f (fun a i z => W_n W35 (by /-r77,2-/ omega) rfl) q1)
              refine C_189 hX (dp1 hd (by decide)) hG37 (by omega) (by omega) (by omega) j_56 (n := n) (fun M59 hG58 F57 => ?_)
              have F60 := FR.c F38 F57 tg_263
              refine to_an (pc := 39) rw_233_39 rfl (s_gR (pc := 40) rw_233_40 hG58 rfl (v := 86) rfl (to_in (pc := 43) rw_233_43 rfl (s_ial (pc := 44) rw_233_44 hG58 rfl (n := 24) rfl rfl (A := w.toInt) rfl (by omega) (by omega) (lo := 0) (hi := 7) rfl rfl (fun v61 w_62 _ _ => to_is (pc := 45) rw_233_45 (ls2 := [.ref 77, .int n, .int w, .int k, .int v61, .null, .null, .null]) rfl rfl (to_in (pc := 47) rw_233_47 rfl (to_c (pc := 48) rw_233_48 (x := (1 : Int32)) rfl rfl (b_cne (pc := 49) rw_233_49 (A := k.toInt) (B := 1) rfl rfl (fun h63 => ?_) (fun h63 => ?_))))))))
              · refine s_cl (pc := 69) rw_233_69 rfl (fun l64 => to_ls (pc := 70) rw_233_70 (ls2 := [.ref 77, .int n, .int w, .int k, .int v61, .long l64, .null, .null]) rfl rfl (to_c (pc := 72) rw_233_72 (x := (0 : Int32)) rfl rfl (to_is (pc := 73) rw_233_73 (ls2 := [.ref 77, .int n, .int w, .int k, .int v61, .long l64, .null, .int (0 : Int32)]) rfl rfl ?_)))
                have k_65 : (0 : Int32).toInt = 0 := rfl
                exact (T_233_0 (n := n) (w := w) (k := k) hX hd q1 h ((30 - (0 : Int32).toInt).toNat + 1)) M59 (.int n) (.int k) v61 l64 (0 : Int32) hG58 F60 (by omega) (by omega) (by omega) (by omega) (by omega)
              · refine to_an (pc := 52) rw_233_52 rfl (to_i (pc := 53) rw_233_53 rfl (s_v (pc := 55) rw_233_55 (dp0 hd (by decide)) (ls0 := [.ref 77, .int v61]) rfl (Nat.le_of_ble_eq_true rfl) (Nat.le_of_ble_eq_true rfl) rfl (to_rc rfl rfl rfl (g_o hG58 rfl)) rfl (to_an (pc := 0) rw_197_0 rfl (s_gR (pc := 1) rw_197_1 hG58 rfl (v := 83) rfl (to_in (pc := 4) rw_197_4 rfl (s_ial (pc := 5) rw_197_5 hG58 rfl (n := 16) rfl rfl (A := v61.toInt) rfl (by omega) (by omega) (lo := 0) (hi := 63) rfl rfl (fun v66 w_67 _ _ => to_an (pc := 6) rw_197_6 rfl (s_gR (pc := 7) rw_197_7 hG58 rfl (v := 82) rfl (to_in (pc := 10) rw_197_10 rfl (s_ial (pc := 11) rw_197_11 hG58 rfl (n := 16) rfl rfl (A := v61.toInt) rfl (by omega) (by omega) (lo := 0) (hi := 59) rfl rfl (fun v68 w_69 _ _ => s_sub (pc := 12) rw_197_12 (A := v66.toInt) (B := v68.toInt) rfl rfl (by omega) (fun v70 e71 => ?_))))))))))))
                refine to_c (pc := 13) rw_197_13 (x := (1 : Int32)) rfl rfl (s_add (pc := 14) rw_197_14 (A := v70.toInt) (B := 1) rfl rfl (by omega) (fun v72 e73 => to_r0 (pc := 15) rw_197_15 (to_an (pc := 58) rw_233_58 rfl (s_gR (pc := 59) rw_233_59 hG58 rfl (v := 84) rfl (to_i (pc := 62) rw_233_62 rfl (s_ial (pc := 64) rw_233_64 hG58 rfl (n := 16) rfl rfl (A := v61.toInt) rfl (by omega) (by omega) (lo := 0) (hi := 24) rfl rfl (fun v74 w_75 _ _ => s_s (pc := 65) rw_233_65 (dp0 hd (by decide)) (ls0 := [.int v72, .int v74, .null, .null, .null]) rfl (Nat.le_of_ble_eq_true rfl) (Nat.le_of_ble_eq_true rfl) rfl (to_rcs rfl rfl) rfl (C_230 hX (dp1 hd (by decide)) hG58 (by omega) (n := v72) (k := v74) (fun r76 M79 hG78 F77 => ?_)))))))))
                have F80 := FR.c F60 F77 tg_264
                refine to_rl (pc := 68) rw_233_68 ?_
                exact h r76 M79 hG78 F80 
set_option maxRecDepth 4000 in
set_option maxHeartbeats 0 in
theorem T_234_0 {X : mm_X} {d : Nat} {M : mm_M} {Q : Option Value → mm_M → Prop} {w : Int32} {x : Int64} (hX : g_X X) (hd : 1 ≤ d) (h : ∀ (r : Int32) (M1 : mm_M), g_G M1 → FR md_0 M M1 → Q (some (.int r)) M1) : ∀ nn9 : Nat, (∀ (N : mm_M) (x4 : Int32) (x5 : Int32), g_G N → FR md_0 M N → (0 ≤ x5.toInt) → (x5.toInt ≤ 30) → 30 - x5.toInt < (nn9 : Int) → mm_T X d 233 6 [.ref 77, .int w, .long x, .null, .int x4, .int x5] [] N Q) := by
  intro nn9
  induction nn9 with
  | zero =>
    intro N x4 x5 hG F0 g1 g2 hm
    exfalso; omega
  | succ nn9 ih =>
    intro N x4 x5 hG F0 g1 g2 hm
    refine to_i (pc := 6) rw_234_6 rfl (to_an (pc := 8) rw_234_8 rfl ?_)
    have b_1 := g_b hG (a := 77) (i := 28) (lo := 0) (hi := 30) rfl rfl
    refine tt_gI (pc := 9) rw_234_9 (g_o hG rfl) (v := (N.2.1 77 28)) rfl (b_cge (pc := 12) rw_234_12 (A := x5.toInt) (B := (N.2.1 77 28).toInt) rfl rfl (fun h2 => ?_) (fun h2 => ?_))
    · refine to_i (pc := 59) rw_234_59 rfl (to_r0 (pc := 61) rw_234_61 ?_)
      exact h x4 N hG F0 
    · refine to_i (pc := 15) rw_234_15 rfl (to_an (pc := 17) rw_234_17 rfl (to_i (pc := 18) rw_234_18 rfl (to_in (pc := 20) rw_234_20 rfl (s_v (pc := 21) rw_234_21 (dp0 hd (by decide)) (ls0 := [.ref 77, .int x5, .int w]) rfl (Nat.le_of_ble_eq_true rfl) (Nat.le_of_ble_eq_true rfl) rfl (to_rc rfl rfl rfl (g_o hG rfl)) rfl (to_an (pc := 0) rw_231_0 rfl (s_gR (pc := 1) rw_231_1 hG rfl (v := 98) rfl (to_in (pc := 4) rw_231_4 rfl (s_ial (pc := 5) rw_231_5 hG rfl (n := 30) rfl rfl (A := x5.toInt) rfl (by omega) (by omega) (lo := -2147483648) (hi := 2147483647) rfl rfl (fun v3 w_4 _ _ => to_in (pc := 6) rw_231_6 rfl (s_any (pc := 7) rw_231_7 (fun _ _ => rfl) (fun v5 => to_c (pc := 8) rw_231_8 (x := (1 : Int32)) rfl rfl ?_)))))))))))
      refine s_and (pc := 9) rw_231_9 (B := 1) rfl (by omega) (fun v6 e7 _ _ => to_c (pc := 10) rw_231_10 (x := (1 : Int32)) rfl rfl (b_cne (pc := 11) rw_231_11 (A := v6.toInt) (B := 1) rfl rfl (fun h8 => ?_) (fun h8 => ?_)))
      · refine to_c (pc := 18) rw_231_18 (x := (0 : Int32)) rfl rfl (s_r1 (pc := 19) rw_231_19 (A := 0) rfl (by decide) (b_ine_f (pc := 24) rw_234_24 (A := 0) rfl (by decide) (to_ln (pc := 27) rw_234_27 rfl rfl rfl (to_an (pc := 28) rw_234_28 rfl (s_gR (pc := 29) rw_234_29 hG rfl (v := 96) rfl (to_i (pc := 32) rw_234_32 rfl (s_lal (pc := 34) rw_234_34 hG rfl (n := 30) rfl (A := x5.toInt) rfl (by omega) (by omega) (fun l9 => s_cl (pc := 35) rw_234_35 rfl (fun l10 => s_anyL (pc := 38) rw_234_38 (fun _ _ => rfl) (fun l11 => s_anyL (pc := 39) rw_234_39 (fun _ _ => rfl) (fun l12 => s_cl (pc := 40) rw_234_40 rfl (fun l13 => ?_))))))))))))
        refine s_lcmp (pc := 41) rw_234_41 (fun v14 => b_ine (pc := 42) rw_234_42 (A := v14.toInt) rfl (fun h15 => ?_) (fun h15 => ?_))
        · refine to_c (pc := 49) rw_234_49 (x := (0 : Int32)) rfl rfl ?_
          have i_18 := i_of (x := x4)
          refine s_add (pc := 50) rw_234_50 (A := x4.toInt) (B := 0) rfl rfl (by omega) (fun v16 e17 => to_is (pc := 51) rw_234_51 (ls2 := [.ref 77, .int w, .long x, .null, .int v16, .int x5]) rfl rfl (s_inc (pc := 53) rw_234_53 (ls2 := fun v => [.ref 77, .int w, .long x, .null, .int v16, .int v]) rfl rfl (fun _ => rfl) (A := x5.toInt) (B := 1) rfl rfl (by omega) (fun v19 e20 => to_go (pc := 56) rw_234_56 ?_)))
          exact ih N v16 v19 hG F0 (by omega) (by omega) (by omega)
        · refine to_c (pc := 45) rw_234_45 (x := (1 : Int32)) rfl rfl (to_go (pc := 46) rw_234_46 (s_any (pc := 50) rw_234_50 (fun _ _ => rfl) (fun v21 => to_is (pc := 51) rw_234_51 (ls2 := [.ref 77, .int w, .long x, .null, .int v21, .int x5]) rfl rfl (s_inc (pc := 53) rw_234_53 (ls2 := fun v => [.ref 77, .int w, .long x, .null, .int v21, .int v]) rfl rfl (fun _ => rfl) (A := x5.toInt) (B := 1) rfl rfl (by omega) (fun v22 e23 => to_go (pc := 56) rw_234_56 ?_)))))
          exact ih N v21 v22 hG F0 (by omega) (by omega) (by omega)
      · refine to_c (pc := 14) rw_231_14 (x := (1 : Int32)) rfl rfl (to_go (pc := 15) rw_231_15 (s_r1 (pc := 19) rw_231_19 (A := 1) rfl (by decide) (b_ine_t (pc := 24) rw_234_24 (A := 1) rfl (by decide) (to_c (pc := 49) rw_234_49 (x := (0 : Int32)) rfl rfl ?_))))
        have i_26 := i_of (x := x4)
        refine s_add (pc := 50) rw_234_50 (A := x4.toInt) (B := 0) rfl rfl (by omega) (fun v24 e25 => to_is (pc := 51) rw_234_51 (ls2 := [.ref 77, .int w, .long x, .null, .int v24, .int x5]) rfl rfl (s_inc (pc := 53) rw_234_53 (ls2 := fun v => [.ref 77, .int w, .long x, .null, .int v24, .int v]) rfl rfl (fun _ => rfl) (A := x5.toInt) (B := 1) rfl rfl (by omega) (fun v27 e28 => to_go (pc := 56) rw_234_56 ?_)))
        exact ih N v24 v27 hG F0 (by omega) (by omega) (by omega)
set_option maxRecDepth 4000 in
set_option maxHeartbeats 0 in
theorem C_234 {X : mm_X} {d : Nat} {M : mm_M} {Q : Option Value → mm_M → Prop} {w : Int32} {x : Int64} (hX : g_X X) (hd : 1 ≤ d) (hG : g_G M) (h : ∀ (r : Int32) (M1 : mm_M), g_G M1 → FR md_0 M M1 → Q (some (.int r)) M1) : mm_T X d 233 0 [.ref 77, .int w, .long x, .null, .null, .null] [] M Q := by
  have F0 : FR md_0 M M := FR.rf
  refine to_c (pc := 0) rw_234_0 (x := (0 : Int32)) rfl rfl (to_is (pc := 1) rw_234_1 (ls2 := [.ref 77, .int w, .long x, .null, .int (0 : Int32), .null]) rfl rfl (to_c (pc := 3) rw_234_3 (x := (0 : Int32)) rfl rfl (to_is (pc := 4) rw_234_4 (ls2 := [.ref 77, .int w, .long x, .null, .int (0 : Int32), .int (0 : Int32)]) rfl rfl ?_)))
  have k_29 : (0 : Int32).toInt = 0 := rfl
  exact (T_234_0 (w := w) (x := x) hX hd  h ((30 - (0 : Int32).toInt).toNat + 1)) M (0 : Int32) (0 : Int32) hG F0 (by omega) (by omega) (by omega)
set_option maxRecDepth 4000 in
set_option maxHeartbeats 0 in
theorem C_235 {X : mm_X} {d : Nat} {M : mm_M} {Q : Option Value → mm_M → Prop} {n : Int32} {w : Int32} (hX : g_X X) (hd : 3 ≤ d) (hG : g_G M) (q1 : NJ M) (h : ∀ (r : Int32) (M1 : mm_M), g_G M1 → FR md_k2 M M1 → Q (some (.int r)) M1) : mm_T X d 234 0 [.ref 77, .int n, .int w] [] M Q := by
  have F0 : FR md_k2 M M := FR.rf
  refine to_an (pc := 0) rw_235_0 rfl (to_c (pc := 1) rw_235_1 (x := (0 : Int32)) rfl rfl (s_pI (pc := 2) rw_235_2 hG rfl (fun M2 W1 => ?_)))
  have hG3 := g_wf hG W1 rfl rfl (by decide)
  have F4 := FR.w F0 W1 (show 77 = 77 ∧ 2 = 2 ∨ 94 ≤ 77 ∧ 77 ≤ 98 by decide)
  refine to_an (pc := 5) rw_235_5 rfl (to_in (pc := 6) rw_235_6 rfl (s_v (pc := 7) rw_235_7 (dp0 hd (by decide)) (ls0 := [.ref 77, .int n]) rfl (Nat.le_of_ble_eq_true rfl) (Nat.le_of_ble_eq_true rfl) rfl (to_rc rfl rfl rfl (g_o hG3 rfl)) rfl (to_in (pc := 0) rw_186_0 rfl (b_ilt (pc := 1) rw_186_1 (A := n.toInt) rfl (fun h5 => ?_) (fun h5 => ?_)))))
  · refine to_c (pc := 16) rw_186_16 (x := (0 : Int32)) rfl rfl (s_r1 (pc := 17) rw_186_17 (A := 0) rfl (by decide) (b_ieq_t (pc := 10) rw_235_10 (A := 0) rfl (by decide) (to_c (pc := 21) rw_235_21 (x := (-1 : Int32)) rfl rfl (to_r0 (pc := 22) rw_235_22 ?_))))
    have k_6 : (-1 : Int32).toInt = -1 := rfl
    exact h (-1 : Int32) M2 hG3 F4 
  · refine to_in (pc := 4) rw_186_4 rfl (to_an (pc := 5) rw_186_5 rfl ?_)
    have c_7 : M2.2.1 77 29 = (M.2.1 77 29) := (W_n W1 (by decide) rfl)
    have b_8 := g_b hG (a := 77) (i := 29) (lo := 0) (hi := 150) rfl rfl
    refine tt_gI (pc := 6) rw_186_6 (g_o hG3 rfl) (v := (M.2.1 77 29)) c_7 (b_cgt (pc := 9) rw_186_9 (A := n.toInt) (B := (M.2.1 77 29).toInt) rfl rfl (fun h9 => ?_) (fun h9 => ?_))
    · refine to_c (pc := 16) rw_186_16 (x := (0 : Int32)) rfl rfl (s_r1 (pc := 17) rw_186_17 (A := 0) rfl (by decide) (b_ieq_t (pc := 10) rw_235_10 (A := 0) rfl (by decide) (to_c (pc := 21) rw_235_21 (x := (-1 : Int32)) rfl rfl (to_r0 (pc := 22) rw_235_22 ?_))))
      have k_10 : (-1 : Int32).toInt = -1 := rfl
      exact h (-1 : Int32) M2 hG3 F4 
    · refine to_c (pc := 12) rw_186_12 (x := (1 : Int32)) rfl rfl (to_go (pc := 13) rw_186_13 (s_r1 (pc := 17) rw_186_17 (A := 1) rfl (by decide) (b_ieq_f (pc := 10) rw_235_10 (A := 1) rfl (by decide) (to_an (pc := 13) rw_235_13 rfl (to_in (pc := 14) rw_235_14 rfl (s_v (pc := 15) rw_235_15 (dp0 hd (by decide)) (ls0 := [.ref 77, .int w]) rfl (Nat.le_of_ble_eq_true rfl) (Nat.le_of_ble_eq_true rfl) rfl (to_rc rfl rfl rfl (g_o hG3 rfl)) rfl (to_in (pc := 0) rw_180_0 rfl (b_ilt (pc := 1) rw_180_1 (A := w.toInt) rfl (fun h11 => ?_) (fun h11 => ?_)))))))))
      · refine to_c (pc := 16) rw_180_16 (x := (0 : Int32)) rfl rfl (s_r1 (pc := 17) rw_180_17 (A := 0) rfl (by decide) (b_ine_f (pc := 18) rw_235_18 (A := 0) rfl (by decide) (to_c (pc := 21) rw_235_21 (x := (-1 : Int32)) rfl rfl (to_r0 (pc := 22) rw_235_22 ?_))))
        have k_12 : (-1 : Int32).toInt = -1 := rfl
        exact h (-1 : Int32) M2 hG3 F4 
      · refine to_in (pc := 4) rw_180_4 rfl (to_an (pc := 5) rw_180_5 rfl ?_)
        have c_13 : M2.2.1 77 13 = (M.2.1 77 13) := (W_n W1 (by decide) rfl)
        have b_14 := g_b hG (a := 77) (i := 13) (lo := 0) (hi := 12) rfl rfl
        refine tt_gI (pc := 6) rw_180_6 (g_o hG3 rfl) (v := (M.2.1 77 13)) c_13 (b_cge (pc := 9) rw_180_9 (A := w.toInt) (B := (M.2.1 77 13).toInt) rfl rfl (fun h15 => ?_) (fun h15 => ?_))
        · refine to_c (pc := 16) rw_180_16 (x := (0 : Int32)) rfl rfl (s_r1 (pc := 17) rw_180_17 (A := 0) rfl (by decide) (b_ine_f (pc := 18) rw_235_18 (A := 0) rfl (by decide) (to_c (pc := 21) rw_235_21 (x := (-1 : Int32)) rfl rfl (to_r0 (pc := 22) rw_235_22 ?_))))
          have k_16 : (-1 : Int32).toInt = -1 := rfl
          exact h (-1 : Int32) M2 hG3 F4 
        · refine to_c (pc := 12) rw_180_12 (x := (1 : Int32)) rfl rfl (to_go (pc := 13) rw_180_13 (s_r1 (pc := 17) rw_180_17 (A := 1) rfl (by decide) (b_ine_t (pc := 18) rw_235_18 (A := 1) rfl (by decide) (to_an (pc := 23) rw_235_23 rfl (to_in (pc := 24) rw_235_24 rfl (s_v (pc := 25) rw_235_25 (dp0 hd (by decide)) (ls0 := [.ref 77, .int n, .null, .null]) rfl (Nat.le_of_ble_eq_true rfl) (Nat.le_of_ble_eq_true rfl) rfl (to_rc rfl rfl rfl (g_o hG3 rfl)) rfl ?_))))))
          have t_17 : (M2.2.1 77 29).toInt = (M.2.1 77 29).toInt := congrArg Int32.toInt c_7
          have j_18 := (NJ_f (fun a i z => W_n W1 (by /-r77,2-/ omega) rfl) q1)
          refine C_189 hX (dp1 hd (by decide)) hG3 (by omega) (by omega) (by omega) j_18 (n := n) (fun M21 hG20 F19 => ?_)
          have F22 := FR.c F4 F19 tg_263
          refine to_an (pc := 28) rw_235_28 rfl (to_in (pc := 29) rw_235_29 rfl (to_an (pc := 30) rw_235_30 rfl (s_gR (pc := 31) rw_235_31 hG20 rfl (v := 95) rfl (to_in (pc := 34) rw_235_34 rfl (s_lal (pc := 35) rw_235_35 hG20 rfl (n := 12) rfl (A := w.toInt) rfl (by omega) (by omega) (fun l23 => s_v (pc := 36) rw_235_36 (dp0 hd (by decide)) (ls0 := [.ref 77, .int w, .long l23, .null, .null, .null]) rfl (Nat.le_of_ble_eq_true rfl) (Nat.le_of_ble_eq_true rfl) rfl (to_rc rfl rfl rfl (g_o hG20 rfl)) rfl (C_234 hX (dp1 hd (by decide)) hG20 (w := w) (x := l23) (fun r24 M27 hG26 F25 => ?_))))))))
          have F28 := FR.c F22 F25 tg_264
          refine to_r0 (pc := 39) rw_235_39 ?_
          exact h r24 M27 hG26 F28 
set_option maxRecDepth 4000 in
set_option maxHeartbeats 0 in
theorem T_236_0 {X : mm_X} {d : Nat} {M : mm_M} {Q : Option Value → mm_M → Prop} {w : Int32} {x : Int64} (hX : g_X X) (hd : 2 ≤ d) (h : ∀ (r : Int32) (M1 : mm_M), g_G M1 → FR md_0 M M1 → Q (some (.int r)) M1) : ∀ nn9 : Nat, (∀ (N : mm_M) (x4 : Int32) (x5 : Int32), g_G N → FR md_0 M N → (0 ≤ x5.toInt) → (x5.toInt ≤ 12) → 12 - x5.toInt < (nn9 : Int) → mm_T X d 235 6 [.ref 77, .int w, .long x, .null, .int x4, .int x5] [] N Q) := by
  intro nn9
  induction nn9 with
  | zero =>
    intro N x4 x5 hG F0 g1 g2 hm
    exfalso; omega
  | succ nn9 ih =>
    intro N x4 x5 hG F0 g1 g2 hm
    refine to_i (pc := 6) rw_236_6 rfl (to_an (pc := 8) rw_236_8 rfl ?_)
    have b_1 := g_b hG (a := 77) (i := 13) (lo := 0) (hi := 12) rfl rfl
    refine tt_gI (pc := 9) rw_236_9 (g_o hG rfl) (v := (N.2.1 77 13)) rfl (b_cge (pc := 12) rw_236_12 (A := x5.toInt) (B := (N.2.1 77 13).toInt) rfl rfl (fun h2 => ?_) (fun h2 => ?_))
    · refine to_i (pc := 48) rw_236_48 rfl (to_r0 (pc := 50) rw_236_50 ?_)
      exact h x4 N hG F0 
    · refine to_i (pc := 15) rw_236_15 rfl (to_i (pc := 17) rw_236_17 rfl (to_in (pc := 19) rw_236_19 rfl (b_cne (pc := 20) rw_236_20 (A := x5.toInt) (B := w.toInt) rfl rfl (fun h3 => ?_) (fun h3 => ?_))))
      · refine to_an (pc := 27) rw_236_27 rfl (s_gR (pc := 28) rw_236_28 hG rfl (v := 95) rfl (to_i (pc := 31) rw_236_31 rfl (s_lal (pc := 33) rw_236_33 hG rfl (n := 12) rfl (A := x5.toInt) rfl (by omega) (by omega) (fun l4 => to_ln (pc := 34) rw_236_34 rfl rfl rfl (s_anyL (pc := 35) rw_236_35 (fun _ _ => rfl) (fun l5 => s_s (pc := 36) rw_236_36 (dp0 hd (by decide)) (ls0 := [.long l5, .null, .null, .null]) rfl (Nat.le_of_ble_eq_true rfl) (Nat.le_of_ble_eq_true rfl) rfl (to_rcs rfl rfl) rfl (C_151 hX (dp1 hd (by decide)) hG (x := l5) (fun r6 M11 hG8 F7 p_9 p_10 => ?_))))))))
        have F12 := FR.c F0 F7 tg_29
        refine s_any (pc := 39) rw_236_39 (fun _ _ => rfl) (fun v13 => to_is (pc := 40) rw_236_40 (ls2 := [.ref 77, .int w, .long x, .null, .int v13, .int x5]) rfl rfl (s_inc (pc := 42) rw_236_42 (ls2 := fun v => [.ref 77, .int w, .long x, .null, .int v13, .int v]) rfl rfl (fun _ => rfl) (A := x5.toInt) (B := 1) rfl rfl (by omega) (fun v14 e15 => to_go (pc := 45) rw_236_45 ?_)))
        exact ih M11 v13 v14 hG8 F12 (by omega) (by omega) (by omega)
      · refine to_c (pc := 23) rw_236_23 (x := (0 : Int32)) rfl rfl (to_go (pc := 24) rw_236_24 ?_)
        have i_18 := i_of (x := x4)
        refine s_add (pc := 39) rw_236_39 (A := x4.toInt) (B := 0) rfl rfl (by omega) (fun v16 e17 => to_is (pc := 40) rw_236_40 (ls2 := [.ref 77, .int w, .long x, .null, .int v16, .int x5]) rfl rfl (s_inc (pc := 42) rw_236_42 (ls2 := fun v => [.ref 77, .int w, .long x, .null, .int v16, .int v]) rfl rfl (fun _ => rfl) (A := x5.toInt) (B := 1) rfl rfl (by omega) (fun v19 e20 => to_go (pc := 45) rw_236_45 ?_)))
        exact ih N v16 v19 hG F0 (by omega) (by omega) (by omega)
set_option maxRecDepth 4000 in
set_option maxHeartbeats 0 in
theorem C_236 {X : mm_X} {d : Nat} {M : mm_M} {Q : Option Value → mm_M → Prop} {w : Int32} {x : Int64} (hX : g_X X) (hd : 2 ≤ d) (hG : g_G M) (h : ∀ (r : Int32) (M1 : mm_M), g_G M1 → FR md_0 M M1 → Q (some (.int r)) M1) : mm_T X d 235 0 [.ref 77, .int w, .long x, .null, .null, .null] [] M Q := by
  have F0 : FR md_0 M M := FR.rf
  refine to_c (pc := 0) rw_236_0 (x := (0 : Int32)) rfl rfl (to_is (pc := 1) rw_236_1 (ls2 := [.ref 77, .int w, .long x, .null, .int (0 : Int32), .null]) rfl rfl (to_c (pc := 3) rw_236_3 (x := (0 : Int32)) rfl rfl (to_is (pc := 4) rw_236_4 (ls2 := [.ref 77, .int w, .long x, .null, .int (0 : Int32), .int (0 : Int32)]) rfl rfl ?_)))
  have k_21 : (0 : Int32).toInt = 0 := rfl
  exact (T_236_0 (w := w) (x := x) hX hd  h ((12 - (0 : Int32).toInt).toNat + 1)) M (0 : Int32) (0 : Int32) hG F0 (by omega) (by omega) (by omega)
set_option maxRecDepth 4000 in
set_option maxHeartbeats 0 in
theorem T_239_0 {X : mm_X} {d : Nat} {M : mm_M} {Q : Option Value → mm_M → Prop} {c : Int32} {f : Int32} {t : Int32} {w : Int32} (hX : g_X X) (hd : 2 ≤ d) (q1 : 0 ≤ c.toInt) (q2 : c.toInt ≤ 29) (q3 : 0 ≤ f.toInt) (q4 : f.toInt ≤ 7) (h : ∀ (r : Int32) (M1 : mm_M), g_G M1 → FR md_mw M M1 → Q (some (.int r)) M1) : ∀ nn9 : Nat, (∀ (N : mm_M) (u1 : Value) (u2 : Value) (y5 : Int64) (x7 : Int32) (x8 : Int32) (x9 : Int32) (x10 : Int32) (x11 : Int32) (u12 : Value) (u13 : Value) (u14 : Value) (u15 : Value), g_G N → FR md_mw M N → (0 ≤ x11.toInt) → (x11.toInt ≤ 4096) → (0 ≤ x7.toInt) → (x7.toInt ≤ 12) → (4096 - x11.toInt) * 100 + 50 < (nn9 : Int) → mm_T X d 238 88 [.ref 77, u1, u2, .int t, .int w, .long y5, .null, .int x7, .int x8, .int x9, .int x10, .int x11, u12, u13, u14, u15] [] N Q) ∧ (∀ (N : mm_M) (u1 : Value) (u2 : Value) (y5 : Int64) (x7 : Int32) (x8 : Int32) (x9 : Int32) (x10 : Int32) (x11 : Int32) (y12 : Int64) (x14 : Int32) (x15 : Int32), g_G N → FR md_mw M N → (0 ≤ x11.toInt) → (x11.toInt ≤ 4095) → (0 ≤ x7.toInt) → (x7.toInt ≤ 12) → (0 ≤ x15.toInt) → (x15.toInt ≤ 12) → (4096 - x11.toInt) * 100 + 12 - x15.toInt < (nn9 : Int) → mm_T X d 238 106 [.ref 77, u1, u2, .int t, .int w, .long y5, .null, .int x7, .int x8, .int x9, .int x10, .int x11, .long y12, .null, .int x14, .int x15] [] N Q) := by
  intro nn9
  induction nn9 with
  | zero =>
    refine ⟨?_, ?_⟩
    · intro N u1 u2 y5 x7 x8 x9 x10 x11 u12 u13 u14 u15 hG F0 g1 g2 g3 g4 hm
      exfalso; omega
    · intro N u1 u2 y5 x7 x8 x9 x10 x11 y12 x14 x15 hG F0 g1 g2 g3 g4 g5 g6 hm
      exfalso; omega
  | succ nn9 ih =>
    refine ⟨?_, ?_⟩
    · intro N u1 u2 y5 x7 x8 x9 x10 x11 u12 u13 u14 u15 hG F0 g1 g2 g3 g4 hm
      refine to_i (pc := 88) rw_239_88 rfl (to_c (pc := 90) rw_239_90 (x := (1 : Int32)) rfl rfl (to_i (pc := 91) rw_239_91 rfl (s_shl12 (pc := 93) rw_239_93 (B := x7.toInt) rfl (by omega) (fun v1 _ _ => b_cge (pc := 94) rw_239_94 (A := x11.toInt) (B := v1.toInt) rfl rfl (fun h2 => ?_) (fun h2 => ?_)))))
      · refine to_i (pc := 205) rw_239_205 rfl (b_ine (pc := 207) rw_239_207 (A := w.toInt) rfl (fun h3 => ?_) (fun h3 => ?_))
        · refine to_i (pc := 224) rw_239_224 rfl (to_c (pc := 226) rw_239_226 (x := (1 : Int32)) rfl rfl (b_cne (pc := 227) rw_239_227 (A := w.toInt) (B := 1) rfl rfl (fun h4 => ?_) (fun h4 => ?_)))
          · refine to_i (pc := 235) rw_239_235 rfl (to_r0 (pc := 237) rw_239_237 ?_)
            exact h x10 N hG F0 
          · refine to_i (pc := 230) rw_239_230 rfl (to_go (pc := 232) rw_239_232 (to_r0 (pc := 237) rw_239_237 ?_))
            exact h x9 N hG F0 
        · refine to_i (pc := 210) rw_239_210 rfl (b_ine (pc := 212) rw_239_212 (A := x10.toInt) rfl (fun h5 => ?_) (fun h5 => ?_))
          · refine to_i (pc := 219) rw_239_219 rfl (to_go (pc := 221) rw_239_221 (to_r0 (pc := 237) rw_239_237 ?_))
            exact h x8 N hG F0 
          · refine to_c (pc := 215) rw_239_215 (x := (0 : Int32)) rfl rfl (to_go (pc := 216) rw_239_216 (to_r0 (pc := 237) rw_239_237 ?_))
            have k_6 : (0 : Int32).toInt = 0 := rfl
            exact h (0 : Int32) N hG F0 
      · refine s_cl (pc := 97) rw_239_97 rfl (fun l7 => to_ls (pc := 98) rw_239_98 (ls2 := [.ref 77, u1, u2, .int t, .int w, .long y5, .null, .int x7, .int x8, .int x9, .int x10, .int x11, .long l7, .null, u14, u15]) rfl rfl (to_c (pc := 100) rw_239_100 (x := (0 : Int32)) rfl rfl (to_is (pc := 101) rw_239_101 (ls2 := [.ref 77, u1, u2, .int t, .int w, .long y5, .null, .int x7, .int x8, .int x9, .int x10, .int x11, .long l7, .null, .int (0 : Int32), u15]) rfl rfl (to_c (pc := 103) rw_239_103 (x := (0 : Int32)) rfl rfl (to_is (pc := 104) rw_239_104 (ls2 := [.ref 77, u1, u2, .int t, .int w, .long y5, .null, .int x7, .int x8, .int x9, .int x10, .int x11, .long l7, .null, .int (0 : Int32), .int (0 : Int32)]) rfl rfl ?_)))))
        have k_8 : (0 : Int32).toInt = 0 := rfl
        exact ih.2 N (u1) (u2) y5 x7 x8 x9 x10 x11 l7 (0 : Int32) (0 : Int32) hG F0 (by omega) (by omega) (by omega) (by omega) (by omega) (by omega) (by omega)
    · intro N u1 u2 y5 x7 x8 x9 x10 x11 y12 x14 x15 hG F0 g1 g2 g3 g4 g5 g6 hm
      refine to_i (pc := 106) rw_239_106 rfl (to_i (pc := 108) rw_239_108 rfl (b_cge (pc := 110) rw_239_110 (A := x15.toInt) (B := x7.toInt) rfl rfl (fun h9 => ?_) (fun h9 => ?_)))
      · refine to_l (pc := 163) rw_239_163 rfl rfl rfl (to_l (pc := 165) rw_239_165 rfl rfl rfl (s_cl (pc := 167) rw_239_167 rfl (fun l10 => s_anyL (pc := 170) rw_239_170 (fun _ _ => rfl) (fun l11 => s_anyL (pc := 171) rw_239_171 (fun _ _ => rfl) (fun l12 => s_s (pc := 172) rw_239_172 (dp0 hd (by decide)) (ls0 := [.long l12, .null, .null, .null]) rfl (Nat.le_of_ble_eq_true rfl) (Nat.le_of_ble_eq_true rfl) rfl (to_rcs rfl rfl) rfl (C_151 hX (dp1 hd (by decide)) hG (x := l12) (fun r13 M18 hG15 F14 p_16 p_17 => ?_)))))))
        have F19 := FR.c F0 F14 tg_350
        refine to_in (pc := 175) rw_239_175 rfl (b_cle (pc := 176) rw_239_176 (A := r13.toInt) (B := t.toInt) rfl rfl (fun h20 => ?_) (fun h20 => ?_))
        · refine to_i (pc := 182) rw_239_182 rfl (to_i (pc := 184) rw_239_184 rfl (s_any (pc := 186) rw_239_186 (fun _ _ => rfl) (fun v21 => to_is (pc := 187) rw_239_187 (ls2 := [.ref 77, u1, u2, .int t, .int w, .long y5, .null, .int x7, .int v21, .int x9, .int x10, .int x11, .long y12, .null, .int x14, .int x15]) rfl rfl (to_i (pc := 189) rw_239_189 rfl (to_i (pc := 191) rw_239_191 rfl (s_any (pc := 193) rw_239_193 (fun _ _ => rfl) (fun v23 => to_is (pc := 194) rw_239_194 (ls2 := [.ref 77, u1, u2, .int t, .int w, .long y5, .null, .int x7, .int v21, .int v23, .int x10, .int x11, .long y12, .null, .int x14, .int x15]) rfl rfl (s_incx (pc := 196) rw_239_196 (ls2 := fun v => [.ref 77, u1, u2, .int t, .int w, .long y5, .null, .int x7, .int v21, .int v23, .int v, .int x11, .long y12, .null, .int x14, .int x15]) rfl rfl (fun _ => rfl) (fun v24 => s_inc (pc := 199) rw_239_199 (ls2 := fun v => [.ref 77, u1, u2, .int t, .int w, .long y5, .null, .int x7, .int v21, .int v23, .int v24, .int v, .long y12, .null, .int x14, .int x15]) rfl rfl (fun _ => rfl) (A := x11.toInt) (B := 1) rfl rfl (by omega) (fun v26 e27 => to_go (pc := 202) rw_239_202 ?_))))))))))
          exact ih.1 M18 (u1) (u2) y5 x7 v21 v23 v24 v26 (.long y12) (.null) (.int x14) (.int x15) hG15 F19 (by omega) (by omega) (by omega) (by omega) (by omega)
        · refine to_go (pc := 179) rw_239_179 (s_inc (pc := 199) rw_239_199 (ls2 := fun v => [.ref 77, u1, u2, .int t, .int w, .long y5, .null, .int x7, .int x8, .int x9, .int x10, .int v, .long y12, .null, .int x14, .int x15]) rfl rfl (fun _ => rfl) (A := x11.toInt) (B := 1) rfl rfl (by omega) (fun v28 e29 => to_go (pc := 202) rw_239_202 ?_))
          exact ih.1 M18 (u1) (u2) y5 x7 x8 x9 x10 v28 (.long y12) (.null) (.int x14) (.int x15) hG15 F19 (by omega) (by omega) (by omega) (by omega) (by omega)
      · refine to_i (pc := 113) rw_239_113 rfl (to_i (pc := 115) rw_239_115 rfl (s_shr (pc := 117) rw_239_117 (A := x11.toInt) rfl (by omega) (fun v30 _ _ => to_c (pc := 118) rw_239_118 (x := (1 : Int32)) rfl rfl (s_and (pc := 119) rw_239_119 (B := 1) rfl (by omega) (fun v31 e32 _ _ => b_ine (pc := 120) rw_239_120 (A := v31.toInt) rfl (fun h33 => ?_) (fun h33 => ?_))))))
        · refine to_l (pc := 126) rw_239_126 rfl rfl rfl (to_an (pc := 128) rw_239_128 rfl (s_gR (pc := 129) rw_239_129 hG rfl (v := 95) rfl (to_an (pc := 132) rw_239_132 rfl (s_gR (pc := 133) rw_239_133 hG rfl (v := 119) rfl (to_i (pc := 136) rw_239_136 rfl (s_ial (pc := 138) rw_239_138 hG rfl (n := 12) rfl rfl (A := x15.toInt) rfl (by omega) (by omega) (lo := 0) (hi := 11) rfl rfl (fun v34 w_35 _ _ => s_lal (pc := 139) rw_239_139 hG rfl (n := 12) rfl (A := v34.toInt) rfl (by omega) (by omega) (fun l36 => s_anyL (pc := 140) rw_239_140 (fun _ _ => rfl) (fun l37 => to_ls (pc := 141) rw_239_141 (ls2 := [.ref 77, u1, u2, .int t, .int w, .long y5, .null, .int x7, .int x8, .int x9, .int x10, .int x11, .long l37, .null, .int x14, .int x15]) rfl rfl (to_i (pc := 143) rw_239_143 rfl (to_c (pc := 145) rw_239_145 (x := (1 : Int32)) rfl rfl ?_)))))))))))
          refine to_an (pc := 146) rw_239_146 rfl (s_gR (pc := 147) rw_239_147 hG rfl (v := 119) rfl (to_i (pc := 150) rw_239_150 rfl (s_ialk (pc := 152) rw_239_152 hG rfl (n := 12) rfl rfl (A := x15.toInt) rfl (by omega) (by omega) (v := v34) w_35 (s_shl12 (pc := 153) rw_239_153 (B := v34.toInt) rfl (by omega) (fun v40 _ _ => s_any (pc := 154) rw_239_154 (fun _ _ => rfl) (fun v41 => to_is (pc := 155) rw_239_155 (ls2 := [.ref 77, u1, u2, .int t, .int w, .long y5, .null, .int x7, .int x8, .int x9, .int x10, .int x11, .long l37, .null, .int v41, .int x15]) rfl rfl (s_inc (pc := 157) rw_239_157 (ls2 := fun v => [.ref 77, u1, u2, .int t, .int w, .long y5, .null, .int x7, .int x8, .int x9, .int x10, .int x11, .long l37, .null, .int v41, .int v]) rfl rfl (fun _ => rfl) (A := x15.toInt) (B := 1) rfl rfl (by omega) (fun v42 e43 => to_go (pc := 160) rw_239_160 ?_))))))))
          exact ih.2 N (u1) (u2) y5 x7 x8 x9 x10 x11 l37 v41 v42 hG F0 (by omega) (by omega) (by omega) (by omega) (by omega) (by omega) (by omega)
        · refine to_go (pc := 123) rw_239_123 (s_inc (pc := 157) rw_239_157 (ls2 := fun v => [.ref 77, u1, u2, .int t, .int w, .long y5, .null, .int x7, .int x8, .int x9, .int x10, .int x11, .long y12, .null, .int x14, .int v]) rfl rfl (fun _ => rfl) (A := x15.toInt) (B := 1) rfl rfl (by omega) (fun v44 e45 => to_go (pc := 160) rw_239_160 ?_))
          exact ih.2 N (u1) (u2) y5 x7 x8 x9 x10 x11 y12 x14 v44 hG F0 (by omega) (by omega) (by omega) (by omega) (by omega) (by omega) (by omega)
set_option maxRecDepth 4000 in
set_option maxHeartbeats 0 in
theorem T_239_1 {X : mm_X} {d : Nat} {M : mm_M} {Q : Option Value → mm_M → Prop} {c : Int32} {f : Int32} {t : Int32} {w : Int32} (hX : g_X X) (hd : 2 ≤ d) (q1 : 0 ≤ c.toInt) (q2 : c.toInt ≤ 29) (q3 : 0 ≤ f.toInt) (q4 : f.toInt ≤ 7) (h : ∀ (r : Int32) (M1 : mm_M), g_G M1 → FR md_mw M M1 → Q (some (.int r)) M1) : ∀ nn9 : Nat, (∀ (N : mm_M) (u1 : Value) (y5 : Int64) (x7 : Int32) (x8 : Int32) (u9 : Value) (u10 : Value) (u11 : Value) (u12 : Value) (u13 : Value) (u14 : Value) (u15 : Value), g_G N → FR md_mw M N → (0 ≤ x8.toInt) → (x8.toInt ≤ 12) → (0 ≤ x7.toInt) → (x7.toInt ≤ 12) → (x7.toInt ≤ x8.toInt) → 12 - x8.toInt < (nn9 : Int) → mm_T X d 238 14 [.ref 77, u1, .int f, .int t, .int w, .long y5, .null, .int x7, .int x8, u9, u10, u11, u12, u13, u14, u15] [] N Q) := by
  intro nn9
  induction nn9 with
  | zero =>
    intro N u1 y5 x7 x8 u9 u10 u11 u12 u13 u14 u15 hG F0 g1 g2 g3 g4 g5 hm
    exfalso; omega
  | succ nn9 ih =>
    intro N u1 y5 x7 x8 u9 u10 u11 u12 u13 u14 u15 hG F0 g1 g2 g3 g4 g5 hm
    refine to_i (pc := 14) rw_239_14 rfl (to_an (pc := 16) rw_239_16 rfl ?_)
    have b_46 := g_b hG (a := 77) (i := 13) (lo := 0) (hi := 12) rfl rfl
    refine tt_gI (pc := 17) rw_239_17 (g_o hG rfl) (v := (N.2.1 77 13)) rfl (b_cge (pc := 20) rw_239_20 (A := x8.toInt) (B := (N.2.1 77 13).toInt) rfl rfl (fun h47 => ?_) (fun h47 => ?_))
    · refine to_c (pc := 74) rw_239_74 (x := (4095 : Int32)) rfl rfl (to_is (pc := 77) rw_239_77 (ls2 := [.ref 77, u1, .int f, .int t, .int w, .long y5, .null, .int x7, .int (4095 : Int32), u9, u10, u11, u12, u13, u14, u15]) rfl rfl (to_c (pc := 79) rw_239_79 (x := (0 : Int32)) rfl rfl (to_is (pc := 80) rw_239_80 (ls2 := [.ref 77, u1, .int f, .int t, .int w, .long y5, .null, .int x7, .int (4095 : Int32), .int (0 : Int32), u10, u11, u12, u13, u14, u15]) rfl rfl (to_c (pc := 82) rw_239_82 (x := (0 : Int32)) rfl rfl (to_is (pc := 83) rw_239_83 (ls2 := [.ref 77, u1, .int f, .int t, .int w, .long y5, .null, .int x7, .int (4095 : Int32), .int (0 : Int32), .int (0 : Int32), u11, u12, u13, u14, u15]) rfl rfl (to_c (pc := 85) rw_239_85 (x := (0 : Int32)) rfl rfl (to_is (pc := 86) rw_239_86 (ls2 := [.ref 77, u1, .int f, .int t, .int w, .long y5, .null, .int x7, .int (4095 : Int32), .int (0 : Int32), .int (0 : Int32), .int (0 : Int32), u12, u13, u14, u15]) rfl rfl ?_)))))))
      have k_48 : (4095 : Int32).toInt = 4095 := rfl
      have k_49 : (0 : Int32).toInt = 0 := rfl
      exact (T_239_0 (c := c) (f := f) (t := t) (w := w) hX hd q1 q2 q3 q4 h (((4096 - (0 : Int32).toInt) * 100 + 50).toNat + 1)).1 N (u1) (.int f) y5 x7 (4095 : Int32) (0 : Int32) (0 : Int32) (0 : Int32) (u12) (u13) (u14) (u15) hG F0 (by omega) (by omega) (by omega) (by omega) (by omega)
    · refine to_an (pc := 23) rw_239_23 rfl (s_gR (pc := 24) rw_239_24 hG rfl (v := 86) rfl (to_i (pc := 27) rw_239_27 rfl (s_ial (pc := 29) rw_239_29 hG rfl (n := 24) rfl rfl (A := x8.toInt) rfl (by omega) (by omega) (lo := 0) (hi := 7) rfl rfl (fun v50 w_51 _ _ => to_in (pc := 30) rw_239_30 rfl (b_cne (pc := 31) rw_239_31 (A := v50.toInt) (B := f.toInt) rfl rfl (fun h52 => ?_) (fun h52 => ?_))))))
      · refine s_inc (pc := 68) rw_239_68 (ls2 := fun v => [.ref 77, u1, .int f, .int t, .int w, .long y5, .null, .int x7, .int v, u9, u10, u11, u12, u13, u14, u15]) rfl rfl (fun _ => rfl) (A := x8.toInt) (B := 1) rfl rfl (by omega) (fun v53 e54 => to_go (pc := 71) rw_239_71 ?_)
        exact ih N (u1) y5 x7 v53 (u9) (u10) (u11) (u12) (u13) (u14) (u15) hG F0 (by omega) (by omega) (by omega) (by omega) (by omega) (by omega)
      · refine to_an (pc := 34) rw_239_34 rfl (s_gR (pc := 35) rw_239_35 hG rfl (v := 95) rfl (to_i (pc := 38) rw_239_38 rfl (s_lal (pc := 40) rw_239_40 hG rfl (n := 12) rfl (A := x8.toInt) rfl (by omega) (by omega) (fun l55 => to_l (pc := 41) rw_239_41 rfl rfl rfl (s_cl (pc := 43) rw_239_43 rfl (fun l56 => s_anyL (pc := 46) rw_239_46 (fun _ _ => rfl) (fun l57 => s_anyL (pc := 47) rw_239_47 (fun _ _ => rfl) (fun l58 => s_cl (pc := 48) rw_239_48 rfl (fun l59 => s_lcmp (pc := 49) rw_239_49 (fun v60 => b_ieq (pc := 50) rw_239_50 (A := v60.toInt) rfl (fun h61 => ?_) (fun h61 => ?_)))))))))))
        · refine to_an (pc := 56) rw_239_56 rfl (s_gR (pc := 57) rw_239_57 hG rfl (v := 119) rfl (to_i (pc := 60) rw_239_60 rfl (to_i (pc := 62) rw_239_62 rfl (s_ias (pc := 64) rw_239_64 hG rfl (n := 12) rfl (A := x7.toInt) rfl (by omega) (by omega) (fun M63 W62 => ?_)))))
          have hG64 := g_w hG W62 (A := x8.toInt) rfl (lo := 0) (hi := 11) rfl rfl (by omega) (by decide)
          have F65 := FR.w F0 W62 (show 119 = 119 by decide)
          refine s_inc (pc := 65) rw_239_65 (ls2 := fun v => [.ref 77, u1, .int f, .int t, .int w, .long y5, .null, .int v, .int x8, u9, u10, u11, u12, u13, u14, u15]) rfl rfl (fun _ => rfl) (A := x7.toInt) (B := 1) rfl rfl (by omega) (fun v66 e67 => s_inc (pc := 68) rw_239_68 (ls2 := fun v => [.ref 77, u1, .int f, .int t, .int w, .long y5, .null, .int v66, .int v, u9, u10, u11, u12, u13, u14, u15]) rfl rfl (fun _ => rfl) (A := x8.toInt) (B := 1) rfl rfl (by omega) (fun v68 e69 => to_go (pc := 71) rw_239_71 ?_))
          exact ih M63 (u1) y5 v66 v68 (u9) (u10) (u11) (u12) (u13) (u14) (u15) hG64 F65 (by omega) (by omega) (by omega) (by omega) (by omega) (by omega)
        · refine to_go (pc := 53) rw_239_53 (s_inc (pc := 68) rw_239_68 (ls2 := fun v => [.ref 77, u1, .int f, .int t, .int w, .long y5, .null, .int x7, .int v, u9, u10, u11, u12, u13, u14, u15]) rfl rfl (fun _ => rfl) (A := x8.toInt) (B := 1) rfl rfl (by omega) (fun v70 e71 => to_go (pc := 71) rw_239_71 ?_))
          exact ih N (u1) y5 x7 v70 (u9) (u10) (u11) (u12) (u13) (u14) (u15) hG F0 (by omega) (by omega) (by omega) (by omega) (by omega) (by omega)
set_option maxRecDepth 4000 in
set_option maxHeartbeats 0 in
theorem C_239 {X : mm_X} {d : Nat} {M : mm_M} {Q : Option Value → mm_M → Prop} {c : Int32} {f : Int32} {t : Int32} {w : Int32} (hX : g_X X) (hd : 2 ≤ d) (hG : g_G M) (q1 : 0 ≤ c.toInt) (q2 : c.toInt ≤ 29) (q3 : 0 ≤ f.toInt) (q4 : f.toInt ≤ 7) (h : ∀ (r : Int32) (M1 : mm_M), g_G M1 → FR md_mw M M1 → Q (some (.int r)) M1) : mm_T X d 238 0 [.ref 77, .int c, .int f, .int t, .int w, .null, .null, .null, .null, .null, .null, .null, .null, .null, .null, .null] [] M Q := by
  have F0 : FR md_mw M M := FR.rf
  refine to_an (pc := 0) rw_239_0 rfl (to_in (pc := 1) rw_239_1 rfl (to_in (pc := 2) rw_239_2 rfl (s_v (pc := 3) rw_239_3 (dp0 hd (by decide)) (ls0 := [.ref 77, .int c, .int f]) rfl (Nat.le_of_ble_eq_true rfl) (Nat.le_of_ble_eq_true rfl) rfl (to_rc rfl rfl rfl (g_o hG rfl)) rfl (C_232 hX (dp1 hd (by decide)) hG (by omega) (by omega) (by omega) (by omega) (c := c) (f := f) (fun r72 M75 hG74 F73 => ?_)))))
  have F76 := FR.c F0 F73 tg_350
  refine to_ls (pc := 6) rw_239_6 (ls2 := [.ref 77, .int c, .int f, .int t, .int w, .long r72, .null, .null, .null, .null, .null, .null, .null, .null, .null, .null]) rfl rfl (to_c (pc := 8) rw_239_8 (x := (0 : Int32)) rfl rfl (to_is (pc := 9) rw_239_9 (ls2 := [.ref 77, .int c, .int f, .int t, .int w, .long r72, .null, .int (0 : Int32), .null, .null, .null, .null, .null, .null, .null, .null]) rfl rfl (to_c (pc := 11) rw_239_11 (x := (0 : Int32)) rfl rfl (to_is (pc := 12) rw_239_12 (ls2 := [.ref 77, .int c, .int f, .int t, .int w, .long r72, .null, .int (0 : Int32), .int (0 : Int32), .null, .null, .null, .null, .null, .null, .null]) rfl rfl ?_))))
  have k_77 : (0 : Int32).toInt = 0 := rfl
  exact (T_239_1 (c := c) (f := f) (t := t) (w := w) hX hd q1 q2 q3 q4 h ((12 - (0 : Int32).toInt).toNat + 1)) M75 (.int c) r72 (0 : Int32) (0 : Int32) (.null) (.null) (.null) (.null) (.null) (.null) (.null) hG74 F76 (by omega) (by omega) (by omega) (by omega) (by omega) (by omega)
set_option maxRecDepth 4000 in
set_option maxHeartbeats 0 in
theorem T_240_0 {X : mm_X} {d : Nat} {M : mm_M} {Q : Option Value → mm_M → Prop} {c : Int32} {f : Int32} {t : Int32} {w : Int32} (hX : g_X X) (hd : 2 ≤ d) (q1 : 0 ≤ c.toInt) (q2 : c.toInt ≤ 29) (q3 : 0 ≤ f.toInt) (q4 : f.toInt ≤ 7) (q5 : ¬ (M.2.1 81 (f.toInt).toNat).toInt = 3) (q6 : FA M) (h : ∀ (r : Int32) (M1 : mm_M), g_G M1 → FR md_0 M M1 → Q (some (.int r)) M1) : ∀ nn9 : Nat, (∀ (N : mm_M) (u1 : Value) (y5 : Int64) (x7 : Int32) (x8 : Int32) (x9 : Int32) (x10 : Int32) (u11 : Value) (u12 : Value), g_G N → FR md_0 M N → (0 ≤ x10.toInt) → (x10.toInt ≤ 24) → (¬ (N.2.1 81 (f.toInt).toNat).toInt = 3) → (FA N) → 24 - x10.toInt < (nn9 : Int) → mm_T X d 239 20 [.ref 77, u1, .int f, .int t, .int w, .long y5, .null, .int x7, .int x8, .int x9, .int x10, u11, u12] [] N Q) := by
  intro nn9
  induction nn9 with
  | zero =>
    intro N u1 y5 x7 x8 x9 x10 u11 u12 hG F0 g1 g2 g3 g4 hm
    exfalso; omega
  | succ nn9 ih =>
    intro N u1 y5 x7 x8 x9 x10 u11 u12 hG F0 g1 g2 g3 g4 hm
    refine to_i (pc := 20) rw_240_20 rfl (to_an (pc := 22) rw_240_22 rfl (s_gR (pc := 23) rw_240_23 hG rfl (v := 84) rfl (to_in (pc := 26) rw_240_26 rfl (s_ial (pc := 27) rw_240_27 hG rfl (n := 16) rfl rfl (A := f.toInt) rfl (by omega) (by omega) (lo := 0) (hi := 24) rfl rfl (fun v1 w_2 _ _ => ?_)))))
    have t_3 := congrArg Int32.toInt w_2
    have j_4 := FA_u g4 (f.toInt).toNat
    have s_5 := g_b hG (a := 81) (i := (f.toInt).toNat) (lo := 0) (hi := 3) rfl rfl
    refine b_cge (pc := 28) rw_240_28 (A := x10.toInt) (B := v1.toInt) rfl rfl (fun h6 => ?_) (fun h6 => ?_)
    · refine to_i (pc := 95) rw_240_95 rfl (b_ine (pc := 97) rw_240_97 (A := w.toInt) rfl (fun h7 => ?_) (fun h7 => ?_))
      · refine to_i (pc := 115) rw_240_115 rfl (to_c (pc := 117) rw_240_117 (x := (1 : Int32)) rfl rfl (b_cne (pc := 118) rw_240_118 (A := w.toInt) (B := 1) rfl rfl (fun h8 => ?_) (fun h8 => ?_)))
        · refine to_i (pc := 126) rw_240_126 rfl (to_r0 (pc := 128) rw_240_128 ?_)
          exact h x8 N hG F0 
        · refine to_i (pc := 121) rw_240_121 rfl (to_go (pc := 123) rw_240_123 (to_r0 (pc := 128) rw_240_128 ?_))
          exact h x7 N hG F0 
      · refine to_i (pc := 100) rw_240_100 rfl (to_c (pc := 102) rw_240_102 (x := (1 : Int32)) rfl rfl (b_cne (pc := 103) rw_240_103 (A := x8.toInt) (B := 1) rfl rfl (fun h9 => ?_) (fun h9 => ?_)))
        · refine to_c (pc := 111) rw_240_111 (x := (-1 : Int32)) rfl rfl (to_go (pc := 112) rw_240_112 (to_r0 (pc := 128) rw_240_128 ?_))
          have k_10 : (-1 : Int32).toInt = -1 := rfl
          exact h (-1 : Int32) N hG F0 
        · refine to_i (pc := 106) rw_240_106 rfl (to_go (pc := 108) rw_240_108 (to_r0 (pc := 128) rw_240_128 ?_))
          exact h x9 N hG F0 
    · refine to_an (pc := 31) rw_240_31 rfl (to_in (pc := 32) rw_240_32 rfl (to_i (pc := 33) rw_240_33 rfl (s_v (pc := 35) rw_240_35 (dp0 hd (by decide)) (ls0 := [.ref 77, .int f, .int x10]) rfl (Nat.le_of_ble_eq_true rfl) (Nat.le_of_ble_eq_true rfl) rfl (to_rc rfl rfl rfl (g_o hG rfl)) rfl (C_183 hX (dp1 hd (by decide)) hG (by omega) (by omega) (by omega) (by omega) (f := f) (v := x10) (fun r11 M14 hG13 F12 => ?_)))))
      have F15 := FR.c F0 F12 tg_29
      refine to_ls (pc := 38) rw_240_38 (ls2 := [.ref 77, u1, .int f, .int t, .int w, .long y5, .null, .int x7, .int x8, .int x9, .int x10, .long r11, .null]) rfl rfl (to_l (pc := 40) rw_240_40 rfl rfl rfl (to_l (pc := 42) rw_240_42 rfl rfl rfl (s_cl (pc := 44) rw_240_44 rfl (fun l16 => s_anyL (pc := 47) rw_240_47 (fun _ _ => rfl) (fun l17 => s_anyL (pc := 48) rw_240_48 (fun _ _ => rfl) (fun l18 => s_cl (pc := 49) rw_240_49 rfl (fun l19 => s_lcmp (pc := 50) rw_240_50 (fun v20 => b_ine (pc := 51) rw_240_51 (A := v20.toInt) rfl (fun h21 => ?_) (fun h21 => ?_)))))))))
      · refine s_inc (pc := 89) rw_240_89 (ls2 := fun v => [.ref 77, u1, .int f, .int t, .int w, .long y5, .null, .int x7, .int x8, .int x9, .int v, .long r11, .null]) rfl rfl (fun _ => rfl) (A := x10.toInt) (B := 1) rfl rfl (by omega) (fun v22 e23 => to_go (pc := 92) rw_240_92 ?_)
        have t_24 : (M14.2.1 81 (f.toInt).toNat).toInt = (N.2.1 81 (f.toInt).toNat).toInt := congrArg Int32.toInt (F_n F12 (show ¬ (81 < 0) by decide) rfl)
        have j_25 := (FA_f (tg_218 F12) g4)
        exact ih M14 (u1) y5 x7 x8 x9 v22 (.long r11) (.null) hG13 F15 (by omega) (by omega) (by omega) j_25 (by omega)
      · refine to_l (pc := 54) rw_240_54 rfl rfl rfl (to_l (pc := 56) rw_240_56 rfl rfl rfl (s_cl (pc := 58) rw_240_58 rfl (fun l26 => s_anyL (pc := 61) rw_240_61 (fun _ _ => rfl) (fun l27 => s_anyL (pc := 62) rw_240_62 (fun _ _ => rfl) (fun l28 => s_s (pc := 63) rw_240_63 (dp0 hd (by decide)) (ls0 := [.long l28, .null, .null, .null]) rfl (Nat.le_of_ble_eq_true rfl) (Nat.le_of_ble_eq_true rfl) rfl (to_rcs rfl rfl) rfl (C_151 hX (dp1 hd (by decide)) hG13 (x := l28) (fun r29 M34 hG31 F30 p_32 p_33 => ?_)))))))
        have F35 := FR.c F15 F30 tg_29
        refine to_in (pc := 66) rw_240_66 rfl (b_cle (pc := 67) rw_240_67 (A := r29.toInt) (B := t.toInt) rfl rfl (fun h36 => ?_) (fun h36 => ?_))
        · refine to_i (pc := 73) rw_240_73 rfl (to_c (pc := 75) rw_240_75 (x := (1 : Int32)) rfl rfl (to_i (pc := 76) rw_240_76 rfl (s_any (pc := 78) rw_240_78 (fun _ _ => rfl) (fun v37 => s_any (pc := 79) rw_240_79 (fun _ _ => rfl) (fun v38 => to_is (pc := 80) rw_240_80 (ls2 := [.ref 77, u1, .int f, .int t, .int w, .long y5, .null, .int v38, .int x8, .int x9, .int x10, .long r11, .null]) rfl rfl (to_i (pc := 82) rw_240_82 rfl (to_is (pc := 84) rw_240_84 (ls2 := [.ref 77, u1, .int f, .int t, .int w, .long y5, .null, .int v38, .int x8, .int x10, .int x10, .long r11, .null]) rfl rfl (s_incx (pc := 86) rw_240_86 (ls2 := fun v => [.ref 77, u1, .int f, .int t, .int w, .long y5, .null, .int v38, .int v, .int x10, .int x10, .long r11, .null]) rfl rfl (fun _ => rfl) (fun v39 => s_inc (pc := 89) rw_240_89 (ls2 := fun v => [.ref 77, u1, .int f, .int t, .int w, .long y5, .null, .int v38, .int v39, .int x10, .int v, .long r11, .null]) rfl rfl (fun _ => rfl) (A := x10.toInt) (B := 1) rfl rfl (by omega) (fun v41 e42 => to_go (pc := 92) rw_240_92 ?_))))))))))
          have t_43 : (M34.2.1 81 (f.toInt).toNat).toInt = (N.2.1 81 (f.toInt).toNat).toInt := congrArg Int32.toInt (F_n F30 (show ¬ (81 < 0) by decide) (F_n F12 (show ¬ (81 < 0) by decide) rfl))
          have j_44 := (FA_f (tg_218 F30) (FA_f (tg_218 F12) g4))
          exact ih M34 (u1) y5 v38 v39 x10 v41 (.long r11) (.null) hG31 F35 (by omega) (by omega) (by omega) j_44 (by omega)
        · refine to_go (pc := 70) rw_240_70 (s_inc (pc := 89) rw_240_89 (ls2 := fun v => [.ref 77, u1, .int f, .int t, .int w, .long y5, .null, .int x7, .int x8, .int x9, .int v, .long r11, .null]) rfl rfl (fun _ => rfl) (A := x10.toInt) (B := 1) rfl rfl (by omega) (fun v45 e46 => to_go (pc := 92) rw_240_92 ?_))
          have t_47 : (M34.2.1 81 (f.toInt).toNat).toInt = (N.2.1 81 (f.toInt).toNat).toInt := congrArg Int32.toInt (F_n F30 (show ¬ (81 < 0) by decide) (F_n F12 (show ¬ (81 < 0) by decide) rfl))
          have j_48 := (FA_f (tg_218 F30) (FA_f (tg_218 F12) g4))
          exact ih M34 (u1) y5 x7 x8 x9 v45 (.long r11) (.null) hG31 F35 (by omega) (by omega) (by omega) j_48 (by omega)
set_option maxRecDepth 4000 in
set_option maxHeartbeats 0 in
theorem C_240 {X : mm_X} {d : Nat} {M : mm_M} {Q : Option Value → mm_M → Prop} {c : Int32} {f : Int32} {t : Int32} {w : Int32} (hX : g_X X) (hd : 2 ≤ d) (hG : g_G M) (q1 : 0 ≤ c.toInt) (q2 : c.toInt ≤ 29) (q3 : 0 ≤ f.toInt) (q4 : f.toInt ≤ 7) (q5 : ¬ (M.2.1 81 (f.toInt).toNat).toInt = 3) (q6 : FA M) (h : ∀ (r : Int32) (M1 : mm_M), g_G M1 → FR md_0 M M1 → Q (some (.int r)) M1) : mm_T X d 239 0 [.ref 77, .int c, .int f, .int t, .int w, .null, .null, .null, .null, .null, .null, .null, .null] [] M Q := by
  have F0 : FR md_0 M M := FR.rf
  refine to_an (pc := 0) rw_240_0 rfl (to_in (pc := 1) rw_240_1 rfl (to_in (pc := 2) rw_240_2 rfl (s_v (pc := 3) rw_240_3 (dp0 hd (by decide)) (ls0 := [.ref 77, .int c, .int f]) rfl (Nat.le_of_ble_eq_true rfl) (Nat.le_of_ble_eq_true rfl) rfl (to_rc rfl rfl rfl (g_o hG rfl)) rfl (C_232 hX (dp1 hd (by decide)) hG (by omega) (by omega) (by omega) (by omega) (c := c) (f := f) (fun r49 M52 hG51 F50 => ?_)))))
  have F53 := FR.c F0 F50 tg_29
  refine to_ls (pc := 6) rw_240_6 (ls2 := [.ref 77, .int c, .int f, .int t, .int w, .long r49, .null, .null, .null, .null, .null, .null, .null]) rfl rfl (to_c (pc := 8) rw_240_8 (x := (0 : Int32)) rfl rfl (to_is (pc := 9) rw_240_9 (ls2 := [.ref 77, .int c, .int f, .int t, .int w, .long r49, .null, .int (0 : Int32), .null, .null, .null, .null, .null]) rfl rfl (to_c (pc := 11) rw_240_11 (x := (0 : Int32)) rfl rfl (to_is (pc := 12) rw_240_12 (ls2 := [.ref 77, .int c, .int f, .int t, .int w, .long r49, .null, .int (0 : Int32), .int (0 : Int32), .null, .null, .null, .null]) rfl rfl (to_c (pc := 14) rw_240_14 (x := (-1 : Int32)) rfl rfl (to_is (pc := 15) rw_240_15 (ls2 := [.ref 77, .int c, .int f, .int t, .int w, .long r49, .null, .int (0 : Int32), .int (0 : Int32), .int (-1 : Int32), .null, .null, .null]) rfl rfl (to_c (pc := 17) rw_240_17 (x := (0 : Int32)) rfl rfl (to_is (pc := 18) rw_240_18 (ls2 := [.ref 77, .int c, .int f, .int t, .int w, .long r49, .null, .int (0 : Int32), .int (0 : Int32), .int (-1 : Int32), .int (0 : Int32), .null, .null]) rfl rfl ?_))))))))
  have k_54 : (0 : Int32).toInt = 0 := rfl
  have k_55 : (-1 : Int32).toInt = -1 := rfl
  have t_56 : (M52.2.1 81 (f.toInt).toNat).toInt = (M.2.1 81 (f.toInt).toNat).toInt := congrArg Int32.toInt (F_n F50 (show ¬ (81 < 0) by decide) rfl)
  have j_57 := (FA_f (tg_218 F50) q6)
  exact (T_240_0 (c := c) (f := f) (t := t) (w := w) hX hd q1 q2 q3 q4 q5 q6 h ((24 - (0 : Int32).toInt).toNat + 1)) M52 (.int c) r49 (0 : Int32) (0 : Int32) (-1 : Int32) (0 : Int32) (.null) (.null) hG51 F53 (by omega) (by omega) (by omega) j_57 (by omega)
set_option maxRecDepth 4000 in
set_option maxHeartbeats 0 in
theorem C_238 {X : mm_X} {d : Nat} {M : mm_M} {Q : Option Value → mm_M → Prop} {n : Int32} {c : Int32} {f : Int32} {t : Int32} {w : Int32} (hX : g_X X) (hd : 3 ≤ d) (hG : g_G M) (q1 : NJ M) (q2 : FA M) (h : ∀ (r : Int32) (M1 : mm_M), g_G M1 → FR md_me M M1 → Q (some (.int r)) M1) : mm_T X d 237 0 [.ref 77, .int n, .int c, .int f, .int t, .int w] [] M Q := by
  have F0 : FR md_me M M := FR.rf
  refine to_an (pc := 0) rw_238_0 rfl (to_c (pc := 1) rw_238_1 (x := (0 : Int32)) rfl rfl (s_pI (pc := 2) rw_238_2 hG rfl (fun M2 W1 => ?_)))
  have hG3 := g_wf hG W1 rfl rfl (by decide)
  have F4 := FR.w F0 W1 (show 77 = 77 ∧ 2 = 2 ∨ 94 ≤ 77 ∧ 77 ≤ 98 ∨ 77 = 119 by decide)
  refine to_an (pc := 5) rw_238_5 rfl (to_in (pc := 6) rw_238_6 rfl (s_v (pc := 7) rw_238_7 (dp0 hd (by decide)) (ls0 := [.ref 77, .int n]) rfl (Nat.le_of_ble_eq_true rfl) (Nat.le_of_ble_eq_true rfl) rfl (to_rc rfl rfl rfl (g_o hG3 rfl)) rfl (to_in (pc := 0) rw_186_0 rfl (b_ilt (pc := 1) rw_186_1 (A := n.toInt) rfl (fun h5 => ?_) (fun h5 => ?_)))))
  · refine to_c (pc := 16) rw_186_16 (x := (0 : Int32)) rfl rfl (s_r1 (pc := 17) rw_186_17 (A := 0) rfl (by decide) (b_ieq_t (pc := 10) rw_238_10 (A := 0) rfl (by decide) (to_c (pc := 50) rw_238_50 (x := (-2 : Int32)) rfl rfl (to_r0 (pc := 52) rw_238_52 ?_))))
    have k_6 : (-2 : Int32).toInt = -2 := rfl
    exact h (-2 : Int32) M2 hG3 F4 
  · refine to_in (pc := 4) rw_186_4 rfl (to_an (pc := 5) rw_186_5 rfl ?_)
    have c_7 : M2.2.1 77 29 = (M.2.1 77 29) := (W_n W1 (by decide) rfl)
    have b_8 := g_b hG (a := 77) (i := 29) (lo := 0) (hi := 150) rfl rfl
    refine tt_gI (pc := 6) rw_186_6 (g_o hG3 rfl) (v := (M.2.1 77 29)) c_7 (b_cgt (pc := 9) rw_186_9 (A := n.toInt) (B := (M.2.1 77 29).toInt) rfl rfl (fun h9 => ?_) (fun h9 => ?_))
    · refine to_c (pc := 16) rw_186_16 (x := (0 : Int32)) rfl rfl (s_r1 (pc := 17) rw_186_17 (A := 0) rfl (by decide) (b_ieq_t (pc := 10) rw_238_10 (A := 0) rfl (by decide) (to_c (pc := 50) rw_238_50 (x := (-2 : Int32)) rfl rfl (to_r0 (pc := 52) rw_238_52 ?_))))
      have k_10 : (-2 : Int32).toInt = -2 := rfl
      exact h (-2 : Int32) M2 hG3 F4 
    · refine to_c (pc := 12) rw_186_12 (x := (1 : Int32)) rfl rfl (to_go (pc := 13) rw_186_13 (s_r1 (pc := 17) rw_186_17 (A := 1) rfl (by decide) (b_ieq_f (pc := 10) rw_238_10 (A := 1) rfl (by decide) (to_an (pc := 13) rw_238_13 rfl (to_in (pc := 14) rw_238_14 rfl (s_v (pc := 15) rw_238_15 (dp0 hd (by decide)) (ls0 := [.ref 77, .int c]) rfl (Nat.le_of_ble_eq_true rfl) (Nat.le_of_ble_eq_true rfl) rfl (to_rc rfl rfl rfl (g_o hG3 rfl)) rfl (to_in (pc := 0) rw_187_0 rfl (b_ilt (pc := 1) rw_187_1 (A := c.toInt) rfl (fun h11 => ?_) (fun h11 => ?_)))))))))
      · refine to_c (pc := 16) rw_187_16 (x := (0 : Int32)) rfl rfl (s_r1 (pc := 17) rw_187_17 (A := 0) rfl (by decide) (b_ieq_t (pc := 18) rw_238_18 (A := 0) rfl (by decide) (to_c (pc := 50) rw_238_50 (x := (-2 : Int32)) rfl rfl (to_r0 (pc := 52) rw_238_52 ?_))))
        have k_12 : (-2 : Int32).toInt = -2 := rfl
        exact h (-2 : Int32) M2 hG3 F4 
      · refine to_in (pc := 4) rw_187_4 rfl (to_an (pc := 5) rw_187_5 rfl ?_)
        have c_13 : M2.2.1 77 28 = (M.2.1 77 28) := (W_n W1 (by decide) rfl)
        have b_14 := g_b hG (a := 77) (i := 28) (lo := 0) (hi := 30) rfl rfl
        refine tt_gI (pc := 6) rw_187_6 (g_o hG3 rfl) (v := (M.2.1 77 28)) c_13 (b_cge (pc := 9) rw_187_9 (A := c.toInt) (B := (M.2.1 77 28).toInt) rfl rfl (fun h15 => ?_) (fun h15 => ?_))
        · refine to_c (pc := 16) rw_187_16 (x := (0 : Int32)) rfl rfl (s_r1 (pc := 17) rw_187_17 (A := 0) rfl (by decide) (b_ieq_t (pc := 18) rw_238_18 (A := 0) rfl (by decide) (to_c (pc := 50) rw_238_50 (x := (-2 : Int32)) rfl rfl (to_r0 (pc := 52) rw_238_52 ?_))))
          have k_16 : (-2 : Int32).toInt = -2 := rfl
          exact h (-2 : Int32) M2 hG3 F4 
        · refine to_c (pc := 12) rw_187_12 (x := (1 : Int32)) rfl rfl (to_go (pc := 13) rw_187_13 (s_r1 (pc := 17) rw_187_17 (A := 1) rfl (by decide) (b_ieq_f (pc := 18) rw_238_18 (A := 1) rfl (by decide) (to_an (pc := 21) rw_238_21 rfl (to_in (pc := 22) rw_238_22 rfl (s_v (pc := 23) rw_238_23 (dp0 hd (by decide)) (ls0 := [.ref 77, .int f]) rfl (Nat.le_of_ble_eq_true rfl) (Nat.le_of_ble_eq_true rfl) rfl (to_rc rfl rfl rfl (g_o hG3 rfl)) rfl (to_in (pc := 0) rw_178_0 rfl (b_ilt (pc := 1) rw_178_1 (A := f.toInt) rfl (fun h17 => ?_) (fun h17 => ?_)))))))))
          · refine to_c (pc := 16) rw_178_16 (x := (0 : Int32)) rfl rfl (s_r1 (pc := 17) rw_178_17 (A := 0) rfl (by decide) (b_ieq_t (pc := 26) rw_238_26 (A := 0) rfl (by decide) (to_c (pc := 50) rw_238_50 (x := (-2 : Int32)) rfl rfl (to_r0 (pc := 52) rw_238_52 ?_))))
            have k_18 : (-2 : Int32).toInt = -2 := rfl
            exact h (-2 : Int32) M2 hG3 F4 
          · refine to_in (pc := 4) rw_178_4 rfl (to_an (pc := 5) rw_178_5 rfl ?_)
            have c_19 : M2.2.1 77 12 = (M.2.1 77 12) := (W_n W1 (by decide) rfl)
            have b_20 := g_b hG (a := 77) (i := 12) (lo := 0) (hi := 8) rfl rfl
            refine tt_gI (pc := 6) rw_178_6 (g_o hG3 rfl) (v := (M.2.1 77 12)) c_19 (b_cge (pc := 9) rw_178_9 (A := f.toInt) (B := (M.2.1 77 12).toInt) rfl rfl (fun h21 => ?_) (fun h21 => ?_))
            · refine to_c (pc := 16) rw_178_16 (x := (0 : Int32)) rfl rfl (s_r1 (pc := 17) rw_178_17 (A := 0) rfl (by decide) (b_ieq_t (pc := 26) rw_238_26 (A := 0) rfl (by decide) (to_c (pc := 50) rw_238_50 (x := (-2 : Int32)) rfl rfl (to_r0 (pc := 52) rw_238_52 ?_))))
              have k_22 : (-2 : Int32).toInt = -2 := rfl
              exact h (-2 : Int32) M2 hG3 F4 
            · refine to_c (pc := 12) rw_178_12 (x := (1 : Int32)) rfl rfl (to_go (pc := 13) rw_178_13 (s_r1 (pc := 17) rw_178_17 (A := 1) rfl (by decide) (b_ieq_f (pc := 26) rw_238_26 (A := 1) rfl (by decide) (to_i (pc := 29) rw_238_29 rfl (to_c (pc := 31) rw_238_31 (x := (0 : Int32)) rfl rfl (to_c (pc := 32) rw_238_32 (x := (9 : Int32)) rfl rfl (s_s (pc := 34) rw_238_34 (dp0 hd (by decide)) (ls0 := [.int t, .int (0 : Int32), .int (9 : Int32)]) rfl (Nat.le_of_ble_eq_true rfl) (Nat.le_of_ble_eq_true rfl) rfl (to_rcs rfl rfl) rfl (to_in (pc := 0) rw_149_0 rfl (to_in (pc := 1) rw_149_1 rfl (b_clt (pc := 2) rw_149_2 (A := t.toInt) (B := 0) rfl rfl (fun h23 => ?_) (fun h23 => ?_)))))))))))
              · refine to_c (pc := 14) rw_149_14 (x := (0 : Int32)) rfl rfl (s_r1 (pc := 15) rw_149_15 (A := 0) rfl (by decide) (b_ieq_t (pc := 37) rw_238_37 (A := 0) rfl (by decide) (to_c (pc := 50) rw_238_50 (x := (-2 : Int32)) rfl rfl (to_r0 (pc := 52) rw_238_52 ?_))))
                have k_24 : (-2 : Int32).toInt = -2 := rfl
                exact h (-2 : Int32) M2 hG3 F4 
              · refine to_in (pc := 5) rw_149_5 rfl (to_in (pc := 6) rw_149_6 rfl (b_cgt (pc := 7) rw_149_7 (A := t.toInt) (B := 9) rfl rfl (fun h25 => ?_) (fun h25 => ?_)))
                · refine to_c (pc := 14) rw_149_14 (x := (0 : Int32)) rfl rfl (s_r1 (pc := 15) rw_149_15 (A := 0) rfl (by decide) (b_ieq_t (pc := 37) rw_238_37 (A := 0) rfl (by decide) (to_c (pc := 50) rw_238_50 (x := (-2 : Int32)) rfl rfl (to_r0 (pc := 52) rw_238_52 ?_))))
                  have k_26 : (-2 : Int32).toInt = -2 := rfl
                  exact h (-2 : Int32) M2 hG3 F4 
                · refine to_c (pc := 10) rw_149_10 (x := (1 : Int32)) rfl rfl (to_go (pc := 11) rw_149_11 (s_r1 (pc := 15) rw_149_15 (A := 1) rfl (by decide) (b_ieq_f (pc := 37) rw_238_37 (A := 1) rfl (by decide) (to_i (pc := 40) rw_238_40 rfl (to_c (pc := 42) rw_238_42 (x := (0 : Int32)) rfl rfl (to_c (pc := 43) rw_238_43 (x := (2 : Int32)) rfl rfl (s_s (pc := 44) rw_238_44 (dp0 hd (by decide)) (ls0 := [.int w, .int (0 : Int32), .int (2 : Int32)]) rfl (Nat.le_of_ble_eq_true rfl) (Nat.le_of_ble_eq_true rfl) rfl (to_rcs rfl rfl) rfl (to_in (pc := 0) rw_149_0 rfl (to_in (pc := 1) rw_149_1 rfl (b_clt (pc := 2) rw_149_2 (A := w.toInt) (B := 0) rfl rfl (fun h27 => ?_) (fun h27 => ?_)))))))))))
                  · refine to_c (pc := 14) rw_149_14 (x := (0 : Int32)) rfl rfl (s_r1 (pc := 15) rw_149_15 (A := 0) rfl (by decide) (b_ine_f (pc := 47) rw_238_47 (A := 0) rfl (by decide) (to_c (pc := 50) rw_238_50 (x := (-2 : Int32)) rfl rfl (to_r0 (pc := 52) rw_238_52 ?_))))
                    have k_28 : (-2 : Int32).toInt = -2 := rfl
                    exact h (-2 : Int32) M2 hG3 F4 
                  · refine to_in (pc := 5) rw_149_5 rfl (to_in (pc := 6) rw_149_6 rfl (b_cgt (pc := 7) rw_149_7 (A := w.toInt) (B := 2) rfl rfl (fun h29 => ?_) (fun h29 => ?_)))
                    · refine to_c (pc := 14) rw_149_14 (x := (0 : Int32)) rfl rfl (s_r1 (pc := 15) rw_149_15 (A := 0) rfl (by decide) (b_ine_f (pc := 47) rw_238_47 (A := 0) rfl (by decide) (to_c (pc := 50) rw_238_50 (x := (-2 : Int32)) rfl rfl (to_r0 (pc := 52) rw_238_52 ?_))))
                      have k_30 : (-2 : Int32).toInt = -2 := rfl
                      exact h (-2 : Int32) M2 hG3 F4 
                    · refine to_c (pc := 10) rw_149_10 (x := (1 : Int32)) rfl rfl (to_go (pc := 11) rw_149_11 (s_r1 (pc := 15) rw_149_15 (A := 1) rfl (by decide) (b_ine_t (pc := 47) rw_238_47 (A := 1) rfl (by decide) (to_an (pc := 53) rw_238_53 rfl (to_in (pc := 54) rw_238_54 rfl (s_v (pc := 55) rw_238_55 (dp0 hd (by decide)) (ls0 := [.ref 77, .int n, .null, .null]) rfl (Nat.le_of_ble_eq_true rfl) (Nat.le_of_ble_eq_true rfl) rfl (to_rc rfl rfl rfl (g_o hG3 rfl)) rfl ?_))))))
                      have t_31 : (M2.2.1 77 29).toInt = (M.2.1 77 29).toInt := congrArg Int32.toInt c_7
                      have j_32 := (NJ_f (fun a i z => W_n W1 (by /-r77,2-/ omega) rfl) q1)
                      refine C_189 hX (dp1 hd (by decide)) hG3 (by omega) (by omega) (by omega) j_32 (n := n) (fun M35 hG34 F33 => ?_)
                      have F36 := FR.c F4 F33 tg_351
                      refine to_an (pc := 58) rw_238_58 rfl (s_gR (pc := 59) rw_238_59 hG34 rfl (v := 81) rfl (to_in (pc := 62) rw_238_62 rfl (s_ial (pc := 63) rw_238_63 hG34 rfl (n := 16) rfl rfl (A := f.toInt) rfl (by omega) (by omega) (lo := 0) (hi := 3) rfl rfl (fun v37 w_38 _ _ => ?_))))
                      have t_39 := congrArg Int32.toInt w_38
                      refine to_c (pc := 64) rw_238_64 (x := (3 : Int32)) rfl rfl (b_cne (pc := 65) rw_238_65 (A := v37.toInt) (B := 3) rfl rfl (fun h40 => ?_) (fun h40 => ?_))
                      · refine to_an (pc := 81) rw_238_81 rfl (to_in (pc := 82) rw_238_82 rfl (to_in (pc := 83) rw_238_83 rfl (to_i (pc := 84) rw_238_84 rfl (to_i (pc := 86) rw_238_86 rfl (s_v (pc := 88) rw_238_88 (dp0 hd (by decide)) (ls0 := [.ref 77, .int c, .int f, .int t, .int w, .null, .null, .null, .null, .null, .null, .null, .null]) rfl (Nat.le_of_ble_eq_true rfl) (Nat.le_of_ble_eq_true rfl) rfl (to_rc rfl rfl rfl (g_o hG34 rfl)) rfl ?_)))))
                        have t_41 : (M35.2.1 81 (f.toInt).toNat).toInt = (M.2.1 81 (f.toInt).toNat).toInt := congrArg Int32.toInt (F_n F33 (show ¬ (94 ≤ 81 ∧ 81 ≤ 98) by decide) (W_n W1 (by omega) rfl))
                        have j_42 := (FA_f (tg_346 F33) (FA_f (fun a i z => W_n W1 (tg_94 a i z) rfl) q2))
                        refine C_240 hX (dp1 hd (by decide)) hG34 (by omega) (by omega) (by omega) (by omega) (by omega) j_42 (c := c) (f := f) (t := t) (w := w) (fun r43 M46 hG45 F44 => ?_)
                        have F47 := FR.c F36 F44 tg_352
                        refine to_r0 (pc := 91) rw_238_91 ?_
                        exact h r43 M46 hG45 F47 
                      · refine to_an (pc := 68) rw_238_68 rfl (to_in (pc := 69) rw_238_69 rfl (to_in (pc := 70) rw_238_70 rfl (to_i (pc := 71) rw_238_71 rfl (to_i (pc := 73) rw_238_73 rfl (s_v (pc := 75) rw_238_75 (dp0 hd (by decide)) (ls0 := [.ref 77, .int c, .int f, .int t, .int w, .null, .null, .null, .null, .null, .null, .null, .null, .null, .null, .null]) rfl (Nat.le_of_ble_eq_true rfl) (Nat.le_of_ble_eq_true rfl) rfl (to_rc rfl rfl rfl (g_o hG34 rfl)) rfl (C_239 hX (dp1 hd (by decide)) hG34 (by omega) (by omega) (by omega) (by omega) (c := c) (f := f) (t := t) (w := w) (fun r48 M51 hG50 F49 => ?_)))))))
                        have F52 := FR.c F36 F49 tg_353
                        refine to_go (pc := 78) rw_238_78 (to_r0 (pc := 91) rw_238_91 ?_)
                        exact h r48 M51 hG50 F52 
set_option maxRecDepth 4000 in
set_option maxHeartbeats 0 in
theorem T_242_0 {X : mm_X} {d : Nat} {M : mm_M} {Q : Option Value → mm_M → Prop} {p : Int32} {f : Int32} (hX : g_X X) (hd : 3 ≤ d) (q1 : NJ M) (h : ∀ (r : Int32) (M1 : mm_M), g_G M1 → FR md_be M M1 → Q (some (.int r)) M1) : ∀ nn9 : Nat, (∀ (N : mm_M) (x3 : Int32) (x4 : Int32) (u5 : Value), g_G N → FR md_be M N → (0 ≤ p.toInt) → (p.toInt ≤ 5) → (0 ≤ f.toInt) → (f.toInt ≤ 7) → (0 ≤ x4.toInt) → (x4.toInt ≤ 30) → (30 - x4.toInt) * 100 + 50 < (nn9 : Int) → mm_T X d 241 35 [.ref 77, .int p, .int f, .int x3, .int x4, u5] [] N Q) ∧ (∀ (N : mm_M) (x3 : Int32) (x4 : Int32) (x5 : Int32), g_G N → FR md_be M N → (0 ≤ p.toInt) → (p.toInt ≤ 5) → (0 ≤ f.toInt) → (f.toInt ≤ 7) → (0 ≤ x4.toInt) → (x4.toInt ≤ 29) → (0 ≤ x5.toInt) → (x5.toInt ≤ 30) → (x5.toInt ≤ x4.toInt) → (30 - x4.toInt) * 100 + 30 - x5.toInt < (nn9 : Int) → mm_T X d 241 57 [.ref 77, .int p, .int f, .int x3, .int x4, .int x5] [] N Q) := by
  intro nn9
  induction nn9 with
  | zero =>
    refine ⟨?_, ?_⟩
    · intro N x3 x4 u5 hG F0 g1 g2 g3 g4 g5 g6 hm
      exfalso; omega
    · intro N x3 x4 x5 hG F0 g1 g2 g3 g4 g5 g6 g7 g8 g9 hm
      exfalso; omega
  | succ nn9 ih =>
    refine ⟨?_, ?_⟩
    · intro N x3 x4 u5 hG F0 g1 g2 g3 g4 g5 g6 hm
      refine to_i (pc := 35) rw_242_35 rfl (to_an (pc := 37) rw_242_37 rfl (s_gR (pc := 38) rw_242_38 hG rfl (v := 100) rfl (to_in (pc := 41) rw_242_41 rfl (s_ial (pc := 42) rw_242_42 hG rfl (n := 6) rfl rfl (A := p.toInt) rfl (by omega) (by omega) (lo := 0) (hi := 30) rfl rfl (fun v1 w_2 _ _ => b_cge (pc := 43) rw_242_43 (A := x4.toInt) (B := v1.toInt) rfl rfl (fun h3 => ?_) (fun h3 => ?_))))))
      · refine to_an (pc := 171) rw_242_171 rfl (s_gR (pc := 172) rw_242_172 hG rfl (v := 100) rfl (to_in (pc := 175) rw_242_175 rfl (s_ialk (pc := 176) rw_242_176 hG rfl (n := 6) rfl rfl (A := p.toInt) rfl (by omega) (by omega) (v := v1) w_2 (to_in (pc := 177) rw_242_177 rfl (s_any (pc := 178) rw_242_178 (fun _ _ => rfl) (fun v6 => to_r0 (pc := 179) rw_242_179 ?_))))))
        exact h v6 N hG F0 
      · refine to_an (pc := 46) rw_242_46 rfl (s_gR (pc := 47) rw_242_47 hG rfl (v := 120) rfl (to_i (pc := 50) rw_242_50 rfl (to_c (pc := 52) rw_242_52 (x := (1 : Int32)) rfl rfl (s_ias (pc := 53) rw_242_53 hG rfl (n := 30) rfl (A := x4.toInt) rfl (by omega) (by omega) (fun M8 W7 => ?_)))))
        have hG9 := g_wf hG W7 rfl rfl (by decide)
        have F10 := FR.w F0 W7 (show 120 = 77 ∧ (x4.toInt).toNat = 2 ∨ 94 ≤ 120 ∧ 120 ≤ 98 ∨ 120 = 120 by omega)
        refine to_c (pc := 54) rw_242_54 (x := (0 : Int32)) rfl rfl (to_is (pc := 55) rw_242_55 (ls2 := [.ref 77, .int p, .int f, .int x3, .int x4, .int (0 : Int32)]) rfl rfl ?_)
        have k_11 : (0 : Int32).toInt = 0 := rfl
        exact ih.2 M8 x3 x4 (0 : Int32) hG9 F10 (by omega) (by omega) (by omega) (by omega) (by omega) (by omega) (by omega) (by omega) (by omega) (by omega)
    · intro N x3 x4 x5 hG F0 g1 g2 g3 g4 g5 g6 g7 g8 g9 hm
      refine to_i (pc := 57) rw_242_57 rfl (to_i (pc := 59) rw_242_59 rfl (b_cge (pc := 61) rw_242_61 (A := x5.toInt) (B := x4.toInt) rfl rfl (fun h12 => ?_) (fun h12 => ?_)))
      · refine to_an (pc := 142) rw_242_142 rfl (s_gR (pc := 143) rw_242_143 hG rfl (v := 120) rfl (to_i (pc := 146) rw_242_146 rfl (s_ial (pc := 148) rw_242_148 hG rfl (n := 30) rfl rfl (A := x4.toInt) rfl (by omega) (by omega) (lo := -2147483648) (hi := 2147483647) rfl rfl (fun v13 w_14 _ _ => to_in (pc := 149) rw_242_149 rfl (b_cle (pc := 150) rw_242_150 (A := v13.toInt) (B := x3.toInt) rfl rfl (fun h15 => ?_) (fun h15 => ?_))))))
        · refine to_in (pc := 163) rw_242_163 rfl (to_isn (pc := 164) rw_242_164 (ls2 := [.ref 77, .int p, .int f, .int x3, .int x4, .int x5]) rfl rfl (s_inc (pc := 165) rw_242_165 (ls2 := fun v => [.ref 77, .int p, .int f, .int x3, .int v, .int x5]) rfl rfl (fun _ => rfl) (A := x4.toInt) (B := 1) rfl rfl (by omega) (fun v16 e17 => to_go (pc := 168) rw_242_168 ?_)))
          exact ih.1 N x3 v16 (.int x5) hG F0 (by omega) (by omega) (by omega) (by omega) (by omega) (by omega) (by omega)
        · refine to_an (pc := 153) rw_242_153 rfl (s_gR (pc := 154) rw_242_154 hG rfl (v := 120) rfl (to_i (pc := 157) rw_242_157 rfl (s_ialk (pc := 159) rw_242_159 hG rfl (n := 30) rfl rfl (A := x4.toInt) rfl (by omega) (by omega) (v := v13) w_14 (to_go (pc := 160) rw_242_160 (to_isn (pc := 164) rw_242_164 (ls2 := [.ref 77, .int p, .int f, .int v13, .int x4, .int x5]) rfl rfl (s_inc (pc := 165) rw_242_165 (ls2 := fun v => [.ref 77, .int p, .int f, .int v13, .int v, .int x5]) rfl rfl (fun _ => rfl) (A := x4.toInt) (B := 1) rfl rfl (by omega) (fun v20 e21 => to_go (pc := 168) rw_242_168 ?_)))))))
          exact ih.1 N v13 v20 (.int x5) hG F0 (by omega) (by omega) (by omega) (by omega) (by omega) (by omega) (by omega)
      · refine to_an (pc := 64) rw_242_64 rfl (to_an (pc := 65) rw_242_65 rfl (s_gR (pc := 66) rw_242_66 hG rfl (v := 99) rfl (to_c (pc := 69) rw_242_69 (x := (30 : Int32)) rfl rfl (to_in (pc := 71) rw_242_71 rfl (s_mul (pc := 72) rw_242_72 (A := 30) (B := p.toInt) rfl rfl (by omega) (fun v22 e23 => to_i (pc := 73) rw_242_73 rfl (s_add (pc := 75) rw_242_75 (A := v22.toInt) (B := x5.toInt) rfl rfl (by omega) (fun v24 e25 => s_ial (pc := 76) rw_242_76 hG rfl (n := 180) rfl rfl (A := v24.toInt) rfl (by omega) (by omega) (lo := 0) (hi := 29) rfl rfl (fun v26 w_27 _ _ => to_in (pc := 77) rw_242_77 rfl (s_v (pc := 78) rw_242_78 (dp0 hd (by decide)) (ls0 := [.ref 77, .int v26, .int f]) rfl (Nat.le_of_ble_eq_true rfl) (Nat.le_of_ble_eq_true rfl) rfl (to_rc rfl rfl rfl (g_o hG rfl)) rfl (to_an (pc := 0) rw_241_0 rfl ?_)))))))))))
        refine s_gR (pc := 1) rw_241_1 hG rfl (v := 97) rfl (to_c (pc := 4) rw_241_4 (x := (8 : Int32)) rfl rfl (to_in (pc := 6) rw_241_6 rfl (s_mul (pc := 7) rw_241_7 (A := 8) (B := v26.toInt) rfl rfl (by omega) (fun v28 e29 => to_in (pc := 8) rw_241_8 rfl (s_add (pc := 9) rw_241_9 (A := v28.toInt) (B := f.toInt) rfl rfl (by omega) (fun v30 e31 => s_ial (pc := 10) rw_241_10 hG rfl (n := 240) rfl rfl (A := v30.toInt) rfl (by omega) (by omega) (lo := -2147483648) (hi := 2147483647) rfl rfl (fun v32 w_33 _ _ => to_r0 (pc := 11) rw_241_11 (to_an (pc := 81) rw_242_81 rfl (to_an (pc := 82) rw_242_82 rfl (s_gR (pc := 83) rw_242_83 hG rfl (v := 99) rfl (to_c (pc := 86) rw_242_86 (x := (30 : Int32)) rfl rfl ?_)))))))))))
        refine to_in (pc := 88) rw_242_88 rfl (s_mul (pc := 89) rw_242_89 (A := 30) (B := p.toInt) rfl rfl (by omega) (fun v34 e35 => to_i (pc := 90) rw_242_90 rfl (s_add (pc := 92) rw_242_92 (A := v34.toInt) (B := x4.toInt) rfl rfl (by omega) (fun v36 e37 => s_ial (pc := 93) rw_242_93 hG rfl (n := 180) rfl rfl (A := v36.toInt) rfl (by omega) (by omega) (lo := 0) (hi := 29) rfl rfl (fun v38 w_39 _ _ => to_in (pc := 94) rw_242_94 rfl (s_v (pc := 95) rw_242_95 (dp0 hd (by decide)) (ls0 := [.ref 77, .int v38, .int f]) rfl (Nat.le_of_ble_eq_true rfl) (Nat.le_of_ble_eq_true rfl) rfl (to_rc rfl rfl rfl (g_o hG rfl)) rfl (to_an (pc := 0) rw_241_0 rfl (s_gR (pc := 1) rw_241_1 hG rfl (v := 97) rfl (to_c (pc := 4) rw_241_4 (x := (8 : Int32)) rfl rfl (to_in (pc := 6) rw_241_6 rfl (s_mul (pc := 7) rw_241_7 (A := 8) (B := v38.toInt) rfl rfl (by omega) (fun v40 e41 => ?_))))))))))))
        refine to_in (pc := 8) rw_241_8 rfl (s_add (pc := 9) rw_241_9 (A := v40.toInt) (B := f.toInt) rfl rfl (by omega) (fun v42 e43 => s_ial (pc := 10) rw_241_10 hG rfl (n := 240) rfl rfl (A := v42.toInt) rfl (by omega) (by omega) (lo := -2147483648) (hi := 2147483647) rfl rfl (fun v44 w_45 _ _ => to_r0 (pc := 11) rw_241_11 (b_cgt (pc := 98) rw_242_98 (A := v32.toInt) (B := v44.toInt) rfl rfl (fun h46 => ?_) (fun h46 => ?_)))))
        · refine s_inc (pc := 136) rw_242_136 (ls2 := fun v => [.ref 77, .int p, .int f, .int x3, .int x4, .int v]) rfl rfl (fun _ => rfl) (A := x5.toInt) (B := 1) rfl rfl (by omega) (fun v47 e48 => to_go (pc := 139) rw_242_139 ?_)
          exact ih.2 N x3 x4 v47 hG F0 (by omega) (by omega) (by omega) (by omega) (by omega) (by omega) (by omega) (by omega) (by omega) (by omega)
        · refine to_an (pc := 101) rw_242_101 rfl (s_gR (pc := 102) rw_242_102 hG rfl (v := 120) rfl (to_i (pc := 105) rw_242_105 rfl (s_ial (pc := 107) rw_242_107 hG rfl (n := 30) rfl rfl (A := x5.toInt) rfl (by omega) (by omega) (lo := -2147483648) (hi := 2147483647) rfl rfl (fun v49 w_50 _ _ => to_c (pc := 108) rw_242_108 (x := (1 : Int32)) rfl rfl (s_any (pc := 109) rw_242_109 (fun _ _ => rfl) (fun v51 => to_an (pc := 110) rw_242_110 rfl (s_gR (pc := 111) rw_242_111 hG rfl (v := 120) rfl (to_i (pc := 114) rw_242_114 rfl (s_ial (pc := 116) rw_242_116 hG rfl (n := 30) rfl rfl (A := x4.toInt) rfl (by omega) (by omega) (lo := -2147483648) (hi := 2147483647) rfl rfl (fun v52 w_53 _ _ => b_cle (pc := 117) rw_242_117 (A := v51.toInt) (B := v52.toInt) rfl rfl (fun h54 => ?_) (fun h54 => ?_)))))))))))
          · refine s_inc (pc := 136) rw_242_136 (ls2 := fun v => [.ref 77, .int p, .int f, .int x3, .int x4, .int v]) rfl rfl (fun _ => rfl) (A := x5.toInt) (B := 1) rfl rfl (by omega) (fun v55 e56 => to_go (pc := 139) rw_242_139 ?_)
            exact ih.2 N x3 x4 v55 hG F0 (by omega) (by omega) (by omega) (by omega) (by omega) (by omega) (by omega) (by omega) (by omega) (by omega)
          · refine to_an (pc := 120) rw_242_120 rfl (s_gR (pc := 121) rw_242_121 hG rfl (v := 120) rfl (to_i (pc := 124) rw_242_124 rfl (to_an (pc := 126) rw_242_126 rfl (s_gR (pc := 127) rw_242_127 hG rfl (v := 120) rfl (to_i (pc := 130) rw_242_130 rfl (s_ialk (pc := 132) rw_242_132 hG rfl (n := 30) rfl rfl (A := x5.toInt) rfl (by omega) (by omega) (v := v49) w_50 (to_c (pc := 133) rw_242_133 (x := (1 : Int32)) rfl rfl (s_any (pc := 134) rw_242_134 (fun _ _ => rfl) (fun v59 => s_ias (pc := 135) rw_242_135 hG rfl (n := 30) rfl (A := x4.toInt) rfl (by omega) (by omega) (fun M61 W60 => ?_))))))))))
            have hG62 := g_wf hG W60 rfl rfl (by decide)
            have F63 := FR.w F0 W60 (show 120 = 77 ∧ (x4.toInt).toNat = 2 ∨ 94 ≤ 120 ∧ 120 ≤ 98 ∨ 120 = 120 by omega)
            refine s_inc (pc := 136) rw_242_136 (ls2 := fun v => [.ref 77, .int p, .int f, .int x3, .int x4, .int v]) rfl rfl (fun _ => rfl) (A := x5.toInt) (B := 1) rfl rfl (by omega) (fun v64 e65 => to_go (pc := 139) rw_242_139 ?_)
            exact ih.2 M61 x3 x4 v64 hG62 F63 (by omega) (by omega) (by omega) (by omega) (by omega) (by omega) (by omega) (by omega) (by omega) (by omega)
set_option maxRecDepth 4000 in
set_option maxHeartbeats 0 in
theorem C_242 {X : mm_X} {d : Nat} {M : mm_M} {Q : Option Value → mm_M → Prop} {p : Int32} {f : Int32} (hX : g_X X) (hd : 3 ≤ d) (hG : g_G M) (q1 : NJ M) (h : ∀ (r : Int32) (M1 : mm_M), g_G M1 → FR md_be M M1 → Q (some (.int r)) M1) : mm_T X d 241 0 [.ref 77, .int p, .int f, .null, .null, .null] [] M Q := by
  have F0 : FR md_be M M := FR.rf
  refine to_an (pc := 0) rw_242_0 rfl (to_c (pc := 1) rw_242_1 (x := (0 : Int32)) rfl rfl (s_pI (pc := 2) rw_242_2 hG rfl (fun M67 W66 => ?_)))
  have hG68 := g_wf hG W66 rfl rfl (by decide)
  have F69 := FR.w F0 W66 (show 77 = 77 ∧ 2 = 2 ∨ 94 ≤ 77 ∧ 77 ≤ 98 ∨ 77 = 120 by decide)
  refine to_in (pc := 5) rw_242_5 rfl (s_s (pc := 6) rw_242_6 (dp0 hd (by decide)) (ls0 := [.int p]) rfl (Nat.le_of_ble_eq_true rfl) (Nat.le_of_ble_eq_true rfl) rfl (to_rcs rfl rfl) rfl (to_in (pc := 0) rw_205_0 rfl (b_ilt (pc := 1) rw_205_1 (A := p.toInt) rfl (fun h70 => ?_) (fun h70 => ?_))))
  · refine to_c (pc := 14) rw_205_14 (x := (0 : Int32)) rfl rfl (s_r1 (pc := 15) rw_205_15 (A := 0) rfl (by decide) (b_ieq_t (pc := 9) rw_242_9 (A := 0) rfl (by decide) (to_c (pc := 20) rw_242_20 (x := (-1 : Int32)) rfl rfl (to_r0 (pc := 21) rw_242_21 ?_))))
    have k_71 : (-1 : Int32).toInt = -1 := rfl
    exact h (-1 : Int32) M67 hG68 F69 
  · refine to_in (pc := 4) rw_205_4 rfl (to_c (pc := 5) rw_205_5 (x := (6 : Int32)) rfl rfl (b_cge (pc := 7) rw_205_7 (A := p.toInt) (B := 6) rfl rfl (fun h72 => ?_) (fun h72 => ?_)))
    · refine to_c (pc := 14) rw_205_14 (x := (0 : Int32)) rfl rfl (s_r1 (pc := 15) rw_205_15 (A := 0) rfl (by decide) (b_ieq_t (pc := 9) rw_242_9 (A := 0) rfl (by decide) (to_c (pc := 20) rw_242_20 (x := (-1 : Int32)) rfl rfl (to_r0 (pc := 21) rw_242_21 ?_))))
      have k_73 : (-1 : Int32).toInt = -1 := rfl
      exact h (-1 : Int32) M67 hG68 F69 
    · refine to_c (pc := 10) rw_205_10 (x := (1 : Int32)) rfl rfl (to_go (pc := 11) rw_205_11 (s_r1 (pc := 15) rw_205_15 (A := 1) rfl (by decide) (b_ieq_f (pc := 9) rw_242_9 (A := 1) rfl (by decide) (to_an (pc := 12) rw_242_12 rfl (to_in (pc := 13) rw_242_13 rfl (s_v (pc := 14) rw_242_14 (dp0 hd (by decide)) (ls0 := [.ref 77, .int f]) rfl (Nat.le_of_ble_eq_true rfl) (Nat.le_of_ble_eq_true rfl) rfl (to_rc rfl rfl rfl (g_o hG68 rfl)) rfl (to_an (pc := 0) rw_179_0 rfl (to_in (pc := 1) rw_179_1 rfl (s_v (pc := 2) rw_179_2 (dp1 hd (by decide)) (ls0 := [.ref 77, .int f]) rfl (Nat.le_of_ble_eq_true rfl) (Nat.le_of_ble_eq_true rfl) rfl (to_rc rfl rfl rfl (g_o hG68 rfl)) rfl (to_in (pc := 0) rw_178_0 rfl (b_ilt (pc := 1) rw_178_1 (A := f.toInt) rfl (fun h74 => ?_) (fun h74 => ?_))))))))))))
      · refine to_c (pc := 16) rw_178_16 (x := (0 : Int32)) rfl rfl (s_r1 (pc := 17) rw_178_17 (A := 0) rfl (by decide) (b_ieq_t (pc := 5) rw_179_5 (A := 0) rfl (by decide) (to_c (pc := 22) rw_179_22 (x := (0 : Int32)) rfl rfl (s_r1 (pc := 23) rw_179_23 (A := 0) rfl (by decide) (b_ine_f (pc := 17) rw_242_17 (A := 0) rfl (by decide) (to_c (pc := 20) rw_242_20 (x := (-1 : Int32)) rfl rfl (to_r0 (pc := 21) rw_242_21 ?_)))))))
        have k_75 : (-1 : Int32).toInt = -1 := rfl
        exact h (-1 : Int32) M67 hG68 F69 
      · refine to_in (pc := 4) rw_178_4 rfl (to_an (pc := 5) rw_178_5 rfl ?_)
        have c_76 : M67.2.1 77 12 = (M.2.1 77 12) := (W_n W66 (by decide) rfl)
        have b_77 := g_b hG (a := 77) (i := 12) (lo := 0) (hi := 8) rfl rfl
        refine tt_gI (pc := 6) rw_178_6 (g_o hG68 rfl) (v := (M.2.1 77 12)) c_76 (b_cge (pc := 9) rw_178_9 (A := f.toInt) (B := (M.2.1 77 12).toInt) rfl rfl (fun h78 => ?_) (fun h78 => ?_))
        · refine to_c (pc := 16) rw_178_16 (x := (0 : Int32)) rfl rfl (s_r1 (pc := 17) rw_178_17 (A := 0) rfl (by decide) (b_ieq_t (pc := 5) rw_179_5 (A := 0) rfl (by decide) (to_c (pc := 22) rw_179_22 (x := (0 : Int32)) rfl rfl (s_r1 (pc := 23) rw_179_23 (A := 0) rfl (by decide) (b_ine_f (pc := 17) rw_242_17 (A := 0) rfl (by decide) (to_c (pc := 20) rw_242_20 (x := (-1 : Int32)) rfl rfl (to_r0 (pc := 21) rw_242_21 ?_)))))))
          have k_79 : (-1 : Int32).toInt = -1 := rfl
          exact h (-1 : Int32) M67 hG68 F69 
        · refine to_c (pc := 12) rw_178_12 (x := (1 : Int32)) rfl rfl (to_go (pc := 13) rw_178_13 (s_r1 (pc := 17) rw_178_17 (A := 1) rfl (by decide) (b_ieq_f (pc := 5) rw_179_5 (A := 1) rfl (by decide) (to_an (pc := 8) rw_179_8 rfl (s_gR (pc := 9) rw_179_9 hG68 rfl (v := 81) rfl (to_in (pc := 12) rw_179_12 rfl (s_ial (pc := 13) rw_179_13 hG68 rfl (n := 16) rfl rfl (A := f.toInt) rfl (by omega) (by omega) (lo := 0) (hi := 3) rfl rfl (fun v80 w_81 _ _ => to_c (pc := 14) rw_179_14 (x := (3 : Int32)) rfl rfl (b_ceq (pc := 15) rw_179_15 (A := v80.toInt) (B := 3) rfl rfl (fun h82 => ?_) (fun h82 => ?_))))))))))
          · refine to_c (pc := 22) rw_179_22 (x := (0 : Int32)) rfl rfl (s_r1 (pc := 23) rw_179_23 (A := 0) rfl (by decide) (b_ine_f (pc := 17) rw_242_17 (A := 0) rfl (by decide) (to_c (pc := 20) rw_242_20 (x := (-1 : Int32)) rfl rfl (to_r0 (pc := 21) rw_242_21 ?_))))
            have k_83 : (-1 : Int32).toInt = -1 := rfl
            exact h (-1 : Int32) M67 hG68 F69 
          · refine to_c (pc := 18) rw_179_18 (x := (1 : Int32)) rfl rfl (to_go (pc := 19) rw_179_19 (s_r1 (pc := 23) rw_179_23 (A := 1) rfl (by decide) (b_ine_t (pc := 17) rw_242_17 (A := 1) rfl (by decide) (to_an (pc := 22) rw_242_22 rfl (to_an (pc := 23) rw_242_23 rfl ?_)))))
            have c_84 : M67.2.1 77 29 = (M.2.1 77 29) := (W_n W66 (by decide) rfl)
            have b_85 := g_b hG (a := 77) (i := 29) (lo := 0) (hi := 150) rfl rfl
            refine tt_gI (pc := 24) rw_242_24 (g_o hG68 rfl) (v := (M.2.1 77 29)) c_84 (s_v (pc := 27) rw_242_27 (dp0 hd (by decide)) (ls0 := [.ref 77, .int (M.2.1 77 29), .null, .null]) rfl (Nat.le_of_ble_eq_true rfl) (Nat.le_of_ble_eq_true rfl) rfl (to_rc rfl rfl rfl (g_o hG68 rfl)) rfl ?_)
            have t_86 : (M67.2.1 77 29).toInt = (M.2.1 77 29).toInt := congrArg Int32.toInt c_84
            have j_87 := (NJ_f (fun a i z => W_n W66 (by /-r77,2-/ omega) rfl) q1)
            refine C_189 hX (dp1 hd (by decide)) hG68 (by omega) (by omega) (by omega) j_87 (n := (M.2.1 77 29)) (fun M90 hG89 F88 => ?_)
            have F91 := FR.c F69 F88 tg_354
            refine to_c (pc := 30) rw_242_30 (x := (0 : Int32)) rfl rfl (to_isn (pc := 31) rw_242_31 (ls2 := [.ref 77, .int p, .int f, .int (0 : Int32), .null, .null]) rfl rfl (to_c (pc := 32) rw_242_32 (x := (0 : Int32)) rfl rfl (to_is (pc := 33) rw_242_33 (ls2 := [.ref 77, .int p, .int f, .int (0 : Int32), .int (0 : Int32), .null]) rfl rfl ?_)))
            have k_92 : (0 : Int32).toInt = 0 := rfl
            exact (T_242_0 (p := p) (f := f) hX hd q1 h (((30 - (0 : Int32).toInt) * 100 + 50).toNat + 1)).1 M90 (0 : Int32) (0 : Int32) (.null) hG89 F91 (by omega) (by omega) (by omega) (by omega) (by omega) (by omega) (by omega)
end
section
set_option maxRecDepth 4000 in
set_option maxHeartbeats 0 in
theorem T_243_0 {X : mm_X} {d : Nat} {M : mm_M} {Q : Option Value → mm_M → Prop} {p : Int32} {f : Int32} {n : Int32} (hX : g_X X) (hd : 1 ≤ d) (q1 : 0 ≤ p.toInt) (q2 : p.toInt ≤ 5) (q3 : 0 ≤ f.toInt) (q4 : f.toInt ≤ 7) (q5 : 0 ≤ n.toInt) (q6 : n.toInt ≤ 6) (h : ∀ (r : Int32) (M1 : mm_M), g_G M1 → FR md_so M M1 → (0 ≤ r.toInt) → (r.toInt ≤ 1) → Q (some (.int r)) M1) : ∀ nn9 : Nat, (∀ (N : mm_M) (u1 : Value) (u3 : Value) (x4 : Int32) (x5 : Int32) (u6 : Value) (u7 : Value), g_G N → FR md_so M N → (0 ≤ x4.toInt) → (x4.toInt ≤ 30) → (0 ≤ x5.toInt) → (1 ≤ x5.toInt) → (x5.toInt ≤ 31) → 31 - x5.toInt < (nn9 : Int) → mm_T X d 242 218 [.ref 77, u1, .int f, u3, .int x4, .int x5, u6, u7] [] N Q) := by
  intro nn9
  induction nn9 with
  | zero =>
    intro N u1 u3 x4 x5 u6 u7 hG F0 g1 g2 g3 g4 g5 hm
    exfalso; omega
  | succ nn9 ih =>
    intro N u1 u3 x4 x5 u6 u7 hG F0 g1 g2 g3 g4 g5 hm
    refine to_i (pc := 218) rw_243_218 rfl (to_i (pc := 220) rw_243_220 rfl (b_cge (pc := 222) rw_243_222 (A := x5.toInt) (B := x4.toInt) rfl rfl (fun h1 => ?_) (fun h1 => ?_)))
    · refine to_c (pc := 262) rw_243_262 (x := (1 : Int32)) rfl rfl (s_r1 (pc := 263) rw_243_263 (A := 1) rfl (by decide) ?_)
      have k_2 : (1 : Int32).toInt = 1 := rfl
      exact h (1 : Int32) N hG F0 (by decide) (by decide)
    · refine to_an (pc := 225) rw_243_225 rfl (to_an (pc := 226) rw_243_226 rfl (s_gR (pc := 227) rw_243_227 hG rfl (v := 121) rfl (to_i (pc := 230) rw_243_230 rfl (to_c (pc := 232) rw_243_232 (x := (1 : Int32)) rfl rfl (s_sub (pc := 233) rw_243_233 (A := x5.toInt) (B := 1) rfl rfl (by omega) (fun v3 e4 => s_ial (pc := 234) rw_243_234 hG rfl (n := 30) rfl rfl (A := v3.toInt) rfl (by omega) (by omega) (lo := 0) (hi := 29) rfl rfl (fun v5 w_6 _ _ => to_in (pc := 235) rw_243_235 rfl (s_v (pc := 236) rw_243_236 (dp0 hd (by decide)) (ls0 := [.ref 77, .int v5, .int f]) rfl (Nat.le_of_ble_eq_true rfl) (Nat.le_of_ble_eq_true rfl) rfl (to_rc rfl rfl rfl (g_o hG rfl)) rfl (to_an (pc := 0) rw_241_0 rfl (s_gR (pc := 1) rw_241_1 hG rfl (v := 97) rfl (to_c (pc := 4) rw_241_4 (x := (8 : Int32)) rfl rfl ?_)))))))))))
      refine to_in (pc := 6) rw_241_6 rfl (s_mul (pc := 7) rw_241_7 (A := 8) (B := v5.toInt) rfl rfl (by omega) (fun v7 e8 => to_in (pc := 8) rw_241_8 rfl (s_add (pc := 9) rw_241_9 (A := v7.toInt) (B := f.toInt) rfl rfl (by omega) (fun v9 e10 => s_ial (pc := 10) rw_241_10 hG rfl (n := 240) rfl rfl (A := v9.toInt) rfl (by omega) (by omega) (lo := -2147483648) (hi := 2147483647) rfl rfl (fun v11 w_12 _ _ => to_r0 (pc := 11) rw_241_11 (to_an (pc := 239) rw_243_239 rfl (to_an (pc := 240) rw_243_240 rfl (s_gR (pc := 241) rw_243_241 hG rfl (v := 121) rfl (to_i (pc := 244) rw_243_244 rfl (s_ial (pc := 246) rw_243_246 hG rfl (n := 30) rfl rfl (A := x5.toInt) rfl (by omega) (by omega) (lo := 0) (hi := 29) rfl rfl (fun v13 w_14 _ _ => to_in (pc := 247) rw_243_247 rfl ?_)))))))))))
      refine s_v (pc := 248) rw_243_248 (dp0 hd (by decide)) (ls0 := [.ref 77, .int v13, .int f]) rfl (Nat.le_of_ble_eq_true rfl) (Nat.le_of_ble_eq_true rfl) rfl (to_rc rfl rfl rfl (g_o hG rfl)) rfl (to_an (pc := 0) rw_241_0 rfl (s_gR (pc := 1) rw_241_1 hG rfl (v := 97) rfl (to_c (pc := 4) rw_241_4 (x := (8 : Int32)) rfl rfl (to_in (pc := 6) rw_241_6 rfl (s_mul (pc := 7) rw_241_7 (A := 8) (B := v13.toInt) rfl rfl (by omega) (fun v15 e16 => to_in (pc := 8) rw_241_8 rfl (s_add (pc := 9) rw_241_9 (A := v15.toInt) (B := f.toInt) rfl rfl (by omega) (fun v17 e18 => s_ial (pc := 10) rw_241_10 hG rfl (n := 240) rfl rfl (A := v17.toInt) rfl (by omega) (by omega) (lo := -2147483648) (hi := 2147483647) rfl rfl (fun v19 w_20 _ _ => to_r0 (pc := 11) rw_241_11 (b_cle (pc := 251) rw_243_251 (A := v11.toInt) (B := v19.toInt) rfl rfl (fun h21 => ?_) (fun h21 => ?_)))))))))))
      · refine s_inc (pc := 256) rw_243_256 (ls2 := fun v => [.ref 77, u1, .int f, u3, .int x4, .int v, u6, u7]) rfl rfl (fun _ => rfl) (A := x5.toInt) (B := 1) rfl rfl (by omega) (fun v22 e23 => to_go (pc := 259) rw_243_259 ?_)
        exact ih N (u1) (u3) x4 v22 (u6) (u7) hG F0 (by omega) (by omega) (by omega) (by omega) (by omega) (by omega)
      · refine to_c (pc := 254) rw_243_254 (x := (0 : Int32)) rfl rfl (s_r1 (pc := 255) rw_243_255 (A := 0) rfl (by decide) ?_)
        have k_24 : (0 : Int32).toInt = 0 := rfl
        exact h (0 : Int32) N hG F0 (by decide) (by decide)
set_option maxRecDepth 4000 in
set_option maxHeartbeats 0 in
theorem T_243_1 {X : mm_X} {d : Nat} {M : mm_M} {Q : Option Value → mm_M → Prop} {p : Int32} {f : Int32} {n : Int32} (hX : g_X X) (hd : 1 ≤ d) (q1 : 0 ≤ p.toInt) (q2 : p.toInt ≤ 5) (q3 : 0 ≤ f.toInt) (q4 : f.toInt ≤ 7) (q5 : 0 ≤ n.toInt) (q6 : n.toInt ≤ 6) (h : ∀ (r : Int32) (M1 : mm_M), g_G M1 → FR md_so M M1 → (0 ≤ r.toInt) → (r.toInt ≤ 1) → Q (some (.int r)) M1) : ∀ nn9 : Nat, (∀ (N : mm_M) (u1 : Value) (x4 : Int32) (x5 : Int32) (u6 : Value) (u7 : Value), g_G N → FR md_so M N → (0 ≤ x4.toInt) → (x4.toInt ≤ 30) → (0 ≤ x5.toInt) → (x5.toInt ≤ 6) → (6 - x5.toInt) * 1000 + 500 < (nn9 : Int) → mm_T X d 242 46 [.ref 77, u1, .int f, .int n, .int x4, .int x5, u6, u7] [] N Q) ∧ (∀ (N : mm_M) (u1 : Value) (x4 : Int32) (x5 : Int32) (x6 : Int32) (x7 : Int32), g_G N → FR md_so M N → (0 ≤ x4.toInt) → (x4.toInt ≤ 30) → (0 ≤ x5.toInt) → (x5.toInt ≤ 5) → (x5.toInt < n.toInt) → (0 ≤ x7.toInt) → (x7.toInt ≤ 30) → (x7.toInt ≤ x4.toInt) → (0 ≤ x6.toInt) → (x6.toInt ≤ 30) → (x6.toInt = NF N (N.2.1 123 (x5.toInt).toNat).toInt (x7.toInt).toNat) → (6 - x5.toInt) * 1000 + 400 - x7.toInt < (nn9 : Int) → mm_T X d 242 58 [.ref 77, u1, .int f, .int n, .int x4, .int x5, .int x6, .int x7] [] N Q) ∧ (∀ (N : mm_M) (u1 : Value) (x4 : Int32) (x5 : Int32) (x6 : Int32) (x7 : Int32), g_G N → FR md_so M N → (0 ≤ x4.toInt) → (x4.toInt ≤ 30) → (0 ≤ x5.toInt) → (x5.toInt ≤ 5) → (x5.toInt < n.toInt) → (0 ≤ x7.toInt) → (x7.toInt ≤ 30) → (x7.toInt ≤ x4.toInt) → (0 ≤ x6.toInt) → (x6.toInt ≤ 30) → (x6.toInt = NF N (N.2.1 123 (x5.toInt).toNat).toInt (x4.toInt).toNat + x7.toInt - NF N (N.2.1 123 (x5.toInt).toNat).toInt (x7.toInt).toNat) → (6 - x5.toInt) * 1000 + 300 - x7.toInt < (nn9 : Int) → mm_T X d 242 120 [.ref 77, u1, .int f, .int n, .int x4, .int x5, .int x6, .int x7] [] N Q) ∧ (∀ (N : mm_M) (u1 : Value) (x4 : Int32) (x5 : Int32) (u6 : Value) (x7 : Int32), g_G N → FR md_so M N → (0 ≤ x4.toInt) → (x4.toInt ≤ 30) → (0 ≤ x5.toInt) → (x5.toInt ≤ 5) → (0 ≤ x7.toInt) → (x7.toInt ≤ 30) → (6 - x5.toInt) * 1000 + 200 - x7.toInt < (nn9 : Int) → mm_T X d 242 182 [.ref 77, u1, .int f, .int n, .int x4, .int x5, u6, .int x7] [] N Q) := by
  intro nn9
  induction nn9 with
  | zero =>
    refine ⟨?_, ?_, ?_, ?_⟩
    · intro N u1 x4 x5 u6 u7 hG F0 g1 g2 g3 g4 hm
      exfalso; omega
    · intro N u1 x4 x5 x6 x7 hG F0 g1 g2 g3 g4 g5 g6 g7 g8 g9 g10 g11 hm
      exfalso; omega
    · intro N u1 x4 x5 x6 x7 hG F0 g1 g2 g3 g4 g5 g6 g7 g8 g9 g10 g11 hm
      exfalso; omega
    · intro N u1 x4 x5 u6 x7 hG F0 g1 g2 g3 g4 g5 g6 hm
      exfalso; omega
  | succ nn9 ih =>
    refine ⟨?_, ?_, ?_, ?_⟩
    · intro N u1 x4 x5 u6 u7 hG F0 g1 g2 g3 g4 hm
      refine to_i (pc := 46) rw_243_46 rfl (to_in (pc := 48) rw_243_48 rfl (b_cge (pc := 49) rw_243_49 (A := x5.toInt) (B := n.toInt) rfl rfl (fun h25 => ?_) (fun h25 => ?_)))
      · refine to_c (pc := 215) rw_243_215 (x := (1 : Int32)) rfl rfl (to_is (pc := 216) rw_243_216 (ls2 := [.ref 77, u1, .int f, .int n, .int x4, .int (1 : Int32), u6, u7]) rfl rfl ?_)
        have k_26 : (1 : Int32).toInt = 1 := rfl
        exact (T_243_0 (p := p) (f := f) (n := n) hX hd q1 q2 q3 q4 q5 q6 h ((31 - (1 : Int32).toInt).toNat + 1)) N (u1) (.int n) x4 (1 : Int32) (u6) (u7) hG F0 (by omega) (by omega) (by omega) (by omega) (by omega) (by omega)
      · refine to_c (pc := 52) rw_243_52 (x := (0 : Int32)) rfl rfl (to_is (pc := 53) rw_243_53 (ls2 := [.ref 77, u1, .int f, .int n, .int x4, .int x5, .int (0 : Int32), u7]) rfl rfl (to_c (pc := 55) rw_243_55 (x := (0 : Int32)) rfl rfl (to_is (pc := 56) rw_243_56 (ls2 := [.ref 77, u1, .int f, .int n, .int x4, .int x5, .int (0 : Int32), .int (0 : Int32)]) rfl rfl ?_)))
        have k_27 : (0 : Int32).toInt = 0 := rfl
        have s_28 : NF N (N.2.1 123 (x5.toInt).toNat).toInt ((0 : Int32).toInt).toNat = 0 := rfl
        exact ih.2.1 N (u1) x4 x5 (0 : Int32) (0 : Int32) hG F0 (by omega) (by omega) (by omega) (by omega) (by omega) (by omega) (by omega) (by omega) (by omega) (by omega) (by omega) (by omega)
    · intro N u1 x4 x5 x6 x7 hG F0 g1 g2 g3 g4 g5 g6 g7 g8 g9 g10 g11 hm
      have s_o := NF_b (M := N) (r := (N.2.1 123 (x5.toInt).toNat).toInt) (x7.toInt).toNat
      have s_t := NF_t (M := N) (r := (N.2.1 123 (x5.toInt).toNat).toInt) (k := (x7.toInt).toNat) (m := (x4.toInt).toNat) (by omega)
      refine to_i (pc := 58) rw_243_58 rfl (to_i (pc := 60) rw_243_60 rfl (b_cge (pc := 62) rw_243_62 (A := x7.toInt) (B := x4.toInt) rfl rfl (fun h29 => ?_) (fun h29 => ?_)))
      · refine to_c (pc := 117) rw_243_117 (x := (0 : Int32)) rfl rfl (to_is (pc := 118) rw_243_118 (ls2 := [.ref 77, u1, .int f, .int n, .int x4, .int x5, .int x6, .int (0 : Int32)]) rfl rfl ?_)
        have k_30 : (0 : Int32).toInt = 0 := rfl
        have s_31 : NF N (N.2.1 123 (x5.toInt).toNat).toInt ((0 : Int32).toInt).toNat = 0 := rfl
        have s_32 : NF N (N.2.1 123 (x5.toInt).toNat).toInt (x7.toInt).toNat = NF N (N.2.1 123 (x5.toInt).toNat).toInt (x4.toInt).toNat := by rw [show (x7.toInt).toNat = (x4.toInt).toNat by omega]
        exact ih.2.2.1 N (u1) x4 x5 x6 (0 : Int32) hG F0 (by omega) (by omega) (by omega) (by omega) (by omega) (by omega) (by omega) (by omega) (by omega) (by omega) (by omega) (by omega)
      · refine to_an (pc := 65) rw_243_65 rfl (s_gR (pc := 66) rw_243_66 hG rfl (v := 124) rfl (to_c (pc := 69) rw_243_69 (x := (6 : Int32)) rfl rfl (to_an (pc := 71) rw_243_71 rfl (s_gR (pc := 72) rw_243_72 hG rfl (v := 121) rfl (to_i (pc := 75) rw_243_75 rfl (s_ial (pc := 77) rw_243_77 hG rfl (n := 30) rfl rfl (A := x7.toInt) rfl (by omega) (by omega) (lo := 0) (hi := 29) rfl rfl (fun v33 w_34 _ _ => s_mul (pc := 78) rw_243_78 (A := 6) (B := v33.toInt) rfl rfl (by omega) (fun v35 e36 => to_an (pc := 79) rw_243_79 rfl (s_gR (pc := 80) rw_243_80 hG rfl (v := 123) rfl (to_i (pc := 83) rw_243_83 rfl (s_ial (pc := 85) rw_243_85 hG rfl (n := 6) rfl rfl (A := x5.toInt) rfl (by omega) (by omega) (lo := 0) (hi := 5) rfl rfl (fun v37 w_38 _ _ => ?_))))))))))))
        refine s_add (pc := 86) rw_243_86 (A := v35.toInt) (B := v37.toInt) rfl rfl (by omega) (fun v39 e40 => s_bal (pc := 87) rw_243_87 hG rfl (n := 180) rfl (A := v39.toInt) rfl (by omega) (by omega) (lo := 0) (hi := 1) rfl rfl (fun v41 w_42 _ _ => ?_))
        have s_43 := NF_v (M := N) (r := (N.2.1 123 (x5.toInt).toNat).toInt) (I := v39.toInt) (k := (x7.toInt).toNat) w_34 (by rw [w_38]; omega) w_42
        refine b_ieq (pc := 88) rw_243_88 (A := v41.toInt) rfl (fun h44 => ?_) (fun h44 => ?_)
        · refine to_an (pc := 94) rw_243_94 rfl (s_gR (pc := 95) rw_243_95 hG rfl (v := 122) rfl (to_i (pc := 98) rw_243_98 rfl (to_an (pc := 100) rw_243_100 rfl (s_gR (pc := 101) rw_243_101 hG rfl (v := 121) rfl (to_i (pc := 104) rw_243_104 rfl (s_ialk (pc := 106) rw_243_106 hG rfl (n := 30) rfl rfl (A := x7.toInt) rfl (by omega) (by omega) (v := v33) w_34 (s_ias (pc := 107) rw_243_107 hG rfl (n := 30) rfl (A := x6.toInt) rfl (by omega) (by omega) (fun M48 W47 => ?_))))))))
          have hG49 := g_w hG W47 (A := v33.toInt) rfl (lo := 0) (hi := 29) rfl rfl (by omega) (by decide)
          have F50 := FR.w F0 W47 (show 122 = 121 ∨ 122 = 122 by decide)
          refine s_inc (pc := 108) rw_243_108 (ls2 := fun v => [.ref 77, u1, .int f, .int n, .int x4, .int x5, .int v, .int x7]) rfl rfl (fun _ => rfl) (A := x6.toInt) (B := 1) rfl rfl (by omega) (fun v51 e52 => s_inc (pc := 111) rw_243_111 (ls2 := fun v => [.ref 77, u1, .int f, .int n, .int x4, .int x5, .int v51, .int v]) rfl rfl (fun _ => rfl) (A := x7.toInt) (B := 1) rfl rfl (by omega) (fun v53 e54 => to_go (pc := 114) rw_243_114 ?_))
          have s_55 : (M48.2.1 123 (x5.toInt).toNat).toInt = (N.2.1 123 (x5.toInt).toNat).toInt := congrArg Int32.toInt (W_n W47 (by omega) rfl)
          have s_56 : NF M48 (M48.2.1 123 (x5.toInt).toNat).toInt (v53.toInt).toNat = NF N (N.2.1 123 (x5.toInt).toNat).toInt (v53.toInt).toNat := by rw [show (M48.2.1 123 (x5.toInt).toNat).toInt = (N.2.1 123 (x5.toInt).toNat).toInt by omega]; exact NF_f (fun a i z => (W_n W47 (by /-r122-/ omega) rfl)) _
          have s_57 : NF N (N.2.1 123 (x5.toInt).toNat).toInt (v53.toInt).toNat = NF N (N.2.1 123 (x5.toInt).toNat).toInt ((x7.toInt).toNat + 1) := by rw [show (v53.toInt).toNat = (x7.toInt).toNat + 1 by omega]
          exact ih.2.1 M48 (u1) x4 x5 v51 v53 hG49 F50 (by omega) (by omega) (by omega) (by omega) (by omega) (by omega) (by omega) (by omega) (by omega) (by omega) (by omega) (by omega)
        · refine to_go (pc := 91) rw_243_91 (s_inc (pc := 111) rw_243_111 (ls2 := fun v => [.ref 77, u1, .int f, .int n, .int x4, .int x5, .int x6, .int v]) rfl rfl (fun _ => rfl) (A := x7.toInt) (B := 1) rfl rfl (by omega) (fun v58 e59 => to_go (pc := 114) rw_243_114 ?_))
          have s_60 : NF N (N.2.1 123 (x5.toInt).toNat).toInt (v58.toInt).toNat = NF N (N.2.1 123 (x5.toInt).toNat).toInt ((x7.toInt).toNat + 1) := by rw [show (v58.toInt).toNat = (x7.toInt).toNat + 1 by omega]
          exact ih.2.1 N (u1) x4 x5 x6 v58 hG F0 (by omega) (by omega) (by omega) (by omega) (by omega) (by omega) (by omega) (by omega) (by omega) (by omega) (by omega) (by omega)
    · intro N u1 x4 x5 x6 x7 hG F0 g1 g2 g3 g4 g5 g6 g7 g8 g9 g10 g11 hm
      have s_o := NF_b (M := N) (r := (N.2.1 123 (x5.toInt).toNat).toInt) (x7.toInt).toNat
      have s_t := NF_t (M := N) (r := (N.2.1 123 (x5.toInt).toNat).toInt) (k := (x7.toInt).toNat) (m := (x4.toInt).toNat) (by omega)
      have s_t2 := fun (hh : x7.toInt < x4.toInt) => NF_t (M := N) (r := (N.2.1 123 (x5.toInt).toNat).toInt) (k := (x7.toInt).toNat + 1) (m := (x4.toInt).toNat) (by omega)
      refine to_i (pc := 120) rw_243_120 rfl (to_i (pc := 122) rw_243_122 rfl (b_cge (pc := 124) rw_243_124 (A := x7.toInt) (B := x4.toInt) rfl rfl (fun h61 => ?_) (fun h61 => ?_)))
      · refine to_c (pc := 179) rw_243_179 (x := (0 : Int32)) rfl rfl (to_is (pc := 180) rw_243_180 (ls2 := [.ref 77, u1, .int f, .int n, .int x4, .int x5, .int x6, .int (0 : Int32)]) rfl rfl ?_)
        have k_62 : (0 : Int32).toInt = 0 := rfl
        exact ih.2.2.2 N (u1) x4 x5 (.int x6) (0 : Int32) hG F0 (by omega) (by omega) (by omega) (by omega) (by omega) (by omega) (by omega)
      · refine to_an (pc := 127) rw_243_127 rfl (s_gR (pc := 128) rw_243_128 hG rfl (v := 124) rfl (to_c (pc := 131) rw_243_131 (x := (6 : Int32)) rfl rfl (to_an (pc := 133) rw_243_133 rfl (s_gR (pc := 134) rw_243_134 hG rfl (v := 121) rfl (to_i (pc := 137) rw_243_137 rfl (s_ial (pc := 139) rw_243_139 hG rfl (n := 30) rfl rfl (A := x7.toInt) rfl (by omega) (by omega) (lo := 0) (hi := 29) rfl rfl (fun v63 w_64 _ _ => s_mul (pc := 140) rw_243_140 (A := 6) (B := v63.toInt) rfl rfl (by omega) (fun v65 e66 => to_an (pc := 141) rw_243_141 rfl (s_gR (pc := 142) rw_243_142 hG rfl (v := 123) rfl (to_i (pc := 145) rw_243_145 rfl (s_ial (pc := 147) rw_243_147 hG rfl (n := 6) rfl rfl (A := x5.toInt) rfl (by omega) (by omega) (lo := 0) (hi := 5) rfl rfl (fun v67 w_68 _ _ => ?_))))))))))))
        refine s_add (pc := 148) rw_243_148 (A := v65.toInt) (B := v67.toInt) rfl rfl (by omega) (fun v69 e70 => s_bal (pc := 149) rw_243_149 hG rfl (n := 180) rfl (A := v69.toInt) rfl (by omega) (by omega) (lo := 0) (hi := 1) rfl rfl (fun v71 w_72 _ _ => ?_))
        have s_73 := NF_v (M := N) (r := (N.2.1 123 (x5.toInt).toNat).toInt) (I := v69.toInt) (k := (x7.toInt).toNat) w_64 (by rw [w_68]; omega) w_72
        have s_74 := s_t2 (by omega)
        refine b_ine (pc := 150) rw_243_150 (A := v71.toInt) rfl (fun h75 => ?_) (fun h75 => ?_)
        · refine to_an (pc := 156) rw_243_156 rfl (s_gR (pc := 157) rw_243_157 hG rfl (v := 122) rfl (to_i (pc := 160) rw_243_160 rfl (to_an (pc := 162) rw_243_162 rfl (s_gR (pc := 163) rw_243_163 hG rfl (v := 121) rfl (to_i (pc := 166) rw_243_166 rfl (s_ialk (pc := 168) rw_243_168 hG rfl (n := 30) rfl rfl (A := x7.toInt) rfl (by omega) (by omega) (v := v63) w_64 (s_ias (pc := 169) rw_243_169 hG rfl (n := 30) rfl (A := x6.toInt) rfl (by omega) (by omega) (fun M79 W78 => ?_))))))))
          have hG80 := g_w hG W78 (A := v63.toInt) rfl (lo := 0) (hi := 29) rfl rfl (by omega) (by decide)
          have F81 := FR.w F0 W78 (show 122 = 121 ∨ 122 = 122 by decide)
          refine s_inc (pc := 170) rw_243_170 (ls2 := fun v => [.ref 77, u1, .int f, .int n, .int x4, .int x5, .int v, .int x7]) rfl rfl (fun _ => rfl) (A := x6.toInt) (B := 1) rfl rfl (by omega) (fun v82 e83 => s_inc (pc := 173) rw_243_173 (ls2 := fun v => [.ref 77, u1, .int f, .int n, .int x4, .int x5, .int v82, .int v]) rfl rfl (fun _ => rfl) (A := x7.toInt) (B := 1) rfl rfl (by omega) (fun v84 e85 => to_go (pc := 176) rw_243_176 ?_))
          have s_86 : (M79.2.1 123 (x5.toInt).toNat).toInt = (N.2.1 123 (x5.toInt).toNat).toInt := congrArg Int32.toInt (W_n W78 (by omega) rfl)
          have s_87 : NF M79 (M79.2.1 123 (x5.toInt).toNat).toInt (v84.toInt).toNat = NF N (N.2.1 123 (x5.toInt).toNat).toInt (v84.toInt).toNat := by rw [show (M79.2.1 123 (x5.toInt).toNat).toInt = (N.2.1 123 (x5.toInt).toNat).toInt by omega]; exact NF_f (fun a i z => (W_n W78 (by /-r122-/ omega) rfl)) _
          have s_88 : NF N (N.2.1 123 (x5.toInt).toNat).toInt (v84.toInt).toNat = NF N (N.2.1 123 (x5.toInt).toNat).toInt ((x7.toInt).toNat + 1) := by rw [show (v84.toInt).toNat = (x7.toInt).toNat + 1 by omega]
          have s_89 : NF M79 (M79.2.1 123 (x5.toInt).toNat).toInt (x4.toInt).toNat = NF N (N.2.1 123 (x5.toInt).toNat).toInt (x4.toInt).toNat := by rw [show (M79.2.1 123 (x5.toInt).toNat).toInt = (N.2.1 123 (x5.toInt).toNat).toInt by omega]; exact NF_f (fun a i z => (W_n W78 (by /-r122-/ omega) rfl)) _
          exact ih.2.2.1 M79 (u1) x4 x5 v82 v84 hG80 F81 (by omega) (by omega) (by omega) (by omega) (by omega) (by omega) (by omega) (by omega) (by omega) (by omega) (by omega) (by omega)
        · refine to_go (pc := 153) rw_243_153 (s_inc (pc := 173) rw_243_173 (ls2 := fun v => [.ref 77, u1, .int f, .int n, .int x4, .int x5, .int x6, .int v]) rfl rfl (fun _ => rfl) (A := x7.toInt) (B := 1) rfl rfl (by omega) (fun v90 e91 => to_go (pc := 176) rw_243_176 ?_))
          have s_92 : NF N (N.2.1 123 (x5.toInt).toNat).toInt (v90.toInt).toNat = NF N (N.2.1 123 (x5.toInt).toNat).toInt ((x7.toInt).toNat + 1) := by rw [show (v90.toInt).toNat = (x7.toInt).toNat + 1 by omega]
          exact ih.2.2.1 N (u1) x4 x5 x6 v90 hG F0 (by omega) (by omega) (by omega) (by omega) (by omega) (by omega) (by omega) (by omega) (by omega) (by omega) (by omega) (by omega)
    · intro N u1 x4 x5 u6 x7 hG F0 g1 g2 g3 g4 g5 g6 hm
      refine to_i (pc := 182) rw_243_182 rfl (to_i (pc := 184) rw_243_184 rfl (b_cge (pc := 186) rw_243_186 (A := x7.toInt) (B := x4.toInt) rfl rfl (fun h93 => ?_) (fun h93 => ?_)))
      · refine s_inc (pc := 209) rw_243_209 (ls2 := fun v => [.ref 77, u1, .int f, .int n, .int x4, .int v, u6, .int x7]) rfl rfl (fun _ => rfl) (A := x5.toInt) (B := 1) rfl rfl (by omega) (fun v94 e95 => to_go (pc := 212) rw_243_212 ?_)
        exact ih.1 N (u1) x4 v94 (u6) (.int x7) hG F0 (by omega) (by omega) (by omega) (by omega) (by omega)
      · refine to_an (pc := 189) rw_243_189 rfl (s_gR (pc := 190) rw_243_190 hG rfl (v := 121) rfl (to_i (pc := 193) rw_243_193 rfl (to_an (pc := 195) rw_243_195 rfl (s_gR (pc := 196) rw_243_196 hG rfl (v := 122) rfl (to_i (pc := 199) rw_243_199 rfl (s_ial (pc := 201) rw_243_201 hG rfl (n := 30) rfl rfl (A := x7.toInt) rfl (by omega) (by omega) (lo := 0) (hi := 29) rfl rfl (fun v96 w_97 _ _ => s_ias (pc := 202) rw_243_202 hG rfl (n := 30) rfl (A := x7.toInt) rfl (by omega) (by omega) (fun M99 W98 => ?_))))))))
        have hG100 := g_w hG W98 (A := v96.toInt) rfl (lo := 0) (hi := 29) rfl rfl (by omega) (by decide)
        have F101 := FR.w F0 W98 (show 121 = 121 ∨ 121 = 122 by decide)
        refine s_inc (pc := 203) rw_243_203 (ls2 := fun v => [.ref 77, u1, .int f, .int n, .int x4, .int x5, u6, .int v]) rfl rfl (fun _ => rfl) (A := x7.toInt) (B := 1) rfl rfl (by omega) (fun v102 e103 => to_go (pc := 206) rw_243_206 ?_)
        exact ih.2.2.2 M99 (u1) x4 x5 (u6) v102 hG100 F101 (by omega) (by omega) (by omega) (by omega) (by omega) (by omega) (by omega)
set_option maxRecDepth 4000 in
set_option maxHeartbeats 0 in
theorem T_243_2 {X : mm_X} {d : Nat} {M : mm_M} {Q : Option Value → mm_M → Prop} {p : Int32} {f : Int32} {n : Int32} (hX : g_X X) (hd : 1 ≤ d) (q1 : 0 ≤ p.toInt) (q2 : p.toInt ≤ 5) (q3 : 0 ≤ f.toInt) (q4 : f.toInt ≤ 7) (q5 : 0 ≤ n.toInt) (q6 : n.toInt ≤ 6) (h : ∀ (r : Int32) (M1 : mm_M), g_G M1 → FR md_so M M1 → (0 ≤ r.toInt) → (r.toInt ≤ 1) → Q (some (.int r)) M1) : ∀ nn9 : Nat, (∀ (N : mm_M) (x4 : Int32) (x5 : Int32) (u6 : Value) (u7 : Value), g_G N → FR md_so M N → (0 ≤ x4.toInt) → (x4.toInt ≤ 30) → (0 ≤ x5.toInt) → (x5.toInt ≤ 30) → 30 - x5.toInt < (nn9 : Int) → mm_T X d 242 11 [.ref 77, .int p, .int f, .int n, .int x4, .int x5, u6, u7] [] N Q) := by
  intro nn9
  induction nn9 with
  | zero =>
    intro N x4 x5 u6 u7 hG F0 g1 g2 g3 g4 hm
    exfalso; omega
  | succ nn9 ih =>
    intro N x4 x5 u6 u7 hG F0 g1 g2 g3 g4 hm
    refine to_i (pc := 11) rw_243_11 rfl (to_i (pc := 13) rw_243_13 rfl (b_cge (pc := 15) rw_243_15 (A := x5.toInt) (B := x4.toInt) rfl rfl (fun h104 => ?_) (fun h104 => ?_)))
    · refine to_c (pc := 43) rw_243_43 (x := (0 : Int32)) rfl rfl (to_is (pc := 44) rw_243_44 (ls2 := [.ref 77, .int p, .int f, .int n, .int x4, .int (0 : Int32), u6, u7]) rfl rfl ?_)
      have k_105 : (0 : Int32).toInt = 0 := rfl
      exact (T_243_1 (p := p) (f := f) (n := n) hX hd q1 q2 q3 q4 q5 q6 h (((6 - (0 : Int32).toInt) * 1000 + 500).toNat + 1)).1 N (.int p) x4 (0 : Int32) (u6) (u7) hG F0 (by omega) (by omega) (by omega) (by omega) (by omega)
    · refine to_an (pc := 18) rw_243_18 rfl (s_gR (pc := 19) rw_243_19 hG rfl (v := 121) rfl (to_i (pc := 22) rw_243_22 rfl (to_an (pc := 24) rw_243_24 rfl (s_gR (pc := 25) rw_243_25 hG rfl (v := 99) rfl (to_c (pc := 28) rw_243_28 (x := (30 : Int32)) rfl rfl (to_in (pc := 30) rw_243_30 rfl (s_mul (pc := 31) rw_243_31 (A := 30) (B := p.toInt) rfl rfl (by omega) (fun v106 e107 => to_i (pc := 32) rw_243_32 rfl (s_add (pc := 34) rw_243_34 (A := v106.toInt) (B := x5.toInt) rfl rfl (by omega) (fun v108 e109 => s_ial (pc := 35) rw_243_35 hG rfl (n := 180) rfl rfl (A := v108.toInt) rfl (by omega) (by omega) (lo := 0) (hi := 29) rfl rfl (fun v110 w_111 _ _ => s_ias (pc := 36) rw_243_36 hG rfl (n := 30) rfl (A := x5.toInt) rfl (by omega) (by omega) (fun M113 W112 => ?_))))))))))))
      have hG114 := g_w hG W112 (A := v110.toInt) rfl (lo := 0) (hi := 29) rfl rfl (by omega) (by decide)
      have F115 := FR.w F0 W112 (show 121 = 121 ∨ 121 = 122 by decide)
      refine s_inc (pc := 37) rw_243_37 (ls2 := fun v => [.ref 77, .int p, .int f, .int n, .int x4, .int v, u6, u7]) rfl rfl (fun _ => rfl) (A := x5.toInt) (B := 1) rfl rfl (by omega) (fun v116 e117 => to_go (pc := 40) rw_243_40 ?_)
      exact ih M113 x4 v116 (u6) (u7) hG114 F115 (by omega) (by omega) (by omega) (by omega) (by omega)
set_option maxRecDepth 4000 in
set_option maxHeartbeats 0 in
theorem C_243 {X : mm_X} {d : Nat} {M : mm_M} {Q : Option Value → mm_M → Prop} {p : Int32} {f : Int32} {n : Int32} (hX : g_X X) (hd : 1 ≤ d) (hG : g_G M) (q1 : 0 ≤ p.toInt) (q2 : p.toInt ≤ 5) (q3 : 0 ≤ f.toInt) (q4 : f.toInt ≤ 7) (q5 : 0 ≤ n.toInt) (q6 : n.toInt ≤ 6) (h : ∀ (r : Int32) (M1 : mm_M), g_G M1 → FR md_so M M1 → (0 ≤ r.toInt) → (r.toInt ≤ 1) → Q (some (.int r)) M1) : mm_T X d 242 0 [.ref 77, .int p, .int f, .int n, .null, .null, .null, .null] [] M Q := by
  have F0 : FR md_so M M := FR.rf
  refine to_an (pc := 0) rw_243_0 rfl (s_gR (pc := 1) rw_243_1 hG rfl (v := 100) rfl (to_in (pc := 4) rw_243_4 rfl (s_ial (pc := 5) rw_243_5 hG rfl (n := 6) rfl rfl (A := p.toInt) rfl (by omega) (by omega) (lo := 0) (hi := 30) rfl rfl (fun v118 w_119 _ _ => to_is (pc := 6) rw_243_6 (ls2 := [.ref 77, .int p, .int f, .int n, .int v118, .null, .null, .null]) rfl rfl (to_c (pc := 8) rw_243_8 (x := (0 : Int32)) rfl rfl (to_is (pc := 9) rw_243_9 (ls2 := [.ref 77, .int p, .int f, .int n, .int v118, .int (0 : Int32), .null, .null]) rfl rfl ?_))))))
  have k_120 : (0 : Int32).toInt = 0 := rfl
  exact (T_243_2 (p := p) (f := f) (n := n) hX hd q1 q2 q3 q4 q5 q6 h ((30 - (0 : Int32).toInt).toNat + 1)) M v118 (0 : Int32) (.null) (.null) hG F0 (by omega) (by omega) (by omega) (by omega) (by omega)
end
