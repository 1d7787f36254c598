theorem tg_109 : ∀ a i : Nat, (a = 1 ∧ 6 ≤ i ∧ i ≤ 9) → (a = 1 ∧ 6 ≤ i ∧ i ≤ 11 ∨ (a = 67 ∨ a = 72) ∧ i = 4) := fun a i z => by omega
set_option maxRecDepth 4000 in
set_option maxHeartbeats 0 in
theorem E_64 {X : mm_X} {d : Nat} {M : mm_M} {Q : Option Value → mm_M → Prop} {q : Nat} {k : Int32} {f : Int32} {s : Int32} (hX : g_X X) (hd : 0 ≤ d) (hG : g_G M) (hq : q = 67 ∨ q = 72) (q1 : 0 ≤ k.toInt) (q2 : k.toInt ≤ 4) (q3 : 0 ≤ f.toInt) (q4 : f.toInt ≤ 11) (q5 : k.toInt = 0 → f.toInt ≤ 7) (q6 : QI M) (h : ∀ (M1 : mm_M), g_G M1 → FR md_q64 M M1 → QI M1 → Q (none) M1) : mm_T X d 64 0 [.ref q, .int k, .int f, .int s] [] M Q := by
  have F0 : FR md_q64 M M := FR.rf
  refine to_an (pc := 0) rw_64_0 rfl ?_
  have b_1 := g_b hG (a := q) (i := 5) (lo := 0) (hi := 40) (by rcases hq with rfl | rfl <;> rfl) (by rcases hq with rfl | rfl <;> rfl)
  refine tt_gI (pc := 1) rw_64_1 (g_o hG (by rcases hq with rfl | rfl <;> rfl)) (v := (M.2.1 q 5)) rfl (to_c (pc := 4) rw_64_4 (x := (40 : Int32)) rfl rfl (b_cge (pc := 6) rw_64_6 (A := (M.2.1 q 5).toInt) (B := 40) rfl rfl (fun h2 => ?_) (fun h2 => ?_)))
  · refine to_rv (pc := 49) rw_64_49 ?_
    exact h M hG F0 q6
  · refine to_an (pc := 9) rw_64_9 rfl (s_gR (pc := 10) rw_64_10 hG (by rcases hq with rfl | rfl <;> rfl) (v := (q + 1)) (by rcases hq with rfl | rfl <;> rfl) (to_an (pc := 13) rw_64_13 rfl (tt_gI (pc := 14) rw_64_14 (g_o hG (by rcases hq with rfl | rfl <;> rfl)) (v := (M.2.1 q 5)) rfl (to_in (pc := 17) rw_64_17 rfl (s_ias (pc := 18) rw_64_18 hG (by rcases hq with rfl | rfl <;> rfl) (n := 40) (by rcases hq with rfl | rfl <;> rfl) (A := (M.2.1 q 5).toInt) rfl (by omega) (by omega) (fun M4 W3 => ?_))))))
    have hG5 := g_w hG W3 (A := k.toInt) rfl (lo := 0) (hi := 4) (by rcases hq with rfl | rfl <;> rfl) (by rcases hq with rfl | rfl <;> rfl) (by omega) (by omega)
    have F6 := FR.w F0 W3 (show ((q + 1) = 67 ∨ (q + 1) = 72) ∧ ((M.2.1 q 5).toInt).toNat = 5 ∨ 68 ≤ (q + 1) ∧ (q + 1) ≤ 70 ∨ 73 ≤ (q + 1) ∧ (q + 1) ≤ 75 by omega)
    refine to_an (pc := 19) rw_64_19 rfl (s_gR (pc := 20) rw_64_20 hG5 (by rcases hq with rfl | rfl <;> rfl) (v := (q + 2)) (by rcases hq with rfl | rfl <;> rfl) (to_an (pc := 23) rw_64_23 rfl ?_))
    have c_7 : M4.2.1 q 5 = (M.2.1 q 5) := (W_n W3 (by omega) rfl)
    refine tt_gI (pc := 24) rw_64_24 (g_o hG5 (by rcases hq with rfl | rfl <;> rfl)) (v := (M.2.1 q 5)) c_7 (to_in (pc := 27) rw_64_27 rfl (s_ias (pc := 28) rw_64_28 hG5 (by rcases hq with rfl | rfl <;> rfl) (n := 40) (by rcases hq with rfl | rfl <;> rfl) (A := (M.2.1 q 5).toInt) rfl (by omega) (by omega) (fun M9 W8 => ?_)))
    have hG10 := g_w hG5 W8 (A := f.toInt) rfl (lo := 0) (hi := 11) (by rcases hq with rfl | rfl <;> rfl) (by rcases hq with rfl | rfl <;> rfl) (by omega) (by omega)
    have F11 := FR.w F6 W8 (show ((q + 2) = 67 ∨ (q + 2) = 72) ∧ ((M.2.1 q 5).toInt).toNat = 5 ∨ 68 ≤ (q + 2) ∧ (q + 2) ≤ 70 ∨ 73 ≤ (q + 2) ∧ (q + 2) ≤ 75 by omega)
    have j_12 := QI_k q6 hq W3 W8 q5
    refine to_an (pc := 29) rw_64_29 rfl (s_gR (pc := 30) rw_64_30 hG10 (by rcases hq with rfl | rfl <;> rfl) (v := (q + 3)) (by rcases hq with rfl | rfl <;> rfl) (to_an (pc := 33) rw_64_33 rfl ?_))
    have c_13 : M9.2.1 q 5 = (M.2.1 q 5) := (W_n W8 (by omega) c_7)
    refine tt_gI (pc := 34) rw_64_34 (g_o hG10 (by rcases hq with rfl | rfl <;> rfl)) (v := (M.2.1 q 5)) c_13 (to_in (pc := 37) rw_64_37 rfl (s_ias (pc := 38) rw_64_38 hG10 (by rcases hq with rfl | rfl <;> rfl) (n := 40) (by rcases hq with rfl | rfl <;> rfl) (A := (M.2.1 q 5).toInt) rfl (by omega) (by omega) (fun M15 W14 => ?_)))
    have hG16 := g_wf hG10 W14 (by rcases hq with rfl | rfl <;> rfl) (by rcases hq with rfl | rfl <;> rfl) (by omega)
    have F17 := FR.w F11 W14 (show ((q + 3) = 67 ∨ (q + 3) = 72) ∧ ((M.2.1 q 5).toInt).toNat = 5 ∨ 68 ≤ (q + 3) ∧ (q + 3) ≤ 70 ∨ 73 ≤ (q + 3) ∧ (q + 3) ≤ 75 by omega)
    refine to_an (pc := 39) rw_64_39 rfl (to_dupr (pc := 40) rw_64_40 ?_)
    have c_18 : M15.2.1 q 5 = (M.2.1 q 5) := (W_n W14 (by omega) c_13)
    refine tt_gI (pc := 41) rw_64_41 (g_o hG16 (by rcases hq with rfl | rfl <;> rfl)) (v := (M.2.1 q 5)) c_18 (to_c (pc := 44) rw_64_44 (x := (1 : Int32)) rfl rfl (s_add (pc := 45) rw_64_45 (A := (M.2.1 q 5).toInt) (B := 1) rfl rfl (by omega) (fun v19 e20 => s_pI (pc := 46) rw_64_46 hG16 (by rcases hq with rfl | rfl <;> rfl) (fun M22 W21 => ?_))))
    have hG23 := g_w hG16 W21 (A := v19.toInt) rfl (lo := 0) (hi := 40) (by rcases hq with rfl | rfl <;> rfl) (by rcases hq with rfl | rfl <;> rfl) (by omega) (by omega)
    have F24 := FR.w F17 W21 (show (q = 67 ∨ q = 72) ∧ 5 = 5 ∨ 68 ≤ q ∧ q ≤ 70 ∨ 73 ≤ q ∧ q ≤ 75 by omega)
    refine to_rv (pc := 49) rw_64_49 ?_
    have j_25 := (QI_f (fun a i z => W_n W21 (by omega) rfl) (QI_f (fun a i z => W_n W14 (by omega) rfl) j_12))
    exact h M22 hG23 F24 j_25
set_option maxRecDepth 4000 in
set_option maxHeartbeats 0 in
theorem E_63 {X : mm_X} {d : Nat} {M : mm_M} {Q : Option Value → mm_M → Prop} {q : Nat} {t : Nat → Int} {nn : Int} {a : Int} (hX : g_X X) (hd : 1 ≤ d) (hG : g_G M) (hq : q = 67 ∨ q = 72) (q1 : CS M t nn) (q2 : (M.2.1 1 9).toInt = a) (h : ∀ (r : Int32) (M1 : mm_M), g_G M1 → FR md_f63 M M1 → (0 ≤ r.toInt) → (r.toInt ≤ 1) → CS M1 t nn → (r.toInt = 1 → (M.2.1 q 4).toInt < 40 ∧ (M1.2.1 q 4).toInt = (M.2.1 q 4).toInt + 1 ∧ (M1.2.1 1 9).toInt = x_ns t nn a) → (r.toInt = 0 → (M.2.1 q 4).toInt = 40 ∧ (M1.2.1 q 4).toInt = (M.2.1 q 4).toInt ∧ (M1.2.1 1 10).toInt = 2 ∧ (M1.2.1 1 11).toInt = a) → Q (some (.int r)) M1) : mm_T X d 63 0 [.ref q, .ref 1] [] M Q := by
  have F0 : FR md_f63 M M := FR.rf
  have c_1 := CS_u q1 (a := a) (by omega)
  unfold x_C at c_1
  have b_2 := g_b hG (a := q) (i := 4) (lo := 0) (hi := 40) (by rcases hq with rfl | rfl <;> rfl) (by rcases hq with rfl | rfl <;> rfl)
  refine to_an (pc := 0) rw_63_0 rfl (tt_gI (pc := 1) rw_63_1 (g_o hG (by rcases hq with rfl | rfl <;> rfl)) (v := (M.2.1 q 4)) rfl (to_c (pc := 4) rw_63_4 (x := (40 : Int32)) rfl rfl (b_clt (pc := 6) rw_63_6 (A := (M.2.1 q 4).toInt) (B := 40) rfl rfl (fun h3 => ?_) (fun h3 => ?_))))
  · refine to_an (pc := 15) rw_63_15 rfl (to_dupr (pc := 16) rw_63_16 (tt_gI (pc := 17) rw_63_17 (g_o hG (by rcases hq with rfl | rfl <;> rfl)) (v := (M.2.1 q 4)) rfl (to_c (pc := 20) rw_63_20 (x := (1 : Int32)) rfl rfl (s_add (pc := 21) rw_63_21 (A := (M.2.1 q 4).toInt) (B := 1) rfl rfl (by omega) (fun v4 e5 => s_pI (pc := 22) rw_63_22 hG (by rcases hq with rfl | rfl <;> rfl) (fun M7 W6 => ?_))))))
    have hG8 := g_w hG W6 (A := v4.toInt) rfl (lo := 0) (hi := 40) (by rcases hq with rfl | rfl <;> rfl) (by rcases hq with rfl | rfl <;> rfl) (by omega) (by omega)
    have F9 := FR.w F0 W6 (show q = 1 ∧ 6 ≤ 4 ∧ 4 ≤ 11 ∨ (q = 67 ∨ q = 72) ∧ 4 = 4 by omega)
    refine to_an (pc := 25) rw_63_25 rfl (s_v (pc := 26) rw_63_26 (dp0 hd (by decide)) (ls0 := [.ref 1]) rfl (Nat.le_of_ble_eq_true rfl) (Nat.le_of_ble_eq_true rfl) rfl (to_rc rfl rfl rfl (g_o hG8 rfl)) rfl ?_)
    have j_10 := (CS_f (fun a i z => W_n W6 (by omega) rfl) q1)
    have c_11 : M7.2.1 1 9 = (M.2.1 1 9) := (W_n W6 (by omega) rfl)
    have t_12 : (M7.2.1 1 9).toInt = (M.2.1 1 9).toInt := congrArg Int32.toInt c_11
    refine E_83 hX (dp1 hd (by decide)) hG8 j_10 (by omega) (t := t) (nn := nn) (a := a) (fun M17 hG14 F13 p_15 p_16 => ?_)
    have F18 := FR.c F9 F13 tg_109
    refine to_c (pc := 29) rw_63_29 (x := (1 : Int32)) rfl rfl (s_r1 (pc := 30) rw_63_30 (A := 1) rfl (by decide) ?_)
    have k_19 : (1 : Int32).toInt = 1 := rfl
    have c_20 : M17.2.1 q 4 = v4 := (F_n F13 (show ¬ (q = 1 ∧ 6 ≤ 4 ∧ 4 ≤ 9) by omega) (W_e W6))
    have t_21 : (M17.2.1 q 4).toInt = v4.toInt := congrArg Int32.toInt c_20
    have c_22 : M17.2.1 1 10 = (M.2.1 1 10) := (F_n F13 (show ¬ (1 = 1 ∧ 6 ≤ 10 ∧ 10 ≤ 9) by decide) (W_n W6 (by omega) rfl))
    have t_23 : (M17.2.1 1 10).toInt = (M.2.1 1 10).toInt := congrArg Int32.toInt c_22
    have c_24 : M17.2.1 1 11 = (M.2.1 1 11) := (F_n F13 (show ¬ (1 = 1 ∧ 6 ≤ 11 ∧ 11 ≤ 9) by decide) (W_n W6 (by omega) rfl))
    have t_25 : (M17.2.1 1 11).toInt = (M.2.1 1 11).toInt := congrArg Int32.toInt c_24
    exact h (1 : Int32) M17 hG14 F18 (by decide) (by decide) p_15 (by omega) (by omega)
  · refine to_an (pc := 9) rw_63_9 rfl (to_c (pc := 10) rw_63_10 (x := (2 : Int32)) rfl rfl (s_v (pc := 11) rw_63_11 (dp0 hd (by decide)) (ls0 := [.ref 1, .int (2 : Int32)]) rfl (Nat.le_of_ble_eq_true rfl) (Nat.le_of_ble_eq_true rfl) rfl (to_rc rfl rfl rfl (g_o hG rfl)) rfl (to_an (pc := 0) rw_84_0 rfl (to_in (pc := 1) rw_84_1 rfl (s_pI (pc := 2) rw_84_2 hG rfl (fun M27 W26 => ?_))))))
    have hG28 := g_wf hG W26 rfl rfl (by decide)
    have F29 := FR.w F0 W26 (show 1 = 1 ∧ 6 ≤ 10 ∧ 10 ≤ 11 ∨ (1 = 67 ∨ 1 = 72) ∧ 10 = 4 by decide)
    refine to_an (pc := 5) rw_84_5 rfl (to_an (pc := 6) rw_84_6 rfl ?_)
    have c_30 : M27.2.1 1 9 = (M.2.1 1 9) := (W_n W26 (by decide) rfl)
    refine tt_gI (pc := 7) rw_84_7 (g_o hG28 rfl) (v := (M.2.1 1 9)) c_30 (s_pI (pc := 10) rw_84_10 hG28 rfl (fun M32 W31 => ?_))
    have hG33 := g_wf hG28 W31 rfl rfl (by decide)
    have F34 := FR.w F29 W31 (show 1 = 1 ∧ 6 ≤ 11 ∧ 11 ≤ 11 ∨ (1 = 67 ∨ 1 = 72) ∧ 11 = 4 by decide)
    refine to_c (pc := 13) rw_84_13 (x := (0 : Int32)) rfl rfl (s_r1 (pc := 14) rw_84_14 (A := 0) rfl (by decide) (s_r1 (pc := 14) rw_63_14 (A := 0) rfl (by decide) ?_))
    have k_35 : (0 : Int32).toInt = 0 := rfl
    have j_36 := (CS_f (fun a i z => W_n W31 (tg_32 a i z) rfl) (CS_f (fun a i z => W_n W26 (tg_33 a i z) rfl) q1))
    have c_37 : M32.2.1 q 4 = (M.2.1 q 4) := (W_n W31 (by omega) (W_n W26 (by omega) rfl))
    have t_38 : (M32.2.1 q 4).toInt = (M.2.1 q 4).toInt := congrArg Int32.toInt c_37
    have c_39 : M32.2.1 1 9 = (M.2.1 1 9) := (W_n W31 (by decide) c_30)
    have t_40 : (M32.2.1 1 9).toInt = (M.2.1 1 9).toInt := congrArg Int32.toInt c_39
    have c_41 : M32.2.1 1 10 = (2 : Int32) := (W_n W31 (by decide) (W_e W26))
    have k_42 : (2 : Int32).toInt = 2 := rfl
    have t_43 : (M32.2.1 1 10).toInt = (2 : Int32).toInt := congrArg Int32.toInt c_41
    have c_44 : M32.2.1 1 11 = (M.2.1 1 9) := (W_e W31)
    have t_45 : (M32.2.1 1 11).toInt = (M.2.1 1 9).toInt := congrArg Int32.toInt c_44
    exact h (0 : Int32) M32 hG33 F34 (by decide) (by decide) j_36 (by omega) (by omega)
set_option maxRecDepth 4000 in
set_option maxHeartbeats 0 in
theorem E_90s {X : mm_X} {d : Nat} {M : mm_M} {Q : Option Value → mm_M → Prop} {c : Int32} {t : Nat → Int} {nn : Int} {a : Int} (hX : g_X X) (hd : 1 ≤ d) (hG : g_G M) (q1 : CS M t nn) (q2 : (M.2.1 1 9).toInt = a) (q3 : c.toInt = 40 ∨ c.toInt = 41 ∨ c.toInt = 61 ∨ c.toInt = 59) (h : ∀ (r : Int32) (M1 : mm_M), g_G M1 → FR md_p90 M M1 → (0 ≤ r.toInt) → (r.toInt ≤ 1) → CS M1 t nn → (r.toInt = 1 → (x_kind t nn a = 4 ∧ x_val t nn a = c.toInt) ∧ (M1.2.1 1 9).toInt = x_ns t nn a) → (r.toInt = 0 → ¬ (x_kind t nn a = 4 ∧ x_val t nn a = c.toInt)) → (r.toInt = 0 → (M1.2.1 1 10).toInt = 1 ∧ (M1.2.1 1 11).toInt = a) → (r.toInt = 1 → (M1.2.1 1 10).toInt = (M.2.1 1 10).toInt ∧ (M1.2.1 1 11).toInt = (M.2.1 1 11).toInt) → Q (some (.int r)) M1) : mm_T X d 90 0 [.ref 1, .int c] [] M Q := by
  have F0 : FR md_p90 M M := FR.rf
  have c_1 := CS_u q1 (a := a) (by omega)
  unfold x_C at c_1
  refine to_an (pc := 0) rw_90_0 rfl (tt_gI (pc := 1) rw_90_1 (g_o hG rfl) (v := (M.2.1 1 7)) rfl (to_in (pc := 4) rw_90_4 rfl (b_ceq (pc := 5) rw_90_5 (A := (M.2.1 1 7).toInt) (B := c.toInt) rfl rfl (fun h2 => ?_) (fun h2 => ?_))))
  · refine to_an (pc := 14) rw_90_14 rfl (s_v (pc := 15) rw_90_15 (dp0 hd (by decide)) (ls0 := [.ref 1]) rfl (Nat.le_of_ble_eq_true rfl) (Nat.le_of_ble_eq_true rfl) rfl (to_rc rfl rfl rfl (g_o hG rfl)) rfl (E_83 hX (dp1 hd (by decide)) hG q1 (by omega) (t := t) (nn := nn) (a := a) (fun M7 hG4 F3 p_5 p_6 => ?_)))
    have F8 := FR.c F0 F3 tg_31
    refine to_c (pc := 18) rw_90_18 (x := (1 : Int32)) rfl rfl (s_r1 (pc := 19) rw_90_19 (A := 1) rfl (by decide) ?_)
    have k_9 : (1 : Int32).toInt = 1 := rfl
    have c_10 : M7.2.1 1 10 = (M.2.1 1 10) := (F_n F3 (show ¬ (1 = 1 ∧ 6 ≤ 10 ∧ 10 ≤ 9) by decide) rfl)
    have t_11 : (M7.2.1 1 10).toInt = (M.2.1 1 10).toInt := congrArg Int32.toInt c_10
    have c_12 : M7.2.1 1 11 = (M.2.1 1 11) := (F_n F3 (show ¬ (1 = 1 ∧ 6 ≤ 11 ∧ 11 ≤ 9) by decide) rfl)
    have t_13 : (M7.2.1 1 11).toInt = (M.2.1 1 11).toInt := congrArg Int32.toInt c_12
    exact h (1 : Int32) M7 hG4 F8 (by decide) (by decide) p_5 (by omega) (by omega) (by omega) (by omega)
  · refine to_an (pc := 8) rw_90_8 rfl (to_c (pc := 9) rw_90_9 (x := (1 : Int32)) rfl rfl (s_v (pc := 10) rw_90_10 (dp0 hd (by decide)) (ls0 := [.ref 1, .int (1 : Int32)]) rfl (Nat.le_of_ble_eq_true rfl) (Nat.le_of_ble_eq_true rfl) rfl (to_rc rfl rfl rfl (g_o hG rfl)) rfl (to_an (pc := 0) rw_84_0 rfl (to_in (pc := 1) rw_84_1 rfl (s_pI (pc := 2) rw_84_2 hG rfl (fun M15 W14 => ?_))))))
    have hG16 := g_wf hG W14 rfl rfl (by decide)
    have F17 := FR.w F0 W14 (show 1 = 1 ∧ 6 ≤ 10 ∧ 10 ≤ 11 by decide)
    refine to_an (pc := 5) rw_84_5 rfl (to_an (pc := 6) rw_84_6 rfl ?_)
    have c_18 : M15.2.1 1 9 = (M.2.1 1 9) := (W_n W14 (by decide) rfl)
    refine tt_gI (pc := 7) rw_84_7 (g_o hG16 rfl) (v := (M.2.1 1 9)) c_18 (s_pI (pc := 10) rw_84_10 hG16 rfl (fun M20 W19 => ?_))
    have hG21 := g_wf hG16 W19 rfl rfl (by decide)
    have F22 := FR.w F17 W19 (show 1 = 1 ∧ 6 ≤ 11 ∧ 11 ≤ 11 by decide)
    refine to_c (pc := 13) rw_84_13 (x := (0 : Int32)) rfl rfl (s_r1 (pc := 14) rw_84_14 (A := 0) rfl (by decide) (s_r1 (pc := 13) rw_90_13 (A := 0) rfl (by decide) ?_))
    have k_23 : (0 : Int32).toInt = 0 := rfl
    have j_24 := (CS_f (fun a i z => W_n W19 (tg_32 a i z) rfl) (CS_f (fun a i z => W_n W14 (tg_33 a i z) rfl) q1))
    have c_25 : M20.2.1 1 9 = (M.2.1 1 9) := (W_n W19 (by decide) c_18)
    have t_26 : (M20.2.1 1 9).toInt = (M.2.1 1 9).toInt := congrArg Int32.toInt c_25
    have c_27 : M20.2.1 1 10 = (1 : Int32) := (W_n W19 (by decide) (W_e W14))
    have k_28 : (1 : Int32).toInt = 1 := rfl
    have t_29 : (M20.2.1 1 10).toInt = (1 : Int32).toInt := congrArg Int32.toInt c_27
    have c_30 : M20.2.1 1 11 = (M.2.1 1 9) := (W_e W19)
    have t_31 : (M20.2.1 1 11).toInt = (M.2.1 1 9).toInt := congrArg Int32.toInt c_30
    exact h (0 : Int32) M20 hG21 F22 (by decide) (by decide) j_24 (by omega) (by omega) (by omega) (by omega)
