abbrev md_f6q (q a i : Nat) : Prop := a = 1 ∧ 6 ≤ i ∧ i ≤ 11 ∨ a = q ∧ i = 4
set_option maxRecDepth 4000 in
set_option maxHeartbeats 0 in
theorem E_63 {X : mm_X} {d : Nat} {M : mm_M} {Q : Option Value → mm_M → Prop} {q : Nat} {t : Nat → Int} {nn : Int} {a : Int} (hX : g_X X) (hd : 1 ≤ d) (hG : g_G M) (hq : q = 67 ∨ q = 72) (q1 : CS M t nn) (q2 : (M.2.1 1 9).toInt = a) (h : ∀ (r : Int32) (M1 : mm_M), g_G M1 → FR (md_f6q q) M M1 → (0 ≤ r.toInt) → (r.toInt ≤ 1) → CS M1 t nn → (r.toInt = 1 → (M.2.1 q 4).toInt < 40 ∧ (M1.2.1 q 4).toInt = (M.2.1 q 4).toInt + 1 ∧ (M1.2.1 1 9).toInt = x_ns t nn a) → (r.toInt = 0 → (M.2.1 q 4).toInt = 40 ∧ (M1.2.1 q 4).toInt = (M.2.1 q 4).toInt ∧ (M1.2.1 1 10).toInt = 2 ∧ (M1.2.1 1 11).toInt = a) → Q (some (.int r)) M1) : mm_T X d 63 0 [.ref q, .ref 1] [] M Q := by
  have F0 : FR (md_f6q q) M M := FR.rf
  have c_1 := CS_u q1 (a := a) (by omega)
  unfold x_C at c_1
  have b_2 := g_b hG (a := q) (i := 4) (lo := 0) (hi := 40) (by rcases hq with rfl | rfl <;> rfl) (by rcases hq with rfl | rfl <;> rfl)
  refine to_an (pc := 0) rw_63_0 rfl (tt_gI (pc := 1) rw_63_1 (g_o hG (by rcases hq with rfl | rfl <;> rfl)) (v := (M.2.1 q 4)) rfl (to_c (pc := 4) rw_63_4 (x := (40 : Int32)) rfl rfl (b_clt (pc := 6) rw_63_6 (A := (M.2.1 q 4).toInt) (B := 40) rfl rfl (fun h3 => ?_) (fun h3 => ?_))))
  · refine to_an (pc := 15) rw_63_15 rfl (to_dupr (pc := 16) rw_63_16 (tt_gI (pc := 17) rw_63_17 (g_o hG (by rcases hq with rfl | rfl <;> rfl)) (v := (M.2.1 q 4)) rfl (to_c (pc := 20) rw_63_20 (x := (1 : Int32)) rfl rfl (s_add (pc := 21) rw_63_21 (A := (M.2.1 q 4).toInt) (B := 1) rfl rfl (by omega) (fun v4 e5 => s_pI (pc := 22) rw_63_22 hG (by rcases hq with rfl | rfl <;> rfl) (fun M7 W6 => ?_))))))
    have hG8 := g_w hG W6 (A := v4.toInt) rfl (lo := 0) (hi := 40) (by rcases hq with rfl | rfl <;> rfl) (by rcases hq with rfl | rfl <;> rfl) (by omega) (by omega)
    have F9 := FR.w F0 W6 (show q = 1 ∧ 6 ≤ 4 ∧ 4 ≤ 11 ∨ q = q ∧ 4 = 4 by omega)
    refine to_an (pc := 25) rw_63_25 rfl (s_v (pc := 26) rw_63_26 (dp0 hd (by decide)) (ls0 := [.ref 1]) rfl (Nat.le_of_ble_eq_true rfl) (Nat.le_of_ble_eq_true rfl) rfl (to_rc rfl rfl rfl (g_o hG8 rfl)) rfl ?_)
    have j_10 := (CS_f (fun a i z => W_n W6 (by omega) rfl) q1)
    have c_11 : M7.2.1 1 9 = (M.2.1 1 9) := (W_n W6 (by omega) rfl)
    have t_12 : (M7.2.1 1 9).toInt = (M.2.1 1 9).toInt := congrArg Int32.toInt c_11
    refine E_83 hX (dp1 hd (by decide)) hG8 j_10 (by omega) (t := t) (nn := nn) (a := a) (fun M17 hG14 F13 p_15 p_16 => ?_)
    have F18 := FR.c F9 F13 (fun a i z => show a = 1 ∧ 6 ≤ i ∧ i ≤ 11 ∨ a = q ∧ i = 4 by have z : a = 1 ∧ 6 ≤ i ∧ i ≤ 9 := z; omega)
    refine to_c (pc := 29) rw_63_29 (x := (1 : Int32)) rfl rfl (s_r1 (pc := 30) rw_63_30 (A := 1) rfl (by decide) ?_)
    have k_19 : (1 : Int32).toInt = 1 := rfl
    have c_20 : M17.2.1 q 4 = v4 := (F_n F13 (show ¬ (q = 1 ∧ 6 ≤ 4 ∧ 4 ≤ 9) by omega) (W_e W6))
    have t_21 : (M17.2.1 q 4).toInt = v4.toInt := congrArg Int32.toInt c_20
    have c_22 : M17.2.1 1 10 = (M.2.1 1 10) := (F_n F13 (show ¬ (1 = 1 ∧ 6 ≤ 10 ∧ 10 ≤ 9) by omega) (W_n W6 (by omega) rfl))
    have t_23 : (M17.2.1 1 10).toInt = (M.2.1 1 10).toInt := congrArg Int32.toInt c_22
    have c_24 : M17.2.1 1 11 = (M.2.1 1 11) := (F_n F13 (show ¬ (1 = 1 ∧ 6 ≤ 11 ∧ 11 ≤ 9) by omega) (W_n W6 (by omega) rfl))
    have t_25 : (M17.2.1 1 11).toInt = (M.2.1 1 11).toInt := congrArg Int32.toInt c_24
    exact h (1 : Int32) M17 hG14 F18 (by decide) (by decide) p_15 (by omega) (by omega)
  · refine to_an (pc := 9) rw_63_9 rfl (to_c (pc := 10) rw_63_10 (x := (2 : Int32)) rfl rfl (s_v (pc := 11) rw_63_11 (dp0 hd (by decide)) (ls0 := [.ref 1, .int (2 : Int32)]) rfl (Nat.le_of_ble_eq_true rfl) (Nat.le_of_ble_eq_true rfl) rfl (to_rc rfl rfl rfl (g_o hG rfl)) rfl (to_an (pc := 0) rw_84_0 rfl (to_in (pc := 1) rw_84_1 rfl (s_pI (pc := 2) rw_84_2 hG rfl (fun M27 W26 => ?_))))))
    have hG28 := g_wf hG W26 rfl rfl (by decide)
    have F29 := FR.w F0 W26 (show 1 = 1 ∧ 6 ≤ 10 ∧ 10 ≤ 11 ∨ 1 = q ∧ 10 = 4 by omega)
    refine to_an (pc := 5) rw_84_5 rfl (to_an (pc := 6) rw_84_6 rfl ?_)
    have c_30 : M27.2.1 1 9 = (M.2.1 1 9) := (W_n W26 (by decide) rfl)
    refine tt_gI (pc := 7) rw_84_7 (g_o hG28 rfl) (v := (M.2.1 1 9)) c_30 (s_pI (pc := 10) rw_84_10 hG28 rfl (fun M32 W31 => ?_))
    have hG33 := g_wf hG28 W31 rfl rfl (by decide)
    have F34 := FR.w F29 W31 (show 1 = 1 ∧ 6 ≤ 11 ∧ 11 ≤ 11 ∨ 1 = q ∧ 11 = 4 by omega)
    refine to_c (pc := 13) rw_84_13 (x := (0 : Int32)) rfl rfl (s_r1 (pc := 14) rw_84_14 (A := 0) rfl (by decide) (s_r1 (pc := 14) rw_63_14 (A := 0) rfl (by decide) ?_))
    have k_35 : (0 : Int32).toInt = 0 := rfl
    have j_36 := (CS_f (fun a i z => W_n W31 (by /-r1,11-/ omega) rfl) (CS_f (fun a i z => W_n W26 (by /-r1,10-/ omega) rfl) q1))
    have c_37 : M32.2.1 q 4 = (M.2.1 q 4) := (W_n W31 (by omega) (W_n W26 (by omega) rfl))
    have t_38 : (M32.2.1 q 4).toInt = (M.2.1 q 4).toInt := congrArg Int32.toInt c_37
    have c_39 : M32.2.1 1 9 = (M.2.1 1 9) := (W_n W31 (by decide) c_30)
    have t_40 : (M32.2.1 1 9).toInt = (M.2.1 1 9).toInt := congrArg Int32.toInt c_39
    have c_41 : M32.2.1 1 10 = (2 : Int32) := (W_n W31 (by decide) (W_e W26))
    have k_42 : (2 : Int32).toInt = 2 := rfl
    have t_43 : (M32.2.1 1 10).toInt = (2 : Int32).toInt := congrArg Int32.toInt c_41
    have c_44 : M32.2.1 1 11 = (M.2.1 1 9) := (W_e W31)
    have t_45 : (M32.2.1 1 11).toInt = (M.2.1 1 9).toInt := congrArg Int32.toInt c_44
    exact h (0 : Int32) M32 hG33 F34 (by decide) (by decide) j_36 (by omega) (by omega)
