theorem tg_150 : ∀ a i : Nat, (a < 0) → (a = 1 ∧ 6 ≤ i ∧ i ≤ 11) := fun a i z => by omega
theorem tg_151 : ∀ a i : Nat, (a = 1 ∧ 6 ≤ i ∧ i ≤ 9) → (a = 1 ∧ 6 ≤ i ∧ i ≤ 11 ∨ a = 30) := fun a i z => by omega
theorem tg_152 : ∀ a i : Nat, (a = 1 ∧ 6 ≤ i ∧ i ≤ 9) → (a = 1 ∧ 6 ≤ i ∧ i ≤ 11 ∨ a = 31) := fun a i z => by omega
theorem tg_153 : ∀ a i : Nat, (a = 1 ∧ 6 ≤ i ∧ i ≤ 9) → (a = 1 ∧ 6 ≤ i ∧ i ≤ 11 ∨ a = 32) := fun a i z => by omega
theorem tg_154 : ∀ a i j : Nat, (a = 1 ∧ 5 ≤ i ∧ i ≤ 9 ∨ 3 ≤ a ∧ a ≤ 5) → ¬ (a = 30 ∧ i = j) := fun a i j z => by omega
theorem tg_155 : ∀ a i j : Nat, (a = 1 ∧ 5 ≤ i ∧ i ≤ 9 ∨ 3 ≤ a ∧ a ≤ 5) → ¬ (a = 31 ∧ i = j) := fun a i j z => by omega
theorem tg_156 : ∀ a i j : Nat, (a = 1 ∧ 5 ≤ i ∧ i ≤ 9 ∨ 3 ≤ a ∧ a ≤ 5) → ¬ (a = 32 ∧ i = j) := fun a i j z => by omega
set_option maxRecDepth 4000 in
set_option maxHeartbeats 0 in
theorem E_88f {X : mm_X} {d : Nat} {M : mm_M} {Q : Option Value → mm_M → Prop} {l : Int32} {m : Int32} {t : Nat → Int} {nn : Int} {a : Int} (hX : g_X X) (hd : 1 ≤ d) (hG : g_G M) (q1 : CS M t nn) (q2 : (M.2.1 1 9).toInt = a) (h : ∀ (r : Int32) (M1 : mm_M), g_G M1 → FR md_fl M M1 → (0 ≤ r.toInt) → (r.toInt ≤ 1) → (r.toInt = 1 → x_kind t nn a = 3 ∧ x_val t nn a = (M.2.1 1 8).toInt ∧ l.toInt ≤ x_val t nn a ∧ x_val t nn a ≤ m.toInt) → (r.toInt = 0 → ¬ (x_kind t nn a = 3 ∧ l.toInt ≤ x_val t nn a ∧ x_val t nn a ≤ m.toInt)) → (r.toInt = 0 → (M1.2.1 1 11).toInt = a) → (r.toInt = 0 ∧ x_kind t nn a = 3 → (M1.2.1 1 10).toInt = 2) → (r.toInt = 0 ∧ ¬ x_kind t nn a = 3 → (M1.2.1 1 10).toInt = 1) → Q (some (.int r)) M1) : mm_T X d 88 0 [.ref 1, .int l, .int m] [] M Q := by
  have F0 : FR md_fl M M := FR.rf
  have c_1 := CS_u q1 (a := a) (by omega)
  unfold x_C at c_1
  refine to_an (pc := 0) rw_88_0 rfl ?_
  refine tt_gI (pc := 1) rw_88_1 (g_o hG rfl) (v := (M.2.1 1 7)) rfl ?_
  refine to_c (pc := 4) rw_88_4 (x := (2 : Int32)) rfl rfl ?_
  refine b_ceq (pc := 5) rw_88_5 (A := (M.2.1 1 7).toInt) (B := 2) rfl rfl (fun h2 => ?_) (fun h2 => ?_)
  · refine to_an (pc := 14) rw_88_14 rfl ?_
    refine tt_gI (pc := 15) rw_88_15 (g_o hG rfl) (v := (M.2.1 1 8)) rfl ?_
    refine to_in (pc := 18) rw_88_18 rfl ?_
    refine b_clt (pc := 19) rw_88_19 (A := (M.2.1 1 8).toInt) (B := l.toInt) rfl rfl (fun h3 => ?_) (fun h3 => ?_)
    · refine to_an (pc := 30) rw_88_30 rfl ?_
      refine to_c (pc := 31) rw_88_31 (x := (2 : Int32)) rfl rfl ?_
      refine s_v (pc := 32) rw_88_32 (dp0 hd (by decide)) (ls0 := [.ref 1, .int (2 : Int32)]) rfl (Nat.le_of_ble_eq_true rfl) (Nat.le_of_ble_eq_true rfl) rfl (to_rc rfl rfl rfl (g_o hG rfl)) rfl ?_
      refine to_an (pc := 0) rw_84_0 rfl ?_
      refine to_in (pc := 1) rw_84_1 rfl ?_
      refine s_pI (pc := 2) rw_84_2 hG rfl (fun M5 W4 => ?_)
      have hG6 := g_wf hG W4 rfl rfl (by decide)
      have F7 := FR.w F0 W4 (show 1 = 1 ∧ (10 = 10 ∨ 10 = 11) by decide)
      refine to_an (pc := 5) rw_84_5 rfl ?_
      refine to_an (pc := 6) rw_84_6 rfl ?_
      have c_8 : M5.2.1 1 9 = (M.2.1 1 9) := (W_n W4 (by decide) rfl)
      refine tt_gI (pc := 7) rw_84_7 (g_o hG6 rfl) (v := (M.2.1 1 9)) c_8 ?_
      refine s_pI (pc := 10) rw_84_10 hG6 rfl (fun M10 W9 => ?_)
      have hG11 := g_wf hG6 W9 rfl rfl (by decide)
      have F12 := FR.w F7 W9 (show 1 = 1 ∧ (11 = 10 ∨ 11 = 11) by decide)
      refine to_c (pc := 13) rw_84_13 (x := (0 : Int32)) rfl rfl ?_
      refine s_r1 (pc := 14) rw_84_14 (A := 0) rfl (by decide) ?_
      refine b_ieq_t (pc := 35) rw_88_35 (A := 0) rfl (by decide) ?_
      refine to_c (pc := 42) rw_88_42 (x := (0 : Int32)) rfl rfl ?_
      refine s_r1 (pc := 43) rw_88_43 (A := 0) rfl (by decide) ?_
      have k_13 : (0 : Int32).toInt = 0 := rfl
      have c_14 : M10.2.1 1 11 = (M.2.1 1 9) := (W_e W9)
      have t_15 : (M10.2.1 1 11).toInt = (M.2.1 1 9).toInt := congrArg Int32.toInt c_14
      have c_16 : M10.2.1 1 10 = (2 : Int32) := (W_n W9 (by decide) (W_e W4))
      have k_17 : (2 : Int32).toInt = 2 := rfl
      have t_18 : (M10.2.1 1 10).toInt = (2 : Int32).toInt := congrArg Int32.toInt c_16
      exact h (0 : Int32) M10 hG11 F12 (by decide) (by decide) (by omega) (by omega) (by omega) (by omega) (by omega)
    · refine to_an (pc := 22) rw_88_22 rfl ?_
      refine tt_gI (pc := 23) rw_88_23 (g_o hG rfl) (v := (M.2.1 1 8)) rfl ?_
      refine to_in (pc := 26) rw_88_26 rfl ?_
      refine b_cle (pc := 27) rw_88_27 (A := (M.2.1 1 8).toInt) (B := m.toInt) rfl rfl (fun h19 => ?_) (fun h19 => ?_)
      · refine to_c (pc := 38) rw_88_38 (x := (1 : Int32)) rfl rfl ?_
        refine to_go (pc := 39) rw_88_39 ?_
        refine s_r1 (pc := 43) rw_88_43 (A := 1) rfl (by decide) ?_
        have k_20 : (1 : Int32).toInt = 1 := rfl
        exact h (1 : Int32) M hG F0 (by decide) (by decide) (by omega) (by omega) (by omega) (by omega) (by omega)
      · refine to_an (pc := 30) rw_88_30 rfl ?_
        refine to_c (pc := 31) rw_88_31 (x := (2 : Int32)) rfl rfl ?_
        refine s_v (pc := 32) rw_88_32 (dp0 hd (by decide)) (ls0 := [.ref 1, .int (2 : Int32)]) rfl (Nat.le_of_ble_eq_true rfl) (Nat.le_of_ble_eq_true rfl) rfl (to_rc rfl rfl rfl (g_o hG rfl)) rfl ?_
        refine to_an (pc := 0) rw_84_0 rfl ?_
        refine to_in (pc := 1) rw_84_1 rfl ?_
        refine s_pI (pc := 2) rw_84_2 hG rfl (fun M22 W21 => ?_)
        have hG23 := g_wf hG W21 rfl rfl (by decide)
        have F24 := FR.w F0 W21 (show 1 = 1 ∧ (10 = 10 ∨ 10 = 11) by decide)
        refine to_an (pc := 5) rw_84_5 rfl ?_
        refine to_an (pc := 6) rw_84_6 rfl ?_
        have c_25 : M22.2.1 1 9 = (M.2.1 1 9) := (W_n W21 (by decide) rfl)
        refine tt_gI (pc := 7) rw_84_7 (g_o hG23 rfl) (v := (M.2.1 1 9)) c_25 ?_
        refine s_pI (pc := 10) rw_84_10 hG23 rfl (fun M27 W26 => ?_)
        have hG28 := g_wf hG23 W26 rfl rfl (by decide)
        have F29 := FR.w F24 W26 (show 1 = 1 ∧ (11 = 10 ∨ 11 = 11) by decide)
        refine to_c (pc := 13) rw_84_13 (x := (0 : Int32)) rfl rfl ?_
        refine s_r1 (pc := 14) rw_84_14 (A := 0) rfl (by decide) ?_
        refine b_ieq_t (pc := 35) rw_88_35 (A := 0) rfl (by decide) ?_
        refine to_c (pc := 42) rw_88_42 (x := (0 : Int32)) rfl rfl ?_
        refine s_r1 (pc := 43) rw_88_43 (A := 0) rfl (by decide) ?_
        have k_30 : (0 : Int32).toInt = 0 := rfl
        have c_31 : M27.2.1 1 11 = (M.2.1 1 9) := (W_e W26)
        have t_32 : (M27.2.1 1 11).toInt = (M.2.1 1 9).toInt := congrArg Int32.toInt c_31
        have c_33 : M27.2.1 1 10 = (2 : Int32) := (W_n W26 (by decide) (W_e W21))
        have k_34 : (2 : Int32).toInt = 2 := rfl
        have t_35 : (M27.2.1 1 10).toInt = (2 : Int32).toInt := congrArg Int32.toInt c_33
        exact h (0 : Int32) M27 hG28 F29 (by decide) (by decide) (by omega) (by omega) (by omega) (by omega) (by omega)
  · refine to_an (pc := 8) rw_88_8 rfl ?_
    refine to_c (pc := 9) rw_88_9 (x := (1 : Int32)) rfl rfl ?_
    refine s_v (pc := 10) rw_88_10 (dp0 hd (by decide)) (ls0 := [.ref 1, .int (1 : Int32)]) rfl (Nat.le_of_ble_eq_true rfl) (Nat.le_of_ble_eq_true rfl) rfl (to_rc rfl rfl rfl (g_o hG rfl)) rfl ?_
    refine to_an (pc := 0) rw_84_0 rfl ?_
    refine to_in (pc := 1) rw_84_1 rfl ?_
    refine s_pI (pc := 2) rw_84_2 hG rfl (fun M37 W36 => ?_)
    have hG38 := g_wf hG W36 rfl rfl (by decide)
    have F39 := FR.w F0 W36 (show 1 = 1 ∧ (10 = 10 ∨ 10 = 11) by decide)
    refine to_an (pc := 5) rw_84_5 rfl ?_
    refine to_an (pc := 6) rw_84_6 rfl ?_
    have c_40 : M37.2.1 1 9 = (M.2.1 1 9) := (W_n W36 (by decide) rfl)
    refine tt_gI (pc := 7) rw_84_7 (g_o hG38 rfl) (v := (M.2.1 1 9)) c_40 ?_
    refine s_pI (pc := 10) rw_84_10 hG38 rfl (fun M42 W41 => ?_)
    have hG43 := g_wf hG38 W41 rfl rfl (by decide)
    have F44 := FR.w F39 W41 (show 1 = 1 ∧ (11 = 10 ∨ 11 = 11) by decide)
    refine to_c (pc := 13) rw_84_13 (x := (0 : Int32)) rfl rfl ?_
    refine s_r1 (pc := 14) rw_84_14 (A := 0) rfl (by decide) ?_
    refine s_r1 (pc := 13) rw_88_13 (A := 0) rfl (by decide) ?_
    have k_45 : (0 : Int32).toInt = 0 := rfl
    have c_46 : M42.2.1 1 11 = (M.2.1 1 9) := (W_e W41)
    have t_47 : (M42.2.1 1 11).toInt = (M.2.1 1 9).toInt := congrArg Int32.toInt c_46
    have c_48 : M42.2.1 1 10 = (1 : Int32) := (W_n W41 (by decide) (W_e W36))
    have k_49 : (1 : Int32).toInt = 1 := rfl
    have t_50 : (M42.2.1 1 10).toInt = (1 : Int32).toInt := congrArg Int32.toInt c_48
    exact h (0 : Int32) M42 hG43 F44 (by decide) (by decide) (by omega) (by omega) (by omega) (by omega) (by omega)
set_option maxRecDepth 4000 in
set_option maxHeartbeats 0 in
theorem E_90s {X : mm_X} {d : Nat} {M : mm_M} {Q : Option Value → mm_M → Prop} {c : Int32} {t : Nat → Int} {nn : Int} {a : Int} (hX : g_X X) (hd : 1 ≤ d) (hG : g_G M) (q1 : CS M t nn) (q2 : (M.2.1 1 9).toInt = a) (q3 : c.toInt = 40 ∨ c.toInt = 41 ∨ c.toInt = 61 ∨ c.toInt = 59) (h : ∀ (r : Int32) (M1 : mm_M), g_G M1 → FR md_p90 M M1 → (0 ≤ r.toInt) → (r.toInt ≤ 1) → CS M1 t nn → (r.toInt = 1 → (x_kind t nn a = 4 ∧ x_val t nn a = c.toInt) ∧ (M1.2.1 1 9).toInt = x_ns t nn a) → (r.toInt = 0 → ¬ (x_kind t nn a = 4 ∧ x_val t nn a = c.toInt)) → (r.toInt = 0 → (M1.2.1 1 10).toInt = 1 ∧ (M1.2.1 1 11).toInt = a) → Q (some (.int r)) M1) : mm_T X d 90 0 [.ref 1, .int c] [] M Q := by
  have F0 : FR md_p90 M M := FR.rf
  have c_1 := CS_u q1 (a := a) (by omega)
  unfold x_C at c_1
  refine to_an (pc := 0) rw_90_0 rfl ?_
  refine tt_gI (pc := 1) rw_90_1 (g_o hG rfl) (v := (M.2.1 1 7)) rfl ?_
  refine to_in (pc := 4) rw_90_4 rfl ?_
  refine b_ceq (pc := 5) rw_90_5 (A := (M.2.1 1 7).toInt) (B := c.toInt) rfl rfl (fun h2 => ?_) (fun h2 => ?_)
  · refine to_an (pc := 14) rw_90_14 rfl ?_
    refine s_v (pc := 15) rw_90_15 (dp0 hd (by decide)) (ls0 := [.ref 1]) rfl (Nat.le_of_ble_eq_true rfl) (Nat.le_of_ble_eq_true rfl) rfl (to_rc rfl rfl rfl (g_o hG rfl)) rfl ?_
    refine E_83 hX (dp1 hd (by decide)) hG q1 (by omega) (t := t) (nn := nn) (a := a) (fun M7 hG4 F3 p_5 p_6 => ?_)
    have F8 := FR.c F0 F3 tg_31
    refine to_c (pc := 18) rw_90_18 (x := (1 : Int32)) rfl rfl ?_
    refine s_r1 (pc := 19) rw_90_19 (A := 1) rfl (by decide) ?_
    have k_9 : (1 : Int32).toInt = 1 := rfl
    have c_10 : M7.2.1 1 10 = (M.2.1 1 10) := (F_n F3 (show ¬ (1 = 1 ∧ 6 ≤ 10 ∧ 10 ≤ 9) by decide) rfl)
    have t_11 : (M7.2.1 1 10).toInt = (M.2.1 1 10).toInt := congrArg Int32.toInt c_10
    have c_12 : M7.2.1 1 11 = (M.2.1 1 11) := (F_n F3 (show ¬ (1 = 1 ∧ 6 ≤ 11 ∧ 11 ≤ 9) by decide) rfl)
    have t_13 : (M7.2.1 1 11).toInt = (M.2.1 1 11).toInt := congrArg Int32.toInt c_12
    exact h (1 : Int32) M7 hG4 F8 (by decide) (by decide) p_5 (by omega) (by omega) (by omega)
  · refine to_an (pc := 8) rw_90_8 rfl ?_
    refine to_c (pc := 9) rw_90_9 (x := (1 : Int32)) rfl rfl ?_
    refine s_v (pc := 10) rw_90_10 (dp0 hd (by decide)) (ls0 := [.ref 1, .int (1 : Int32)]) rfl (Nat.le_of_ble_eq_true rfl) (Nat.le_of_ble_eq_true rfl) rfl (to_rc rfl rfl rfl (g_o hG rfl)) rfl ?_
    refine to_an (pc := 0) rw_84_0 rfl ?_
    refine to_in (pc := 1) rw_84_1 rfl ?_
    refine s_pI (pc := 2) rw_84_2 hG rfl (fun M15 W14 => ?_)
    have hG16 := g_wf hG W14 rfl rfl (by decide)
    have F17 := FR.w F0 W14 (show 1 = 1 ∧ 6 ≤ 10 ∧ 10 ≤ 11 by decide)
    refine to_an (pc := 5) rw_84_5 rfl ?_
    refine to_an (pc := 6) rw_84_6 rfl ?_
    have c_18 : M15.2.1 1 9 = (M.2.1 1 9) := (W_n W14 (by decide) rfl)
    refine tt_gI (pc := 7) rw_84_7 (g_o hG16 rfl) (v := (M.2.1 1 9)) c_18 ?_
    refine s_pI (pc := 10) rw_84_10 hG16 rfl (fun M20 W19 => ?_)
    have hG21 := g_wf hG16 W19 rfl rfl (by decide)
    have F22 := FR.w F17 W19 (show 1 = 1 ∧ 6 ≤ 11 ∧ 11 ≤ 11 by decide)
    refine to_c (pc := 13) rw_84_13 (x := (0 : Int32)) rfl rfl ?_
    refine s_r1 (pc := 14) rw_84_14 (A := 0) rfl (by decide) ?_
    refine s_r1 (pc := 13) rw_90_13 (A := 0) rfl (by decide) ?_
    have k_23 : (0 : Int32).toInt = 0 := rfl
    have j_24 := (CS_f (fun a i z => W_n W19 (tg_32 a i z) rfl) (CS_f (fun a i z => W_n W14 (tg_33 a i z) rfl) q1))
    have c_25 : M20.2.1 1 9 = (M.2.1 1 9) := (W_n W19 (by decide) c_18)
    have t_26 : (M20.2.1 1 9).toInt = (M.2.1 1 9).toInt := congrArg Int32.toInt c_25
    have c_27 : M20.2.1 1 10 = (1 : Int32) := (W_n W19 (by decide) (W_e W14))
    have k_28 : (1 : Int32).toInt = 1 := rfl
    have t_29 : (M20.2.1 1 10).toInt = (1 : Int32).toInt := congrArg Int32.toInt c_27
    have c_30 : M20.2.1 1 11 = (M.2.1 1 9) := (W_e W19)
    have t_31 : (M20.2.1 1 11).toInt = (M.2.1 1 9).toInt := congrArg Int32.toInt c_30
    exact h (0 : Int32) M20 hG21 F22 (by decide) (by decide) j_24 (by omega) (by omega) (by omega)
set_option maxRecDepth 4000 in
set_option maxHeartbeats 0 in
theorem E_89 {X : mm_X} {d : Nat} {M : mm_M} {Q : Option Value → mm_M → Prop} {c : Int32} {t : Nat → Int} {nn : Int} {a : Int} (hX : g_X X) (hd : 1 ≤ d) (hG : g_G M) (q1 : CS M t nn) (q2 : (M.2.1 1 9).toInt = a) (q3 : c.toInt = 686817280 ∨ c.toInt = 93323264) (h : ∀ (r : Int32) (M1 : mm_M), g_G M1 → FR md_p90 M M1 → (0 ≤ r.toInt) → (r.toInt ≤ 1) → CS M1 t nn → (r.toInt = 1 → (x_kind t nn a = 1 ∧ x_val t nn a = c.toInt) ∧ (M1.2.1 1 9).toInt = x_ns t nn a) → (r.toInt = 0 → ¬ (x_kind t nn a = 1 ∧ x_val t nn a = c.toInt)) → (r.toInt = 0 → (M1.2.1 1 10).toInt = 1 ∧ (M1.2.1 1 11).toInt = a) → Q (some (.int r)) M1) : mm_T X d 89 0 [.ref 1, .int c] [] M Q := by
  have F0 : FR md_p90 M M := FR.rf
  have c_1 := CS_u q1 (a := a) (by omega)
  unfold x_C at c_1
  refine to_an (pc := 0) rw_89_0 rfl ?_
  refine to_in (pc := 1) rw_89_1 rfl ?_
  refine s_v (pc := 2) rw_89_2 (dp0 hd (by decide)) (ls0 := [.ref 1, .int c]) rfl (Nat.le_of_ble_eq_true rfl) (Nat.le_of_ble_eq_true rfl) rfl (to_rc rfl rfl rfl (g_o hG rfl)) rfl ?_
  refine E_86 hX (dp1 hd (by decide)) hG q1 (by omega) (x := c) (t := t) (nn := nn) (a := a) (fun r2 M9 hG4 F3 p_5 p_6 p_7 p_8 => ?_)
  have F10 := FR.c F0 F3 tg_150
  rcases (show r2.toInt = 0 ∨ r2.toInt = 1 by omega) with h11 | h11
  · skip
    have p_12 := p_8 (by omega)
    clear p_7 p_8
    refine b_ine_f (pc := 5) rw_89_5 (A := r2.toInt) rfl (by omega) ?_
    refine to_an (pc := 8) rw_89_8 rfl ?_
    refine to_c (pc := 9) rw_89_9 (x := (1 : Int32)) rfl rfl ?_
    refine s_v (pc := 10) rw_89_10 (dp0 hd (by decide)) (ls0 := [.ref 1, .int (1 : Int32)]) rfl (Nat.le_of_ble_eq_true rfl) (Nat.le_of_ble_eq_true rfl) rfl (to_rc rfl rfl rfl (g_o hG4 rfl)) rfl ?_
    refine to_an (pc := 0) rw_84_0 rfl ?_
    refine to_in (pc := 1) rw_84_1 rfl ?_
    refine s_pI (pc := 2) rw_84_2 hG4 rfl (fun M14 W13 => ?_)
    have hG15 := g_wf hG4 W13 rfl rfl (by decide)
    have F16 := FR.w F10 W13 (show 1 = 1 ∧ 6 ≤ 10 ∧ 10 ≤ 11 by decide)
    refine to_an (pc := 5) rw_84_5 rfl ?_
    refine to_an (pc := 6) rw_84_6 rfl ?_
    have c_17 : M14.2.1 1 9 = (M.2.1 1 9) := (W_n W13 (by decide) (F_n F3 (show ¬ (1 < 0) by decide) rfl))
    refine tt_gI (pc := 7) rw_84_7 (g_o hG15 rfl) (v := (M.2.1 1 9)) c_17 ?_
    refine s_pI (pc := 10) rw_84_10 hG15 rfl (fun M19 W18 => ?_)
    have hG20 := g_wf hG15 W18 rfl rfl (by decide)
    have F21 := FR.w F16 W18 (show 1 = 1 ∧ 6 ≤ 11 ∧ 11 ≤ 11 by decide)
    refine to_c (pc := 13) rw_84_13 (x := (0 : Int32)) rfl rfl ?_
    refine s_r1 (pc := 14) rw_84_14 (A := 0) rfl (by decide) ?_
    refine s_r1 (pc := 13) rw_89_13 (A := 0) rfl (by decide) ?_
    have k_22 : (0 : Int32).toInt = 0 := rfl
    have j_23 := (CS_f (fun a i z => W_n W18 (tg_32 a i z) rfl) (CS_f (fun a i z => W_n W13 (tg_33 a i z) rfl) (CS_f (tg_28 F3) q1)))
    have c_24 : M19.2.1 1 9 = (M.2.1 1 9) := (W_n W18 (by decide) c_17)
    have t_25 : (M19.2.1 1 9).toInt = (M.2.1 1 9).toInt := congrArg Int32.toInt c_24
    have c_26 : M19.2.1 1 10 = (1 : Int32) := (W_n W18 (by decide) (W_e W13))
    have k_27 : (1 : Int32).toInt = 1 := rfl
    have t_28 : (M19.2.1 1 10).toInt = (1 : Int32).toInt := congrArg Int32.toInt c_26
    have c_29 : M19.2.1 1 11 = (M.2.1 1 9) := (W_e W18)
    have t_30 : (M19.2.1 1 11).toInt = (M.2.1 1 9).toInt := congrArg Int32.toInt c_29
    exact h (0 : Int32) M19 hG20 F21 (by decide) (by decide) j_23 (by omega) (by omega) (by omega)
  · skip
    have p_31 := p_7 (by omega)
    clear p_7 p_8
    refine b_ine_t (pc := 5) rw_89_5 (A := r2.toInt) rfl (by omega) ?_
    refine to_an (pc := 14) rw_89_14 rfl ?_
    refine s_v (pc := 15) rw_89_15 (dp0 hd (by decide)) (ls0 := [.ref 1]) rfl (Nat.le_of_ble_eq_true rfl) (Nat.le_of_ble_eq_true rfl) rfl (to_rc rfl rfl rfl (g_o hG4 rfl)) rfl ?_
    have j_32 := (CS_f (tg_28 F3) q1)
    have c_33 : M9.2.1 1 9 = (M.2.1 1 9) := (F_n F3 (show ¬ (1 < 0) by decide) rfl)
    have t_34 : (M9.2.1 1 9).toInt = (M.2.1 1 9).toInt := congrArg Int32.toInt c_33
    refine E_83 hX (dp1 hd (by decide)) hG4 j_32 (by omega) (t := t) (nn := nn) (a := a) (fun M39 hG36 F35 p_37 p_38 => ?_)
    have F40 := FR.c F10 F35 tg_31
    refine to_c (pc := 18) rw_89_18 (x := (1 : Int32)) rfl rfl ?_
    refine s_r1 (pc := 19) rw_89_19 (A := 1) rfl (by decide) ?_
    have k_41 : (1 : Int32).toInt = 1 := rfl
    have c_42 : M39.2.1 1 10 = (M.2.1 1 10) := (F_n F35 (show ¬ (1 = 1 ∧ 6 ≤ 10 ∧ 10 ≤ 9) by decide) (F_n F3 (show ¬ (1 < 0) by decide) rfl))
    have t_43 : (M39.2.1 1 10).toInt = (M.2.1 1 10).toInt := congrArg Int32.toInt c_42
    have c_44 : M39.2.1 1 11 = (M.2.1 1 11) := (F_n F35 (show ¬ (1 = 1 ∧ 6 ≤ 11 ∧ 11 ≤ 9) by decide) (F_n F3 (show ¬ (1 < 0) by decide) rfl))
    have t_45 : (M39.2.1 1 11).toInt = (M.2.1 1 11).toInt := congrArg Int32.toInt c_44
    exact h (1 : Int32) M39 hG36 F40 (by decide) (by decide) p_37 (by omega) (by omega) (by omega)
set_option maxRecDepth 4000 in
set_option maxHeartbeats 0 in
theorem E_102x {X : mm_X} {d : Nat} {M : mm_M} {Q : Option Value → mm_M → Prop} {s : Int32} {t : Nat → Int} {nn : Int} {a : Int} (hX : g_X X) (hd : 1 ≤ d) (hG : g_G M) (q1 : 0 ≤ s.toInt) (q2 : s.toInt ≤ 39) (q3 : CS M t nn) (q4 : (M.2.1 1 9).toInt = a) (h : ∀ (r : Int32) (M1 : mm_M), g_G M1 → FR md_w30 M M1 → (0 ≤ r.toInt) → (r.toInt ≤ 1) → CS M1 t nn → (r.toInt = 1 → 0 ≤ x_kp t nn a ∧ (M1.2.1 1 9).toInt = x_ns t nn a) → (r.toInt = 1 → (M1.2.1 30 (s.toInt).toNat).toInt = x_kp t nn a) → (r.toInt = 0 → x_kp t nn a = -1 ∧ (M1.2.1 1 10).toInt = 1 ∧ (M1.2.1 1 11).toInt = a) → (∀ i : Nat, ¬ i = (s.toInt).toNat → M1.2.1 30 i = M.2.1 30 i) → Q (some (.int r)) M1) : mm_T X d 102 0 [.ref 28, .ref 1, .ref 30, .int s, .null] [] M Q := by
  have F0 : FR md_w30 M M := FR.rf
  have c_1 := CS_u q3 (a := a) (by omega)
  unfold x_C at c_1
  have z_2 := c_1.2
  refine to_an (pc := 0) rw_102_0 rfl ?_
  refine tt_gI (pc := 1) rw_102_1 (g_o hG rfl) (v := (M.2.1 1 7)) rfl ?_
  refine to_c (pc := 4) rw_102_4 (x := (3 : Int32)) rfl rfl ?_
  refine b_cne (pc := 5) rw_102_5 (A := (M.2.1 1 7).toInt) (B := 3) rfl rfl (fun h3 => ?_) (fun h3 => ?_)
  · have z_4 : ¬ x_kind t nn a = 2 := by omega
    clear c_1
    refine to_c (pc := 18) rw_102_18 (x := (0 : Int32)) rfl rfl ?_
    refine to_is (pc := 19) rw_102_19 (ls2 := [.ref 28, .ref 1, .ref 30, .int s, .int (0 : Int32)]) rfl rfl ?_
    refine to_i (pc := 21) rw_102_21 rfl ?_
    refine to_c (pc := 23) rw_102_23 (x := (1 : Int32)) rfl rfl ?_
    refine b_clt_t (pc := 24) rw_102_24 (A := 0) (B := 1) rfl rfl (by decide) ?_
    refine to_an (pc := 46) rw_102_46 rfl ?_
    refine to_c (pc := 47) rw_102_47 (x := (1 : Int32)) rfl rfl ?_
    refine s_v (pc := 48) rw_102_48 (dp0 hd (by decide)) (ls0 := [.ref 1, .int (1 : Int32)]) rfl (Nat.le_of_ble_eq_true rfl) (Nat.le_of_ble_eq_true rfl) rfl (to_rc rfl rfl rfl (g_o hG rfl)) rfl ?_
    refine to_an (pc := 0) rw_84_0 rfl ?_
    refine to_in (pc := 1) rw_84_1 rfl ?_
    refine s_pI (pc := 2) rw_84_2 hG rfl (fun M6 W5 => ?_)
    have hG7 := g_wf hG W5 rfl rfl (by decide)
    have F8 := FR.w F0 W5 (show 1 = 1 ∧ 6 ≤ 10 ∧ 10 ≤ 11 ∨ 1 = 30 by decide)
    refine to_an (pc := 5) rw_84_5 rfl ?_
    refine to_an (pc := 6) rw_84_6 rfl ?_
    have c_9 : M6.2.1 1 9 = (M.2.1 1 9) := (W_n W5 (by decide) rfl)
    refine tt_gI (pc := 7) rw_84_7 (g_o hG7 rfl) (v := (M.2.1 1 9)) c_9 ?_
    refine s_pI (pc := 10) rw_84_10 hG7 rfl (fun M11 W10 => ?_)
    have hG12 := g_wf hG7 W10 rfl rfl (by decide)
    have F13 := FR.w F8 W10 (show 1 = 1 ∧ 6 ≤ 11 ∧ 11 ≤ 11 ∨ 1 = 30 by decide)
    refine to_c (pc := 13) rw_84_13 (x := (0 : Int32)) rfl rfl ?_
    refine s_r1 (pc := 14) rw_84_14 (A := 0) rfl (by decide) ?_
    refine s_r1 (pc := 51) rw_102_51 (A := 0) rfl (by decide) ?_
    have k_14 : (0 : Int32).toInt = 0 := rfl
    have z_15 := x_pk_n (t := t) (nn := nn) (a := a) (by omega)
    have j_16 := (CS_f (fun a i z => W_n W10 (tg_32 a i z) rfl) (CS_f (fun a i z => W_n W5 (tg_33 a i z) rfl) q3))
    have c_17 : M11.2.1 1 9 = (M.2.1 1 9) := (W_n W10 (by decide) c_9)
    have t_18 : (M11.2.1 1 9).toInt = (M.2.1 1 9).toInt := congrArg Int32.toInt c_17
    have t_19 : (M11.2.1 30 (s.toInt).toNat).toInt = (M.2.1 30 (s.toInt).toNat).toInt := congrArg Int32.toInt (W_n W10 (by omega) (W_n W5 (by omega) rfl))
    have c_20 : M11.2.1 1 10 = (1 : Int32) := (W_n W10 (by decide) (W_e W5))
    have k_21 : (1 : Int32).toInt = 1 := rfl
    have t_22 : (M11.2.1 1 10).toInt = (1 : Int32).toInt := congrArg Int32.toInt c_20
    have c_23 : M11.2.1 1 11 = (M.2.1 1 9) := (W_e W10)
    have t_24 : (M11.2.1 1 11).toInt = (M.2.1 1 9).toInt := congrArg Int32.toInt c_23
    exact h (0 : Int32) M11 hG12 F13 (by decide) (by decide) j_16 (by omega) (by omega) (by omega) (fun i hi => (W_n W10 (by omega) (W_n W5 (by omega) rfl)))
  · have z_25 : x_kind t nn a = 2 ∧ x_val t nn a = (M.2.1 1 8).toInt := by omega
    clear c_1
    refine to_an (pc := 8) rw_102_8 rfl ?_
    refine tt_gI (pc := 9) rw_102_9 (g_o hG rfl) (v := (M.2.1 1 8)) rfl ?_
    refine to_c (pc := 12) rw_102_12 (x := (25 : Int32)) rfl rfl ?_
    refine s_opE (pc := 14) rw_102_14 (w := (M.2.1 1 8) >>> (25 : Int32)) rfl (fun v26 e27 => ?_)
    have z_28 := i_shr25 e27
    refine to_go (pc := 15) rw_102_15 ?_
    refine to_is (pc := 19) rw_102_19 (ls2 := [.ref 28, .ref 1, .ref 30, .int s, .int v26]) rfl rfl ?_
    refine to_i (pc := 21) rw_102_21 rfl ?_
    refine to_c (pc := 23) rw_102_23 (x := (1 : Int32)) rfl rfl ?_
    refine b_clt (pc := 24) rw_102_24 (A := v26.toInt) (B := 1) rfl rfl (fun h29 => ?_) (fun h29 => ?_)
    · refine to_an (pc := 46) rw_102_46 rfl ?_
      refine to_c (pc := 47) rw_102_47 (x := (1 : Int32)) rfl rfl ?_
      refine s_v (pc := 48) rw_102_48 (dp0 hd (by decide)) (ls0 := [.ref 1, .int (1 : Int32)]) rfl (Nat.le_of_ble_eq_true rfl) (Nat.le_of_ble_eq_true rfl) rfl (to_rc rfl rfl rfl (g_o hG rfl)) rfl ?_
      refine to_an (pc := 0) rw_84_0 rfl ?_
      refine to_in (pc := 1) rw_84_1 rfl ?_
      refine s_pI (pc := 2) rw_84_2 hG rfl (fun M31 W30 => ?_)
      have hG32 := g_wf hG W30 rfl rfl (by decide)
      have F33 := FR.w F0 W30 (show 1 = 1 ∧ 6 ≤ 10 ∧ 10 ≤ 11 ∨ 1 = 30 by decide)
      refine to_an (pc := 5) rw_84_5 rfl ?_
      refine to_an (pc := 6) rw_84_6 rfl ?_
      have c_34 : M31.2.1 1 9 = (M.2.1 1 9) := (W_n W30 (by decide) rfl)
      refine tt_gI (pc := 7) rw_84_7 (g_o hG32 rfl) (v := (M.2.1 1 9)) c_34 ?_
      refine s_pI (pc := 10) rw_84_10 hG32 rfl (fun M36 W35 => ?_)
      have hG37 := g_wf hG32 W35 rfl rfl (by decide)
      have F38 := FR.w F33 W35 (show 1 = 1 ∧ 6 ≤ 11 ∧ 11 ≤ 11 ∨ 1 = 30 by decide)
      refine to_c (pc := 13) rw_84_13 (x := (0 : Int32)) rfl rfl ?_
      refine s_r1 (pc := 14) rw_84_14 (A := 0) rfl (by decide) ?_
      refine s_r1 (pc := 51) rw_102_51 (A := 0) rfl (by decide) ?_
      have k_39 : (0 : Int32).toInt = 0 := rfl
      have z_40 := x_pk_n (t := t) (nn := nn) (a := a) (by omega)
      have j_41 := (CS_f (fun a i z => W_n W35 (tg_32 a i z) rfl) (CS_f (fun a i z => W_n W30 (tg_33 a i z) rfl) q3))
      have c_42 : M36.2.1 1 9 = (M.2.1 1 9) := (W_n W35 (by decide) c_34)
      have t_43 : (M36.2.1 1 9).toInt = (M.2.1 1 9).toInt := congrArg Int32.toInt c_42
      have t_44 : (M36.2.1 30 (s.toInt).toNat).toInt = (M.2.1 30 (s.toInt).toNat).toInt := congrArg Int32.toInt (W_n W35 (by omega) (W_n W30 (by omega) rfl))
      have c_45 : M36.2.1 1 10 = (1 : Int32) := (W_n W35 (by decide) (W_e W30))
      have k_46 : (1 : Int32).toInt = 1 := rfl
      have t_47 : (M36.2.1 1 10).toInt = (1 : Int32).toInt := congrArg Int32.toInt c_45
      have c_48 : M36.2.1 1 11 = (M.2.1 1 9) := (W_e W35)
      have t_49 : (M36.2.1 1 11).toInt = (M.2.1 1 9).toInt := congrArg Int32.toInt c_48
      exact h (0 : Int32) M36 hG37 F38 (by decide) (by decide) j_41 (by omega) (by omega) (by omega) (fun i hi => (W_n W35 (by omega) (W_n W30 (by omega) rfl)))
    · refine to_i (pc := 27) rw_102_27 rfl ?_
      refine to_c (pc := 29) rw_102_29 (x := (6 : Int32)) rfl rfl ?_
      refine b_cgt (pc := 31) rw_102_31 (A := v26.toInt) (B := 6) rfl rfl (fun h50 => ?_) (fun h50 => ?_)
      · refine to_an (pc := 46) rw_102_46 rfl ?_
        refine to_c (pc := 47) rw_102_47 (x := (1 : Int32)) rfl rfl ?_
        refine s_v (pc := 48) rw_102_48 (dp0 hd (by decide)) (ls0 := [.ref 1, .int (1 : Int32)]) rfl (Nat.le_of_ble_eq_true rfl) (Nat.le_of_ble_eq_true rfl) rfl (to_rc rfl rfl rfl (g_o hG rfl)) rfl ?_
        refine to_an (pc := 0) rw_84_0 rfl ?_
        refine to_in (pc := 1) rw_84_1 rfl ?_
        refine s_pI (pc := 2) rw_84_2 hG rfl (fun M52 W51 => ?_)
        have hG53 := g_wf hG W51 rfl rfl (by decide)
        have F54 := FR.w F0 W51 (show 1 = 1 ∧ 6 ≤ 10 ∧ 10 ≤ 11 ∨ 1 = 30 by decide)
        refine to_an (pc := 5) rw_84_5 rfl ?_
        refine to_an (pc := 6) rw_84_6 rfl ?_
        have c_55 : M52.2.1 1 9 = (M.2.1 1 9) := (W_n W51 (by decide) rfl)
        refine tt_gI (pc := 7) rw_84_7 (g_o hG53 rfl) (v := (M.2.1 1 9)) c_55 ?_
        refine s_pI (pc := 10) rw_84_10 hG53 rfl (fun M57 W56 => ?_)
        have hG58 := g_wf hG53 W56 rfl rfl (by decide)
        have F59 := FR.w F54 W56 (show 1 = 1 ∧ 6 ≤ 11 ∧ 11 ≤ 11 ∨ 1 = 30 by decide)
        refine to_c (pc := 13) rw_84_13 (x := (0 : Int32)) rfl rfl ?_
        refine s_r1 (pc := 14) rw_84_14 (A := 0) rfl (by decide) ?_
        refine s_r1 (pc := 51) rw_102_51 (A := 0) rfl (by decide) ?_
        have k_60 : (0 : Int32).toInt = 0 := rfl
        have z_61 := x_pk_n (t := t) (nn := nn) (a := a) (by omega)
        have j_62 := (CS_f (fun a i z => W_n W56 (tg_32 a i z) rfl) (CS_f (fun a i z => W_n W51 (tg_33 a i z) rfl) q3))
        have c_63 : M57.2.1 1 9 = (M.2.1 1 9) := (W_n W56 (by decide) c_55)
        have t_64 : (M57.2.1 1 9).toInt = (M.2.1 1 9).toInt := congrArg Int32.toInt c_63
        have t_65 : (M57.2.1 30 (s.toInt).toNat).toInt = (M.2.1 30 (s.toInt).toNat).toInt := congrArg Int32.toInt (W_n W56 (by omega) (W_n W51 (by omega) rfl))
        have c_66 : M57.2.1 1 10 = (1 : Int32) := (W_n W56 (by decide) (W_e W51))
        have k_67 : (1 : Int32).toInt = 1 := rfl
        have t_68 : (M57.2.1 1 10).toInt = (1 : Int32).toInt := congrArg Int32.toInt c_66
        have c_69 : M57.2.1 1 11 = (M.2.1 1 9) := (W_e W56)
        have t_70 : (M57.2.1 1 11).toInt = (M.2.1 1 9).toInt := congrArg Int32.toInt c_69
        exact h (0 : Int32) M57 hG58 F59 (by decide) (by decide) j_62 (by omega) (by omega) (by omega) (fun i hi => (W_n W56 (by omega) (W_n W51 (by omega) rfl)))
      · refine to_an (pc := 34) rw_102_34 rfl ?_
        refine tt_gI (pc := 35) rw_102_35 (g_o hG rfl) (v := (M.2.1 1 8)) rfl ?_
        refine to_i (pc := 38) rw_102_38 rfl ?_
        refine to_c (pc := 40) rw_102_40 (x := (25 : Int32)) rfl rfl ?_
        refine s_opE (pc := 42) rw_102_42 (w := v26 <<< (25 : Int32)) rfl (fun v71 e72 => ?_)
        have z_73 := i_shl25 (by omega) (by omega) e72
        refine b_ceq (pc := 43) rw_102_43 (A := (M.2.1 1 8).toInt) (B := v71.toInt) rfl rfl (fun h74 => ?_) (fun h74 => ?_)
        · refine to_an (pc := 52) rw_102_52 rfl ?_
          refine to_in (pc := 53) rw_102_53 rfl ?_
          refine to_i (pc := 54) rw_102_54 rfl ?_
          refine to_c (pc := 56) rw_102_56 (x := (1 : Int32)) rfl rfl ?_
          refine s_sub (pc := 57) rw_102_57 (A := v26.toInt) (B := 1) rfl rfl (by omega) (fun v75 e76 => ?_)
          refine s_ias (pc := 58) rw_102_58 hG rfl (n := 40) rfl (A := s.toInt) rfl (by omega) (by omega) (fun M78 W77 => ?_)
          have hG79 := g_w hG W77 (A := v75.toInt) rfl (lo := 0) (hi := 5) rfl rfl (by omega) (by decide)
          have F80 := FR.w F0 W77 (show 30 = 1 ∧ 6 ≤ (s.toInt).toNat ∧ (s.toInt).toNat ≤ 11 ∨ 30 = 30 by omega)
          refine to_an (pc := 59) rw_102_59 rfl ?_
          refine s_v (pc := 60) rw_102_60 (dp0 hd (by decide)) (ls0 := [.ref 1]) rfl (Nat.le_of_ble_eq_true rfl) (Nat.le_of_ble_eq_true rfl) rfl (to_rc rfl rfl rfl (g_o hG79 rfl)) rfl ?_
          have j_81 := (CS_f (fun a i z => W_n W77 (tg_154 a i _ z) rfl) q3)
          have c_82 : M78.2.1 1 9 = (M.2.1 1 9) := (W_n W77 (fun z => absurd z.1 (by decide)) rfl)
          have t_83 : (M78.2.1 1 9).toInt = (M.2.1 1 9).toInt := congrArg Int32.toInt c_82
          refine E_83 hX (dp1 hd (by decide)) hG79 j_81 (by omega) (t := t) (nn := nn) (a := a) (fun M88 hG85 F84 p_86 p_87 => ?_)
          have F89 := FR.c F80 F84 tg_151
          refine to_c (pc := 63) rw_102_63 (x := (1 : Int32)) rfl rfl ?_
          refine s_r1 (pc := 64) rw_102_64 (A := 1) rfl (by decide) ?_
          have k_90 : (1 : Int32).toInt = 1 := rfl
          have z_91 := x_pk_y (t := t) (nn := nn) (a := a) (l := v26.toInt) (by omega) (by omega) (by omega) (by omega)
          have t_92 : (M78.2.1 30 (s.toInt).toNat).toInt = v75.toInt := congrArg Int32.toInt (W_e W77)
          have t_93 : (M88.2.1 30 (s.toInt).toNat).toInt = (M78.2.1 30 (s.toInt).toNat).toInt := congrArg Int32.toInt (F_n F84 (show ¬ (30 = 1 ∧ 6 ≤ ((s.toInt).toNat) ∧ ((s.toInt).toNat) ≤ 9) by omega) rfl)
          have c_94 : M88.2.1 1 10 = (M.2.1 1 10) := (F_n F84 (show ¬ (1 = 1 ∧ 6 ≤ 10 ∧ 10 ≤ 9) by decide) (W_n W77 (fun z => absurd z.1 (by decide)) rfl))
          have t_95 : (M88.2.1 1 10).toInt = (M.2.1 1 10).toInt := congrArg Int32.toInt c_94
          have c_96 : M88.2.1 1 11 = (M.2.1 1 11) := (F_n F84 (show ¬ (1 = 1 ∧ 6 ≤ 11 ∧ 11 ≤ 9) by decide) (W_n W77 (fun z => absurd z.1 (by decide)) rfl))
          have t_97 : (M88.2.1 1 11).toInt = (M.2.1 1 11).toInt := congrArg Int32.toInt c_96
          exact h (1 : Int32) M88 hG85 F89 (by decide) (by decide) p_86 (by omega) (by omega) (by omega) (fun i hi => (F_n F84 (show ¬ (30 = 1 ∧ 6 ≤ i ∧ i ≤ 9) by omega) (W_n W77 (by omega) rfl)))
        · refine to_an (pc := 46) rw_102_46 rfl ?_
          refine to_c (pc := 47) rw_102_47 (x := (1 : Int32)) rfl rfl ?_
          refine s_v (pc := 48) rw_102_48 (dp0 hd (by decide)) (ls0 := [.ref 1, .int (1 : Int32)]) rfl (Nat.le_of_ble_eq_true rfl) (Nat.le_of_ble_eq_true rfl) rfl (to_rc rfl rfl rfl (g_o hG rfl)) rfl ?_
          refine to_an (pc := 0) rw_84_0 rfl ?_
          refine to_in (pc := 1) rw_84_1 rfl ?_
          refine s_pI (pc := 2) rw_84_2 hG rfl (fun M99 W98 => ?_)
          have hG100 := g_wf hG W98 rfl rfl (by decide)
          have F101 := FR.w F0 W98 (show 1 = 1 ∧ 6 ≤ 10 ∧ 10 ≤ 11 ∨ 1 = 30 by decide)
          refine to_an (pc := 5) rw_84_5 rfl ?_
          refine to_an (pc := 6) rw_84_6 rfl ?_
          have c_102 : M99.2.1 1 9 = (M.2.1 1 9) := (W_n W98 (by decide) rfl)
          refine tt_gI (pc := 7) rw_84_7 (g_o hG100 rfl) (v := (M.2.1 1 9)) c_102 ?_
          refine s_pI (pc := 10) rw_84_10 hG100 rfl (fun M104 W103 => ?_)
          have hG105 := g_wf hG100 W103 rfl rfl (by decide)
          have F106 := FR.w F101 W103 (show 1 = 1 ∧ 6 ≤ 11 ∧ 11 ≤ 11 ∨ 1 = 30 by decide)
          refine to_c (pc := 13) rw_84_13 (x := (0 : Int32)) rfl rfl ?_
          refine s_r1 (pc := 14) rw_84_14 (A := 0) rfl (by decide) ?_
          refine s_r1 (pc := 51) rw_102_51 (A := 0) rfl (by decide) ?_
          have k_107 : (0 : Int32).toInt = 0 := rfl
          have z_108 := x_pk_n (t := t) (nn := nn) (a := a) (by omega)
          have j_109 := (CS_f (fun a i z => W_n W103 (tg_32 a i z) rfl) (CS_f (fun a i z => W_n W98 (tg_33 a i z) rfl) q3))
          have c_110 : M104.2.1 1 9 = (M.2.1 1 9) := (W_n W103 (by decide) c_102)
          have t_111 : (M104.2.1 1 9).toInt = (M.2.1 1 9).toInt := congrArg Int32.toInt c_110
          have t_112 : (M104.2.1 30 (s.toInt).toNat).toInt = (M.2.1 30 (s.toInt).toNat).toInt := congrArg Int32.toInt (W_n W103 (by omega) (W_n W98 (by omega) rfl))
          have c_113 : M104.2.1 1 10 = (1 : Int32) := (W_n W103 (by decide) (W_e W98))
          have k_114 : (1 : Int32).toInt = 1 := rfl
          have t_115 : (M104.2.1 1 10).toInt = (1 : Int32).toInt := congrArg Int32.toInt c_113
          have c_116 : M104.2.1 1 11 = (M.2.1 1 9) := (W_e W103)
          have t_117 : (M104.2.1 1 11).toInt = (M.2.1 1 9).toInt := congrArg Int32.toInt c_116
          exact h (0 : Int32) M104 hG105 F106 (by decide) (by decide) j_109 (by omega) (by omega) (by omega) (fun i hi => (W_n W103 (by omega) (W_n W98 (by omega) rfl)))
set_option maxRecDepth 4000 in
set_option maxHeartbeats 0 in
theorem E_102y {X : mm_X} {d : Nat} {M : mm_M} {Q : Option Value → mm_M → Prop} {s : Int32} {t : Nat → Int} {nn : Int} {a : Int} (hX : g_X X) (hd : 1 ≤ d) (hG : g_G M) (q1 : 0 ≤ s.toInt) (q2 : s.toInt ≤ 39) (q3 : CS M t nn) (q4 : (M.2.1 1 9).toInt = a) (h : ∀ (r : Int32) (M1 : mm_M), g_G M1 → FR md_w31 M M1 → (0 ≤ r.toInt) → (r.toInt ≤ 1) → CS M1 t nn → (r.toInt = 1 → 0 ≤ x_kp t nn a ∧ (M1.2.1 1 9).toInt = x_ns t nn a) → (r.toInt = 1 → (M1.2.1 31 (s.toInt).toNat).toInt = x_kp t nn a) → (r.toInt = 0 → x_kp t nn a = -1 ∧ (M1.2.1 1 10).toInt = 1 ∧ (M1.2.1 1 11).toInt = a) → (∀ i : Nat, ¬ i = (s.toInt).toNat → M1.2.1 31 i = M.2.1 31 i) → Q (some (.int r)) M1) : mm_T X d 102 0 [.ref 28, .ref 1, .ref 31, .int s, .null] [] M Q := by
  have F0 : FR md_w31 M M := FR.rf
  have c_1 := CS_u q3 (a := a) (by omega)
  unfold x_C at c_1
  have z_2 := c_1.2
  refine to_an (pc := 0) rw_102_0 rfl ?_
  refine tt_gI (pc := 1) rw_102_1 (g_o hG rfl) (v := (M.2.1 1 7)) rfl ?_
  refine to_c (pc := 4) rw_102_4 (x := (3 : Int32)) rfl rfl ?_
  refine b_cne (pc := 5) rw_102_5 (A := (M.2.1 1 7).toInt) (B := 3) rfl rfl (fun h3 => ?_) (fun h3 => ?_)
  · have z_4 : ¬ x_kind t nn a = 2 := by omega
    clear c_1
    refine to_c (pc := 18) rw_102_18 (x := (0 : Int32)) rfl rfl ?_
    refine to_is (pc := 19) rw_102_19 (ls2 := [.ref 28, .ref 1, .ref 31, .int s, .int (0 : Int32)]) rfl rfl ?_
    refine to_i (pc := 21) rw_102_21 rfl ?_
    refine to_c (pc := 23) rw_102_23 (x := (1 : Int32)) rfl rfl ?_
    refine b_clt_t (pc := 24) rw_102_24 (A := 0) (B := 1) rfl rfl (by decide) ?_
    refine to_an (pc := 46) rw_102_46 rfl ?_
    refine to_c (pc := 47) rw_102_47 (x := (1 : Int32)) rfl rfl ?_
    refine s_v (pc := 48) rw_102_48 (dp0 hd (by decide)) (ls0 := [.ref 1, .int (1 : Int32)]) rfl (Nat.le_of_ble_eq_true rfl) (Nat.le_of_ble_eq_true rfl) rfl (to_rc rfl rfl rfl (g_o hG rfl)) rfl ?_
    refine to_an (pc := 0) rw_84_0 rfl ?_
    refine to_in (pc := 1) rw_84_1 rfl ?_
    refine s_pI (pc := 2) rw_84_2 hG rfl (fun M6 W5 => ?_)
    have hG7 := g_wf hG W5 rfl rfl (by decide)
    have F8 := FR.w F0 W5 (show 1 = 1 ∧ 6 ≤ 10 ∧ 10 ≤ 11 ∨ 1 = 31 by decide)
    refine to_an (pc := 5) rw_84_5 rfl ?_
    refine to_an (pc := 6) rw_84_6 rfl ?_
    have c_9 : M6.2.1 1 9 = (M.2.1 1 9) := (W_n W5 (by decide) rfl)
    refine tt_gI (pc := 7) rw_84_7 (g_o hG7 rfl) (v := (M.2.1 1 9)) c_9 ?_
    refine s_pI (pc := 10) rw_84_10 hG7 rfl (fun M11 W10 => ?_)
    have hG12 := g_wf hG7 W10 rfl rfl (by decide)
    have F13 := FR.w F8 W10 (show 1 = 1 ∧ 6 ≤ 11 ∧ 11 ≤ 11 ∨ 1 = 31 by decide)
    refine to_c (pc := 13) rw_84_13 (x := (0 : Int32)) rfl rfl ?_
    refine s_r1 (pc := 14) rw_84_14 (A := 0) rfl (by decide) ?_
    refine s_r1 (pc := 51) rw_102_51 (A := 0) rfl (by decide) ?_
    have k_14 : (0 : Int32).toInt = 0 := rfl
    have z_15 := x_pk_n (t := t) (nn := nn) (a := a) (by omega)
    have j_16 := (CS_f (fun a i z => W_n W10 (tg_32 a i z) rfl) (CS_f (fun a i z => W_n W5 (tg_33 a i z) rfl) q3))
    have c_17 : M11.2.1 1 9 = (M.2.1 1 9) := (W_n W10 (by decide) c_9)
    have t_18 : (M11.2.1 1 9).toInt = (M.2.1 1 9).toInt := congrArg Int32.toInt c_17
    have t_19 : (M11.2.1 31 (s.toInt).toNat).toInt = (M.2.1 31 (s.toInt).toNat).toInt := congrArg Int32.toInt (W_n W10 (by omega) (W_n W5 (by omega) rfl))
    have c_20 : M11.2.1 1 10 = (1 : Int32) := (W_n W10 (by decide) (W_e W5))
    have k_21 : (1 : Int32).toInt = 1 := rfl
    have t_22 : (M11.2.1 1 10).toInt = (1 : Int32).toInt := congrArg Int32.toInt c_20
    have c_23 : M11.2.1 1 11 = (M.2.1 1 9) := (W_e W10)
    have t_24 : (M11.2.1 1 11).toInt = (M.2.1 1 9).toInt := congrArg Int32.toInt c_23
    exact h (0 : Int32) M11 hG12 F13 (by decide) (by decide) j_16 (by omega) (by omega) (by omega) (fun i hi => (W_n W10 (by omega) (W_n W5 (by omega) rfl)))
  · have z_25 : x_kind t nn a = 2 ∧ x_val t nn a = (M.2.1 1 8).toInt := by omega
    clear c_1
    refine to_an (pc := 8) rw_102_8 rfl ?_
    refine tt_gI (pc := 9) rw_102_9 (g_o hG rfl) (v := (M.2.1 1 8)) rfl ?_
    refine to_c (pc := 12) rw_102_12 (x := (25 : Int32)) rfl rfl ?_
    refine s_opE (pc := 14) rw_102_14 (w := (M.2.1 1 8) >>> (25 : Int32)) rfl (fun v26 e27 => ?_)
    have z_28 := i_shr25 e27
    refine to_go (pc := 15) rw_102_15 ?_
    refine to_is (pc := 19) rw_102_19 (ls2 := [.ref 28, .ref 1, .ref 31, .int s, .int v26]) rfl rfl ?_
    refine to_i (pc := 21) rw_102_21 rfl ?_
    refine to_c (pc := 23) rw_102_23 (x := (1 : Int32)) rfl rfl ?_
    refine b_clt (pc := 24) rw_102_24 (A := v26.toInt) (B := 1) rfl rfl (fun h29 => ?_) (fun h29 => ?_)
    · refine to_an (pc := 46) rw_102_46 rfl ?_
      refine to_c (pc := 47) rw_102_47 (x := (1 : Int32)) rfl rfl ?_
      refine s_v (pc := 48) rw_102_48 (dp0 hd (by decide)) (ls0 := [.ref 1, .int (1 : Int32)]) rfl (Nat.le_of_ble_eq_true rfl) (Nat.le_of_ble_eq_true rfl) rfl (to_rc rfl rfl rfl (g_o hG rfl)) rfl ?_
      refine to_an (pc := 0) rw_84_0 rfl ?_
      refine to_in (pc := 1) rw_84_1 rfl ?_
      refine s_pI (pc := 2) rw_84_2 hG rfl (fun M31 W30 => ?_)
      have hG32 := g_wf hG W30 rfl rfl (by decide)
      have F33 := FR.w F0 W30 (show 1 = 1 ∧ 6 ≤ 10 ∧ 10 ≤ 11 ∨ 1 = 31 by decide)
      refine to_an (pc := 5) rw_84_5 rfl ?_
      refine to_an (pc := 6) rw_84_6 rfl ?_
      have c_34 : M31.2.1 1 9 = (M.2.1 1 9) := (W_n W30 (by decide) rfl)
      refine tt_gI (pc := 7) rw_84_7 (g_o hG32 rfl) (v := (M.2.1 1 9)) c_34 ?_
      refine s_pI (pc := 10) rw_84_10 hG32 rfl (fun M36 W35 => ?_)
      have hG37 := g_wf hG32 W35 rfl rfl (by decide)
      have F38 := FR.w F33 W35 (show 1 = 1 ∧ 6 ≤ 11 ∧ 11 ≤ 11 ∨ 1 = 31 by decide)
      refine to_c (pc := 13) rw_84_13 (x := (0 : Int32)) rfl rfl ?_
      refine s_r1 (pc := 14) rw_84_14 (A := 0) rfl (by decide) ?_
      refine s_r1 (pc := 51) rw_102_51 (A := 0) rfl (by decide) ?_
      have k_39 : (0 : Int32).toInt = 0 := rfl
      have z_40 := x_pk_n (t := t) (nn := nn) (a := a) (by omega)
      have j_41 := (CS_f (fun a i z => W_n W35 (tg_32 a i z) rfl) (CS_f (fun a i z => W_n W30 (tg_33 a i z) rfl) q3))
      have c_42 : M36.2.1 1 9 = (M.2.1 1 9) := (W_n W35 (by decide) c_34)
      have t_43 : (M36.2.1 1 9).toInt = (M.2.1 1 9).toInt := congrArg Int32.toInt c_42
      have t_44 : (M36.2.1 31 (s.toInt).toNat).toInt = (M.2.1 31 (s.toInt).toNat).toInt := congrArg Int32.toInt (W_n W35 (by omega) (W_n W30 (by omega) rfl))
      have c_45 : M36.2.1 1 10 = (1 : Int32) := (W_n W35 (by decide) (W_e W30))
      have k_46 : (1 : Int32).toInt = 1 := rfl
      have t_47 : (M36.2.1 1 10).toInt = (1 : Int32).toInt := congrArg Int32.toInt c_45
      have c_48 : M36.2.1 1 11 = (M.2.1 1 9) := (W_e W35)
      have t_49 : (M36.2.1 1 11).toInt = (M.2.1 1 9).toInt := congrArg Int32.toInt c_48
      exact h (0 : Int32) M36 hG37 F38 (by decide) (by decide) j_41 (by omega) (by omega) (by omega) (fun i hi => (W_n W35 (by omega) (W_n W30 (by omega) rfl)))
    · refine to_i (pc := 27) rw_102_27 rfl ?_
      refine to_c (pc := 29) rw_102_29 (x := (6 : Int32)) rfl rfl ?_
      refine b_cgt (pc := 31) rw_102_31 (A := v26.toInt) (B := 6) rfl rfl (fun h50 => ?_) (fun h50 => ?_)
      · refine to_an (pc := 46) rw_102_46 rfl ?_
        refine to_c (pc := 47) rw_102_47 (x := (1 : Int32)) rfl rfl ?_
        refine s_v (pc := 48) rw_102_48 (dp0 hd (by decide)) (ls0 := [.ref 1, .int (1 : Int32)]) rfl (Nat.le_of_ble_eq_true rfl) (Nat.le_of_ble_eq_true rfl) rfl (to_rc rfl rfl rfl (g_o hG rfl)) rfl ?_
        refine to_an (pc := 0) rw_84_0 rfl ?_
        refine to_in (pc := 1) rw_84_1 rfl ?_
        refine s_pI (pc := 2) rw_84_2 hG rfl (fun M52 W51 => ?_)
        have hG53 := g_wf hG W51 rfl rfl (by decide)
        have F54 := FR.w F0 W51 (show 1 = 1 ∧ 6 ≤ 10 ∧ 10 ≤ 11 ∨ 1 = 31 by decide)
        refine to_an (pc := 5) rw_84_5 rfl ?_
        refine to_an (pc := 6) rw_84_6 rfl ?_
        have c_55 : M52.2.1 1 9 = (M.2.1 1 9) := (W_n W51 (by decide) rfl)
        refine tt_gI (pc := 7) rw_84_7 (g_o hG53 rfl) (v := (M.2.1 1 9)) c_55 ?_
        refine s_pI (pc := 10) rw_84_10 hG53 rfl (fun M57 W56 => ?_)
        have hG58 := g_wf hG53 W56 rfl rfl (by decide)
        have F59 := FR.w F54 W56 (show 1 = 1 ∧ 6 ≤ 11 ∧ 11 ≤ 11 ∨ 1 = 31 by decide)
        refine to_c (pc := 13) rw_84_13 (x := (0 : Int32)) rfl rfl ?_
        refine s_r1 (pc := 14) rw_84_14 (A := 0) rfl (by decide) ?_
        refine s_r1 (pc := 51) rw_102_51 (A := 0) rfl (by decide) ?_
        have k_60 : (0 : Int32).toInt = 0 := rfl
        have z_61 := x_pk_n (t := t) (nn := nn) (a := a) (by omega)
        have j_62 := (CS_f (fun a i z => W_n W56 (tg_32 a i z) rfl) (CS_f (fun a i z => W_n W51 (tg_33 a i z) rfl) q3))
        have c_63 : M57.2.1 1 9 = (M.2.1 1 9) := (W_n W56 (by decide) c_55)
        have t_64 : (M57.2.1 1 9).toInt = (M.2.1 1 9).toInt := congrArg Int32.toInt c_63
        have t_65 : (M57.2.1 31 (s.toInt).toNat).toInt = (M.2.1 31 (s.toInt).toNat).toInt := congrArg Int32.toInt (W_n W56 (by omega) (W_n W51 (by omega) rfl))
        have c_66 : M57.2.1 1 10 = (1 : Int32) := (W_n W56 (by decide) (W_e W51))
        have k_67 : (1 : Int32).toInt = 1 := rfl
        have t_68 : (M57.2.1 1 10).toInt = (1 : Int32).toInt := congrArg Int32.toInt c_66
        have c_69 : M57.2.1 1 11 = (M.2.1 1 9) := (W_e W56)
        have t_70 : (M57.2.1 1 11).toInt = (M.2.1 1 9).toInt := congrArg Int32.toInt c_69
        exact h (0 : Int32) M57 hG58 F59 (by decide) (by decide) j_62 (by omega) (by omega) (by omega) (fun i hi => (W_n W56 (by omega) (W_n W51 (by omega) rfl)))
      · refine to_an (pc := 34) rw_102_34 rfl ?_
        refine tt_gI (pc := 35) rw_102_35 (g_o hG rfl) (v := (M.2.1 1 8)) rfl ?_
        refine to_i (pc := 38) rw_102_38 rfl ?_
        refine to_c (pc := 40) rw_102_40 (x := (25 : Int32)) rfl rfl ?_
        refine s_opE (pc := 42) rw_102_42 (w := v26 <<< (25 : Int32)) rfl (fun v71 e72 => ?_)
        have z_73 := i_shl25 (by omega) (by omega) e72
        refine b_ceq (pc := 43) rw_102_43 (A := (M.2.1 1 8).toInt) (B := v71.toInt) rfl rfl (fun h74 => ?_) (fun h74 => ?_)
        · refine to_an (pc := 52) rw_102_52 rfl ?_
          refine to_in (pc := 53) rw_102_53 rfl ?_
          refine to_i (pc := 54) rw_102_54 rfl ?_
          refine to_c (pc := 56) rw_102_56 (x := (1 : Int32)) rfl rfl ?_
          refine s_sub (pc := 57) rw_102_57 (A := v26.toInt) (B := 1) rfl rfl (by omega) (fun v75 e76 => ?_)
          refine s_ias (pc := 58) rw_102_58 hG rfl (n := 40) rfl (A := s.toInt) rfl (by omega) (by omega) (fun M78 W77 => ?_)
          have hG79 := g_w hG W77 (A := v75.toInt) rfl (lo := 0) (hi := 5) rfl rfl (by omega) (by decide)
          have F80 := FR.w F0 W77 (show 31 = 1 ∧ 6 ≤ (s.toInt).toNat ∧ (s.toInt).toNat ≤ 11 ∨ 31 = 31 by omega)
          refine to_an (pc := 59) rw_102_59 rfl ?_
          refine s_v (pc := 60) rw_102_60 (dp0 hd (by decide)) (ls0 := [.ref 1]) rfl (Nat.le_of_ble_eq_true rfl) (Nat.le_of_ble_eq_true rfl) rfl (to_rc rfl rfl rfl (g_o hG79 rfl)) rfl ?_
          have j_81 := (CS_f (fun a i z => W_n W77 (tg_155 a i _ z) rfl) q3)
          have c_82 : M78.2.1 1 9 = (M.2.1 1 9) := (W_n W77 (fun z => absurd z.1 (by decide)) rfl)
          have t_83 : (M78.2.1 1 9).toInt = (M.2.1 1 9).toInt := congrArg Int32.toInt c_82
          refine E_83 hX (dp1 hd (by decide)) hG79 j_81 (by omega) (t := t) (nn := nn) (a := a) (fun M88 hG85 F84 p_86 p_87 => ?_)
          have F89 := FR.c F80 F84 tg_152
          refine to_c (pc := 63) rw_102_63 (x := (1 : Int32)) rfl rfl ?_
          refine s_r1 (pc := 64) rw_102_64 (A := 1) rfl (by decide) ?_
          have k_90 : (1 : Int32).toInt = 1 := rfl
          have z_91 := x_pk_y (t := t) (nn := nn) (a := a) (l := v26.toInt) (by omega) (by omega) (by omega) (by omega)
          have t_92 : (M78.2.1 31 (s.toInt).toNat).toInt = v75.toInt := congrArg Int32.toInt (W_e W77)
          have t_93 : (M88.2.1 31 (s.toInt).toNat).toInt = (M78.2.1 31 (s.toInt).toNat).toInt := congrArg Int32.toInt (F_n F84 (show ¬ (31 = 1 ∧ 6 ≤ ((s.toInt).toNat) ∧ ((s.toInt).toNat) ≤ 9) by omega) rfl)
          have c_94 : M88.2.1 1 10 = (M.2.1 1 10) := (F_n F84 (show ¬ (1 = 1 ∧ 6 ≤ 10 ∧ 10 ≤ 9) by decide) (W_n W77 (fun z => absurd z.1 (by decide)) rfl))
          have t_95 : (M88.2.1 1 10).toInt = (M.2.1 1 10).toInt := congrArg Int32.toInt c_94
          have c_96 : M88.2.1 1 11 = (M.2.1 1 11) := (F_n F84 (show ¬ (1 = 1 ∧ 6 ≤ 11 ∧ 11 ≤ 9) by decide) (W_n W77 (fun z => absurd z.1 (by decide)) rfl))
          have t_97 : (M88.2.1 1 11).toInt = (M.2.1 1 11).toInt := congrArg Int32.toInt c_96
          exact h (1 : Int32) M88 hG85 F89 (by decide) (by decide) p_86 (by omega) (by omega) (by omega) (fun i hi => (F_n F84 (show ¬ (31 = 1 ∧ 6 ≤ i ∧ i ≤ 9) by omega) (W_n W77 (by omega) rfl)))
        · refine to_an (pc := 46) rw_102_46 rfl ?_
          refine to_c (pc := 47) rw_102_47 (x := (1 : Int32)) rfl rfl ?_
          refine s_v (pc := 48) rw_102_48 (dp0 hd (by decide)) (ls0 := [.ref 1, .int (1 : Int32)]) rfl (Nat.le_of_ble_eq_true rfl) (Nat.le_of_ble_eq_true rfl) rfl (to_rc rfl rfl rfl (g_o hG rfl)) rfl ?_
          refine to_an (pc := 0) rw_84_0 rfl ?_
          refine to_in (pc := 1) rw_84_1 rfl ?_
          refine s_pI (pc := 2) rw_84_2 hG rfl (fun M99 W98 => ?_)
          have hG100 := g_wf hG W98 rfl rfl (by decide)
          have F101 := FR.w F0 W98 (show 1 = 1 ∧ 6 ≤ 10 ∧ 10 ≤ 11 ∨ 1 = 31 by decide)
          refine to_an (pc := 5) rw_84_5 rfl ?_
          refine to_an (pc := 6) rw_84_6 rfl ?_
          have c_102 : M99.2.1 1 9 = (M.2.1 1 9) := (W_n W98 (by decide) rfl)
          refine tt_gI (pc := 7) rw_84_7 (g_o hG100 rfl) (v := (M.2.1 1 9)) c_102 ?_
          refine s_pI (pc := 10) rw_84_10 hG100 rfl (fun M104 W103 => ?_)
          have hG105 := g_wf hG100 W103 rfl rfl (by decide)
          have F106 := FR.w F101 W103 (show 1 = 1 ∧ 6 ≤ 11 ∧ 11 ≤ 11 ∨ 1 = 31 by decide)
          refine to_c (pc := 13) rw_84_13 (x := (0 : Int32)) rfl rfl ?_
          refine s_r1 (pc := 14) rw_84_14 (A := 0) rfl (by decide) ?_
          refine s_r1 (pc := 51) rw_102_51 (A := 0) rfl (by decide) ?_
          have k_107 : (0 : Int32).toInt = 0 := rfl
          have z_108 := x_pk_n (t := t) (nn := nn) (a := a) (by omega)
          have j_109 := (CS_f (fun a i z => W_n W103 (tg_32 a i z) rfl) (CS_f (fun a i z => W_n W98 (tg_33 a i z) rfl) q3))
          have c_110 : M104.2.1 1 9 = (M.2.1 1 9) := (W_n W103 (by decide) c_102)
          have t_111 : (M104.2.1 1 9).toInt = (M.2.1 1 9).toInt := congrArg Int32.toInt c_110
          have t_112 : (M104.2.1 31 (s.toInt).toNat).toInt = (M.2.1 31 (s.toInt).toNat).toInt := congrArg Int32.toInt (W_n W103 (by omega) (W_n W98 (by omega) rfl))
          have c_113 : M104.2.1 1 10 = (1 : Int32) := (W_n W103 (by decide) (W_e W98))
          have k_114 : (1 : Int32).toInt = 1 := rfl
          have t_115 : (M104.2.1 1 10).toInt = (1 : Int32).toInt := congrArg Int32.toInt c_113
          have c_116 : M104.2.1 1 11 = (M.2.1 1 9) := (W_e W103)
          have t_117 : (M104.2.1 1 11).toInt = (M.2.1 1 9).toInt := congrArg Int32.toInt c_116
          exact h (0 : Int32) M104 hG105 F106 (by decide) (by decide) j_109 (by omega) (by omega) (by omega) (fun i hi => (W_n W103 (by omega) (W_n W98 (by omega) rfl)))
set_option maxRecDepth 4000 in
set_option maxHeartbeats 0 in
theorem E_102z {X : mm_X} {d : Nat} {M : mm_M} {Q : Option Value → mm_M → Prop} {s : Int32} {t : Nat → Int} {nn : Int} {a : Int} (hX : g_X X) (hd : 1 ≤ d) (hG : g_G M) (q1 : 0 ≤ s.toInt) (q2 : s.toInt ≤ 39) (q3 : CS M t nn) (q4 : (M.2.1 1 9).toInt = a) (h : ∀ (r : Int32) (M1 : mm_M), g_G M1 → FR md_w32 M M1 → (0 ≤ r.toInt) → (r.toInt ≤ 1) → CS M1 t nn → (r.toInt = 1 → 0 ≤ x_kp t nn a ∧ (M1.2.1 1 9).toInt = x_ns t nn a) → (r.toInt = 1 → (M1.2.1 32 (s.toInt).toNat).toInt = x_kp t nn a) → (r.toInt = 0 → x_kp t nn a = -1 ∧ (M1.2.1 1 10).toInt = 1 ∧ (M1.2.1 1 11).toInt = a) → (∀ i : Nat, ¬ i = (s.toInt).toNat → M1.2.1 32 i = M.2.1 32 i) → Q (some (.int r)) M1) : mm_T X d 102 0 [.ref 28, .ref 1, .ref 32, .int s, .null] [] M Q := by
  have F0 : FR md_w32 M M := FR.rf
  have c_1 := CS_u q3 (a := a) (by omega)
  unfold x_C at c_1
  have z_2 := c_1.2
  refine to_an (pc := 0) rw_102_0 rfl ?_
  refine tt_gI (pc := 1) rw_102_1 (g_o hG rfl) (v := (M.2.1 1 7)) rfl ?_
  refine to_c (pc := 4) rw_102_4 (x := (3 : Int32)) rfl rfl ?_
  refine b_cne (pc := 5) rw_102_5 (A := (M.2.1 1 7).toInt) (B := 3) rfl rfl (fun h3 => ?_) (fun h3 => ?_)
  · have z_4 : ¬ x_kind t nn a = 2 := by omega
    clear c_1
    refine to_c (pc := 18) rw_102_18 (x := (0 : Int32)) rfl rfl ?_
    refine to_is (pc := 19) rw_102_19 (ls2 := [.ref 28, .ref 1, .ref 32, .int s, .int (0 : Int32)]) rfl rfl ?_
    refine to_i (pc := 21) rw_102_21 rfl ?_
    refine to_c (pc := 23) rw_102_23 (x := (1 : Int32)) rfl rfl ?_
    refine b_clt_t (pc := 24) rw_102_24 (A := 0) (B := 1) rfl rfl (by decide) ?_
    refine to_an (pc := 46) rw_102_46 rfl ?_
    refine to_c (pc := 47) rw_102_47 (x := (1 : Int32)) rfl rfl ?_
    refine s_v (pc := 48) rw_102_48 (dp0 hd (by decide)) (ls0 := [.ref 1, .int (1 : Int32)]) rfl (Nat.le_of_ble_eq_true rfl) (Nat.le_of_ble_eq_true rfl) rfl (to_rc rfl rfl rfl (g_o hG rfl)) rfl ?_
    refine to_an (pc := 0) rw_84_0 rfl ?_
    refine to_in (pc := 1) rw_84_1 rfl ?_
    refine s_pI (pc := 2) rw_84_2 hG rfl (fun M6 W5 => ?_)
    have hG7 := g_wf hG W5 rfl rfl (by decide)
    have F8 := FR.w F0 W5 (show 1 = 1 ∧ 6 ≤ 10 ∧ 10 ≤ 11 ∨ 1 = 32 by decide)
    refine to_an (pc := 5) rw_84_5 rfl ?_
    refine to_an (pc := 6) rw_84_6 rfl ?_
    have c_9 : M6.2.1 1 9 = (M.2.1 1 9) := (W_n W5 (by decide) rfl)
    refine tt_gI (pc := 7) rw_84_7 (g_o hG7 rfl) (v := (M.2.1 1 9)) c_9 ?_
    refine s_pI (pc := 10) rw_84_10 hG7 rfl (fun M11 W10 => ?_)
    have hG12 := g_wf hG7 W10 rfl rfl (by decide)
    have F13 := FR.w F8 W10 (show 1 = 1 ∧ 6 ≤ 11 ∧ 11 ≤ 11 ∨ 1 = 32 by decide)
    refine to_c (pc := 13) rw_84_13 (x := (0 : Int32)) rfl rfl ?_
    refine s_r1 (pc := 14) rw_84_14 (A := 0) rfl (by decide) ?_
    refine s_r1 (pc := 51) rw_102_51 (A := 0) rfl (by decide) ?_
    have k_14 : (0 : Int32).toInt = 0 := rfl
    have z_15 := x_pk_n (t := t) (nn := nn) (a := a) (by omega)
    have j_16 := (CS_f (fun a i z => W_n W10 (tg_32 a i z) rfl) (CS_f (fun a i z => W_n W5 (tg_33 a i z) rfl) q3))
    have c_17 : M11.2.1 1 9 = (M.2.1 1 9) := (W_n W10 (by decide) c_9)
    have t_18 : (M11.2.1 1 9).toInt = (M.2.1 1 9).toInt := congrArg Int32.toInt c_17
    have t_19 : (M11.2.1 32 (s.toInt).toNat).toInt = (M.2.1 32 (s.toInt).toNat).toInt := congrArg Int32.toInt (W_n W10 (by omega) (W_n W5 (by omega) rfl))
    have c_20 : M11.2.1 1 10 = (1 : Int32) := (W_n W10 (by decide) (W_e W5))
    have k_21 : (1 : Int32).toInt = 1 := rfl
    have t_22 : (M11.2.1 1 10).toInt = (1 : Int32).toInt := congrArg Int32.toInt c_20
    have c_23 : M11.2.1 1 11 = (M.2.1 1 9) := (W_e W10)
    have t_24 : (M11.2.1 1 11).toInt = (M.2.1 1 9).toInt := congrArg Int32.toInt c_23
    exact h (0 : Int32) M11 hG12 F13 (by decide) (by decide) j_16 (by omega) (by omega) (by omega) (fun i hi => (W_n W10 (by omega) (W_n W5 (by omega) rfl)))
  · have z_25 : x_kind t nn a = 2 ∧ x_val t nn a = (M.2.1 1 8).toInt := by omega
    clear c_1
    refine to_an (pc := 8) rw_102_8 rfl ?_
    refine tt_gI (pc := 9) rw_102_9 (g_o hG rfl) (v := (M.2.1 1 8)) rfl ?_
    refine to_c (pc := 12) rw_102_12 (x := (25 : Int32)) rfl rfl ?_
    refine s_opE (pc := 14) rw_102_14 (w := (M.2.1 1 8) >>> (25 : Int32)) rfl (fun v26 e27 => ?_)
    have z_28 := i_shr25 e27
    refine to_go (pc := 15) rw_102_15 ?_
    refine to_is (pc := 19) rw_102_19 (ls2 := [.ref 28, .ref 1, .ref 32, .int s, .int v26]) rfl rfl ?_
    refine to_i (pc := 21) rw_102_21 rfl ?_
    refine to_c (pc := 23) rw_102_23 (x := (1 : Int32)) rfl rfl ?_
    refine b_clt (pc := 24) rw_102_24 (A := v26.toInt) (B := 1) rfl rfl (fun h29 => ?_) (fun h29 => ?_)
    · refine to_an (pc := 46) rw_102_46 rfl ?_
      refine to_c (pc := 47) rw_102_47 (x := (1 : Int32)) rfl rfl ?_
      refine s_v (pc := 48) rw_102_48 (dp0 hd (by decide)) (ls0 := [.ref 1, .int (1 : Int32)]) rfl (Nat.le_of_ble_eq_true rfl) (Nat.le_of_ble_eq_true rfl) rfl (to_rc rfl rfl rfl (g_o hG rfl)) rfl ?_
      refine to_an (pc := 0) rw_84_0 rfl ?_
      refine to_in (pc := 1) rw_84_1 rfl ?_
      refine s_pI (pc := 2) rw_84_2 hG rfl (fun M31 W30 => ?_)
      have hG32 := g_wf hG W30 rfl rfl (by decide)
      have F33 := FR.w F0 W30 (show 1 = 1 ∧ 6 ≤ 10 ∧ 10 ≤ 11 ∨ 1 = 32 by decide)
      refine to_an (pc := 5) rw_84_5 rfl ?_
      refine to_an (pc := 6) rw_84_6 rfl ?_
      have c_34 : M31.2.1 1 9 = (M.2.1 1 9) := (W_n W30 (by decide) rfl)
      refine tt_gI (pc := 7) rw_84_7 (g_o hG32 rfl) (v := (M.2.1 1 9)) c_34 ?_
      refine s_pI (pc := 10) rw_84_10 hG32 rfl (fun M36 W35 => ?_)
      have hG37 := g_wf hG32 W35 rfl rfl (by decide)
      have F38 := FR.w F33 W35 (show 1 = 1 ∧ 6 ≤ 11 ∧ 11 ≤ 11 ∨ 1 = 32 by decide)
      refine to_c (pc := 13) rw_84_13 (x := (0 : Int32)) rfl rfl ?_
      refine s_r1 (pc := 14) rw_84_14 (A := 0) rfl (by decide) ?_
      refine s_r1 (pc := 51) rw_102_51 (A := 0) rfl (by decide) ?_
      have k_39 : (0 : Int32).toInt = 0 := rfl
      have z_40 := x_pk_n (t := t) (nn := nn) (a := a) (by omega)
      have j_41 := (CS_f (fun a i z => W_n W35 (tg_32 a i z) rfl) (CS_f (fun a i z => W_n W30 (tg_33 a i z) rfl) q3))
      have c_42 : M36.2.1 1 9 = (M.2.1 1 9) := (W_n W35 (by decide) c_34)
      have t_43 : (M36.2.1 1 9).toInt = (M.2.1 1 9).toInt := congrArg Int32.toInt c_42
      have t_44 : (M36.2.1 32 (s.toInt).toNat).toInt = (M.2.1 32 (s.toInt).toNat).toInt := congrArg Int32.toInt (W_n W35 (by omega) (W_n W30 (by omega) rfl))
      have c_45 : M36.2.1 1 10 = (1 : Int32) := (W_n W35 (by decide) (W_e W30))
      have k_46 : (1 : Int32).toInt = 1 := rfl
      have t_47 : (M36.2.1 1 10).toInt = (1 : Int32).toInt := congrArg Int32.toInt c_45
      have c_48 : M36.2.1 1 11 = (M.2.1 1 9) := (W_e W35)
      have t_49 : (M36.2.1 1 11).toInt = (M.2.1 1 9).toInt := congrArg Int32.toInt c_48
      exact h (0 : Int32) M36 hG37 F38 (by decide) (by decide) j_41 (by omega) (by omega) (by omega) (fun i hi => (W_n W35 (by omega) (W_n W30 (by omega) rfl)))
    · refine to_i (pc := 27) rw_102_27 rfl ?_
      refine to_c (pc := 29) rw_102_29 (x := (6 : Int32)) rfl rfl ?_
      refine b_cgt (pc := 31) rw_102_31 (A := v26.toInt) (B := 6) rfl rfl (fun h50 => ?_) (fun h50 => ?_)
      · refine to_an (pc := 46) rw_102_46 rfl ?_
        refine to_c (pc := 47) rw_102_47 (x := (1 : Int32)) rfl rfl ?_
        refine s_v (pc := 48) rw_102_48 (dp0 hd (by decide)) (ls0 := [.ref 1, .int (1 : Int32)]) rfl (Nat.le_of_ble_eq_true rfl) (Nat.le_of_ble_eq_true rfl) rfl (to_rc rfl rfl rfl (g_o hG rfl)) rfl ?_
        refine to_an (pc := 0) rw_84_0 rfl ?_
        refine to_in (pc := 1) rw_84_1 rfl ?_
        refine s_pI (pc := 2) rw_84_2 hG rfl (fun M52 W51 => ?_)
        have hG53 := g_wf hG W51 rfl rfl (by decide)
        have F54 := FR.w F0 W51 (show 1 = 1 ∧ 6 ≤ 10 ∧ 10 ≤ 11 ∨ 1 = 32 by decide)
        refine to_an (pc := 5) rw_84_5 rfl ?_
        refine to_an (pc := 6) rw_84_6 rfl ?_
        have c_55 : M52.2.1 1 9 = (M.2.1 1 9) := (W_n W51 (by decide) rfl)
        refine tt_gI (pc := 7) rw_84_7 (g_o hG53 rfl) (v := (M.2.1 1 9)) c_55 ?_
        refine s_pI (pc := 10) rw_84_10 hG53 rfl (fun M57 W56 => ?_)
        have hG58 := g_wf hG53 W56 rfl rfl (by decide)
        have F59 := FR.w F54 W56 (show 1 = 1 ∧ 6 ≤ 11 ∧ 11 ≤ 11 ∨ 1 = 32 by decide)
        refine to_c (pc := 13) rw_84_13 (x := (0 : Int32)) rfl rfl ?_
        refine s_r1 (pc := 14) rw_84_14 (A := 0) rfl (by decide) ?_
        refine s_r1 (pc := 51) rw_102_51 (A := 0) rfl (by decide) ?_
        have k_60 : (0 : Int32).toInt = 0 := rfl
        have z_61 := x_pk_n (t := t) (nn := nn) (a := a) (by omega)
        have j_62 := (CS_f (fun a i z => W_n W56 (tg_32 a i z) rfl) (CS_f (fun a i z => W_n W51 (tg_33 a i z) rfl) q3))
        have c_63 : M57.2.1 1 9 = (M.2.1 1 9) := (W_n W56 (by decide) c_55)
        have t_64 : (M57.2.1 1 9).toInt = (M.2.1 1 9).toInt := congrArg Int32.toInt c_63
        have t_65 : (M57.2.1 32 (s.toInt).toNat).toInt = (M.2.1 32 (s.toInt).toNat).toInt := congrArg Int32.toInt (W_n W56 (by omega) (W_n W51 (by omega) rfl))
        have c_66 : M57.2.1 1 10 = (1 : Int32) := (W_n W56 (by decide) (W_e W51))
        have k_67 : (1 : Int32).toInt = 1 := rfl
        have t_68 : (M57.2.1 1 10).toInt = (1 : Int32).toInt := congrArg Int32.toInt c_66
        have c_69 : M57.2.1 1 11 = (M.2.1 1 9) := (W_e W56)
        have t_70 : (M57.2.1 1 11).toInt = (M.2.1 1 9).toInt := congrArg Int32.toInt c_69
        exact h (0 : Int32) M57 hG58 F59 (by decide) (by decide) j_62 (by omega) (by omega) (by omega) (fun i hi => (W_n W56 (by omega) (W_n W51 (by omega) rfl)))
      · refine to_an (pc := 34) rw_102_34 rfl ?_
        refine tt_gI (pc := 35) rw_102_35 (g_o hG rfl) (v := (M.2.1 1 8)) rfl ?_
        refine to_i (pc := 38) rw_102_38 rfl ?_
        refine to_c (pc := 40) rw_102_40 (x := (25 : Int32)) rfl rfl ?_
        refine s_opE (pc := 42) rw_102_42 (w := v26 <<< (25 : Int32)) rfl (fun v71 e72 => ?_)
        have z_73 := i_shl25 (by omega) (by omega) e72
        refine b_ceq (pc := 43) rw_102_43 (A := (M.2.1 1 8).toInt) (B := v71.toInt) rfl rfl (fun h74 => ?_) (fun h74 => ?_)
        · refine to_an (pc := 52) rw_102_52 rfl ?_
          refine to_in (pc := 53) rw_102_53 rfl ?_
          refine to_i (pc := 54) rw_102_54 rfl ?_
          refine to_c (pc := 56) rw_102_56 (x := (1 : Int32)) rfl rfl ?_
          refine s_sub (pc := 57) rw_102_57 (A := v26.toInt) (B := 1) rfl rfl (by omega) (fun v75 e76 => ?_)
          refine s_ias (pc := 58) rw_102_58 hG rfl (n := 40) rfl (A := s.toInt) rfl (by omega) (by omega) (fun M78 W77 => ?_)
          have hG79 := g_w hG W77 (A := v75.toInt) rfl (lo := 0) (hi := 5) rfl rfl (by omega) (by decide)
          have F80 := FR.w F0 W77 (show 32 = 1 ∧ 6 ≤ (s.toInt).toNat ∧ (s.toInt).toNat ≤ 11 ∨ 32 = 32 by omega)
          refine to_an (pc := 59) rw_102_59 rfl ?_
          refine s_v (pc := 60) rw_102_60 (dp0 hd (by decide)) (ls0 := [.ref 1]) rfl (Nat.le_of_ble_eq_true rfl) (Nat.le_of_ble_eq_true rfl) rfl (to_rc rfl rfl rfl (g_o hG79 rfl)) rfl ?_
          have j_81 := (CS_f (fun a i z => W_n W77 (tg_156 a i _ z) rfl) q3)
          have c_82 : M78.2.1 1 9 = (M.2.1 1 9) := (W_n W77 (fun z => absurd z.1 (by decide)) rfl)
          have t_83 : (M78.2.1 1 9).toInt = (M.2.1 1 9).toInt := congrArg Int32.toInt c_82
          refine E_83 hX (dp1 hd (by decide)) hG79 j_81 (by omega) (t := t) (nn := nn) (a := a) (fun M88 hG85 F84 p_86 p_87 => ?_)
          have F89 := FR.c F80 F84 tg_153
          refine to_c (pc := 63) rw_102_63 (x := (1 : Int32)) rfl rfl ?_
          refine s_r1 (pc := 64) rw_102_64 (A := 1) rfl (by decide) ?_
          have k_90 : (1 : Int32).toInt = 1 := rfl
          have z_91 := x_pk_y (t := t) (nn := nn) (a := a) (l := v26.toInt) (by omega) (by omega) (by omega) (by omega)
          have t_92 : (M78.2.1 32 (s.toInt).toNat).toInt = v75.toInt := congrArg Int32.toInt (W_e W77)
          have t_93 : (M88.2.1 32 (s.toInt).toNat).toInt = (M78.2.1 32 (s.toInt).toNat).toInt := congrArg Int32.toInt (F_n F84 (show ¬ (32 = 1 ∧ 6 ≤ ((s.toInt).toNat) ∧ ((s.toInt).toNat) ≤ 9) by omega) rfl)
          have c_94 : M88.2.1 1 10 = (M.2.1 1 10) := (F_n F84 (show ¬ (1 = 1 ∧ 6 ≤ 10 ∧ 10 ≤ 9) by decide) (W_n W77 (fun z => absurd z.1 (by decide)) rfl))
          have t_95 : (M88.2.1 1 10).toInt = (M.2.1 1 10).toInt := congrArg Int32.toInt c_94
          have c_96 : M88.2.1 1 11 = (M.2.1 1 11) := (F_n F84 (show ¬ (1 = 1 ∧ 6 ≤ 11 ∧ 11 ≤ 9) by decide) (W_n W77 (fun z => absurd z.1 (by decide)) rfl))
          have t_97 : (M88.2.1 1 11).toInt = (M.2.1 1 11).toInt := congrArg Int32.toInt c_96
          exact h (1 : Int32) M88 hG85 F89 (by decide) (by decide) p_86 (by omega) (by omega) (by omega) (fun i hi => (F_n F84 (show ¬ (32 = 1 ∧ 6 ≤ i ∧ i ≤ 9) by omega) (W_n W77 (by omega) rfl)))
        · refine to_an (pc := 46) rw_102_46 rfl ?_
          refine to_c (pc := 47) rw_102_47 (x := (1 : Int32)) rfl rfl ?_
          refine s_v (pc := 48) rw_102_48 (dp0 hd (by decide)) (ls0 := [.ref 1, .int (1 : Int32)]) rfl (Nat.le_of_ble_eq_true rfl) (Nat.le_of_ble_eq_true rfl) rfl (to_rc rfl rfl rfl (g_o hG rfl)) rfl ?_
          refine to_an (pc := 0) rw_84_0 rfl ?_
          refine to_in (pc := 1) rw_84_1 rfl ?_
          refine s_pI (pc := 2) rw_84_2 hG rfl (fun M99 W98 => ?_)
          have hG100 := g_wf hG W98 rfl rfl (by decide)
          have F101 := FR.w F0 W98 (show 1 = 1 ∧ 6 ≤ 10 ∧ 10 ≤ 11 ∨ 1 = 32 by decide)
          refine to_an (pc := 5) rw_84_5 rfl ?_
          refine to_an (pc := 6) rw_84_6 rfl ?_
          have c_102 : M99.2.1 1 9 = (M.2.1 1 9) := (W_n W98 (by decide) rfl)
          refine tt_gI (pc := 7) rw_84_7 (g_o hG100 rfl) (v := (M.2.1 1 9)) c_102 ?_
          refine s_pI (pc := 10) rw_84_10 hG100 rfl (fun M104 W103 => ?_)
          have hG105 := g_wf hG100 W103 rfl rfl (by decide)
          have F106 := FR.w F101 W103 (show 1 = 1 ∧ 6 ≤ 11 ∧ 11 ≤ 11 ∨ 1 = 32 by decide)
          refine to_c (pc := 13) rw_84_13 (x := (0 : Int32)) rfl rfl ?_
          refine s_r1 (pc := 14) rw_84_14 (A := 0) rfl (by decide) ?_
          refine s_r1 (pc := 51) rw_102_51 (A := 0) rfl (by decide) ?_
          have k_107 : (0 : Int32).toInt = 0 := rfl
          have z_108 := x_pk_n (t := t) (nn := nn) (a := a) (by omega)
          have j_109 := (CS_f (fun a i z => W_n W103 (tg_32 a i z) rfl) (CS_f (fun a i z => W_n W98 (tg_33 a i z) rfl) q3))
          have c_110 : M104.2.1 1 9 = (M.2.1 1 9) := (W_n W103 (by decide) c_102)
          have t_111 : (M104.2.1 1 9).toInt = (M.2.1 1 9).toInt := congrArg Int32.toInt c_110
          have t_112 : (M104.2.1 32 (s.toInt).toNat).toInt = (M.2.1 32 (s.toInt).toNat).toInt := congrArg Int32.toInt (W_n W103 (by omega) (W_n W98 (by omega) rfl))
          have c_113 : M104.2.1 1 10 = (1 : Int32) := (W_n W103 (by decide) (W_e W98))
          have k_114 : (1 : Int32).toInt = 1 := rfl
          have t_115 : (M104.2.1 1 10).toInt = (1 : Int32).toInt := congrArg Int32.toInt c_113
          have c_116 : M104.2.1 1 11 = (M.2.1 1 9) := (W_e W103)
          have t_117 : (M104.2.1 1 11).toInt = (M.2.1 1 9).toInt := congrArg Int32.toInt c_116
          exact h (0 : Int32) M104 hG105 F106 (by decide) (by decide) j_109 (by omega) (by omega) (by omega) (fun i hi => (W_n W103 (by omega) (W_n W98 (by omega) rfl)))
