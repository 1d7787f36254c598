section
/-! work: what was wanting -/
theorem x_fn_b6 {s : x_S} {v : Int} (h : x_G s) : -1 ≤ x_fn s 6 v ∧ x_fn s 6 v < 12 ∧ (0 ≤ x_fn s 6 v → x_fn s 6 v < s.2.2.1) := by
  have := x_find_b (g := s.2.2.2.2 6) (v := v) (if 6 ≤ 5 then s.2.1 else s.2.2.1).toNat 0
  rw [if_neg (by decide)] at this
  have h2 := h.2.2.2.2.1
  have h3 := h.2.2.2.2.2.1
  unfold x_fn
  rw [if_neg (by decide)]
  omega
theorem WQ_o {t : Nat → Int} {nn : Int} {s : x_S} {E : x_WR} {M : mm_M} {A : x_A} {n o o2 : Int} {op : List Int} (h : o2 = o) (H : WQ t nn s E M A n op o) : WQ t nn s E M A n op o2 := by rw [h]; exact H

end
section
theorem tg_109 : ∀ a i : Nat, (a < 0) → (a = 1 ∧ 6 ≤ i ∧ i ≤ 11) := fun a i z => by omega
theorem tg_110 : ∀ a i : Nat, (a = 1 ∧ 6 ≤ i ∧ i ≤ 9) → (a = 1 ∧ 6 ≤ i ∧ i ≤ 11 ∨ a = 30) := fun a i z => by omega
theorem tg_111 : ∀ a i : Nat, (a = 1 ∧ 6 ≤ i ∧ i ≤ 9) → (a = 1 ∧ 6 ≤ i ∧ i ≤ 11 ∨ a = 31) := fun a i z => by omega
theorem tg_112 : ∀ a i : Nat, (a = 1 ∧ 6 ≤ i ∧ i ≤ 9) → (a = 1 ∧ 6 ≤ i ∧ i ≤ 11 ∨ a = 32) := fun a i z => by omega
theorem tg_113 : ∀ a i j : Nat, (a = 1 ∧ 5 ≤ i ∧ i ≤ 9 ∨ 3 ≤ a ∧ a ≤ 5) → ¬ (a = 30 ∧ i = j) := fun a i j z => by omega
theorem tg_114 : ∀ a i j : Nat, (a = 1 ∧ 5 ≤ i ∧ i ≤ 9 ∨ 3 ≤ a ∧ a ≤ 5) → ¬ (a = 31 ∧ i = j) := fun a i j z => by omega
theorem tg_115 : ∀ a i j : Nat, (a = 1 ∧ 5 ≤ i ∧ i ≤ 9 ∨ 3 ≤ a ∧ a ≤ 5) → ¬ (a = 32 ∧ i = j) := fun a i j z => by omega
set_option maxRecDepth 4000 in
set_option maxHeartbeats 0 in
theorem E_88f {X : mm_X} {d : Nat} {M : mm_M} {Q : Option Value → mm_M → Prop} {l : Int32} {m : Int32} {t : Nat → Int} {nn : Int} {a : Int} (hX : g_X X) (hd : 1 ≤ d) (hG : g_G M) (q1 : CS M t nn) (q2 : (M.2.1 1 9).toInt = a) (h : ∀ (r : Int32) (M1 : mm_M), g_G M1 → FR md_fl M M1 → (0 ≤ r.toInt) → (r.toInt ≤ 1) → (r.toInt = 1 → x_kind t nn a = 3 ∧ x_val t nn a = (M.2.1 1 8).toInt ∧ l.toInt ≤ x_val t nn a ∧ x_val t nn a ≤ m.toInt) → (r.toInt = 0 → ¬ (x_kind t nn a = 3 ∧ l.toInt ≤ x_val t nn a ∧ x_val t nn a ≤ m.toInt)) → (r.toInt = 0 → (M1.2.1 1 11).toInt = a) → (r.toInt = 0 ∧ x_kind t nn a = 3 → (M1.2.1 1 10).toInt = 2) → (r.toInt = 0 ∧ ¬ x_kind t nn a = 3 → (M1.2.1 1 10).toInt = 1) → Q (some (.int r)) M1) : mm_T X d 88 0 [.ref 1, .int l, .int m] [] M Q := by
  have F0 : FR md_fl M M := FR.rf
  have c_1 := CS_u q1 (a := a) (by omega)
  unfold x_C at c_1
  refine to_an (pc := 0) rw_88_0 rfl ?_
  refine tt_gI (pc := 1) rw_88_1 (g_o hG rfl) (v := (M.2.1 1 7)) rfl ?_
  refine to_c (pc := 4) rw_88_4 (x := (2 : Int32)) rfl rfl ?_
  refine b_ceq (pc := 5) rw_88_5 (A := (M.2.1 1 7).toInt) (B := 2) rfl rfl (fun h2 => ?_) (fun h2 => ?_)
  · refine to_an (pc := 14) rw_88_14 rfl ?_
    refine tt_gI (pc := 15) rw_88_15 (g_o hG rfl) (v := (M.2.1 1 8)) rfl ?_
    refine to_in (pc := 18) rw_88_18 rfl ?_
    refine b_clt (pc := 19) rw_88_19 (A := (M.2.1 1 8).toInt) (B := l.toInt) rfl rfl (fun h3 => ?_) (fun h3 => ?_)
    · refine to_an (pc := 30) rw_88_30 rfl ?_
      refine to_c (pc := 31) rw_88_31 (x := (2 : Int32)) rfl rfl ?_
      refine s_v (pc := 32) rw_88_32 (dp0 hd (by decide)) (ls0 := [.ref 1, .int (2 : Int32)]) rfl (Nat.le_of_ble_eq_true rfl) (Nat.le_of_ble_eq_true rfl) rfl (to_rc rfl rfl rfl (g_o hG rfl)) rfl ?_
      refine to_an (pc := 0) rw_84_0 rfl ?_
      refine to_in (pc := 1) rw_84_1 rfl ?_
      refine s_pI (pc := 2) rw_84_2 hG rfl (fun M5 W4 => ?_)
      have hG6 := g_wf hG W4 rfl rfl (by decide)
      have F7 := FR.w F0 W4 (show 1 = 1 ∧ (10 = 10 ∨ 10 = 11) by decide)
      refine to_an (pc := 5) rw_84_5 rfl ?_
      refine to_an (pc := 6) rw_84_6 rfl ?_
      have c_8 : M5.2.1 1 9 = (M.2.1 1 9) := (W_n W4 (by decide) rfl)
      refine tt_gI (pc := 7) rw_84_7 (g_o hG6 rfl) (v := (M.2.1 1 9)) c_8 ?_
      refine s_pI (pc := 10) rw_84_10 hG6 rfl (fun M10 W9 => ?_)
      have hG11 := g_wf hG6 W9 rfl rfl (by decide)
      have F12 := FR.w F7 W9 (show 1 = 1 ∧ (11 = 10 ∨ 11 = 11) by decide)
      refine to_c (pc := 13) rw_84_13 (x := (0 : Int32)) rfl rfl ?_
      refine s_r1 (pc := 14) rw_84_14 (A := 0) rfl (by decide) ?_
      refine b_ieq_t (pc := 35) rw_88_35 (A := 0) rfl (by decide) ?_
      refine to_c (pc := 42) rw_88_42 (x := (0 : Int32)) rfl rfl ?_
      refine s_r1 (pc := 43) rw_88_43 (A := 0) rfl (by decide) ?_
      have k_13 : (0 : Int32).toInt = 0 := rfl
      have c_14 : M10.2.1 1 11 = (M.2.1 1 9) := (W_e W9)
      have t_15 : (M10.2.1 1 11).toInt = (M.2.1 1 9).toInt := congrArg Int32.toInt c_14
      have c_16 : M10.2.1 1 10 = (2 : Int32) := (W_n W9 (by decide) (W_e W4))
      have k_17 : (2 : Int32).toInt = 2 := rfl
      have t_18 : (M10.2.1 1 10).toInt = (2 : Int32).toInt := congrArg Int32.toInt c_16
      exact h (0 : Int32) M10 hG11 F12 (by decide) (by decide) (by omega) (by omega) (by omega) (by omega) (by omega)
    · refine to_an (pc := 22) rw_88_22 rfl ?_
      refine tt_gI (pc := 23) rw_88_23 (g_o hG rfl) (v := (M.2.1 1 8)) rfl ?_
      refine to_in (pc := 26) rw_88_26 rfl ?_
      refine b_cle (pc := 27) rw_88_27 (A := (M.2.1 1 8).toInt) (B := m.toInt) rfl rfl (fun h19 => ?_) (fun h19 => ?_)
      · refine to_c (pc := 38) rw_88_38 (x := (1 : Int32)) rfl rfl ?_
        refine to_go (pc := 39) rw_88_39 ?_
        refine s_r1 (pc := 43) rw_88_43 (A := 1) rfl (by decide) ?_
        have k_20 : (1 : Int32).toInt = 1 := rfl
        exact h (1 : Int32) M hG F0 (by decide) (by decide) (by omega) (by omega) (by omega) (by omega) (by omega)
      · refine to_an (pc := 30) rw_88_30 rfl ?_
        refine to_c (pc := 31) rw_88_31 (x := (2 : Int32)) rfl rfl ?_
        refine s_v (pc := 32) rw_88_32 (dp0 hd (by decide)) (ls0 := [.ref 1, .int (2 : Int32)]) rfl (Nat.le_of_ble_eq_true rfl) (Nat.le_of_ble_eq_true rfl) rfl (to_rc rfl rfl rfl (g_o hG rfl)) rfl ?_
        refine to_an (pc := 0) rw_84_0 rfl ?_
        refine to_in (pc := 1) rw_84_1 rfl ?_
        refine s_pI (pc := 2) rw_84_2 hG rfl (fun M22 W21 => ?_)
        have hG23 := g_wf hG W21 rfl rfl (by decide)
        have F24 := FR.w F0 W21 (show 1 = 1 ∧ (10 = 10 ∨ 10 = 11) by decide)
        refine to_an (pc := 5) rw_84_5 rfl ?_
        refine to_an (pc := 6) rw_84_6 rfl ?_
        have c_25 : M22.2.1 1 9 = (M.2.1 1 9) := (W_n W21 (by decide) rfl)
        refine tt_gI (pc := 7) rw_84_7 (g_o hG23 rfl) (v := (M.2.1 1 9)) c_25 ?_
        refine s_pI (pc := 10) rw_84_10 hG23 rfl (fun M27 W26 => ?_)
        have hG28 := g_wf hG23 W26 rfl rfl (by decide)
        have F29 := FR.w F24 W26 (show 1 = 1 ∧ (11 = 10 ∨ 11 = 11) by decide)
        refine to_c (pc := 13) rw_84_13 (x := (0 : Int32)) rfl rfl ?_
        refine s_r1 (pc := 14) rw_84_14 (A := 0) rfl (by decide) ?_
        refine b_ieq_t (pc := 35) rw_88_35 (A := 0) rfl (by decide) ?_
        refine to_c (pc := 42) rw_88_42 (x := (0 : Int32)) rfl rfl ?_
        refine s_r1 (pc := 43) rw_88_43 (A := 0) rfl (by decide) ?_
        have k_30 : (0 : Int32).toInt = 0 := rfl
        have c_31 : M27.2.1 1 11 = (M.2.1 1 9) := (W_e W26)
        have t_32 : (M27.2.1 1 11).toInt = (M.2.1 1 9).toInt := congrArg Int32.toInt c_31
        have c_33 : M27.2.1 1 10 = (2 : Int32) := (W_n W26 (by decide) (W_e W21))
        have k_34 : (2 : Int32).toInt = 2 := rfl
        have t_35 : (M27.2.1 1 10).toInt = (2 : Int32).toInt := congrArg Int32.toInt c_33
        exact h (0 : Int32) M27 hG28 F29 (by decide) (by decide) (by omega) (by omega) (by omega) (by omega) (by omega)
  · refine to_an (pc := 8) rw_88_8 rfl ?_
    refine to_c (pc := 9) rw_88_9 (x := (1 : Int32)) rfl rfl ?_
    refine s_v (pc := 10) rw_88_10 (dp0 hd (by decide)) (ls0 := [.ref 1, .int (1 : Int32)]) rfl (Nat.le_of_ble_eq_true rfl) (Nat.le_of_ble_eq_true rfl) rfl (to_rc rfl rfl rfl (g_o hG rfl)) rfl ?_
    refine to_an (pc := 0) rw_84_0 rfl ?_
    refine to_in (pc := 1) rw_84_1 rfl ?_
    refine s_pI (pc := 2) rw_84_2 hG rfl (fun M37 W36 => ?_)
    have hG38 := g_wf hG W36 rfl rfl (by decide)
    have F39 := FR.w F0 W36 (show 1 = 1 ∧ (10 = 10 ∨ 10 = 11) by decide)
    refine to_an (pc := 5) rw_84_5 rfl ?_
    refine to_an (pc := 6) rw_84_6 rfl ?_
    have c_40 : M37.2.1 1 9 = (M.2.1 1 9) := (W_n W36 (by decide) rfl)
    refine tt_gI (pc := 7) rw_84_7 (g_o hG38 rfl) (v := (M.2.1 1 9)) c_40 ?_
    refine s_pI (pc := 10) rw_84_10 hG38 rfl (fun M42 W41 => ?_)
    have hG43 := g_wf hG38 W41 rfl rfl (by decide)
    have F44 := FR.w F39 W41 (show 1 = 1 ∧ (11 = 10 ∨ 11 = 11) by decide)
    refine to_c (pc := 13) rw_84_13 (x := (0 : Int32)) rfl rfl ?_
    refine s_r1 (pc := 14) rw_84_14 (A := 0) rfl (by decide) ?_
    refine s_r1 (pc := 13) rw_88_13 (A := 0) rfl (by decide) ?_
    have k_45 : (0 : Int32).toInt = 0 := rfl
    have c_46 : M42.2.1 1 11 = (M.2.1 1 9) := (W_e W41)
    have t_47 : (M42.2.1 1 11).toInt = (M.2.1 1 9).toInt := congrArg Int32.toInt c_46
    have c_48 : M42.2.1 1 10 = (1 : Int32) := (W_n W41 (by decide) (W_e W36))
    have k_49 : (1 : Int32).toInt = 1 := rfl
    have t_50 : (M42.2.1 1 10).toInt = (1 : Int32).toInt := congrArg Int32.toInt c_48
    exact h (0 : Int32) M42 hG43 F44 (by decide) (by decide) (by omega) (by omega) (by omega) (by omega) (by omega)
set_option maxRecDepth 4000 in
set_option maxHeartbeats 0 in
theorem E_90s {X : mm_X} {d : Nat} {M : mm_M} {Q : Option Value → mm_M → Prop} {c : Int32} {t : Nat → Int} {nn : Int} {a : Int} (hX : g_X X) (hd : 1 ≤ d) (hG : g_G M) (q1 : CS M t nn) (q2 : (M.2.1 1 9).toInt = a) (q3 : c.toInt = 40 ∨ c.toInt = 41 ∨ c.toInt = 61 ∨ c.toInt = 59) (h : ∀ (r : Int32) (M1 : mm_M), g_G M1 → FR md_p90 M M1 → (0 ≤ r.toInt) → (r.toInt ≤ 1) → CS M1 t nn → (r.toInt = 1 → (x_kind t nn a = 4 ∧ x_val t nn a = c.toInt) ∧ (M1.2.1 1 9).toInt = x_ns t nn a) → (r.toInt = 0 → ¬ (x_kind t nn a = 4 ∧ x_val t nn a = c.toInt)) → (r.toInt = 0 → (M1.2.1 1 10).toInt = 1 ∧ (M1.2.1 1 11).toInt = a) → Q (some (.int r)) M1) : mm_T X d 90 0 [.ref 1, .int c] [] M Q := by
  have F0 : FR md_p90 M M := FR.rf
  have c_1 := CS_u q1 (a := a) (by omega)
  unfold x_C at c_1
  refine to_an (pc := 0) rw_90_0 rfl ?_
  refine tt_gI (pc := 1) rw_90_1 (g_o hG rfl) (v := (M.2.1 1 7)) rfl ?_
  refine to_in (pc := 4) rw_90_4 rfl ?_
  refine b_ceq (pc := 5) rw_90_5 (A := (M.2.1 1 7).toInt) (B := c.toInt) rfl rfl (fun h2 => ?_) (fun h2 => ?_)
  · refine to_an (pc := 14) rw_90_14 rfl ?_
    refine s_v (pc := 15) rw_90_15 (dp0 hd (by decide)) (ls0 := [.ref 1]) rfl (Nat.le_of_ble_eq_true rfl) (Nat.le_of_ble_eq_true rfl) rfl (to_rc rfl rfl rfl (g_o hG rfl)) rfl ?_
    refine E_83 hX (dp1 hd (by decide)) hG q1 (by omega) (t := t) (nn := nn) (a := a) (fun M7 hG4 F3 p_5 p_6 => ?_)
    have F8 := FR.c F0 F3 tg_31
    refine to_c (pc := 18) rw_90_18 (x := (1 : Int32)) rfl rfl ?_
    refine s_r1 (pc := 19) rw_90_19 (A := 1) rfl (by decide) ?_
    have k_9 : (1 : Int32).toInt = 1 := rfl
    have c_10 : M7.2.1 1 10 = (M.2.1 1 10) := (F_n F3 (show ¬ (1 = 1 ∧ 6 ≤ 10 ∧ 10 ≤ 9) by decide) rfl)
    have t_11 : (M7.2.1 1 10).toInt = (M.2.1 1 10).toInt := congrArg Int32.toInt c_10
    have c_12 : M7.2.1 1 11 = (M.2.1 1 11) := (F_n F3 (show ¬ (1 = 1 ∧ 6 ≤ 11 ∧ 11 ≤ 9) by decide) rfl)
    have t_13 : (M7.2.1 1 11).toInt = (M.2.1 1 11).toInt := congrArg Int32.toInt c_12
    exact h (1 : Int32) M7 hG4 F8 (by decide) (by decide) p_5 (by omega) (by omega) (by omega)
  · refine to_an (pc := 8) rw_90_8 rfl ?_
    refine to_c (pc := 9) rw_90_9 (x := (1 : Int32)) rfl rfl ?_
    refine s_v (pc := 10) rw_90_10 (dp0 hd (by decide)) (ls0 := [.ref 1, .int (1 : Int32)]) rfl (Nat.le_of_ble_eq_true rfl) (Nat.le_of_ble_eq_true rfl) rfl (to_rc rfl rfl rfl (g_o hG rfl)) rfl ?_
    refine to_an (pc := 0) rw_84_0 rfl ?_
    refine to_in (pc := 1) rw_84_1 rfl ?_
    refine s_pI (pc := 2) rw_84_2 hG rfl (fun M15 W14 => ?_)
    have hG16 := g_wf hG W14 rfl rfl (by decide)
    have F17 := FR.w F0 W14 (show 1 = 1 ∧ 6 ≤ 10 ∧ 10 ≤ 11 by decide)
    refine to_an (pc := 5) rw_84_5 rfl ?_
    refine to_an (pc := 6) rw_84_6 rfl ?_
    have c_18 : M15.2.1 1 9 = (M.2.1 1 9) := (W_n W14 (by decide) rfl)
    refine tt_gI (pc := 7) rw_84_7 (g_o hG16 rfl) (v := (M.2.1 1 9)) c_18 ?_
    refine s_pI (pc := 10) rw_84_10 hG16 rfl (fun M20 W19 => ?_)
    have hG21 := g_wf hG16 W19 rfl rfl (by decide)
    have F22 := FR.w F17 W19 (show 1 = 1 ∧ 6 ≤ 11 ∧ 11 ≤ 11 by decide)
    refine to_c (pc := 13) rw_84_13 (x := (0 : Int32)) rfl rfl ?_
    refine s_r1 (pc := 14) rw_84_14 (A := 0) rfl (by decide) ?_
    refine s_r1 (pc := 13) rw_90_13 (A := 0) rfl (by decide) ?_
    have k_23 : (0 : Int32).toInt = 0 := rfl
    have j_24 := (CS_f (fun a i z => W_n W19 (tg_32 a i z) rfl) (CS_f (fun a i z => W_n W14 (tg_33 a i z) rfl) q1))
    have c_25 : M20.2.1 1 9 = (M.2.1 1 9) := (W_n W19 (by decide) c_18)
    have t_26 : (M20.2.1 1 9).toInt = (M.2.1 1 9).toInt := congrArg Int32.toInt c_25
    have c_27 : M20.2.1 1 10 = (1 : Int32) := (W_n W19 (by decide) (W_e W14))
    have k_28 : (1 : Int32).toInt = 1 := rfl
    have t_29 : (M20.2.1 1 10).toInt = (1 : Int32).toInt := congrArg Int32.toInt c_27
    have c_30 : M20.2.1 1 11 = (M.2.1 1 9) := (W_e W19)
    have t_31 : (M20.2.1 1 11).toInt = (M.2.1 1 9).toInt := congrArg Int32.toInt c_30
    exact h (0 : Int32) M20 hG21 F22 (by decide) (by decide) j_24 (by omega) (by omega) (by omega)
set_option maxRecDepth 4000 in
set_option maxHeartbeats 0 in
theorem E_89 {X : mm_X} {d : Nat} {M : mm_M} {Q : Option Value → mm_M → Prop} {c : Int32} {t : Nat → Int} {nn : Int} {a : Int} (hX : g_X X) (hd : 1 ≤ d) (hG : g_G M) (q1 : CS M t nn) (q2 : (M.2.1 1 9).toInt = a) (q3 : c.toInt = 686817280 ∨ c.toInt = 93323264) (h : ∀ (r : Int32) (M1 : mm_M), g_G M1 → FR md_p90 M M1 → (0 ≤ r.toInt) → (r.toInt ≤ 1) → CS M1 t nn → (r.toInt = 1 → (x_kind t nn a = 1 ∧ x_val t nn a = c.toInt) ∧ (M1.2.1 1 9).toInt = x_ns t nn a) → (r.toInt = 0 → ¬ (x_kind t nn a = 1 ∧ x_val t nn a = c.toInt)) → (r.toInt = 0 → (M1.2.1 1 10).toInt = 1 ∧ (M1.2.1 1 11).toInt = a) → Q (some (.int r)) M1) : mm_T X d 89 0 [.ref 1, .int c] [] M Q := by
  have F0 : FR md_p90 M M := FR.rf
  have c_1 := CS_u q1 (a := a) (by omega)
  unfold x_C at c_1
  refine to_an (pc := 0) rw_89_0 rfl ?_
  refine to_in (pc := 1) rw_89_1 rfl ?_
  refine s_v (pc := 2) rw_89_2 (dp0 hd (by decide)) (ls0 := [.ref 1, .int c]) rfl (Nat.le_of_ble_eq_true rfl) (Nat.le_of_ble_eq_true rfl) rfl (to_rc rfl rfl rfl (g_o hG rfl)) rfl ?_
  refine E_86 hX (dp1 hd (by decide)) hG q1 (by omega) (x := c) (t := t) (nn := nn) (a := a) (fun r2 M9 hG4 F3 p_5 p_6 p_7 p_8 => ?_)
  have F10 := FR.c F0 F3 tg_109
  rcases (show r2.toInt = 0 ∨ r2.toInt = 1 by omega) with h11 | h11
  · skip
    have p_12 := p_8 (by omega)
    clear p_7 p_8
    refine b_ine_f (pc := 5) rw_89_5 (A := r2.toInt) rfl (by omega) ?_
    refine to_an (pc := 8) rw_89_8 rfl ?_
    refine to_c (pc := 9) rw_89_9 (x := (1 : Int32)) rfl rfl ?_
    refine s_v (pc := 10) rw_89_10 (dp0 hd (by decide)) (ls0 := [.ref 1, .int (1 : Int32)]) rfl (Nat.le_of_ble_eq_true rfl) (Nat.le_of_ble_eq_true rfl) rfl (to_rc rfl rfl rfl (g_o hG4 rfl)) rfl ?_
    refine to_an (pc := 0) rw_84_0 rfl ?_
    refine to_in (pc := 1) rw_84_1 rfl ?_
    refine s_pI (pc := 2) rw_84_2 hG4 rfl (fun M14 W13 => ?_)
    have hG15 := g_wf hG4 W13 rfl rfl (by decide)
    have F16 := FR.w F10 W13 (show 1 = 1 ∧ 6 ≤ 10 ∧ 10 ≤ 11 by decide)
    refine to_an (pc := 5) rw_84_5 rfl ?_
    refine to_an (pc := 6) rw_84_6 rfl ?_
    have c_17 : M14.2.1 1 9 = (M.2.1 1 9) := (W_n W13 (by decide) (F_n F3 (show ¬ (1 < 0) by decide) rfl))
    refine tt_gI (pc := 7) rw_84_7 (g_o hG15 rfl) (v := (M.2.1 1 9)) c_17 ?_
    refine s_pI (pc := 10) rw_84_10 hG15 rfl (fun M19 W18 => ?_)
    have hG20 := g_wf hG15 W18 rfl rfl (by decide)
    have F21 := FR.w F16 W18 (show 1 = 1 ∧ 6 ≤ 11 ∧ 11 ≤ 11 by decide)
    refine to_c (pc := 13) rw_84_13 (x := (0 : Int32)) rfl rfl ?_
    refine s_r1 (pc := 14) rw_84_14 (A := 0) rfl (by decide) ?_
    refine s_r1 (pc := 13) rw_89_13 (A := 0) rfl (by decide) ?_
    have k_22 : (0 : Int32).toInt = 0 := rfl
    have j_23 := (CS_f (fun a i z => W_n W18 (tg_32 a i z) rfl) (CS_f (fun a i z => W_n W13 (tg_33 a i z) rfl) (CS_f (tg_28 F3) q1)))
    have c_24 : M19.2.1 1 9 = (M.2.1 1 9) := (W_n W18 (by decide) c_17)
    have t_25 : (M19.2.1 1 9).toInt = (M.2.1 1 9).toInt := congrArg Int32.toInt c_24
    have c_26 : M19.2.1 1 10 = (1 : Int32) := (W_n W18 (by decide) (W_e W13))
    have k_27 : (1 : Int32).toInt = 1 := rfl
    have t_28 : (M19.2.1 1 10).toInt = (1 : Int32).toInt := congrArg Int32.toInt c_26
    have c_29 : M19.2.1 1 11 = (M.2.1 1 9) := (W_e W18)
    have t_30 : (M19.2.1 1 11).toInt = (M.2.1 1 9).toInt := congrArg Int32.toInt c_29
    exact h (0 : Int32) M19 hG20 F21 (by decide) (by decide) j_23 (by omega) (by omega) (by omega)
  · skip
    have p_31 := p_7 (by omega)
    clear p_7 p_8
    refine b_ine_t (pc := 5) rw_89_5 (A := r2.toInt) rfl (by omega) ?_
    refine to_an (pc := 14) rw_89_14 rfl ?_
    refine s_v (pc := 15) rw_89_15 (dp0 hd (by decide)) (ls0 := [.ref 1]) rfl (Nat.le_of_ble_eq_true rfl) (Nat.le_of_ble_eq_true rfl) rfl (to_rc rfl rfl rfl (g_o hG4 rfl)) rfl ?_
    have j_32 := (CS_f (tg_28 F3) q1)
    have c_33 : M9.2.1 1 9 = (M.2.1 1 9) := (F_n F3 (show ¬ (1 < 0) by decide) rfl)
    have t_34 : (M9.2.1 1 9).toInt = (M.2.1 1 9).toInt := congrArg Int32.toInt c_33
    refine E_83 hX (dp1 hd (by decide)) hG4 j_32 (by omega) (t := t) (nn := nn) (a := a) (fun M39 hG36 F35 p_37 p_38 => ?_)
    have F40 := FR.c F10 F35 tg_31
    refine to_c (pc := 18) rw_89_18 (x := (1 : Int32)) rfl rfl ?_
    refine s_r1 (pc := 19) rw_89_19 (A := 1) rfl (by decide) ?_
    have k_41 : (1 : Int32).toInt = 1 := rfl
    have c_42 : M39.2.1 1 10 = (M.2.1 1 10) := (F_n F35 (show ¬ (1 = 1 ∧ 6 ≤ 10 ∧ 10 ≤ 9) by decide) (F_n F3 (show ¬ (1 < 0) by decide) rfl))
    have t_43 : (M39.2.1 1 10).toInt = (M.2.1 1 10).toInt := congrArg Int32.toInt c_42
    have c_44 : M39.2.1 1 11 = (M.2.1 1 11) := (F_n F35 (show ¬ (1 = 1 ∧ 6 ≤ 11 ∧ 11 ≤ 9) by decide) (F_n F3 (show ¬ (1 < 0) by decide) rfl))
    have t_45 : (M39.2.1 1 11).toInt = (M.2.1 1 11).toInt := congrArg Int32.toInt c_44
    exact h (1 : Int32) M39 hG36 F40 (by decide) (by decide) p_37 (by omega) (by omega) (by omega)
set_option maxRecDepth 4000 in
set_option maxHeartbeats 0 in
theorem E_102x {X : mm_X} {d : Nat} {M : mm_M} {Q : Option Value → mm_M → Prop} {s : Int32} {t : Nat → Int} {nn : Int} {a : Int} (hX : g_X X) (hd : 1 ≤ d) (hG : g_G M) (q1 : 0 ≤ s.toInt) (q2 : s.toInt ≤ 39) (q3 : CS M t nn) (q4 : (M.2.1 1 9).toInt = a) (h : ∀ (r : Int32) (M1 : mm_M), g_G M1 → FR md_w30 M M1 → (0 ≤ r.toInt) → (r.toInt ≤ 1) → CS M1 t nn → (r.toInt = 1 → 0 ≤ x_kp t nn a ∧ (M1.2.1 1 9).toInt = x_ns t nn a) → (r.toInt = 1 → (M1.2.1 30 (s.toInt).toNat).toInt = x_kp t nn a) → (r.toInt = 0 → x_kp t nn a = -1 ∧ (M1.2.1 1 10).toInt = 1 ∧ (M1.2.1 1 11).toInt = a) → Q (some (.int r)) M1) : mm_T X d 102 0 [.ref 28, .ref 1, .ref 30, .int s, .null] [] M Q := by
  have F0 : FR md_w30 M M := FR.rf
  have c_1 := CS_u q3 (a := a) (by omega)
  unfold x_C at c_1
  have z_2 := c_1.2
  refine to_an (pc := 0) rw_102_0 rfl ?_
  refine tt_gI (pc := 1) rw_102_1 (g_o hG rfl) (v := (M.2.1 1 7)) rfl ?_
  refine to_c (pc := 4) rw_102_4 (x := (3 : Int32)) rfl rfl ?_
  refine b_cne (pc := 5) rw_102_5 (A := (M.2.1 1 7).toInt) (B := 3) rfl rfl (fun h3 => ?_) (fun h3 => ?_)
  · have z_4 : ¬ x_kind t nn a = 2 := by omega
    clear c_1
    refine to_c (pc := 18) rw_102_18 (x := (0 : Int32)) rfl rfl ?_
    refine to_is (pc := 19) rw_102_19 (ls2 := [.ref 28, .ref 1, .ref 30, .int s, .int (0 : Int32)]) rfl rfl ?_
    refine to_i (pc := 21) rw_102_21 rfl ?_
    refine to_c (pc := 23) rw_102_23 (x := (1 : Int32)) rfl rfl ?_
    refine b_clt_t (pc := 24) rw_102_24 (A := 0) (B := 1) rfl rfl (by decide) ?_
    refine to_an (pc := 46) rw_102_46 rfl ?_
    refine to_c (pc := 47) rw_102_47 (x := (1 : Int32)) rfl rfl ?_
    refine s_v (pc := 48) rw_102_48 (dp0 hd (by decide)) (ls0 := [.ref 1, .int (1 : Int32)]) rfl (Nat.le_of_ble_eq_true rfl) (Nat.le_of_ble_eq_true rfl) rfl (to_rc rfl rfl rfl (g_o hG rfl)) rfl ?_
    refine to_an (pc := 0) rw_84_0 rfl ?_
    refine to_in (pc := 1) rw_84_1 rfl ?_
    refine s_pI (pc := 2) rw_84_2 hG rfl (fun M6 W5 => ?_)
    have hG7 := g_wf hG W5 rfl rfl (by decide)
    have F8 := FR.w F0 W5 (show 1 = 1 ∧ 6 ≤ 10 ∧ 10 ≤ 11 ∨ 1 = 30 by decide)
    refine to_an (pc := 5) rw_84_5 rfl ?_
    refine to_an (pc := 6) rw_84_6 rfl ?_
    have c_9 : M6.2.1 1 9 = (M.2.1 1 9) := (W_n W5 (by decide) rfl)
    refine tt_gI (pc := 7) rw_84_7 (g_o hG7 rfl) (v := (M.2.1 1 9)) c_9 ?_
    refine s_pI (pc := 10) rw_84_10 hG7 rfl (fun M11 W10 => ?_)
    have hG12 := g_wf hG7 W10 rfl rfl (by decide)
    have F13 := FR.w F8 W10 (show 1 = 1 ∧ 6 ≤ 11 ∧ 11 ≤ 11 ∨ 1 = 30 by decide)
    refine to_c (pc := 13) rw_84_13 (x := (0 : Int32)) rfl rfl ?_
    refine s_r1 (pc := 14) rw_84_14 (A := 0) rfl (by decide) ?_
    refine s_r1 (pc := 51) rw_102_51 (A := 0) rfl (by decide) ?_
    have k_14 : (0 : Int32).toInt = 0 := rfl
    have z_15 := x_pk_n (t := t) (nn := nn) (a := a) (by omega)
    have j_16 := (CS_f (fun a i z => W_n W10 (tg_32 a i z) rfl) (CS_f (fun a i z => W_n W5 (tg_33 a i z) rfl) q3))
    have c_17 : M11.2.1 1 9 = (M.2.1 1 9) := (W_n W10 (by decide) c_9)
    have t_18 : (M11.2.1 1 9).toInt = (M.2.1 1 9).toInt := congrArg Int32.toInt c_17
    have t_19 : (M11.2.1 30 (s.toInt).toNat).toInt = (M.2.1 30 (s.toInt).toNat).toInt := congrArg Int32.toInt (W_n W10 (by omega) (W_n W5 (by omega) rfl))
    have c_20 : M11.2.1 1 10 = (1 : Int32) := (W_n W10 (by decide) (W_e W5))
    have k_21 : (1 : Int32).toInt = 1 := rfl
    have t_22 : (M11.2.1 1 10).toInt = (1 : Int32).toInt := congrArg Int32.toInt c_20
    have c_23 : M11.2.1 1 11 = (M.2.1 1 9) := (W_e W10)
    have t_24 : (M11.2.1 1 11).toInt = (M.2.1 1 9).toInt := congrArg Int32.toInt c_23
    exact h (0 : Int32) M11 hG12 F13 (by decide) (by decide) j_16 (by omega) (by omega) (by omega)
  · have z_25 : x_kind t nn a = 2 ∧ x_val t nn a = (M.2.1 1 8).toInt := by omega
    clear c_1
    refine to_an (pc := 8) rw_102_8 rfl ?_
    refine tt_gI (pc := 9) rw_102_9 (g_o hG rfl) (v := (M.2.1 1 8)) rfl ?_
    refine to_c (pc := 12) rw_102_12 (x := (25 : Int32)) rfl rfl ?_
    refine s_opE (pc := 14) rw_102_14 (w := (M.2.1 1 8) >>> (25 : Int32)) rfl (fun v26 e27 => ?_)
    have z_28 := i_shr25 e27
    refine to_go (pc := 15) rw_102_15 ?_
    refine to_is (pc := 19) rw_102_19 (ls2 := [.ref 28, .ref 1, .ref 30, .int s, .int v26]) rfl rfl ?_
    refine to_i (pc := 21) rw_102_21 rfl ?_
    refine to_c (pc := 23) rw_102_23 (x := (1 : Int32)) rfl rfl ?_
    refine b_clt (pc := 24) rw_102_24 (A := v26.toInt) (B := 1) rfl rfl (fun h29 => ?_) (fun h29 => ?_)
    · refine to_an (pc := 46) rw_102_46 rfl ?_
      refine to_c (pc := 47) rw_102_47 (x := (1 : Int32)) rfl rfl ?_
      refine s_v (pc := 48) rw_102_48 (dp0 hd (by decide)) (ls0 := [.ref 1, .int (1 : Int32)]) rfl (Nat.le_of_ble_eq_true rfl) (Nat.le_of_ble_eq_true rfl) rfl (to_rc rfl rfl rfl (g_o hG rfl)) rfl ?_
      refine to_an (pc := 0) rw_84_0 rfl ?_
      refine to_in (pc := 1) rw_84_1 rfl ?_
      refine s_pI (pc := 2) rw_84_2 hG rfl (fun M31 W30 => ?_)
      have hG32 := g_wf hG W30 rfl rfl (by decide)
      have F33 := FR.w F0 W30 (show 1 = 1 ∧ 6 ≤ 10 ∧ 10 ≤ 11 ∨ 1 = 30 by decide)
      refine to_an (pc := 5) rw_84_5 rfl ?_
      refine to_an (pc := 6) rw_84_6 rfl ?_
      have c_34 : M31.2.1 1 9 = (M.2.1 1 9) := (W_n W30 (by decide) rfl)
      refine tt_gI (pc := 7) rw_84_7 (g_o hG32 rfl) (v := (M.2.1 1 9)) c_34 ?_
      refine s_pI (pc := 10) rw_84_10 hG32 rfl (fun M36 W35 => ?_)
      have hG37 := g_wf hG32 W35 rfl rfl (by decide)
      have F38 := FR.w F33 W35 (show 1 = 1 ∧ 6 ≤ 11 ∧ 11 ≤ 11 ∨ 1 = 30 by decide)
      refine to_c (pc := 13) rw_84_13 (x := (0 : Int32)) rfl rfl ?_
      refine s_r1 (pc := 14) rw_84_14 (A := 0) rfl (by decide) ?_
      refine s_r1 (pc := 51) rw_102_51 (A := 0) rfl (by decide) ?_
      have k_39 : (0 : Int32).toInt = 0 := rfl
      have z_40 := x_pk_n (t := t) (nn := nn) (a := a) (by omega)
      have j_41 := (CS_f (fun a i z => W_n W35 (tg_32 a i z) rfl) (CS_f (fun a i z => W_n W30 (tg_33 a i z) rfl) q3))
      have c_42 : M36.2.1 1 9 = (M.2.1 1 9) := (W_n W35 (by decide) c_34)
      have t_43 : (M36.2.1 1 9).toInt = (M.2.1 1 9).toInt := congrArg Int32.toInt c_42
      have t_44 : (M36.2.1 30 (s.toInt).toNat).toInt = (M.2.1 30 (s.toInt).toNat).toInt := congrArg Int32.toInt (W_n W35 (by omega) (W_n W30 (by omega) rfl))
      have c_45 : M36.2.1 1 10 = (1 : Int32) := (W_n W35 (by decide) (W_e W30))
      have k_46 : (1 : Int32).toInt = 1 := rfl
      have t_47 : (M36.2.1 1 10).toInt = (1 : Int32).toInt := congrArg Int32.toInt c_45
      have c_48 : M36.2.1 1 11 = (M.2.1 1 9) := (W_e W35)
      have t_49 : (M36.2.1 1 11).toInt = (M.2.1 1 9).toInt := congrArg Int32.toInt c_48
      exact h (0 : Int32) M36 hG37 F38 (by decide) (by decide) j_41 (by omega) (by omega) (by omega)
    · refine to_i (pc := 27) rw_102_27 rfl ?_
      refine to_c (pc := 29) rw_102_29 (x := (6 : Int32)) rfl rfl ?_
      refine b_cgt (pc := 31) rw_102_31 (A := v26.toInt) (B := 6) rfl rfl (fun h50 => ?_) (fun h50 => ?_)
      · refine to_an (pc := 46) rw_102_46 rfl ?_
        refine to_c (pc := 47) rw_102_47 (x := (1 : Int32)) rfl rfl ?_
        refine s_v (pc := 48) rw_102_48 (dp0 hd (by decide)) (ls0 := [.ref 1, .int (1 : Int32)]) rfl (Nat.le_of_ble_eq_true rfl) (Nat.le_of_ble_eq_true rfl) rfl (to_rc rfl rfl rfl (g_o hG rfl)) rfl ?_
        refine to_an (pc := 0) rw_84_0 rfl ?_
        refine to_in (pc := 1) rw_84_1 rfl ?_
        refine s_pI (pc := 2) rw_84_2 hG rfl (fun M52 W51 => ?_)
        have hG53 := g_wf hG W51 rfl rfl (by decide)
        have F54 := FR.w F0 W51 (show 1 = 1 ∧ 6 ≤ 10 ∧ 10 ≤ 11 ∨ 1 = 30 by decide)
        refine to_an (pc := 5) rw_84_5 rfl ?_
        refine to_an (pc := 6) rw_84_6 rfl ?_
        have c_55 : M52.2.1 1 9 = (M.2.1 1 9) := (W_n W51 (by decide) rfl)
        refine tt_gI (pc := 7) rw_84_7 (g_o hG53 rfl) (v := (M.2.1 1 9)) c_55 ?_
        refine s_pI (pc := 10) rw_84_10 hG53 rfl (fun M57 W56 => ?_)
        have hG58 := g_wf hG53 W56 rfl rfl (by decide)
        have F59 := FR.w F54 W56 (show 1 = 1 ∧ 6 ≤ 11 ∧ 11 ≤ 11 ∨ 1 = 30 by decide)
        refine to_c (pc := 13) rw_84_13 (x := (0 : Int32)) rfl rfl ?_
        refine s_r1 (pc := 14) rw_84_14 (A := 0) rfl (by decide) ?_
        refine s_r1 (pc := 51) rw_102_51 (A := 0) rfl (by decide) ?_
        have k_60 : (0 : Int32).toInt = 0 := rfl
        have z_61 := x_pk_n (t := t) (nn := nn) (a := a) (by omega)
        have j_62 := (CS_f (fun a i z => W_n W56 (tg_32 a i z) rfl) (CS_f (fun a i z => W_n W51 (tg_33 a i z) rfl) q3))
        have c_63 : M57.2.1 1 9 = (M.2.1 1 9) := (W_n W56 (by decide) c_55)
        have t_64 : (M57.2.1 1 9).toInt = (M.2.1 1 9).toInt := congrArg Int32.toInt c_63
        have t_65 : (M57.2.1 30 (s.toInt).toNat).toInt = (M.2.1 30 (s.toInt).toNat).toInt := congrArg Int32.toInt (W_n W56 (by omega) (W_n W51 (by omega) rfl))
        have c_66 : M57.2.1 1 10 = (1 : Int32) := (W_n W56 (by decide) (W_e W51))
        have k_67 : (1 : Int32).toInt = 1 := rfl
        have t_68 : (M57.2.1 1 10).toInt = (1 : Int32).toInt := congrArg Int32.toInt c_66
        have c_69 : M57.2.1 1 11 = (M.2.1 1 9) := (W_e W56)
        have t_70 : (M57.2.1 1 11).toInt = (M.2.1 1 9).toInt := congrArg Int32.toInt c_69
        exact h (0 : Int32) M57 hG58 F59 (by decide) (by decide) j_62 (by omega) (by omega) (by omega)
      · refine to_an (pc := 34) rw_102_34 rfl ?_
        refine tt_gI (pc := 35) rw_102_35 (g_o hG rfl) (v := (M.2.1 1 8)) rfl ?_
        refine to_i (pc := 38) rw_102_38 rfl ?_
        refine to_c (pc := 40) rw_102_40 (x := (25 : Int32)) rfl rfl ?_
        refine s_opE (pc := 42) rw_102_42 (w := v26 <<< (25 : Int32)) rfl (fun v71 e72 => ?_)
        have z_73 := i_shl25 (by omega) (by omega) e72
        refine b_ceq (pc := 43) rw_102_43 (A := (M.2.1 1 8).toInt) (B := v71.toInt) rfl rfl (fun h74 => ?_) (fun h74 => ?_)
        · refine to_an (pc := 52) rw_102_52 rfl ?_
          refine to_in (pc := 53) rw_102_53 rfl ?_
          refine to_i (pc := 54) rw_102_54 rfl ?_
          refine to_c (pc := 56) rw_102_56 (x := (1 : Int32)) rfl rfl ?_
          refine s_sub (pc := 57) rw_102_57 (A := v26.toInt) (B := 1) rfl rfl (by omega) (fun v75 e76 => ?_)
          refine s_ias (pc := 58) rw_102_58 hG rfl (n := 40) rfl (A := s.toInt) rfl (by omega) (by omega) (fun M78 W77 => ?_)
          have hG79 := g_w hG W77 (A := v75.toInt) rfl (lo := 0) (hi := 5) rfl rfl (by omega) (by decide)
          have F80 := FR.w F0 W77 (show 30 = 1 ∧ 6 ≤ (s.toInt).toNat ∧ (s.toInt).toNat ≤ 11 ∨ 30 = 30 by omega)
          refine to_an (pc := 59) rw_102_59 rfl ?_
          refine s_v (pc := 60) rw_102_60 (dp0 hd (by decide)) (ls0 := [.ref 1]) rfl (Nat.le_of_ble_eq_true rfl) (Nat.le_of_ble_eq_true rfl) rfl (to_rc rfl rfl rfl (g_o hG79 rfl)) rfl ?_
          have j_81 := (CS_f (fun a i z => W_n W77 (tg_113 a i _ z) rfl) q3)
          have c_82 : M78.2.1 1 9 = (M.2.1 1 9) := (W_n W77 (fun z => absurd z.1 (by decide)) rfl)
          have t_83 : (M78.2.1 1 9).toInt = (M.2.1 1 9).toInt := congrArg Int32.toInt c_82
          refine E_83 hX (dp1 hd (by decide)) hG79 j_81 (by omega) (t := t) (nn := nn) (a := a) (fun M88 hG85 F84 p_86 p_87 => ?_)
          have F89 := FR.c F80 F84 tg_110
          refine to_c (pc := 63) rw_102_63 (x := (1 : Int32)) rfl rfl ?_
          refine s_r1 (pc := 64) rw_102_64 (A := 1) rfl (by decide) ?_
          have k_90 : (1 : Int32).toInt = 1 := rfl
          have z_91 := x_pk_y (t := t) (nn := nn) (a := a) (l := v26.toInt) (by omega) (by omega) (by omega) (by omega)
          have t_92 : (M78.2.1 30 (s.toInt).toNat).toInt = v75.toInt := congrArg Int32.toInt (W_e W77)
          have t_93 : (M88.2.1 30 (s.toInt).toNat).toInt = (M78.2.1 30 (s.toInt).toNat).toInt := congrArg Int32.toInt (F_n F84 (show ¬ (30 = 1 ∧ 6 ≤ ((s.toInt).toNat) ∧ ((s.toInt).toNat) ≤ 9) by omega) rfl)
          have c_94 : M88.2.1 1 10 = (M.2.1 1 10) := (F_n F84 (show ¬ (1 = 1 ∧ 6 ≤ 10 ∧ 10 ≤ 9) by decide) (W_n W77 (fun z => absurd z.1 (by decide)) rfl))
          have t_95 : (M88.2.1 1 10).toInt = (M.2.1 1 10).toInt := congrArg Int32.toInt c_94
          have c_96 : M88.2.1 1 11 = (M.2.1 1 11) := (F_n F84 (show ¬ (1 = 1 ∧ 6 ≤ 11 ∧ 11 ≤ 9) by decide) (W_n W77 (fun z => absurd z.1 (by decide)) rfl))
          have t_97 : (M88.2.1 1 11).toInt = (M.2.1 1 11).toInt := congrArg Int32.toInt c_96
          exact h (1 : Int32) M88 hG85 F89 (by decide) (by decide) p_86 (by omega) (by omega) (by omega)
        · refine to_an (pc := 46) rw_102_46 rfl ?_
          refine to_c (pc := 47) rw_102_47 (x := (1 : Int32)) rfl rfl ?_
          refine s_v (pc := 48) rw_102_48 (dp0 hd (by decide)) (ls0 := [.ref 1, .int (1 : Int32)]) rfl (Nat.le_of_ble_eq_true rfl) (Nat.le_of_ble_eq_true rfl) rfl (to_rc rfl rfl rfl (g_o hG rfl)) rfl ?_
          refine to_an (pc := 0) rw_84_0 rfl ?_
          refine to_in (pc := 1) rw_84_1 rfl ?_
          refine s_pI (pc := 2) rw_84_2 hG rfl (fun M99 W98 => ?_)
          have hG100 := g_wf hG W98 rfl rfl (by decide)
          have F101 := FR.w F0 W98 (show 1 = 1 ∧ 6 ≤ 10 ∧ 10 ≤ 11 ∨ 1 = 30 by decide)
          refine to_an (pc := 5) rw_84_5 rfl ?_
          refine to_an (pc := 6) rw_84_6 rfl ?_
          have c_102 : M99.2.1 1 9 = (M.2.1 1 9) := (W_n W98 (by decide) rfl)
          refine tt_gI (pc := 7) rw_84_7 (g_o hG100 rfl) (v := (M.2.1 1 9)) c_102 ?_
          refine s_pI (pc := 10) rw_84_10 hG100 rfl (fun M104 W103 => ?_)
          have hG105 := g_wf hG100 W103 rfl rfl (by decide)
          have F106 := FR.w F101 W103 (show 1 = 1 ∧ 6 ≤ 11 ∧ 11 ≤ 11 ∨ 1 = 30 by decide)
          refine to_c (pc := 13) rw_84_13 (x := (0 : Int32)) rfl rfl ?_
          refine s_r1 (pc := 14) rw_84_14 (A := 0) rfl (by decide) ?_
          refine s_r1 (pc := 51) rw_102_51 (A := 0) rfl (by decide) ?_
          have k_107 : (0 : Int32).toInt = 0 := rfl
          have z_108 := x_pk_n (t := t) (nn := nn) (a := a) (by omega)
          have j_109 := (CS_f (fun a i z => W_n W103 (tg_32 a i z) rfl) (CS_f (fun a i z => W_n W98 (tg_33 a i z) rfl) q3))
          have c_110 : M104.2.1 1 9 = (M.2.1 1 9) := (W_n W103 (by decide) c_102)
          have t_111 : (M104.2.1 1 9).toInt = (M.2.1 1 9).toInt := congrArg Int32.toInt c_110
          have t_112 : (M104.2.1 30 (s.toInt).toNat).toInt = (M.2.1 30 (s.toInt).toNat).toInt := congrArg Int32.toInt (W_n W103 (by omega) (W_n W98 (by omega) rfl))
          have c_113 : M104.2.1 1 10 = (1 : Int32) := (W_n W103 (by decide) (W_e W98))
          have k_114 : (1 : Int32).toInt = 1 := rfl
          have t_115 : (M104.2.1 1 10).toInt = (1 : Int32).toInt := congrArg Int32.toInt c_113
          have c_116 : M104.2.1 1 11 = (M.2.1 1 9) := (W_e W103)
          have t_117 : (M104.2.1 1 11).toInt = (M.2.1 1 9).toInt := congrArg Int32.toInt c_116
          exact h (0 : Int32) M104 hG105 F106 (by decide) (by decide) j_109 (by omega) (by omega) (by omega)
set_option maxRecDepth 4000 in
set_option maxHeartbeats 0 in
theorem E_102y {X : mm_X} {d : Nat} {M : mm_M} {Q : Option Value → mm_M → Prop} {s : Int32} {t : Nat → Int} {nn : Int} {a : Int} (hX : g_X X) (hd : 1 ≤ d) (hG : g_G M) (q1 : 0 ≤ s.toInt) (q2 : s.toInt ≤ 39) (q3 : CS M t nn) (q4 : (M.2.1 1 9).toInt = a) (h : ∀ (r : Int32) (M1 : mm_M), g_G M1 → FR md_w31 M M1 → (0 ≤ r.toInt) → (r.toInt ≤ 1) → CS M1 t nn → (r.toInt = 1 → 0 ≤ x_kp t nn a ∧ (M1.2.1 1 9).toInt = x_ns t nn a) → (r.toInt = 1 → (M1.2.1 31 (s.toInt).toNat).toInt = x_kp t nn a) → (r.toInt = 0 → x_kp t nn a = -1 ∧ (M1.2.1 1 10).toInt = 1 ∧ (M1.2.1 1 11).toInt = a) → Q (some (.int r)) M1) : mm_T X d 102 0 [.ref 28, .ref 1, .ref 31, .int s, .null] [] M Q := by
  have F0 : FR md_w31 M M := FR.rf
  have c_1 := CS_u q3 (a := a) (by omega)
  unfold x_C at c_1
  have z_2 := c_1.2
  refine to_an (pc := 0) rw_102_0 rfl ?_
  refine tt_gI (pc := 1) rw_102_1 (g_o hG rfl) (v := (M.2.1 1 7)) rfl ?_
  refine to_c (pc := 4) rw_102_4 (x := (3 : Int32)) rfl rfl ?_
  refine b_cne (pc := 5) rw_102_5 (A := (M.2.1 1 7).toInt) (B := 3) rfl rfl (fun h3 => ?_) (fun h3 => ?_)
  · have z_4 : ¬ x_kind t nn a = 2 := by omega
    clear c_1
    refine to_c (pc := 18) rw_102_18 (x := (0 : Int32)) rfl rfl ?_
    refine to_is (pc := 19) rw_102_19 (ls2 := [.ref 28, .ref 1, .ref 31, .int s, .int (0 : Int32)]) rfl rfl ?_
    refine to_i (pc := 21) rw_102_21 rfl ?_
    refine to_c (pc := 23) rw_102_23 (x := (1 : Int32)) rfl rfl ?_
    refine b_clt_t (pc := 24) rw_102_24 (A := 0) (B := 1) rfl rfl (by decide) ?_
    refine to_an (pc := 46) rw_102_46 rfl ?_
    refine to_c (pc := 47) rw_102_47 (x := (1 : Int32)) rfl rfl ?_
    refine s_v (pc := 48) rw_102_48 (dp0 hd (by decide)) (ls0 := [.ref 1, .int (1 : Int32)]) rfl (Nat.le_of_ble_eq_true rfl) (Nat.le_of_ble_eq_true rfl) rfl (to_rc rfl rfl rfl (g_o hG rfl)) rfl ?_
    refine to_an (pc := 0) rw_84_0 rfl ?_
    refine to_in (pc := 1) rw_84_1 rfl ?_
    refine s_pI (pc := 2) rw_84_2 hG rfl (fun M6 W5 => ?_)
    have hG7 := g_wf hG W5 rfl rfl (by decide)
    have F8 := FR.w F0 W5 (show 1 = 1 ∧ 6 ≤ 10 ∧ 10 ≤ 11 ∨ 1 = 31 by decide)
    refine to_an (pc := 5) rw_84_5 rfl ?_
    refine to_an (pc := 6) rw_84_6 rfl ?_
    have c_9 : M6.2.1 1 9 = (M.2.1 1 9) := (W_n W5 (by decide) rfl)
    refine tt_gI (pc := 7) rw_84_7 (g_o hG7 rfl) (v := (M.2.1 1 9)) c_9 ?_
    refine s_pI (pc := 10) rw_84_10 hG7 rfl (fun M11 W10 => ?_)
    have hG12 := g_wf hG7 W10 rfl rfl (by decide)
    have F13 := FR.w F8 W10 (show 1 = 1 ∧ 6 ≤ 11 ∧ 11 ≤ 11 ∨ 1 = 31 by decide)
    refine to_c (pc := 13) rw_84_13 (x := (0 : Int32)) rfl rfl ?_
    refine s_r1 (pc := 14) rw_84_14 (A := 0) rfl (by decide) ?_
    refine s_r1 (pc := 51) rw_102_51 (A := 0) rfl (by decide) ?_
    have k_14 : (0 : Int32).toInt = 0 := rfl
    have z_15 := x_pk_n (t := t) (nn := nn) (a := a) (by omega)
    have j_16 := (CS_f (fun a i z => W_n W10 (tg_32 a i z) rfl) (CS_f (fun a i z => W_n W5 (tg_33 a i z) rfl) q3))
    have c_17 : M11.2.1 1 9 = (M.2.1 1 9) := (W_n W10 (by decide) c_9)
    have t_18 : (M11.2.1 1 9).toInt = (M.2.1 1 9).toInt := congrArg Int32.toInt c_17
    have t_19 : (M11.2.1 31 (s.toInt).toNat).toInt = (M.2.1 31 (s.toInt).toNat).toInt := congrArg Int32.toInt (W_n W10 (by omega) (W_n W5 (by omega) rfl))
    have c_20 : M11.2.1 1 10 = (1 : Int32) := (W_n W10 (by decide) (W_e W5))
    have k_21 : (1 : Int32).toInt = 1 := rfl
    have t_22 : (M11.2.1 1 10).toInt = (1 : Int32).toInt := congrArg Int32.toInt c_20
    have c_23 : M11.2.1 1 11 = (M.2.1 1 9) := (W_e W10)
    have t_24 : (M11.2.1 1 11).toInt = (M.2.1 1 9).toInt := congrArg Int32.toInt c_23
    exact h (0 : Int32) M11 hG12 F13 (by decide) (by decide) j_16 (by omega) (by omega) (by omega)
  · have z_25 : x_kind t nn a = 2 ∧ x_val t nn a = (M.2.1 1 8).toInt := by omega
    clear c_1
    refine to_an (pc := 8) rw_102_8 rfl ?_
    refine tt_gI (pc := 9) rw_102_9 (g_o hG rfl) (v := (M.2.1 1 8)) rfl ?_
    refine to_c (pc := 12) rw_102_12 (x := (25 : Int32)) rfl rfl ?_
    refine s_opE (pc := 14) rw_102_14 (w := (M.2.1 1 8) >>> (25 : Int32)) rfl (fun v26 e27 => ?_)
    have z_28 := i_shr25 e27
    refine to_go (pc := 15) rw_102_15 ?_
    refine to_is (pc := 19) rw_102_19 (ls2 := [.ref 28, .ref 1, .ref 31, .int s, .int v26]) rfl rfl ?_
    refine to_i (pc := 21) rw_102_21 rfl ?_
    refine to_c (pc := 23) rw_102_23 (x := (1 : Int32)) rfl rfl ?_
    refine b_clt (pc := 24) rw_102_24 (A := v26.toInt) (B := 1) rfl rfl (fun h29 => ?_) (fun h29 => ?_)
    · refine to_an (pc := 46) rw_102_46 rfl ?_
      refine to_c (pc := 47) rw_102_47 (x := (1 : Int32)) rfl rfl ?_
      refine s_v (pc := 48) rw_102_48 (dp0 hd (by decide)) (ls0 := [.ref 1, .int (1 : Int32)]) rfl (Nat.le_of_ble_eq_true rfl) (Nat.le_of_ble_eq_true rfl) rfl (to_rc rfl rfl rfl (g_o hG rfl)) rfl ?_
      refine to_an (pc := 0) rw_84_0 rfl ?_
      refine to_in (pc := 1) rw_84_1 rfl ?_
      refine s_pI (pc := 2) rw_84_2 hG rfl (fun M31 W30 => ?_)
      have hG32 := g_wf hG W30 rfl rfl (by decide)
      have F33 := FR.w F0 W30 (show 1 = 1 ∧ 6 ≤ 10 ∧ 10 ≤ 11 ∨ 1 = 31 by decide)
      refine to_an (pc := 5) rw_84_5 rfl ?_
      refine to_an (pc := 6) rw_84_6 rfl ?_
      have c_34 : M31.2.1 1 9 = (M.2.1 1 9) := (W_n W30 (by decide) rfl)
      refine tt_gI (pc := 7) rw_84_7 (g_o hG32 rfl) (v := (M.2.1 1 9)) c_34 ?_
      refine s_pI (pc := 10) rw_84_10 hG32 rfl (fun M36 W35 => ?_)
      have hG37 := g_wf hG32 W35 rfl rfl (by decide)
      have F38 := FR.w F33 W35 (show 1 = 1 ∧ 6 ≤ 11 ∧ 11 ≤ 11 ∨ 1 = 31 by decide)
      refine to_c (pc := 13) rw_84_13 (x := (0 : Int32)) rfl rfl ?_
      refine s_r1 (pc := 14) rw_84_14 (A := 0) rfl (by decide) ?_
      refine s_r1 (pc := 51) rw_102_51 (A := 0) rfl (by decide) ?_
      have k_39 : (0 : Int32).toInt = 0 := rfl
      have z_40 := x_pk_n (t := t) (nn := nn) (a := a) (by omega)
      have j_41 := (CS_f (fun a i z => W_n W35 (tg_32 a i z) rfl) (CS_f (fun a i z => W_n W30 (tg_33 a i z) rfl) q3))
      have c_42 : M36.2.1 1 9 = (M.2.1 1 9) := (W_n W35 (by decide) c_34)
      have t_43 : (M36.2.1 1 9).toInt = (M.2.1 1 9).toInt := congrArg Int32.toInt c_42
      have t_44 : (M36.2.1 31 (s.toInt).toNat).toInt = (M.2.1 31 (s.toInt).toNat).toInt := congrArg Int32.toInt (W_n W35 (by omega) (W_n W30 (by omega) rfl))
      have c_45 : M36.2.1 1 10 = (1 : Int32) := (W_n W35 (by decide) (W_e W30))
      have k_46 : (1 : Int32).toInt = 1 := rfl
      have t_47 : (M36.2.1 1 10).toInt = (1 : Int32).toInt := congrArg Int32.toInt c_45
      have c_48 : M36.2.1 1 11 = (M.2.1 1 9) := (W_e W35)
      have t_49 : (M36.2.1 1 11).toInt = (M.2.1 1 9).toInt := congrArg Int32.toInt c_48
      exact h (0 : Int32) M36 hG37 F38 (by decide) (by decide) j_41 (by omega) (by omega) (by omega)
    · refine to_i (pc := 27) rw_102_27 rfl ?_
      refine to_c (pc := 29) rw_102_29 (x := (6 : Int32)) rfl rfl ?_
      refine b_cgt (pc := 31) rw_102_31 (A := v26.toInt) (B := 6) rfl rfl (fun h50 => ?_) (fun h50 => ?_)
      · refine to_an (pc := 46) rw_102_46 rfl ?_
        refine to_c (pc := 47) rw_102_47 (x := (1 : Int32)) rfl rfl ?_
        refine s_v (pc := 48) rw_102_48 (dp0 hd (by decide)) (ls0 := [.ref 1, .int (1 : Int32)]) rfl (Nat.le_of_ble_eq_true rfl) (Nat.le_of_ble_eq_true rfl) rfl (to_rc rfl rfl rfl (g_o hG rfl)) rfl ?_
        refine to_an (pc := 0) rw_84_0 rfl ?_
        refine to_in (pc := 1) rw_84_1 rfl ?_
        refine s_pI (pc := 2) rw_84_2 hG rfl (fun M52 W51 => ?_)
        have hG53 := g_wf hG W51 rfl rfl (by decide)
        have F54 := FR.w F0 W51 (show 1 = 1 ∧ 6 ≤ 10 ∧ 10 ≤ 11 ∨ 1 = 31 by decide)
        refine to_an (pc := 5) rw_84_5 rfl ?_
        refine to_an (pc := 6) rw_84_6 rfl ?_
        have c_55 : M52.2.1 1 9 = (M.2.1 1 9) := (W_n W51 (by decide) rfl)
        refine tt_gI (pc := 7) rw_84_7 (g_o hG53 rfl) (v := (M.2.1 1 9)) c_55 ?_
        refine s_pI (pc := 10) rw_84_10 hG53 rfl (fun M57 W56 => ?_)
        have hG58 := g_wf hG53 W56 rfl rfl (by decide)
        have F59 := FR.w F54 W56 (show 1 = 1 ∧ 6 ≤ 11 ∧ 11 ≤ 11 ∨ 1 = 31 by decide)
        refine to_c (pc := 13) rw_84_13 (x := (0 : Int32)) rfl rfl ?_
        refine s_r1 (pc := 14) rw_84_14 (A := 0) rfl (by decide) ?_
        refine s_r1 (pc := 51) rw_102_51 (A := 0) rfl (by decide) ?_
        have k_60 : (0 : Int32).toInt = 0 := rfl
        have z_61 := x_pk_n (t := t) (nn := nn) (a := a) (by omega)
        have j_62 := (CS_f (fun a i z => W_n W56 (tg_32 a i z) rfl) (CS_f (fun a i z => W_n W51 (tg_33 a i z) rfl) q3))
        have c_63 : M57.2.1 1 9 = (M.2.1 1 9) := (W_n W56 (by decide) c_55)
        have t_64 : (M57.2.1 1 9).toInt = (M.2.1 1 9).toInt := congrArg Int32.toInt c_63
        have t_65 : (M57.2.1 31 (s.toInt).toNat).toInt = (M.2.1 31 (s.toInt).toNat).toInt := congrArg Int32.toInt (W_n W56 (by omega) (W_n W51 (by omega) rfl))
        have c_66 : M57.2.1 1 10 = (1 : Int32) := (W_n W56 (by decide) (W_e W51))
        have k_67 : (1 : Int32).toInt = 1 := rfl
        have t_68 : (M57.2.1 1 10).toInt = (1 : Int32).toInt := congrArg Int32.toInt c_66
        have c_69 : M57.2.1 1 11 = (M.2.1 1 9) := (W_e W56)
        have t_70 : (M57.2.1 1 11).toInt = (M.2.1 1 9).toInt := congrArg Int32.toInt c_69
        exact h (0 : Int32) M57 hG58 F59 (by decide) (by decide) j_62 (by omega) (by omega) (by omega)
      · refine to_an (pc := 34) rw_102_34 rfl ?_
        refine tt_gI (pc := 35) rw_102_35 (g_o hG rfl) (v := (M.2.1 1 8)) rfl ?_
        refine to_i (pc := 38) rw_102_38 rfl ?_
        refine to_c (pc := 40) rw_102_40 (x := (25 : Int32)) rfl rfl ?_
        refine s_opE (pc := 42) rw_102_42 (w := v26 <<< (25 : Int32)) rfl (fun v71 e72 => ?_)
        have z_73 := i_shl25 (by omega) (by omega) e72
        refine b_ceq (pc := 43) rw_102_43 (A := (M.2.1 1 8).toInt) (B := v71.toInt) rfl rfl (fun h74 => ?_) (fun h74 => ?_)
        · refine to_an (pc := 52) rw_102_52 rfl ?_
          refine to_in (pc := 53) rw_102_53 rfl ?_
          refine to_i (pc := 54) rw_102_54 rfl ?_
          refine to_c (pc := 56) rw_102_56 (x := (1 : Int32)) rfl rfl ?_
          refine s_sub (pc := 57) rw_102_57 (A := v26.toInt) (B := 1) rfl rfl (by omega) (fun v75 e76 => ?_)
          refine s_ias (pc := 58) rw_102_58 hG rfl (n := 40) rfl (A := s.toInt) rfl (by omega) (by omega) (fun M78 W77 => ?_)
          have hG79 := g_w hG W77 (A := v75.toInt) rfl (lo := 0) (hi := 5) rfl rfl (by omega) (by decide)
          have F80 := FR.w F0 W77 (show 31 = 1 ∧ 6 ≤ (s.toInt).toNat ∧ (s.toInt).toNat ≤ 11 ∨ 31 = 31 by omega)
          refine to_an (pc := 59) rw_102_59 rfl ?_
          refine s_v (pc := 60) rw_102_60 (dp0 hd (by decide)) (ls0 := [.ref 1]) rfl (Nat.le_of_ble_eq_true rfl) (Nat.le_of_ble_eq_true rfl) rfl (to_rc rfl rfl rfl (g_o hG79 rfl)) rfl ?_
          have j_81 := (CS_f (fun a i z => W_n W77 (tg_114 a i _ z) rfl) q3)
          have c_82 : M78.2.1 1 9 = (M.2.1 1 9) := (W_n W77 (fun z => absurd z.1 (by decide)) rfl)
          have t_83 : (M78.2.1 1 9).toInt = (M.2.1 1 9).toInt := congrArg Int32.toInt c_82
          refine E_83 hX (dp1 hd (by decide)) hG79 j_81 (by omega) (t := t) (nn := nn) (a := a) (fun M88 hG85 F84 p_86 p_87 => ?_)
          have F89 := FR.c F80 F84 tg_111
          refine to_c (pc := 63) rw_102_63 (x := (1 : Int32)) rfl rfl ?_
          refine s_r1 (pc := 64) rw_102_64 (A := 1) rfl (by decide) ?_
          have k_90 : (1 : Int32).toInt = 1 := rfl
          have z_91 := x_pk_y (t := t) (nn := nn) (a := a) (l := v26.toInt) (by omega) (by omega) (by omega) (by omega)
          have t_92 : (M78.2.1 31 (s.toInt).toNat).toInt = v75.toInt := congrArg Int32.toInt (W_e W77)
          have t_93 : (M88.2.1 31 (s.toInt).toNat).toInt = (M78.2.1 31 (s.toInt).toNat).toInt := congrArg Int32.toInt (F_n F84 (show ¬ (31 = 1 ∧ 6 ≤ ((s.toInt).toNat) ∧ ((s.toInt).toNat) ≤ 9) by omega) rfl)
          have c_94 : M88.2.1 1 10 = (M.2.1 1 10) := (F_n F84 (show ¬ (1 = 1 ∧ 6 ≤ 10 ∧ 10 ≤ 9) by decide) (W_n W77 (fun z => absurd z.1 (by decide)) rfl))
          have t_95 : (M88.2.1 1 10).toInt = (M.2.1 1 10).toInt := congrArg Int32.toInt c_94
          have c_96 : M88.2.1 1 11 = (M.2.1 1 11) := (F_n F84 (show ¬ (1 = 1 ∧ 6 ≤ 11 ∧ 11 ≤ 9) by decide) (W_n W77 (fun z => absurd z.1 (by decide)) rfl))
          have t_97 : (M88.2.1 1 11).toInt = (M.2.1 1 11).toInt := congrArg Int32.toInt c_96
          exact h (1 : Int32) M88 hG85 F89 (by decide) (by decide) p_86 (by omega) (by omega) (by omega)
        · refine to_an (pc := 46) rw_102_46 rfl ?_
          refine to_c (pc := 47) rw_102_47 (x := (1 : Int32)) rfl rfl ?_
          refine s_v (pc := 48) rw_102_48 (dp0 hd (by decide)) (ls0 := [.ref 1, .int (1 : Int32)]) rfl (Nat.le_of_ble_eq_true rfl) (Nat.le_of_ble_eq_true rfl) rfl (to_rc rfl rfl rfl (g_o hG rfl)) rfl ?_
          refine to_an (pc := 0) rw_84_0 rfl ?_
          refine to_in (pc := 1) rw_84_1 rfl ?_
          refine s_pI (pc := 2) rw_84_2 hG rfl (fun M99 W98 => ?_)
          have hG100 := g_wf hG W98 rfl rfl (by decide)
          have F101 := FR.w F0 W98 (show 1 = 1 ∧ 6 ≤ 10 ∧ 10 ≤ 11 ∨ 1 = 31 by decide)
          refine to_an (pc := 5) rw_84_5 rfl ?_
          refine to_an (pc := 6) rw_84_6 rfl ?_
          have c_102 : M99.2.1 1 9 = (M.2.1 1 9) := (W_n W98 (by decide) rfl)
          refine tt_gI (pc := 7) rw_84_7 (g_o hG100 rfl) (v := (M.2.1 1 9)) c_102 ?_
          refine s_pI (pc := 10) rw_84_10 hG100 rfl (fun M104 W103 => ?_)
          have hG105 := g_wf hG100 W103 rfl rfl (by decide)
          have F106 := FR.w F101 W103 (show 1 = 1 ∧ 6 ≤ 11 ∧ 11 ≤ 11 ∨ 1 = 31 by decide)
          refine to_c (pc := 13) rw_84_13 (x := (0 : Int32)) rfl rfl ?_
          refine s_r1 (pc := 14) rw_84_14 (A := 0) rfl (by decide) ?_
          refine s_r1 (pc := 51) rw_102_51 (A := 0) rfl (by decide) ?_
          have k_107 : (0 : Int32).toInt = 0 := rfl
          have z_108 := x_pk_n (t := t) (nn := nn) (a := a) (by omega)
          have j_109 := (CS_f (fun a i z => W_n W103 (tg_32 a i z) rfl) (CS_f (fun a i z => W_n W98 (tg_33 a i z) rfl) q3))
          have c_110 : M104.2.1 1 9 = (M.2.1 1 9) := (W_n W103 (by decide) c_102)
          have t_111 : (M104.2.1 1 9).toInt = (M.2.1 1 9).toInt := congrArg Int32.toInt c_110
          have t_112 : (M104.2.1 31 (s.toInt).toNat).toInt = (M.2.1 31 (s.toInt).toNat).toInt := congrArg Int32.toInt (W_n W103 (by omega) (W_n W98 (by omega) rfl))
          have c_113 : M104.2.1 1 10 = (1 : Int32) := (W_n W103 (by decide) (W_e W98))
          have k_114 : (1 : Int32).toInt = 1 := rfl
          have t_115 : (M104.2.1 1 10).toInt = (1 : Int32).toInt := congrArg Int32.toInt c_113
          have c_116 : M104.2.1 1 11 = (M.2.1 1 9) := (W_e W103)
          have t_117 : (M104.2.1 1 11).toInt = (M.2.1 1 9).toInt := congrArg Int32.toInt c_116
          exact h (0 : Int32) M104 hG105 F106 (by decide) (by decide) j_109 (by omega) (by omega) (by omega)
set_option maxRecDepth 4000 in
set_option maxHeartbeats 0 in
theorem E_102z {X : mm_X} {d : Nat} {M : mm_M} {Q : Option Value → mm_M → Prop} {s : Int32} {t : Nat → Int} {nn : Int} {a : Int} (hX : g_X X) (hd : 1 ≤ d) (hG : g_G M) (q1 : 0 ≤ s.toInt) (q2 : s.toInt ≤ 39) (q3 : CS M t nn) (q4 : (M.2.1 1 9).toInt = a) (h : ∀ (r : Int32) (M1 : mm_M), g_G M1 → FR md_w32 M M1 → (0 ≤ r.toInt) → (r.toInt ≤ 1) → CS M1 t nn → (r.toInt = 1 → 0 ≤ x_kp t nn a ∧ (M1.2.1 1 9).toInt = x_ns t nn a) → (r.toInt = 1 → (M1.2.1 32 (s.toInt).toNat).toInt = x_kp t nn a) → (r.toInt = 0 → x_kp t nn a = -1 ∧ (M1.2.1 1 10).toInt = 1 ∧ (M1.2.1 1 11).toInt = a) → Q (some (.int r)) M1) : mm_T X d 102 0 [.ref 28, .ref 1, .ref 32, .int s, .null] [] M Q := by
  have F0 : FR md_w32 M M := FR.rf
  have c_1 := CS_u q3 (a := a) (by omega)
  unfold x_C at c_1
  have z_2 := c_1.2
  refine to_an (pc := 0) rw_102_0 rfl ?_
  refine tt_gI (pc := 1) rw_102_1 (g_o hG rfl) (v := (M.2.1 1 7)) rfl ?_
  refine to_c (pc := 4) rw_102_4 (x := (3 : Int32)) rfl rfl ?_
  refine b_cne (pc := 5) rw_102_5 (A := (M.2.1 1 7).toInt) (B := 3) rfl rfl (fun h3 => ?_) (fun h3 => ?_)
  · have z_4 : ¬ x_kind t nn a = 2 := by omega
    clear c_1
    refine to_c (pc := 18) rw_102_18 (x := (0 : Int32)) rfl rfl ?_
    refine to_is (pc := 19) rw_102_19 (ls2 := [.ref 28, .ref 1, .ref 32, .int s, .int (0 : Int32)]) rfl rfl ?_
    refine to_i (pc := 21) rw_102_21 rfl ?_
    refine to_c (pc := 23) rw_102_23 (x := (1 : Int32)) rfl rfl ?_
    refine b_clt_t (pc := 24) rw_102_24 (A := 0) (B := 1) rfl rfl (by decide) ?_
    refine to_an (pc := 46) rw_102_46 rfl ?_
    refine to_c (pc := 47) rw_102_47 (x := (1 : Int32)) rfl rfl ?_
    refine s_v (pc := 48) rw_102_48 (dp0 hd (by decide)) (ls0 := [.ref 1, .int (1 : Int32)]) rfl (Nat.le_of_ble_eq_true rfl) (Nat.le_of_ble_eq_true rfl) rfl (to_rc rfl rfl rfl (g_o hG rfl)) rfl ?_
    refine to_an (pc := 0) rw_84_0 rfl ?_
    refine to_in (pc := 1) rw_84_1 rfl ?_
    refine s_pI (pc := 2) rw_84_2 hG rfl (fun M6 W5 => ?_)
    have hG7 := g_wf hG W5 rfl rfl (by decide)
    have F8 := FR.w F0 W5 (show 1 = 1 ∧ 6 ≤ 10 ∧ 10 ≤ 11 ∨ 1 = 32 by decide)
    refine to_an (pc := 5) rw_84_5 rfl ?_
    refine to_an (pc := 6) rw_84_6 rfl ?_
    have c_9 : M6.2.1 1 9 = (M.2.1 1 9) := (W_n W5 (by decide) rfl)
    refine tt_gI (pc := 7) rw_84_7 (g_o hG7 rfl) (v := (M.2.1 1 9)) c_9 ?_
    refine s_pI (pc := 10) rw_84_10 hG7 rfl (fun M11 W10 => ?_)
    have hG12 := g_wf hG7 W10 rfl rfl (by decide)
    have F13 := FR.w F8 W10 (show 1 = 1 ∧ 6 ≤ 11 ∧ 11 ≤ 11 ∨ 1 = 32 by decide)
    refine to_c (pc := 13) rw_84_13 (x := (0 : Int32)) rfl rfl ?_
    refine s_r1 (pc := 14) rw_84_14 (A := 0) rfl (by decide) ?_
    refine s_r1 (pc := 51) rw_102_51 (A := 0) rfl (by decide) ?_
    have k_14 : (0 : Int32).toInt = 0 := rfl
    have z_15 := x_pk_n (t := t) (nn := nn) (a := a) (by omega)
    have j_16 := (CS_f (fun a i z => W_n W10 (tg_32 a i z) rfl) (CS_f (fun a i z => W_n W5 (tg_33 a i z) rfl) q3))
    have c_17 : M11.2.1 1 9 = (M.2.1 1 9) := (W_n W10 (by decide) c_9)
    have t_18 : (M11.2.1 1 9).toInt = (M.2.1 1 9).toInt := congrArg Int32.toInt c_17
    have t_19 : (M11.2.1 32 (s.toInt).toNat).toInt = (M.2.1 32 (s.toInt).toNat).toInt := congrArg Int32.toInt (W_n W10 (by omega) (W_n W5 (by omega) rfl))
    have c_20 : M11.2.1 1 10 = (1 : Int32) := (W_n W10 (by decide) (W_e W5))
    have k_21 : (1 : Int32).toInt = 1 := rfl
    have t_22 : (M11.2.1 1 10).toInt = (1 : Int32).toInt := congrArg Int32.toInt c_20
    have c_23 : M11.2.1 1 11 = (M.2.1 1 9) := (W_e W10)
    have t_24 : (M11.2.1 1 11).toInt = (M.2.1 1 9).toInt := congrArg Int32.toInt c_23
    exact h (0 : Int32) M11 hG12 F13 (by decide) (by decide) j_16 (by omega) (by omega) (by omega)
  · have z_25 : x_kind t nn a = 2 ∧ x_val t nn a = (M.2.1 1 8).toInt := by omega
    clear c_1
    refine to_an (pc := 8) rw_102_8 rfl ?_
    refine tt_gI (pc := 9) rw_102_9 (g_o hG rfl) (v := (M.2.1 1 8)) rfl ?_
    refine to_c (pc := 12) rw_102_12 (x := (25 : Int32)) rfl rfl ?_
    refine s_opE (pc := 14) rw_102_14 (w := (M.2.1 1 8) >>> (25 : Int32)) rfl (fun v26 e27 => ?_)
    have z_28 := i_shr25 e27
    refine to_go (pc := 15) rw_102_15 ?_
    refine to_is (pc := 19) rw_102_19 (ls2 := [.ref 28, .ref 1, .ref 32, .int s, .int v26]) rfl rfl ?_
    refine to_i (pc := 21) rw_102_21 rfl ?_
    refine to_c (pc := 23) rw_102_23 (x := (1 : Int32)) rfl rfl ?_
    refine b_clt (pc := 24) rw_102_24 (A := v26.toInt) (B := 1) rfl rfl (fun h29 => ?_) (fun h29 => ?_)
    · refine to_an (pc := 46) rw_102_46 rfl ?_
      refine to_c (pc := 47) rw_102_47 (x := (1 : Int32)) rfl rfl ?_
      refine s_v (pc := 48) rw_102_48 (dp0 hd (by decide)) (ls0 := [.ref 1, .int (1 : Int32)]) rfl (Nat.le_of_ble_eq_true rfl) (Nat.le_of_ble_eq_true rfl) rfl (to_rc rfl rfl rfl (g_o hG rfl)) rfl ?_
      refine to_an (pc := 0) rw_84_0 rfl ?_
      refine to_in (pc := 1) rw_84_1 rfl ?_
      refine s_pI (pc := 2) rw_84_2 hG rfl (fun M31 W30 => ?_)
      have hG32 := g_wf hG W30 rfl rfl (by decide)
      have F33 := FR.w F0 W30 (show 1 = 1 ∧ 6 ≤ 10 ∧ 10 ≤ 11 ∨ 1 = 32 by decide)
      refine to_an (pc := 5) rw_84_5 rfl ?_
      refine to_an (pc := 6) rw_84_6 rfl ?_
      have c_34 : M31.2.1 1 9 = (M.2.1 1 9) := (W_n W30 (by decide) rfl)
      refine tt_gI (pc := 7) rw_84_7 (g_o hG32 rfl) (v := (M.2.1 1 9)) c_34 ?_
      refine s_pI (pc := 10) rw_84_10 hG32 rfl (fun M36 W35 => ?_)
      have hG37 := g_wf hG32 W35 rfl rfl (by decide)
      have F38 := FR.w F33 W35 (show 1 = 1 ∧ 6 ≤ 11 ∧ 11 ≤ 11 ∨ 1 = 32 by decide)
      refine to_c (pc := 13) rw_84_13 (x := (0 : Int32)) rfl rfl ?_
      refine s_r1 (pc := 14) rw_84_14 (A := 0) rfl (by decide) ?_
      refine s_r1 (pc := 51) rw_102_51 (A := 0) rfl (by decide) ?_
      have k_39 : (0 : Int32).toInt = 0 := rfl
      have z_40 := x_pk_n (t := t) (nn := nn) (a := a) (by omega)
      have j_41 := (CS_f (fun a i z => W_n W35 (tg_32 a i z) rfl) (CS_f (fun a i z => W_n W30 (tg_33 a i z) rfl) q3))
      have c_42 : M36.2.1 1 9 = (M.2.1 1 9) := (W_n W35 (by decide) c_34)
      have t_43 : (M36.2.1 1 9).toInt = (M.2.1 1 9).toInt := congrArg Int32.toInt c_42
      have t_44 : (M36.2.1 32 (s.toInt).toNat).toInt = (M.2.1 32 (s.toInt).toNat).toInt := congrArg Int32.toInt (W_n W35 (by omega) (W_n W30 (by omega) rfl))
      have c_45 : M36.2.1 1 10 = (1 : Int32) := (W_n W35 (by decide) (W_e W30))
      have k_46 : (1 : Int32).toInt = 1 := rfl
      have t_47 : (M36.2.1 1 10).toInt = (1 : Int32).toInt := congrArg Int32.toInt c_45
      have c_48 : M36.2.1 1 11 = (M.2.1 1 9) := (W_e W35)
      have t_49 : (M36.2.1 1 11).toInt = (M.2.1 1 9).toInt := congrArg Int32.toInt c_48
      exact h (0 : Int32) M36 hG37 F38 (by decide) (by decide) j_41 (by omega) (by omega) (by omega)
    · refine to_i (pc := 27) rw_102_27 rfl ?_
      refine to_c (pc := 29) rw_102_29 (x := (6 : Int32)) rfl rfl ?_
      refine b_cgt (pc := 31) rw_102_31 (A := v26.toInt) (B := 6) rfl rfl (fun h50 => ?_) (fun h50 => ?_)
      · refine to_an (pc := 46) rw_102_46 rfl ?_
        refine to_c (pc := 47) rw_102_47 (x := (1 : Int32)) rfl rfl ?_
        refine s_v (pc := 48) rw_102_48 (dp0 hd (by decide)) (ls0 := [.ref 1, .int (1 : Int32)]) rfl (Nat.le_of_ble_eq_true rfl) (Nat.le_of_ble_eq_true rfl) rfl (to_rc rfl rfl rfl (g_o hG rfl)) rfl ?_
        refine to_an (pc := 0) rw_84_0 rfl ?_
        refine to_in (pc := 1) rw_84_1 rfl ?_
        refine s_pI (pc := 2) rw_84_2 hG rfl (fun M52 W51 => ?_)
        have hG53 := g_wf hG W51 rfl rfl (by decide)
        have F54 := FR.w F0 W51 (show 1 = 1 ∧ 6 ≤ 10 ∧ 10 ≤ 11 ∨ 1 = 32 by decide)
        refine to_an (pc := 5) rw_84_5 rfl ?_
        refine to_an (pc := 6) rw_84_6 rfl ?_
        have c_55 : M52.2.1 1 9 = (M.2.1 1 9) := (W_n W51 (by decide) rfl)
        refine tt_gI (pc := 7) rw_84_7 (g_o hG53 rfl) (v := (M.2.1 1 9)) c_55 ?_
        refine s_pI (pc := 10) rw_84_10 hG53 rfl (fun M57 W56 => ?_)
        have hG58 := g_wf hG53 W56 rfl rfl (by decide)
        have F59 := FR.w F54 W56 (show 1 = 1 ∧ 6 ≤ 11 ∧ 11 ≤ 11 ∨ 1 = 32 by decide)
        refine to_c (pc := 13) rw_84_13 (x := (0 : Int32)) rfl rfl ?_
        refine s_r1 (pc := 14) rw_84_14 (A := 0) rfl (by decide) ?_
        refine s_r1 (pc := 51) rw_102_51 (A := 0) rfl (by decide) ?_
        have k_60 : (0 : Int32).toInt = 0 := rfl
        have z_61 := x_pk_n (t := t) (nn := nn) (a := a) (by omega)
        have j_62 := (CS_f (fun a i z => W_n W56 (tg_32 a i z) rfl) (CS_f (fun a i z => W_n W51 (tg_33 a i z) rfl) q3))
        have c_63 : M57.2.1 1 9 = (M.2.1 1 9) := (W_n W56 (by decide) c_55)
        have t_64 : (M57.2.1 1 9).toInt = (M.2.1 1 9).toInt := congrArg Int32.toInt c_63
        have t_65 : (M57.2.1 32 (s.toInt).toNat).toInt = (M.2.1 32 (s.toInt).toNat).toInt := congrArg Int32.toInt (W_n W56 (by omega) (W_n W51 (by omega) rfl))
        have c_66 : M57.2.1 1 10 = (1 : Int32) := (W_n W56 (by decide) (W_e W51))
        have k_67 : (1 : Int32).toInt = 1 := rfl
        have t_68 : (M57.2.1 1 10).toInt = (1 : Int32).toInt := congrArg Int32.toInt c_66
        have c_69 : M57.2.1 1 11 = (M.2.1 1 9) := (W_e W56)
        have t_70 : (M57.2.1 1 11).toInt = (M.2.1 1 9).toInt := congrArg Int32.toInt c_69
        exact h (0 : Int32) M57 hG58 F59 (by decide) (by decide) j_62 (by omega) (by omega) (by omega)
      · refine to_an (pc := 34) rw_102_34 rfl ?_
        refine tt_gI (pc := 35) rw_102_35 (g_o hG rfl) (v := (M.2.1 1 8)) rfl ?_
        refine to_i (pc := 38) rw_102_38 rfl ?_
        refine to_c (pc := 40) rw_102_40 (x := (25 : Int32)) rfl rfl ?_
        refine s_opE (pc := 42) rw_102_42 (w := v26 <<< (25 : Int32)) rfl (fun v71 e72 => ?_)
        have z_73 := i_shl25 (by omega) (by omega) e72
        refine b_ceq (pc := 43) rw_102_43 (A := (M.2.1 1 8).toInt) (B := v71.toInt) rfl rfl (fun h74 => ?_) (fun h74 => ?_)
        · refine to_an (pc := 52) rw_102_52 rfl ?_
          refine to_in (pc := 53) rw_102_53 rfl ?_
          refine to_i (pc := 54) rw_102_54 rfl ?_
          refine to_c (pc := 56) rw_102_56 (x := (1 : Int32)) rfl rfl ?_
          refine s_sub (pc := 57) rw_102_57 (A := v26.toInt) (B := 1) rfl rfl (by omega) (fun v75 e76 => ?_)
          refine s_ias (pc := 58) rw_102_58 hG rfl (n := 40) rfl (A := s.toInt) rfl (by omega) (by omega) (fun M78 W77 => ?_)
          have hG79 := g_w hG W77 (A := v75.toInt) rfl (lo := 0) (hi := 5) rfl rfl (by omega) (by decide)
          have F80 := FR.w F0 W77 (show 32 = 1 ∧ 6 ≤ (s.toInt).toNat ∧ (s.toInt).toNat ≤ 11 ∨ 32 = 32 by omega)
          refine to_an (pc := 59) rw_102_59 rfl ?_
          refine s_v (pc := 60) rw_102_60 (dp0 hd (by decide)) (ls0 := [.ref 1]) rfl (Nat.le_of_ble_eq_true rfl) (Nat.le_of_ble_eq_true rfl) rfl (to_rc rfl rfl rfl (g_o hG79 rfl)) rfl ?_
          have j_81 := (CS_f (fun a i z => W_n W77 (tg_115 a i _ z) rfl) q3)
          have c_82 : M78.2.1 1 9 = (M.2.1 1 9) := (W_n W77 (fun z => absurd z.1 (by decide)) rfl)
          have t_83 : (M78.2.1 1 9).toInt = (M.2.1 1 9).toInt := congrArg Int32.toInt c_82
          refine E_83 hX (dp1 hd (by decide)) hG79 j_81 (by omega) (t := t) (nn := nn) (a := a) (fun M88 hG85 F84 p_86 p_87 => ?_)
          have F89 := FR.c F80 F84 tg_112
          refine to_c (pc := 63) rw_102_63 (x := (1 : Int32)) rfl rfl ?_
          refine s_r1 (pc := 64) rw_102_64 (A := 1) rfl (by decide) ?_
          have k_90 : (1 : Int32).toInt = 1 := rfl
          have z_91 := x_pk_y (t := t) (nn := nn) (a := a) (l := v26.toInt) (by omega) (by omega) (by omega) (by omega)
          have t_92 : (M78.2.1 32 (s.toInt).toNat).toInt = v75.toInt := congrArg Int32.toInt (W_e W77)
          have t_93 : (M88.2.1 32 (s.toInt).toNat).toInt = (M78.2.1 32 (s.toInt).toNat).toInt := congrArg Int32.toInt (F_n F84 (show ¬ (32 = 1 ∧ 6 ≤ ((s.toInt).toNat) ∧ ((s.toInt).toNat) ≤ 9) by omega) rfl)
          have c_94 : M88.2.1 1 10 = (M.2.1 1 10) := (F_n F84 (show ¬ (1 = 1 ∧ 6 ≤ 10 ∧ 10 ≤ 9) by decide) (W_n W77 (fun z => absurd z.1 (by decide)) rfl))
          have t_95 : (M88.2.1 1 10).toInt = (M.2.1 1 10).toInt := congrArg Int32.toInt c_94
          have c_96 : M88.2.1 1 11 = (M.2.1 1 11) := (F_n F84 (show ¬ (1 = 1 ∧ 6 ≤ 11 ∧ 11 ≤ 9) by decide) (W_n W77 (fun z => absurd z.1 (by decide)) rfl))
          have t_97 : (M88.2.1 1 11).toInt = (M.2.1 1 11).toInt := congrArg Int32.toInt c_96
          exact h (1 : Int32) M88 hG85 F89 (by decide) (by decide) p_86 (by omega) (by omega) (by omega)
        · refine to_an (pc := 46) rw_102_46 rfl ?_
          refine to_c (pc := 47) rw_102_47 (x := (1 : Int32)) rfl rfl ?_
          refine s_v (pc := 48) rw_102_48 (dp0 hd (by decide)) (ls0 := [.ref 1, .int (1 : Int32)]) rfl (Nat.le_of_ble_eq_true rfl) (Nat.le_of_ble_eq_true rfl) rfl (to_rc rfl rfl rfl (g_o hG rfl)) rfl ?_
          refine to_an (pc := 0) rw_84_0 rfl ?_
          refine to_in (pc := 1) rw_84_1 rfl ?_
          refine s_pI (pc := 2) rw_84_2 hG rfl (fun M99 W98 => ?_)
          have hG100 := g_wf hG W98 rfl rfl (by decide)
          have F101 := FR.w F0 W98 (show 1 = 1 ∧ 6 ≤ 10 ∧ 10 ≤ 11 ∨ 1 = 32 by decide)
          refine to_an (pc := 5) rw_84_5 rfl ?_
          refine to_an (pc := 6) rw_84_6 rfl ?_
          have c_102 : M99.2.1 1 9 = (M.2.1 1 9) := (W_n W98 (by decide) rfl)
          refine tt_gI (pc := 7) rw_84_7 (g_o hG100 rfl) (v := (M.2.1 1 9)) c_102 ?_
          refine s_pI (pc := 10) rw_84_10 hG100 rfl (fun M104 W103 => ?_)
          have hG105 := g_wf hG100 W103 rfl rfl (by decide)
          have F106 := FR.w F101 W103 (show 1 = 1 ∧ 6 ≤ 11 ∧ 11 ≤ 11 ∨ 1 = 32 by decide)
          refine to_c (pc := 13) rw_84_13 (x := (0 : Int32)) rfl rfl ?_
          refine s_r1 (pc := 14) rw_84_14 (A := 0) rfl (by decide) ?_
          refine s_r1 (pc := 51) rw_102_51 (A := 0) rfl (by decide) ?_
          have k_107 : (0 : Int32).toInt = 0 := rfl
          have z_108 := x_pk_n (t := t) (nn := nn) (a := a) (by omega)
          have j_109 := (CS_f (fun a i z => W_n W103 (tg_32 a i z) rfl) (CS_f (fun a i z => W_n W98 (tg_33 a i z) rfl) q3))
          have c_110 : M104.2.1 1 9 = (M.2.1 1 9) := (W_n W103 (by decide) c_102)
          have t_111 : (M104.2.1 1 9).toInt = (M.2.1 1 9).toInt := congrArg Int32.toInt c_110
          have t_112 : (M104.2.1 32 (s.toInt).toNat).toInt = (M.2.1 32 (s.toInt).toNat).toInt := congrArg Int32.toInt (W_n W103 (by omega) (W_n W98 (by omega) rfl))
          have c_113 : M104.2.1 1 10 = (1 : Int32) := (W_n W103 (by decide) (W_e W98))
          have k_114 : (1 : Int32).toInt = 1 := rfl
          have t_115 : (M104.2.1 1 10).toInt = (1 : Int32).toInt := congrArg Int32.toInt c_113
          have c_116 : M104.2.1 1 11 = (M.2.1 1 9) := (W_e W103)
          have t_117 : (M104.2.1 1 11).toInt = (M.2.1 1 9).toInt := congrArg Int32.toInt c_116
          exact h (0 : Int32) M104 hG105 F106 (by decide) (by decide) j_109 (by omega) (by omega) (by omega)

end
section
theorem tg_116 : ∀ a i : Nat, (a = 1 ∧ (i = 10 ∨ i = 11)) → (a = 1 ∧ 6 ≤ i ∧ i ≤ 11 ∨ a = 33) := fun a i z => by omega
theorem tg_117 : ∀ a i : Nat, (a = 1 ∧ 6 ≤ i ∧ i ≤ 9) → (a = 1 ∧ 6 ≤ i ∧ i ≤ 11 ∨ a = 33) := fun a i z => by omega
theorem tg_118 : ∀ a i : Nat, (a < 0) → (a = 1 ∧ 6 ≤ i ∧ i ≤ 11 ∨ a = 33) := fun a i z => by omega
set_option maxRecDepth 4000 in
set_option maxHeartbeats 0 in
theorem E_103 {X : mm_X} {d : Nat} {M : mm_M} {Q : Option Value → mm_M → Prop} {p : Nat} {s : Int32} {t : Nat → Int} {nn : Int} {a : Int} {sg : x_S} (hX : g_X X) (hd : 2 ≤ d) (hG : g_G M) (hp : p = 49 ∨ p = 58) (q1 : 0 ≤ s.toInt) (q2 : s.toInt ≤ 39) (q3 : CS M t nn) (q4 : (M.2.1 1 9).toInt = a) (q5 : PLs M p sg) (h : ∀ (r : Int32) (M1 : mm_M), g_G M1 → FR md_w103 M M1 → (0 ≤ r.toInt) → (r.toInt ≤ 1) → CS M1 t nn → (r.toInt = 1 → a < (M1.2.1 1 9).toInt) → ((r.toInt = 1 → ∀ k : Int → x_WR, x_wnd t nn sg a k = k (M1.2.1 1 9).toInt)) → ((r.toInt = 0 → ∀ k : Int → x_WR, x_wnd t nn sg a k = Sum.inl ((M1.2.1 1 10).toInt, (M1.2.1 1 11).toInt))) → Q (some (.int r)) M1) : mm_T X d 103 0 [.ref 28, .ref 1, .ref p, .ref 11, .int s, .null, .null, .null, .null] [] M Q := by
  have F0 : FR md_w103 M M := FR.rf
  have c_1 := CS_u q3 (a := a) (by omega)
  unfold x_C at c_1
  have z_2 := c_1.2
  have z_3 := q5.2.1
  have z_4 := q5.2.2.1
  have z_5 := q5.2.2.2.1
  have z_6 := q5.1
  have z_7 := z_6.1
  have z_8 := z_6.2.1
  have z_9 := z_6.2.2.1
  have z_10 := z_6.2.2.2.1
  have z_11 := z_6.2.2.2.2.1
  have z_12 := z_6.2.2.2.2.2.1
  have b_13 := g_b hG (a := p) (i := 0) (lo := 10) (hi := 60) (by rcases hp with rfl | rfl <;> rfl) (by rcases hp with rfl | rfl <;> rfl)
  have b_14 := g_b hG (a := p) (i := 2) (lo := 0) (hi := 8) (by rcases hp with rfl | rfl <;> rfl) (by rcases hp with rfl | rfl <;> rfl)
  have b_15 := g_b hG (a := p) (i := 3) (lo := 0) (hi := 12) (by rcases hp with rfl | rfl <;> rfl) (by rcases hp with rfl | rfl <;> rfl)
  refine to_c (pc := 0) rw_103_0 (x := (0 : Int32)) rfl rfl ?_
  refine to_is (pc := 1) rw_103_1 (ls2 := [.ref 28, .ref 1, .ref p, .ref 11, .int s, .int (0 : Int32), .null, .null, .null]) rfl rfl ?_
  refine to_an (pc := 3) rw_103_3 rfl ?_
  refine tt_gI (pc := 4) rw_103_4 (g_o hG (by rcases hp with rfl | rfl <;> rfl)) (v := (M.2.1 p 0)) rfl ?_
  refine to_c (pc := 7) rw_103_7 (x := (1 : Int32)) rfl rfl ?_
  refine s_sub (pc := 8) rw_103_8 (A := (M.2.1 p 0).toInt) (B := 1) rfl rfl (by omega) (fun v16 e17 => ?_)
  refine to_is (pc := 9) rw_103_9 (ls2 := [.ref 28, .ref 1, .ref p, .ref 11, .int s, .int (0 : Int32), .int v16, .null, .null]) rfl rfl ?_
  refine to_an (pc := 11) rw_103_11 rfl ?_
  refine tt_gI (pc := 12) rw_103_12 (g_o hG rfl) (v := (M.2.1 1 7)) rfl ?_
  refine to_c (pc := 15) rw_103_15 (x := (3 : Int32)) rfl rfl ?_
  refine b_cne (pc := 16) rw_103_16 (A := (M.2.1 1 7).toInt) (B := 3) rfl rfl (fun h18 => ?_) (fun h18 => ?_)
  · have z_19 : ¬ x_kind t nn a = 2 := by omega
    clear c_1
    refine to_an (pc := 109) rw_103_109 rfl ?_
    refine to_c (pc := 110) rw_103_110 (x := (0 : Int32)) rfl rfl ?_
    refine to_i (pc := 111) rw_103_111 rfl ?_
    refine s_v (pc := 113) rw_103_113 (dp0 hd (by decide)) (ls0 := [.ref 1, .int (0 : Int32), .int v16]) rfl (Nat.le_of_ble_eq_true rfl) (Nat.le_of_ble_eq_true rfl) rfl (to_rc rfl rfl rfl (g_o hG rfl)) rfl ?_
    have k_20 : (0 : Int32).toInt = 0 := rfl
    refine E_88f hX (dp1 hd (by decide)) hG q3 (by omega) (l := (0 : Int32)) (m := v16) (t := t) (nn := nn) (a := a) (fun r21 M31 hG23 F22 p_24 p_25 p_26 p_27 p_28 p_29 p_30 => ?_)
    have F32 := FR.c F0 F22 tg_116
    rcases (show r21.toInt = 0 ∨ r21.toInt = 1 by omega) with h33 | h33
    · skip
      have p_34 := p_27 (by omega)
      have p_35 := p_28 (by omega)
      clear p_26 p_27 p_28
      have z_36 := x_val_b (t := t) (nn := nn) (a := a)
      refine b_ine_f (pc := 116) rw_103_116 (A := r21.toInt) rfl (by omega) ?_
      refine to_c (pc := 119) rw_103_119 (x := (0 : Int32)) rfl rfl ?_
      refine s_r1 (pc := 120) rw_103_120 (A := 0) rfl (by decide) ?_
      have c_37 : M31.2.1 1 9 = (M.2.1 1 9) := (F_n F22 (show ¬ (1 = 1 ∧ (9 = 10 ∨ 9 = 11)) by decide) rfl)
      have t_38 : (M31.2.1 1 9).toInt = (M.2.1 1 9).toInt := congrArg Int32.toInt c_37
      have j_39 := (CS_f (tg_34 F22) q3)
      exact h (0 : Int32) M31 hG23 F32 (by decide) (by decide) j_39 (by omega) (fun z => absurd z (by decide)) (fun _ k9 => if g9 : x_kind t nn a = 3 then winl (by omega) (by omega) ((p_ndn (by omega)).trans (p_nb2 g9 (by omega))) else winl (by omega) (by omega) ((p_ndn (by omega)).trans (p_nb1 g9)))
    · skip
      have p_40 := p_26 (by omega)
      clear p_26 p_27 p_28
      have c_41 : M31.2.1 1 8 = (M.2.1 1 8) := (F_n F22 (show ¬ (1 = 1 ∧ (8 = 10 ∨ 8 = 11)) by decide) rfl)
      have z_42 := x_val_b (t := t) (nn := nn) (a := a) (by omega)
      refine b_ine_t (pc := 116) rw_103_116 (A := r21.toInt) rfl (by omega) ?_
      refine to_an (pc := 121) rw_103_121 rfl ?_
      refine s_gR (pc := 122) rw_103_122 hG23 rfl (v := 33) rfl ?_
      refine to_i (pc := 125) rw_103_125 rfl ?_
      refine to_dup2 (pc := 127) rw_103_127 ?_
      refine s_lalE (pc := 128) rw_103_128 hG23 rfl (n := 40) rfl (A := s.toInt) rfl (by omega) (by omega) (fun l43 w_44 => ?_)
      refine to_cl (pc := 129) rw_103_129 rfl (x := (1 : Int64)) rfl ?_
      refine to_i (pc := 130) rw_103_130 rfl ?_
      refine to_an (pc := 132) rw_103_132 rfl ?_
      refine tt_gI (pc := 133) rw_103_133 (g_o hG23 rfl) (v := (M.2.1 1 8)) c_41 ?_
      refine s_add (pc := 136) rw_103_136 (A := 0) (B := (M.2.1 1 8).toInt) rfl rfl (by omega) (fun v45 e46 => ?_)
      refine to_2s (pc := 137) rw_103_137 (v := ((1 : Int64) <<< (v45.toInt64 &&& 63))) rfl ?_
      refine to_2l (pc := 138) rw_103_138 (v := (l43 ||| ((1 : Int64) <<< (v45.toInt64 &&& 63)))) rfl ?_
      refine s_las (pc := 139) rw_103_139 hG23 rfl (n := 40) rfl (A := s.toInt) rfl (by omega) (by omega) (fun M48 W47 => ?_)
      have hG49 := g_wl hG23 W47
      have F50 := FR.wl F32 W47 (show 33 = 1 ∧ 6 ≤ (s.toInt).toNat ∧ (s.toInt).toNat ≤ 11 ∨ 33 = 33 by omega)
      refine to_an (pc := 140) rw_103_140 rfl ?_
      refine s_v (pc := 141) rw_103_141 (dp0 hd (by decide)) (ls0 := [.ref 1]) rfl (Nat.le_of_ble_eq_true rfl) (Nat.le_of_ble_eq_true rfl) rfl (to_rc rfl rfl rfl (g_o hG49 rfl)) rfl ?_
      have j_51 := (CS_f (fun a i z => W_l W47 rfl) (CS_f (tg_34 F22) q3))
      have c_52 : M48.2.1 1 9 = (M.2.1 1 9) := (W_l W47 (F_n F22 (show ¬ (1 = 1 ∧ (9 = 10 ∨ 9 = 11)) by decide) rfl))
      have t_53 : (M48.2.1 1 9).toInt = (M.2.1 1 9).toInt := congrArg Int32.toInt c_52
      refine E_83 hX (dp1 hd (by decide)) hG49 j_51 (by omega) (t := t) (nn := nn) (a := a) (fun M58 hG55 F54 p_56 p_57 => ?_)
      have F59 := FR.c F50 F54 tg_117
      refine to_c (pc := 144) rw_103_144 (x := (1 : Int32)) rfl rfl ?_
      refine s_r1 (pc := 145) rw_103_145 (A := 1) rfl (by decide) ?_
      have k_60 : (1 : Int32).toInt = 1 := rfl
      have z_61 := x_ns_lt (t := t) (nn := nn) (a := a) (by omega) (x_lt_k (t := t) (by omega) (by omega))
      exact h (1 : Int32) M58 hG55 F59 (by decide) (by decide) p_56 (by omega) (fun _ k9 => by rw [show (M58.2.1 1 9).toInt = (x_ns t nn a) by omega]; exact (p_ndn (by omega)).trans (p_nb (by omega) (by omega))) (fun z => absurd z (by decide))
  · have z_62 : x_kind t nn a = 2 ∧ x_val t nn a = (M.2.1 1 8).toInt := by omega
    clear c_1
    refine to_an (pc := 19) rw_103_19 rfl ?_
    refine to_an (pc := 20) rw_103_20 rfl ?_
    refine tt_gI (pc := 21) rw_103_21 (g_o hG rfl) (v := (M.2.1 1 8)) rfl ?_
    refine s_v (pc := 24) rw_103_24 (dp0 hd (by decide)) (ls0 := [.ref p, .int (M.2.1 1 8)]) rfl (Nat.le_of_ble_eq_true rfl) (Nat.le_of_ble_eq_true rfl) rfl (to_rc rfl rfl rfl (g_o hG (by rcases hp with rfl | rfl <;> rfl))) rfl ?_
    refine to_an (pc := 0) rw_53_0 rfl ?_
    refine s_gR (pc := 1) rw_53_1 hG (by rcases hp with rfl | rfl <;> rfl) (v := (p + 6)) (by rcases hp with rfl | rfl <;> rfl) ?_
    refine to_an (pc := 4) rw_53_4 rfl ?_
    refine tt_gI (pc := 5) rw_53_5 (g_o hG (by rcases hp with rfl | rfl <;> rfl)) (v := (M.2.1 p 3)) rfl ?_
    refine to_in (pc := 8) rw_53_8 rfl ?_
    refine s_s (pc := 9) rw_53_9 (dp1 hd (by decide)) (ls0 := [.ref (p + 6), .int (M.2.1 p 3), .int (M.2.1 1 8), .null]) rfl (Nat.le_of_ble_eq_true rfl) (Nat.le_of_ble_eq_true rfl) rfl (to_rcs rfl rfl) rfl ?_
    refine E_54g hX (dp2 hd (by decide)) hG (by omega) (by omega) (by omega) (g := (p + 6)) (s := (M.2.1 p 3)) (x := (M.2.1 1 8)) (fun r63 M69 hG65 F64 p_66 p_67 p_68 => ?_)
    have F70 := FR.c F0 F64 tg_118
    have z_71 := PLs_w (v := (M.2.1 1 8).toInt) q5 (n := (M.2.1 p 3).toInt) (by omega)
    have z_72 := x_fn_v (s := sg) (r := 6) (v := (M.2.1 1 8).toInt) (w := x_val t nn a) (by omega)
    have z_73 := x_fn_b6 (s := sg) (v := x_val t nn a) q5.1
    refine to_r0 (pc := 12) rw_53_12 ?_
    refine to_is (pc := 27) rw_103_27 (ls2 := [.ref 28, .ref 1, .ref p, .ref 11, .int s, .int (0 : Int32), .int v16, .int r63, .null]) rfl rfl ?_
    refine to_an (pc := 29) rw_103_29 rfl ?_
    refine to_i (pc := 30) rw_103_30 rfl ?_
    refine s_v (pc := 32) rw_103_32 (dp0 hd (by decide)) (ls0 := [.ref p, .int r63]) rfl (Nat.le_of_ble_eq_true rfl) (Nat.le_of_ble_eq_true rfl) rfl (to_rc rfl rfl rfl (g_o hG65 (by rcases hp with rfl | rfl <;> rfl))) rfl ?_
    refine to_in (pc := 0) rw_44_0 rfl ?_
    refine b_ilt (pc := 1) rw_44_1 (A := r63.toInt) rfl (fun h74 => ?_) (fun h74 => ?_)
    · refine to_c (pc := 16) rw_44_16 (x := (0 : Int32)) rfl rfl ?_
      refine s_r1 (pc := 17) rw_44_17 (A := 0) rfl (by decide) ?_
      refine b_ieq_t (pc := 35) rw_103_35 (A := 0) rfl (by decide) ?_
      refine to_an (pc := 61) rw_103_61 rfl ?_
      refine to_an (pc := 62) rw_103_62 rfl ?_
      have c_75 : M69.2.1 1 8 = (M.2.1 1 8) := (F_n F64 (show ¬ (1 < 0) by decide) rfl)
      refine tt_gI (pc := 63) rw_103_63 (g_o hG65 rfl) (v := (M.2.1 1 8)) c_75 ?_
      refine s_v (pc := 66) rw_103_66 (dp0 hd (by decide)) (ls0 := [.ref p, .int (M.2.1 1 8)]) rfl (Nat.le_of_ble_eq_true rfl) (Nat.le_of_ble_eq_true rfl) rfl (to_rc rfl rfl rfl (g_o hG65 (by rcases hp with rfl | rfl <;> rfl))) rfl ?_
      refine to_an (pc := 0) rw_52_0 rfl ?_
      refine s_gR (pc := 1) rw_52_1 hG65 (by rcases hp with rfl | rfl <;> rfl) (v := (p + 1)) (by rcases hp with rfl | rfl <;> rfl) ?_
      refine to_an (pc := 4) rw_52_4 rfl ?_
      have c_76 : M69.2.1 p 2 = (M.2.1 p 2) := (F_n F64 (show ¬ (p < 0) by omega) rfl)
      refine tt_gI (pc := 5) rw_52_5 (g_o hG65 (by rcases hp with rfl | rfl <;> rfl)) (v := (M.2.1 p 2)) c_76 ?_
      refine to_in (pc := 8) rw_52_8 rfl ?_
      refine s_s (pc := 9) rw_52_9 (dp1 hd (by decide)) (ls0 := [.ref (p + 1), .int (M.2.1 p 2), .int (M.2.1 1 8), .null]) rfl (Nat.le_of_ble_eq_true rfl) (Nat.le_of_ble_eq_true rfl) rfl (to_rcs rfl rfl) rfl ?_
      have j_77 := (PLs_f (fun a i z => F_n F64 (show ¬ (a < 0) by omega) rfl) q5)
      refine E_54f hX (dp2 hd (by decide)) hG65 (by omega) (by omega) (by omega) (f := (p + 1)) (s := (M.2.1 p 2)) (x := (M.2.1 1 8)) (fun r78 M84 hG80 F79 p_81 p_82 p_83 => ?_)
      have F85 := FR.c F70 F79 tg_118
      have z_86 := PLs_n (v := (M.2.1 1 8).toInt) j_77 (n := (M.2.1 p 2).toInt) (by omega)
      have z_87 := x_fn_v (s := sg) (r := 1) (v := (M.2.1 1 8).toInt) (w := x_val t nn a) (by omega)
      have z_88 := x_fn_b (s := sg) (v := x_val t nn a) j_77.1
      refine to_r0 (pc := 12) rw_52_12 ?_
      refine to_is (pc := 69) rw_103_69 (ls2 := [.ref 28, .ref 1, .ref p, .ref 11, .int s, .int (0 : Int32), .int v16, .int r63, .int r78]) rfl rfl ?_
      refine to_an (pc := 71) rw_103_71 rfl ?_
      refine to_i (pc := 72) rw_103_72 rfl ?_
      refine s_v (pc := 74) rw_103_74 (dp0 hd (by decide)) (ls0 := [.ref p, .int r78]) rfl (Nat.le_of_ble_eq_true rfl) (Nat.le_of_ble_eq_true rfl) rfl (to_rc rfl rfl rfl (g_o hG80 (by rcases hp with rfl | rfl <;> rfl))) rfl ?_
      refine to_in (pc := 0) rw_43_0 rfl ?_
      refine b_ilt (pc := 1) rw_43_1 (A := r78.toInt) rfl (fun h89 => ?_) (fun h89 => ?_)
      · refine to_c (pc := 16) rw_43_16 (x := (0 : Int32)) rfl rfl ?_
        refine s_r1 (pc := 17) rw_43_17 (A := 0) rfl (by decide) ?_
        refine b_ine_f (pc := 77) rw_103_77 (A := 0) rfl (by decide) ?_
        refine to_an (pc := 80) rw_103_80 rfl ?_
        refine to_c (pc := 81) rw_103_81 (x := (4 : Int32)) rfl rfl ?_
        refine s_v (pc := 82) rw_103_82 (dp0 hd (by decide)) (ls0 := [.ref 1, .int (4 : Int32)]) rfl (Nat.le_of_ble_eq_true rfl) (Nat.le_of_ble_eq_true rfl) rfl (to_rc rfl rfl rfl (g_o hG80 rfl)) rfl ?_
        refine to_an (pc := 0) rw_84_0 rfl ?_
        refine to_in (pc := 1) rw_84_1 rfl ?_
        refine s_pI (pc := 2) rw_84_2 hG80 rfl (fun M91 W90 => ?_)
        have hG92 := g_wf hG80 W90 rfl rfl (by decide)
        have F93 := FR.w F85 W90 (show 1 = 1 ∧ 6 ≤ 10 ∧ 10 ≤ 11 ∨ 1 = 33 by decide)
        refine to_an (pc := 5) rw_84_5 rfl ?_
        refine to_an (pc := 6) rw_84_6 rfl ?_
        have c_94 : M91.2.1 1 9 = (M.2.1 1 9) := (W_n W90 (by decide) (F_n F79 (show ¬ (1 < 0) by decide) (F_n F64 (show ¬ (1 < 0) by decide) rfl)))
        refine tt_gI (pc := 7) rw_84_7 (g_o hG92 rfl) (v := (M.2.1 1 9)) c_94 ?_
        refine s_pI (pc := 10) rw_84_10 hG92 rfl (fun M96 W95 => ?_)
        have hG97 := g_wf hG92 W95 rfl rfl (by decide)
        have F98 := FR.w F93 W95 (show 1 = 1 ∧ 6 ≤ 11 ∧ 11 ≤ 11 ∨ 1 = 33 by decide)
        refine to_c (pc := 13) rw_84_13 (x := (0 : Int32)) rfl rfl ?_
        refine s_r1 (pc := 14) rw_84_14 (A := 0) rfl (by decide) ?_
        refine s_r1 (pc := 85) rw_103_85 (A := 0) rfl (by decide) ?_
        have k_99 : (0 : Int32).toInt = 0 := rfl
        have c_100 : M96.2.1 1 9 = (M.2.1 1 9) := (W_n W95 (by decide) c_94)
        have t_101 : (M96.2.1 1 9).toInt = (M.2.1 1 9).toInt := congrArg Int32.toInt c_100
        have j_102 := (CS_f (fun a i z => W_n W95 (tg_32 a i z) rfl) (CS_f (fun a i z => W_n W90 (tg_33 a i z) rfl) (CS_f (tg_28 F79) (CS_f (tg_28 F64) q3))))
        have c_103 : M96.2.1 1 10 = (4 : Int32) := (W_n W95 (by decide) (W_e W90))
        have k_104 : (4 : Int32).toInt = 4 := rfl
        have t_105 : (M96.2.1 1 10).toInt = (4 : Int32).toInt := congrArg Int32.toInt c_103
        have c_106 : M96.2.1 1 11 = (M.2.1 1 9) := (W_e W95)
        have t_107 : (M96.2.1 1 11).toInt = (M.2.1 1 9).toInt := congrArg Int32.toInt c_106
        exact h (0 : Int32) M96 hG97 F98 (by decide) (by decide) j_102 (by omega) (fun z => absurd z (by decide)) (fun _ k9 => winl (by omega) (by omega) (p_ndx (by omega) (by omega) (by omega)))
      · refine to_in (pc := 4) rw_43_4 rfl ?_
        refine to_an (pc := 5) rw_43_5 rfl ?_
        have c_108 : M84.2.1 p 2 = (M.2.1 p 2) := (F_n F79 (show ¬ (p < 0) by omega) c_76)
        refine tt_gI (pc := 6) rw_43_6 (g_o hG80 (by rcases hp with rfl | rfl <;> rfl)) (v := (M.2.1 p 2)) c_108 ?_
        refine b_cge (pc := 9) rw_43_9 (A := r78.toInt) (B := (M.2.1 p 2).toInt) rfl rfl (fun h109 => ?_) (fun h109 => ?_)
        · refine to_c (pc := 16) rw_43_16 (x := (0 : Int32)) rfl rfl ?_
          refine s_r1 (pc := 17) rw_43_17 (A := 0) rfl (by decide) ?_
          refine b_ine_f (pc := 77) rw_103_77 (A := 0) rfl (by decide) ?_
          refine to_an (pc := 80) rw_103_80 rfl ?_
          refine to_c (pc := 81) rw_103_81 (x := (4 : Int32)) rfl rfl ?_
          refine s_v (pc := 82) rw_103_82 (dp0 hd (by decide)) (ls0 := [.ref 1, .int (4 : Int32)]) rfl (Nat.le_of_ble_eq_true rfl) (Nat.le_of_ble_eq_true rfl) rfl (to_rc rfl rfl rfl (g_o hG80 rfl)) rfl ?_
          refine to_an (pc := 0) rw_84_0 rfl ?_
          refine to_in (pc := 1) rw_84_1 rfl ?_
          refine s_pI (pc := 2) rw_84_2 hG80 rfl (fun M111 W110 => ?_)
          have hG112 := g_wf hG80 W110 rfl rfl (by decide)
          have F113 := FR.w F85 W110 (show 1 = 1 ∧ 6 ≤ 10 ∧ 10 ≤ 11 ∨ 1 = 33 by decide)
          refine to_an (pc := 5) rw_84_5 rfl ?_
          refine to_an (pc := 6) rw_84_6 rfl ?_
          have c_114 : M111.2.1 1 9 = (M.2.1 1 9) := (W_n W110 (by decide) (F_n F79 (show ¬ (1 < 0) by decide) (F_n F64 (show ¬ (1 < 0) by decide) rfl)))
          refine tt_gI (pc := 7) rw_84_7 (g_o hG112 rfl) (v := (M.2.1 1 9)) c_114 ?_
          refine s_pI (pc := 10) rw_84_10 hG112 rfl (fun M116 W115 => ?_)
          have hG117 := g_wf hG112 W115 rfl rfl (by decide)
          have F118 := FR.w F113 W115 (show 1 = 1 ∧ 6 ≤ 11 ∧ 11 ≤ 11 ∨ 1 = 33 by decide)
          refine to_c (pc := 13) rw_84_13 (x := (0 : Int32)) rfl rfl ?_
          refine s_r1 (pc := 14) rw_84_14 (A := 0) rfl (by decide) ?_
          refine s_r1 (pc := 85) rw_103_85 (A := 0) rfl (by decide) ?_
          have k_119 : (0 : Int32).toInt = 0 := rfl
          have c_120 : M116.2.1 1 9 = (M.2.1 1 9) := (W_n W115 (by decide) c_114)
          have t_121 : (M116.2.1 1 9).toInt = (M.2.1 1 9).toInt := congrArg Int32.toInt c_120
          have j_122 := (CS_f (fun a i z => W_n W115 (tg_32 a i z) rfl) (CS_f (fun a i z => W_n W110 (tg_33 a i z) rfl) (CS_f (tg_28 F79) (CS_f (tg_28 F64) q3))))
          have c_123 : M116.2.1 1 10 = (4 : Int32) := (W_n W115 (by decide) (W_e W110))
          have k_124 : (4 : Int32).toInt = 4 := rfl
          have t_125 : (M116.2.1 1 10).toInt = (4 : Int32).toInt := congrArg Int32.toInt c_123
          have c_126 : M116.2.1 1 11 = (M.2.1 1 9) := (W_e W115)
          have t_127 : (M116.2.1 1 11).toInt = (M.2.1 1 9).toInt := congrArg Int32.toInt c_126
          exact h (0 : Int32) M116 hG117 F118 (by decide) (by decide) j_122 (by omega) (fun z => absurd z (by decide)) (fun _ k9 => winl (by omega) (by omega) (p_ndx (by omega) (by omega) (by omega)))
        · refine to_c (pc := 12) rw_43_12 (x := (1 : Int32)) rfl rfl ?_
          refine to_go (pc := 13) rw_43_13 ?_
          refine s_r1 (pc := 17) rw_43_17 (A := 1) rfl (by decide) ?_
          refine b_ine_t (pc := 77) rw_103_77 (A := 1) rfl (by decide) ?_
          refine to_an (pc := 86) rw_103_86 rfl ?_
          refine s_gR (pc := 87) rw_103_87 hG80 (by rcases hp with rfl | rfl <;> rfl) (v := (p + 3)) (by rcases hp with rfl | rfl <;> rfl) ?_
          refine to_i (pc := 90) rw_103_90 rfl ?_
          refine s_ial (pc := 92) rw_103_92 hG80 (by rcases hp with rfl | rfl <;> rfl) (n := 8) (by rcases hp with rfl | rfl <;> rfl) (by rcases hp with rfl | rfl <;> rfl) (A := r78.toInt) rfl (by omega) (by omega) (lo := 0) (hi := 59) (by rcases hp with rfl | rfl <;> rfl) (by rcases hp with rfl | rfl <;> rfl) (fun v128 w_129 _ _ => ?_)
          have j_130 := (PLs_f (fun a i z => F_n F79 (show ¬ (a < 0) by omega) rfl) j_77)
          have z_131 := PLs_r j_130 3 (by decide) (by decide) (k := r78.toInt) (by omega) (by omega) w_129
          have z_132 := x_row_v (s := sg) (r := 3) (x := r78.toInt) (y := x_fn sg 1 (x_val t nn a)) (by omega)
          have z_133 := j_130.1.2.2.2.2.2.2.2 (x_fn sg 1 (x_val t nn a)) (by omega) (by omega)
          refine to_is (pc := 93) rw_103_93 (ls2 := [.ref 28, .ref 1, .ref p, .ref 11, .int s, .int v128, .int v16, .int r63, .int r78]) rfl rfl ?_
          refine to_an (pc := 95) rw_103_95 rfl ?_
          refine to_i (pc := 96) rw_103_96 rfl ?_
          refine s_v (pc := 98) rw_103_98 (dp0 hd (by decide)) (ls0 := [.ref p, .int r78]) rfl (Nat.le_of_ble_eq_true rfl) (Nat.le_of_ble_eq_true rfl) rfl (to_rc rfl rfl rfl (g_o hG80 (by rcases hp with rfl | rfl <;> rfl))) rfl ?_
          refine to_an (pc := 0) rw_47_0 rfl ?_
          refine s_gR (pc := 1) rw_47_1 hG80 (by rcases hp with rfl | rfl <;> rfl) (v := (p + 4)) (by rcases hp with rfl | rfl <;> rfl) ?_
          refine to_in (pc := 4) rw_47_4 rfl ?_
          refine s_ial (pc := 5) rw_47_5 hG80 (by rcases hp with rfl | rfl <;> rfl) (n := 8) (by rcases hp with rfl | rfl <;> rfl) (by rcases hp with rfl | rfl <;> rfl) (A := r78.toInt) rfl (by omega) (by omega) (lo := 0) (hi := 63) (by rcases hp with rfl | rfl <;> rfl) (by rcases hp with rfl | rfl <;> rfl) (fun v134 w_135 _ _ => ?_)
          have z_136 := PLs_r j_130 4 (by decide) (by decide) (k := r78.toInt) (by omega) (by omega) w_135
          have z_137 := x_row_v (s := sg) (r := 4) (x := r78.toInt) (y := x_fn sg 1 (x_val t nn a)) (by omega)
          refine to_an (pc := 6) rw_47_6 rfl ?_
          refine s_gR (pc := 7) rw_47_7 hG80 (by rcases hp with rfl | rfl <;> rfl) (v := (p + 3)) (by rcases hp with rfl | rfl <;> rfl) ?_
          refine to_in (pc := 10) rw_47_10 rfl ?_
          refine s_ialk (pc := 11) rw_47_11 hG80 (by rcases hp with rfl | rfl <;> rfl) (n := 8) (by rcases hp with rfl | rfl <;> rfl) (by rcases hp with rfl | rfl <;> rfl) (A := r78.toInt) rfl (by omega) (by omega) (v := v128) w_129 ?_
          refine s_sub (pc := 12) rw_47_12 (A := v134.toInt) (B := v128.toInt) rfl rfl (by omega) (fun v140 e141 => ?_)
          refine to_c (pc := 13) rw_47_13 (x := (1 : Int32)) rfl rfl ?_
          refine s_add (pc := 14) rw_47_14 (A := v140.toInt) (B := 1) rfl rfl (by omega) (fun v142 e143 => ?_)
          refine to_r0 (pc := 15) rw_47_15 ?_
          refine to_c (pc := 101) rw_103_101 (x := (1 : Int32)) rfl rfl ?_
          refine s_sub (pc := 102) rw_103_102 (A := v142.toInt) (B := 1) rfl rfl (by omega) (fun v144 e145 => ?_)
          refine to_is (pc := 103) rw_103_103 (ls2 := [.ref 28, .ref 1, .ref p, .ref 11, .int s, .int v128, .int v144, .int r63, .int r78]) rfl rfl ?_
          refine to_an (pc := 105) rw_103_105 rfl ?_
          refine s_v (pc := 106) rw_103_106 (dp0 hd (by decide)) (ls0 := [.ref 1]) rfl (Nat.le_of_ble_eq_true rfl) (Nat.le_of_ble_eq_true rfl) rfl (to_rc rfl rfl rfl (g_o hG80 rfl)) rfl ?_
          have j_146 := (CS_f (tg_28 F79) (CS_f (tg_28 F64) q3))
          have c_147 : M84.2.1 1 9 = (M.2.1 1 9) := (F_n F79 (show ¬ (1 < 0) by decide) (F_n F64 (show ¬ (1 < 0) by decide) rfl))
          have t_148 : (M84.2.1 1 9).toInt = (M.2.1 1 9).toInt := congrArg Int32.toInt c_147
          refine E_83 hX (dp1 hd (by decide)) hG80 j_146 (by omega) (t := t) (nn := nn) (a := a) (fun M153 hG150 F149 p_151 p_152 => ?_)
          have F154 := FR.c F85 F149 tg_117
          refine to_an (pc := 109) rw_103_109 rfl ?_
          refine to_c (pc := 110) rw_103_110 (x := (0 : Int32)) rfl rfl ?_
          refine to_i (pc := 111) rw_103_111 rfl ?_
          refine s_v (pc := 113) rw_103_113 (dp0 hd (by decide)) (ls0 := [.ref 1, .int (0 : Int32), .int v144]) rfl (Nat.le_of_ble_eq_true rfl) (Nat.le_of_ble_eq_true rfl) rfl (to_rc rfl rfl rfl (g_o hG150 rfl)) rfl ?_
          have k_155 : (0 : Int32).toInt = 0 := rfl
          refine E_88f hX (dp1 hd (by decide)) hG150 p_151 (by omega) (l := (0 : Int32)) (m := v144) (t := t) (nn := nn) (a := (x_ns t nn a)) (fun r156 M166 hG158 F157 p_159 p_160 p_161 p_162 p_163 p_164 p_165 => ?_)
          have F167 := FR.c F154 F157 tg_116
          rcases (show r156.toInt = 0 ∨ r156.toInt = 1 by omega) with h168 | h168
          · skip
            have p_169 := p_162 (by omega)
            have p_170 := p_163 (by omega)
            clear p_161 p_162 p_163
            have z_171 := x_val_b (t := t) (nn := nn) (a := (x_ns t nn a))
            refine b_ine_f (pc := 116) rw_103_116 (A := r156.toInt) rfl (by omega) ?_
            refine to_c (pc := 119) rw_103_119 (x := (0 : Int32)) rfl rfl ?_
            refine s_r1 (pc := 120) rw_103_120 (A := 0) rfl (by decide) ?_
            have c_172 : M166.2.1 1 9 = (M153.2.1 1 9) := (F_n F157 (show ¬ (1 = 1 ∧ (9 = 10 ∨ 9 = 11)) by decide) rfl)
            have t_173 : (M166.2.1 1 9).toInt = (M153.2.1 1 9).toInt := congrArg Int32.toInt c_172
            have j_174 := (CS_f (tg_34 F157) p_151)
            exact h (0 : Int32) M166 hG158 F167 (by decide) (by decide) j_174 (by omega) (fun z => absurd z (by decide)) (fun _ k9 => if g9 : x_kind t nn (x_ns t nn a) = 3 then winl (by omega) (by omega) ((p_ndf (by omega) (by omega) (by omega)).trans (p_nb2 g9 (by omega))) else winl (by omega) (by omega) ((p_ndf (by omega) (by omega) (by omega)).trans (p_nb1 g9)))
          · skip
            have p_175 := p_161 (by omega)
            clear p_161 p_162 p_163
            have c_176 : M166.2.1 1 8 = (M153.2.1 1 8) := (F_n F157 (show ¬ (1 = 1 ∧ (8 = 10 ∨ 8 = 11)) by decide) rfl)
            have z_177 := x_val_b (t := t) (nn := nn) (a := (x_ns t nn a)) (by omega)
            refine b_ine_t (pc := 116) rw_103_116 (A := r156.toInt) rfl (by omega) ?_
            refine to_an (pc := 121) rw_103_121 rfl ?_
            refine s_gR (pc := 122) rw_103_122 hG158 rfl (v := 33) rfl ?_
            refine to_i (pc := 125) rw_103_125 rfl ?_
            refine to_dup2 (pc := 127) rw_103_127 ?_
            refine s_lalE (pc := 128) rw_103_128 hG158 rfl (n := 40) rfl (A := s.toInt) rfl (by omega) (by omega) (fun l178 w_179 => ?_)
            refine to_cl (pc := 129) rw_103_129 rfl (x := (1 : Int64)) rfl ?_
            refine to_i (pc := 130) rw_103_130 rfl ?_
            refine to_an (pc := 132) rw_103_132 rfl ?_
            refine tt_gI (pc := 133) rw_103_133 (g_o hG158 rfl) (v := (M153.2.1 1 8)) c_176 ?_
            refine s_add (pc := 136) rw_103_136 (A := v128.toInt) (B := (M153.2.1 1 8).toInt) rfl rfl (by omega) (fun v180 e181 => ?_)
            refine to_2s (pc := 137) rw_103_137 (v := ((1 : Int64) <<< (v180.toInt64 &&& 63))) rfl ?_
            refine to_2l (pc := 138) rw_103_138 (v := (l178 ||| ((1 : Int64) <<< (v180.toInt64 &&& 63)))) rfl ?_
            refine s_las (pc := 139) rw_103_139 hG158 rfl (n := 40) rfl (A := s.toInt) rfl (by omega) (by omega) (fun M183 W182 => ?_)
            have hG184 := g_wl hG158 W182
            have F185 := FR.wl F167 W182 (show 33 = 1 ∧ 6 ≤ (s.toInt).toNat ∧ (s.toInt).toNat ≤ 11 ∨ 33 = 33 by omega)
            refine to_an (pc := 140) rw_103_140 rfl ?_
            refine s_v (pc := 141) rw_103_141 (dp0 hd (by decide)) (ls0 := [.ref 1]) rfl (Nat.le_of_ble_eq_true rfl) (Nat.le_of_ble_eq_true rfl) rfl (to_rc rfl rfl rfl (g_o hG184 rfl)) rfl ?_
            have j_186 := (CS_f (fun a i z => W_l W182 rfl) (CS_f (tg_34 F157) p_151))
            have c_187 : M183.2.1 1 9 = (M153.2.1 1 9) := (W_l W182 (F_n F157 (show ¬ (1 = 1 ∧ (9 = 10 ∨ 9 = 11)) by decide) rfl))
            have t_188 : (M183.2.1 1 9).toInt = (M153.2.1 1 9).toInt := congrArg Int32.toInt c_187
            refine E_83 hX (dp1 hd (by decide)) hG184 j_186 (by omega) (t := t) (nn := nn) (a := (x_ns t nn a)) (fun M193 hG190 F189 p_191 p_192 => ?_)
            have F194 := FR.c F185 F189 tg_117
            refine to_c (pc := 144) rw_103_144 (x := (1 : Int32)) rfl rfl ?_
            refine s_r1 (pc := 145) rw_103_145 (A := 1) rfl (by decide) ?_
            have k_195 : (1 : Int32).toInt = 1 := rfl
            have z_196 := x_ns_lt (t := t) (nn := nn) (a := a) (by omega) (x_lt_k (t := t) (by omega) (by omega))
            have z_197 := x_ns_b (t := t) (n := nn) (a := (x_ns t nn a)) (by omega) (by omega)
            exact h (1 : Int32) M193 hG190 F194 (by decide) (by decide) p_191 (by omega) (fun _ k9 => by rw [show (M193.2.1 1 9).toInt = (x_ns t nn (x_ns t nn a)) by omega]; exact (p_ndf (by omega) (by omega) (by omega)).trans (p_nb (by omega) (by omega))) (fun z => absurd z (by decide))
    · refine to_in (pc := 4) rw_44_4 rfl ?_
      refine to_an (pc := 5) rw_44_5 rfl ?_
      have c_198 : M69.2.1 p 3 = (M.2.1 p 3) := (F_n F64 (show ¬ (p < 0) by omega) rfl)
      refine tt_gI (pc := 6) rw_44_6 (g_o hG65 (by rcases hp with rfl | rfl <;> rfl)) (v := (M.2.1 p 3)) c_198 ?_
      refine b_cge (pc := 9) rw_44_9 (A := r63.toInt) (B := (M.2.1 p 3).toInt) rfl rfl (fun h199 => ?_) (fun h199 => ?_)
      · refine to_c (pc := 16) rw_44_16 (x := (0 : Int32)) rfl rfl ?_
        refine s_r1 (pc := 17) rw_44_17 (A := 0) rfl (by decide) ?_
        refine b_ieq_t (pc := 35) rw_103_35 (A := 0) rfl (by decide) ?_
        refine to_an (pc := 61) rw_103_61 rfl ?_
        refine to_an (pc := 62) rw_103_62 rfl ?_
        have c_200 : M69.2.1 1 8 = (M.2.1 1 8) := (F_n F64 (show ¬ (1 < 0) by decide) rfl)
        refine tt_gI (pc := 63) rw_103_63 (g_o hG65 rfl) (v := (M.2.1 1 8)) c_200 ?_
        refine s_v (pc := 66) rw_103_66 (dp0 hd (by decide)) (ls0 := [.ref p, .int (M.2.1 1 8)]) rfl (Nat.le_of_ble_eq_true rfl) (Nat.le_of_ble_eq_true rfl) rfl (to_rc rfl rfl rfl (g_o hG65 (by rcases hp with rfl | rfl <;> rfl))) rfl ?_
        refine to_an (pc := 0) rw_52_0 rfl ?_
        refine s_gR (pc := 1) rw_52_1 hG65 (by rcases hp with rfl | rfl <;> rfl) (v := (p + 1)) (by rcases hp with rfl | rfl <;> rfl) ?_
        refine to_an (pc := 4) rw_52_4 rfl ?_
        have c_201 : M69.2.1 p 2 = (M.2.1 p 2) := (F_n F64 (show ¬ (p < 0) by omega) rfl)
        refine tt_gI (pc := 5) rw_52_5 (g_o hG65 (by rcases hp with rfl | rfl <;> rfl)) (v := (M.2.1 p 2)) c_201 ?_
        refine to_in (pc := 8) rw_52_8 rfl ?_
        refine s_s (pc := 9) rw_52_9 (dp1 hd (by decide)) (ls0 := [.ref (p + 1), .int (M.2.1 p 2), .int (M.2.1 1 8), .null]) rfl (Nat.le_of_ble_eq_true rfl) (Nat.le_of_ble_eq_true rfl) rfl (to_rcs rfl rfl) rfl ?_
        have j_202 := (PLs_f (fun a i z => F_n F64 (show ¬ (a < 0) by omega) rfl) q5)
        refine E_54f hX (dp2 hd (by decide)) hG65 (by omega) (by omega) (by omega) (f := (p + 1)) (s := (M.2.1 p 2)) (x := (M.2.1 1 8)) (fun r203 M209 hG205 F204 p_206 p_207 p_208 => ?_)
        have F210 := FR.c F70 F204 tg_118
        have z_211 := PLs_n (v := (M.2.1 1 8).toInt) j_202 (n := (M.2.1 p 2).toInt) (by omega)
        have z_212 := x_fn_v (s := sg) (r := 1) (v := (M.2.1 1 8).toInt) (w := x_val t nn a) (by omega)
        have z_213 := x_fn_b (s := sg) (v := x_val t nn a) j_202.1
        refine to_r0 (pc := 12) rw_52_12 ?_
        refine to_is (pc := 69) rw_103_69 (ls2 := [.ref 28, .ref 1, .ref p, .ref 11, .int s, .int (0 : Int32), .int v16, .int r63, .int r203]) rfl rfl ?_
        refine to_an (pc := 71) rw_103_71 rfl ?_
        refine to_i (pc := 72) rw_103_72 rfl ?_
        refine s_v (pc := 74) rw_103_74 (dp0 hd (by decide)) (ls0 := [.ref p, .int r203]) rfl (Nat.le_of_ble_eq_true rfl) (Nat.le_of_ble_eq_true rfl) rfl (to_rc rfl rfl rfl (g_o hG205 (by rcases hp with rfl | rfl <;> rfl))) rfl ?_
        refine to_in (pc := 0) rw_43_0 rfl ?_
        refine b_ilt (pc := 1) rw_43_1 (A := r203.toInt) rfl (fun h214 => ?_) (fun h214 => ?_)
        · refine to_c (pc := 16) rw_43_16 (x := (0 : Int32)) rfl rfl ?_
          refine s_r1 (pc := 17) rw_43_17 (A := 0) rfl (by decide) ?_
          refine b_ine_f (pc := 77) rw_103_77 (A := 0) rfl (by decide) ?_
          refine to_an (pc := 80) rw_103_80 rfl ?_
          refine to_c (pc := 81) rw_103_81 (x := (4 : Int32)) rfl rfl ?_
          refine s_v (pc := 82) rw_103_82 (dp0 hd (by decide)) (ls0 := [.ref 1, .int (4 : Int32)]) rfl (Nat.le_of_ble_eq_true rfl) (Nat.le_of_ble_eq_true rfl) rfl (to_rc rfl rfl rfl (g_o hG205 rfl)) rfl ?_
          refine to_an (pc := 0) rw_84_0 rfl ?_
          refine to_in (pc := 1) rw_84_1 rfl ?_
          refine s_pI (pc := 2) rw_84_2 hG205 rfl (fun M216 W215 => ?_)
          have hG217 := g_wf hG205 W215 rfl rfl (by decide)
          have F218 := FR.w F210 W215 (show 1 = 1 ∧ 6 ≤ 10 ∧ 10 ≤ 11 ∨ 1 = 33 by decide)
          refine to_an (pc := 5) rw_84_5 rfl ?_
          refine to_an (pc := 6) rw_84_6 rfl ?_
          have c_219 : M216.2.1 1 9 = (M.2.1 1 9) := (W_n W215 (by decide) (F_n F204 (show ¬ (1 < 0) by decide) (F_n F64 (show ¬ (1 < 0) by decide) rfl)))
          refine tt_gI (pc := 7) rw_84_7 (g_o hG217 rfl) (v := (M.2.1 1 9)) c_219 ?_
          refine s_pI (pc := 10) rw_84_10 hG217 rfl (fun M221 W220 => ?_)
          have hG222 := g_wf hG217 W220 rfl rfl (by decide)
          have F223 := FR.w F218 W220 (show 1 = 1 ∧ 6 ≤ 11 ∧ 11 ≤ 11 ∨ 1 = 33 by decide)
          refine to_c (pc := 13) rw_84_13 (x := (0 : Int32)) rfl rfl ?_
          refine s_r1 (pc := 14) rw_84_14 (A := 0) rfl (by decide) ?_
          refine s_r1 (pc := 85) rw_103_85 (A := 0) rfl (by decide) ?_
          have k_224 : (0 : Int32).toInt = 0 := rfl
          have c_225 : M221.2.1 1 9 = (M.2.1 1 9) := (W_n W220 (by decide) c_219)
          have t_226 : (M221.2.1 1 9).toInt = (M.2.1 1 9).toInt := congrArg Int32.toInt c_225
          have j_227 := (CS_f (fun a i z => W_n W220 (tg_32 a i z) rfl) (CS_f (fun a i z => W_n W215 (tg_33 a i z) rfl) (CS_f (tg_28 F204) (CS_f (tg_28 F64) q3))))
          have c_228 : M221.2.1 1 10 = (4 : Int32) := (W_n W220 (by decide) (W_e W215))
          have k_229 : (4 : Int32).toInt = 4 := rfl
          have t_230 : (M221.2.1 1 10).toInt = (4 : Int32).toInt := congrArg Int32.toInt c_228
          have c_231 : M221.2.1 1 11 = (M.2.1 1 9) := (W_e W220)
          have t_232 : (M221.2.1 1 11).toInt = (M.2.1 1 9).toInt := congrArg Int32.toInt c_231
          exact h (0 : Int32) M221 hG222 F223 (by decide) (by decide) j_227 (by omega) (fun z => absurd z (by decide)) (fun _ k9 => winl (by omega) (by omega) (p_ndx (by omega) (by omega) (by omega)))
        · refine to_in (pc := 4) rw_43_4 rfl ?_
          refine to_an (pc := 5) rw_43_5 rfl ?_
          have c_233 : M209.2.1 p 2 = (M.2.1 p 2) := (F_n F204 (show ¬ (p < 0) by omega) c_201)
          refine tt_gI (pc := 6) rw_43_6 (g_o hG205 (by rcases hp with rfl | rfl <;> rfl)) (v := (M.2.1 p 2)) c_233 ?_
          refine b_cge (pc := 9) rw_43_9 (A := r203.toInt) (B := (M.2.1 p 2).toInt) rfl rfl (fun h234 => ?_) (fun h234 => ?_)
          · refine to_c (pc := 16) rw_43_16 (x := (0 : Int32)) rfl rfl ?_
            refine s_r1 (pc := 17) rw_43_17 (A := 0) rfl (by decide) ?_
            refine b_ine_f (pc := 77) rw_103_77 (A := 0) rfl (by decide) ?_
            refine to_an (pc := 80) rw_103_80 rfl ?_
            refine to_c (pc := 81) rw_103_81 (x := (4 : Int32)) rfl rfl ?_
            refine s_v (pc := 82) rw_103_82 (dp0 hd (by decide)) (ls0 := [.ref 1, .int (4 : Int32)]) rfl (Nat.le_of_ble_eq_true rfl) (Nat.le_of_ble_eq_true rfl) rfl (to_rc rfl rfl rfl (g_o hG205 rfl)) rfl ?_
            refine to_an (pc := 0) rw_84_0 rfl ?_
            refine to_in (pc := 1) rw_84_1 rfl ?_
            refine s_pI (pc := 2) rw_84_2 hG205 rfl (fun M236 W235 => ?_)
            have hG237 := g_wf hG205 W235 rfl rfl (by decide)
            have F238 := FR.w F210 W235 (show 1 = 1 ∧ 6 ≤ 10 ∧ 10 ≤ 11 ∨ 1 = 33 by decide)
            refine to_an (pc := 5) rw_84_5 rfl ?_
            refine to_an (pc := 6) rw_84_6 rfl ?_
            have c_239 : M236.2.1 1 9 = (M.2.1 1 9) := (W_n W235 (by decide) (F_n F204 (show ¬ (1 < 0) by decide) (F_n F64 (show ¬ (1 < 0) by decide) rfl)))
            refine tt_gI (pc := 7) rw_84_7 (g_o hG237 rfl) (v := (M.2.1 1 9)) c_239 ?_
            refine s_pI (pc := 10) rw_84_10 hG237 rfl (fun M241 W240 => ?_)
            have hG242 := g_wf hG237 W240 rfl rfl (by decide)
            have F243 := FR.w F238 W240 (show 1 = 1 ∧ 6 ≤ 11 ∧ 11 ≤ 11 ∨ 1 = 33 by decide)
            refine to_c (pc := 13) rw_84_13 (x := (0 : Int32)) rfl rfl ?_
            refine s_r1 (pc := 14) rw_84_14 (A := 0) rfl (by decide) ?_
            refine s_r1 (pc := 85) rw_103_85 (A := 0) rfl (by decide) ?_
            have k_244 : (0 : Int32).toInt = 0 := rfl
            have c_245 : M241.2.1 1 9 = (M.2.1 1 9) := (W_n W240 (by decide) c_239)
            have t_246 : (M241.2.1 1 9).toInt = (M.2.1 1 9).toInt := congrArg Int32.toInt c_245
            have j_247 := (CS_f (fun a i z => W_n W240 (tg_32 a i z) rfl) (CS_f (fun a i z => W_n W235 (tg_33 a i z) rfl) (CS_f (tg_28 F204) (CS_f (tg_28 F64) q3))))
            have c_248 : M241.2.1 1 10 = (4 : Int32) := (W_n W240 (by decide) (W_e W235))
            have k_249 : (4 : Int32).toInt = 4 := rfl
            have t_250 : (M241.2.1 1 10).toInt = (4 : Int32).toInt := congrArg Int32.toInt c_248
            have c_251 : M241.2.1 1 11 = (M.2.1 1 9) := (W_e W240)
            have t_252 : (M241.2.1 1 11).toInt = (M.2.1 1 9).toInt := congrArg Int32.toInt c_251
            exact h (0 : Int32) M241 hG242 F243 (by decide) (by decide) j_247 (by omega) (fun z => absurd z (by decide)) (fun _ k9 => winl (by omega) (by omega) (p_ndx (by omega) (by omega) (by omega)))
          · refine to_c (pc := 12) rw_43_12 (x := (1 : Int32)) rfl rfl ?_
            refine to_go (pc := 13) rw_43_13 ?_
            refine s_r1 (pc := 17) rw_43_17 (A := 1) rfl (by decide) ?_
            refine b_ine_t (pc := 77) rw_103_77 (A := 1) rfl (by decide) ?_
            refine to_an (pc := 86) rw_103_86 rfl ?_
            refine s_gR (pc := 87) rw_103_87 hG205 (by rcases hp with rfl | rfl <;> rfl) (v := (p + 3)) (by rcases hp with rfl | rfl <;> rfl) ?_
            refine to_i (pc := 90) rw_103_90 rfl ?_
            refine s_ial (pc := 92) rw_103_92 hG205 (by rcases hp with rfl | rfl <;> rfl) (n := 8) (by rcases hp with rfl | rfl <;> rfl) (by rcases hp with rfl | rfl <;> rfl) (A := r203.toInt) rfl (by omega) (by omega) (lo := 0) (hi := 59) (by rcases hp with rfl | rfl <;> rfl) (by rcases hp with rfl | rfl <;> rfl) (fun v253 w_254 _ _ => ?_)
            have j_255 := (PLs_f (fun a i z => F_n F204 (show ¬ (a < 0) by omega) rfl) j_202)
            have z_256 := PLs_r j_255 3 (by decide) (by decide) (k := r203.toInt) (by omega) (by omega) w_254
            have z_257 := x_row_v (s := sg) (r := 3) (x := r203.toInt) (y := x_fn sg 1 (x_val t nn a)) (by omega)
            have z_258 := j_255.1.2.2.2.2.2.2.2 (x_fn sg 1 (x_val t nn a)) (by omega) (by omega)
            refine to_is (pc := 93) rw_103_93 (ls2 := [.ref 28, .ref 1, .ref p, .ref 11, .int s, .int v253, .int v16, .int r63, .int r203]) rfl rfl ?_
            refine to_an (pc := 95) rw_103_95 rfl ?_
            refine to_i (pc := 96) rw_103_96 rfl ?_
            refine s_v (pc := 98) rw_103_98 (dp0 hd (by decide)) (ls0 := [.ref p, .int r203]) rfl (Nat.le_of_ble_eq_true rfl) (Nat.le_of_ble_eq_true rfl) rfl (to_rc rfl rfl rfl (g_o hG205 (by rcases hp with rfl | rfl <;> rfl))) rfl ?_
            refine to_an (pc := 0) rw_47_0 rfl ?_
            refine s_gR (pc := 1) rw_47_1 hG205 (by rcases hp with rfl | rfl <;> rfl) (v := (p + 4)) (by rcases hp with rfl | rfl <;> rfl) ?_
            refine to_in (pc := 4) rw_47_4 rfl ?_
            refine s_ial (pc := 5) rw_47_5 hG205 (by rcases hp with rfl | rfl <;> rfl) (n := 8) (by rcases hp with rfl | rfl <;> rfl) (by rcases hp with rfl | rfl <;> rfl) (A := r203.toInt) rfl (by omega) (by omega) (lo := 0) (hi := 63) (by rcases hp with rfl | rfl <;> rfl) (by rcases hp with rfl | rfl <;> rfl) (fun v259 w_260 _ _ => ?_)
            have z_261 := PLs_r j_255 4 (by decide) (by decide) (k := r203.toInt) (by omega) (by omega) w_260
            have z_262 := x_row_v (s := sg) (r := 4) (x := r203.toInt) (y := x_fn sg 1 (x_val t nn a)) (by omega)
            refine to_an (pc := 6) rw_47_6 rfl ?_
            refine s_gR (pc := 7) rw_47_7 hG205 (by rcases hp with rfl | rfl <;> rfl) (v := (p + 3)) (by rcases hp with rfl | rfl <;> rfl) ?_
            refine to_in (pc := 10) rw_47_10 rfl ?_
            refine s_ialk (pc := 11) rw_47_11 hG205 (by rcases hp with rfl | rfl <;> rfl) (n := 8) (by rcases hp with rfl | rfl <;> rfl) (by rcases hp with rfl | rfl <;> rfl) (A := r203.toInt) rfl (by omega) (by omega) (v := v253) w_254 ?_
            refine s_sub (pc := 12) rw_47_12 (A := v259.toInt) (B := v253.toInt) rfl rfl (by omega) (fun v265 e266 => ?_)
            refine to_c (pc := 13) rw_47_13 (x := (1 : Int32)) rfl rfl ?_
            refine s_add (pc := 14) rw_47_14 (A := v265.toInt) (B := 1) rfl rfl (by omega) (fun v267 e268 => ?_)
            refine to_r0 (pc := 15) rw_47_15 ?_
            refine to_c (pc := 101) rw_103_101 (x := (1 : Int32)) rfl rfl ?_
            refine s_sub (pc := 102) rw_103_102 (A := v267.toInt) (B := 1) rfl rfl (by omega) (fun v269 e270 => ?_)
            refine to_is (pc := 103) rw_103_103 (ls2 := [.ref 28, .ref 1, .ref p, .ref 11, .int s, .int v253, .int v269, .int r63, .int r203]) rfl rfl ?_
            refine to_an (pc := 105) rw_103_105 rfl ?_
            refine s_v (pc := 106) rw_103_106 (dp0 hd (by decide)) (ls0 := [.ref 1]) rfl (Nat.le_of_ble_eq_true rfl) (Nat.le_of_ble_eq_true rfl) rfl (to_rc rfl rfl rfl (g_o hG205 rfl)) rfl ?_
            have j_271 := (CS_f (tg_28 F204) (CS_f (tg_28 F64) q3))
            have c_272 : M209.2.1 1 9 = (M.2.1 1 9) := (F_n F204 (show ¬ (1 < 0) by decide) (F_n F64 (show ¬ (1 < 0) by decide) rfl))
            have t_273 : (M209.2.1 1 9).toInt = (M.2.1 1 9).toInt := congrArg Int32.toInt c_272
            refine E_83 hX (dp1 hd (by decide)) hG205 j_271 (by omega) (t := t) (nn := nn) (a := a) (fun M278 hG275 F274 p_276 p_277 => ?_)
            have F279 := FR.c F210 F274 tg_117
            refine to_an (pc := 109) rw_103_109 rfl ?_
            refine to_c (pc := 110) rw_103_110 (x := (0 : Int32)) rfl rfl ?_
            refine to_i (pc := 111) rw_103_111 rfl ?_
            refine s_v (pc := 113) rw_103_113 (dp0 hd (by decide)) (ls0 := [.ref 1, .int (0 : Int32), .int v269]) rfl (Nat.le_of_ble_eq_true rfl) (Nat.le_of_ble_eq_true rfl) rfl (to_rc rfl rfl rfl (g_o hG275 rfl)) rfl ?_
            have k_280 : (0 : Int32).toInt = 0 := rfl
            refine E_88f hX (dp1 hd (by decide)) hG275 p_276 (by omega) (l := (0 : Int32)) (m := v269) (t := t) (nn := nn) (a := (x_ns t nn a)) (fun r281 M291 hG283 F282 p_284 p_285 p_286 p_287 p_288 p_289 p_290 => ?_)
            have F292 := FR.c F279 F282 tg_116
            rcases (show r281.toInt = 0 ∨ r281.toInt = 1 by omega) with h293 | h293
            · skip
              have p_294 := p_287 (by omega)
              have p_295 := p_288 (by omega)
              clear p_286 p_287 p_288
              have z_296 := x_val_b (t := t) (nn := nn) (a := (x_ns t nn a))
              refine b_ine_f (pc := 116) rw_103_116 (A := r281.toInt) rfl (by omega) ?_
              refine to_c (pc := 119) rw_103_119 (x := (0 : Int32)) rfl rfl ?_
              refine s_r1 (pc := 120) rw_103_120 (A := 0) rfl (by decide) ?_
              have c_297 : M291.2.1 1 9 = (M278.2.1 1 9) := (F_n F282 (show ¬ (1 = 1 ∧ (9 = 10 ∨ 9 = 11)) by decide) rfl)
              have t_298 : (M291.2.1 1 9).toInt = (M278.2.1 1 9).toInt := congrArg Int32.toInt c_297
              have j_299 := (CS_f (tg_34 F282) p_276)
              exact h (0 : Int32) M291 hG283 F292 (by decide) (by decide) j_299 (by omega) (fun z => absurd z (by decide)) (fun _ k9 => if g9 : x_kind t nn (x_ns t nn a) = 3 then winl (by omega) (by omega) ((p_ndf (by omega) (by omega) (by omega)).trans (p_nb2 g9 (by omega))) else winl (by omega) (by omega) ((p_ndf (by omega) (by omega) (by omega)).trans (p_nb1 g9)))
            · skip
              have p_300 := p_286 (by omega)
              clear p_286 p_287 p_288
              have c_301 : M291.2.1 1 8 = (M278.2.1 1 8) := (F_n F282 (show ¬ (1 = 1 ∧ (8 = 10 ∨ 8 = 11)) by decide) rfl)
              have z_302 := x_val_b (t := t) (nn := nn) (a := (x_ns t nn a)) (by omega)
              refine b_ine_t (pc := 116) rw_103_116 (A := r281.toInt) rfl (by omega) ?_
              refine to_an (pc := 121) rw_103_121 rfl ?_
              refine s_gR (pc := 122) rw_103_122 hG283 rfl (v := 33) rfl ?_
              refine to_i (pc := 125) rw_103_125 rfl ?_
              refine to_dup2 (pc := 127) rw_103_127 ?_
              refine s_lalE (pc := 128) rw_103_128 hG283 rfl (n := 40) rfl (A := s.toInt) rfl (by omega) (by omega) (fun l303 w_304 => ?_)
              refine to_cl (pc := 129) rw_103_129 rfl (x := (1 : Int64)) rfl ?_
              refine to_i (pc := 130) rw_103_130 rfl ?_
              refine to_an (pc := 132) rw_103_132 rfl ?_
              refine tt_gI (pc := 133) rw_103_133 (g_o hG283 rfl) (v := (M278.2.1 1 8)) c_301 ?_
              refine s_add (pc := 136) rw_103_136 (A := v253.toInt) (B := (M278.2.1 1 8).toInt) rfl rfl (by omega) (fun v305 e306 => ?_)
              refine to_2s (pc := 137) rw_103_137 (v := ((1 : Int64) <<< (v305.toInt64 &&& 63))) rfl ?_
              refine to_2l (pc := 138) rw_103_138 (v := (l303 ||| ((1 : Int64) <<< (v305.toInt64 &&& 63)))) rfl ?_
              refine s_las (pc := 139) rw_103_139 hG283 rfl (n := 40) rfl (A := s.toInt) rfl (by omega) (by omega) (fun M308 W307 => ?_)
              have hG309 := g_wl hG283 W307
              have F310 := FR.wl F292 W307 (show 33 = 1 ∧ 6 ≤ (s.toInt).toNat ∧ (s.toInt).toNat ≤ 11 ∨ 33 = 33 by omega)
              refine to_an (pc := 140) rw_103_140 rfl ?_
              refine s_v (pc := 141) rw_103_141 (dp0 hd (by decide)) (ls0 := [.ref 1]) rfl (Nat.le_of_ble_eq_true rfl) (Nat.le_of_ble_eq_true rfl) rfl (to_rc rfl rfl rfl (g_o hG309 rfl)) rfl ?_
              have j_311 := (CS_f (fun a i z => W_l W307 rfl) (CS_f (tg_34 F282) p_276))
              have c_312 : M308.2.1 1 9 = (M278.2.1 1 9) := (W_l W307 (F_n F282 (show ¬ (1 = 1 ∧ (9 = 10 ∨ 9 = 11)) by decide) rfl))
              have t_313 : (M308.2.1 1 9).toInt = (M278.2.1 1 9).toInt := congrArg Int32.toInt c_312
              refine E_83 hX (dp1 hd (by decide)) hG309 j_311 (by omega) (t := t) (nn := nn) (a := (x_ns t nn a)) (fun M318 hG315 F314 p_316 p_317 => ?_)
              have F319 := FR.c F310 F314 tg_117
              refine to_c (pc := 144) rw_103_144 (x := (1 : Int32)) rfl rfl ?_
              refine s_r1 (pc := 145) rw_103_145 (A := 1) rfl (by decide) ?_
              have k_320 : (1 : Int32).toInt = 1 := rfl
              have z_321 := x_ns_lt (t := t) (nn := nn) (a := a) (by omega) (x_lt_k (t := t) (by omega) (by omega))
              have z_322 := x_ns_b (t := t) (n := nn) (a := (x_ns t nn a)) (by omega) (by omega)
              exact h (1 : Int32) M318 hG315 F319 (by decide) (by decide) p_316 (by omega) (fun _ k9 => by rw [show (M318.2.1 1 9).toInt = (x_ns t nn (x_ns t nn a)) by omega]; exact (p_ndf (by omega) (by omega) (by omega)).trans (p_nb (by omega) (by omega))) (fun z => absurd z (by decide))
      · refine to_c (pc := 12) rw_44_12 (x := (1 : Int32)) rfl rfl ?_
        refine to_go (pc := 13) rw_44_13 ?_
        refine s_r1 (pc := 17) rw_44_17 (A := 1) rfl (by decide) ?_
        refine b_ieq_f (pc := 35) rw_103_35 (A := 1) rfl (by decide) ?_
        refine to_an (pc := 38) rw_103_38 rfl ?_
        refine s_gR (pc := 39) rw_103_39 hG65 rfl (v := 33) rfl ?_
        refine to_i (pc := 42) rw_103_42 rfl ?_
        refine to_dup2 (pc := 44) rw_103_44 ?_
        refine s_lalE (pc := 45) rw_103_45 hG65 rfl (n := 40) rfl (A := s.toInt) rfl (by omega) (by omega) (fun l323 w_324 => ?_)
        refine to_an (pc := 46) rw_103_46 rfl ?_
        refine s_gR (pc := 47) rw_103_47 hG65 rfl (v := 15) rfl ?_
        refine to_i (pc := 50) rw_103_50 rfl ?_
        refine s_lalE (pc := 52) rw_103_52 hG65 rfl (n := 12) rfl (A := r63.toInt) rfl (by omega) (by omega) (fun l325 w_326 => ?_)
        refine to_2l (pc := 53) rw_103_53 (v := (l323 ||| l325)) rfl ?_
        refine s_las (pc := 54) rw_103_54 hG65 rfl (n := 40) rfl (A := s.toInt) rfl (by omega) (by omega) (fun M328 W327 => ?_)
        have hG329 := g_wl hG65 W327
        have F330 := FR.wl F70 W327 (show 33 = 1 ∧ 6 ≤ (s.toInt).toNat ∧ (s.toInt).toNat ≤ 11 ∨ 33 = 33 by omega)
        refine to_an (pc := 55) rw_103_55 rfl ?_
        refine s_v (pc := 56) rw_103_56 (dp0 hd (by decide)) (ls0 := [.ref 1]) rfl (Nat.le_of_ble_eq_true rfl) (Nat.le_of_ble_eq_true rfl) rfl (to_rc rfl rfl rfl (g_o hG329 rfl)) rfl ?_
        have j_331 := (CS_f (fun a i z => W_l W327 rfl) (CS_f (tg_28 F64) q3))
        have c_332 : M328.2.1 1 9 = (M.2.1 1 9) := (W_l W327 (F_n F64 (show ¬ (1 < 0) by decide) rfl))
        have t_333 : (M328.2.1 1 9).toInt = (M.2.1 1 9).toInt := congrArg Int32.toInt c_332
        refine E_83 hX (dp1 hd (by decide)) hG329 j_331 (by omega) (t := t) (nn := nn) (a := a) (fun M338 hG335 F334 p_336 p_337 => ?_)
        have F339 := FR.c F330 F334 tg_117
        refine to_c (pc := 59) rw_103_59 (x := (1 : Int32)) rfl rfl ?_
        refine s_r1 (pc := 60) rw_103_60 (A := 1) rfl (by decide) ?_
        have k_340 : (1 : Int32).toInt = 1 := rfl
        have z_341 := x_ns_lt (t := t) (nn := nn) (a := a) (by omega) (x_lt_k (t := t) (by omega) (by omega))
        exact h (1 : Int32) M338 hG335 F339 (by decide) (by decide) p_336 (by omega) (fun _ k9 => by rw [show (M338.2.1 1 9).toInt = (x_ns t nn a) by omega]; exact p_ndw (by omega) (by omega)) (fun z => absurd z (by decide))

end
section
theorem tg_119 : ∀ a i : Nat, (a = 1 ∧ 6 ≤ i ∧ i ≤ 11) → (a = 1 ∧ 6 ≤ i ∧ i ≤ 11 ∨ 30 ≤ a ∧ a ≤ 33) := fun a i z => by omega
theorem tg_120 : ∀ a i : Nat, (a = 1 ∧ 6 ≤ i ∧ i ≤ 11 ∨ a = 33) → (a = 1 ∧ 6 ≤ i ∧ i ≤ 11 ∨ 30 ≤ a ∧ a ≤ 33) := fun a i z => by omega
theorem tg_121 : ∀ a i : Nat, (a = 1 ∧ 6 ≤ i ∧ i ≤ 11 ∨ a = 30) → (a = 1 ∧ 6 ≤ i ∧ i ≤ 11 ∨ 30 ≤ a ∧ a ≤ 33) := fun a i z => by omega
theorem tg_122 : ∀ a i : Nat, (a = 1 ∧ 6 ≤ i ∧ i ≤ 11 ∨ a = 31) → (a = 1 ∧ 6 ≤ i ∧ i ≤ 11 ∨ 30 ≤ a ∧ a ≤ 33) := fun a i z => by omega
theorem tg_123 : ∀ a i : Nat, (a = 1 ∧ 6 ≤ i ∧ i ≤ 11 ∨ a = 32) → (a = 1 ∧ 6 ≤ i ∧ i ≤ 11 ∨ 30 ≤ a ∧ a ≤ 33) := fun a i z => by omega
set_option maxRecDepth 4000 in
set_option maxHeartbeats 0 in
theorem U_101_0 {X : mm_X} {d : Nat} {M : mm_M} {Q : Option Value → mm_M → Prop} {p : Nat} {s : Int32} {t : Nat → Int} {nn : Int} {a : Int} {sg : x_S} {n9 : Int} {op : List Int} {A9 : x_A} (hX : g_X X) (hd : 3 ≤ d) (hp : p = 49 ∨ p = 58) (q1 : 0 ≤ s.toInt) (q2 : s.toInt ≤ 39) (q3 : CS M t nn) (q4 : (M.2.1 1 9).toInt = a) (q5 : PLs M p sg) (q6 : nn ≤ 500) (h : ∀ (r : Int32) (M1 : mm_M), g_G M1 → FR md_w101 M M1 → (0 ≤ r.toInt) → (r.toInt ≤ 1) → CS M1 t nn → ((r.toInt = 1 → x_wps t nn sg a (x_ww t nn sg 1 n9 op A9) = x_ww t nn sg 0 n9 op A9 (M1.2.1 1 9).toInt)) → ((r.toInt = 0 → x_wps t nn sg a (x_ww t nn sg 1 n9 op A9) = Sum.inl ((M1.2.1 1 10).toInt, (M1.2.1 1 11).toInt))) → Q (some (.int r)) M1) : ∀ nn9 : Nat, (∀ (N : mm_M) (x5 : Int32), g_G N → FR md_w101 M N → (0 ≤ x5.toInt) → (x5.toInt ≤ 500) → (x5.toInt ≤ (N.2.1 1 9).toInt) → (0 ≤ s.toInt) → (s.toInt ≤ 39) → (CS N t nn) → (PLs N p sg) → (x_wps t nn sg a (x_ww t nn sg 1 n9 op A9) = x_ww t nn sg 1 n9 op A9 (N.2.1 1 9).toInt) → 500 - x5.toInt < (nn9 : Int) → mm_T X d 101 89 [.ref 28, .ref 1, .ref p, .ref 11, .int s, .int x5] [] N Q) := by
  intro nn9
  induction nn9 with
  | zero =>
    intro N x5 hG F0 g1 g2 g3 g4 g5 g6 g7 g8 hm
    exfalso; omega
  | succ nn9 ih =>
    intro N x5 hG F0 g1 g2 g3 g4 g5 g6 g7 g8 hm
    have c_1 := CS_u g6 (a := (N.2.1 1 9).toInt) (by omega)
    unfold x_C at c_1
    have z_2 := fun h9 : nn ≤ (N.2.1 1 9).toInt => (x_t0 (t := t) (n := nn) (a := (N.2.1 1 9).toInt) h9).1
    refine to_i (pc := 89) rw_101_89 rfl ?_
    refine to_c (pc := 91) rw_101_91 (x := (500 : Int32)) rfl rfl ?_
    refine b_cge (pc := 94) rw_101_94 (A := x5.toInt) (B := 500) rfl rfl (fun h3 => ?_) (fun h3 => ?_)
    · refine to_an (pc := 126) rw_101_126 rfl ?_
      refine to_c (pc := 127) rw_101_127 (x := (59 : Int32)) rfl rfl ?_
      refine s_v (pc := 129) rw_101_129 (dp0 hd (by decide)) (ls0 := [.ref 1, .int (59 : Int32)]) rfl (Nat.le_of_ble_eq_true rfl) (Nat.le_of_ble_eq_true rfl) rfl (to_rc rfl rfl rfl (g_o hG rfl)) rfl ?_
      have k_4 : (59 : Int32).toInt = 59 := rfl
      refine E_90s hX (dp1 hd (by decide)) hG g6 (by omega) (by omega) (c := (59 : Int32)) (t := t) (nn := nn) (a := (N.2.1 1 9).toInt) (fun r5 M14 hG7 F6 p_8 p_9 p_10 p_11 p_12 p_13 => ?_)
      have F15 := FR.c F0 F6 tg_119
      rcases (show r5.toInt = 0 ∨ r5.toInt = 1 by omega) with h16 | h16
      · skip
        have p_17 := p_12 (by omega)
        have p_18 := p_13 (by omega)
        clear p_11 p_12 p_13
        have z_19 := g8.trans (w1_x (by omega) (by omega) (by omega) (by omega))
        refine s_r1 (pc := 132) rw_101_132 (A := r5.toInt) rfl (by omega) ?_
        exact h r5 M14 hG7 F15 (by omega) (by omega) p_10 (fun z => by exfalso; omega) (fun _ => winl (by omega) (by omega) z_19)
      · skip
        have p_20 := p_11 (by omega)
        clear p_11 p_12 p_13
        have z_21 := g8.trans (w1_s (by omega) (by omega) (by omega))
        refine s_r1 (pc := 132) rw_101_132 (A := r5.toInt) rfl (by omega) ?_
        exact h r5 M14 hG7 F15 (by omega) (by omega) p_10 (fun _ => z_21.trans (w_v rfl (by omega))) (fun z => by exfalso; omega)
    · refine to_an (pc := 97) rw_101_97 rfl ?_
      refine tt_gI (pc := 98) rw_101_98 (g_o hG rfl) (v := (N.2.1 1 7)) rfl ?_
      refine to_c (pc := 101) rw_101_101 (x := (59 : Int32)) rfl rfl ?_
      refine b_ceq (pc := 103) rw_101_103 (A := (N.2.1 1 7).toInt) (B := 59) rfl rfl (fun h22 => ?_) (fun h22 => ?_)
      · refine to_an (pc := 126) rw_101_126 rfl ?_
        refine to_c (pc := 127) rw_101_127 (x := (59 : Int32)) rfl rfl ?_
        refine s_v (pc := 129) rw_101_129 (dp0 hd (by decide)) (ls0 := [.ref 1, .int (59 : Int32)]) rfl (Nat.le_of_ble_eq_true rfl) (Nat.le_of_ble_eq_true rfl) rfl (to_rc rfl rfl rfl (g_o hG rfl)) rfl ?_
        have k_23 : (59 : Int32).toInt = 59 := rfl
        refine E_90s hX (dp1 hd (by decide)) hG g6 (by omega) (by omega) (c := (59 : Int32)) (t := t) (nn := nn) (a := (N.2.1 1 9).toInt) (fun r24 M33 hG26 F25 p_27 p_28 p_29 p_30 p_31 p_32 => ?_)
        have F34 := FR.c F0 F25 tg_119
        rcases (show r24.toInt = 0 ∨ r24.toInt = 1 by omega) with h35 | h35
        · skip
          have p_36 := p_31 (by omega)
          have p_37 := p_32 (by omega)
          clear p_30 p_31 p_32
          have z_38 := g8.trans (w1_x (by omega) (by omega) (by omega) (by omega))
          refine s_r1 (pc := 132) rw_101_132 (A := r24.toInt) rfl (by omega) ?_
          exact h r24 M33 hG26 F34 (by omega) (by omega) p_29 (fun z => by exfalso; omega) (fun _ => winl (by omega) (by omega) z_38)
        · skip
          have p_39 := p_30 (by omega)
          clear p_30 p_31 p_32
          have z_40 := g8.trans (w1_s (by omega) (by omega) (by omega))
          refine s_r1 (pc := 132) rw_101_132 (A := r24.toInt) rfl (by omega) ?_
          exact h r24 M33 hG26 F34 (by omega) (by omega) p_29 (fun _ => z_40.trans (w_v rfl (by omega))) (fun z => by exfalso; omega)
      · refine to_an (pc := 106) rw_101_106 rfl ?_
        refine to_an (pc := 107) rw_101_107 rfl ?_
        refine to_an (pc := 108) rw_101_108 rfl ?_
        refine to_an (pc := 109) rw_101_109 rfl ?_
        refine to_i (pc := 110) rw_101_110 rfl ?_
        refine s_v (pc := 112) rw_101_112 (dp0 hd (by decide)) (ls0 := [.ref 28, .ref 1, .ref p, .ref 11, .int s, .null, .null, .null, .null]) rfl (Nat.le_of_ble_eq_true rfl) (Nat.le_of_ble_eq_true rfl) rfl (to_rc rfl rfl rfl (g_o hG rfl)) rfl ?_
        refine E_103 hX (dp1 hd (by decide)) hG hp (by omega) (by omega) g6 (by omega) g7 (p := p) (s := s) (t := t) (nn := nn) (a := (N.2.1 1 9).toInt) (sg := sg) (fun r41 M50 hG43 F42 p_44 p_45 p_46 p_47 p_48 p_49 => ?_)
        have F51 := FR.c F0 F42 tg_120
        rcases (show r41.toInt = 0 ∨ r41.toInt = 1 by omega) with h52 | h52
        · skip
          have p_53 := p_49 (by omega)
          clear p_47 p_48 p_49
          have z_54 := g8.trans (w1_nx (by omega) (by omega) (by omega) p_53)
          refine b_ine_f (pc := 115) rw_101_115 (A := r41.toInt) rfl (by omega) ?_
          refine to_c (pc := 118) rw_101_118 (x := (0 : Int32)) rfl rfl ?_
          refine s_r1 (pc := 119) rw_101_119 (A := 0) rfl (by decide) ?_
          have k_55 : (0 : Int32).toInt = 0 := rfl
          exact h (0 : Int32) M50 hG43 F51 (by decide) (by decide) p_46 (fun z => by exfalso; omega) (fun _ => winl (by omega) (by omega) z_54)
        · skip
          have p_56 := p_47 (by omega)
          have p_57 := p_48 (by omega)
          clear p_47 p_48 p_49
          have z_58 := g8.trans (w1_ny (by omega) (by omega) p_57)
          refine b_ine_t (pc := 115) rw_101_115 (A := r41.toInt) rfl (by omega) ?_
          refine s_inc (pc := 120) rw_101_120 (ls2 := fun v => [.ref 28, .ref 1, .ref p, .ref 11, .int s, .int v]) rfl rfl (fun _ => rfl) (A := x5.toInt) (B := 1) rfl rfl (by omega) (fun v59 e60 => ?_)
          refine to_go (pc := 123) rw_101_123 ?_
          have j_61 := (PLs_f (fun a i z => F_n F42 (show ¬ (a = 1 ∧ 6 ≤ i ∧ i ≤ 11 ∨ a = 33) by omega) rfl) g7)
          exact ih M50 v59 hG43 F51 (by omega) (by omega) (by omega) (by omega) (by omega) p_46 j_61 z_58 (by omega)
set_option maxRecDepth 4000 in
set_option maxHeartbeats 0 in
theorem E_101 {X : mm_X} {d : Nat} {M : mm_M} {Q : Option Value → mm_M → Prop} {p : Nat} {s : Int32} {t : Nat → Int} {nn : Int} {a : Int} {sg : x_S} {n9 : Int} {op : List Int} {A9 : x_A} (hX : g_X X) (hd : 3 ≤ d) (hG : g_G M) (hp : p = 49 ∨ p = 58) (q1 : 0 ≤ s.toInt) (q2 : s.toInt ≤ 39) (q3 : CS M t nn) (q4 : (M.2.1 1 9).toInt = a) (q5 : PLs M p sg) (q6 : nn ≤ 500) (h : ∀ (r : Int32) (M1 : mm_M), g_G M1 → FR md_w101 M M1 → (0 ≤ r.toInt) → (r.toInt ≤ 1) → CS M1 t nn → ((r.toInt = 1 → x_wps t nn sg a (x_ww t nn sg 1 n9 op A9) = x_ww t nn sg 0 n9 op A9 (M1.2.1 1 9).toInt)) → ((r.toInt = 0 → x_wps t nn sg a (x_ww t nn sg 1 n9 op A9) = Sum.inl ((M1.2.1 1 10).toInt, (M1.2.1 1 11).toInt))) → Q (some (.int r)) M1) : mm_T X d 101 0 [.ref 28, .ref 1, .ref p, .ref 11, .int s, .null] [] M Q := by
  have F0 : FR md_w101 M M := FR.rf
  have c_62 := CS_u q3 (a := a) (by omega)
  unfold x_C at c_62
  refine to_an (pc := 0) rw_101_0 rfl ?_
  refine to_an (pc := 1) rw_101_1 rfl ?_
  refine to_an (pc := 2) rw_101_2 rfl ?_
  refine s_gR (pc := 3) rw_101_3 hG rfl (v := 30) rfl ?_
  refine to_i (pc := 6) rw_101_6 rfl ?_
  refine s_v (pc := 8) rw_101_8 (dp0 hd (by decide)) (ls0 := [.ref 28, .ref 1, .ref 30, .int s, .null]) rfl (Nat.le_of_ble_eq_true rfl) (Nat.le_of_ble_eq_true rfl) rfl (to_rc rfl rfl rfl (g_o hG rfl)) rfl ?_
  refine E_102x hX (dp1 hd (by decide)) hG (by omega) (by omega) q3 (by omega) (s := s) (t := t) (nn := nn) (a := a) (fun r63 M72 hG65 F64 p_66 p_67 p_68 p_69 p_70 p_71 => ?_)
  have F73 := FR.c F0 F64 tg_121
  rcases (show r63.toInt = 0 ∨ r63.toInt = 1 by omega) with h74 | h74
  · skip
    have p_75 := p_71 (by omega)
    clear p_69 p_70 p_71
    have z_76 : x_wps t nn sg a (x_ww t nn sg 1 n9 op A9) = Sum.inl (1, a) := p_wpx (by omega)
    refine b_ieq_t (pc := 11) rw_101_11 (A := r63.toInt) rfl (by omega) ?_
    refine to_c (pc := 23) rw_101_23 (x := (0 : Int32)) rfl rfl ?_
    refine s_r1 (pc := 24) rw_101_24 (A := 0) rfl (by decide) ?_
    have k_77 : (0 : Int32).toInt = 0 := rfl
    exact h (0 : Int32) M72 hG65 F73 (by decide) (by decide) p_68 (fun z => by exfalso; omega) (fun _ => winl (by omega) (by omega) z_76)
  · skip
    have p_78 := p_69 (by omega)
    have p_79 := p_70 (by omega)
    clear p_69 p_70 p_71
    have z_80 : x_wps t nn sg a (x_ww t nn sg 1 n9 op A9) = x_wy2 t nn 8 (x_ns t nn a) (fun c => x_wp t nn c (fun d => x_wp t nn d (fun e => x_wy2 t nn 9 e (fun g => x_wnd t nn sg g (x_ww t nn sg 1 n9 op A9))))) := p_wp (by omega)
    have z_81 := x_ns_b (t := t) (n := nn) (a := a) (by omega) (by omega)
    refine b_ieq_f (pc := 11) rw_101_11 (A := r63.toInt) rfl (by omega) ?_
    refine to_an (pc := 14) rw_101_14 rfl ?_
    refine to_c (pc := 15) rw_101_15 (x := (686817280 : Int32)) rfl rfl ?_
    refine s_v (pc := 17) rw_101_17 (dp0 hd (by decide)) (ls0 := [.ref 1, .int (686817280 : Int32)]) rfl (Nat.le_of_ble_eq_true rfl) (Nat.le_of_ble_eq_true rfl) rfl (to_rc rfl rfl rfl (g_o hG65 rfl)) rfl ?_
    have k_82 : (686817280 : Int32).toInt = 686817280 := rfl
    refine E_89 hX (dp1 hd (by decide)) hG65 p_68 (by omega) (by omega) (c := (686817280 : Int32)) (t := t) (nn := nn) (a := (x_ns t nn a)) (fun r83 M92 hG85 F84 p_86 p_87 p_88 p_89 p_90 p_91 => ?_)
    have F93 := FR.c F73 F84 tg_119
    rcases (show r83.toInt = 0 ∨ r83.toInt = 1 by omega) with h94 | h94
    · skip
      have p_95 := p_90 (by omega)
      have p_96 := p_91 (by omega)
      clear p_89 p_90 p_91
      have z_97 : x_wps t nn sg a (x_ww t nn sg 1 n9 op A9) = Sum.inl (1, (x_ns t nn a)) := z_80.trans (p_wyx (fun z => by have := (x_kx_w2 (x_val t nn (x_ns t nn a))).2.1.mp z.2; omega))
      refine b_ine_f (pc := 20) rw_101_20 (A := r83.toInt) rfl (by omega) ?_
      refine to_c (pc := 23) rw_101_23 (x := (0 : Int32)) rfl rfl ?_
      refine s_r1 (pc := 24) rw_101_24 (A := 0) rfl (by decide) ?_
      have k_98 : (0 : Int32).toInt = 0 := rfl
      exact h (0 : Int32) M92 hG85 F93 (by decide) (by decide) p_88 (fun z => by exfalso; omega) (fun _ => winl (by omega) (by omega) z_97)
    · skip
      have p_99 := p_89 (by omega)
      clear p_89 p_90 p_91
      have z_100 : x_wps t nn sg a (x_ww t nn sg 1 n9 op A9) = x_wp t nn (x_ns t nn (x_ns t nn a)) (fun d => x_wp t nn d (fun e => x_wy2 t nn 9 e (fun g => x_wnd t nn sg g (x_ww t nn sg 1 n9 op A9)))) := z_80.trans (p_wy ⟨by omega, (x_kx_w2 (x_val t nn (x_ns t nn a))).2.1.mpr (by omega)⟩)
      have z_101 := x_ns_b (t := t) (n := nn) (a := (x_ns t nn a)) (by omega) (by omega)
      refine b_ine_t (pc := 20) rw_101_20 (A := r83.toInt) rfl (by omega) ?_
      refine to_an (pc := 25) rw_101_25 rfl ?_
      refine to_an (pc := 26) rw_101_26 rfl ?_
      refine to_an (pc := 27) rw_101_27 rfl ?_
      refine s_gR (pc := 28) rw_101_28 hG85 rfl (v := 31) rfl ?_
      refine to_i (pc := 31) rw_101_31 rfl ?_
      refine s_v (pc := 33) rw_101_33 (dp0 hd (by decide)) (ls0 := [.ref 28, .ref 1, .ref 31, .int s, .null]) rfl (Nat.le_of_ble_eq_true rfl) (Nat.le_of_ble_eq_true rfl) rfl (to_rc rfl rfl rfl (g_o hG85 rfl)) rfl ?_
      refine E_102y hX (dp1 hd (by decide)) hG85 (by omega) (by omega) p_88 (by omega) (s := s) (t := t) (nn := nn) (a := (x_ns t nn (x_ns t nn a))) (fun r102 M111 hG104 F103 p_105 p_106 p_107 p_108 p_109 p_110 => ?_)
      have F112 := FR.c F93 F103 tg_122
      rcases (show r102.toInt = 0 ∨ r102.toInt = 1 by omega) with h113 | h113
      · skip
        have p_114 := p_110 (by omega)
        clear p_108 p_109 p_110
        have z_115 : x_wps t nn sg a (x_ww t nn sg 1 n9 op A9) = Sum.inl (1, (x_ns t nn (x_ns t nn a))) := z_100.trans (p_wpx (by omega))
        refine b_ieq_t (pc := 36) rw_101_36 (A := r102.toInt) rfl (by omega) ?_
        refine to_c (pc := 62) rw_101_62 (x := (0 : Int32)) rfl rfl ?_
        refine s_r1 (pc := 63) rw_101_63 (A := 0) rfl (by decide) ?_
        have k_116 : (0 : Int32).toInt = 0 := rfl
        exact h (0 : Int32) M111 hG104 F112 (by decide) (by decide) p_107 (fun z => by exfalso; omega) (fun _ => winl (by omega) (by omega) z_115)
      · skip
        have p_117 := p_108 (by omega)
        have p_118 := p_109 (by omega)
        clear p_108 p_109 p_110
        have z_119 : x_wps t nn sg a (x_ww t nn sg 1 n9 op A9) = x_wp t nn (x_ns t nn (x_ns t nn (x_ns t nn a))) (fun e => x_wy2 t nn 9 e (fun g => x_wnd t nn sg g (x_ww t nn sg 1 n9 op A9))) := z_100.trans (p_wp (by omega))
        have z_120 := x_ns_b (t := t) (n := nn) (a := (x_ns t nn (x_ns t nn a))) (by omega) (by omega)
        refine b_ieq_f (pc := 36) rw_101_36 (A := r102.toInt) rfl (by omega) ?_
        refine to_an (pc := 39) rw_101_39 rfl ?_
        refine to_an (pc := 40) rw_101_40 rfl ?_
        refine to_an (pc := 41) rw_101_41 rfl ?_
        refine s_gR (pc := 42) rw_101_42 hG104 rfl (v := 32) rfl ?_
        refine to_i (pc := 45) rw_101_45 rfl ?_
        refine s_v (pc := 47) rw_101_47 (dp0 hd (by decide)) (ls0 := [.ref 28, .ref 1, .ref 32, .int s, .null]) rfl (Nat.le_of_ble_eq_true rfl) (Nat.le_of_ble_eq_true rfl) rfl (to_rc rfl rfl rfl (g_o hG104 rfl)) rfl ?_
        refine E_102z hX (dp1 hd (by decide)) hG104 (by omega) (by omega) p_107 (by omega) (s := s) (t := t) (nn := nn) (a := (x_ns t nn (x_ns t nn (x_ns t nn a)))) (fun r121 M130 hG123 F122 p_124 p_125 p_126 p_127 p_128 p_129 => ?_)
        have F131 := FR.c F112 F122 tg_123
        rcases (show r121.toInt = 0 ∨ r121.toInt = 1 by omega) with h132 | h132
        · skip
          have p_133 := p_129 (by omega)
          clear p_127 p_128 p_129
          have z_134 : x_wps t nn sg a (x_ww t nn sg 1 n9 op A9) = Sum.inl (1, (x_ns t nn (x_ns t nn (x_ns t nn a)))) := z_119.trans (p_wpx (by omega))
          refine b_ieq_t (pc := 50) rw_101_50 (A := r121.toInt) rfl (by omega) ?_
          refine to_c (pc := 62) rw_101_62 (x := (0 : Int32)) rfl rfl ?_
          refine s_r1 (pc := 63) rw_101_63 (A := 0) rfl (by decide) ?_
          have k_135 : (0 : Int32).toInt = 0 := rfl
          exact h (0 : Int32) M130 hG123 F131 (by decide) (by decide) p_126 (fun z => by exfalso; omega) (fun _ => winl (by omega) (by omega) z_134)
        · skip
          have p_136 := p_127 (by omega)
          have p_137 := p_128 (by omega)
          clear p_127 p_128 p_129
          have z_138 : x_wps t nn sg a (x_ww t nn sg 1 n9 op A9) = x_wy2 t nn 9 (x_ns t nn (x_ns t nn (x_ns t nn (x_ns t nn a)))) (fun g => x_wnd t nn sg g (x_ww t nn sg 1 n9 op A9)) := z_119.trans (p_wp (by omega))
          have z_139 := x_ns_b (t := t) (n := nn) (a := (x_ns t nn (x_ns t nn (x_ns t nn a)))) (by omega) (by omega)
          refine b_ieq_f (pc := 50) rw_101_50 (A := r121.toInt) rfl (by omega) ?_
          refine to_an (pc := 53) rw_101_53 rfl ?_
          refine to_c (pc := 54) rw_101_54 (x := (93323264 : Int32)) rfl rfl ?_
          refine s_v (pc := 56) rw_101_56 (dp0 hd (by decide)) (ls0 := [.ref 1, .int (93323264 : Int32)]) rfl (Nat.le_of_ble_eq_true rfl) (Nat.le_of_ble_eq_true rfl) rfl (to_rc rfl rfl rfl (g_o hG123 rfl)) rfl ?_
          have k_140 : (93323264 : Int32).toInt = 93323264 := rfl
          refine E_89 hX (dp1 hd (by decide)) hG123 p_126 (by omega) (by omega) (c := (93323264 : Int32)) (t := t) (nn := nn) (a := (x_ns t nn (x_ns t nn (x_ns t nn (x_ns t nn a))))) (fun r141 M150 hG143 F142 p_144 p_145 p_146 p_147 p_148 p_149 => ?_)
          have F151 := FR.c F131 F142 tg_119
          rcases (show r141.toInt = 0 ∨ r141.toInt = 1 by omega) with h152 | h152
          · skip
            have p_153 := p_148 (by omega)
            have p_154 := p_149 (by omega)
            clear p_147 p_148 p_149
            have z_155 : x_wps t nn sg a (x_ww t nn sg 1 n9 op A9) = Sum.inl (1, (x_ns t nn (x_ns t nn (x_ns t nn (x_ns t nn a))))) := z_138.trans (p_wyx (fun z => by have := (x_kx_w2 (x_val t nn (x_ns t nn (x_ns t nn (x_ns t nn (x_ns t nn a)))))).2.2.1.mp z.2; omega))
            refine b_ine_f (pc := 59) rw_101_59 (A := r141.toInt) rfl (by omega) ?_
            refine to_c (pc := 62) rw_101_62 (x := (0 : Int32)) rfl rfl ?_
            refine s_r1 (pc := 63) rw_101_63 (A := 0) rfl (by decide) ?_
            have k_156 : (0 : Int32).toInt = 0 := rfl
            exact h (0 : Int32) M150 hG143 F151 (by decide) (by decide) p_146 (fun z => by exfalso; omega) (fun _ => winl (by omega) (by omega) z_155)
          · skip
            have p_157 := p_147 (by omega)
            clear p_147 p_148 p_149
            have z_158 : x_wps t nn sg a (x_ww t nn sg 1 n9 op A9) = x_wnd t nn sg (x_ns t nn (x_ns t nn (x_ns t nn (x_ns t nn (x_ns t nn a))))) (x_ww t nn sg 1 n9 op A9) := z_138.trans (p_wy ⟨by omega, (x_kx_w2 (x_val t nn (x_ns t nn (x_ns t nn (x_ns t nn (x_ns t nn a)))))).2.2.1.mpr (by omega)⟩)
            have z_159 := x_ns_b (t := t) (n := nn) (a := (x_ns t nn (x_ns t nn (x_ns t nn (x_ns t nn a))))) (by omega) (by omega)
            refine b_ine_t (pc := 59) rw_101_59 (A := r141.toInt) rfl (by omega) ?_
            refine to_an (pc := 64) rw_101_64 rfl ?_
            refine s_gR (pc := 65) rw_101_65 hG143 rfl (v := 33) rfl ?_
            refine to_i (pc := 68) rw_101_68 rfl ?_
            refine to_cl (pc := 70) rw_101_70 rfl (x := (0 : Int64)) rfl ?_
            refine s_las (pc := 71) rw_101_71 hG143 rfl (n := 40) rfl (A := s.toInt) rfl (by omega) (by omega) (fun M161 W160 => ?_)
            have hG162 := g_wl hG143 W160
            have F163 := FR.wl F151 W160 (show 33 = 1 ∧ 6 ≤ (s.toInt).toNat ∧ (s.toInt).toNat ≤ 11 ∨ 30 ≤ 33 ∧ 33 ≤ 33 by omega)
            refine to_an (pc := 72) rw_101_72 rfl ?_
            refine to_an (pc := 73) rw_101_73 rfl ?_
            refine to_an (pc := 74) rw_101_74 rfl ?_
            refine to_an (pc := 75) rw_101_75 rfl ?_
            refine to_i (pc := 76) rw_101_76 rfl ?_
            refine s_v (pc := 78) rw_101_78 (dp0 hd (by decide)) (ls0 := [.ref 28, .ref 1, .ref p, .ref 11, .int s, .null, .null, .null, .null]) rfl (Nat.le_of_ble_eq_true rfl) (Nat.le_of_ble_eq_true rfl) rfl (to_rc rfl rfl rfl (g_o hG162 rfl)) rfl ?_
            have j_164 := (CS_f (fun a i z => W_l W160 rfl) p_146)
            have c_165 : M161.2.1 1 9 = (M150.2.1 1 9) := (W_l W160 rfl)
            have t_166 : (M161.2.1 1 9).toInt = (M150.2.1 1 9).toInt := congrArg Int32.toInt c_165
            have j_167 := (PLs_f (fun a i z => W_l W160 rfl) (PLs_f (fun a i z => F_n F142 (show ¬ (a = 1 ∧ 6 ≤ i ∧ i ≤ 11) by omega) rfl) (PLs_f (fun a i z => F_n F122 (show ¬ (a = 1 ∧ 6 ≤ i ∧ i ≤ 11 ∨ a = 32) by omega) rfl) (PLs_f (fun a i z => F_n F103 (show ¬ (a = 1 ∧ 6 ≤ i ∧ i ≤ 11 ∨ a = 31) by omega) rfl) (PLs_f (fun a i z => F_n F84 (show ¬ (a = 1 ∧ 6 ≤ i ∧ i ≤ 11) by omega) rfl) (PLs_f (fun a i z => F_n F64 (show ¬ (a = 1 ∧ 6 ≤ i ∧ i ≤ 11 ∨ a = 30) by omega) rfl) q5))))))
            refine E_103 hX (dp1 hd (by decide)) hG162 hp (by omega) (by omega) j_164 (by omega) j_167 (p := p) (s := s) (t := t) (nn := nn) (a := (x_ns t nn (x_ns t nn (x_ns t nn (x_ns t nn (x_ns t nn a)))))) (sg := sg) (fun r168 M177 hG170 F169 p_171 p_172 p_173 p_174 p_175 p_176 => ?_)
            have F178 := FR.c F163 F169 tg_120
            rcases (show r168.toInt = 0 ∨ r168.toInt = 1 by omega) with h179 | h179
            · skip
              have p_180 := p_176 (by omega)
              clear p_174 p_175 p_176
              have z_181 := z_158.trans (p_180 (x_ww t nn sg 1 n9 op A9))
              refine b_ine_f (pc := 81) rw_101_81 (A := r168.toInt) rfl (by omega) ?_
              refine to_c (pc := 84) rw_101_84 (x := (0 : Int32)) rfl rfl ?_
              refine s_r1 (pc := 85) rw_101_85 (A := 0) rfl (by decide) ?_
              have k_182 : (0 : Int32).toInt = 0 := rfl
              exact h (0 : Int32) M177 hG170 F178 (by decide) (by decide) p_173 (fun z => by exfalso; omega) (fun _ => winl (by omega) (by omega) z_181)
            · skip
              have p_183 := p_174 (by omega)
              have p_184 := p_175 (by omega)
              clear p_174 p_175 p_176
              have z_185 := z_158.trans (p_184 (x_ww t nn sg 1 n9 op A9))
              refine b_ine_t (pc := 81) rw_101_81 (A := r168.toInt) rfl (by omega) ?_
              refine to_c (pc := 86) rw_101_86 (x := (0 : Int32)) rfl rfl ?_
              refine to_is (pc := 87) rw_101_87 (ls2 := [.ref 28, .ref 1, .ref p, .ref 11, .int s, .int (0 : Int32)]) rfl rfl ?_
              have k_186 : (0 : Int32).toInt = 0 := rfl
              have j_187 := (PLs_f (fun a i z => F_n F169 (show ¬ (a = 1 ∧ 6 ≤ i ∧ i ≤ 11 ∨ a = 33) by omega) rfl) j_167)
              exact (U_101_0 (p := p) (s := s) (t := t) (nn := nn) (a := a) (sg := sg) (n9 := n9) (op := op) (A9 := A9) hX hd hp q1 q2 q3 q4 q5 q6 h ((500 - (0 : Int32).toInt).toNat + 1)) M177 (0 : Int32) hG170 F178 (by omega) (by omega) (by omega) (by omega) (by omega) p_173 j_187 z_185 (by omega)
set_option maxRecDepth 4000 in
set_option maxHeartbeats 0 in
theorem E_104 {X : mm_X} {d : Nat} {M : mm_M} {Q : Option Value → mm_M → Prop} {s : Int32} {t : Nat → Int} {nn : Int} {a : Int} (hX : g_X X) (hd : 2 ≤ d) (hG : g_G M) (q1 : 0 ≤ s.toInt) (q2 : s.toInt ≤ 39) (q3 : CS M t nn) (q4 : (M.2.1 1 9).toInt = a) (h : ∀ (r : Int32) (M1 : mm_M), g_G M1 → FR md_w101 M M1 → (0 ≤ r.toInt) → (r.toInt ≤ 1) → CS M1 t nn → ((r.toInt = 1 → ∀ k : Int → x_WR, x_wjn t nn a k = k (M1.2.1 1 9).toInt)) → ((r.toInt = 0 → ∀ k : Int → x_WR, x_wjn t nn a k = Sum.inl ((M1.2.1 1 10).toInt, (M1.2.1 1 11).toInt))) → Q (some (.int r)) M1) : mm_T X d 104 0 [.ref 28, .ref 1, .int s, .null] [] M Q := by
  have F0 : FR md_w101 M M := FR.rf
  have z_1 := x_pk_b (t := t) (nn := nn) (a := a)
  have z_2 := x_pk_b (t := t) (nn := nn) (a := (x_ns t nn a))
  refine to_an (pc := 0) rw_104_0 rfl ?_
  refine to_an (pc := 1) rw_104_1 rfl ?_
  refine to_an (pc := 2) rw_104_2 rfl ?_
  refine s_gR (pc := 3) rw_104_3 hG rfl (v := 30) rfl ?_
  refine to_in (pc := 6) rw_104_6 rfl ?_
  refine s_v (pc := 7) rw_104_7 (dp0 hd (by decide)) (ls0 := [.ref 28, .ref 1, .ref 30, .int s, .null]) rfl (Nat.le_of_ble_eq_true rfl) (Nat.le_of_ble_eq_true rfl) rfl (to_rc rfl rfl rfl (g_o hG rfl)) rfl ?_
  refine E_102x hX (dp1 hd (by decide)) hG (by omega) (by omega) q3 (by omega) (s := s) (t := t) (nn := nn) (a := a) (fun r3 M12 hG5 F4 p_6 p_7 p_8 p_9 p_10 p_11 => ?_)
  have F13 := FR.c F0 F4 tg_121
  rcases (show r3.toInt = 0 ∨ r3.toInt = 1 by omega) with h14 | h14
  · skip
    have p_15 := p_11 (by omega)
    clear p_9 p_10 p_11
    refine b_ine_f (pc := 10) rw_104_10 (A := r3.toInt) rfl (by omega) ?_
    refine to_c (pc := 13) rw_104_13 (x := (0 : Int32)) rfl rfl ?_
    refine s_r1 (pc := 14) rw_104_14 (A := 0) rfl (by decide) ?_
    have k_16 : (0 : Int32).toInt = 0 := rfl
    exact h (0 : Int32) M12 hG5 F13 (by decide) (by decide) p_8 (fun z => by exfalso; omega) (fun _ k9 => winl (by omega) (by omega) (wj_1 (by omega)))
  · skip
    have p_17 := p_9 (by omega)
    have p_18 := p_10 (by omega)
    clear p_9 p_10 p_11
    refine b_ine_t (pc := 10) rw_104_10 (A := r3.toInt) rfl (by omega) ?_
    refine to_an (pc := 15) rw_104_15 rfl ?_
    refine tt_gI (pc := 16) rw_104_16 (g_o hG5 rfl) (v := (M12.2.1 1 9)) rfl ?_
    refine to_isn (pc := 19) rw_104_19 (ls2 := [.ref 28, .ref 1, .int s, .int (M12.2.1 1 9)]) rfl rfl ?_
    refine to_an (pc := 20) rw_104_20 rfl ?_
    refine to_an (pc := 21) rw_104_21 rfl ?_
    refine to_an (pc := 22) rw_104_22 rfl ?_
    refine s_gR (pc := 23) rw_104_23 hG5 rfl (v := 31) rfl ?_
    refine to_in (pc := 26) rw_104_26 rfl ?_
    refine s_v (pc := 27) rw_104_27 (dp0 hd (by decide)) (ls0 := [.ref 28, .ref 1, .ref 31, .int s, .null]) rfl (Nat.le_of_ble_eq_true rfl) (Nat.le_of_ble_eq_true rfl) rfl (to_rc rfl rfl rfl (g_o hG5 rfl)) rfl ?_
    refine E_102y hX (dp1 hd (by decide)) hG5 (by omega) (by omega) p_8 (by omega) (s := s) (t := t) (nn := nn) (a := (x_ns t nn a)) (fun r19 M28 hG21 F20 p_22 p_23 p_24 p_25 p_26 p_27 => ?_)
    have F29 := FR.c F13 F20 tg_122
    rcases (show r19.toInt = 0 ∨ r19.toInt = 1 by omega) with h30 | h30
    · skip
      have p_31 := p_27 (by omega)
      clear p_25 p_26 p_27
      refine b_ine_f (pc := 30) rw_104_30 (A := r19.toInt) rfl (by omega) ?_
      refine to_c (pc := 33) rw_104_33 (x := (0 : Int32)) rfl rfl ?_
      refine s_r1 (pc := 34) rw_104_34 (A := 0) rfl (by decide) ?_
      have k_32 : (0 : Int32).toInt = 0 := rfl
      exact h (0 : Int32) M28 hG21 F29 (by decide) (by decide) p_24 (fun z => by exfalso; omega) (fun _ k9 => winl (by omega) (by omega) (wj_2 (by omega) (by omega)))
    · skip
      have p_33 := p_25 (by omega)
      have p_34 := p_26 (by omega)
      clear p_25 p_26 p_27
      refine b_ine_t (pc := 30) rw_104_30 (A := r19.toInt) rfl (by omega) ?_
      refine to_an (pc := 35) rw_104_35 rfl ?_
      refine s_gR (pc := 36) rw_104_36 hG21 rfl (v := 30) rfl ?_
      refine to_in (pc := 39) rw_104_39 rfl ?_
      refine s_ial (pc := 40) rw_104_40 hG21 rfl (n := 40) rfl rfl (A := s.toInt) rfl (by omega) (by omega) (lo := 0) (hi := 5) rfl rfl (fun v35 w_36 _ _ => ?_)
      have t_37 := congrArg Int32.toInt w_36
      have z_38 := (congrArg Int32.toInt (show M28.2.1 30 ((s.toInt).toNat) = M12.2.1 30 ((s.toInt).toNat) from (F_n F20 (show ¬ (30 = 1 ∧ 6 ≤ ((s.toInt).toNat) ∧ ((s.toInt).toNat) ≤ 11 ∨ 30 = 31) by omega) rfl)))
      refine to_an (pc := 41) rw_104_41 rfl ?_
      refine s_gR (pc := 42) rw_104_42 hG21 rfl (v := 31) rfl ?_
      refine to_in (pc := 45) rw_104_45 rfl ?_
      refine s_ial (pc := 46) rw_104_46 hG21 rfl (n := 40) rfl rfl (A := s.toInt) rfl (by omega) (by omega) (lo := 0) (hi := 5) rfl rfl (fun v39 w_40 _ _ => ?_)
      have t_41 := congrArg Int32.toInt w_40
      have z_42 := (congrArg Int32.toInt (show M28.2.1 31 ((s.toInt).toNat) = M28.2.1 31 ((s.toInt).toNat) from rfl))
      refine b_cne (pc := 47) rw_104_47 (A := v35.toInt) (B := v39.toInt) rfl rfl (fun h43 => ?_) (fun h43 => ?_)
      · refine to_an (pc := 57) rw_104_57 rfl ?_
        refine to_c (pc := 58) rw_104_58 (x := (59 : Int32)) rfl rfl ?_
        refine s_v (pc := 60) rw_104_60 (dp0 hd (by decide)) (ls0 := [.ref 1, .int (59 : Int32)]) rfl (Nat.le_of_ble_eq_true rfl) (Nat.le_of_ble_eq_true rfl) rfl (to_rc rfl rfl rfl (g_o hG21 rfl)) rfl ?_
        have k_44 : (59 : Int32).toInt = 59 := rfl
        refine E_90s hX (dp1 hd (by decide)) hG21 p_24 (by omega) (by omega) (c := (59 : Int32)) (t := t) (nn := nn) (a := (x_ns t nn (x_ns t nn a))) (fun r45 M54 hG47 F46 p_48 p_49 p_50 p_51 p_52 p_53 => ?_)
        have F55 := FR.c F29 F46 tg_119
        rcases (show r45.toInt = 0 ∨ r45.toInt = 1 by omega) with h56 | h56
        · skip
          have p_57 := p_52 (by omega)
          have p_58 := p_53 (by omega)
          clear p_51 p_52 p_53
          refine s_r1 (pc := 63) rw_104_63 (A := r45.toInt) rfl (by omega) ?_
          exact h r45 M54 hG47 F55 (by omega) (by omega) p_50 (fun z => by exfalso; omega) (fun _ k9 => winl (by omega) (by omega) (wj_4 (by omega) (by omega) (by omega) (by omega)))
        · skip
          have p_59 := p_51 (by omega)
          clear p_51 p_52 p_53
          refine s_r1 (pc := 63) rw_104_63 (A := r45.toInt) rfl (by omega) ?_
          exact h r45 M54 hG47 F55 (by omega) (by omega) p_50 (fun _ k9 => by rw [show (M54.2.1 1 9).toInt = (x_ns t nn (x_ns t nn (x_ns t nn a))) by omega]; exact wj_y (by omega) (by omega) (by omega) (by omega)) (fun z => by exfalso; omega)
      · refine to_an (pc := 50) rw_104_50 rfl ?_
        refine to_c (pc := 51) rw_104_51 (x := (3 : Int32)) rfl rfl ?_
        refine to_in (pc := 52) rw_104_52 rfl ?_
        refine s_v (pc := 53) rw_104_53 (dp0 hd (by decide)) (ls0 := [.ref 1, .int (3 : Int32), .int (M12.2.1 1 9)]) rfl (Nat.le_of_ble_eq_true rfl) (Nat.le_of_ble_eq_true rfl) rfl (to_rc rfl rfl rfl (g_o hG21 rfl)) rfl ?_
        refine to_an (pc := 0) rw_85_0 rfl ?_
        refine to_in (pc := 1) rw_85_1 rfl ?_
        refine s_pI (pc := 2) rw_85_2 hG21 rfl (fun M61 W60 => ?_)
        have hG62 := g_wf hG21 W60 rfl rfl (by decide)
        have F63 := FR.w F29 W60 (show 1 = 1 ∧ 6 ≤ 10 ∧ 10 ≤ 11 ∨ 30 ≤ 1 ∧ 1 ≤ 33 by decide)
        refine to_an (pc := 5) rw_85_5 rfl ?_
        refine to_in (pc := 6) rw_85_6 rfl ?_
        refine s_pI (pc := 7) rw_85_7 hG62 rfl (fun M65 W64 => ?_)
        have hG66 := g_wf hG62 W64 rfl rfl (by decide)
        have F67 := FR.w F63 W64 (show 1 = 1 ∧ 6 ≤ 11 ∧ 11 ≤ 11 ∨ 30 ≤ 1 ∧ 1 ≤ 33 by decide)
        refine to_c (pc := 10) rw_85_10 (x := (0 : Int32)) rfl rfl ?_
        refine s_r1 (pc := 11) rw_85_11 (A := 0) rfl (by decide) ?_
        refine s_r1 (pc := 56) rw_104_56 (A := 0) rfl (by decide) ?_
        have k_68 : (0 : Int32).toInt = 0 := rfl
        have j_69 := (CS_f (fun a i z => W_n W64 (tg_32 a i z) rfl) (CS_f (fun a i z => W_n W60 (tg_33 a i z) rfl) p_24))
        have c_70 : M65.2.1 1 10 = (3 : Int32) := (W_n W64 (by decide) (W_e W60))
        have k_71 : (3 : Int32).toInt = 3 := rfl
        have t_72 : (M65.2.1 1 10).toInt = (3 : Int32).toInt := congrArg Int32.toInt c_70
        have c_73 : M65.2.1 1 11 = (M12.2.1 1 9) := (W_e W64)
        have t_74 : (M65.2.1 1 11).toInt = (M12.2.1 1 9).toInt := congrArg Int32.toInt c_73
        exact h (0 : Int32) M65 hG66 F67 (by decide) (by decide) j_69 (fun z => by exfalso; omega) (fun _ k9 => winl (by omega) (by omega) (wj_3 (by omega) (by omega) (by omega)))

end
section
theorem tg_124 : ∀ a i : Nat, (a = 1 ∧ (i = 10 ∨ i = 11)) → (a = 1 ∧ 6 ≤ i ∧ i ≤ 11 ∨ 28 ≤ a ∧ a ≤ 35) := fun a i z => by omega
theorem tg_125 : ∀ a i : Nat, (a = 1 ∧ 6 ≤ i ∧ i ≤ 9) → (a = 1 ∧ 6 ≤ i ∧ i ≤ 11 ∨ 28 ≤ a ∧ a ≤ 35) := fun a i z => by omega
theorem tg_126 : ∀ a i : Nat, (a = 1 ∧ 6 ≤ i ∧ i ≤ 11) → (a = 1 ∧ 6 ≤ i ∧ i ≤ 11 ∨ 28 ≤ a ∧ a ≤ 35) := fun a i z => by omega
theorem tg_127 : ∀ a i : Nat, (a = 1 ∧ 6 ≤ i ∧ i ≤ 11 ∨ 28 ≤ a ∧ a ≤ 35) → (a = 1 ∧ 6 ≤ i ∧ i ≤ 11 ∨ 28 ≤ a ∧ a ≤ 35) := fun a i z => by omega
theorem tg_128 : ∀ a i : Nat, (a = 1 ∧ 6 ≤ i ∧ i ≤ 11 ∨ 30 ≤ a ∧ a ≤ 33) → (a = 1 ∧ 6 ≤ i ∧ i ≤ 11 ∨ 28 ≤ a ∧ a ≤ 35) := fun a i z => by omega
theorem tg_129 : ∀ a i : Nat, (a = 29 ∨ a = 34 ∨ a = 35) → ¬ (a = 1 ∧ (i = 10 ∨ i = 11)) := fun a i z => by omega
theorem tg_130 : ∀ a i j : Nat, (a = 1 ∧ 5 ≤ i ∧ i ≤ 9 ∨ 3 ≤ a ∧ a ≤ 5) → ¬ (a = 34 ∧ i = j) := fun a i j z => by omega
theorem tg_131 : ∀ a i : Nat, (a = 29 ∨ a = 34 ∨ a = 35) → ¬ (a = 1 ∧ 6 ≤ i ∧ i ≤ 11) := fun a i z => by omega
theorem tg_132 : ∀ a i : Nat, (a = 29 ∨ a = 34 ∨ a = 35) → ¬ (a = 1 ∧ 6 ≤ i ∧ i ≤ 9) := fun a i z => by omega
theorem tg_133 : ∀ a i : Nat, (a = 29 ∨ a = 34 ∨ a = 35) → ¬ (a = 28 ∧ i = 7) := fun a i z => by omega
theorem tg_134 : ∀ a i j : Nat, (a = 1 ∧ 5 ≤ i ∧ i ≤ 9 ∨ 3 ≤ a ∧ a ≤ 5) → ¬ (a = 29 ∧ i = j) := fun a i j z => by omega
theorem tg_135 : ∀ a i : Nat, (a = 1 ∧ 5 ≤ i ∧ i ≤ 9 ∨ 3 ≤ a ∧ a ≤ 5) → ¬ (a = 28 ∧ i = 7) := fun a i z => by omega
theorem tg_136 : ∀ a i j : Nat, (a = 1 ∧ 5 ≤ i ∧ i ≤ 9 ∨ 3 ≤ a ∧ a ≤ 5) → ¬ (a = 35 ∧ i = j) := fun a i j z => by omega
theorem tg_137 : ∀ a i : Nat, (a = 29 ∨ a = 34 ∨ a = 35) → ¬ (a = 1 ∧ 6 ≤ i ∧ i ≤ 11 ∨ 30 ≤ a ∧ a ≤ 33) := fun a i z => by omega
noncomputable def RE_99 (k : Int) : Prop := ∀ (X : mm_X) (d : Nat) (M : mm_M) (Q : Option Value → mm_M → Prop) (p : Nat) (o : Int32) (t : Nat → Int) (nn : Int) (a : Int) (sg : x_S) (n9 : Int) (op : List Int) (A9 : x_A), g_X X → (5 + 3 * (5 - o.toInt) ≤ (d : Int)) → g_G M → (p = 49 ∨ p = 58) → (0 ≤ o.toInt) → (o.toInt ≤ 5) → CS M t nn → ((M.2.1 1 9).toInt = a) → PLs M p sg → (nn ≤ 500) → (0 ≤ n9) → (WKc M A9 n9 op) → ((op.length : Int) = o.toInt) → (∀ m ∈ op, m < n9) → ((M.2.1 28 7).toInt = n9) → 5 - o.toInt < k → (∀ (r : Int32) (M1 : mm_M), g_G M1 → FR md_w100 M M1 → (0 ≤ r.toInt) → (r.toInt ≤ 1) → CS M1 t nn → (r.toInt = 1 → n9 ≤ (M1.2.1 28 7).toInt) → ((r.toInt = 1 → WQ t nn sg (x_ww t nn sg 0 n9 op A9 a) M1 A9 n9 op o.toInt ∧ ¬ x_kind t nn (M1.2.1 1 9).toInt = 1)) → ((r.toInt = 0 → x_ww t nn sg 0 n9 op A9 a = Sum.inl ((M1.2.1 1 10).toInt, (M1.2.1 1 11).toInt))) → Q (some (.int r)) M1) → mm_T X d 99 0 [.ref 28, .ref 1, .ref p, .ref 11, .int o, .null] [] M Q
set_option maxRecDepth 4000 in
set_option maxHeartbeats 0 in
theorem E_105 {X : mm_X} {d : Nat} {M : mm_M} {Q : Option Value → mm_M → Prop} {p : Nat} {o : Int32} {s : Int32} {t : Nat → Int} {nn : Int} {a : Int} {sg : x_S} {n9 : Int} {op : List Int} {A9 : x_A} (hX : g_X X) (hd : 3 + 3 * (5 - o.toInt) ≤ (d : Int)) (hG : g_G M) (hp : p = 49 ∨ p = 58) (q1 : 0 ≤ o.toInt) (q2 : o.toInt ≤ 5) (q3 : 0 ≤ s.toInt) (q4 : s.toInt ≤ 39) (q5 : CS M t nn) (q6 : (M.2.1 1 9).toInt = a) (q7 : PLs M p sg) (q8 : nn ≤ 500) (q9 : 0 ≤ n9) (q10 : WKc M A9 n9 op) (q11 : (op.length : Int) = o.toInt) (q12 : ∀ m ∈ op, m < n9) (q13 : s.toInt = n9) (q14 : (M.2.1 28 7).toInt = n9 + 1) (q15 : (M.2.1 29 n9.toNat).toInt = 40936896) (hr : RE_99 (5 - o.toInt)) (h : ∀ (r : Int32) (M1 : mm_M), g_G M1 → FR md_w100 M M1 → (0 ≤ r.toInt) → (r.toInt ≤ 1) → CS M1 t nn → (r.toInt = 1 → n9 < (M1.2.1 28 7).toInt) → ((r.toInt = 1 → WA t nn sg (x_wag t nn o.toInt a (fun tm => x_ww t nn sg 0 (n9 + 1) (n9 :: op) (x_kt A9 n9 tm))) M1 A9 n9 op o.toInt)) → ((r.toInt = 0 → x_wag t nn o.toInt a (fun tm => x_ww t nn sg 0 (n9 + 1) (n9 :: op) (x_kt A9 n9 tm)) = Sum.inl ((M1.2.1 1 10).toInt, (M1.2.1 1 11).toInt))) → Q (some (.int r)) M1) : mm_T X d 105 0 [.ref 28, .ref 1, .ref p, .ref 11, .int o, .int s] [] M Q := by
  have F0 : FR md_w100 M M := FR.rf
  have b_1 := g_b hG (a := 28) (i := 7) (lo := 0) (hi := 40) rfl rfl
  refine to_an (pc := 0) rw_105_0 rfl ?_
  refine to_c (pc := 1) rw_105_1 (x := (0 : Int32)) rfl rfl ?_
  refine to_c (pc := 2) rw_105_2 (x := (99 : Int32)) rfl rfl ?_
  refine s_v (pc := 4) rw_105_4 (by omega) (ls0 := [.ref 1, .int (0 : Int32), .int (99 : Int32)]) rfl (Nat.le_of_ble_eq_true rfl) (Nat.le_of_ble_eq_true rfl) rfl (to_rc rfl rfl rfl (g_o hG rfl)) rfl ?_
  have k_2 : (0 : Int32).toInt = 0 := rfl
  have k_3 : (99 : Int32).toInt = 99 := rfl
  refine E_88f hX (by omega) hG q5 (by omega) (l := (0 : Int32)) (m := (99 : Int32)) (t := t) (nn := nn) (a := a) (fun r4 M14 hG6 F5 p_7 p_8 p_9 p_10 p_11 p_12 p_13 => ?_)
  have F15 := FR.c F0 F5 tg_124
  rcases (show r4.toInt = 0 ∨ r4.toInt = 1 by omega) with h16 | h16
  · skip
    have p_17 := p_10 (by omega)
    have p_18 := p_11 (by omega)
    clear p_9 p_10 p_11
    have z_19 := x_val_b (t := t) (nn := nn) (a := a)
    refine b_ine_f (pc := 7) rw_105_7 (A := r4.toInt) rfl (by omega) ?_
    refine to_c (pc := 10) rw_105_10 (x := (0 : Int32)) rfl rfl ?_
    refine s_r1 (pc := 11) rw_105_11 (A := 0) rfl (by decide) ?_
    have j_20 := (CS_f (tg_34 F5) q5)
    have c_21 : M14.2.1 28 7 = (M.2.1 28 7) := (F_n F5 (show ¬ (28 = 1 ∧ (7 = 10 ∨ 7 = 11)) by decide) rfl)
    have t_22 : (M14.2.1 28 7).toInt = (M.2.1 28 7).toInt := congrArg Int32.toInt c_21
    exact h (0 : Int32) M14 hG6 F15 (by decide) (by decide) j_20 (by omega) (fun z => by exfalso; omega) (fun _ => if g9 : x_kind t nn a = 3 then winl (by omega) (by omega) (ag_2 g9 (by omega)) else winl (by omega) (by omega) (ag_1 g9))
  · skip
    have p_23 := p_9 (by omega)
    clear p_9 p_10 p_11
    have z_24 := x_val_b (t := t) (nn := nn) (a := a) (by omega)
    refine b_ine_t (pc := 7) rw_105_7 (A := r4.toInt) rfl (by omega) ?_
    refine to_an (pc := 12) rw_105_12 rfl ?_
    refine s_gR (pc := 13) rw_105_13 hG6 rfl (v := 34) rfl ?_
    refine to_i (pc := 16) rw_105_16 rfl ?_
    refine to_an (pc := 18) rw_105_18 rfl ?_
    have c_25 : M14.2.1 1 8 = (M.2.1 1 8) := (F_n F5 (show ¬ (1 = 1 ∧ (8 = 10 ∨ 8 = 11)) by decide) rfl)
    refine tt_gI (pc := 19) rw_105_19 (g_o hG6 rfl) (v := (M.2.1 1 8)) c_25 ?_
    refine s_ias (pc := 22) rw_105_22 hG6 rfl (n := 40) rfl (A := s.toInt) rfl (by omega) (by omega) (fun M27 W26 => ?_)
    have hG28 := g_w hG6 W26 (A := (M.2.1 1 8).toInt) rfl (lo := 0) (hi := 99) rfl rfl (by omega) (by decide)
    have F29 := FR.w F15 W26 (show 34 = 1 ∧ 6 ≤ (s.toInt).toNat ∧ (s.toInt).toNat ≤ 11 ∨ 28 ≤ 34 ∧ 34 ≤ 35 by omega)
    have z_30 := WKc_w2 (WKc_f (fun a i z => (F_n F5 (tg_129 a i z) rfl)) q10) W26 (by omega)
    refine to_an (pc := 23) rw_105_23 rfl ?_
    refine s_v (pc := 24) rw_105_24 (by omega) (ls0 := [.ref 1]) rfl (Nat.le_of_ble_eq_true rfl) (Nat.le_of_ble_eq_true rfl) rfl (to_rc rfl rfl rfl (g_o hG28 rfl)) rfl ?_
    have j_31 := (CS_f (fun a i z => W_n W26 (tg_130 a i _ z) rfl) (CS_f (tg_34 F5) q5))
    have c_32 : M27.2.1 1 9 = (M.2.1 1 9) := (W_n W26 (fun z => absurd z.1 (by decide)) (F_n F5 (show ¬ (1 = 1 ∧ (9 = 10 ∨ 9 = 11)) by decide) rfl))
    have t_33 : (M27.2.1 1 9).toInt = (M.2.1 1 9).toInt := congrArg Int32.toInt c_32
    refine E_83 hX (by omega) hG28 j_31 (by omega) (t := t) (nn := nn) (a := a) (fun M38 hG35 F34 p_36 p_37 => ?_)
    have F39 := FR.c F29 F34 tg_125
    have c_40 := CS_u p_36 (a := (x_ns t nn a)) (by omega)
    unfold x_C at c_40
    have z_41 := c_40.2
    refine to_an (pc := 27) rw_105_27 rfl ?_
    refine tt_gI (pc := 28) rw_105_28 (g_o hG35 rfl) (v := (M38.2.1 1 7)) rfl ?_
    refine to_c (pc := 31) rw_105_31 (x := (40 : Int32)) rfl rfl ?_
    refine b_cne (pc := 33) rw_105_33 (A := (M38.2.1 1 7).toInt) (B := 40) rfl rfl (fun h42 => ?_) (fun h42 => ?_)
    · have z_43 : ¬ (x_kind t nn (x_ns t nn a) = 4 ∧ x_val t nn (x_ns t nn a) = 40) := by omega
      clear c_40
      refine to_an (pc := 48) rw_105_48 rfl ?_
      refine to_c (pc := 49) rw_105_49 (x := (40 : Int32)) rfl rfl ?_
      refine s_v (pc := 51) rw_105_51 (by omega) (ls0 := [.ref 1, .int (40 : Int32)]) rfl (Nat.le_of_ble_eq_true rfl) (Nat.le_of_ble_eq_true rfl) rfl (to_rc rfl rfl rfl (g_o hG35 rfl)) rfl ?_
      have k_44 : (40 : Int32).toInt = 40 := rfl
      refine E_90s hX (by omega) hG35 p_36 (by omega) (by omega) (c := (40 : Int32)) (t := t) (nn := nn) (a := (x_ns t nn a)) (fun r45 M54 hG47 F46 p_48 p_49 p_50 p_51 p_52 p_53 => ?_)
      have F55 := FR.c F39 F46 tg_126
      rcases (show r45.toInt = 0 ∨ r45.toInt = 1 by omega) with h56 | h56
      · skip
        have p_57 := p_52 (by omega)
        have p_58 := p_53 (by omega)
        clear p_51 p_52 p_53
        refine b_ieq_t (pc := 54) rw_105_54 (A := r45.toInt) rfl (by omega) ?_
        refine to_c (pc := 84) rw_105_84 (x := (0 : Int32)) rfl rfl ?_
        refine s_r1 (pc := 85) rw_105_85 (A := 0) rfl (by decide) ?_
        have c_59 : M54.2.1 28 7 = (M.2.1 28 7) := (F_n F46 (show ¬ (28 = 1 ∧ 6 ≤ 7 ∧ 7 ≤ 11) by decide) (F_n F34 (show ¬ (28 = 1 ∧ 6 ≤ 7 ∧ 7 ≤ 9) by decide) (W_n W26 (fun z => absurd z.1 (by decide)) (F_n F5 (show ¬ (28 = 1 ∧ (7 = 10 ∨ 7 = 11)) by decide) rfl))))
        have t_60 : (M54.2.1 28 7).toInt = (M.2.1 28 7).toInt := congrArg Int32.toInt c_59
        exact h (0 : Int32) M54 hG47 F55 (by decide) (by decide) p_50 (by omega) (fun z => by exfalso; omega) (fun _ => winl (by omega) (by omega) (ag_3 (by omega) (by omega) (by omega)))
      · skip
        have p_61 := p_51 (by omega)
        clear p_51 p_52 p_53
        have z_62 : x_wag t nn o.toInt a (fun tm => x_ww t nn sg 0 (n9 + 1) (n9 :: op) (x_kt A9 n9 tm)) = x_ww t nn sg 0 (n9 + 1) (n9 :: op) (x_kt A9 n9 (x_val t nn a)) (x_ns t nn (x_ns t nn a)) := ag_y (by omega) (by omega) (by omega) (by omega)
        refine b_ieq_f (pc := 54) rw_105_54 (A := r45.toInt) rfl (by omega) ?_
        refine to_an (pc := 57) rw_105_57 rfl ?_
        refine to_an (pc := 58) rw_105_58 rfl ?_
        refine to_an (pc := 59) rw_105_59 rfl ?_
        refine to_an (pc := 60) rw_105_60 rfl ?_
        refine to_i (pc := 61) rw_105_61 rfl ?_
        refine to_c (pc := 63) rw_105_63 (x := (1 : Int32)) rfl rfl ?_
        refine s_add (pc := 64) rw_105_64 (A := o.toInt) (B := 1) rfl rfl (by omega) (fun v63 e64 => ?_)
        refine s_v (pc := 65) rw_105_65 (by omega) (ls0 := [.ref 28, .ref 1, .ref p, .ref 11, .int v63, .null]) rfl (Nat.le_of_ble_eq_true rfl) (Nat.le_of_ble_eq_true rfl) rfl (to_rc rfl rfl rfl (g_o hG47 rfl)) rfl ?_
        have j_65 := (PLs_f (fun a i z => F_n F46 (show ¬ (a = 1 ∧ 6 ≤ i ∧ i ≤ 11) by omega) rfl) (PLs_f (fun a i z => F_n F34 (show ¬ (a = 1 ∧ 6 ≤ i ∧ i ≤ 9) by omega) rfl) (PLs_f (fun a i z => W_n W26 (by /-r34-/ omega) rfl) (PLs_f (fun a i z => F_n F5 (show ¬ (a = 1 ∧ (i = 10 ∨ i = 11)) by omega) rfl) q7))))
        have z_66 : (M54.2.1 34 n9.toNat).toInt = x_val t nn a := by rw [show n9.toNat = (s.toInt).toNat by omega, show M54.2.1 34 (s.toInt).toNat = (M.2.1 1 8) from (F_n F46 (show ¬ (34 = 1 ∧ 6 ≤ (s.toInt).toNat ∧ (s.toInt).toNat ≤ 11) by omega) (F_n F34 (show ¬ (34 = 1 ∧ 6 ≤ (s.toInt).toNat ∧ (s.toInt).toNat ≤ 9) by omega) (W_e W26)))]; omega
        have z_67 : (M54.2.1 29 n9.toNat).toInt = x_kw 2 := (congrArg Int32.toInt (show M54.2.1 29 n9.toNat = M.2.1 29 n9.toNat from (F_n F46 (show ¬ (29 = 1 ∧ 6 ≤ n9.toNat ∧ n9.toNat ≤ 11) by omega) (F_n F34 (show ¬ (29 = 1 ∧ 6 ≤ n9.toNat ∧ n9.toNat ≤ 9) by omega) (W_n W26 (by omega) (F_n F5 (show ¬ (29 = 1 ∧ (n9.toNat = 10 ∨ n9.toNat = 11)) by omega) rfl)))))).trans q15
        have c_68 : M54.2.1 28 7 = (M.2.1 28 7) := (F_n F46 (show ¬ (28 = 1 ∧ 6 ≤ 7 ∧ 7 ≤ 11) by decide) (F_n F34 (show ¬ (28 = 1 ∧ 6 ≤ 7 ∧ 7 ≤ 9) by decide) (W_n W26 (fun z => absurd z.1 (by decide)) (F_n F5 (show ¬ (28 = 1 ∧ (7 = 10 ∨ 7 = 11)) by decide) rfl))))
        have t_69 : (M54.2.1 28 7).toInt = (M.2.1 28 7).toInt := congrArg Int32.toInt c_68
        refine hr X _ _ _ p v63 t nn (x_ns t nn (x_ns t nn a)) sg (n9 + 1) (n9 :: op) (x_kt A9 n9 (x_val t nn a)) hX (by omega) hG47 hp (by omega) (by omega) p_50 (by omega) j_65 (by omega) (by omega) (WKc_t (by omega) (WKc_f (fun a i z => (F_n F46 (tg_131 a i z) (F_n F34 (tg_132 a i z) rfl))) z_30) z_67 z_66) (by rw [List.length_cons]; omega) (fun m hm => by rcases List.mem_cons.mp hm with y | y; omega; have := q12 m y; omega) (by omega) (by omega) (fun r70 M79 hG72 F71 p_73 p_74 p_75 p_76 p_77 p_78 => ?_)
        have F80 := FR.c F55 F71 tg_127
        have b_81 := g_b hG72 (a := 28) (i := 7) (lo := 0) (hi := 40) rfl rfl
        rcases (show r70.toInt = 0 ∨ r70.toInt = 1 by omega) with h82 | h82
        · skip
          have p_83 := p_78 (by omega)
          clear p_76 p_77 p_78
          have z_84 := z_62.trans p_83
          refine b_ieq_t (pc := 68) rw_105_68 (A := r70.toInt) rfl (by omega) ?_
          refine to_c (pc := 84) rw_105_84 (x := (0 : Int32)) rfl rfl ?_
          refine s_r1 (pc := 85) rw_105_85 (A := 0) rfl (by decide) ?_
          exact h (0 : Int32) M79 hG72 F80 (by decide) (by decide) p_75 (by omega) (fun z => by exfalso; omega) (fun _ => winl (by omega) (by omega) z_84)
        · skip
          have p_85 := p_76 (by omega)
          have p_86 := p_77 (by omega)
          clear p_76 p_77 p_78
          have z_87 := WQ_e z_62 p_86.1
          have c_88 := CS_u p_75 (a := (M79.2.1 1 9).toInt) (by omega)
          unfold x_C at c_88
          have z_89 := p_86.2
          refine b_ieq_f (pc := 68) rw_105_68 (A := r70.toInt) rfl (by omega) ?_
          refine to_an (pc := 71) rw_105_71 rfl ?_
          refine to_c (pc := 72) rw_105_72 (x := (41 : Int32)) rfl rfl ?_
          refine s_v (pc := 74) rw_105_74 (by omega) (ls0 := [.ref 1, .int (41 : Int32)]) rfl (Nat.le_of_ble_eq_true rfl) (Nat.le_of_ble_eq_true rfl) rfl (to_rc rfl rfl rfl (g_o hG72 rfl)) rfl ?_
          have k_90 : (41 : Int32).toInt = 41 := rfl
          refine E_90s hX (by omega) hG72 p_75 (by omega) (by omega) (c := (41 : Int32)) (t := t) (nn := nn) (a := (M79.2.1 1 9).toInt) (fun r91 M100 hG93 F92 p_94 p_95 p_96 p_97 p_98 p_99 => ?_)
          have F101 := FR.c F80 F92 tg_126
          rcases (show r91.toInt = 0 ∨ r91.toInt = 1 by omega) with h102 | h102
          · skip
            have p_103 := p_98 (by omega)
            have p_104 := p_99 (by omega)
            clear p_97 p_98 p_99
            have z_105 := WC_x z_87 (by omega) (by omega) (by omega) (by omega)
            refine b_ieq_t (pc := 77) rw_105_77 (A := r91.toInt) rfl (by omega) ?_
            refine to_c (pc := 84) rw_105_84 (x := (0 : Int32)) rfl rfl ?_
            refine s_r1 (pc := 85) rw_105_85 (A := 0) rfl (by decide) ?_
            have c_106 : M100.2.1 28 7 = (M79.2.1 28 7) := (F_n F92 (show ¬ (28 = 1 ∧ 6 ≤ 7 ∧ 7 ≤ 11) by decide) rfl)
            have t_107 : (M100.2.1 28 7).toInt = (M79.2.1 28 7).toInt := congrArg Int32.toInt c_106
            exact h (0 : Int32) M100 hG93 F101 (by decide) (by decide) p_96 (by omega) (fun z => by exfalso; omega) (fun _ => winl (by omega) (by omega) z_105)
          · skip
            have p_108 := p_97 (by omega)
            clear p_97 p_98 p_99
            refine b_ieq_f (pc := 77) rw_105_77 (A := r91.toInt) rfl (by omega) ?_
            refine to_c (pc := 80) rw_105_80 (x := (1 : Int32)) rfl rfl ?_
            refine to_go (pc := 81) rw_105_81 ?_
            refine s_r1 (pc := 85) rw_105_85 (A := 1) rfl (by decide) ?_
            have k_109 : (1 : Int32).toInt = 1 := rfl
            have c_110 : M100.2.1 28 7 = (M79.2.1 28 7) := (F_n F92 (show ¬ (28 = 1 ∧ 6 ≤ 7 ∧ 7 ≤ 11) by decide) rfl)
            have t_111 : (M100.2.1 28 7).toInt = (M79.2.1 28 7).toInt := congrArg Int32.toInt c_110
            exact h (1 : Int32) M100 hG93 F101 (by decide) (by decide) p_96 (by omega) (fun _ => WA_i (tm := x_val t nn a) (by omega) (by omega) (by omega) (by omega) (WQ_o (by omega) z_87) (by omega) (by omega) (by omega) (fun a i z => (F_n F92 (show ¬ (a = 1 ∧ 6 ≤ i ∧ i ≤ 11) by omega) rfl)) (by omega)) (fun z => by exfalso; omega)
    · have z_112 : x_kind t nn (x_ns t nn a) = 4 ∧ x_val t nn (x_ns t nn a) = 40 := by omega
      clear c_40
      refine to_i (pc := 36) rw_105_36 rfl ?_
      refine to_c (pc := 38) rw_105_38 (x := (5 : Int32)) rfl rfl ?_
      refine b_clt (pc := 39) rw_105_39 (A := o.toInt) (B := 5) rfl rfl (fun h113 => ?_) (fun h113 => ?_)
      · refine to_an (pc := 48) rw_105_48 rfl ?_
        refine to_c (pc := 49) rw_105_49 (x := (40 : Int32)) rfl rfl ?_
        refine s_v (pc := 51) rw_105_51 (by omega) (ls0 := [.ref 1, .int (40 : Int32)]) rfl (Nat.le_of_ble_eq_true rfl) (Nat.le_of_ble_eq_true rfl) rfl (to_rc rfl rfl rfl (g_o hG35 rfl)) rfl ?_
        have k_114 : (40 : Int32).toInt = 40 := rfl
        refine E_90s hX (by omega) hG35 p_36 (by omega) (by omega) (c := (40 : Int32)) (t := t) (nn := nn) (a := (x_ns t nn a)) (fun r115 M124 hG117 F116 p_118 p_119 p_120 p_121 p_122 p_123 => ?_)
        have F125 := FR.c F39 F116 tg_126
        rcases (show r115.toInt = 0 ∨ r115.toInt = 1 by omega) with h126 | h126
        · skip
          have p_127 := p_122 (by omega)
          have p_128 := p_123 (by omega)
          clear p_121 p_122 p_123
          refine b_ieq_t (pc := 54) rw_105_54 (A := r115.toInt) rfl (by omega) ?_
          refine to_c (pc := 84) rw_105_84 (x := (0 : Int32)) rfl rfl ?_
          refine s_r1 (pc := 85) rw_105_85 (A := 0) rfl (by decide) ?_
          have c_129 : M124.2.1 28 7 = (M.2.1 28 7) := (F_n F116 (show ¬ (28 = 1 ∧ 6 ≤ 7 ∧ 7 ≤ 11) by decide) (F_n F34 (show ¬ (28 = 1 ∧ 6 ≤ 7 ∧ 7 ≤ 9) by decide) (W_n W26 (fun z => absurd z.1 (by decide)) (F_n F5 (show ¬ (28 = 1 ∧ (7 = 10 ∨ 7 = 11)) by decide) rfl))))
          have t_130 : (M124.2.1 28 7).toInt = (M.2.1 28 7).toInt := congrArg Int32.toInt c_129
          exact h (0 : Int32) M124 hG117 F125 (by decide) (by decide) p_120 (by omega) (fun z => by exfalso; omega) (fun _ => winl (by omega) (by omega) (ag_3 (by omega) (by omega) (by omega)))
        · skip
          have p_131 := p_121 (by omega)
          clear p_121 p_122 p_123
          have z_132 : x_wag t nn o.toInt a (fun tm => x_ww t nn sg 0 (n9 + 1) (n9 :: op) (x_kt A9 n9 tm)) = x_ww t nn sg 0 (n9 + 1) (n9 :: op) (x_kt A9 n9 (x_val t nn a)) (x_ns t nn (x_ns t nn a)) := ag_y (by omega) (by omega) (by omega) (by omega)
          refine b_ieq_f (pc := 54) rw_105_54 (A := r115.toInt) rfl (by omega) ?_
          refine to_an (pc := 57) rw_105_57 rfl ?_
          refine to_an (pc := 58) rw_105_58 rfl ?_
          refine to_an (pc := 59) rw_105_59 rfl ?_
          refine to_an (pc := 60) rw_105_60 rfl ?_
          refine to_i (pc := 61) rw_105_61 rfl ?_
          refine to_c (pc := 63) rw_105_63 (x := (1 : Int32)) rfl rfl ?_
          refine s_add (pc := 64) rw_105_64 (A := o.toInt) (B := 1) rfl rfl (by omega) (fun v133 e134 => ?_)
          refine s_v (pc := 65) rw_105_65 (by omega) (ls0 := [.ref 28, .ref 1, .ref p, .ref 11, .int v133, .null]) rfl (Nat.le_of_ble_eq_true rfl) (Nat.le_of_ble_eq_true rfl) rfl (to_rc rfl rfl rfl (g_o hG117 rfl)) rfl ?_
          have j_135 := (PLs_f (fun a i z => F_n F116 (show ¬ (a = 1 ∧ 6 ≤ i ∧ i ≤ 11) by omega) rfl) (PLs_f (fun a i z => F_n F34 (show ¬ (a = 1 ∧ 6 ≤ i ∧ i ≤ 9) by omega) rfl) (PLs_f (fun a i z => W_n W26 (by /-r34-/ omega) rfl) (PLs_f (fun a i z => F_n F5 (show ¬ (a = 1 ∧ (i = 10 ∨ i = 11)) by omega) rfl) q7))))
          have z_136 : (M124.2.1 34 n9.toNat).toInt = x_val t nn a := by rw [show n9.toNat = (s.toInt).toNat by omega, show M124.2.1 34 (s.toInt).toNat = (M.2.1 1 8) from (F_n F116 (show ¬ (34 = 1 ∧ 6 ≤ (s.toInt).toNat ∧ (s.toInt).toNat ≤ 11) by omega) (F_n F34 (show ¬ (34 = 1 ∧ 6 ≤ (s.toInt).toNat ∧ (s.toInt).toNat ≤ 9) by omega) (W_e W26)))]; omega
          have z_137 : (M124.2.1 29 n9.toNat).toInt = x_kw 2 := (congrArg Int32.toInt (show M124.2.1 29 n9.toNat = M.2.1 29 n9.toNat from (F_n F116 (show ¬ (29 = 1 ∧ 6 ≤ n9.toNat ∧ n9.toNat ≤ 11) by omega) (F_n F34 (show ¬ (29 = 1 ∧ 6 ≤ n9.toNat ∧ n9.toNat ≤ 9) by omega) (W_n W26 (by omega) (F_n F5 (show ¬ (29 = 1 ∧ (n9.toNat = 10 ∨ n9.toNat = 11)) by omega) rfl)))))).trans q15
          have c_138 : M124.2.1 28 7 = (M.2.1 28 7) := (F_n F116 (show ¬ (28 = 1 ∧ 6 ≤ 7 ∧ 7 ≤ 11) by decide) (F_n F34 (show ¬ (28 = 1 ∧ 6 ≤ 7 ∧ 7 ≤ 9) by decide) (W_n W26 (fun z => absurd z.1 (by decide)) (F_n F5 (show ¬ (28 = 1 ∧ (7 = 10 ∨ 7 = 11)) by decide) rfl))))
          have t_139 : (M124.2.1 28 7).toInt = (M.2.1 28 7).toInt := congrArg Int32.toInt c_138
          refine hr X _ _ _ p v133 t nn (x_ns t nn (x_ns t nn a)) sg (n9 + 1) (n9 :: op) (x_kt A9 n9 (x_val t nn a)) hX (by omega) hG117 hp (by omega) (by omega) p_120 (by omega) j_135 (by omega) (by omega) (WKc_t (by omega) (WKc_f (fun a i z => (F_n F116 (tg_131 a i z) (F_n F34 (tg_132 a i z) rfl))) z_30) z_137 z_136) (by rw [List.length_cons]; omega) (fun m hm => by rcases List.mem_cons.mp hm with y | y; omega; have := q12 m y; omega) (by omega) (by omega) (fun r140 M149 hG142 F141 p_143 p_144 p_145 p_146 p_147 p_148 => ?_)
          have F150 := FR.c F125 F141 tg_127
          have b_151 := g_b hG142 (a := 28) (i := 7) (lo := 0) (hi := 40) rfl rfl
          rcases (show r140.toInt = 0 ∨ r140.toInt = 1 by omega) with h152 | h152
          · skip
            have p_153 := p_148 (by omega)
            clear p_146 p_147 p_148
            have z_154 := z_132.trans p_153
            refine b_ieq_t (pc := 68) rw_105_68 (A := r140.toInt) rfl (by omega) ?_
            refine to_c (pc := 84) rw_105_84 (x := (0 : Int32)) rfl rfl ?_
            refine s_r1 (pc := 85) rw_105_85 (A := 0) rfl (by decide) ?_
            exact h (0 : Int32) M149 hG142 F150 (by decide) (by decide) p_145 (by omega) (fun z => by exfalso; omega) (fun _ => winl (by omega) (by omega) z_154)
          · skip
            have p_155 := p_146 (by omega)
            have p_156 := p_147 (by omega)
            clear p_146 p_147 p_148
            have z_157 := WQ_e z_132 p_156.1
            have c_158 := CS_u p_145 (a := (M149.2.1 1 9).toInt) (by omega)
            unfold x_C at c_158
            have z_159 := p_156.2
            refine b_ieq_f (pc := 68) rw_105_68 (A := r140.toInt) rfl (by omega) ?_
            refine to_an (pc := 71) rw_105_71 rfl ?_
            refine to_c (pc := 72) rw_105_72 (x := (41 : Int32)) rfl rfl ?_
            refine s_v (pc := 74) rw_105_74 (by omega) (ls0 := [.ref 1, .int (41 : Int32)]) rfl (Nat.le_of_ble_eq_true rfl) (Nat.le_of_ble_eq_true rfl) rfl (to_rc rfl rfl rfl (g_o hG142 rfl)) rfl ?_
            have k_160 : (41 : Int32).toInt = 41 := rfl
            refine E_90s hX (by omega) hG142 p_145 (by omega) (by omega) (c := (41 : Int32)) (t := t) (nn := nn) (a := (M149.2.1 1 9).toInt) (fun r161 M170 hG163 F162 p_164 p_165 p_166 p_167 p_168 p_169 => ?_)
            have F171 := FR.c F150 F162 tg_126
            rcases (show r161.toInt = 0 ∨ r161.toInt = 1 by omega) with h172 | h172
            · skip
              have p_173 := p_168 (by omega)
              have p_174 := p_169 (by omega)
              clear p_167 p_168 p_169
              have z_175 := WC_x z_157 (by omega) (by omega) (by omega) (by omega)
              refine b_ieq_t (pc := 77) rw_105_77 (A := r161.toInt) rfl (by omega) ?_
              refine to_c (pc := 84) rw_105_84 (x := (0 : Int32)) rfl rfl ?_
              refine s_r1 (pc := 85) rw_105_85 (A := 0) rfl (by decide) ?_
              have c_176 : M170.2.1 28 7 = (M149.2.1 28 7) := (F_n F162 (show ¬ (28 = 1 ∧ 6 ≤ 7 ∧ 7 ≤ 11) by decide) rfl)
              have t_177 : (M170.2.1 28 7).toInt = (M149.2.1 28 7).toInt := congrArg Int32.toInt c_176
              exact h (0 : Int32) M170 hG163 F171 (by decide) (by decide) p_166 (by omega) (fun z => by exfalso; omega) (fun _ => winl (by omega) (by omega) z_175)
            · skip
              have p_178 := p_167 (by omega)
              clear p_167 p_168 p_169
              refine b_ieq_f (pc := 77) rw_105_77 (A := r161.toInt) rfl (by omega) ?_
              refine to_c (pc := 80) rw_105_80 (x := (1 : Int32)) rfl rfl ?_
              refine to_go (pc := 81) rw_105_81 ?_
              refine s_r1 (pc := 85) rw_105_85 (A := 1) rfl (by decide) ?_
              have k_179 : (1 : Int32).toInt = 1 := rfl
              have c_180 : M170.2.1 28 7 = (M149.2.1 28 7) := (F_n F162 (show ¬ (28 = 1 ∧ 6 ≤ 7 ∧ 7 ≤ 11) by decide) rfl)
              have t_181 : (M170.2.1 28 7).toInt = (M149.2.1 28 7).toInt := congrArg Int32.toInt c_180
              exact h (1 : Int32) M170 hG163 F171 (by decide) (by decide) p_166 (by omega) (fun _ => WA_i (tm := x_val t nn a) (by omega) (by omega) (by omega) (by omega) (WQ_o (by omega) z_157) (by omega) (by omega) (by omega) (fun a i z => (F_n F162 (show ¬ (a = 1 ∧ 6 ≤ i ∧ i ≤ 11) by omega) rfl)) (by omega)) (fun z => by exfalso; omega)
      · refine to_an (pc := 42) rw_105_42 rfl ?_
        refine to_c (pc := 43) rw_105_43 (x := (2 : Int32)) rfl rfl ?_
        refine s_v (pc := 44) rw_105_44 (by omega) (ls0 := [.ref 1, .int (2 : Int32)]) rfl (Nat.le_of_ble_eq_true rfl) (Nat.le_of_ble_eq_true rfl) rfl (to_rc rfl rfl rfl (g_o hG35 rfl)) rfl ?_
        refine to_an (pc := 0) rw_84_0 rfl ?_
        refine to_in (pc := 1) rw_84_1 rfl ?_
        refine s_pI (pc := 2) rw_84_2 hG35 rfl (fun M183 W182 => ?_)
        have hG184 := g_wf hG35 W182 rfl rfl (by decide)
        have F185 := FR.w F39 W182 (show 1 = 1 ∧ 6 ≤ 10 ∧ 10 ≤ 11 ∨ 28 ≤ 1 ∧ 1 ≤ 35 by decide)
        refine to_an (pc := 5) rw_84_5 rfl ?_
        refine to_an (pc := 6) rw_84_6 rfl ?_
        have c_186 : M183.2.1 1 9 = (M38.2.1 1 9) := (W_n W182 (by decide) rfl)
        refine tt_gI (pc := 7) rw_84_7 (g_o hG184 rfl) (v := (M38.2.1 1 9)) c_186 ?_
        refine s_pI (pc := 10) rw_84_10 hG184 rfl (fun M188 W187 => ?_)
        have hG189 := g_wf hG184 W187 rfl rfl (by decide)
        have F190 := FR.w F185 W187 (show 1 = 1 ∧ 6 ≤ 11 ∧ 11 ≤ 11 ∨ 28 ≤ 1 ∧ 1 ≤ 35 by decide)
        refine to_c (pc := 13) rw_84_13 (x := (0 : Int32)) rfl rfl ?_
        refine s_r1 (pc := 14) rw_84_14 (A := 0) rfl (by decide) ?_
        refine s_r1 (pc := 47) rw_105_47 (A := 0) rfl (by decide) ?_
        have j_191 := (CS_f (fun a i z => W_n W187 (tg_32 a i z) rfl) (CS_f (fun a i z => W_n W182 (tg_33 a i z) rfl) p_36))
        have c_192 : M188.2.1 28 7 = (M.2.1 28 7) := (W_n W187 (by decide) (W_n W182 (by decide) (F_n F34 (show ¬ (28 = 1 ∧ 6 ≤ 7 ∧ 7 ≤ 9) by decide) (W_n W26 (fun z => absurd z.1 (by decide)) (F_n F5 (show ¬ (28 = 1 ∧ (7 = 10 ∨ 7 = 11)) by decide) rfl)))))
        have t_193 : (M188.2.1 28 7).toInt = (M.2.1 28 7).toInt := congrArg Int32.toInt c_192
        have c_194 : M188.2.1 1 10 = (2 : Int32) := (W_n W187 (by decide) (W_e W182))
        have k_195 : (2 : Int32).toInt = 2 := rfl
        have t_196 : (M188.2.1 1 10).toInt = (2 : Int32).toInt := congrArg Int32.toInt c_194
        have c_197 : M188.2.1 1 11 = (M38.2.1 1 9) := (W_e W187)
        have t_198 : (M188.2.1 1 11).toInt = (M38.2.1 1 9).toInt := congrArg Int32.toInt c_197
        exact h (0 : Int32) M188 hG189 F190 (by decide) (by decide) j_191 (by omega) (fun z => by exfalso; omega) (fun _ => winl (by omega) (by omega) (ag_4 (by omega) (by omega) (by omega) (by omega)))
set_option maxRecDepth 4000 in
set_option maxHeartbeats 0 in
theorem E_100 {X : mm_X} {d : Nat} {M : mm_M} {Q : Option Value → mm_M → Prop} {p : Nat} {o : Int32} {t : Nat → Int} {nn : Int} {a : Int} {sg : x_S} {n9 : Int} {op : List Int} {A9 : x_A} (hX : g_X X) (hd : 4 + 3 * (5 - o.toInt) ≤ (d : Int)) (hG : g_G M) (hp : p = 49 ∨ p = 58) (q1 : 0 ≤ o.toInt) (q2 : o.toInt ≤ 5) (q3 : CS M t nn) (q4 : (M.2.1 1 9).toInt = a) (q5 : PLs M p sg) (q6 : nn ≤ 500) (q7 : 0 ≤ n9) (q8 : WKc M A9 n9 op) (q9 : (op.length : Int) = o.toInt) (q10 : ∀ m ∈ op, m < n9) (q11 : (M.2.1 28 7).toInt = n9) (q12 : x_kind t nn a = 1) (hr : RE_99 (5 - o.toInt)) (h : ∀ (r : Int32) (M1 : mm_M), g_G M1 → FR md_w100 M M1 → (0 ≤ r.toInt) → (r.toInt ≤ 1) → CS M1 t nn → (r.toInt = 1 → n9 < (M1.2.1 28 7).toInt) → ((r.toInt = 1 → WQ t nn sg (x_ww t nn sg 0 n9 op A9 a) M1 A9 n9 op o.toInt)) → ((r.toInt = 0 → x_ww t nn sg 0 n9 op A9 a = Sum.inl ((M1.2.1 1 10).toInt, (M1.2.1 1 11).toInt))) → Q (some (.int r)) M1) : mm_T X d 100 0 [.ref 28, .ref 1, .ref p, .ref 11, .int o, .null, .null, .null] [] M Q := by
  have F0 : FR md_w100 M M := FR.rf
  have b_1 := g_b hG (a := 28) (i := 7) (lo := 0) (hi := 40) rfl rfl
  have c_2 := CS_u q3 (a := a) (by omega)
  unfold x_C at c_2
  have z_3 := c_2.2
  have z_4 : (M.2.1 1 8).toInt = x_val t nn a := by omega
  clear c_2
  refine to_an (pc := 0) rw_100_0 rfl ?_
  refine tt_gI (pc := 1) rw_100_1 (g_o hG rfl) (v := (M.2.1 1 8)) rfl ?_
  refine to_is (pc := 4) rw_100_4 (ls2 := [.ref 28, .ref 1, .ref p, .ref 11, .int o, .int (M.2.1 1 8), .null, .null]) rfl rfl ?_
  refine to_i (pc := 6) rw_100_6 rfl ?_
  refine to_c (pc := 8) rw_100_8 (x := (538561536 : Int32)) rfl rfl ?_
  refine b_ceq (pc := 10) rw_100_10 (A := (M.2.1 1 8).toInt) (B := 538561536) rfl rfl (fun h5 => ?_) (fun h5 => ?_)
  · have z_6 : x_kx (x_val t nn a) = 7 := (x_kx_w2 (x_val t nn a)).1.mpr (by omega)
    refine to_an (pc := 33) rw_100_33 rfl ?_
    refine tt_gI (pc := 34) rw_100_34 (g_o hG rfl) (v := (M.2.1 28 7)) rfl ?_
    refine to_c (pc := 37) rw_100_37 (x := (40 : Int32)) rfl rfl ?_
    refine b_clt (pc := 39) rw_100_39 (A := (M.2.1 28 7).toInt) (B := 40) rfl rfl (fun h7 => ?_) (fun h7 => ?_)
    · refine to_an (pc := 48) rw_100_48 rfl ?_
      refine tt_gI (pc := 49) rw_100_49 (g_o hG rfl) (v := (M.2.1 28 7)) rfl ?_
      refine to_is (pc := 52) rw_100_52 (ls2 := [.ref 28, .ref 1, .ref p, .ref 11, .int o, .int (M.2.1 1 8), .int (M.2.1 28 7), .null]) rfl rfl ?_
      refine to_an (pc := 54) rw_100_54 rfl ?_
      refine to_dupr (pc := 55) rw_100_55 ?_
      refine tt_gI (pc := 56) rw_100_56 (g_o hG rfl) (v := (M.2.1 28 7)) rfl ?_
      refine to_c (pc := 59) rw_100_59 (x := (1 : Int32)) rfl rfl ?_
      refine s_add (pc := 60) rw_100_60 (A := (M.2.1 28 7).toInt) (B := 1) rfl rfl (by omega) (fun v8 e9 => ?_)
      refine s_pI (pc := 61) rw_100_61 hG rfl (fun M11 W10 => ?_)
      have hG12 := g_w hG W10 (A := v8.toInt) rfl (lo := 0) (hi := 40) rfl rfl (by omega) (by decide)
      have F13 := FR.w F0 W10 (show 28 = 1 ∧ 6 ≤ 7 ∧ 7 ≤ 11 ∨ 28 ≤ 28 ∧ 28 ≤ 35 by decide)
      refine to_an (pc := 64) rw_100_64 rfl ?_
      refine s_gR (pc := 65) rw_100_65 hG12 rfl (v := 29) rfl ?_
      refine to_i (pc := 68) rw_100_68 rfl ?_
      refine to_i (pc := 70) rw_100_70 rfl ?_
      refine s_ias (pc := 72) rw_100_72 hG12 rfl (n := 40) rfl (A := (M.2.1 28 7).toInt) rfl (by omega) (by omega) (fun M15 W14 => ?_)
      have hG16 := g_wf hG12 W14 rfl rfl (by decide)
      have F17 := FR.w F13 W14 (show 29 = 1 ∧ 6 ≤ ((M.2.1 28 7).toInt).toNat ∧ ((M.2.1 28 7).toInt).toNat ≤ 11 ∨ 28 ≤ 29 ∧ 29 ≤ 35 by omega)
      have z_18 := WKc_w (WKc_f (fun a i z => (W_n W10 (tg_133 a i z) rfl)) q8) W14 (by omega)
      refine to_an (pc := 73) rw_100_73 rfl ?_
      refine s_v (pc := 74) rw_100_74 (by omega) (ls0 := [.ref 1]) rfl (Nat.le_of_ble_eq_true rfl) (Nat.le_of_ble_eq_true rfl) rfl (to_rc rfl rfl rfl (g_o hG16 rfl)) rfl ?_
      have j_19 := (CS_f (fun a i z => W_n W14 (tg_134 a i _ z) rfl) (CS_f (fun a i z => W_n W10 (tg_135 a i z) rfl) q3))
      have c_20 : M15.2.1 1 9 = (M.2.1 1 9) := (W_n W14 (fun z => absurd z.1 (by decide)) (W_n W10 (by decide) rfl))
      have t_21 : (M15.2.1 1 9).toInt = (M.2.1 1 9).toInt := congrArg Int32.toInt c_20
      refine E_83 hX (by omega) hG16 j_19 (by omega) (t := t) (nn := nn) (a := a) (fun M26 hG23 F22 p_24 p_25 => ?_)
      have F27 := FR.c F17 F22 tg_125
      refine to_i (pc := 77) rw_100_77 rfl ?_
      refine to_c (pc := 79) rw_100_79 (x := (538561536 : Int32)) rfl rfl ?_
      refine b_cne_f (pc := 81) rw_100_81 (A := (M.2.1 1 8).toInt) (B := 538561536) rfl rfl (by omega) ?_
      refine to_an (pc := 84) rw_100_84 rfl ?_
      refine to_an (pc := 85) rw_100_85 rfl ?_
      refine to_an (pc := 86) rw_100_86 rfl ?_
      refine to_an (pc := 87) rw_100_87 rfl ?_
      refine to_i (pc := 88) rw_100_88 rfl ?_
      refine s_v (pc := 90) rw_100_90 (by omega) (ls0 := [.ref 28, .ref 1, .ref p, .ref 11, .int (M.2.1 28 7), .null]) rfl (Nat.le_of_ble_eq_true rfl) (Nat.le_of_ble_eq_true rfl) rfl (to_rc rfl rfl rfl (g_o hG23 rfl)) rfl ?_
      have j_28 := (PLs_f (fun a i z => F_n F22 (show ¬ (a = 1 ∧ 6 ≤ i ∧ i ≤ 9) by omega) rfl) (PLs_f (fun a i z => W_n W14 (by /-r29-/ omega) rfl) (PLs_f (fun a i z => W_n W10 (by /-r28,7-/ omega) rfl) q5)))
      refine E_101 hX (by omega) hG23 hp (by omega) (by omega) p_24 (by omega) j_28 (by omega) (p := p) (s := (M.2.1 28 7)) (t := t) (nn := nn) (a := (x_ns t nn a)) (sg := sg) (n9 := (n9 + 1)) (op := op) (A9 := (x_k1 A9 n9 0)) (fun r29 M37 hG31 F30 p_32 p_33 p_34 p_35 p_36 => ?_)
      have F38 := FR.c F27 F30 tg_128
      rcases (show r29.toInt = 0 ∨ r29.toInt = 1 by omega) with h39 | h39
      · skip
        have p_40 := p_36 (by omega)
        clear p_35 p_36
        have z_41 := (w_ps (by omega) (by omega) (by omega) (by omega) (by omega)).trans p_40
        refine to_is (pc := 93) rw_100_93 (ls2 := [.ref 28, .ref 1, .ref p, .ref 11, .int o, .int (M.2.1 1 8), .int (M.2.1 28 7), .int r29]) rfl rfl ?_
        refine to_go (pc := 95) rw_100_95 ?_
        refine to_an (pc := 130) rw_100_130 rfl ?_
        refine s_gR (pc := 131) rw_100_131 hG31 rfl (v := 35) rfl ?_
        refine to_i (pc := 134) rw_100_134 rfl ?_
        refine to_an (pc := 136) rw_100_136 rfl ?_
        have c_42 : M37.2.1 28 7 = v8 := (F_n F30 (show ¬ (28 = 1 ∧ 6 ≤ 7 ∧ 7 ≤ 11 ∨ 30 ≤ 28 ∧ 28 ≤ 33) by decide) (F_n F22 (show ¬ (28 = 1 ∧ 6 ≤ 7 ∧ 7 ≤ 9) by decide) (W_n W14 (fun z => absurd z.1 (by decide)) (W_e W10))))
        refine tt_gI (pc := 137) rw_100_137 (g_o hG31 rfl) (v := v8) c_42 ?_
        refine s_ias (pc := 140) rw_100_140 hG31 rfl (n := 40) rfl (A := (M.2.1 28 7).toInt) rfl (by omega) (by omega) (fun M44 W43 => ?_)
        have hG45 := g_w hG31 W43 (A := v8.toInt) rfl (lo := 0) (hi := 40) rfl rfl (by omega) (by decide)
        have F46 := FR.w F38 W43 (show 35 = 1 ∧ 6 ≤ ((M.2.1 28 7).toInt).toNat ∧ ((M.2.1 28 7).toInt).toNat ≤ 11 ∨ 28 ≤ 35 ∧ 35 ≤ 35 by omega)
        refine to_i (pc := 141) rw_100_141 rfl ?_
        refine s_r1 (pc := 143) rw_100_143 (A := r29.toInt) rfl (by omega) ?_
        have j_47 := (CS_f (fun a i z => W_n W43 (tg_136 a i _ z) rfl) p_34)
        have c_48 : M44.2.1 28 7 = v8 := (W_n W43 (fun z => absurd z.1 (by decide)) c_42)
        have t_49 : (M44.2.1 28 7).toInt = v8.toInt := congrArg Int32.toInt c_48
        have c_50 : M44.2.1 1 10 = (M37.2.1 1 10) := (W_n W43 (fun z => absurd z.1 (by decide)) rfl)
        have t_51 : (M44.2.1 1 10).toInt = (M37.2.1 1 10).toInt := congrArg Int32.toInt c_50
        have c_52 : M44.2.1 1 11 = (M37.2.1 1 11) := (W_n W43 (fun z => absurd z.1 (by decide)) rfl)
        have t_53 : (M44.2.1 1 11).toInt = (M37.2.1 1 11).toInt := congrArg Int32.toInt c_52
        exact h r29 M44 hG45 F46 (by omega) (by omega) j_47 (by omega) (fun z => by exfalso; omega) (fun _ => winl (by omega) (by omega) z_41)
      · skip
        have p_54 := p_35 (by omega)
        clear p_35 p_36
        have z_55 := (w_ps (by omega) (by omega) (by omega) (by omega) (by omega)).trans p_54
        refine to_is (pc := 93) rw_100_93 (ls2 := [.ref 28, .ref 1, .ref p, .ref 11, .int o, .int (M.2.1 1 8), .int (M.2.1 28 7), .int r29]) rfl rfl ?_
        refine to_go (pc := 95) rw_100_95 ?_
        refine to_an (pc := 130) rw_100_130 rfl ?_
        refine s_gR (pc := 131) rw_100_131 hG31 rfl (v := 35) rfl ?_
        refine to_i (pc := 134) rw_100_134 rfl ?_
        refine to_an (pc := 136) rw_100_136 rfl ?_
        have c_56 : M37.2.1 28 7 = v8 := (F_n F30 (show ¬ (28 = 1 ∧ 6 ≤ 7 ∧ 7 ≤ 11 ∨ 30 ≤ 28 ∧ 28 ≤ 33) by decide) (F_n F22 (show ¬ (28 = 1 ∧ 6 ≤ 7 ∧ 7 ≤ 9) by decide) (W_n W14 (fun z => absurd z.1 (by decide)) (W_e W10))))
        refine tt_gI (pc := 137) rw_100_137 (g_o hG31 rfl) (v := v8) c_56 ?_
        refine s_ias (pc := 140) rw_100_140 hG31 rfl (n := 40) rfl (A := (M.2.1 28 7).toInt) rfl (by omega) (by omega) (fun M58 W57 => ?_)
        have hG59 := g_w hG31 W57 (A := v8.toInt) rfl (lo := 0) (hi := 40) rfl rfl (by omega) (by decide)
        have F60 := FR.w F38 W57 (show 35 = 1 ∧ 6 ≤ ((M.2.1 28 7).toInt).toNat ∧ ((M.2.1 28 7).toInt).toNat ≤ 11 ∨ 28 ≤ 35 ∧ 35 ≤ 35 by omega)
        refine to_i (pc := 141) rw_100_141 rfl ?_
        refine s_r1 (pc := 143) rw_100_143 (A := r29.toInt) rfl (by omega) ?_
        have j_61 := (CS_f (fun a i z => W_n W57 (tg_136 a i _ z) rfl) p_34)
        have c_62 : M58.2.1 28 7 = v8 := (W_n W57 (fun z => absurd z.1 (by decide)) c_56)
        have t_63 : (M58.2.1 28 7).toInt = v8.toInt := congrArg Int32.toInt c_62
        have t_64 : (M37.2.1 28 7).toInt = v8.toInt := congrArg Int32.toInt c_56
        exact h r29 M58 hG59 F60 (by omega) (by omega) j_61 (by omega) (fun _ => WQ_p (k := 0) (by decide) (by omega) (WKc_f (fun a i z => (F_n F30 (tg_137 a i z) (F_n F22 (tg_132 a i z) rfl))) z_18) q10 (by rw [show n9.toNat = ((M.2.1 28 7).toInt).toNat by omega, show M37.2.1 29 ((M.2.1 28 7).toInt).toNat = (M.2.1 1 8) from (F_n F30 (show ¬ (29 = 1 ∧ 6 ≤ ((M.2.1 28 7).toInt).toNat ∧ ((M.2.1 28 7).toInt).toNat ≤ 11 ∨ 30 ≤ 29 ∧ 29 ≤ 33) by omega) (F_n F22 (show ¬ (29 = 1 ∧ 6 ≤ ((M.2.1 28 7).toInt).toNat ∧ ((M.2.1 28 7).toInt).toNat ≤ 9) by omega) (W_e W14)))]; exact (show (M.2.1 1 8).toInt = 538561536 by omega)) (by omega) (W9_i (by omega) W57) (by omega) z_55) (fun z => by exfalso; omega)
    · refine to_an (pc := 42) rw_100_42 rfl ?_
      refine to_c (pc := 43) rw_100_43 (x := (2 : Int32)) rfl rfl ?_
      refine s_v (pc := 44) rw_100_44 (by omega) (ls0 := [.ref 1, .int (2 : Int32)]) rfl (Nat.le_of_ble_eq_true rfl) (Nat.le_of_ble_eq_true rfl) rfl (to_rc rfl rfl rfl (g_o hG rfl)) rfl ?_
      refine to_an (pc := 0) rw_84_0 rfl ?_
      refine to_in (pc := 1) rw_84_1 rfl ?_
      refine s_pI (pc := 2) rw_84_2 hG rfl (fun M66 W65 => ?_)
      have hG67 := g_wf hG W65 rfl rfl (by decide)
      have F68 := FR.w F0 W65 (show 1 = 1 ∧ 6 ≤ 10 ∧ 10 ≤ 11 ∨ 28 ≤ 1 ∧ 1 ≤ 35 by decide)
      refine to_an (pc := 5) rw_84_5 rfl ?_
      refine to_an (pc := 6) rw_84_6 rfl ?_
      have c_69 : M66.2.1 1 9 = (M.2.1 1 9) := (W_n W65 (by decide) rfl)
      refine tt_gI (pc := 7) rw_84_7 (g_o hG67 rfl) (v := (M.2.1 1 9)) c_69 ?_
      refine s_pI (pc := 10) rw_84_10 hG67 rfl (fun M71 W70 => ?_)
      have hG72 := g_wf hG67 W70 rfl rfl (by decide)
      have F73 := FR.w F68 W70 (show 1 = 1 ∧ 6 ≤ 11 ∧ 11 ≤ 11 ∨ 28 ≤ 1 ∧ 1 ≤ 35 by decide)
      refine to_c (pc := 13) rw_84_13 (x := (0 : Int32)) rfl rfl ?_
      refine s_r1 (pc := 14) rw_84_14 (A := 0) rfl (by decide) ?_
      refine s_r1 (pc := 47) rw_100_47 (A := 0) rfl (by decide) ?_
      have k_74 : (0 : Int32).toInt = 0 := rfl
      have j_75 := (CS_f (fun a i z => W_n W70 (tg_32 a i z) rfl) (CS_f (fun a i z => W_n W65 (tg_33 a i z) rfl) q3))
      have c_76 : M71.2.1 28 7 = (M.2.1 28 7) := (W_n W70 (by decide) (W_n W65 (by decide) rfl))
      have t_77 : (M71.2.1 28 7).toInt = (M.2.1 28 7).toInt := congrArg Int32.toInt c_76
      have c_78 : M71.2.1 1 10 = (2 : Int32) := (W_n W70 (by decide) (W_e W65))
      have k_79 : (2 : Int32).toInt = 2 := rfl
      have t_80 : (M71.2.1 1 10).toInt = (2 : Int32).toInt := congrArg Int32.toInt c_78
      have c_81 : M71.2.1 1 11 = (M.2.1 1 9) := (W_e W70)
      have t_82 : (M71.2.1 1 11).toInt = (M.2.1 1 9).toInt := congrArg Int32.toInt c_81
      exact h (0 : Int32) M71 hG72 F73 (by decide) (by decide) j_75 (by omega) (fun z => by exfalso; omega) (fun _ => winl (by omega) (by omega) (w_40 (by omega) (by omega) (by omega) (by omega) (by omega)))
  · refine to_i (pc := 13) rw_100_13 rfl ?_
    refine to_c (pc := 15) rw_100_15 (x := (351582208 : Int32)) rfl rfl ?_
    refine b_ceq (pc := 17) rw_100_17 (A := (M.2.1 1 8).toInt) (B := 351582208) rfl rfl (fun h83 => ?_) (fun h83 => ?_)
    · have z_84 : x_kx (x_val t nn a) = 10 := (x_kx_w2 (x_val t nn a)).2.2.2.1.mpr (by omega)
      refine to_an (pc := 33) rw_100_33 rfl ?_
      refine tt_gI (pc := 34) rw_100_34 (g_o hG rfl) (v := (M.2.1 28 7)) rfl ?_
      refine to_c (pc := 37) rw_100_37 (x := (40 : Int32)) rfl rfl ?_
      refine b_clt (pc := 39) rw_100_39 (A := (M.2.1 28 7).toInt) (B := 40) rfl rfl (fun h85 => ?_) (fun h85 => ?_)
      · refine to_an (pc := 48) rw_100_48 rfl ?_
        refine tt_gI (pc := 49) rw_100_49 (g_o hG rfl) (v := (M.2.1 28 7)) rfl ?_
        refine to_is (pc := 52) rw_100_52 (ls2 := [.ref 28, .ref 1, .ref p, .ref 11, .int o, .int (M.2.1 1 8), .int (M.2.1 28 7), .null]) rfl rfl ?_
        refine to_an (pc := 54) rw_100_54 rfl ?_
        refine to_dupr (pc := 55) rw_100_55 ?_
        refine tt_gI (pc := 56) rw_100_56 (g_o hG rfl) (v := (M.2.1 28 7)) rfl ?_
        refine to_c (pc := 59) rw_100_59 (x := (1 : Int32)) rfl rfl ?_
        refine s_add (pc := 60) rw_100_60 (A := (M.2.1 28 7).toInt) (B := 1) rfl rfl (by omega) (fun v86 e87 => ?_)
        refine s_pI (pc := 61) rw_100_61 hG rfl (fun M89 W88 => ?_)
        have hG90 := g_w hG W88 (A := v86.toInt) rfl (lo := 0) (hi := 40) rfl rfl (by omega) (by decide)
        have F91 := FR.w F0 W88 (show 28 = 1 ∧ 6 ≤ 7 ∧ 7 ≤ 11 ∨ 28 ≤ 28 ∧ 28 ≤ 35 by decide)
        refine to_an (pc := 64) rw_100_64 rfl ?_
        refine s_gR (pc := 65) rw_100_65 hG90 rfl (v := 29) rfl ?_
        refine to_i (pc := 68) rw_100_68 rfl ?_
        refine to_i (pc := 70) rw_100_70 rfl ?_
        refine s_ias (pc := 72) rw_100_72 hG90 rfl (n := 40) rfl (A := (M.2.1 28 7).toInt) rfl (by omega) (by omega) (fun M93 W92 => ?_)
        have hG94 := g_wf hG90 W92 rfl rfl (by decide)
        have F95 := FR.w F91 W92 (show 29 = 1 ∧ 6 ≤ ((M.2.1 28 7).toInt).toNat ∧ ((M.2.1 28 7).toInt).toNat ≤ 11 ∨ 28 ≤ 29 ∧ 29 ≤ 35 by omega)
        have z_96 := WKc_w (WKc_f (fun a i z => (W_n W88 (tg_133 a i z) rfl)) q8) W92 (by omega)
        refine to_an (pc := 73) rw_100_73 rfl ?_
        refine s_v (pc := 74) rw_100_74 (by omega) (ls0 := [.ref 1]) rfl (Nat.le_of_ble_eq_true rfl) (Nat.le_of_ble_eq_true rfl) rfl (to_rc rfl rfl rfl (g_o hG94 rfl)) rfl ?_
        have j_97 := (CS_f (fun a i z => W_n W92 (tg_134 a i _ z) rfl) (CS_f (fun a i z => W_n W88 (tg_135 a i z) rfl) q3))
        have c_98 : M93.2.1 1 9 = (M.2.1 1 9) := (W_n W92 (fun z => absurd z.1 (by decide)) (W_n W88 (by decide) rfl))
        have t_99 : (M93.2.1 1 9).toInt = (M.2.1 1 9).toInt := congrArg Int32.toInt c_98
        refine E_83 hX (by omega) hG94 j_97 (by omega) (t := t) (nn := nn) (a := a) (fun M104 hG101 F100 p_102 p_103 => ?_)
        have F105 := FR.c F95 F100 tg_125
        refine to_i (pc := 77) rw_100_77 rfl ?_
        refine to_c (pc := 79) rw_100_79 (x := (538561536 : Int32)) rfl rfl ?_
        refine b_cne_t (pc := 81) rw_100_81 (A := (M.2.1 1 8).toInt) (B := 538561536) rfl rfl (by omega) ?_
        refine to_i (pc := 98) rw_100_98 rfl ?_
        refine to_c (pc := 100) rw_100_100 (x := (351582208 : Int32)) rfl rfl ?_
        refine b_cne_f (pc := 102) rw_100_102 (A := (M.2.1 1 8).toInt) (B := 351582208) rfl rfl (by omega) ?_
        refine to_an (pc := 105) rw_100_105 rfl ?_
        refine to_an (pc := 106) rw_100_106 rfl ?_
        refine to_i (pc := 107) rw_100_107 rfl ?_
        refine s_v (pc := 109) rw_100_109 (by omega) (ls0 := [.ref 28, .ref 1, .int (M.2.1 28 7), .null]) rfl (Nat.le_of_ble_eq_true rfl) (Nat.le_of_ble_eq_true rfl) rfl (to_rc rfl rfl rfl (g_o hG101 rfl)) rfl ?_
        refine E_104 hX (by omega) hG101 (by omega) (by omega) p_102 (by omega) (s := (M.2.1 28 7)) (t := t) (nn := nn) (a := (x_ns t nn a)) (fun r106 M114 hG108 F107 p_109 p_110 p_111 p_112 p_113 => ?_)
        have F115 := FR.c F105 F107 tg_128
        rcases (show r106.toInt = 0 ∨ r106.toInt = 1 by omega) with h116 | h116
        · skip
          have p_117 := p_113 (by omega)
          clear p_112 p_113
          have z_118 := (w_jn (by omega) (by omega) (by omega) (by omega) (by omega)).trans (p_117 (x_ww t nn sg 0 (n9 + 1) op (x_k1 A9 n9 1)))
          refine to_is (pc := 112) rw_100_112 (ls2 := [.ref 28, .ref 1, .ref p, .ref 11, .int o, .int (M.2.1 1 8), .int (M.2.1 28 7), .int r106]) rfl rfl ?_
          refine to_go (pc := 114) rw_100_114 ?_
          refine to_an (pc := 130) rw_100_130 rfl ?_
          refine s_gR (pc := 131) rw_100_131 hG108 rfl (v := 35) rfl ?_
          refine to_i (pc := 134) rw_100_134 rfl ?_
          refine to_an (pc := 136) rw_100_136 rfl ?_
          have c_119 : M114.2.1 28 7 = v86 := (F_n F107 (show ¬ (28 = 1 ∧ 6 ≤ 7 ∧ 7 ≤ 11 ∨ 30 ≤ 28 ∧ 28 ≤ 33) by decide) (F_n F100 (show ¬ (28 = 1 ∧ 6 ≤ 7 ∧ 7 ≤ 9) by decide) (W_n W92 (fun z => absurd z.1 (by decide)) (W_e W88))))
          refine tt_gI (pc := 137) rw_100_137 (g_o hG108 rfl) (v := v86) c_119 ?_
          refine s_ias (pc := 140) rw_100_140 hG108 rfl (n := 40) rfl (A := (M.2.1 28 7).toInt) rfl (by omega) (by omega) (fun M121 W120 => ?_)
          have hG122 := g_w hG108 W120 (A := v86.toInt) rfl (lo := 0) (hi := 40) rfl rfl (by omega) (by decide)
          have F123 := FR.w F115 W120 (show 35 = 1 ∧ 6 ≤ ((M.2.1 28 7).toInt).toNat ∧ ((M.2.1 28 7).toInt).toNat ≤ 11 ∨ 28 ≤ 35 ∧ 35 ≤ 35 by omega)
          refine to_i (pc := 141) rw_100_141 rfl ?_
          refine s_r1 (pc := 143) rw_100_143 (A := r106.toInt) rfl (by omega) ?_
          have j_124 := (CS_f (fun a i z => W_n W120 (tg_136 a i _ z) rfl) p_111)
          have c_125 : M121.2.1 28 7 = v86 := (W_n W120 (fun z => absurd z.1 (by decide)) c_119)
          have t_126 : (M121.2.1 28 7).toInt = v86.toInt := congrArg Int32.toInt c_125
          have c_127 : M121.2.1 1 10 = (M114.2.1 1 10) := (W_n W120 (fun z => absurd z.1 (by decide)) rfl)
          have t_128 : (M121.2.1 1 10).toInt = (M114.2.1 1 10).toInt := congrArg Int32.toInt c_127
          have c_129 : M121.2.1 1 11 = (M114.2.1 1 11) := (W_n W120 (fun z => absurd z.1 (by decide)) rfl)
          have t_130 : (M121.2.1 1 11).toInt = (M114.2.1 1 11).toInt := congrArg Int32.toInt c_129
          exact h r106 M121 hG122 F123 (by omega) (by omega) j_124 (by omega) (fun z => by exfalso; omega) (fun _ => winl (by omega) (by omega) z_118)
        · skip
          have p_131 := p_112 (by omega)
          clear p_112 p_113
          have z_132 := (w_jn (by omega) (by omega) (by omega) (by omega) (by omega)).trans (p_131 (x_ww t nn sg 0 (n9 + 1) op (x_k1 A9 n9 1)))
          refine to_is (pc := 112) rw_100_112 (ls2 := [.ref 28, .ref 1, .ref p, .ref 11, .int o, .int (M.2.1 1 8), .int (M.2.1 28 7), .int r106]) rfl rfl ?_
          refine to_go (pc := 114) rw_100_114 ?_
          refine to_an (pc := 130) rw_100_130 rfl ?_
          refine s_gR (pc := 131) rw_100_131 hG108 rfl (v := 35) rfl ?_
          refine to_i (pc := 134) rw_100_134 rfl ?_
          refine to_an (pc := 136) rw_100_136 rfl ?_
          have c_133 : M114.2.1 28 7 = v86 := (F_n F107 (show ¬ (28 = 1 ∧ 6 ≤ 7 ∧ 7 ≤ 11 ∨ 30 ≤ 28 ∧ 28 ≤ 33) by decide) (F_n F100 (show ¬ (28 = 1 ∧ 6 ≤ 7 ∧ 7 ≤ 9) by decide) (W_n W92 (fun z => absurd z.1 (by decide)) (W_e W88))))
          refine tt_gI (pc := 137) rw_100_137 (g_o hG108 rfl) (v := v86) c_133 ?_
          refine s_ias (pc := 140) rw_100_140 hG108 rfl (n := 40) rfl (A := (M.2.1 28 7).toInt) rfl (by omega) (by omega) (fun M135 W134 => ?_)
          have hG136 := g_w hG108 W134 (A := v86.toInt) rfl (lo := 0) (hi := 40) rfl rfl (by omega) (by decide)
          have F137 := FR.w F115 W134 (show 35 = 1 ∧ 6 ≤ ((M.2.1 28 7).toInt).toNat ∧ ((M.2.1 28 7).toInt).toNat ≤ 11 ∨ 28 ≤ 35 ∧ 35 ≤ 35 by omega)
          refine to_i (pc := 141) rw_100_141 rfl ?_
          refine s_r1 (pc := 143) rw_100_143 (A := r106.toInt) rfl (by omega) ?_
          have j_138 := (CS_f (fun a i z => W_n W134 (tg_136 a i _ z) rfl) p_111)
          have c_139 : M135.2.1 28 7 = v86 := (W_n W134 (fun z => absurd z.1 (by decide)) c_133)
          have t_140 : (M135.2.1 28 7).toInt = v86.toInt := congrArg Int32.toInt c_139
          have t_141 : (M114.2.1 28 7).toInt = v86.toInt := congrArg Int32.toInt c_133
          exact h r106 M135 hG136 F137 (by omega) (by omega) j_138 (by omega) (fun _ => WQ_p (k := 1) (by decide) (by omega) (WKc_f (fun a i z => (F_n F107 (tg_137 a i z) (F_n F100 (tg_132 a i z) rfl))) z_96) q10 (by rw [show n9.toNat = ((M.2.1 28 7).toInt).toNat by omega, show M114.2.1 29 ((M.2.1 28 7).toInt).toNat = (M.2.1 1 8) from (F_n F107 (show ¬ (29 = 1 ∧ 6 ≤ ((M.2.1 28 7).toInt).toNat ∧ ((M.2.1 28 7).toInt).toNat ≤ 11 ∨ 30 ≤ 29 ∧ 29 ≤ 33) by omega) (F_n F100 (show ¬ (29 = 1 ∧ 6 ≤ ((M.2.1 28 7).toInt).toNat ∧ ((M.2.1 28 7).toInt).toNat ≤ 9) by omega) (W_e W92)))]; exact (show (M.2.1 1 8).toInt = 351582208 by omega)) (by omega) (W9_i (by omega) W134) (by omega) z_132) (fun z => by exfalso; omega)
      · refine to_an (pc := 42) rw_100_42 rfl ?_
        refine to_c (pc := 43) rw_100_43 (x := (2 : Int32)) rfl rfl ?_
        refine s_v (pc := 44) rw_100_44 (by omega) (ls0 := [.ref 1, .int (2 : Int32)]) rfl (Nat.le_of_ble_eq_true rfl) (Nat.le_of_ble_eq_true rfl) rfl (to_rc rfl rfl rfl (g_o hG rfl)) rfl ?_
        refine to_an (pc := 0) rw_84_0 rfl ?_
        refine to_in (pc := 1) rw_84_1 rfl ?_
        refine s_pI (pc := 2) rw_84_2 hG rfl (fun M143 W142 => ?_)
        have hG144 := g_wf hG W142 rfl rfl (by decide)
        have F145 := FR.w F0 W142 (show 1 = 1 ∧ 6 ≤ 10 ∧ 10 ≤ 11 ∨ 28 ≤ 1 ∧ 1 ≤ 35 by decide)
        refine to_an (pc := 5) rw_84_5 rfl ?_
        refine to_an (pc := 6) rw_84_6 rfl ?_
        have c_146 : M143.2.1 1 9 = (M.2.1 1 9) := (W_n W142 (by decide) rfl)
        refine tt_gI (pc := 7) rw_84_7 (g_o hG144 rfl) (v := (M.2.1 1 9)) c_146 ?_
        refine s_pI (pc := 10) rw_84_10 hG144 rfl (fun M148 W147 => ?_)
        have hG149 := g_wf hG144 W147 rfl rfl (by decide)
        have F150 := FR.w F145 W147 (show 1 = 1 ∧ 6 ≤ 11 ∧ 11 ≤ 11 ∨ 28 ≤ 1 ∧ 1 ≤ 35 by decide)
        refine to_c (pc := 13) rw_84_13 (x := (0 : Int32)) rfl rfl ?_
        refine s_r1 (pc := 14) rw_84_14 (A := 0) rfl (by decide) ?_
        refine s_r1 (pc := 47) rw_100_47 (A := 0) rfl (by decide) ?_
        have k_151 : (0 : Int32).toInt = 0 := rfl
        have j_152 := (CS_f (fun a i z => W_n W147 (tg_32 a i z) rfl) (CS_f (fun a i z => W_n W142 (tg_33 a i z) rfl) q3))
        have c_153 : M148.2.1 28 7 = (M.2.1 28 7) := (W_n W147 (by decide) (W_n W142 (by decide) rfl))
        have t_154 : (M148.2.1 28 7).toInt = (M.2.1 28 7).toInt := congrArg Int32.toInt c_153
        have c_155 : M148.2.1 1 10 = (2 : Int32) := (W_n W147 (by decide) (W_e W142))
        have k_156 : (2 : Int32).toInt = 2 := rfl
        have t_157 : (M148.2.1 1 10).toInt = (2 : Int32).toInt := congrArg Int32.toInt c_155
        have c_158 : M148.2.1 1 11 = (M.2.1 1 9) := (W_e W147)
        have t_159 : (M148.2.1 1 11).toInt = (M.2.1 1 9).toInt := congrArg Int32.toInt c_158
        exact h (0 : Int32) M148 hG149 F150 (by decide) (by decide) j_152 (by omega) (fun z => by exfalso; omega) (fun _ => winl (by omega) (by omega) (w_40 (by omega) (by omega) (by omega) (by omega) (by omega)))
    · refine to_i (pc := 20) rw_100_20 rfl ?_
      refine to_c (pc := 22) rw_100_22 (x := (40936896 : Int32)) rfl rfl ?_
      refine b_ceq (pc := 24) rw_100_24 (A := (M.2.1 1 8).toInt) (B := 40936896) rfl rfl (fun h160 => ?_) (fun h160 => ?_)
      · have z_161 : x_kx (x_val t nn a) = 11 := (x_kx_w2 (x_val t nn a)).2.2.2.2.mpr (by omega)
        refine to_an (pc := 33) rw_100_33 rfl ?_
        refine tt_gI (pc := 34) rw_100_34 (g_o hG rfl) (v := (M.2.1 28 7)) rfl ?_
        refine to_c (pc := 37) rw_100_37 (x := (40 : Int32)) rfl rfl ?_
        refine b_clt (pc := 39) rw_100_39 (A := (M.2.1 28 7).toInt) (B := 40) rfl rfl (fun h162 => ?_) (fun h162 => ?_)
        · refine to_an (pc := 48) rw_100_48 rfl ?_
          refine tt_gI (pc := 49) rw_100_49 (g_o hG rfl) (v := (M.2.1 28 7)) rfl ?_
          refine to_is (pc := 52) rw_100_52 (ls2 := [.ref 28, .ref 1, .ref p, .ref 11, .int o, .int (M.2.1 1 8), .int (M.2.1 28 7), .null]) rfl rfl ?_
          refine to_an (pc := 54) rw_100_54 rfl ?_
          refine to_dupr (pc := 55) rw_100_55 ?_
          refine tt_gI (pc := 56) rw_100_56 (g_o hG rfl) (v := (M.2.1 28 7)) rfl ?_
          refine to_c (pc := 59) rw_100_59 (x := (1 : Int32)) rfl rfl ?_
          refine s_add (pc := 60) rw_100_60 (A := (M.2.1 28 7).toInt) (B := 1) rfl rfl (by omega) (fun v163 e164 => ?_)
          refine s_pI (pc := 61) rw_100_61 hG rfl (fun M166 W165 => ?_)
          have hG167 := g_w hG W165 (A := v163.toInt) rfl (lo := 0) (hi := 40) rfl rfl (by omega) (by decide)
          have F168 := FR.w F0 W165 (show 28 = 1 ∧ 6 ≤ 7 ∧ 7 ≤ 11 ∨ 28 ≤ 28 ∧ 28 ≤ 35 by decide)
          refine to_an (pc := 64) rw_100_64 rfl ?_
          refine s_gR (pc := 65) rw_100_65 hG167 rfl (v := 29) rfl ?_
          refine to_i (pc := 68) rw_100_68 rfl ?_
          refine to_i (pc := 70) rw_100_70 rfl ?_
          refine s_ias (pc := 72) rw_100_72 hG167 rfl (n := 40) rfl (A := (M.2.1 28 7).toInt) rfl (by omega) (by omega) (fun M170 W169 => ?_)
          have hG171 := g_wf hG167 W169 rfl rfl (by decide)
          have F172 := FR.w F168 W169 (show 29 = 1 ∧ 6 ≤ ((M.2.1 28 7).toInt).toNat ∧ ((M.2.1 28 7).toInt).toNat ≤ 11 ∨ 28 ≤ 29 ∧ 29 ≤ 35 by omega)
          have z_173 := WKc_w (WKc_f (fun a i z => (W_n W165 (tg_133 a i z) rfl)) q8) W169 (by omega)
          refine to_an (pc := 73) rw_100_73 rfl ?_
          refine s_v (pc := 74) rw_100_74 (by omega) (ls0 := [.ref 1]) rfl (Nat.le_of_ble_eq_true rfl) (Nat.le_of_ble_eq_true rfl) rfl (to_rc rfl rfl rfl (g_o hG171 rfl)) rfl ?_
          have j_174 := (CS_f (fun a i z => W_n W169 (tg_134 a i _ z) rfl) (CS_f (fun a i z => W_n W165 (tg_135 a i z) rfl) q3))
          have c_175 : M170.2.1 1 9 = (M.2.1 1 9) := (W_n W169 (fun z => absurd z.1 (by decide)) (W_n W165 (by decide) rfl))
          have t_176 : (M170.2.1 1 9).toInt = (M.2.1 1 9).toInt := congrArg Int32.toInt c_175
          refine E_83 hX (by omega) hG171 j_174 (by omega) (t := t) (nn := nn) (a := a) (fun M181 hG178 F177 p_179 p_180 => ?_)
          have F182 := FR.c F172 F177 tg_125
          refine to_i (pc := 77) rw_100_77 rfl ?_
          refine to_c (pc := 79) rw_100_79 (x := (538561536 : Int32)) rfl rfl ?_
          refine b_cne_t (pc := 81) rw_100_81 (A := (M.2.1 1 8).toInt) (B := 538561536) rfl rfl (by omega) ?_
          refine to_i (pc := 98) rw_100_98 rfl ?_
          refine to_c (pc := 100) rw_100_100 (x := (351582208 : Int32)) rfl rfl ?_
          refine b_cne_t (pc := 102) rw_100_102 (A := (M.2.1 1 8).toInt) (B := 351582208) rfl rfl (by omega) ?_
          refine to_an (pc := 117) rw_100_117 rfl ?_
          refine to_an (pc := 118) rw_100_118 rfl ?_
          refine to_an (pc := 119) rw_100_119 rfl ?_
          refine to_an (pc := 120) rw_100_120 rfl ?_
          refine to_i (pc := 121) rw_100_121 rfl ?_
          refine to_i (pc := 123) rw_100_123 rfl ?_
          refine s_v (pc := 125) rw_100_125 (by omega) (ls0 := [.ref 28, .ref 1, .ref p, .ref 11, .int o, .int (M.2.1 28 7)]) rfl (Nat.le_of_ble_eq_true rfl) (Nat.le_of_ble_eq_true rfl) rfl (to_rc rfl rfl rfl (g_o hG178 rfl)) rfl ?_
          have j_183 := (PLs_f (fun a i z => F_n F177 (show ¬ (a = 1 ∧ 6 ≤ i ∧ i ≤ 9) by omega) rfl) (PLs_f (fun a i z => W_n W169 (by /-r29-/ omega) rfl) (PLs_f (fun a i z => W_n W165 (by /-r28,7-/ omega) rfl) q5)))
          have c_184 : M181.2.1 28 7 = v163 := (F_n F177 (show ¬ (28 = 1 ∧ 6 ≤ 7 ∧ 7 ≤ 9) by decide) (W_n W169 (fun z => absurd z.1 (by decide)) (W_e W165)))
          have t_185 : (M181.2.1 28 7).toInt = v163.toInt := congrArg Int32.toInt c_184
          refine E_105 hX (by omega) hG178 hp (by omega) (by omega) (by omega) (by omega) p_179 (by omega) j_183 (by omega) (by omega) (WKc_f (fun a i z => (F_n F177 (tg_132 a i z) rfl)) z_173) q9 q10 (by omega) (by omega) (by rw [show n9.toNat = ((M.2.1 28 7).toInt).toNat by omega, show M181.2.1 29 ((M.2.1 28 7).toInt).toNat = (M.2.1 1 8) from (F_n F177 (show ¬ (29 = 1 ∧ 6 ≤ ((M.2.1 28 7).toInt).toNat ∧ ((M.2.1 28 7).toInt).toNat ≤ 9) by omega) (W_e W169))]; exact (show (M.2.1 1 8).toInt = 40936896 by omega)) hr (p := p) (o := o) (s := (M.2.1 28 7)) (t := t) (nn := nn) (a := (x_ns t nn a)) (sg := sg) (n9 := n9) (op := op) (A9 := A9) (fun r186 M195 hG188 F187 p_189 p_190 p_191 p_192 p_193 p_194 => ?_)
          have F196 := FR.c F182 F187 tg_127
          have b_197 := g_b hG188 (a := 28) (i := 7) (lo := 0) (hi := 40) rfl rfl
          rcases (show r186.toInt = 0 ∨ r186.toInt = 1 by omega) with h198 | h198
          · skip
            have p_199 := p_194 (by omega)
            clear p_192 p_193 p_194
            have z_200 : x_ww t nn sg 0 n9 op A9 a = x_wag t nn o.toInt (x_ns t nn a) (fun tm => x_ww t nn sg 0 (n9 + 1) (n9 :: op) (x_kt A9 n9 tm)) := (w_ag (by omega) (by omega) (by omega) (by omega) (by omega)).trans (by rw [q9])
            have z_201 := z_200.trans p_199
            refine to_is (pc := 128) rw_100_128 (ls2 := [.ref 28, .ref 1, .ref p, .ref 11, .int o, .int (M.2.1 1 8), .int (M.2.1 28 7), .int r186]) rfl rfl ?_
            refine to_an (pc := 130) rw_100_130 rfl ?_
            refine s_gR (pc := 131) rw_100_131 hG188 rfl (v := 35) rfl ?_
            refine to_i (pc := 134) rw_100_134 rfl ?_
            refine to_an (pc := 136) rw_100_136 rfl ?_
            refine tt_gI (pc := 137) rw_100_137 (g_o hG188 rfl) (v := (M195.2.1 28 7)) rfl ?_
            refine s_ias (pc := 140) rw_100_140 hG188 rfl (n := 40) rfl (A := (M.2.1 28 7).toInt) rfl (by omega) (by omega) (fun M203 W202 => ?_)
            have hG204 := g_w hG188 W202 (A := (M195.2.1 28 7).toInt) rfl (lo := 0) (hi := 40) rfl rfl (by omega) (by decide)
            have F205 := FR.w F196 W202 (show 35 = 1 ∧ 6 ≤ ((M.2.1 28 7).toInt).toNat ∧ ((M.2.1 28 7).toInt).toNat ≤ 11 ∨ 28 ≤ 35 ∧ 35 ≤ 35 by omega)
            refine to_i (pc := 141) rw_100_141 rfl ?_
            refine s_r1 (pc := 143) rw_100_143 (A := r186.toInt) rfl (by omega) ?_
            have j_206 := (CS_f (fun a i z => W_n W202 (tg_136 a i _ z) rfl) p_191)
            have c_207 : M203.2.1 28 7 = (M195.2.1 28 7) := (W_n W202 (fun z => absurd z.1 (by decide)) rfl)
            have t_208 : (M203.2.1 28 7).toInt = (M195.2.1 28 7).toInt := congrArg Int32.toInt c_207
            have c_209 : M203.2.1 1 10 = (M195.2.1 1 10) := (W_n W202 (fun z => absurd z.1 (by decide)) rfl)
            have t_210 : (M203.2.1 1 10).toInt = (M195.2.1 1 10).toInt := congrArg Int32.toInt c_209
            have c_211 : M203.2.1 1 11 = (M195.2.1 1 11) := (W_n W202 (fun z => absurd z.1 (by decide)) rfl)
            have t_212 : (M203.2.1 1 11).toInt = (M195.2.1 1 11).toInt := congrArg Int32.toInt c_211
            exact h r186 M203 hG204 F205 (by omega) (by omega) j_206 (by omega) (fun z => by exfalso; omega) (fun _ => winl (by omega) (by omega) z_201)
          · skip
            have p_213 := p_192 (by omega)
            have p_214 := p_193 (by omega)
            clear p_192 p_193 p_194
            have z_215 : x_ww t nn sg 0 n9 op A9 a = x_wag t nn o.toInt (x_ns t nn a) (fun tm => x_ww t nn sg 0 (n9 + 1) (n9 :: op) (x_kt A9 n9 tm)) := (w_ag (by omega) (by omega) (by omega) (by omega) (by omega)).trans (by rw [q9])
            have z_216 := WA_e z_215 p_214
            refine to_is (pc := 128) rw_100_128 (ls2 := [.ref 28, .ref 1, .ref p, .ref 11, .int o, .int (M.2.1 1 8), .int (M.2.1 28 7), .int r186]) rfl rfl ?_
            refine to_an (pc := 130) rw_100_130 rfl ?_
            refine s_gR (pc := 131) rw_100_131 hG188 rfl (v := 35) rfl ?_
            refine to_i (pc := 134) rw_100_134 rfl ?_
            refine to_an (pc := 136) rw_100_136 rfl ?_
            refine tt_gI (pc := 137) rw_100_137 (g_o hG188 rfl) (v := (M195.2.1 28 7)) rfl ?_
            refine s_ias (pc := 140) rw_100_140 hG188 rfl (n := 40) rfl (A := (M.2.1 28 7).toInt) rfl (by omega) (by omega) (fun M218 W217 => ?_)
            have hG219 := g_w hG188 W217 (A := (M195.2.1 28 7).toInt) rfl (lo := 0) (hi := 40) rfl rfl (by omega) (by decide)
            have F220 := FR.w F196 W217 (show 35 = 1 ∧ 6 ≤ ((M.2.1 28 7).toInt).toNat ∧ ((M.2.1 28 7).toInt).toNat ≤ 11 ∨ 28 ≤ 35 ∧ 35 ≤ 35 by omega)
            refine to_i (pc := 141) rw_100_141 rfl ?_
            refine s_r1 (pc := 143) rw_100_143 (A := r186.toInt) rfl (by omega) ?_
            have j_221 := (CS_f (fun a i z => W_n W217 (tg_136 a i _ z) rfl) p_191)
            have c_222 : M218.2.1 28 7 = (M195.2.1 28 7) := (W_n W217 (fun z => absurd z.1 (by decide)) rfl)
            have t_223 : (M218.2.1 28 7).toInt = (M195.2.1 28 7).toInt := congrArg Int32.toInt c_222
            exact h r186 M218 hG219 F220 (by omega) (by omega) j_221 (by omega) (fun _ => WQ_a (by omega) (by omega) z_216 (fun y => by have := q10 n9 y; omega) (W9_i (by omega) W217) (by omega)) (fun z => by exfalso; omega)
        · refine to_an (pc := 42) rw_100_42 rfl ?_
          refine to_c (pc := 43) rw_100_43 (x := (2 : Int32)) rfl rfl ?_
          refine s_v (pc := 44) rw_100_44 (by omega) (ls0 := [.ref 1, .int (2 : Int32)]) rfl (Nat.le_of_ble_eq_true rfl) (Nat.le_of_ble_eq_true rfl) rfl (to_rc rfl rfl rfl (g_o hG rfl)) rfl ?_
          refine to_an (pc := 0) rw_84_0 rfl ?_
          refine to_in (pc := 1) rw_84_1 rfl ?_
          refine s_pI (pc := 2) rw_84_2 hG rfl (fun M225 W224 => ?_)
          have hG226 := g_wf hG W224 rfl rfl (by decide)
          have F227 := FR.w F0 W224 (show 1 = 1 ∧ 6 ≤ 10 ∧ 10 ≤ 11 ∨ 28 ≤ 1 ∧ 1 ≤ 35 by decide)
          refine to_an (pc := 5) rw_84_5 rfl ?_
          refine to_an (pc := 6) rw_84_6 rfl ?_
          have c_228 : M225.2.1 1 9 = (M.2.1 1 9) := (W_n W224 (by decide) rfl)
          refine tt_gI (pc := 7) rw_84_7 (g_o hG226 rfl) (v := (M.2.1 1 9)) c_228 ?_
          refine s_pI (pc := 10) rw_84_10 hG226 rfl (fun M230 W229 => ?_)
          have hG231 := g_wf hG226 W229 rfl rfl (by decide)
          have F232 := FR.w F227 W229 (show 1 = 1 ∧ 6 ≤ 11 ∧ 11 ≤ 11 ∨ 28 ≤ 1 ∧ 1 ≤ 35 by decide)
          refine to_c (pc := 13) rw_84_13 (x := (0 : Int32)) rfl rfl ?_
          refine s_r1 (pc := 14) rw_84_14 (A := 0) rfl (by decide) ?_
          refine s_r1 (pc := 47) rw_100_47 (A := 0) rfl (by decide) ?_
          have k_233 : (0 : Int32).toInt = 0 := rfl
          have j_234 := (CS_f (fun a i z => W_n W229 (tg_32 a i z) rfl) (CS_f (fun a i z => W_n W224 (tg_33 a i z) rfl) q3))
          have c_235 : M230.2.1 28 7 = (M.2.1 28 7) := (W_n W229 (by decide) (W_n W224 (by decide) rfl))
          have t_236 : (M230.2.1 28 7).toInt = (M.2.1 28 7).toInt := congrArg Int32.toInt c_235
          have c_237 : M230.2.1 1 10 = (2 : Int32) := (W_n W229 (by decide) (W_e W224))
          have k_238 : (2 : Int32).toInt = 2 := rfl
          have t_239 : (M230.2.1 1 10).toInt = (2 : Int32).toInt := congrArg Int32.toInt c_237
          have c_240 : M230.2.1 1 11 = (M.2.1 1 9) := (W_e W229)
          have t_241 : (M230.2.1 1 11).toInt = (M.2.1 1 9).toInt := congrArg Int32.toInt c_240
          exact h (0 : Int32) M230 hG231 F232 (by decide) (by decide) j_234 (by omega) (fun z => by exfalso; omega) (fun _ => winl (by omega) (by omega) (w_40 (by omega) (by omega) (by omega) (by omega) (by omega)))
      · have z_242 : ¬ (x_kx (x_val t nn a) = 7 ∨ x_kx (x_val t nn a) = 10 ∨ x_kx (x_val t nn a) = 11) := fun z => by rcases z with z | z | z; have := (x_kx_w2 (x_val t nn a)).1.mp z; omega; have := (x_kx_w2 (x_val t nn a)).2.2.2.1.mp z; omega; have := (x_kx_w2 (x_val t nn a)).2.2.2.2.mp z; omega
        refine to_an (pc := 27) rw_100_27 rfl ?_
        refine to_c (pc := 28) rw_100_28 (x := (1 : Int32)) rfl rfl ?_
        refine s_v (pc := 29) rw_100_29 (by omega) (ls0 := [.ref 1, .int (1 : Int32)]) rfl (Nat.le_of_ble_eq_true rfl) (Nat.le_of_ble_eq_true rfl) rfl (to_rc rfl rfl rfl (g_o hG rfl)) rfl ?_
        refine to_an (pc := 0) rw_84_0 rfl ?_
        refine to_in (pc := 1) rw_84_1 rfl ?_
        refine s_pI (pc := 2) rw_84_2 hG rfl (fun M244 W243 => ?_)
        have hG245 := g_wf hG W243 rfl rfl (by decide)
        have F246 := FR.w F0 W243 (show 1 = 1 ∧ 6 ≤ 10 ∧ 10 ≤ 11 ∨ 28 ≤ 1 ∧ 1 ≤ 35 by decide)
        refine to_an (pc := 5) rw_84_5 rfl ?_
        refine to_an (pc := 6) rw_84_6 rfl ?_
        have c_247 : M244.2.1 1 9 = (M.2.1 1 9) := (W_n W243 (by decide) rfl)
        refine tt_gI (pc := 7) rw_84_7 (g_o hG245 rfl) (v := (M.2.1 1 9)) c_247 ?_
        refine s_pI (pc := 10) rw_84_10 hG245 rfl (fun M249 W248 => ?_)
        have hG250 := g_wf hG245 W248 rfl rfl (by decide)
        have F251 := FR.w F246 W248 (show 1 = 1 ∧ 6 ≤ 11 ∧ 11 ≤ 11 ∨ 28 ≤ 1 ∧ 1 ≤ 35 by decide)
        refine to_c (pc := 13) rw_84_13 (x := (0 : Int32)) rfl rfl ?_
        refine s_r1 (pc := 14) rw_84_14 (A := 0) rfl (by decide) ?_
        refine s_r1 (pc := 32) rw_100_32 (A := 0) rfl (by decide) ?_
        have k_252 : (0 : Int32).toInt = 0 := rfl
        have j_253 := (CS_f (fun a i z => W_n W248 (tg_32 a i z) rfl) (CS_f (fun a i z => W_n W243 (tg_33 a i z) rfl) q3))
        have c_254 : M249.2.1 28 7 = (M.2.1 28 7) := (W_n W248 (by decide) (W_n W243 (by decide) rfl))
        have t_255 : (M249.2.1 28 7).toInt = (M.2.1 28 7).toInt := congrArg Int32.toInt c_254
        have c_256 : M249.2.1 1 10 = (1 : Int32) := (W_n W248 (by decide) (W_e W243))
        have k_257 : (1 : Int32).toInt = 1 := rfl
        have t_258 : (M249.2.1 1 10).toInt = (1 : Int32).toInt := congrArg Int32.toInt c_256
        have c_259 : M249.2.1 1 11 = (M.2.1 1 9) := (W_e W248)
        have t_260 : (M249.2.1 1 11).toInt = (M.2.1 1 9).toInt := congrArg Int32.toInt c_259
        exact h (0 : Int32) M249 hG250 F251 (by decide) (by decide) j_253 (by omega) (fun z => by exfalso; omega) (fun _ => winl (by omega) (by omega) (w_kx (by omega) (by omega) (by omega) (by omega)))
set_option maxRecDepth 4000 in
set_option maxHeartbeats 0 in
theorem U_99_0 {X : mm_X} {d : Nat} {M : mm_M} {Q : Option Value → mm_M → Prop} {p : Nat} {o : Int32} {t : Nat → Int} {nn : Int} {a : Int} {sg : x_S} {n9 : Int} {op : List Int} {A9 : x_A} (hX : g_X X) (hd : 5 + 3 * (5 - o.toInt) ≤ (d : Int)) (hp : p = 49 ∨ p = 58) (q1 : 0 ≤ o.toInt) (q2 : o.toInt ≤ 5) (q3 : CS M t nn) (q4 : (M.2.1 1 9).toInt = a) (q5 : PLs M p sg) (q6 : nn ≤ 500) (q7 : 0 ≤ n9) (q8 : WKc M A9 n9 op) (q9 : (op.length : Int) = o.toInt) (q10 : ∀ m ∈ op, m < n9) (q11 : (M.2.1 28 7).toInt = n9) (hr : RE_99 (5 - o.toInt)) (h : ∀ (r : Int32) (M1 : mm_M), g_G M1 → FR md_w100 M M1 → (0 ≤ r.toInt) → (r.toInt ≤ 1) → CS M1 t nn → (r.toInt = 1 → n9 ≤ (M1.2.1 28 7).toInt) → ((r.toInt = 1 → WQ t nn sg (x_ww t nn sg 0 n9 op A9 a) M1 A9 n9 op o.toInt ∧ ¬ x_kind t nn (M1.2.1 1 9).toInt = 1)) → ((r.toInt = 0 → x_ww t nn sg 0 n9 op A9 a = Sum.inl ((M1.2.1 1 10).toInt, (M1.2.1 1 11).toInt))) → Q (some (.int r)) M1) : ∀ nn9 : Nat, (∀ (N : mm_M) (x5 : Int32), g_G N → FR md_w100 M N → (0 ≤ x5.toInt) → (x5.toInt ≤ 41) → (x5.toInt ≤ (N.2.1 28 7).toInt) → (n9 ≤ (N.2.1 28 7).toInt) → (o.toInt = o.toInt) → (CS N t nn) → (PLs N p sg) → (WQ t nn sg (x_ww t nn sg 0 n9 op A9 a) N A9 n9 op o.toInt) → 41 - x5.toInt < (nn9 : Int) → mm_T X d 99 3 [.ref 28, .ref 1, .ref p, .ref 11, .int o, .int x5] [] N Q) := by
  intro nn9
  induction nn9 with
  | zero =>
    intro N x5 hG F0 g1 g2 g3 g4 g5 g6 g7 g8 hm
    have b_1 := g_b hG (a := 28) (i := 7) (lo := 0) (hi := 40) rfl rfl
    exfalso; omega
  | succ nn9 ih =>
    intro N x5 hG F0 g1 g2 g3 g4 g5 g6 g7 g8 hm
    have b_2 := g_b hG (a := 28) (i := 7) (lo := 0) (hi := 40) rfl rfl
    obtain ⟨B, i_1, i_2, i_3, i_4⟩ := id g8
    have c_3 := CS_u g6 (a := (N.2.1 1 9).toInt) (by omega)
    unfold x_C at c_3
    refine to_i (pc := 3) rw_99_3 rfl ?_
    refine to_c (pc := 5) rw_99_5 (x := (40 : Int32)) rfl rfl ?_
    refine b_cgt (pc := 7) rw_99_7 (A := x5.toInt) (B := 40) rfl rfl (fun h4 => ?_) (fun h4 => ?_)
    · refine to_c (pc := 38) rw_99_38 (x := (1 : Int32)) rfl rfl ?_
      refine s_r1 (pc := 39) rw_99_39 (A := 1) rfl (by decide) ?_
      have k_5 : (1 : Int32).toInt = 1 := rfl
      exact h (1 : Int32) N hG F0 (by decide) (by decide) g6 (by omega) (fun _ => ⟨g8, by omega⟩) (fun z => by exfalso; omega)
    · refine to_an (pc := 10) rw_99_10 rfl ?_
      refine tt_gI (pc := 11) rw_99_11 (g_o hG rfl) (v := (N.2.1 1 7)) rfl ?_
      refine to_c (pc := 14) rw_99_14 (x := (4 : Int32)) rfl rfl ?_
      refine b_cne (pc := 15) rw_99_15 (A := (N.2.1 1 7).toInt) (B := 4) rfl rfl (fun h6 => ?_) (fun h6 => ?_)
      · refine to_c (pc := 38) rw_99_38 (x := (1 : Int32)) rfl rfl ?_
        refine s_r1 (pc := 39) rw_99_39 (A := 1) rfl (by decide) ?_
        have k_7 : (1 : Int32).toInt = 1 := rfl
        exact h (1 : Int32) N hG F0 (by decide) (by decide) g6 (by omega) (fun _ => ⟨g8, by omega⟩) (fun z => by exfalso; omega)
      · refine to_an (pc := 18) rw_99_18 rfl ?_
        refine to_an (pc := 19) rw_99_19 rfl ?_
        refine to_an (pc := 20) rw_99_20 rfl ?_
        refine to_an (pc := 21) rw_99_21 rfl ?_
        refine to_i (pc := 22) rw_99_22 rfl ?_
        refine s_v (pc := 24) rw_99_24 (by omega) (ls0 := [.ref 28, .ref 1, .ref p, .ref 11, .int o, .null, .null, .null]) rfl (Nat.le_of_ble_eq_true rfl) (Nat.le_of_ble_eq_true rfl) rfl (to_rc rfl rfl rfl (g_o hG rfl)) rfl ?_
        refine E_100 hX (by omega) hG hp (by omega) (by omega) g6 (by omega) g7 (by omega) (by omega) i_1 q9 (fun m hm => by have := q10 m hm; omega) (by omega) (by omega) hr (p := p) (o := o) (t := t) (nn := nn) (a := (N.2.1 1 9).toInt) (sg := sg) (n9 := (N.2.1 28 7).toInt) (op := op) (A9 := B) (fun r8 M17 hG10 F9 p_11 p_12 p_13 p_14 p_15 p_16 => ?_)
        have F18 := FR.c F0 F9 tg_127
        have b_19 := g_b hG10 (a := 28) (i := 7) (lo := 0) (hi := 40) rfl rfl
        rcases (show r8.toInt = 0 ∨ r8.toInt = 1 by omega) with h20 | h20
        · skip
          have p_21 := p_16 (by omega)
          clear p_14 p_15 p_16
          have z_22 := i_2.trans p_21
          refine b_ine_f (pc := 27) rw_99_27 (A := r8.toInt) rfl (by omega) ?_
          refine to_c (pc := 30) rw_99_30 (x := (0 : Int32)) rfl rfl ?_
          refine s_r1 (pc := 31) rw_99_31 (A := 0) rfl (by decide) ?_
          have k_23 : (0 : Int32).toInt = 0 := rfl
          exact h (0 : Int32) M17 hG10 F18 (by decide) (by decide) p_13 (by omega) (fun z => by exfalso; omega) (fun _ => winl (by omega) (by omega) z_22)
        · skip
          have p_24 := p_14 (by omega)
          have p_25 := p_15 (by omega)
          clear p_14 p_15 p_16
          have z_26 := WQ_s (by omega) (by omega) i_3 i_4 (WQ_e i_2 p_25)
          refine b_ine_t (pc := 27) rw_99_27 (A := r8.toInt) rfl (by omega) ?_
          refine s_inc (pc := 32) rw_99_32 (ls2 := fun v => [.ref 28, .ref 1, .ref p, .ref 11, .int o, .int v]) rfl rfl (fun _ => rfl) (A := x5.toInt) (B := 1) rfl rfl (by omega) (fun v27 e28 => ?_)
          refine to_go (pc := 35) rw_99_35 ?_
          have j_29 := (PLs_f (fun a i z => F_n F9 (show ¬ (a = 1 ∧ 6 ≤ i ∧ i ≤ 11 ∨ 28 ≤ a ∧ a ≤ 35) by omega) rfl) g7)
          exact ih M17 v27 hG10 F18 (by omega) (by omega) (by omega) (by omega) (by omega) p_13 j_29 z_26 (by omega)
set_option maxRecDepth 4000 in
set_option maxHeartbeats 0 in
theorem BE_99 {X : mm_X} {d : Nat} {M : mm_M} {Q : Option Value → mm_M → Prop} {p : Nat} {o : Int32} {t : Nat → Int} {nn : Int} {a : Int} {sg : x_S} {n9 : Int} {op : List Int} {A9 : x_A} (hX : g_X X) (hd : 5 + 3 * (5 - o.toInt) ≤ (d : Int)) (hG : g_G M) (hp : p = 49 ∨ p = 58) (q1 : 0 ≤ o.toInt) (q2 : o.toInt ≤ 5) (q3 : CS M t nn) (q4 : (M.2.1 1 9).toInt = a) (q5 : PLs M p sg) (q6 : nn ≤ 500) (q7 : 0 ≤ n9) (q8 : WKc M A9 n9 op) (q9 : (op.length : Int) = o.toInt) (q10 : ∀ m ∈ op, m < n9) (q11 : (M.2.1 28 7).toInt = n9) (hr : RE_99 (5 - o.toInt)) (h : ∀ (r : Int32) (M1 : mm_M), g_G M1 → FR md_w100 M M1 → (0 ≤ r.toInt) → (r.toInt ≤ 1) → CS M1 t nn → (r.toInt = 1 → n9 ≤ (M1.2.1 28 7).toInt) → ((r.toInt = 1 → WQ t nn sg (x_ww t nn sg 0 n9 op A9 a) M1 A9 n9 op o.toInt ∧ ¬ x_kind t nn (M1.2.1 1 9).toInt = 1)) → ((r.toInt = 0 → x_ww t nn sg 0 n9 op A9 a = Sum.inl ((M1.2.1 1 10).toInt, (M1.2.1 1 11).toInt))) → Q (some (.int r)) M1) : mm_T X d 99 0 [.ref 28, .ref 1, .ref p, .ref 11, .int o, .null] [] M Q := by
  have F0 : FR md_w100 M M := FR.rf
  have b_30 := g_b hG (a := 28) (i := 7) (lo := 0) (hi := 40) rfl rfl
  refine to_c (pc := 0) rw_99_0 (x := (0 : Int32)) rfl rfl ?_
  refine to_is (pc := 1) rw_99_1 (ls2 := [.ref 28, .ref 1, .ref p, .ref 11, .int o, .int (0 : Int32)]) rfl rfl ?_
  have k_31 : (0 : Int32).toInt = 0 := rfl
  exact (U_99_0 (p := p) (o := o) (t := t) (nn := nn) (a := a) (sg := sg) (n9 := n9) (op := op) (A9 := A9) hX hd hp q1 q2 q3 q4 q5 q6 q7 q8 q9 q10 q11 hr h ((41 - (0 : Int32).toInt).toNat + 1)) M (0 : Int32) hG F0 (by omega) (by omega) (by omega) (by omega) (by omega) q3 q5 (WQ_0 q8 (by omega) (by omega) rfl) (by omega)
theorem RE_99_all : ∀ nn : Nat, RE_99 (nn : Int) := by
  intro nn
  induction nn with
  | zero =>
    intro X d M Q p o t nn a sg n9 op A9 hX hd hG hp q1 q2 q3 q4 q5 q6 q7 q8 q9 q10 q11 hm h
    exfalso; omega
  | succ nn ih =>
    intro X d M Q p o t nn a sg n9 op A9 hX hd hG hp q1 q2 q3 q4 q5 q6 q7 q8 q9 q10 q11 hm h
    exact BE_99 hX hd hG hp q1 q2 q3 q4 q5 q6 q7 q8 q9 q10 q11 (fun X2 d2 M2 Q2 p2 o2 t2 nn2 a2 sg2 n92 op2 A92 e71 e72 e73 hp2 q12 q22 q32 q42 q52 q62 q72 q82 q92 q102 q112 hm2 h2 => ih X2 d2 M2 Q2 p2 o2 t2 nn2 a2 sg2 n92 op2 A92 e71 e72 e73 hp2 q12 q22 q32 q42 q52 q62 q72 q82 q92 q102 q112 (by omega) h2) h
theorem E_99 {X : mm_X} {d : Nat} {M : mm_M} {Q : Option Value → mm_M → Prop} {p : Nat} {o : Int32} {t : Nat → Int} {nn : Int} {a : Int} {sg : x_S} {n9 : Int} {op : List Int} {A9 : x_A} (hX : g_X X) (hd : 5 + 3 * (5 - o.toInt) ≤ (d : Int)) (hG : g_G M) (hp : p = 49 ∨ p = 58) (q1 : 0 ≤ o.toInt) (q2 : o.toInt ≤ 5) (q3 : CS M t nn) (q4 : (M.2.1 1 9).toInt = a) (q5 : PLs M p sg) (q6 : nn ≤ 500) (q7 : 0 ≤ n9) (q8 : WKc M A9 n9 op) (q9 : (op.length : Int) = o.toInt) (q10 : ∀ m ∈ op, m < n9) (q11 : (M.2.1 28 7).toInt = n9) (h : ∀ (r : Int32) (M1 : mm_M), g_G M1 → FR md_w100 M M1 → (0 ≤ r.toInt) → (r.toInt ≤ 1) → CS M1 t nn → (r.toInt = 1 → n9 ≤ (M1.2.1 28 7).toInt) → ((r.toInt = 1 → WQ t nn sg (x_ww t nn sg 0 n9 op A9 a) M1 A9 n9 op o.toInt ∧ ¬ x_kind t nn (M1.2.1 1 9).toInt = 1)) → ((r.toInt = 0 → x_ww t nn sg 0 n9 op A9 a = Sum.inl ((M1.2.1 1 10).toInt, (M1.2.1 1 11).toInt))) → Q (some (.int r)) M1) : mm_T X d 99 0 [.ref 28, .ref 1, .ref p, .ref 11, .int o, .null] [] M Q := RE_99_all ((5 - o.toInt).toNat + 1) X d M Q p o t nn a sg n9 op A9 hX hd hG hp q1 q2 q3 q4 q5 q6 q7 q8 q9 q10 q11 (by omega) h
set_option maxRecDepth 4000 in
set_option maxHeartbeats 0 in
theorem E_98 {X : mm_X} {d : Nat} {M : mm_M} {Q : Option Value → mm_M → Prop} {p : Nat} {t : Nat → Int} {nn : Int} {a : Int} {sg : x_S} (hX : g_X X) (hd : 21 ≤ d) (hG : g_G M) (hp : p = 49 ∨ p = 58) (q1 : CS M t nn) (q2 : (M.2.1 1 9).toInt = a) (q3 : PLs M p sg) (q4 : nn ≤ 500) (h : ∀ (r : Int32) (M1 : mm_M), g_G M1 → FR md_w100 M M1 → (0 ≤ r.toInt) → (r.toInt ≤ 1) → CS M1 t nn → ((r.toInt = 1 → WR98 (x_ww t nn sg 0 0 [] x_A0 a) M1)) → ((r.toInt = 0 → x_ww t nn sg 0 0 [] x_A0 a = Sum.inl ((M1.2.1 1 10).toInt, (M1.2.1 1 11).toInt))) → Q (some (.int r)) M1) : mm_T X d 98 0 [.ref 28, .ref 1, .ref p, .ref 11] [] M Q := by
  have F0 : FR md_w100 M M := FR.rf
  have c_1 := CS_u q1 (a := a) (by omega)
  unfold x_C at c_1
  refine to_an (pc := 0) rw_98_0 rfl ?_
  refine to_c (pc := 1) rw_98_1 (x := (0 : Int32)) rfl rfl ?_
  refine s_pI (pc := 2) rw_98_2 hG rfl (fun M3 W2 => ?_)
  have hG4 := g_w hG W2 (A := 0) rfl (lo := 0) (hi := 40) rfl rfl (by omega) (by decide)
  have F5 := FR.w F0 W2 (show 28 = 1 ∧ 6 ≤ 7 ∧ 7 ≤ 11 ∨ 28 ≤ 28 ∧ 28 ≤ 35 by decide)
  refine to_an (pc := 5) rw_98_5 rfl ?_
  refine to_an (pc := 6) rw_98_6 rfl ?_
  refine to_an (pc := 7) rw_98_7 rfl ?_
  refine to_an (pc := 8) rw_98_8 rfl ?_
  refine to_c (pc := 9) rw_98_9 (x := (0 : Int32)) rfl rfl ?_
  refine s_v (pc := 10) rw_98_10 (dp0 hd (by decide)) (ls0 := [.ref 28, .ref 1, .ref p, .ref 11, .int (0 : Int32), .null]) rfl (Nat.le_of_ble_eq_true rfl) (Nat.le_of_ble_eq_true rfl) rfl (to_rc rfl rfl rfl (g_o hG4 rfl)) rfl ?_
  have k_6 : (0 : Int32).toInt = 0 := rfl
  have j_7 := (CS_f (fun a i z => W_n W2 (tg_135 a i z) rfl) q1)
  have c_8 : M3.2.1 1 9 = (M.2.1 1 9) := (W_n W2 (by decide) rfl)
  have t_9 : (M3.2.1 1 9).toInt = (M.2.1 1 9).toInt := congrArg Int32.toInt c_8
  have j_10 := (PLs_f (fun a i z => W_n W2 (by /-r28,7-/ omega) rfl) q3)
  have c_11 : M3.2.1 28 7 = (0 : Int32) := (W_e W2)
  have t_12 : (M3.2.1 28 7).toInt = (0 : Int32).toInt := congrArg Int32.toInt c_11
  refine E_99 hX (by omega) hG4 hp (by omega) (by omega) j_7 (by omega) j_10 (by omega) (by omega) (fun i hi => by exfalso; omega) rfl (fun m hm => absurd hm List.not_mem_nil) (by omega) (p := p) (o := (0 : Int32)) (t := t) (nn := nn) (a := a) (sg := sg) (n9 := 0) (op := []) (A9 := x_A0) (fun r13 M22 hG15 F14 p_16 p_17 p_18 p_19 p_20 p_21 => ?_)
  have F23 := FR.c F5 F14 tg_127
  have b_24 := g_b hG15 (a := 28) (i := 7) (lo := 0) (hi := 40) rfl rfl
  rcases (show r13.toInt = 0 ∨ r13.toInt = 1 by omega) with h25 | h25
  · skip
    have p_26 := p_21 (by omega)
    clear p_19 p_20 p_21
    have z_27 := p_26
    refine b_ieq_t (pc := 13) rw_98_13 (A := r13.toInt) rfl (by omega) ?_
    refine to_c (pc := 27) rw_98_27 (x := (0 : Int32)) rfl rfl ?_
    refine s_r1 (pc := 28) rw_98_28 (A := 0) rfl (by decide) ?_
    exact h (0 : Int32) M22 hG15 F23 (by decide) (by decide) p_18 (fun z => by exfalso; omega) (fun _ => winl (by omega) (by omega) z_27)
  · skip
    have p_28 := p_19 (by omega)
    have p_29 := p_20 (by omega)
    clear p_19 p_20 p_21
    have z_30 := p_29.1
    have z_31 := p_29.2
    have c_32 := CS_u p_18 (a := (M22.2.1 1 9).toInt) (by omega)
    unfold x_C at c_32
    refine b_ieq_f (pc := 13) rw_98_13 (A := r13.toInt) rfl (by omega) ?_
    refine to_an (pc := 16) rw_98_16 rfl ?_
    refine s_v (pc := 17) rw_98_17 (dp0 hd (by decide)) (ls0 := [.ref 1]) rfl (Nat.le_of_ble_eq_true rfl) (Nat.le_of_ble_eq_true rfl) rfl (to_rc rfl rfl rfl (g_o hG15 rfl)) rfl ?_
    refine to_an (pc := 0) rw_87_0 rfl ?_
    refine tt_gI (pc := 1) rw_87_1 (g_o hG15 rfl) (v := (M22.2.1 1 7)) rfl ?_
    refine b_ieq (pc := 4) rw_87_4 (A := (M22.2.1 1 7).toInt) rfl (fun h33 => ?_) (fun h33 => ?_)
    · refine to_c (pc := 15) rw_87_15 (x := (1 : Int32)) rfl rfl ?_
      refine to_go (pc := 16) rw_87_16 ?_
      refine s_r1 (pc := 20) rw_87_20 (A := 1) rfl (by decide) ?_
      refine b_ieq_f (pc := 20) rw_98_20 (A := 1) rfl (by decide) ?_
      refine to_c (pc := 23) rw_98_23 (x := (1 : Int32)) rfl rfl ?_
      refine to_go (pc := 24) rw_98_24 ?_
      refine s_r1 (pc := 28) rw_98_28 (A := 1) rfl (by decide) ?_
      have k_34 : (1 : Int32).toInt = 1 := rfl
      exact h (1 : Int32) M22 hG15 F23 (by decide) (by decide) p_18 (fun _ => WR_i z_30 (by omega) (by omega) (by omega)) (fun z => by exfalso; omega)
    · refine to_an (pc := 7) rw_87_7 rfl ?_
      refine to_c (pc := 8) rw_87_8 (x := (1 : Int32)) rfl rfl ?_
      refine s_v (pc := 9) rw_87_9 (dp1 hd (by decide)) (ls0 := [.ref 1, .int (1 : Int32)]) rfl (Nat.le_of_ble_eq_true rfl) (Nat.le_of_ble_eq_true rfl) rfl (to_rc rfl rfl rfl (g_o hG15 rfl)) rfl ?_
      refine to_an (pc := 0) rw_84_0 rfl ?_
      refine to_in (pc := 1) rw_84_1 rfl ?_
      refine s_pI (pc := 2) rw_84_2 hG15 rfl (fun M36 W35 => ?_)
      have hG37 := g_wf hG15 W35 rfl rfl (by decide)
      have F38 := FR.w F23 W35 (show 1 = 1 ∧ 6 ≤ 10 ∧ 10 ≤ 11 ∨ 28 ≤ 1 ∧ 1 ≤ 35 by decide)
      refine to_an (pc := 5) rw_84_5 rfl ?_
      refine to_an (pc := 6) rw_84_6 rfl ?_
      have c_39 : M36.2.1 1 9 = (M22.2.1 1 9) := (W_n W35 (by decide) rfl)
      refine tt_gI (pc := 7) rw_84_7 (g_o hG37 rfl) (v := (M22.2.1 1 9)) c_39 ?_
      refine s_pI (pc := 10) rw_84_10 hG37 rfl (fun M41 W40 => ?_)
      have hG42 := g_wf hG37 W40 rfl rfl (by decide)
      have F43 := FR.w F38 W40 (show 1 = 1 ∧ 6 ≤ 11 ∧ 11 ≤ 11 ∨ 28 ≤ 1 ∧ 1 ≤ 35 by decide)
      refine to_c (pc := 13) rw_84_13 (x := (0 : Int32)) rfl rfl ?_
      refine s_r1 (pc := 14) rw_84_14 (A := 0) rfl (by decide) ?_
      refine b_ieq_t (pc := 12) rw_87_12 (A := 0) rfl (by decide) ?_
      refine to_c (pc := 19) rw_87_19 (x := (0 : Int32)) rfl rfl ?_
      refine s_r1 (pc := 20) rw_87_20 (A := 0) rfl (by decide) ?_
      refine b_ieq_t (pc := 20) rw_98_20 (A := 0) rfl (by decide) ?_
      refine to_c (pc := 27) rw_98_27 (x := (0 : Int32)) rfl rfl ?_
      refine s_r1 (pc := 28) rw_98_28 (A := 0) rfl (by decide) ?_
      have j_44 := (CS_f (fun a i z => W_n W40 (tg_32 a i z) rfl) (CS_f (fun a i z => W_n W35 (tg_33 a i z) rfl) p_18))
      have c_45 : M41.2.1 1 10 = (1 : Int32) := (W_n W40 (by decide) (W_e W35))
      have k_46 : (1 : Int32).toInt = 1 := rfl
      have t_47 : (M41.2.1 1 10).toInt = (1 : Int32).toInt := congrArg Int32.toInt c_45
      have c_48 : M41.2.1 1 11 = (M22.2.1 1 9) := (W_e W40)
      have t_49 : (M41.2.1 1 11).toInt = (M22.2.1 1 9).toInt := congrArg Int32.toInt c_48
      exact h (0 : Int32) M41 hG42 F43 (by decide) (by decide) j_44 (fun z => by exfalso; omega) (fun _ => winl (by omega) (by omega) (WR_x z_30 (by omega) (by omega) (by omega) (by omega)))

end
section
theorem tg_138 {M M1 : mm_M} (F : FR (fun a i : Nat => a = 77 ∧ 7 ≤ i ∧ i ≤ 10) M M1) : ∀ a i : Nat, (a = 77 ∧ 11 ≤ i ∧ i ≤ 13 ∨ 80 ≤ a ∧ a ≤ 84 ∧ i < 8 ∨ 85 ≤ a ∧ a ≤ 86 ∧ i < 12) → M1.2.1 a i = M.2.1 a i := fun a i z => F_n F (show ¬ (a = 77 ∧ 7 ≤ i ∧ i ≤ 10) by omega) rfl
theorem tg_139 : ∀ a i : Nat, (a < 0) → (a = 77 ∧ (i = 4 ∨ i = 5 ∨ 7 ≤ i ∧ i ≤ 10) ∨ a = 106 ∨ a = 107) := fun a i z => by omega
theorem tg_140 : ∀ a i : Nat, (a = 77 ∧ 7 ≤ i ∧ i ≤ 10) → (a = 77 ∧ (i = 4 ∨ i = 5 ∨ 7 ≤ i ∧ i ≤ 10) ∨ a = 106 ∨ a = 107) := fun a i z => by omega
theorem tg_141 : ∀ a i j : Nat, (a = 77 ∧ 6 ≤ i ∧ i ≤ 10) → ¬ (a = 107 ∧ i = j) := fun a i j z => by omega
set_option maxRecDepth 4000 in
set_option maxHeartbeats 0 in
theorem E_161 {X : mm_X} {d : Nat} {M : mm_M} {Q : Option Value → mm_M → Prop} {c : Int32} {t : Nat → Int} {nn : Int} {a : Int} (hX : g_X X) (hd : 2 ≤ d) (hG : g_G M) (q1 : RS M t nn) (q2 : (M.2.1 77 10).toInt = a) (q3 : 0 ≤ nn) (q4 : nn ≤ 500) (q5 : TR M t nn) (q6 : W9 M) (q7 : 0 ≤ c.toInt) (q8 : c.toInt ≤ 14) (h : ∀ (r : Int32) (M1 : mm_M), g_G M1 → FR md_tw M M1 → (0 ≤ r.toInt) → (r.toInt ≤ 1) → RS M1 t nn → (r.toInt = 1 → (x_kind t nn a = 1 ∧ x_kx (x_val t nn a) = c.toInt) ∧ (M1.2.1 77 10).toInt = x_ns t nn a) → (r.toInt = 0 → ¬ (x_kind t nn a = 1 ∧ x_kx (x_val t nn a) = c.toInt)) → (r.toInt = 0 → (M1.2.1 77 4).toInt = 1 ∧ (M1.2.1 77 5).toInt = a) → Q (some (.int r)) M1) : mm_T X d 160 0 [.ref 77, .int c] [] M Q := by
  have F0 : FR md_tw M M := FR.rf
  have b_1 := g_b hG (a := 77) (i := 10) (lo := 0) (hi := 500) rfl rfl
  have b_2 := g_b hG (a := 77) (i := 8) (lo := 0) (hi := 5) rfl rfl
  have c_3 := RS_u q1 (a := a) (by omega)
  unfold x_R at c_3
  have b_4 := g_b hG (a := 77) (i := 6) (lo := 0) (hi := 500) rfl rfl
  have b_5 := g_b hG (a := 77) (i := 7) (lo := 0) (hi := 500) rfl rfl
  have z_6 := RS_b q1 (a := a) (by omega)
  refine to_an (pc := 0) rw_161_0 rfl ?_
  refine to_in (pc := 1) rw_161_1 rfl ?_
  refine s_v (pc := 2) rw_161_2 (dp0 hd (by decide)) (ls0 := [.ref 77, .int c]) rfl (Nat.le_of_ble_eq_true rfl) (Nat.le_of_ble_eq_true rfl) rfl (to_rc rfl rfl rfl (g_o hG rfl)) rfl ?_
  refine to_an (pc := 0) rw_158_0 rfl ?_
  refine tt_gI (pc := 1) rw_158_1 (g_o hG rfl) (v := (M.2.1 77 8)) rfl ?_
  refine to_c (pc := 4) rw_158_4 (x := (1 : Int32)) rfl rfl ?_
  refine b_cne (pc := 5) rw_158_5 (A := (M.2.1 77 8).toInt) (B := 1) rfl rfl (fun h7 => ?_) (fun h7 => ?_)
  · refine to_c (pc := 20) rw_158_20 (x := (0 : Int32)) rfl rfl ?_
    refine s_r1 (pc := 21) rw_158_21 (A := 0) rfl (by decide) ?_
    refine b_ine_f (pc := 5) rw_161_5 (A := 0) rfl (by decide) ?_
    refine to_an (pc := 8) rw_161_8 rfl ?_
    refine to_c (pc := 9) rw_161_9 (x := (1 : Int32)) rfl rfl ?_
    refine s_v (pc := 10) rw_161_10 (dp0 hd (by decide)) (ls0 := [.ref 77, .int (1 : Int32)]) rfl (Nat.le_of_ble_eq_true rfl) (Nat.le_of_ble_eq_true rfl) rfl (to_rc rfl rfl rfl (g_o hG rfl)) rfl ?_
    refine to_an (pc := 0) rw_152_0 rfl ?_
    refine to_in (pc := 1) rw_152_1 rfl ?_
    refine s_pI (pc := 2) rw_152_2 hG rfl (fun M9 W8 => ?_)
    have hG10 := g_wf hG W8 rfl rfl (by decide)
    have F11 := FR.w F0 W8 (show 77 = 77 ∧ (4 = 4 ∨ 4 = 5 ∨ 7 ≤ 4 ∧ 4 ≤ 10) by decide)
    refine to_an (pc := 5) rw_152_5 rfl ?_
    refine to_an (pc := 6) rw_152_6 rfl ?_
    have c_12 : M9.2.1 77 10 = (M.2.1 77 10) := (W_n W8 (by decide) rfl)
    refine tt_gI (pc := 7) rw_152_7 (g_o hG10 rfl) (v := (M.2.1 77 10)) c_12 ?_
    refine s_pI (pc := 10) rw_152_10 hG10 rfl (fun M14 W13 => ?_)
    have hG15 := g_wf hG10 W13 rfl rfl (by decide)
    have F16 := FR.w F11 W13 (show 77 = 77 ∧ (5 = 4 ∨ 5 = 5 ∨ 7 ≤ 5 ∧ 5 ≤ 10) by decide)
    refine to_c (pc := 13) rw_152_13 (x := (0 : Int32)) rfl rfl ?_
    refine s_r1 (pc := 14) rw_152_14 (A := 0) rfl (by decide) ?_
    refine s_r1 (pc := 13) rw_161_13 (A := 0) rfl (by decide) ?_
    have k_17 : (0 : Int32).toInt = 0 := rfl
    have j_18 := (RS_f (fun a i z => W_n W13 (tg_37 a i z) rfl) (RS_f (fun a i z => W_n W8 (tg_38 a i z) rfl) q1))
    have c_19 : M14.2.1 77 10 = (M.2.1 77 10) := (W_n W13 (by decide) c_12)
    have t_20 : (M14.2.1 77 10).toInt = (M.2.1 77 10).toInt := congrArg Int32.toInt c_19
    have c_21 : M14.2.1 77 4 = (1 : Int32) := (W_n W13 (by decide) (W_e W8))
    have k_22 : (1 : Int32).toInt = 1 := rfl
    have t_23 : (M14.2.1 77 4).toInt = (1 : Int32).toInt := congrArg Int32.toInt c_21
    have c_24 : M14.2.1 77 5 = (M.2.1 77 10) := (W_e W13)
    have t_25 : (M14.2.1 77 5).toInt = (M.2.1 77 10).toInt := congrArg Int32.toInt c_24
    exact h (0 : Int32) M14 hG15 F16 (by decide) (by decide) j_18 (by omega) (by omega) (by omega)
  · refine to_an (pc := 8) rw_158_8 rfl ?_
    refine tt_gI (pc := 9) rw_158_9 (g_o hG rfl) (v := (M.2.1 77 9)) rfl ?_
    refine to_in (pc := 12) rw_158_12 rfl ?_
    refine b_cne (pc := 13) rw_158_13 (A := (M.2.1 77 9).toInt) (B := c.toInt) rfl rfl (fun h26 => ?_) (fun h26 => ?_)
    · refine to_c (pc := 20) rw_158_20 (x := (0 : Int32)) rfl rfl ?_
      refine s_r1 (pc := 21) rw_158_21 (A := 0) rfl (by decide) ?_
      refine b_ine_f (pc := 5) rw_161_5 (A := 0) rfl (by decide) ?_
      refine to_an (pc := 8) rw_161_8 rfl ?_
      refine to_c (pc := 9) rw_161_9 (x := (1 : Int32)) rfl rfl ?_
      refine s_v (pc := 10) rw_161_10 (dp0 hd (by decide)) (ls0 := [.ref 77, .int (1 : Int32)]) rfl (Nat.le_of_ble_eq_true rfl) (Nat.le_of_ble_eq_true rfl) rfl (to_rc rfl rfl rfl (g_o hG rfl)) rfl ?_
      refine to_an (pc := 0) rw_152_0 rfl ?_
      refine to_in (pc := 1) rw_152_1 rfl ?_
      refine s_pI (pc := 2) rw_152_2 hG rfl (fun M28 W27 => ?_)
      have hG29 := g_wf hG W27 rfl rfl (by decide)
      have F30 := FR.w F0 W27 (show 77 = 77 ∧ (4 = 4 ∨ 4 = 5 ∨ 7 ≤ 4 ∧ 4 ≤ 10) by decide)
      refine to_an (pc := 5) rw_152_5 rfl ?_
      refine to_an (pc := 6) rw_152_6 rfl ?_
      have c_31 : M28.2.1 77 10 = (M.2.1 77 10) := (W_n W27 (by decide) rfl)
      refine tt_gI (pc := 7) rw_152_7 (g_o hG29 rfl) (v := (M.2.1 77 10)) c_31 ?_
      refine s_pI (pc := 10) rw_152_10 hG29 rfl (fun M33 W32 => ?_)
      have hG34 := g_wf hG29 W32 rfl rfl (by decide)
      have F35 := FR.w F30 W32 (show 77 = 77 ∧ (5 = 4 ∨ 5 = 5 ∨ 7 ≤ 5 ∧ 5 ≤ 10) by decide)
      refine to_c (pc := 13) rw_152_13 (x := (0 : Int32)) rfl rfl ?_
      refine s_r1 (pc := 14) rw_152_14 (A := 0) rfl (by decide) ?_
      refine s_r1 (pc := 13) rw_161_13 (A := 0) rfl (by decide) ?_
      have k_36 : (0 : Int32).toInt = 0 := rfl
      have j_37 := (RS_f (fun a i z => W_n W32 (tg_37 a i z) rfl) (RS_f (fun a i z => W_n W27 (tg_38 a i z) rfl) q1))
      have c_38 : M33.2.1 77 10 = (M.2.1 77 10) := (W_n W32 (by decide) c_31)
      have t_39 : (M33.2.1 77 10).toInt = (M.2.1 77 10).toInt := congrArg Int32.toInt c_38
      have c_40 : M33.2.1 77 4 = (1 : Int32) := (W_n W32 (by decide) (W_e W27))
      have k_41 : (1 : Int32).toInt = 1 := rfl
      have t_42 : (M33.2.1 77 4).toInt = (1 : Int32).toInt := congrArg Int32.toInt c_40
      have c_43 : M33.2.1 77 5 = (M.2.1 77 10) := (W_e W32)
      have t_44 : (M33.2.1 77 5).toInt = (M.2.1 77 10).toInt := congrArg Int32.toInt c_43
      exact h (0 : Int32) M33 hG34 F35 (by decide) (by decide) j_37 (by omega) (by omega) (by omega)
    · refine to_c (pc := 16) rw_158_16 (x := (1 : Int32)) rfl rfl ?_
      refine to_go (pc := 17) rw_158_17 ?_
      refine s_r1 (pc := 21) rw_158_21 (A := 1) rfl (by decide) ?_
      refine b_ine_t (pc := 5) rw_161_5 (A := 1) rfl (by decide) ?_
      refine to_an (pc := 14) rw_161_14 rfl ?_
      refine s_v (pc := 15) rw_161_15 (dp0 hd (by decide)) (ls0 := [.ref 77]) rfl (Nat.le_of_ble_eq_true rfl) (Nat.le_of_ble_eq_true rfl) rfl (to_rc rfl rfl rfl (g_o hG rfl)) rfl ?_
      have z_45 := RS_b q1 (a := a) (by omega)
      refine E_156 hX (dp1 hd (by decide)) hG (by omega) (by omega) (by omega) (by omega) q5 q6  (fun M52 hG47 F46 p_48 p_49 p_50 p_51 => ?_)
      have F53 := FR.c F0 F46 tg_35
      have b_54 := g_b hG47 (a := 77) (i := 7) (lo := 0) (hi := 500) rfl rfl
      have c_55 : M52.2.1 77 6 = (M.2.1 77 6) := (F_n F46 (show ¬ (77 = 77 ∧ 7 ≤ 6 ∧ 6 ≤ 10) by decide) rfl)
      have t_56 : (M52.2.1 77 6).toInt = (M.2.1 77 6).toInt := congrArg Int32.toInt c_55
      have b_57 := g_b hG47 (a := 77) (i := 8) (lo := 0) (hi := 5) rfl rfl
      have b_58 := g_b hG47 (a := 77) (i := 10) (lo := 0) (hi := 500) rfl rfl
      have z_59 := RS_s p_51.2 (a := a) (by omega)
      refine to_c (pc := 18) rw_161_18 (x := (1 : Int32)) rfl rfl ?_
      refine s_r1 (pc := 19) rw_161_19 (A := 1) rfl (by decide) ?_
      have k_60 : (1 : Int32).toInt = 1 := rfl
      have c_61 : M52.2.1 77 4 = (M.2.1 77 4) := (F_n F46 (show ¬ (77 = 77 ∧ 7 ≤ 4 ∧ 4 ≤ 10) by decide) rfl)
      have t_62 : (M52.2.1 77 4).toInt = (M.2.1 77 4).toInt := congrArg Int32.toInt c_61
      have c_63 : M52.2.1 77 5 = (M.2.1 77 5) := (F_n F46 (show ¬ (77 = 77 ∧ 7 ≤ 5 ∧ 5 ≤ 10) by decide) rfl)
      have t_64 : (M52.2.1 77 5).toInt = (M.2.1 77 5).toInt := congrArg Int32.toInt c_63
      exact h (1 : Int32) M52 hG47 F53 (by decide) (by decide) p_51.1 (by omega) (by omega) (by omega)
set_option maxRecDepth 4000 in
set_option maxHeartbeats 0 in
theorem E_211 {X : mm_X} {d : Nat} {M : mm_M} {Q : Option Value → mm_M → Prop} {t : Nat → Int} {nn : Int} {a : Int} (hX : g_X X) (hd : 1 ≤ d) (hG : g_G M) (q1 : RS M t nn) (q2 : (M.2.1 77 10).toInt = a) (h : ∀ (r : Int32) (M1 : mm_M), g_G M1 → FR md_wr2 M M1 → (-1 ≤ r.toInt) → (r.toInt ≤ 5) → (r.toInt = x_kp t nn a) → (r.toInt < 0 → (M1.2.1 77 4).toInt = 1 ∧ (M1.2.1 77 5).toInt = a) → Q (some (.int r)) M1) : mm_T X d 210 0 [.ref 77, .null, .null] [] M Q := by
  have F0 : FR md_wr2 M M := FR.rf
  have b_1 := g_b hG (a := 77) (i := 10) (lo := 0) (hi := 500) rfl rfl
  have b_2 := g_b hG (a := 77) (i := 8) (lo := 0) (hi := 5) rfl rfl
  have c_3 := RS_u q1 (a := a) (by omega)
  unfold x_R at c_3
  refine to_an (pc := 0) rw_211_0 rfl ?_
  refine tt_gI (pc := 1) rw_211_1 (g_o hG rfl) (v := (M.2.1 77 8)) rfl ?_
  refine to_c (pc := 4) rw_211_4 (x := (2 : Int32)) rfl rfl ?_
  refine b_cne (pc := 5) rw_211_5 (A := (M.2.1 77 8).toInt) (B := 2) rfl rfl (fun h4 => ?_) (fun h4 => ?_)
  · refine to_c (pc := 31) rw_211_31 (x := (-1 : Int32)) rfl rfl ?_
    refine to_isn (pc := 32) rw_211_32 (ls2 := [.ref 77, .int (-1 : Int32), .null]) rfl rfl ?_
    refine to_in (pc := 33) rw_211_33 rfl ?_
    refine b_ilt_t (pc := 34) rw_211_34 (A := -1) rfl (by decide) ?_
    refine to_an (pc := 42) rw_211_42 rfl ?_
    refine to_c (pc := 43) rw_211_43 (x := (1 : Int32)) rfl rfl ?_
    refine s_v (pc := 44) rw_211_44 (dp0 hd (by decide)) (ls0 := [.ref 77, .int (1 : Int32)]) rfl (Nat.le_of_ble_eq_true rfl) (Nat.le_of_ble_eq_true rfl) rfl (to_rc rfl rfl rfl (g_o hG rfl)) rfl ?_
    refine to_an (pc := 0) rw_152_0 rfl ?_
    refine to_in (pc := 1) rw_152_1 rfl ?_
    refine s_pI (pc := 2) rw_152_2 hG rfl (fun M6 W5 => ?_)
    have hG7 := g_wf hG W5 rfl rfl (by decide)
    have F8 := FR.w F0 W5 (show 77 = 77 ∧ (4 = 4 ∨ 4 = 5) by decide)
    refine to_an (pc := 5) rw_152_5 rfl ?_
    refine to_an (pc := 6) rw_152_6 rfl ?_
    have c_9 : M6.2.1 77 10 = (M.2.1 77 10) := (W_n W5 (by decide) rfl)
    refine tt_gI (pc := 7) rw_152_7 (g_o hG7 rfl) (v := (M.2.1 77 10)) c_9 ?_
    refine s_pI (pc := 10) rw_152_10 hG7 rfl (fun M11 W10 => ?_)
    have hG12 := g_wf hG7 W10 rfl rfl (by decide)
    have F13 := FR.w F8 W10 (show 77 = 77 ∧ (5 = 4 ∨ 5 = 5) by decide)
    refine to_c (pc := 13) rw_152_13 (x := (0 : Int32)) rfl rfl ?_
    refine s_r1 (pc := 14) rw_152_14 (A := 0) rfl (by decide) ?_
    refine to_isn (pc := 47) rw_211_47 (ls2 := [.ref 77, .int (-1 : Int32), .int (0 : Int32)]) rfl rfl ?_
    refine to_c (pc := 48) rw_211_48 (x := (-1 : Int32)) rfl rfl ?_
    refine to_r0 (pc := 49) rw_211_49 ?_
    have k_14 : (-1 : Int32).toInt = -1 := rfl
    have z_15 := x_pk_n (t := t) (nn := nn) (a := a) (by omega)
    have c_16 : M11.2.1 77 4 = (1 : Int32) := (W_n W10 (by decide) (W_e W5))
    have k_17 : (1 : Int32).toInt = 1 := rfl
    have t_18 : (M11.2.1 77 4).toInt = (1 : Int32).toInt := congrArg Int32.toInt c_16
    have c_19 : M11.2.1 77 5 = (M.2.1 77 10) := (W_e W10)
    have t_20 : (M11.2.1 77 5).toInt = (M.2.1 77 10).toInt := congrArg Int32.toInt c_19
    exact h (-1 : Int32) M11 hG12 F13 (by omega) (by omega) (by omega) (by omega)
  · refine to_an (pc := 8) rw_211_8 rfl ?_
    refine tt_gI (pc := 9) rw_211_9 (g_o hG rfl) (v := (M.2.1 77 9)) rfl ?_
    refine to_c (pc := 12) rw_211_12 (x := (33554431 : Int32)) rfl rfl ?_
    refine s_and (pc := 15) rw_211_15 (B := 33554431) rfl (by omega) (fun v21 e22 _ _ => ?_)
    have z_23 := i_and25 e22
    refine b_ine (pc := 16) rw_211_16 (A := v21.toInt) rfl (fun h24 => ?_) (fun h24 => ?_)
    · refine to_c (pc := 31) rw_211_31 (x := (-1 : Int32)) rfl rfl ?_
      refine to_isn (pc := 32) rw_211_32 (ls2 := [.ref 77, .int (-1 : Int32), .null]) rfl rfl ?_
      refine to_in (pc := 33) rw_211_33 rfl ?_
      refine b_ilt_t (pc := 34) rw_211_34 (A := -1) rfl (by decide) ?_
      refine to_an (pc := 42) rw_211_42 rfl ?_
      refine to_c (pc := 43) rw_211_43 (x := (1 : Int32)) rfl rfl ?_
      refine s_v (pc := 44) rw_211_44 (dp0 hd (by decide)) (ls0 := [.ref 77, .int (1 : Int32)]) rfl (Nat.le_of_ble_eq_true rfl) (Nat.le_of_ble_eq_true rfl) rfl (to_rc rfl rfl rfl (g_o hG rfl)) rfl ?_
      refine to_an (pc := 0) rw_152_0 rfl ?_
      refine to_in (pc := 1) rw_152_1 rfl ?_
      refine s_pI (pc := 2) rw_152_2 hG rfl (fun M26 W25 => ?_)
      have hG27 := g_wf hG W25 rfl rfl (by decide)
      have F28 := FR.w F0 W25 (show 77 = 77 ∧ (4 = 4 ∨ 4 = 5) by decide)
      refine to_an (pc := 5) rw_152_5 rfl ?_
      refine to_an (pc := 6) rw_152_6 rfl ?_
      have c_29 : M26.2.1 77 10 = (M.2.1 77 10) := (W_n W25 (by decide) rfl)
      refine tt_gI (pc := 7) rw_152_7 (g_o hG27 rfl) (v := (M.2.1 77 10)) c_29 ?_
      refine s_pI (pc := 10) rw_152_10 hG27 rfl (fun M31 W30 => ?_)
      have hG32 := g_wf hG27 W30 rfl rfl (by decide)
      have F33 := FR.w F28 W30 (show 77 = 77 ∧ (5 = 4 ∨ 5 = 5) by decide)
      refine to_c (pc := 13) rw_152_13 (x := (0 : Int32)) rfl rfl ?_
      refine s_r1 (pc := 14) rw_152_14 (A := 0) rfl (by decide) ?_
      refine to_isn (pc := 47) rw_211_47 (ls2 := [.ref 77, .int (-1 : Int32), .int (0 : Int32)]) rfl rfl ?_
      refine to_c (pc := 48) rw_211_48 (x := (-1 : Int32)) rfl rfl ?_
      refine to_r0 (pc := 49) rw_211_49 ?_
      have k_34 : (-1 : Int32).toInt = -1 := rfl
      have z_35 := x_pk_n (t := t) (nn := nn) (a := a) (by omega)
      have c_36 : M31.2.1 77 4 = (1 : Int32) := (W_n W30 (by decide) (W_e W25))
      have k_37 : (1 : Int32).toInt = 1 := rfl
      have t_38 : (M31.2.1 77 4).toInt = (1 : Int32).toInt := congrArg Int32.toInt c_36
      have c_39 : M31.2.1 77 5 = (M.2.1 77 10) := (W_e W30)
      have t_40 : (M31.2.1 77 5).toInt = (M.2.1 77 10).toInt := congrArg Int32.toInt c_39
      exact h (-1 : Int32) M31 hG32 F33 (by omega) (by omega) (by omega) (by omega)
    · refine to_an (pc := 19) rw_211_19 rfl ?_
      refine tt_gI (pc := 20) rw_211_20 (g_o hG rfl) (v := (M.2.1 77 9)) rfl ?_
      refine to_c (pc := 23) rw_211_23 (x := (25 : Int32)) rfl rfl ?_
      refine s_opE (pc := 25) rw_211_25 (w := (M.2.1 77 9) >>> (25 : Int32)) rfl (fun v41 e42 => ?_)
      have z_43 := i_shr25 e42
      have z_44 := i_of (x := (M.2.1 77 9))
      refine to_c (pc := 26) rw_211_26 (x := (1 : Int32)) rfl rfl ?_
      refine s_sub (pc := 27) rw_211_27 (A := v41.toInt) (B := 1) rfl rfl (by omega) (fun v45 e46 => ?_)
      refine to_go (pc := 28) rw_211_28 ?_
      refine to_isn (pc := 32) rw_211_32 (ls2 := [.ref 77, .int v45, .null]) rfl rfl ?_
      refine to_in (pc := 33) rw_211_33 rfl ?_
      refine b_ilt (pc := 34) rw_211_34 (A := v45.toInt) rfl (fun h47 => ?_) (fun h47 => ?_)
      · refine to_an (pc := 42) rw_211_42 rfl ?_
        refine to_c (pc := 43) rw_211_43 (x := (1 : Int32)) rfl rfl ?_
        refine s_v (pc := 44) rw_211_44 (dp0 hd (by decide)) (ls0 := [.ref 77, .int (1 : Int32)]) rfl (Nat.le_of_ble_eq_true rfl) (Nat.le_of_ble_eq_true rfl) rfl (to_rc rfl rfl rfl (g_o hG rfl)) rfl ?_
        refine to_an (pc := 0) rw_152_0 rfl ?_
        refine to_in (pc := 1) rw_152_1 rfl ?_
        refine s_pI (pc := 2) rw_152_2 hG rfl (fun M49 W48 => ?_)
        have hG50 := g_wf hG W48 rfl rfl (by decide)
        have F51 := FR.w F0 W48 (show 77 = 77 ∧ (4 = 4 ∨ 4 = 5) by decide)
        refine to_an (pc := 5) rw_152_5 rfl ?_
        refine to_an (pc := 6) rw_152_6 rfl ?_
        have c_52 : M49.2.1 77 10 = (M.2.1 77 10) := (W_n W48 (by decide) rfl)
        refine tt_gI (pc := 7) rw_152_7 (g_o hG50 rfl) (v := (M.2.1 77 10)) c_52 ?_
        refine s_pI (pc := 10) rw_152_10 hG50 rfl (fun M54 W53 => ?_)
        have hG55 := g_wf hG50 W53 rfl rfl (by decide)
        have F56 := FR.w F51 W53 (show 77 = 77 ∧ (5 = 4 ∨ 5 = 5) by decide)
        refine to_c (pc := 13) rw_152_13 (x := (0 : Int32)) rfl rfl ?_
        refine s_r1 (pc := 14) rw_152_14 (A := 0) rfl (by decide) ?_
        refine to_isn (pc := 47) rw_211_47 (ls2 := [.ref 77, .int v45, .int (0 : Int32)]) rfl rfl ?_
        refine to_c (pc := 48) rw_211_48 (x := (-1 : Int32)) rfl rfl ?_
        refine to_r0 (pc := 49) rw_211_49 ?_
        have k_57 : (-1 : Int32).toInt = -1 := rfl
        have z_58 := x_pk_n (t := t) (nn := nn) (a := a) (by omega)
        have c_59 : M54.2.1 77 4 = (1 : Int32) := (W_n W53 (by decide) (W_e W48))
        have k_60 : (1 : Int32).toInt = 1 := rfl
        have t_61 : (M54.2.1 77 4).toInt = (1 : Int32).toInt := congrArg Int32.toInt c_59
        have c_62 : M54.2.1 77 5 = (M.2.1 77 10) := (W_e W53)
        have t_63 : (M54.2.1 77 5).toInt = (M.2.1 77 10).toInt := congrArg Int32.toInt c_62
        exact h (-1 : Int32) M54 hG55 F56 (by omega) (by omega) (by omega) (by omega)
      · refine to_in (pc := 37) rw_211_37 rfl ?_
        refine to_c (pc := 38) rw_211_38 (x := (5 : Int32)) rfl rfl ?_
        refine b_cle (pc := 39) rw_211_39 (A := v45.toInt) (B := 5) rfl rfl (fun h64 => ?_) (fun h64 => ?_)
        · refine to_in (pc := 50) rw_211_50 rfl ?_
          refine to_r0 (pc := 51) rw_211_51 ?_
          have z_65 := x_pk_y (t := t) (nn := nn) (a := a) (l := v41.toInt) (by omega) (by omega) (by omega) (by omega)
          exact h v45 M hG F0 (by omega) (by omega) (by omega) (by omega)
        · refine to_an (pc := 42) rw_211_42 rfl ?_
          refine to_c (pc := 43) rw_211_43 (x := (1 : Int32)) rfl rfl ?_
          refine s_v (pc := 44) rw_211_44 (dp0 hd (by decide)) (ls0 := [.ref 77, .int (1 : Int32)]) rfl (Nat.le_of_ble_eq_true rfl) (Nat.le_of_ble_eq_true rfl) rfl (to_rc rfl rfl rfl (g_o hG rfl)) rfl ?_
          refine to_an (pc := 0) rw_152_0 rfl ?_
          refine to_in (pc := 1) rw_152_1 rfl ?_
          refine s_pI (pc := 2) rw_152_2 hG rfl (fun M67 W66 => ?_)
          have hG68 := g_wf hG W66 rfl rfl (by decide)
          have F69 := FR.w F0 W66 (show 77 = 77 ∧ (4 = 4 ∨ 4 = 5) by decide)
          refine to_an (pc := 5) rw_152_5 rfl ?_
          refine to_an (pc := 6) rw_152_6 rfl ?_
          have c_70 : M67.2.1 77 10 = (M.2.1 77 10) := (W_n W66 (by decide) rfl)
          refine tt_gI (pc := 7) rw_152_7 (g_o hG68 rfl) (v := (M.2.1 77 10)) c_70 ?_
          refine s_pI (pc := 10) rw_152_10 hG68 rfl (fun M72 W71 => ?_)
          have hG73 := g_wf hG68 W71 rfl rfl (by decide)
          have F74 := FR.w F69 W71 (show 77 = 77 ∧ (5 = 4 ∨ 5 = 5) by decide)
          refine to_c (pc := 13) rw_152_13 (x := (0 : Int32)) rfl rfl ?_
          refine s_r1 (pc := 14) rw_152_14 (A := 0) rfl (by decide) ?_
          refine to_isn (pc := 47) rw_211_47 (ls2 := [.ref 77, .int v45, .int (0 : Int32)]) rfl rfl ?_
          refine to_c (pc := 48) rw_211_48 (x := (-1 : Int32)) rfl rfl ?_
          refine to_r0 (pc := 49) rw_211_49 ?_
          have k_75 : (-1 : Int32).toInt = -1 := rfl
          have z_76 := x_pk_n (t := t) (nn := nn) (a := a) (by omega)
          have c_77 : M72.2.1 77 4 = (1 : Int32) := (W_n W71 (by decide) (W_e W66))
          have k_78 : (1 : Int32).toInt = 1 := rfl
          have t_79 : (M72.2.1 77 4).toInt = (1 : Int32).toInt := congrArg Int32.toInt c_77
          have c_80 : M72.2.1 77 5 = (M.2.1 77 10) := (W_e W71)
          have t_81 : (M72.2.1 77 5).toInt = (M.2.1 77 10).toInt := congrArg Int32.toInt c_80
          exact h (-1 : Int32) M72 hG73 F74 (by omega) (by omega) (by omega) (by omega)
set_option maxRecDepth 4000 in
set_option maxHeartbeats 0 in
theorem E_212 {X : mm_X} {d : Nat} {M : mm_M} {Q : Option Value → mm_M → Prop} {e : Int32} {t : Nat → Int} {nn : Int} {a : Int} {sg : x_S} (hX : g_X X) (hd : 2 ≤ d) (hG : g_G M) (q1 : 0 ≤ e.toInt) (q2 : e.toInt ≤ 39) (q3 : RS M t nn) (q4 : (M.2.1 77 10).toInt = a) (q5 : 0 ≤ nn) (q6 : nn ≤ 500) (q7 : TR M t nn) (q8 : W9 M) (q9 : PLk M sg) (q10 : x_kind t nn a = 2 ∨ x_kind t nn a = 3) (h : ∀ (r : Int32) (M1 : mm_M), g_G M1 → FR md_ho M M1 → (0 ≤ r.toInt) → (r.toInt ≤ 1) → (r.toInt = 1 → a < (M1.2.1 77 10).toInt) → ((r.toInt = 1 → RS M1 t nn)) → ((r.toInt = 1 → ∀ k : Int → x_WR, x_wnd t nn sg a k = k (M1.2.1 77 10).toInt)) → ((r.toInt = 0 → ∀ k : Int → x_WR, x_wnd t nn sg a k = Sum.inl ((M1.2.1 77 4).toInt, (M1.2.1 77 5).toInt))) → Q (some (.int r)) M1) : mm_T X d 211 0 [.ref 77, .int e, .null, .null] [] M Q := by
  have F0 : FR md_ho M M := FR.rf
  have b_1 := g_b hG (a := 77) (i := 10) (lo := 0) (hi := 500) rfl rfl
  have b_2 := g_b hG (a := 77) (i := 8) (lo := 0) (hi := 5) rfl rfl
  have z_3 := RS_k q3 (a := a) (by omega)
  have z_4 := q9.2.1
  have z_5 := q9.2.2.1
  have z_6 := q9.2.2.2.1
  have z_7 := q9.1
  have z_8 := z_7.1
  have z_9 := z_7.2.1
  have z_10 := z_7.2.2.1
  have z_11 := z_7.2.2.2.1
  have z_12 := z_7.2.2.2.2.1
  have z_13 := z_7.2.2.2.2.2.1
  have b_14 := g_b hG (a := 77) (i := 11) (lo := 10) (hi := 60) rfl rfl
  have b_15 := g_b hG (a := 77) (i := 12) (lo := 0) (hi := 8) rfl rfl
  have b_16 := g_b hG (a := 77) (i := 13) (lo := 0) (hi := 12) rfl rfl
  have b_17 := g_b hG (a := 77) (i := 6) (lo := 0) (hi := 500) rfl rfl
  have b_18 := g_b hG (a := 77) (i := 7) (lo := 0) (hi := 500) rfl rfl
  have z_19 := RS_b q3 (a := a) (by omega)
  refine to_an (pc := 0) rw_212_0 rfl ?_
  refine tt_gI (pc := 1) rw_212_1 (g_o hG rfl) (v := (M.2.1 77 8)) rfl ?_
  refine to_c (pc := 4) rw_212_4 (x := (3 : Int32)) rfl rfl ?_
  refine b_cne (pc := 5) rw_212_5 (A := (M.2.1 77 8).toInt) (B := 3) rfl rfl (fun h20 => ?_) (fun h20 => ?_)
  · have z_21 := RS_2 q3 (a := a) (by omega) (by omega)
    refine to_an (pc := 45) rw_212_45 rfl ?_
    refine to_an (pc := 46) rw_212_46 rfl ?_
    refine tt_gI (pc := 47) rw_212_47 (g_o hG rfl) (v := (M.2.1 77 9)) rfl ?_
    refine s_v (pc := 50) rw_212_50 (dp0 hd (by decide)) (ls0 := [.ref 77, .int (M.2.1 77 9), .null]) rfl (Nat.le_of_ble_eq_true rfl) (Nat.le_of_ble_eq_true rfl) rfl (to_rc rfl rfl rfl (g_o hG rfl)) rfl ?_
    refine E_175 hX (dp1 hd (by decide)) hG q9 (n := (M.2.1 77 9)) (sg := sg) (fun r22 M28 hG24 F23 p_25 p_26 p_27 => ?_)
    have F29 := FR.c F0 F23 tg_139
    have z_30 := x_fn_v (s := sg) (r := 1) (v := (M.2.1 77 9).toInt) (w := x_val t nn a) (by omega)
    have j_31 := (PLk_f (tg_101 F23) q9)
    have z_32 := x_fn_b (s := sg) (v := x_val t nn a) j_31.1
    refine to_isn (pc := 53) rw_212_53 (ls2 := [.ref 77, .int e, .int r22, .null]) rfl rfl ?_
    refine to_an (pc := 54) rw_212_54 rfl ?_
    refine to_an (pc := 55) rw_212_55 rfl ?_
    have c_33 : M28.2.1 77 9 = (M.2.1 77 9) := (F_n F23 (show ¬ (77 < 0) by decide) rfl)
    refine tt_gI (pc := 56) rw_212_56 (g_o hG24 rfl) (v := (M.2.1 77 9)) c_33 ?_
    refine s_v (pc := 59) rw_212_59 (dp0 hd (by decide)) (ls0 := [.ref 77, .int (M.2.1 77 9), .null]) rfl (Nat.le_of_ble_eq_true rfl) (Nat.le_of_ble_eq_true rfl) rfl (to_rc rfl rfl rfl (g_o hG24 rfl)) rfl ?_
    refine E_176 hX (dp1 hd (by decide)) hG24 j_31 (n := (M.2.1 77 9)) (sg := sg) (fun r34 M40 hG36 F35 p_37 p_38 p_39 => ?_)
    have F41 := FR.c F29 F35 tg_139
    have z_42 := x_fn_v (s := sg) (r := 6) (v := (M.2.1 77 9).toInt) (w := x_val t nn a) (by omega)
    refine to_isn (pc := 62) rw_212_62 (ls2 := [.ref 77, .int e, .int r22, .int r34]) rfl rfl ?_
    refine to_in (pc := 63) rw_212_63 rfl ?_
    refine b_ige (pc := 64) rw_212_64 (A := r22.toInt) rfl (fun h43 => ?_) (fun h43 => ?_)
    · refine to_an (pc := 77) rw_212_77 rfl ?_
      refine s_v (pc := 78) rw_212_78 (dp0 hd (by decide)) (ls0 := [.ref 77]) rfl (Nat.le_of_ble_eq_true rfl) (Nat.le_of_ble_eq_true rfl) rfl (to_rc rfl rfl rfl (g_o hG36 rfl)) rfl ?_
      have c_44 : M40.2.1 77 7 = (M.2.1 77 7) := (F_n F35 (show ¬ (77 < 0) by decide) (F_n F23 (show ¬ (77 < 0) by decide) rfl))
      have t_45 : (M40.2.1 77 7).toInt = (M.2.1 77 7).toInt := congrArg Int32.toInt c_44
      have c_46 : M40.2.1 77 6 = (M.2.1 77 6) := (F_n F35 (show ¬ (77 < 0) by decide) (F_n F23 (show ¬ (77 < 0) by decide) rfl))
      have t_47 : (M40.2.1 77 6).toInt = (M.2.1 77 6).toInt := congrArg Int32.toInt c_46
      have c_48 : M40.2.1 77 10 = (M.2.1 77 10) := (F_n F35 (show ¬ (77 < 0) by decide) (F_n F23 (show ¬ (77 < 0) by decide) rfl))
      have t_49 : (M40.2.1 77 10).toInt = (M.2.1 77 10).toInt := congrArg Int32.toInt c_48
      have j_50 := (RS_f (tg_45 F35) (RS_f (tg_45 F23) q3))
      have z_51 := RS_b j_50 (a := a) (by omega)
      have j_52 := (TR_f (tg_9 F35) (TR_f (tg_9 F23) q7))
      have j_53 := (W9_f (tg_46 F35) (W9_f (tg_46 F23) q8))
      refine E_156 hX (dp1 hd (by decide)) hG36 (by omega) (by omega) (by omega) (by omega) j_52 j_53  (fun M60 hG55 F54 p_56 p_57 p_58 p_59 => ?_)
      have F61 := FR.c F41 F54 tg_140
      have b_62 := g_b hG55 (a := 77) (i := 7) (lo := 0) (hi := 500) rfl rfl
      have c_63 : M60.2.1 77 6 = (M.2.1 77 6) := (F_n F54 (show ¬ (77 = 77 ∧ 7 ≤ 6 ∧ 6 ≤ 10) by decide) c_46)
      have t_64 : (M60.2.1 77 6).toInt = (M.2.1 77 6).toInt := congrArg Int32.toInt c_63
      have b_65 := g_b hG55 (a := 77) (i := 8) (lo := 0) (hi := 5) rfl rfl
      have b_66 := g_b hG55 (a := 77) (i := 10) (lo := 0) (hi := 500) rfl rfl
      have z_67 := RS_s p_59.2 (a := a) (by omega)
      have z_68 := RS_k p_59.1 (a := (x_ns t nn a)) (by omega)
      refine to_in (pc := 81) rw_212_81 rfl ?_
      refine b_ilt (pc := 82) rw_212_82 (A := r34.toInt) rfl (fun h69 => ?_) (fun h69 => ?_)
      · refine to_an (pc := 99) rw_212_99 rfl ?_
        refine to_c (pc := 100) rw_212_100 (x := (0 : Int32)) rfl rfl ?_
        refine to_an (pc := 101) rw_212_101 rfl ?_
        refine s_gR (pc := 102) rw_212_102 hG55 rfl (v := 83) rfl ?_
        refine to_in (pc := 105) rw_212_105 rfl ?_
        refine s_ial (pc := 106) rw_212_106 hG55 rfl (n := 16) rfl rfl (A := r22.toInt) rfl (by omega) (by omega) (lo := 0) (hi := 63) rfl rfl (fun v70 w_71 _ _ => ?_)
        have j_72 := (PLk_f (tg_138 F54) (PLk_f (tg_101 F35) j_31))
        have z_73 := PLk_r j_72 4 83 rfl (by decide) (by decide) (k := r22.toInt) (by omega) (by omega) w_71
        have z_74 := x_row_v (s := sg) (r := 4) (x := r22.toInt) (y := x_fn sg 1 (x_val t nn a)) (by omega)
        have z_75 := j_72.1.2.2.2.2.2.2.2 (x_fn sg 1 (x_val t nn a)) (by omega) (by omega)
        refine to_an (pc := 107) rw_212_107 rfl ?_
        refine s_gR (pc := 108) rw_212_108 hG55 rfl (v := 82) rfl ?_
        refine to_in (pc := 111) rw_212_111 rfl ?_
        refine s_ial (pc := 112) rw_212_112 hG55 rfl (n := 16) rfl rfl (A := r22.toInt) rfl (by omega) (by omega) (lo := 0) (hi := 59) rfl rfl (fun v76 w_77 _ _ => ?_)
        have z_78 := PLk_r j_72 3 82 rfl (by decide) (by decide) (k := r22.toInt) (by omega) (by omega) w_77
        have z_79 := x_row_v (s := sg) (r := 3) (x := r22.toInt) (y := x_fn sg 1 (x_val t nn a)) (by omega)
        refine s_sub (pc := 113) rw_212_113 (A := v70.toInt) (B := v76.toInt) rfl rfl (by omega) (fun v80 e81 => ?_)
        refine s_v (pc := 114) rw_212_114 (dp0 hd (by decide)) (ls0 := [.ref 77, .int (0 : Int32), .int v80]) rfl (Nat.le_of_ble_eq_true rfl) (Nat.le_of_ble_eq_true rfl) rfl (to_rc rfl rfl rfl (g_o hG55 rfl)) rfl ?_
        refine to_an (pc := 0) rw_162_0 rfl ?_
        refine tt_gI (pc := 1) rw_162_1 (g_o hG55 rfl) (v := (M60.2.1 77 8)) rfl ?_
        refine to_c (pc := 4) rw_162_4 (x := (3 : Int32)) rfl rfl ?_
        refine b_ceq (pc := 5) rw_162_5 (A := (M60.2.1 77 8).toInt) (B := 3) rfl rfl (fun h82 => ?_) (fun h82 => ?_)
        · refine to_an (pc := 14) rw_162_14 rfl ?_
          refine tt_gI (pc := 15) rw_162_15 (g_o hG55 rfl) (v := (M60.2.1 77 9)) rfl ?_
          refine to_in (pc := 18) rw_162_18 rfl ?_
          refine b_clt (pc := 19) rw_162_19 (A := (M60.2.1 77 9).toInt) (B := 0) rfl rfl (fun h83 => ?_) (fun h83 => ?_)
          · refine to_an (pc := 30) rw_162_30 rfl ?_
            refine to_c (pc := 31) rw_162_31 (x := (2 : Int32)) rfl rfl ?_
            refine s_v (pc := 32) rw_162_32 (dp1 hd (by decide)) (ls0 := [.ref 77, .int (2 : Int32)]) rfl (Nat.le_of_ble_eq_true rfl) (Nat.le_of_ble_eq_true rfl) rfl (to_rc rfl rfl rfl (g_o hG55 rfl)) rfl ?_
            refine to_an (pc := 0) rw_152_0 rfl ?_
            refine to_in (pc := 1) rw_152_1 rfl ?_
            refine s_pI (pc := 2) rw_152_2 hG55 rfl (fun M85 W84 => ?_)
            have hG86 := g_wf hG55 W84 rfl rfl (by decide)
            have F87 := FR.w F61 W84 (show 77 = 77 ∧ (4 = 4 ∨ 4 = 5 ∨ 7 ≤ 4 ∧ 4 ≤ 10) ∨ 77 = 106 ∨ 77 = 107 by decide)
            refine to_an (pc := 5) rw_152_5 rfl ?_
            refine to_an (pc := 6) rw_152_6 rfl ?_
            have c_88 : M85.2.1 77 10 = (M60.2.1 77 10) := (W_n W84 (by decide) rfl)
            refine tt_gI (pc := 7) rw_152_7 (g_o hG86 rfl) (v := (M60.2.1 77 10)) c_88 ?_
            refine s_pI (pc := 10) rw_152_10 hG86 rfl (fun M90 W89 => ?_)
            have hG91 := g_wf hG86 W89 rfl rfl (by decide)
            have F92 := FR.w F87 W89 (show 77 = 77 ∧ (5 = 4 ∨ 5 = 5 ∨ 7 ≤ 5 ∧ 5 ≤ 10) ∨ 77 = 106 ∨ 77 = 107 by decide)
            refine to_c (pc := 13) rw_152_13 (x := (0 : Int32)) rfl rfl ?_
            refine s_r1 (pc := 14) rw_152_14 (A := 0) rfl (by decide) ?_
            refine b_ieq_t (pc := 35) rw_162_35 (A := 0) rfl (by decide) ?_
            refine to_c (pc := 42) rw_162_42 (x := (0 : Int32)) rfl rfl ?_
            refine s_r1 (pc := 43) rw_162_43 (A := 0) rfl (by decide) ?_
            refine b_ine_f (pc := 117) rw_212_117 (A := 0) rfl (by decide) ?_
            have c_93 : M90.2.1 77 4 = (2 : Int32) := (W_n W89 (by decide) (W_e W84))
            have c_94 : M90.2.1 77 8 = (M60.2.1 77 8) := (W_n W89 (by decide) (W_n W84 (by decide) rfl))
            have t_95 : (M90.2.1 77 8).toInt = (M60.2.1 77 8).toInt := congrArg Int32.toInt c_94
            have c_96 : M90.2.1 77 9 = (M60.2.1 77 9) := (W_n W89 (by decide) (W_n W84 (by decide) rfl))
            have t_97 : (M90.2.1 77 9).toInt = (M60.2.1 77 9).toInt := congrArg Int32.toInt c_96
            have c_98 : M90.2.1 77 10 = (M60.2.1 77 10) := (W_n W89 (by decide) c_88)
            have t_99 : (M90.2.1 77 10).toInt = (M60.2.1 77 10).toInt := congrArg Int32.toInt c_98
            have j_100 := (RS_f (fun a i z => W_n W89 (tg_37 a i z) rfl) (RS_f (fun a i z => W_n W84 (tg_38 a i z) rfl) p_59.1))
            have z_101 := RS_3x j_100 (a := (x_ns t nn a)) (m := x_row sg 4 (x_fn sg 1 (x_val t nn a)) - x_row sg 3 (x_fn sg 1 (x_val t nn a))) (by omega) (by omega) (by omega) (by omega)
            refine to_c (pc := 120) rw_212_120 (x := (0 : Int32)) rfl rfl ?_
            refine s_r1 (pc := 121) rw_212_121 (A := 0) rfl (by decide) ?_
            have k_102 : (0 : Int32).toInt = 0 := rfl
            have k_103 : (2 : Int32).toInt = 2 := rfl
            have t_104 : (M90.2.1 77 4).toInt = (2 : Int32).toInt := congrArg Int32.toInt c_93
            have c_105 : M90.2.1 77 5 = (M60.2.1 77 10) := (W_e W89)
            have t_106 : (M90.2.1 77 5).toInt = (M60.2.1 77 10).toInt := congrArg Int32.toInt c_105
            exact h (0 : Int32) M90 hG91 F92 (by decide) (by decide) (by omega) (fun z => by exfalso; omega) (fun z => absurd z (by decide)) (fun _ k9 => winl (by omega) (by omega) ((p_ndf (by omega) (by omega) (by omega)).trans (p_nb2 (by omega) (by omega))))
          · refine to_an (pc := 22) rw_162_22 rfl ?_
            refine tt_gI (pc := 23) rw_162_23 (g_o hG55 rfl) (v := (M60.2.1 77 9)) rfl ?_
            refine to_in (pc := 26) rw_162_26 rfl ?_
            refine b_cle (pc := 27) rw_162_27 (A := (M60.2.1 77 9).toInt) (B := v80.toInt) rfl rfl (fun h107 => ?_) (fun h107 => ?_)
            · refine to_c (pc := 38) rw_162_38 (x := (1 : Int32)) rfl rfl ?_
              refine to_go (pc := 39) rw_162_39 ?_
              refine s_r1 (pc := 43) rw_162_43 (A := 1) rfl (by decide) ?_
              refine b_ine_t (pc := 117) rw_212_117 (A := 1) rfl (by decide) ?_
              have z_108 := RS_3 p_59.1 (a := (x_ns t nn a)) (by omega) (by omega) (by omega)
              refine to_an (pc := 122) rw_212_122 rfl ?_
              refine s_gR (pc := 123) rw_212_123 hG55 rfl (v := 106) rfl ?_
              refine to_in (pc := 126) rw_212_126 rfl ?_
              refine to_dup2 (pc := 127) rw_212_127 ?_
              refine s_lalE (pc := 128) rw_212_128 hG55 rfl (n := 40) rfl (A := e.toInt) rfl (by omega) (by omega) (fun l109 w_110 => ?_)
              refine to_cl (pc := 129) rw_212_129 rfl (x := (1 : Int64)) rfl ?_
              refine to_an (pc := 130) rw_212_130 rfl ?_
              refine s_gR (pc := 131) rw_212_131 hG55 rfl (v := 82) rfl ?_
              refine to_in (pc := 134) rw_212_134 rfl ?_
              refine s_ialk (pc := 135) rw_212_135 hG55 rfl (n := 16) rfl rfl (A := r22.toInt) rfl (by omega) (by omega) (v := v76) w_77 ?_
              refine to_an (pc := 136) rw_212_136 rfl ?_
              refine tt_gI (pc := 137) rw_212_137 (g_o hG55 rfl) (v := (M60.2.1 77 9)) rfl ?_
              refine s_add (pc := 140) rw_212_140 (A := v76.toInt) (B := (M60.2.1 77 9).toInt) rfl rfl (by omega) (fun v113 e114 => ?_)
              refine to_2s (pc := 141) rw_212_141 (v := ((1 : Int64) <<< (v113.toInt64 &&& 63))) rfl ?_
              refine to_2l (pc := 142) rw_212_142 (v := (l109 ||| ((1 : Int64) <<< (v113.toInt64 &&& 63)))) rfl ?_
              refine s_las (pc := 143) rw_212_143 hG55 rfl (n := 40) rfl (A := e.toInt) rfl (by omega) (by omega) (fun M116 W115 => ?_)
              have hG117 := g_wl hG55 W115
              have F118 := FR.wl F61 W115 (show 106 = 77 ∧ ((e.toInt).toNat = 4 ∨ (e.toInt).toNat = 5 ∨ 7 ≤ (e.toInt).toNat ∧ (e.toInt).toNat ≤ 10) ∨ 106 = 106 ∨ 106 = 107 by omega)
              refine to_an (pc := 144) rw_212_144 rfl ?_
              refine s_v (pc := 145) rw_212_145 (dp0 hd (by decide)) (ls0 := [.ref 77]) rfl (Nat.le_of_ble_eq_true rfl) (Nat.le_of_ble_eq_true rfl) rfl (to_rc rfl rfl rfl (g_o hG117 rfl)) rfl ?_
              have c_119 : M116.2.1 77 7 = (M60.2.1 77 7) := (W_l W115 rfl)
              have t_120 : (M116.2.1 77 7).toInt = (M60.2.1 77 7).toInt := congrArg Int32.toInt c_119
              have c_121 : M116.2.1 77 6 = (M.2.1 77 6) := (W_l W115 c_63)
              have t_122 : (M116.2.1 77 6).toInt = (M.2.1 77 6).toInt := congrArg Int32.toInt c_121
              have c_123 : M116.2.1 77 10 = (M60.2.1 77 10) := (W_l W115 rfl)
              have t_124 : (M116.2.1 77 10).toInt = (M60.2.1 77 10).toInt := congrArg Int32.toInt c_123
              have j_125 := (RS_f (fun a i z => W_l W115 rfl) p_59.1)
              have z_126 := RS_b j_125 (a := (x_ns t nn a)) (by omega)
              have j_127 := (TR_f (fun a i z => W_l W115 rfl) (TR_f (tg_42 F54) j_52))
              have j_128 := (W9_f (fun a i z => W_l W115 rfl) (W9_f (tg_44 F54) j_53))
              refine E_156 hX (dp1 hd (by decide)) hG117 (by omega) (by omega) (by omega) (by omega) j_127 j_128  (fun M135 hG130 F129 p_131 p_132 p_133 p_134 => ?_)
              have F136 := FR.c F118 F129 tg_140
              have b_137 := g_b hG130 (a := 77) (i := 7) (lo := 0) (hi := 500) rfl rfl
              have c_138 : M135.2.1 77 6 = (M.2.1 77 6) := (F_n F129 (show ¬ (77 = 77 ∧ 7 ≤ 6 ∧ 6 ≤ 10) by decide) c_121)
              have t_139 : (M135.2.1 77 6).toInt = (M.2.1 77 6).toInt := congrArg Int32.toInt c_138
              have b_140 := g_b hG130 (a := 77) (i := 8) (lo := 0) (hi := 5) rfl rfl
              have b_141 := g_b hG130 (a := 77) (i := 10) (lo := 0) (hi := 500) rfl rfl
              have z_142 := RS_s p_134.2 (a := (x_ns t nn a)) (by omega)
              refine to_c (pc := 148) rw_212_148 (x := (1 : Int32)) rfl rfl ?_
              refine s_r1 (pc := 149) rw_212_149 (A := 1) rfl (by decide) ?_
              have k_143 : (1 : Int32).toInt = 1 := rfl
              have z_144 := x_ns_lt (t := t) (nn := nn) (a := a) (by omega) (x_lt_k (t := t) (by omega) (by omega))
              have z_145 := x_ns_b (t := t) (n := nn) (a := (x_ns t nn a)) (by omega) (by omega)
              exact h (1 : Int32) M135 hG130 F136 (by decide) (by decide) (by omega) (fun _ => p_134.1) (fun _ k9 => by rw [show (M135.2.1 77 10).toInt = (x_ns t nn (x_ns t nn a)) by omega]; exact (p_ndf (by omega) (by omega) (by omega)).trans (p_nb (by omega) (by omega))) (fun z => absurd z (by decide))
            · refine to_an (pc := 30) rw_162_30 rfl ?_
              refine to_c (pc := 31) rw_162_31 (x := (2 : Int32)) rfl rfl ?_
              refine s_v (pc := 32) rw_162_32 (dp1 hd (by decide)) (ls0 := [.ref 77, .int (2 : Int32)]) rfl (Nat.le_of_ble_eq_true rfl) (Nat.le_of_ble_eq_true rfl) rfl (to_rc rfl rfl rfl (g_o hG55 rfl)) rfl ?_
              refine to_an (pc := 0) rw_152_0 rfl ?_
              refine to_in (pc := 1) rw_152_1 rfl ?_
              refine s_pI (pc := 2) rw_152_2 hG55 rfl (fun M147 W146 => ?_)
              have hG148 := g_wf hG55 W146 rfl rfl (by decide)
              have F149 := FR.w F61 W146 (show 77 = 77 ∧ (4 = 4 ∨ 4 = 5 ∨ 7 ≤ 4 ∧ 4 ≤ 10) ∨ 77 = 106 ∨ 77 = 107 by decide)
              refine to_an (pc := 5) rw_152_5 rfl ?_
              refine to_an (pc := 6) rw_152_6 rfl ?_
              have c_150 : M147.2.1 77 10 = (M60.2.1 77 10) := (W_n W146 (by decide) rfl)
              refine tt_gI (pc := 7) rw_152_7 (g_o hG148 rfl) (v := (M60.2.1 77 10)) c_150 ?_
              refine s_pI (pc := 10) rw_152_10 hG148 rfl (fun M152 W151 => ?_)
              have hG153 := g_wf hG148 W151 rfl rfl (by decide)
              have F154 := FR.w F149 W151 (show 77 = 77 ∧ (5 = 4 ∨ 5 = 5 ∨ 7 ≤ 5 ∧ 5 ≤ 10) ∨ 77 = 106 ∨ 77 = 107 by decide)
              refine to_c (pc := 13) rw_152_13 (x := (0 : Int32)) rfl rfl ?_
              refine s_r1 (pc := 14) rw_152_14 (A := 0) rfl (by decide) ?_
              refine b_ieq_t (pc := 35) rw_162_35 (A := 0) rfl (by decide) ?_
              refine to_c (pc := 42) rw_162_42 (x := (0 : Int32)) rfl rfl ?_
              refine s_r1 (pc := 43) rw_162_43 (A := 0) rfl (by decide) ?_
              refine b_ine_f (pc := 117) rw_212_117 (A := 0) rfl (by decide) ?_
              have c_155 : M152.2.1 77 4 = (2 : Int32) := (W_n W151 (by decide) (W_e W146))
              have c_156 : M152.2.1 77 8 = (M60.2.1 77 8) := (W_n W151 (by decide) (W_n W146 (by decide) rfl))
              have t_157 : (M152.2.1 77 8).toInt = (M60.2.1 77 8).toInt := congrArg Int32.toInt c_156
              have c_158 : M152.2.1 77 9 = (M60.2.1 77 9) := (W_n W151 (by decide) (W_n W146 (by decide) rfl))
              have t_159 : (M152.2.1 77 9).toInt = (M60.2.1 77 9).toInt := congrArg Int32.toInt c_158
              have c_160 : M152.2.1 77 10 = (M60.2.1 77 10) := (W_n W151 (by decide) c_150)
              have t_161 : (M152.2.1 77 10).toInt = (M60.2.1 77 10).toInt := congrArg Int32.toInt c_160
              have j_162 := (RS_f (fun a i z => W_n W151 (tg_37 a i z) rfl) (RS_f (fun a i z => W_n W146 (tg_38 a i z) rfl) p_59.1))
              have z_163 := RS_3x j_162 (a := (x_ns t nn a)) (m := x_row sg 4 (x_fn sg 1 (x_val t nn a)) - x_row sg 3 (x_fn sg 1 (x_val t nn a))) (by omega) (by omega) (by omega) (by omega)
              refine to_c (pc := 120) rw_212_120 (x := (0 : Int32)) rfl rfl ?_
              refine s_r1 (pc := 121) rw_212_121 (A := 0) rfl (by decide) ?_
              have k_164 : (0 : Int32).toInt = 0 := rfl
              have k_165 : (2 : Int32).toInt = 2 := rfl
              have t_166 : (M152.2.1 77 4).toInt = (2 : Int32).toInt := congrArg Int32.toInt c_155
              have c_167 : M152.2.1 77 5 = (M60.2.1 77 10) := (W_e W151)
              have t_168 : (M152.2.1 77 5).toInt = (M60.2.1 77 10).toInt := congrArg Int32.toInt c_167
              exact h (0 : Int32) M152 hG153 F154 (by decide) (by decide) (by omega) (fun z => by exfalso; omega) (fun z => absurd z (by decide)) (fun _ k9 => winl (by omega) (by omega) ((p_ndf (by omega) (by omega) (by omega)).trans (p_nb2 (by omega) (by omega))))
        · refine to_an (pc := 8) rw_162_8 rfl ?_
          refine to_c (pc := 9) rw_162_9 (x := (1 : Int32)) rfl rfl ?_
          refine s_v (pc := 10) rw_162_10 (dp1 hd (by decide)) (ls0 := [.ref 77, .int (1 : Int32)]) rfl (Nat.le_of_ble_eq_true rfl) (Nat.le_of_ble_eq_true rfl) rfl (to_rc rfl rfl rfl (g_o hG55 rfl)) rfl ?_
          refine to_an (pc := 0) rw_152_0 rfl ?_
          refine to_in (pc := 1) rw_152_1 rfl ?_
          refine s_pI (pc := 2) rw_152_2 hG55 rfl (fun M170 W169 => ?_)
          have hG171 := g_wf hG55 W169 rfl rfl (by decide)
          have F172 := FR.w F61 W169 (show 77 = 77 ∧ (4 = 4 ∨ 4 = 5 ∨ 7 ≤ 4 ∧ 4 ≤ 10) ∨ 77 = 106 ∨ 77 = 107 by decide)
          refine to_an (pc := 5) rw_152_5 rfl ?_
          refine to_an (pc := 6) rw_152_6 rfl ?_
          have c_173 : M170.2.1 77 10 = (M60.2.1 77 10) := (W_n W169 (by decide) rfl)
          refine tt_gI (pc := 7) rw_152_7 (g_o hG171 rfl) (v := (M60.2.1 77 10)) c_173 ?_
          refine s_pI (pc := 10) rw_152_10 hG171 rfl (fun M175 W174 => ?_)
          have hG176 := g_wf hG171 W174 rfl rfl (by decide)
          have F177 := FR.w F172 W174 (show 77 = 77 ∧ (5 = 4 ∨ 5 = 5 ∨ 7 ≤ 5 ∧ 5 ≤ 10) ∨ 77 = 106 ∨ 77 = 107 by decide)
          refine to_c (pc := 13) rw_152_13 (x := (0 : Int32)) rfl rfl ?_
          refine s_r1 (pc := 14) rw_152_14 (A := 0) rfl (by decide) ?_
          refine s_r1 (pc := 13) rw_162_13 (A := 0) rfl (by decide) ?_
          refine b_ine_f (pc := 117) rw_212_117 (A := 0) rfl (by decide) ?_
          have c_178 : M175.2.1 77 4 = (1 : Int32) := (W_n W174 (by decide) (W_e W169))
          refine to_c (pc := 120) rw_212_120 (x := (0 : Int32)) rfl rfl ?_
          refine s_r1 (pc := 121) rw_212_121 (A := 0) rfl (by decide) ?_
          have k_179 : (0 : Int32).toInt = 0 := rfl
          have c_180 : M175.2.1 77 10 = (M60.2.1 77 10) := (W_n W174 (by decide) c_173)
          have t_181 : (M175.2.1 77 10).toInt = (M60.2.1 77 10).toInt := congrArg Int32.toInt c_180
          have k_182 : (1 : Int32).toInt = 1 := rfl
          have t_183 : (M175.2.1 77 4).toInt = (1 : Int32).toInt := congrArg Int32.toInt c_178
          have c_184 : M175.2.1 77 5 = (M60.2.1 77 10) := (W_e W174)
          have t_185 : (M175.2.1 77 5).toInt = (M60.2.1 77 10).toInt := congrArg Int32.toInt c_184
          exact h (0 : Int32) M175 hG176 F177 (by decide) (by decide) (by omega) (fun z => by exfalso; omega) (fun z => absurd z (by decide)) (fun _ k9 => winl (by omega) (by omega) ((p_ndf (by omega) (by omega) (by omega)).trans (p_nb1 (by omega))))
      · refine to_an (pc := 85) rw_212_85 rfl ?_
        refine s_gR (pc := 86) rw_212_86 hG55 rfl (v := 107) rfl ?_
        refine to_in (pc := 89) rw_212_89 rfl ?_
        refine to_dup2 (pc := 90) rw_212_90 ?_
        refine s_ial (pc := 91) rw_212_91 hG55 rfl (n := 40) rfl rfl (A := e.toInt) rfl (by omega) (by omega) (lo := -2147483648) (hi := 2147483647) rfl rfl (fun v186 w_187 _ _ => ?_)
        refine to_c (pc := 92) rw_212_92 (x := (1 : Int32)) rfl rfl ?_
        refine to_in (pc := 93) rw_212_93 rfl ?_
        refine s_opE (pc := 94) rw_212_94 (w := (1 : Int32) <<< r34) rfl (fun v188 e189 => ?_)
        refine s_opE (pc := 95) rw_212_95 (w := v186 ||| v188) rfl (fun v190 e191 => ?_)
        refine s_ias (pc := 96) rw_212_96 hG55 rfl (n := 40) rfl (A := e.toInt) rfl (by omega) (by omega) (fun M193 W192 => ?_)
        have hG194 := g_wf hG55 W192 rfl rfl (by decide)
        have F195 := FR.w F61 W192 (show 107 = 77 ∧ ((e.toInt).toNat = 4 ∨ (e.toInt).toNat = 5 ∨ 7 ≤ (e.toInt).toNat ∧ (e.toInt).toNat ≤ 10) ∨ 107 = 106 ∨ 107 = 107 by omega)
        refine to_c (pc := 97) rw_212_97 (x := (1 : Int32)) rfl rfl ?_
        refine s_r1 (pc := 98) rw_212_98 (A := 1) rfl (by decide) ?_
        have k_196 : (1 : Int32).toInt = 1 := rfl
        have c_197 : M193.2.1 77 10 = (M60.2.1 77 10) := (W_n W192 (fun z => absurd z.1 (by decide)) rfl)
        have t_198 : (M193.2.1 77 10).toInt = (M60.2.1 77 10).toInt := congrArg Int32.toInt c_197
        have z_199 := x_ns_lt (t := t) (nn := nn) (a := a) (by omega) (x_lt_k (t := t) (by omega) (by omega))
        have j_200 := (RS_f (fun a i z => W_n W192 (tg_141 a i _ z) rfl) p_59.1)
        exact h (1 : Int32) M193 hG194 F195 (by decide) (by decide) (by omega) (fun _ => j_200) (fun _ k9 => by rw [show (M193.2.1 77 10).toInt = (x_ns t nn a) by omega]; exact p_ndw (by omega) (by omega)) (fun z => absurd z (by decide))
    · refine to_in (pc := 67) rw_212_67 rfl ?_
      refine b_ige (pc := 68) rw_212_68 (A := r34.toInt) rfl (fun h201 => ?_) (fun h201 => ?_)
      · refine to_an (pc := 77) rw_212_77 rfl ?_
        refine s_v (pc := 78) rw_212_78 (dp0 hd (by decide)) (ls0 := [.ref 77]) rfl (Nat.le_of_ble_eq_true rfl) (Nat.le_of_ble_eq_true rfl) rfl (to_rc rfl rfl rfl (g_o hG36 rfl)) rfl ?_
        have c_202 : M40.2.1 77 7 = (M.2.1 77 7) := (F_n F35 (show ¬ (77 < 0) by decide) (F_n F23 (show ¬ (77 < 0) by decide) rfl))
        have t_203 : (M40.2.1 77 7).toInt = (M.2.1 77 7).toInt := congrArg Int32.toInt c_202
        have c_204 : M40.2.1 77 6 = (M.2.1 77 6) := (F_n F35 (show ¬ (77 < 0) by decide) (F_n F23 (show ¬ (77 < 0) by decide) rfl))
        have t_205 : (M40.2.1 77 6).toInt = (M.2.1 77 6).toInt := congrArg Int32.toInt c_204
        have c_206 : M40.2.1 77 10 = (M.2.1 77 10) := (F_n F35 (show ¬ (77 < 0) by decide) (F_n F23 (show ¬ (77 < 0) by decide) rfl))
        have t_207 : (M40.2.1 77 10).toInt = (M.2.1 77 10).toInt := congrArg Int32.toInt c_206
        have j_208 := (RS_f (tg_45 F35) (RS_f (tg_45 F23) q3))
        have z_209 := RS_b j_208 (a := a) (by omega)
        have j_210 := (TR_f (tg_9 F35) (TR_f (tg_9 F23) q7))
        have j_211 := (W9_f (tg_46 F35) (W9_f (tg_46 F23) q8))
        refine E_156 hX (dp1 hd (by decide)) hG36 (by omega) (by omega) (by omega) (by omega) j_210 j_211  (fun M218 hG213 F212 p_214 p_215 p_216 p_217 => ?_)
        have F219 := FR.c F41 F212 tg_140
        have b_220 := g_b hG213 (a := 77) (i := 7) (lo := 0) (hi := 500) rfl rfl
        have c_221 : M218.2.1 77 6 = (M.2.1 77 6) := (F_n F212 (show ¬ (77 = 77 ∧ 7 ≤ 6 ∧ 6 ≤ 10) by decide) c_204)
        have t_222 : (M218.2.1 77 6).toInt = (M.2.1 77 6).toInt := congrArg Int32.toInt c_221
        have b_223 := g_b hG213 (a := 77) (i := 8) (lo := 0) (hi := 5) rfl rfl
        have b_224 := g_b hG213 (a := 77) (i := 10) (lo := 0) (hi := 500) rfl rfl
        have z_225 := RS_s p_217.2 (a := a) (by omega)
        have z_226 := RS_k p_217.1 (a := (x_ns t nn a)) (by omega)
        refine to_in (pc := 81) rw_212_81 rfl ?_
        refine b_ilt_f (pc := 82) rw_212_82 (A := r34.toInt) rfl (by omega) ?_
        refine to_an (pc := 85) rw_212_85 rfl ?_
        refine s_gR (pc := 86) rw_212_86 hG213 rfl (v := 107) rfl ?_
        refine to_in (pc := 89) rw_212_89 rfl ?_
        refine to_dup2 (pc := 90) rw_212_90 ?_
        refine s_ial (pc := 91) rw_212_91 hG213 rfl (n := 40) rfl rfl (A := e.toInt) rfl (by omega) (by omega) (lo := -2147483648) (hi := 2147483647) rfl rfl (fun v227 w_228 _ _ => ?_)
        refine to_c (pc := 92) rw_212_92 (x := (1 : Int32)) rfl rfl ?_
        refine to_in (pc := 93) rw_212_93 rfl ?_
        refine s_opE (pc := 94) rw_212_94 (w := (1 : Int32) <<< r34) rfl (fun v229 e230 => ?_)
        refine s_opE (pc := 95) rw_212_95 (w := v227 ||| v229) rfl (fun v231 e232 => ?_)
        refine s_ias (pc := 96) rw_212_96 hG213 rfl (n := 40) rfl (A := e.toInt) rfl (by omega) (by omega) (fun M234 W233 => ?_)
        have hG235 := g_wf hG213 W233 rfl rfl (by decide)
        have F236 := FR.w F219 W233 (show 107 = 77 ∧ ((e.toInt).toNat = 4 ∨ (e.toInt).toNat = 5 ∨ 7 ≤ (e.toInt).toNat ∧ (e.toInt).toNat ≤ 10) ∨ 107 = 106 ∨ 107 = 107 by omega)
        refine to_c (pc := 97) rw_212_97 (x := (1 : Int32)) rfl rfl ?_
        refine s_r1 (pc := 98) rw_212_98 (A := 1) rfl (by decide) ?_
        have k_237 : (1 : Int32).toInt = 1 := rfl
        have c_238 : M234.2.1 77 10 = (M218.2.1 77 10) := (W_n W233 (fun z => absurd z.1 (by decide)) rfl)
        have t_239 : (M234.2.1 77 10).toInt = (M218.2.1 77 10).toInt := congrArg Int32.toInt c_238
        have z_240 := x_ns_lt (t := t) (nn := nn) (a := a) (by omega) (x_lt_k (t := t) (by omega) (by omega))
        have j_241 := (RS_f (fun a i z => W_n W233 (tg_141 a i _ z) rfl) p_217.1)
        exact h (1 : Int32) M234 hG235 F236 (by decide) (by decide) (by omega) (fun _ => j_241) (fun _ k9 => by rw [show (M234.2.1 77 10).toInt = (x_ns t nn a) by omega]; exact p_ndw (by omega) (by omega)) (fun z => absurd z (by decide))
      · refine to_an (pc := 71) rw_212_71 rfl ?_
        refine to_c (pc := 72) rw_212_72 (x := (4 : Int32)) rfl rfl ?_
        refine s_v (pc := 73) rw_212_73 (dp0 hd (by decide)) (ls0 := [.ref 77, .int (4 : Int32)]) rfl (Nat.le_of_ble_eq_true rfl) (Nat.le_of_ble_eq_true rfl) rfl (to_rc rfl rfl rfl (g_o hG36 rfl)) rfl ?_
        refine to_an (pc := 0) rw_152_0 rfl ?_
        refine to_in (pc := 1) rw_152_1 rfl ?_
        refine s_pI (pc := 2) rw_152_2 hG36 rfl (fun M243 W242 => ?_)
        have hG244 := g_wf hG36 W242 rfl rfl (by decide)
        have F245 := FR.w F41 W242 (show 77 = 77 ∧ (4 = 4 ∨ 4 = 5 ∨ 7 ≤ 4 ∧ 4 ≤ 10) ∨ 77 = 106 ∨ 77 = 107 by decide)
        refine to_an (pc := 5) rw_152_5 rfl ?_
        refine to_an (pc := 6) rw_152_6 rfl ?_
        have c_246 : M243.2.1 77 10 = (M.2.1 77 10) := (W_n W242 (by decide) (F_n F35 (show ¬ (77 < 0) by decide) (F_n F23 (show ¬ (77 < 0) by decide) rfl)))
        refine tt_gI (pc := 7) rw_152_7 (g_o hG244 rfl) (v := (M.2.1 77 10)) c_246 ?_
        refine s_pI (pc := 10) rw_152_10 hG244 rfl (fun M248 W247 => ?_)
        have hG249 := g_wf hG244 W247 rfl rfl (by decide)
        have F250 := FR.w F245 W247 (show 77 = 77 ∧ (5 = 4 ∨ 5 = 5 ∨ 7 ≤ 5 ∧ 5 ≤ 10) ∨ 77 = 106 ∨ 77 = 107 by decide)
        refine to_c (pc := 13) rw_152_13 (x := (0 : Int32)) rfl rfl ?_
        refine s_r1 (pc := 14) rw_152_14 (A := 0) rfl (by decide) ?_
        refine s_r1 (pc := 76) rw_212_76 (A := 0) rfl (by decide) ?_
        have k_251 : (0 : Int32).toInt = 0 := rfl
        have c_252 : M248.2.1 77 10 = (M.2.1 77 10) := (W_n W247 (by decide) c_246)
        have t_253 : (M248.2.1 77 10).toInt = (M.2.1 77 10).toInt := congrArg Int32.toInt c_252
        have c_254 : M248.2.1 77 4 = (4 : Int32) := (W_n W247 (by decide) (W_e W242))
        have k_255 : (4 : Int32).toInt = 4 := rfl
        have t_256 : (M248.2.1 77 4).toInt = (4 : Int32).toInt := congrArg Int32.toInt c_254
        have c_257 : M248.2.1 77 5 = (M.2.1 77 10) := (W_e W247)
        have t_258 : (M248.2.1 77 5).toInt = (M.2.1 77 10).toInt := congrArg Int32.toInt c_257
        exact h (0 : Int32) M248 hG249 F250 (by decide) (by decide) (by omega) (fun z => by exfalso; omega) (fun z => absurd z (by decide)) (fun _ k9 => winl (by omega) (by omega) (p_ndx (by omega) (by omega) (by omega)))
  · refine to_an (pc := 8) rw_212_8 rfl ?_
    refine to_c (pc := 9) rw_212_9 (x := (0 : Int32)) rfl rfl ?_
    refine to_an (pc := 10) rw_212_10 rfl ?_
    refine tt_gI (pc := 11) rw_212_11 (g_o hG rfl) (v := (M.2.1 77 11)) rfl ?_
    refine to_c (pc := 14) rw_212_14 (x := (1 : Int32)) rfl rfl ?_
    refine s_sub (pc := 15) rw_212_15 (A := (M.2.1 77 11).toInt) (B := 1) rfl rfl (by omega) (fun v259 e260 => ?_)
    refine s_v (pc := 16) rw_212_16 (dp0 hd (by decide)) (ls0 := [.ref 77, .int (0 : Int32), .int v259]) rfl (Nat.le_of_ble_eq_true rfl) (Nat.le_of_ble_eq_true rfl) rfl (to_rc rfl rfl rfl (g_o hG rfl)) rfl ?_
    refine to_an (pc := 0) rw_162_0 rfl ?_
    refine tt_gI (pc := 1) rw_162_1 (g_o hG rfl) (v := (M.2.1 77 8)) rfl ?_
    refine to_c (pc := 4) rw_162_4 (x := (3 : Int32)) rfl rfl ?_
    refine b_ceq_t (pc := 5) rw_162_5 (A := (M.2.1 77 8).toInt) (B := 3) rfl rfl (by omega) ?_
    refine to_an (pc := 14) rw_162_14 rfl ?_
    refine tt_gI (pc := 15) rw_162_15 (g_o hG rfl) (v := (M.2.1 77 9)) rfl ?_
    refine to_in (pc := 18) rw_162_18 rfl ?_
    refine b_clt (pc := 19) rw_162_19 (A := (M.2.1 77 9).toInt) (B := 0) rfl rfl (fun h261 => ?_) (fun h261 => ?_)
    · refine to_an (pc := 30) rw_162_30 rfl ?_
      refine to_c (pc := 31) rw_162_31 (x := (2 : Int32)) rfl rfl ?_
      refine s_v (pc := 32) rw_162_32 (dp1 hd (by decide)) (ls0 := [.ref 77, .int (2 : Int32)]) rfl (Nat.le_of_ble_eq_true rfl) (Nat.le_of_ble_eq_true rfl) rfl (to_rc rfl rfl rfl (g_o hG rfl)) rfl ?_
      refine to_an (pc := 0) rw_152_0 rfl ?_
      refine to_in (pc := 1) rw_152_1 rfl ?_
      refine s_pI (pc := 2) rw_152_2 hG rfl (fun M263 W262 => ?_)
      have hG264 := g_wf hG W262 rfl rfl (by decide)
      have F265 := FR.w F0 W262 (show 77 = 77 ∧ (4 = 4 ∨ 4 = 5 ∨ 7 ≤ 4 ∧ 4 ≤ 10) ∨ 77 = 106 ∨ 77 = 107 by decide)
      refine to_an (pc := 5) rw_152_5 rfl ?_
      refine to_an (pc := 6) rw_152_6 rfl ?_
      have c_266 : M263.2.1 77 10 = (M.2.1 77 10) := (W_n W262 (by decide) rfl)
      refine tt_gI (pc := 7) rw_152_7 (g_o hG264 rfl) (v := (M.2.1 77 10)) c_266 ?_
      refine s_pI (pc := 10) rw_152_10 hG264 rfl (fun M268 W267 => ?_)
      have hG269 := g_wf hG264 W267 rfl rfl (by decide)
      have F270 := FR.w F265 W267 (show 77 = 77 ∧ (5 = 4 ∨ 5 = 5 ∨ 7 ≤ 5 ∧ 5 ≤ 10) ∨ 77 = 106 ∨ 77 = 107 by decide)
      refine to_c (pc := 13) rw_152_13 (x := (0 : Int32)) rfl rfl ?_
      refine s_r1 (pc := 14) rw_152_14 (A := 0) rfl (by decide) ?_
      refine b_ieq_t (pc := 35) rw_162_35 (A := 0) rfl (by decide) ?_
      refine to_c (pc := 42) rw_162_42 (x := (0 : Int32)) rfl rfl ?_
      refine s_r1 (pc := 43) rw_162_43 (A := 0) rfl (by decide) ?_
      refine b_ine_f (pc := 19) rw_212_19 (A := 0) rfl (by decide) ?_
      have c_271 : M268.2.1 77 8 = (M.2.1 77 8) := (W_n W267 (by decide) (W_n W262 (by decide) rfl))
      have t_272 : (M268.2.1 77 8).toInt = (M.2.1 77 8).toInt := congrArg Int32.toInt c_271
      have c_273 : M268.2.1 77 9 = (M.2.1 77 9) := (W_n W267 (by decide) (W_n W262 (by decide) rfl))
      have t_274 : (M268.2.1 77 9).toInt = (M.2.1 77 9).toInt := congrArg Int32.toInt c_273
      have c_275 : M268.2.1 77 10 = (M.2.1 77 10) := (W_n W267 (by decide) c_266)
      have t_276 : (M268.2.1 77 10).toInt = (M.2.1 77 10).toInt := congrArg Int32.toInt c_275
      have j_277 := (RS_f (fun a i z => W_n W267 (tg_37 a i z) rfl) (RS_f (fun a i z => W_n W262 (tg_38 a i z) rfl) q3))
      have z_278 := RS_3x j_277 (a := a) (m := sg.1 - 1) (by omega) (by omega) (by omega) (by omega)
      refine to_c (pc := 22) rw_212_22 (x := (0 : Int32)) rfl rfl ?_
      refine s_r1 (pc := 23) rw_212_23 (A := 0) rfl (by decide) ?_
      have k_279 : (0 : Int32).toInt = 0 := rfl
      have c_280 : M268.2.1 77 4 = (2 : Int32) := (W_n W267 (by decide) (W_e W262))
      have k_281 : (2 : Int32).toInt = 2 := rfl
      have t_282 : (M268.2.1 77 4).toInt = (2 : Int32).toInt := congrArg Int32.toInt c_280
      have c_283 : M268.2.1 77 5 = (M.2.1 77 10) := (W_e W267)
      have t_284 : (M268.2.1 77 5).toInt = (M.2.1 77 10).toInt := congrArg Int32.toInt c_283
      exact h (0 : Int32) M268 hG269 F270 (by decide) (by decide) (by omega) (fun z => by exfalso; omega) (fun z => absurd z (by decide)) (fun _ k9 => winl (by omega) (by omega) ((p_ndn (by omega)).trans (p_nb2 (by omega) (by omega))))
    · refine to_an (pc := 22) rw_162_22 rfl ?_
      refine tt_gI (pc := 23) rw_162_23 (g_o hG rfl) (v := (M.2.1 77 9)) rfl ?_
      refine to_in (pc := 26) rw_162_26 rfl ?_
      refine b_cle (pc := 27) rw_162_27 (A := (M.2.1 77 9).toInt) (B := v259.toInt) rfl rfl (fun h285 => ?_) (fun h285 => ?_)
      · refine to_c (pc := 38) rw_162_38 (x := (1 : Int32)) rfl rfl ?_
        refine to_go (pc := 39) rw_162_39 ?_
        refine s_r1 (pc := 43) rw_162_43 (A := 1) rfl (by decide) ?_
        refine b_ine_t (pc := 19) rw_212_19 (A := 1) rfl (by decide) ?_
        have z_286 := RS_3 q3 (a := a) (by omega) (by omega) (by omega)
        refine to_an (pc := 24) rw_212_24 rfl ?_
        refine s_gR (pc := 25) rw_212_25 hG rfl (v := 106) rfl ?_
        refine to_in (pc := 28) rw_212_28 rfl ?_
        refine to_dup2 (pc := 29) rw_212_29 ?_
        refine s_lalE (pc := 30) rw_212_30 hG rfl (n := 40) rfl (A := e.toInt) rfl (by omega) (by omega) (fun l287 w_288 => ?_)
        refine to_cl (pc := 31) rw_212_31 rfl (x := (1 : Int64)) rfl ?_
        refine to_an (pc := 32) rw_212_32 rfl ?_
        refine tt_gI (pc := 33) rw_212_33 (g_o hG rfl) (v := (M.2.1 77 9)) rfl ?_
        refine to_2s (pc := 36) rw_212_36 (v := ((1 : Int64) <<< ((M.2.1 77 9).toInt64 &&& 63))) rfl ?_
        refine to_2l (pc := 37) rw_212_37 (v := (l287 ||| ((1 : Int64) <<< ((M.2.1 77 9).toInt64 &&& 63)))) rfl ?_
        refine s_las (pc := 38) rw_212_38 hG rfl (n := 40) rfl (A := e.toInt) rfl (by omega) (by omega) (fun M290 W289 => ?_)
        have hG291 := g_wl hG W289
        have F292 := FR.wl F0 W289 (show 106 = 77 ∧ ((e.toInt).toNat = 4 ∨ (e.toInt).toNat = 5 ∨ 7 ≤ (e.toInt).toNat ∧ (e.toInt).toNat ≤ 10) ∨ 106 = 106 ∨ 106 = 107 by omega)
        refine to_an (pc := 39) rw_212_39 rfl ?_
        refine s_v (pc := 40) rw_212_40 (dp0 hd (by decide)) (ls0 := [.ref 77]) rfl (Nat.le_of_ble_eq_true rfl) (Nat.le_of_ble_eq_true rfl) rfl (to_rc rfl rfl rfl (g_o hG291 rfl)) rfl ?_
        have c_293 : M290.2.1 77 7 = (M.2.1 77 7) := (W_l W289 rfl)
        have t_294 : (M290.2.1 77 7).toInt = (M.2.1 77 7).toInt := congrArg Int32.toInt c_293
        have c_295 : M290.2.1 77 6 = (M.2.1 77 6) := (W_l W289 rfl)
        have t_296 : (M290.2.1 77 6).toInt = (M.2.1 77 6).toInt := congrArg Int32.toInt c_295
        have c_297 : M290.2.1 77 10 = (M.2.1 77 10) := (W_l W289 rfl)
        have t_298 : (M290.2.1 77 10).toInt = (M.2.1 77 10).toInt := congrArg Int32.toInt c_297
        have j_299 := (RS_f (fun a i z => W_l W289 rfl) q3)
        have z_300 := RS_b j_299 (a := a) (by omega)
        have j_301 := (TR_f (fun a i z => W_l W289 rfl) q7)
        have j_302 := (W9_f (fun a i z => W_l W289 rfl) q8)
        refine E_156 hX (dp1 hd (by decide)) hG291 (by omega) (by omega) (by omega) (by omega) j_301 j_302  (fun M309 hG304 F303 p_305 p_306 p_307 p_308 => ?_)
        have F310 := FR.c F292 F303 tg_140
        have b_311 := g_b hG304 (a := 77) (i := 7) (lo := 0) (hi := 500) rfl rfl
        have c_312 : M309.2.1 77 6 = (M.2.1 77 6) := (F_n F303 (show ¬ (77 = 77 ∧ 7 ≤ 6 ∧ 6 ≤ 10) by decide) c_295)
        have t_313 : (M309.2.1 77 6).toInt = (M.2.1 77 6).toInt := congrArg Int32.toInt c_312
        have b_314 := g_b hG304 (a := 77) (i := 8) (lo := 0) (hi := 5) rfl rfl
        have b_315 := g_b hG304 (a := 77) (i := 10) (lo := 0) (hi := 500) rfl rfl
        have z_316 := RS_s p_308.2 (a := a) (by omega)
        refine to_c (pc := 43) rw_212_43 (x := (1 : Int32)) rfl rfl ?_
        refine s_r1 (pc := 44) rw_212_44 (A := 1) rfl (by decide) ?_
        have k_317 : (1 : Int32).toInt = 1 := rfl
        have z_318 := x_ns_lt (t := t) (nn := nn) (a := a) (by omega) (x_lt_k (t := t) (by omega) (by omega))
        exact h (1 : Int32) M309 hG304 F310 (by decide) (by decide) (by omega) (fun _ => p_308.1) (fun _ k9 => by rw [show (M309.2.1 77 10).toInt = (x_ns t nn a) by omega]; exact (p_ndn (by omega)).trans (p_nb (by omega) (by omega))) (fun z => absurd z (by decide))
      · refine to_an (pc := 30) rw_162_30 rfl ?_
        refine to_c (pc := 31) rw_162_31 (x := (2 : Int32)) rfl rfl ?_
        refine s_v (pc := 32) rw_162_32 (dp1 hd (by decide)) (ls0 := [.ref 77, .int (2 : Int32)]) rfl (Nat.le_of_ble_eq_true rfl) (Nat.le_of_ble_eq_true rfl) rfl (to_rc rfl rfl rfl (g_o hG rfl)) rfl ?_
        refine to_an (pc := 0) rw_152_0 rfl ?_
        refine to_in (pc := 1) rw_152_1 rfl ?_
        refine s_pI (pc := 2) rw_152_2 hG rfl (fun M320 W319 => ?_)
        have hG321 := g_wf hG W319 rfl rfl (by decide)
        have F322 := FR.w F0 W319 (show 77 = 77 ∧ (4 = 4 ∨ 4 = 5 ∨ 7 ≤ 4 ∧ 4 ≤ 10) ∨ 77 = 106 ∨ 77 = 107 by decide)
        refine to_an (pc := 5) rw_152_5 rfl ?_
        refine to_an (pc := 6) rw_152_6 rfl ?_
        have c_323 : M320.2.1 77 10 = (M.2.1 77 10) := (W_n W319 (by decide) rfl)
        refine tt_gI (pc := 7) rw_152_7 (g_o hG321 rfl) (v := (M.2.1 77 10)) c_323 ?_
        refine s_pI (pc := 10) rw_152_10 hG321 rfl (fun M325 W324 => ?_)
        have hG326 := g_wf hG321 W324 rfl rfl (by decide)
        have F327 := FR.w F322 W324 (show 77 = 77 ∧ (5 = 4 ∨ 5 = 5 ∨ 7 ≤ 5 ∧ 5 ≤ 10) ∨ 77 = 106 ∨ 77 = 107 by decide)
        refine to_c (pc := 13) rw_152_13 (x := (0 : Int32)) rfl rfl ?_
        refine s_r1 (pc := 14) rw_152_14 (A := 0) rfl (by decide) ?_
        refine b_ieq_t (pc := 35) rw_162_35 (A := 0) rfl (by decide) ?_
        refine to_c (pc := 42) rw_162_42 (x := (0 : Int32)) rfl rfl ?_
        refine s_r1 (pc := 43) rw_162_43 (A := 0) rfl (by decide) ?_
        refine b_ine_f (pc := 19) rw_212_19 (A := 0) rfl (by decide) ?_
        have c_328 : M325.2.1 77 8 = (M.2.1 77 8) := (W_n W324 (by decide) (W_n W319 (by decide) rfl))
        have t_329 : (M325.2.1 77 8).toInt = (M.2.1 77 8).toInt := congrArg Int32.toInt c_328
        have c_330 : M325.2.1 77 9 = (M.2.1 77 9) := (W_n W324 (by decide) (W_n W319 (by decide) rfl))
        have t_331 : (M325.2.1 77 9).toInt = (M.2.1 77 9).toInt := congrArg Int32.toInt c_330
        have c_332 : M325.2.1 77 10 = (M.2.1 77 10) := (W_n W324 (by decide) c_323)
        have t_333 : (M325.2.1 77 10).toInt = (M.2.1 77 10).toInt := congrArg Int32.toInt c_332
        have j_334 := (RS_f (fun a i z => W_n W324 (tg_37 a i z) rfl) (RS_f (fun a i z => W_n W319 (tg_38 a i z) rfl) q3))
        have z_335 := RS_3x j_334 (a := a) (m := sg.1 - 1) (by omega) (by omega) (by omega) (by omega)
        refine to_c (pc := 22) rw_212_22 (x := (0 : Int32)) rfl rfl ?_
        refine s_r1 (pc := 23) rw_212_23 (A := 0) rfl (by decide) ?_
        have k_336 : (0 : Int32).toInt = 0 := rfl
        have c_337 : M325.2.1 77 4 = (2 : Int32) := (W_n W324 (by decide) (W_e W319))
        have k_338 : (2 : Int32).toInt = 2 := rfl
        have t_339 : (M325.2.1 77 4).toInt = (2 : Int32).toInt := congrArg Int32.toInt c_337
        have c_340 : M325.2.1 77 5 = (M.2.1 77 10) := (W_e W324)
        have t_341 : (M325.2.1 77 5).toInt = (M.2.1 77 10).toInt := congrArg Int32.toInt c_340
        exact h (0 : Int32) M325 hG326 F327 (by decide) (by decide) (by omega) (fun z => by exfalso; omega) (fun z => absurd z (by decide)) (fun _ k9 => winl (by omega) (by omega) ((p_ndn (by omega)).trans (p_nb2 (by omega) (by omega))))

end
section
theorem tg_142 {M M1 : mm_M} (F : FR (fun a i : Nat => a = 77 ∧ (i = 4 ∨ i = 5 ∨ 7 ≤ i ∧ i ≤ 10) ∨ a = 106 ∨ a = 107) M M1) : ∀ a i : Nat, a = 78 → M1.2.1 a i = M.2.1 a i := fun a i z => F_n F (show ¬ (a = 77 ∧ (i = 4 ∨ i = 5 ∨ 7 ≤ i ∧ i ≤ 10) ∨ a = 106 ∨ a = 107) by omega) rfl
theorem tg_143 {M M1 : mm_M} (F : FR (fun a i : Nat => a = 77 ∧ (i = 4 ∨ i = 5 ∨ 7 ≤ i ∧ i ≤ 10) ∨ a = 106 ∨ a = 107) M M1) : ∀ a i : Nat, a = 79 → M1.2.1 a i = M.2.1 a i := fun a i z => F_n F (show ¬ (a = 77 ∧ (i = 4 ∨ i = 5 ∨ 7 ≤ i ∧ i ≤ 10) ∨ a = 106 ∨ a = 107) by omega) rfl
theorem tg_144 {M M1 : mm_M} (F : FR (fun a i : Nat => a = 77 ∧ (i = 4 ∨ i = 5 ∨ 7 ≤ i ∧ i ≤ 10) ∨ a = 106 ∨ a = 107) M M1) : ∀ a i : Nat, (a = 77 ∧ 11 ≤ i ∧ i ≤ 13 ∨ 80 ≤ a ∧ a ≤ 84 ∧ i < 8 ∨ 85 ≤ a ∧ a ≤ 86 ∧ i < 12) → M1.2.1 a i = M.2.1 a i := fun a i z => F_n F (show ¬ (a = 77 ∧ (i = 4 ∨ i = 5 ∨ 7 ≤ i ∧ i ≤ 10) ∨ a = 106 ∨ a = 107) by omega) rfl
theorem tg_145 {M M1 : mm_M} (F : FR (fun a i : Nat => a = 77 ∧ (i = 4 ∨ i = 5 ∨ 7 ≤ i ∧ i ≤ 10)) M M1) : ∀ a i : Nat, a = 78 → M1.2.1 a i = M.2.1 a i := fun a i z => F_n F (show ¬ (a = 77 ∧ (i = 4 ∨ i = 5 ∨ 7 ≤ i ∧ i ≤ 10)) by omega) rfl
theorem tg_146 {M M1 : mm_M} (F : FR (fun a i : Nat => a = 77 ∧ (i = 4 ∨ i = 5 ∨ 7 ≤ i ∧ i ≤ 10)) M M1) : ∀ a i : Nat, a = 79 → M1.2.1 a i = M.2.1 a i := fun a i z => F_n F (show ¬ (a = 77 ∧ (i = 4 ∨ i = 5 ∨ 7 ≤ i ∧ i ≤ 10)) by omega) rfl
theorem tg_147 {M M1 : mm_M} (F : FR (fun a i : Nat => a = 77 ∧ (i = 4 ∨ i = 5 ∨ 7 ≤ i ∧ i ≤ 10)) M M1) : ∀ a i : Nat, (a = 77 ∧ 11 ≤ i ∧ i ≤ 13 ∨ 80 ≤ a ∧ a ≤ 84 ∧ i < 8 ∨ 85 ≤ a ∧ a ≤ 86 ∧ i < 12) → M1.2.1 a i = M.2.1 a i := fun a i z => F_n F (show ¬ (a = 77 ∧ (i = 4 ∨ i = 5 ∨ 7 ≤ i ∧ i ≤ 10)) by omega) rfl
theorem tg_148 {M M1 : mm_M} (F : FR (fun a i : Nat => a = 77 ∧ (i = 4 ∨ i = 5)) M M1) : ∀ a i : Nat, (a = 77 ∧ 11 ≤ i ∧ i ≤ 13 ∨ 80 ≤ a ∧ a ≤ 84 ∧ i < 8 ∨ 85 ≤ a ∧ a ≤ 86 ∧ i < 12) → M1.2.1 a i = M.2.1 a i := fun a i z => F_n F (show ¬ (a = 77 ∧ (i = 4 ∨ i = 5)) by omega) rfl
theorem tg_149 : ∀ a i : Nat, (a = 77 ∧ (i = 4 ∨ i = 5 ∨ 7 ≤ i ∧ i ≤ 10) ∨ a = 106 ∨ a = 107) → (a = 77 ∧ (i = 4 ∨ i = 5 ∨ 7 ≤ i ∧ i ≤ 10) ∨ 102 ≤ a ∧ a ≤ 104 ∨ a = 106 ∨ a = 107) := fun a i z => by omega
theorem tg_150 : ∀ a i : Nat, (a = 77 ∧ (i = 4 ∨ i = 5 ∨ 7 ≤ i ∧ i ≤ 10)) → (a = 77 ∧ (i = 4 ∨ i = 5 ∨ 7 ≤ i ∧ i ≤ 10) ∨ 102 ≤ a ∧ a ≤ 104 ∨ a = 106 ∨ a = 107) := fun a i z => by omega
theorem tg_151 : ∀ a i : Nat, (a = 77 ∧ (i = 4 ∨ i = 5)) → (a = 77 ∧ (i = 4 ∨ i = 5 ∨ 7 ≤ i ∧ i ≤ 10) ∨ 102 ≤ a ∧ a ≤ 104 ∨ a = 106 ∨ a = 107) := fun a i z => by omega
theorem tg_152 : ∀ a i : Nat, (a = 77 ∧ 7 ≤ i ∧ i ≤ 10) → (a = 77 ∧ (i = 4 ∨ i = 5 ∨ 7 ≤ i ∧ i ≤ 10) ∨ 102 ≤ a ∧ a ≤ 104 ∨ a = 106 ∨ a = 107) := fun a i z => by omega
theorem tg_153 : ∀ a i j : Nat, (a = 77 ∧ 6 ≤ i ∧ i ≤ 10) → ¬ (a = 102 ∧ i = j) := fun a i j z => by omega
theorem tg_154 : ∀ a i j : Nat, a = 78 → ¬ (a = 102 ∧ i = j) := fun a i j z => by omega
theorem tg_155 : ∀ a i j : Nat, a = 79 → ¬ (a = 102 ∧ i = j) := fun a i j z => by omega
theorem tg_156 : ∀ a i j : Nat, (a = 77 ∧ 6 ≤ i ∧ i ≤ 10) → ¬ (a = 103 ∧ i = j) := fun a i j z => by omega
theorem tg_157 : ∀ a i j : Nat, a = 78 → ¬ (a = 103 ∧ i = j) := fun a i j z => by omega
theorem tg_158 : ∀ a i j : Nat, a = 79 → ¬ (a = 103 ∧ i = j) := fun a i j z => by omega
theorem tg_159 : ∀ a i j : Nat, (a = 77 ∧ 6 ≤ i ∧ i ≤ 10) → ¬ (a = 104 ∧ i = j) := fun a i j z => by omega
theorem tg_160 : ∀ a i j : Nat, a = 78 → ¬ (a = 104 ∧ i = j) := fun a i j z => by omega
theorem tg_161 : ∀ a i j : Nat, a = 79 → ¬ (a = 104 ∧ i = j) := fun a i j z => by omega
theorem tg_162 : ∀ a i j : Nat, a = 78 → ¬ (a = 107 ∧ i = j) := fun a i j z => by omega
theorem tg_163 : ∀ a i j : Nat, a = 79 → ¬ (a = 107 ∧ i = j) := fun a i j z => by omega
theorem tg_164 : ∀ a i j : Nat, (a = 77 ∧ 11 ≤ i ∧ i ≤ 13 ∨ 80 ≤ a ∧ a ≤ 84 ∧ i < 8 ∨ 85 ≤ a ∧ a ≤ 86 ∧ i < 12) → ¬ (a = 107 ∧ i = j) := fun a i j z => by omega
theorem tg_165 : ∀ a i j : Nat, (a = 77 ∧ 11 ≤ i ∧ i ≤ 13 ∨ 80 ≤ a ∧ a ≤ 84 ∧ i < 8 ∨ 85 ≤ a ∧ a ≤ 86 ∧ i < 12) → ¬ (a = 104 ∧ i = j) := fun a i j z => by omega
theorem tg_166 : ∀ a i j : Nat, (a = 77 ∧ 11 ≤ i ∧ i ≤ 13 ∨ 80 ≤ a ∧ a ≤ 84 ∧ i < 8 ∨ 85 ≤ a ∧ a ≤ 86 ∧ i < 12) → ¬ (a = 103 ∧ i = j) := fun a i j z => by omega
theorem tg_167 : ∀ a i j : Nat, (a = 77 ∧ 11 ≤ i ∧ i ≤ 13 ∨ 80 ≤ a ∧ a ≤ 84 ∧ i < 8 ∨ 85 ≤ a ∧ a ≤ 86 ∧ i < 12) → ¬ (a = 102 ∧ i = j) := fun a i j z => by omega
set_option maxRecDepth 4000 in
set_option maxHeartbeats 0 in
theorem U_213_0 {X : mm_X} {d : Nat} {M : mm_M} {Q : Option Value → mm_M → Prop} {e : Int32} {t : Nat → Int} {nn : Int} {a : Int} {sg : x_S} {n9 : Int} {op : List Int} {A9 : x_A} (hX : g_X X) (hd : 3 ≤ d) (q1 : 0 ≤ e.toInt) (q2 : e.toInt ≤ 39) (q3 : RS M t nn) (q4 : (M.2.1 77 10).toInt = a) (q5 : 0 ≤ nn) (q6 : nn ≤ 500) (q7 : TR M t nn) (q8 : W9 M) (q9 : PLk M sg) (h : ∀ (r : Int32) (M1 : mm_M), g_G M1 → FR md_ps M M1 → (0 ≤ r.toInt) → (r.toInt ≤ 1) → ((r.toInt = 1 → RS M1 t nn)) → (∀ r i : Nat, (102 ≤ r ∧ r ≤ 104) → ¬ i = (e.toInt).toNat → M1.2.1 r i = M.2.1 r i) → ((r.toInt = 1 → x_wps t nn sg a (x_ww t nn sg 1 n9 op A9) = x_ww t nn sg 0 n9 op A9 (M1.2.1 77 10).toInt)) → ((r.toInt = 0 → x_wps t nn sg a (x_ww t nn sg 1 n9 op A9) = Sum.inl ((M1.2.1 77 4).toInt, (M1.2.1 77 5).toInt))) → Q (some (.int r)) M1) : ∀ nn9 : Nat, (∀ (N : mm_M), g_G N → FR md_ps M N → (RS N t nn) → (0 ≤ nn) → (nn ≤ 500) → (TR N t nn) → (W9 N) → (PLk N sg) → (∀ r i : Nat, (102 ≤ r ∧ r ≤ 104) → ¬ i = (e.toInt).toNat → N.2.1 r i = M.2.1 r i) → (x_wps t nn sg a (x_ww t nn sg 1 n9 op A9) = x_ww t nn sg 1 n9 op A9 (N.2.1 77 10).toInt) → 501 - (N.2.1 77 10).toInt < (nn9 : Int) → mm_T X d 212 133 [.ref 77, .int e] [] N Q) := by
  intro nn9
  induction nn9 with
  | zero =>
    intro N hG F0 g1 g2 g3 g4 g5 g6 g7 g8 hm
    have b_1 := g_b hG (a := 77) (i := 10) (lo := 0) (hi := 500) rfl rfl
    exfalso; omega
  | succ nn9 ih =>
    intro N hG F0 g1 g2 g3 g4 g5 g6 g7 g8 hm
    have b_2 := g_b hG (a := 77) (i := 10) (lo := 0) (hi := 500) rfl rfl
    have b_3 := g_b hG (a := 77) (i := 8) (lo := 0) (hi := 5) rfl rfl
    have z_4 := RS_k g1 (a := (N.2.1 77 10).toInt) (by omega)
    have b_5 := g_b hG (a := 77) (i := 6) (lo := 0) (hi := 500) rfl rfl
    have b_6 := g_b hG (a := 77) (i := 7) (lo := 0) (hi := 500) rfl rfl
    have z_7 := RS_b g1 (a := (N.2.1 77 10).toInt) (by omega)
    refine to_an (pc := 133) rw_213_133 rfl ?_
    refine tt_gI (pc := 134) rw_213_134 (g_o hG rfl) (v := (N.2.1 77 8)) rfl ?_
    refine to_c (pc := 137) rw_213_137 (x := (3 : Int32)) rfl rfl ?_
    refine b_ceq (pc := 138) rw_213_138 (A := (N.2.1 77 8).toInt) (B := 3) rfl rfl (fun h8 => ?_) (fun h8 => ?_)
    · refine to_an (pc := 149) rw_213_149 rfl ?_
      refine to_in (pc := 150) rw_213_150 rfl ?_
      refine s_v (pc := 151) rw_213_151 (dp0 hd (by decide)) (ls0 := [.ref 77, .int e, .null, .null]) rfl (Nat.le_of_ble_eq_true rfl) (Nat.le_of_ble_eq_true rfl) rfl (to_rc rfl rfl rfl (g_o hG rfl)) rfl ?_
      refine E_212 hX (dp1 hd (by decide)) hG (by omega) (by omega) g1 (by omega) (by omega) (by omega) g4 g5 g6 (by omega) (e := e) (t := t) (nn := nn) (a := (N.2.1 77 10).toInt) (sg := sg) (fun r9 M18 hG11 F10 p_12 p_13 p_14 p_15 p_16 p_17 => ?_)
      have F19 := FR.c F0 F10 tg_149
      have b_20 := g_b hG11 (a := 77) (i := 10) (lo := 0) (hi := 500) rfl rfl
      rcases (show r9.toInt = 0 ∨ r9.toInt = 1 by omega) with h21 | h21
      · skip
        have p_22 := p_17 (by omega)
        clear p_14 p_15 p_16 p_17
        have z_23 := g8.trans (w1_nx (by omega) (by omega) (by omega) p_22)
        refine b_ine_f (pc := 154) rw_213_154 (A := r9.toInt) rfl (by omega) ?_
        refine to_c (pc := 157) rw_213_157 (x := (0 : Int32)) rfl rfl ?_
        refine s_r1 (pc := 158) rw_213_158 (A := 0) rfl (by decide) ?_
        have k_24 : (0 : Int32).toInt = 0 := rfl
        exact h (0 : Int32) M18 hG11 F19 (by decide) (by decide) (fun z => by exfalso; omega) (fun r i z z2 => (F_n F10 (show ¬ (r = 77 ∧ (i = 4 ∨ i = 5 ∨ 7 ≤ i ∧ i ≤ 10) ∨ r = 106 ∨ r = 107) by omega) (g7 r i z z2))) (fun z => by exfalso; omega) (fun _ => winl (by omega) (by omega) z_23)
      · skip
        have p_25 := p_14 (by omega)
        have p_26 := p_15 (by omega)
        have p_27 := p_16 (by omega)
        clear p_14 p_15 p_16 p_17
        have z_28 := g8.trans (w1_ny (by omega) (by omega) p_27)
        refine b_ine_t (pc := 154) rw_213_154 (A := r9.toInt) rfl (by omega) ?_
        have j_29 := (TR_f (tg_142 F10) g4)
        have j_30 := (W9_f (tg_143 F10) g5)
        have j_31 := (PLk_f (tg_144 F10) g6)
        exact ih M18  hG11 F19 p_26 (by omega) (by omega) j_29 j_30 j_31 (fun r i z z2 => (F_n F10 (show ¬ (r = 77 ∧ (i = 4 ∨ i = 5 ∨ 7 ≤ i ∧ i ≤ 10) ∨ r = 106 ∨ r = 107) by omega) (g7 r i z z2))) z_28 (by omega)
    · refine to_an (pc := 141) rw_213_141 rfl ?_
      refine tt_gI (pc := 142) rw_213_142 (g_o hG rfl) (v := (N.2.1 77 8)) rfl ?_
      refine to_c (pc := 145) rw_213_145 (x := (2 : Int32)) rfl rfl ?_
      refine b_cne (pc := 146) rw_213_146 (A := (N.2.1 77 8).toInt) (B := 2) rfl rfl (fun h32 => ?_) (fun h32 => ?_)
      · refine to_an (pc := 159) rw_213_159 rfl ?_
        refine to_c (pc := 160) rw_213_160 (x := (59 : Int32)) rfl rfl ?_
        refine s_v (pc := 162) rw_213_162 (dp0 hd (by decide)) (ls0 := [.ref 77, .int (59 : Int32)]) rfl (Nat.le_of_ble_eq_true rfl) (Nat.le_of_ble_eq_true rfl) rfl (to_rc rfl rfl rfl (g_o hG rfl)) rfl ?_
        have k_33 : (59 : Int32).toInt = 59 := rfl
        refine E_160w hX (dp1 hd (by decide)) hG g1 (by omega) (by omega) (by omega) g4 g5 (by omega) (c := (59 : Int32)) (t := t) (nn := nn) (a := (N.2.1 77 10).toInt) (fun r34 M43 hG36 F35 p_37 p_38 p_39 p_40 p_41 p_42 => ?_)
        have F44 := FR.c F0 F35 tg_150
        have b_45 := g_b hG36 (a := 77) (i := 10) (lo := 0) (hi := 500) rfl rfl
        rcases (show r34.toInt = 0 ∨ r34.toInt = 1 by omega) with h46 | h46
        · skip
          have p_47 := p_41 (by omega)
          have p_48 := p_42 (by omega)
          clear p_40 p_41 p_42
          have z_49 := g8.trans (w1_x (by omega) (by omega) (by omega) (by omega))
          refine s_r1 (pc := 165) rw_213_165 (A := r34.toInt) rfl (by omega) ?_
          exact h r34 M43 hG36 F44 (by omega) (by omega) (fun z => by exfalso; omega) (fun r i z z2 => (F_n F35 (show ¬ (r = 77 ∧ (i = 4 ∨ i = 5 ∨ 7 ≤ i ∧ i ≤ 10)) by omega) (g7 r i z z2))) (fun z => by exfalso; omega) (fun _ => winl (by omega) (by omega) z_49)
        · skip
          have p_50 := p_40 (by omega)
          clear p_40 p_41 p_42
          have z_51 := g8.trans (w1_s (by omega) (by omega) (by omega))
          refine s_r1 (pc := 165) rw_213_165 (A := r34.toInt) rfl (by omega) ?_
          exact h r34 M43 hG36 F44 (by omega) (by omega) (fun _ => p_39) (fun r i z z2 => (F_n F35 (show ¬ (r = 77 ∧ (i = 4 ∨ i = 5 ∨ 7 ≤ i ∧ i ≤ 10)) by omega) (g7 r i z z2))) (fun _ => z_51.trans (w_v rfl (by omega))) (fun z => by exfalso; omega)
      · refine to_an (pc := 149) rw_213_149 rfl ?_
        refine to_in (pc := 150) rw_213_150 rfl ?_
        refine s_v (pc := 151) rw_213_151 (dp0 hd (by decide)) (ls0 := [.ref 77, .int e, .null, .null]) rfl (Nat.le_of_ble_eq_true rfl) (Nat.le_of_ble_eq_true rfl) rfl (to_rc rfl rfl rfl (g_o hG rfl)) rfl ?_
        refine E_212 hX (dp1 hd (by decide)) hG (by omega) (by omega) g1 (by omega) (by omega) (by omega) g4 g5 g6 (by omega) (e := e) (t := t) (nn := nn) (a := (N.2.1 77 10).toInt) (sg := sg) (fun r52 M61 hG54 F53 p_55 p_56 p_57 p_58 p_59 p_60 => ?_)
        have F62 := FR.c F0 F53 tg_149
        have b_63 := g_b hG54 (a := 77) (i := 10) (lo := 0) (hi := 500) rfl rfl
        rcases (show r52.toInt = 0 ∨ r52.toInt = 1 by omega) with h64 | h64
        · skip
          have p_65 := p_60 (by omega)
          clear p_57 p_58 p_59 p_60
          have z_66 := g8.trans (w1_nx (by omega) (by omega) (by omega) p_65)
          refine b_ine_f (pc := 154) rw_213_154 (A := r52.toInt) rfl (by omega) ?_
          refine to_c (pc := 157) rw_213_157 (x := (0 : Int32)) rfl rfl ?_
          refine s_r1 (pc := 158) rw_213_158 (A := 0) rfl (by decide) ?_
          have k_67 : (0 : Int32).toInt = 0 := rfl
          exact h (0 : Int32) M61 hG54 F62 (by decide) (by decide) (fun z => by exfalso; omega) (fun r i z z2 => (F_n F53 (show ¬ (r = 77 ∧ (i = 4 ∨ i = 5 ∨ 7 ≤ i ∧ i ≤ 10) ∨ r = 106 ∨ r = 107) by omega) (g7 r i z z2))) (fun z => by exfalso; omega) (fun _ => winl (by omega) (by omega) z_66)
        · skip
          have p_68 := p_57 (by omega)
          have p_69 := p_58 (by omega)
          have p_70 := p_59 (by omega)
          clear p_57 p_58 p_59 p_60
          have z_71 := g8.trans (w1_ny (by omega) (by omega) p_70)
          refine b_ine_t (pc := 154) rw_213_154 (A := r52.toInt) rfl (by omega) ?_
          have j_72 := (TR_f (tg_142 F53) g4)
          have j_73 := (W9_f (tg_143 F53) g5)
          have j_74 := (PLk_f (tg_144 F53) g6)
          exact ih M61  hG54 F62 p_69 (by omega) (by omega) j_72 j_73 j_74 (fun r i z z2 => (F_n F53 (show ¬ (r = 77 ∧ (i = 4 ∨ i = 5 ∨ 7 ≤ i ∧ i ≤ 10) ∨ r = 106 ∨ r = 107) by omega) (g7 r i z z2))) z_71 (by omega)
set_option maxRecDepth 4000 in
set_option maxHeartbeats 0 in
theorem E_213 {X : mm_X} {d : Nat} {M : mm_M} {Q : Option Value → mm_M → Prop} {e : Int32} {t : Nat → Int} {nn : Int} {a : Int} {sg : x_S} {n9 : Int} {op : List Int} {A9 : x_A} (hX : g_X X) (hd : 3 ≤ d) (hG : g_G M) (q1 : 0 ≤ e.toInt) (q2 : e.toInt ≤ 39) (q3 : RS M t nn) (q4 : (M.2.1 77 10).toInt = a) (q5 : 0 ≤ nn) (q6 : nn ≤ 500) (q7 : TR M t nn) (q8 : W9 M) (q9 : PLk M sg) (h : ∀ (r : Int32) (M1 : mm_M), g_G M1 → FR md_ps M M1 → (0 ≤ r.toInt) → (r.toInt ≤ 1) → ((r.toInt = 1 → RS M1 t nn)) → (∀ r i : Nat, (102 ≤ r ∧ r ≤ 104) → ¬ i = (e.toInt).toNat → M1.2.1 r i = M.2.1 r i) → ((r.toInt = 1 → x_wps t nn sg a (x_ww t nn sg 1 n9 op A9) = x_ww t nn sg 0 n9 op A9 (M1.2.1 77 10).toInt)) → ((r.toInt = 0 → x_wps t nn sg a (x_ww t nn sg 1 n9 op A9) = Sum.inl ((M1.2.1 77 4).toInt, (M1.2.1 77 5).toInt))) → Q (some (.int r)) M1) : mm_T X d 212 0 [.ref 77, .int e] [] M Q := by
  have F0 : FR md_ps M M := FR.rf
  have b_75 := g_b hG (a := 77) (i := 10) (lo := 0) (hi := 500) rfl rfl
  have b_76 := g_b hG (a := 77) (i := 8) (lo := 0) (hi := 5) rfl rfl
  have z_77 := RS_k q3 (a := a) (by omega)
  have b_78 := g_b hG (a := 77) (i := 6) (lo := 0) (hi := 500) rfl rfl
  have b_79 := g_b hG (a := 77) (i := 7) (lo := 0) (hi := 500) rfl rfl
  have z_80 := RS_b q3 (a := a) (by omega)
  refine to_an (pc := 0) rw_213_0 rfl ?_
  refine s_gR (pc := 1) rw_213_1 hG rfl (v := 102) rfl ?_
  refine to_in (pc := 4) rw_213_4 rfl ?_
  refine to_an (pc := 5) rw_213_5 rfl ?_
  refine s_v (pc := 6) rw_213_6 (dp0 hd (by decide)) (ls0 := [.ref 77, .null, .null]) rfl (Nat.le_of_ble_eq_true rfl) (Nat.le_of_ble_eq_true rfl) rfl (to_rc rfl rfl rfl (g_o hG rfl)) rfl ?_
  refine E_211 hX (dp1 hd (by decide)) hG q3 (by omega) (t := t) (nn := nn) (a := a) (fun r81 M88 hG83 F82 p_84 p_85 p_86 p_87 => ?_)
  have F89 := FR.c F0 F82 tg_151
  refine s_ias (pc := 9) rw_213_9 hG83 rfl (n := 40) rfl (A := e.toInt) rfl (by omega) (by omega) (fun M91 W90 => ?_)
  have hG92 := g_w hG83 W90 (A := r81.toInt) rfl (lo := -1) (hi := 99) rfl rfl (by omega) (by decide)
  have F93 := FR.w F89 W90 (show 102 = 77 ∧ ((e.toInt).toNat = 4 ∨ (e.toInt).toNat = 5 ∨ 7 ≤ (e.toInt).toNat ∧ (e.toInt).toNat ≤ 10) ∨ 102 ≤ 102 ∧ 102 ≤ 104 ∨ 102 = 106 ∨ 102 = 107 by omega)
  refine to_an (pc := 10) rw_213_10 rfl ?_
  refine s_gR (pc := 11) rw_213_11 hG92 rfl (v := 102) rfl ?_
  refine to_in (pc := 14) rw_213_14 rfl ?_
  refine s_ialk (pc := 15) rw_213_15 hG92 rfl (n := 40) rfl rfl (A := e.toInt) rfl (by omega) (by omega) (v := r81) (W_e W90) ?_
  refine b_ige (pc := 16) rw_213_16 (A := r81.toInt) rfl (fun h96 => ?_) (fun h96 => ?_)
  · refine to_an (pc := 21) rw_213_21 rfl ?_
    refine s_v (pc := 22) rw_213_22 (dp0 hd (by decide)) (ls0 := [.ref 77]) rfl (Nat.le_of_ble_eq_true rfl) (Nat.le_of_ble_eq_true rfl) rfl (to_rc rfl rfl rfl (g_o hG92 rfl)) rfl ?_
    have c_97 : M91.2.1 77 7 = (M.2.1 77 7) := (W_n W90 (fun z => absurd z.1 (by decide)) (F_n F82 (show ¬ (77 = 77 ∧ (7 = 4 ∨ 7 = 5)) by decide) rfl))
    have t_98 : (M91.2.1 77 7).toInt = (M.2.1 77 7).toInt := congrArg Int32.toInt c_97
    have c_99 : M91.2.1 77 6 = (M.2.1 77 6) := (W_n W90 (fun z => absurd z.1 (by decide)) (F_n F82 (show ¬ (77 = 77 ∧ (6 = 4 ∨ 6 = 5)) by decide) rfl))
    have t_100 : (M91.2.1 77 6).toInt = (M.2.1 77 6).toInt := congrArg Int32.toInt c_99
    have c_101 : M91.2.1 77 10 = (M.2.1 77 10) := (W_n W90 (fun z => absurd z.1 (by decide)) (F_n F82 (show ¬ (77 = 77 ∧ (10 = 4 ∨ 10 = 5)) by decide) rfl))
    have t_102 : (M91.2.1 77 10).toInt = (M.2.1 77 10).toInt := congrArg Int32.toInt c_101
    have j_103 := (RS_f (fun a i z => W_n W90 (tg_153 a i _ z) rfl) (RS_f (tg_40 F82) q3))
    have z_104 := RS_b j_103 (a := a) (by omega)
    have j_105 := (TR_f (fun a i z => W_n W90 (tg_154 a i _ z) rfl) (TR_f (tg_41 F82) q7))
    have j_106 := (W9_f (fun a i z => W_n W90 (tg_155 a i _ z) rfl) (W9_f (tg_43 F82) q8))
    refine E_156 hX (dp1 hd (by decide)) hG92 (by omega) (by omega) (by omega) (by omega) j_105 j_106  (fun M113 hG108 F107 p_109 p_110 p_111 p_112 => ?_)
    have F114 := FR.c F93 F107 tg_152
    have b_115 := g_b hG108 (a := 77) (i := 7) (lo := 0) (hi := 500) rfl rfl
    have c_116 : M113.2.1 77 6 = (M.2.1 77 6) := (F_n F107 (show ¬ (77 = 77 ∧ 7 ≤ 6 ∧ 6 ≤ 10) by decide) c_99)
    have t_117 : (M113.2.1 77 6).toInt = (M.2.1 77 6).toInt := congrArg Int32.toInt c_116
    have b_118 := g_b hG108 (a := 77) (i := 8) (lo := 0) (hi := 5) rfl rfl
    have z_119 : x_wps t nn sg a (x_ww t nn sg 1 n9 op A9) = x_wy2 t nn 8 (x_ns t nn a) (fun c => x_wp t nn c (fun d => x_wp t nn d (fun e => x_wy2 t nn 9 e (fun g => x_wnd t nn sg g (x_ww t nn sg 1 n9 op A9))))) := p_wp (by omega)
    have b_120 := g_b hG108 (a := 77) (i := 10) (lo := 0) (hi := 500) rfl rfl
    have z_121 := RS_s p_112.2 (a := a) (by omega)
    have z_122 := x_ns_b (t := t) (n := nn) (a := a) (by omega) (by omega)
    refine to_an (pc := 25) rw_213_25 rfl ?_
    refine to_c (pc := 26) rw_213_26 (x := (8 : Int32)) rfl rfl ?_
    refine s_v (pc := 28) rw_213_28 (dp0 hd (by decide)) (ls0 := [.ref 77, .int (8 : Int32)]) rfl (Nat.le_of_ble_eq_true rfl) (Nat.le_of_ble_eq_true rfl) rfl (to_rc rfl rfl rfl (g_o hG108 rfl)) rfl ?_
    have k_123 : (8 : Int32).toInt = 8 := rfl
    have j_124 := (TR_f (tg_42 F107) j_105)
    have j_125 := (W9_f (tg_44 F107) j_106)
    refine E_161 hX (dp1 hd (by decide)) hG108 p_112.1 (by omega) (by omega) (by omega) j_124 j_125 (by omega) (by omega) (c := (8 : Int32)) (t := t) (nn := nn) (a := (x_ns t nn a)) (fun r126 M135 hG128 F127 p_129 p_130 p_131 p_132 p_133 p_134 => ?_)
    have F136 := FR.c F114 F127 tg_150
    have b_137 := g_b hG128 (a := 77) (i := 10) (lo := 0) (hi := 500) rfl rfl
    rcases (show r126.toInt = 0 ∨ r126.toInt = 1 by omega) with h138 | h138
    · skip
      have p_139 := p_133 (by omega)
      have p_140 := p_134 (by omega)
      clear p_132 p_133 p_134
      have z_141 : x_wps t nn sg a (x_ww t nn sg 1 n9 op A9) = Sum.inl (1, (x_ns t nn a)) := z_119.trans (p_wyx (by omega))
      refine b_ine_f (pc := 31) rw_213_31 (A := r126.toInt) rfl (by omega) ?_
      refine to_c (pc := 34) rw_213_34 (x := (0 : Int32)) rfl rfl ?_
      refine s_r1 (pc := 35) rw_213_35 (A := 0) rfl (by decide) ?_
      have k_142 : (0 : Int32).toInt = 0 := rfl
      exact h (0 : Int32) M135 hG128 F136 (by decide) (by decide) (fun z => by exfalso; omega) (fun r i z z2 => (F_n F127 (show ¬ (r = 77 ∧ (i = 4 ∨ i = 5 ∨ 7 ≤ i ∧ i ≤ 10)) by omega) (F_n F107 (show ¬ (r = 77 ∧ 7 ≤ i ∧ i ≤ 10) by omega) (W_n W90 (by omega) (F_n F82 (show ¬ (r = 77 ∧ (i = 4 ∨ i = 5)) by omega) rfl))))) (fun z => by exfalso; omega) (fun _ => winl (by omega) (by omega) z_141)
    · skip
      have p_143 := p_132 (by omega)
      clear p_132 p_133 p_134
      have z_144 : x_wps t nn sg a (x_ww t nn sg 1 n9 op A9) = x_wp t nn (x_ns t nn (x_ns t nn a)) (fun d => x_wp t nn d (fun e => x_wy2 t nn 9 e (fun g => x_wnd t nn sg g (x_ww t nn sg 1 n9 op A9)))) := z_119.trans (p_wy (by omega))
      have z_145 := x_ns_b (t := t) (n := nn) (a := (x_ns t nn a)) (by omega) (by omega)
      refine b_ine_t (pc := 31) rw_213_31 (A := r126.toInt) rfl (by omega) ?_
      refine to_an (pc := 36) rw_213_36 rfl ?_
      refine s_gR (pc := 37) rw_213_37 hG128 rfl (v := 103) rfl ?_
      refine to_in (pc := 40) rw_213_40 rfl ?_
      refine to_an (pc := 41) rw_213_41 rfl ?_
      refine s_v (pc := 42) rw_213_42 (dp0 hd (by decide)) (ls0 := [.ref 77, .null, .null]) rfl (Nat.le_of_ble_eq_true rfl) (Nat.le_of_ble_eq_true rfl) rfl (to_rc rfl rfl rfl (g_o hG128 rfl)) rfl ?_
      refine E_211 hX (dp1 hd (by decide)) hG128 p_131 (by omega) (t := t) (nn := nn) (a := (x_ns t nn (x_ns t nn a))) (fun r146 M153 hG148 F147 p_149 p_150 p_151 p_152 => ?_)
      have F154 := FR.c F136 F147 tg_151
      refine s_ias (pc := 45) rw_213_45 hG148 rfl (n := 40) rfl (A := e.toInt) rfl (by omega) (by omega) (fun M156 W155 => ?_)
      have hG157 := g_w hG148 W155 (A := r146.toInt) rfl (lo := -1) (hi := 5) rfl rfl (by omega) (by decide)
      have F158 := FR.w F154 W155 (show 103 = 77 ∧ ((e.toInt).toNat = 4 ∨ (e.toInt).toNat = 5 ∨ 7 ≤ (e.toInt).toNat ∧ (e.toInt).toNat ≤ 10) ∨ 102 ≤ 103 ∧ 103 ≤ 104 ∨ 103 = 106 ∨ 103 = 107 by omega)
      refine to_an (pc := 46) rw_213_46 rfl ?_
      refine s_gR (pc := 47) rw_213_47 hG157 rfl (v := 103) rfl ?_
      refine to_in (pc := 50) rw_213_50 rfl ?_
      refine s_ialk (pc := 51) rw_213_51 hG157 rfl (n := 40) rfl rfl (A := e.toInt) rfl (by omega) (by omega) (v := r146) (W_e W155) ?_
      refine b_ige (pc := 52) rw_213_52 (A := r146.toInt) rfl (fun h161 => ?_) (fun h161 => ?_)
      · refine to_an (pc := 57) rw_213_57 rfl ?_
        refine s_v (pc := 58) rw_213_58 (dp0 hd (by decide)) (ls0 := [.ref 77]) rfl (Nat.le_of_ble_eq_true rfl) (Nat.le_of_ble_eq_true rfl) rfl (to_rc rfl rfl rfl (g_o hG157 rfl)) rfl ?_
        have c_162 : M156.2.1 77 7 = (M135.2.1 77 7) := (W_n W155 (fun z => absurd z.1 (by decide)) (F_n F147 (show ¬ (77 = 77 ∧ (7 = 4 ∨ 7 = 5)) by decide) rfl))
        have b_163 := g_b hG128 (a := 77) (i := 7) (lo := 0) (hi := 500) rfl rfl
        have t_164 : (M156.2.1 77 7).toInt = (M135.2.1 77 7).toInt := congrArg Int32.toInt c_162
        have c_165 : M156.2.1 77 6 = (M.2.1 77 6) := (W_n W155 (fun z => absurd z.1 (by decide)) (F_n F147 (show ¬ (77 = 77 ∧ (6 = 4 ∨ 6 = 5)) by decide) (F_n F127 (show ¬ (77 = 77 ∧ (6 = 4 ∨ 6 = 5 ∨ 7 ≤ 6 ∧ 6 ≤ 10)) by decide) c_116)))
        have t_166 : (M156.2.1 77 6).toInt = (M.2.1 77 6).toInt := congrArg Int32.toInt c_165
        have c_167 : M156.2.1 77 10 = (M135.2.1 77 10) := (W_n W155 (fun z => absurd z.1 (by decide)) (F_n F147 (show ¬ (77 = 77 ∧ (10 = 4 ∨ 10 = 5)) by decide) rfl))
        have t_168 : (M156.2.1 77 10).toInt = (M135.2.1 77 10).toInt := congrArg Int32.toInt c_167
        have j_169 := (RS_f (fun a i z => W_n W155 (tg_156 a i _ z) rfl) (RS_f (tg_40 F147) p_131))
        have z_170 := RS_b j_169 (a := (x_ns t nn (x_ns t nn a))) (by omega)
        have j_171 := (TR_f (fun a i z => W_n W155 (tg_157 a i _ z) rfl) (TR_f (tg_41 F147) (TR_f (tg_145 F127) j_124)))
        have j_172 := (W9_f (fun a i z => W_n W155 (tg_158 a i _ z) rfl) (W9_f (tg_43 F147) (W9_f (tg_146 F127) j_125)))
        refine E_156 hX (dp1 hd (by decide)) hG157 (by omega) (by omega) (by omega) (by omega) j_171 j_172  (fun M179 hG174 F173 p_175 p_176 p_177 p_178 => ?_)
        have F180 := FR.c F158 F173 tg_152
        have b_181 := g_b hG174 (a := 77) (i := 7) (lo := 0) (hi := 500) rfl rfl
        have c_182 : M179.2.1 77 6 = (M.2.1 77 6) := (F_n F173 (show ¬ (77 = 77 ∧ 7 ≤ 6 ∧ 6 ≤ 10) by decide) c_165)
        have t_183 : (M179.2.1 77 6).toInt = (M.2.1 77 6).toInt := congrArg Int32.toInt c_182
        have b_184 := g_b hG174 (a := 77) (i := 8) (lo := 0) (hi := 5) rfl rfl
        have z_185 : x_wps t nn sg a (x_ww t nn sg 1 n9 op A9) = x_wp t nn (x_ns t nn (x_ns t nn (x_ns t nn a))) (fun e => x_wy2 t nn 9 e (fun g => x_wnd t nn sg g (x_ww t nn sg 1 n9 op A9))) := z_144.trans (p_wp (by omega))
        have b_186 := g_b hG174 (a := 77) (i := 10) (lo := 0) (hi := 500) rfl rfl
        have z_187 := RS_s p_178.2 (a := (x_ns t nn (x_ns t nn a))) (by omega)
        have z_188 := x_ns_b (t := t) (n := nn) (a := (x_ns t nn (x_ns t nn a))) (by omega) (by omega)
        refine to_an (pc := 61) rw_213_61 rfl ?_
        refine s_gR (pc := 62) rw_213_62 hG174 rfl (v := 104) rfl ?_
        refine to_in (pc := 65) rw_213_65 rfl ?_
        refine to_an (pc := 66) rw_213_66 rfl ?_
        refine s_v (pc := 67) rw_213_67 (dp0 hd (by decide)) (ls0 := [.ref 77, .null, .null]) rfl (Nat.le_of_ble_eq_true rfl) (Nat.le_of_ble_eq_true rfl) rfl (to_rc rfl rfl rfl (g_o hG174 rfl)) rfl ?_
        refine E_211 hX (dp1 hd (by decide)) hG174 p_178.1 (by omega) (t := t) (nn := nn) (a := (x_ns t nn (x_ns t nn (x_ns t nn a)))) (fun r189 M196 hG191 F190 p_192 p_193 p_194 p_195 => ?_)
        have F197 := FR.c F180 F190 tg_151
        refine s_ias (pc := 70) rw_213_70 hG191 rfl (n := 40) rfl (A := e.toInt) rfl (by omega) (by omega) (fun M199 W198 => ?_)
        have hG200 := g_w hG191 W198 (A := r189.toInt) rfl (lo := -1) (hi := 5) rfl rfl (by omega) (by decide)
        have F201 := FR.w F197 W198 (show 104 = 77 ∧ ((e.toInt).toNat = 4 ∨ (e.toInt).toNat = 5 ∨ 7 ≤ (e.toInt).toNat ∧ (e.toInt).toNat ≤ 10) ∨ 102 ≤ 104 ∧ 104 ≤ 104 ∨ 104 = 106 ∨ 104 = 107 by omega)
        refine to_an (pc := 71) rw_213_71 rfl ?_
        refine s_gR (pc := 72) rw_213_72 hG200 rfl (v := 104) rfl ?_
        refine to_in (pc := 75) rw_213_75 rfl ?_
        refine s_ialk (pc := 76) rw_213_76 hG200 rfl (n := 40) rfl rfl (A := e.toInt) rfl (by omega) (by omega) (v := r189) (W_e W198) ?_
        refine b_ige (pc := 77) rw_213_77 (A := r189.toInt) rfl (fun h204 => ?_) (fun h204 => ?_)
        · refine to_an (pc := 82) rw_213_82 rfl ?_
          refine s_v (pc := 83) rw_213_83 (dp0 hd (by decide)) (ls0 := [.ref 77]) rfl (Nat.le_of_ble_eq_true rfl) (Nat.le_of_ble_eq_true rfl) rfl (to_rc rfl rfl rfl (g_o hG200 rfl)) rfl ?_
          have c_205 : M199.2.1 77 7 = (M179.2.1 77 7) := (W_n W198 (fun z => absurd z.1 (by decide)) (F_n F190 (show ¬ (77 = 77 ∧ (7 = 4 ∨ 7 = 5)) by decide) rfl))
          have t_206 : (M199.2.1 77 7).toInt = (M179.2.1 77 7).toInt := congrArg Int32.toInt c_205
          have c_207 : M199.2.1 77 6 = (M.2.1 77 6) := (W_n W198 (fun z => absurd z.1 (by decide)) (F_n F190 (show ¬ (77 = 77 ∧ (6 = 4 ∨ 6 = 5)) by decide) c_182))
          have t_208 : (M199.2.1 77 6).toInt = (M.2.1 77 6).toInt := congrArg Int32.toInt c_207
          have c_209 : M199.2.1 77 10 = (M179.2.1 77 10) := (W_n W198 (fun z => absurd z.1 (by decide)) (F_n F190 (show ¬ (77 = 77 ∧ (10 = 4 ∨ 10 = 5)) by decide) rfl))
          have t_210 : (M199.2.1 77 10).toInt = (M179.2.1 77 10).toInt := congrArg Int32.toInt c_209
          have j_211 := (RS_f (fun a i z => W_n W198 (tg_159 a i _ z) rfl) (RS_f (tg_40 F190) p_178.1))
          have z_212 := RS_b j_211 (a := (x_ns t nn (x_ns t nn (x_ns t nn a)))) (by omega)
          have j_213 := (TR_f (fun a i z => W_n W198 (tg_160 a i _ z) rfl) (TR_f (tg_41 F190) (TR_f (tg_42 F173) j_171)))
          have j_214 := (W9_f (fun a i z => W_n W198 (tg_161 a i _ z) rfl) (W9_f (tg_43 F190) (W9_f (tg_44 F173) j_172)))
          refine E_156 hX (dp1 hd (by decide)) hG200 (by omega) (by omega) (by omega) (by omega) j_213 j_214  (fun M221 hG216 F215 p_217 p_218 p_219 p_220 => ?_)
          have F222 := FR.c F201 F215 tg_152
          have b_223 := g_b hG216 (a := 77) (i := 7) (lo := 0) (hi := 500) rfl rfl
          have c_224 : M221.2.1 77 6 = (M.2.1 77 6) := (F_n F215 (show ¬ (77 = 77 ∧ 7 ≤ 6 ∧ 6 ≤ 10) by decide) c_207)
          have t_225 : (M221.2.1 77 6).toInt = (M.2.1 77 6).toInt := congrArg Int32.toInt c_224
          have b_226 := g_b hG216 (a := 77) (i := 8) (lo := 0) (hi := 5) rfl rfl
          have z_227 : x_wps t nn sg a (x_ww t nn sg 1 n9 op A9) = x_wy2 t nn 9 (x_ns t nn (x_ns t nn (x_ns t nn (x_ns t nn a)))) (fun g => x_wnd t nn sg g (x_ww t nn sg 1 n9 op A9)) := z_185.trans (p_wp (by omega))
          have b_228 := g_b hG216 (a := 77) (i := 10) (lo := 0) (hi := 500) rfl rfl
          have z_229 := RS_s p_220.2 (a := (x_ns t nn (x_ns t nn (x_ns t nn a)))) (by omega)
          have z_230 := x_ns_b (t := t) (n := nn) (a := (x_ns t nn (x_ns t nn (x_ns t nn a)))) (by omega) (by omega)
          refine to_an (pc := 86) rw_213_86 rfl ?_
          refine to_c (pc := 87) rw_213_87 (x := (9 : Int32)) rfl rfl ?_
          refine s_v (pc := 89) rw_213_89 (dp0 hd (by decide)) (ls0 := [.ref 77, .int (9 : Int32)]) rfl (Nat.le_of_ble_eq_true rfl) (Nat.le_of_ble_eq_true rfl) rfl (to_rc rfl rfl rfl (g_o hG216 rfl)) rfl ?_
          have k_231 : (9 : Int32).toInt = 9 := rfl
          have j_232 := (TR_f (tg_42 F215) j_213)
          have j_233 := (W9_f (tg_44 F215) j_214)
          refine E_161 hX (dp1 hd (by decide)) hG216 p_220.1 (by omega) (by omega) (by omega) j_232 j_233 (by omega) (by omega) (c := (9 : Int32)) (t := t) (nn := nn) (a := (x_ns t nn (x_ns t nn (x_ns t nn (x_ns t nn a))))) (fun r234 M243 hG236 F235 p_237 p_238 p_239 p_240 p_241 p_242 => ?_)
          have F244 := FR.c F222 F235 tg_150
          have b_245 := g_b hG236 (a := 77) (i := 10) (lo := 0) (hi := 500) rfl rfl
          rcases (show r234.toInt = 0 ∨ r234.toInt = 1 by omega) with h246 | h246
          · skip
            have p_247 := p_241 (by omega)
            have p_248 := p_242 (by omega)
            clear p_240 p_241 p_242
            have z_249 : x_wps t nn sg a (x_ww t nn sg 1 n9 op A9) = Sum.inl (1, (x_ns t nn (x_ns t nn (x_ns t nn (x_ns t nn a))))) := z_227.trans (p_wyx (by omega))
            refine b_ine_f (pc := 92) rw_213_92 (A := r234.toInt) rfl (by omega) ?_
            refine to_c (pc := 95) rw_213_95 (x := (0 : Int32)) rfl rfl ?_
            refine s_r1 (pc := 96) rw_213_96 (A := 0) rfl (by decide) ?_
            have k_250 : (0 : Int32).toInt = 0 := rfl
            exact h (0 : Int32) M243 hG236 F244 (by decide) (by decide) (fun z => by exfalso; omega) (fun r i z z2 => (F_n F235 (show ¬ (r = 77 ∧ (i = 4 ∨ i = 5 ∨ 7 ≤ i ∧ i ≤ 10)) by omega) (F_n F215 (show ¬ (r = 77 ∧ 7 ≤ i ∧ i ≤ 10) by omega) (W_n W198 (by omega) (F_n F190 (show ¬ (r = 77 ∧ (i = 4 ∨ i = 5)) by omega) (F_n F173 (show ¬ (r = 77 ∧ 7 ≤ i ∧ i ≤ 10) by omega) (W_n W155 (by omega) (F_n F147 (show ¬ (r = 77 ∧ (i = 4 ∨ i = 5)) by omega) (F_n F127 (show ¬ (r = 77 ∧ (i = 4 ∨ i = 5 ∨ 7 ≤ i ∧ i ≤ 10)) by omega) (F_n F107 (show ¬ (r = 77 ∧ 7 ≤ i ∧ i ≤ 10) by omega) (W_n W90 (by omega) (F_n F82 (show ¬ (r = 77 ∧ (i = 4 ∨ i = 5)) by omega) rfl)))))))))))) (fun z => by exfalso; omega) (fun _ => winl (by omega) (by omega) z_249)
          · skip
            have p_251 := p_240 (by omega)
            clear p_240 p_241 p_242
            have z_252 : x_wps t nn sg a (x_ww t nn sg 1 n9 op A9) = x_wnd t nn sg (x_ns t nn (x_ns t nn (x_ns t nn (x_ns t nn (x_ns t nn a))))) (x_ww t nn sg 1 n9 op A9) := z_227.trans (p_wy (by omega))
            have z_253 := x_ns_b (t := t) (n := nn) (a := (x_ns t nn (x_ns t nn (x_ns t nn (x_ns t nn a))))) (by omega) (by omega)
            refine b_ine_t (pc := 92) rw_213_92 (A := r234.toInt) rfl (by omega) ?_
            have b_254 := g_b hG236 (a := 77) (i := 8) (lo := 0) (hi := 5) rfl rfl
            have z_255 := RS_k p_239 (a := (x_ns t nn (x_ns t nn (x_ns t nn (x_ns t nn (x_ns t nn a)))))) (by omega)
            refine to_an (pc := 97) rw_213_97 rfl ?_
            refine tt_gI (pc := 98) rw_213_98 (g_o hG236 rfl) (v := (M243.2.1 77 8)) rfl ?_
            refine to_c (pc := 101) rw_213_101 (x := (3 : Int32)) rfl rfl ?_
            refine b_ceq (pc := 102) rw_213_102 (A := (M243.2.1 77 8).toInt) (B := 3) rfl rfl (fun h256 => ?_) (fun h256 => ?_)
            · refine to_an (pc := 119) rw_213_119 rfl ?_
              refine s_gR (pc := 120) rw_213_120 hG236 rfl (v := 106) rfl ?_
              refine to_in (pc := 123) rw_213_123 rfl ?_
              refine to_cl (pc := 124) rw_213_124 rfl (x := (0 : Int64)) rfl ?_
              refine s_las (pc := 125) rw_213_125 hG236 rfl (n := 40) rfl (A := e.toInt) rfl (by omega) (by omega) (fun M258 W257 => ?_)
              have hG259 := g_wl hG236 W257
              have F260 := FR.wl F244 W257 (show 106 = 77 ∧ ((e.toInt).toNat = 4 ∨ (e.toInt).toNat = 5 ∨ 7 ≤ (e.toInt).toNat ∧ (e.toInt).toNat ≤ 10) ∨ 102 ≤ 106 ∧ 106 ≤ 104 ∨ 106 = 106 ∨ 106 = 107 by omega)
              refine to_an (pc := 126) rw_213_126 rfl ?_
              refine s_gR (pc := 127) rw_213_127 hG259 rfl (v := 107) rfl ?_
              refine to_in (pc := 130) rw_213_130 rfl ?_
              refine to_c (pc := 131) rw_213_131 (x := (0 : Int32)) rfl rfl ?_
              refine s_ias (pc := 132) rw_213_132 hG259 rfl (n := 40) rfl (A := e.toInt) rfl (by omega) (by omega) (fun M262 W261 => ?_)
              have hG263 := g_wf hG259 W261 rfl rfl (by decide)
              have F264 := FR.w F260 W261 (show 107 = 77 ∧ ((e.toInt).toNat = 4 ∨ (e.toInt).toNat = 5 ∨ 7 ≤ (e.toInt).toNat ∧ (e.toInt).toNat ≤ 10) ∨ 102 ≤ 107 ∧ 107 ≤ 104 ∨ 107 = 106 ∨ 107 = 107 by omega)
              have j_265 := (RS_f (fun a i z => W_n W261 (tg_141 a i _ z) rfl) (RS_f (fun a i z => W_l W257 rfl) p_239))
              have j_266 := (TR_f (fun a i z => W_n W261 (tg_162 a i _ z) rfl) (TR_f (fun a i z => W_l W257 rfl) (TR_f (tg_145 F235) j_232)))
              have j_267 := (W9_f (fun a i z => W_n W261 (tg_163 a i _ z) rfl) (W9_f (fun a i z => W_l W257 rfl) (W9_f (tg_146 F235) j_233)))
              have j_268 := (PLk_f (fun a i z => W_n W261 (tg_164 a i _ z) rfl) (PLk_f (fun a i z => W_l W257 rfl) (PLk_f (tg_147 F235) (PLk_f (tg_138 F215) (PLk_f (fun a i z => W_n W198 (tg_165 a i _ z) rfl) (PLk_f (tg_148 F190) (PLk_f (tg_138 F173) (PLk_f (fun a i z => W_n W155 (tg_166 a i _ z) rfl) (PLk_f (tg_148 F147) (PLk_f (tg_147 F127) (PLk_f (tg_138 F107) (PLk_f (fun a i z => W_n W90 (tg_167 a i _ z) rfl) (PLk_f (tg_148 F82) q9)))))))))))))
              have c_269 : M262.2.1 77 10 = (M243.2.1 77 10) := (W_n W261 (fun z => absurd z.1 (by decide)) (W_l W257 rfl))
              have t_270 : (M262.2.1 77 10).toInt = (M243.2.1 77 10).toInt := congrArg Int32.toInt c_269
              exact (U_213_0 (e := e) (t := t) (nn := nn) (a := a) (sg := sg) (n9 := n9) (op := op) (A9 := A9) hX hd q1 q2 q3 q4 q5 q6 q7 q8 q9 h ((501 - (M262.2.1 77 10).toInt).toNat + 1)) M262  hG263 F264 j_265 (by omega) (by omega) j_266 j_267 j_268 (fun r i z z2 => (W_n W261 (by omega) (W_l W257 (F_n F235 (show ¬ (r = 77 ∧ (i = 4 ∨ i = 5 ∨ 7 ≤ i ∧ i ≤ 10)) by omega) (F_n F215 (show ¬ (r = 77 ∧ 7 ≤ i ∧ i ≤ 10) by omega) (W_n W198 (by omega) (F_n F190 (show ¬ (r = 77 ∧ (i = 4 ∨ i = 5)) by omega) (F_n F173 (show ¬ (r = 77 ∧ 7 ≤ i ∧ i ≤ 10) by omega) (W_n W155 (by omega) (F_n F147 (show ¬ (r = 77 ∧ (i = 4 ∨ i = 5)) by omega) (F_n F127 (show ¬ (r = 77 ∧ (i = 4 ∨ i = 5 ∨ 7 ≤ i ∧ i ≤ 10)) by omega) (F_n F107 (show ¬ (r = 77 ∧ 7 ≤ i ∧ i ≤ 10) by omega) (W_n W90 (by omega) (F_n F82 (show ¬ (r = 77 ∧ (i = 4 ∨ i = 5)) by omega) rfl)))))))))))))) ((z_252.trans (w1_n (n := n9) (op := op) (A := A9) (by omega) (by omega) (by omega)).symm).trans (w_v rfl (by omega))) (by omega)
            · refine to_an (pc := 105) rw_213_105 rfl ?_
              refine tt_gI (pc := 106) rw_213_106 (g_o hG236 rfl) (v := (M243.2.1 77 8)) rfl ?_
              refine to_c (pc := 109) rw_213_109 (x := (2 : Int32)) rfl rfl ?_
              refine b_ceq (pc := 110) rw_213_110 (A := (M243.2.1 77 8).toInt) (B := 2) rfl rfl (fun h271 => ?_) (fun h271 => ?_)
              · refine to_an (pc := 119) rw_213_119 rfl ?_
                refine s_gR (pc := 120) rw_213_120 hG236 rfl (v := 106) rfl ?_
                refine to_in (pc := 123) rw_213_123 rfl ?_
                refine to_cl (pc := 124) rw_213_124 rfl (x := (0 : Int64)) rfl ?_
                refine s_las (pc := 125) rw_213_125 hG236 rfl (n := 40) rfl (A := e.toInt) rfl (by omega) (by omega) (fun M273 W272 => ?_)
                have hG274 := g_wl hG236 W272
                have F275 := FR.wl F244 W272 (show 106 = 77 ∧ ((e.toInt).toNat = 4 ∨ (e.toInt).toNat = 5 ∨ 7 ≤ (e.toInt).toNat ∧ (e.toInt).toNat ≤ 10) ∨ 102 ≤ 106 ∧ 106 ≤ 104 ∨ 106 = 106 ∨ 106 = 107 by omega)
                refine to_an (pc := 126) rw_213_126 rfl ?_
                refine s_gR (pc := 127) rw_213_127 hG274 rfl (v := 107) rfl ?_
                refine to_in (pc := 130) rw_213_130 rfl ?_
                refine to_c (pc := 131) rw_213_131 (x := (0 : Int32)) rfl rfl ?_
                refine s_ias (pc := 132) rw_213_132 hG274 rfl (n := 40) rfl (A := e.toInt) rfl (by omega) (by omega) (fun M277 W276 => ?_)
                have hG278 := g_wf hG274 W276 rfl rfl (by decide)
                have F279 := FR.w F275 W276 (show 107 = 77 ∧ ((e.toInt).toNat = 4 ∨ (e.toInt).toNat = 5 ∨ 7 ≤ (e.toInt).toNat ∧ (e.toInt).toNat ≤ 10) ∨ 102 ≤ 107 ∧ 107 ≤ 104 ∨ 107 = 106 ∨ 107 = 107 by omega)
                have j_280 := (RS_f (fun a i z => W_n W276 (tg_141 a i _ z) rfl) (RS_f (fun a i z => W_l W272 rfl) p_239))
                have j_281 := (TR_f (fun a i z => W_n W276 (tg_162 a i _ z) rfl) (TR_f (fun a i z => W_l W272 rfl) (TR_f (tg_145 F235) j_232)))
                have j_282 := (W9_f (fun a i z => W_n W276 (tg_163 a i _ z) rfl) (W9_f (fun a i z => W_l W272 rfl) (W9_f (tg_146 F235) j_233)))
                have j_283 := (PLk_f (fun a i z => W_n W276 (tg_164 a i _ z) rfl) (PLk_f (fun a i z => W_l W272 rfl) (PLk_f (tg_147 F235) (PLk_f (tg_138 F215) (PLk_f (fun a i z => W_n W198 (tg_165 a i _ z) rfl) (PLk_f (tg_148 F190) (PLk_f (tg_138 F173) (PLk_f (fun a i z => W_n W155 (tg_166 a i _ z) rfl) (PLk_f (tg_148 F147) (PLk_f (tg_147 F127) (PLk_f (tg_138 F107) (PLk_f (fun a i z => W_n W90 (tg_167 a i _ z) rfl) (PLk_f (tg_148 F82) q9)))))))))))))
                have c_284 : M277.2.1 77 10 = (M243.2.1 77 10) := (W_n W276 (fun z => absurd z.1 (by decide)) (W_l W272 rfl))
                have t_285 : (M277.2.1 77 10).toInt = (M243.2.1 77 10).toInt := congrArg Int32.toInt c_284
                exact (U_213_0 (e := e) (t := t) (nn := nn) (a := a) (sg := sg) (n9 := n9) (op := op) (A9 := A9) hX hd q1 q2 q3 q4 q5 q6 q7 q8 q9 h ((501 - (M277.2.1 77 10).toInt).toNat + 1)) M277  hG278 F279 j_280 (by omega) (by omega) j_281 j_282 j_283 (fun r i z z2 => (W_n W276 (by omega) (W_l W272 (F_n F235 (show ¬ (r = 77 ∧ (i = 4 ∨ i = 5 ∨ 7 ≤ i ∧ i ≤ 10)) by omega) (F_n F215 (show ¬ (r = 77 ∧ 7 ≤ i ∧ i ≤ 10) by omega) (W_n W198 (by omega) (F_n F190 (show ¬ (r = 77 ∧ (i = 4 ∨ i = 5)) by omega) (F_n F173 (show ¬ (r = 77 ∧ 7 ≤ i ∧ i ≤ 10) by omega) (W_n W155 (by omega) (F_n F147 (show ¬ (r = 77 ∧ (i = 4 ∨ i = 5)) by omega) (F_n F127 (show ¬ (r = 77 ∧ (i = 4 ∨ i = 5 ∨ 7 ≤ i ∧ i ≤ 10)) by omega) (F_n F107 (show ¬ (r = 77 ∧ 7 ≤ i ∧ i ≤ 10) by omega) (W_n W90 (by omega) (F_n F82 (show ¬ (r = 77 ∧ (i = 4 ∨ i = 5)) by omega) rfl)))))))))))))) ((z_252.trans (w1_n (n := n9) (op := op) (A := A9) (by omega) (by omega) (by omega)).symm).trans (w_v rfl (by omega))) (by omega)
              · refine to_an (pc := 113) rw_213_113 rfl ?_
                refine to_c (pc := 114) rw_213_114 (x := (1 : Int32)) rfl rfl ?_
                refine s_v (pc := 115) rw_213_115 (dp0 hd (by decide)) (ls0 := [.ref 77, .int (1 : Int32)]) rfl (Nat.le_of_ble_eq_true rfl) (Nat.le_of_ble_eq_true rfl) rfl (to_rc rfl rfl rfl (g_o hG236 rfl)) rfl ?_
                refine to_an (pc := 0) rw_152_0 rfl ?_
                refine to_in (pc := 1) rw_152_1 rfl ?_
                refine s_pI (pc := 2) rw_152_2 hG236 rfl (fun M287 W286 => ?_)
                have hG288 := g_wf hG236 W286 rfl rfl (by decide)
                have F289 := FR.w F244 W286 (show 77 = 77 ∧ (4 = 4 ∨ 4 = 5 ∨ 7 ≤ 4 ∧ 4 ≤ 10) ∨ 102 ≤ 77 ∧ 77 ≤ 104 ∨ 77 = 106 ∨ 77 = 107 by decide)
                refine to_an (pc := 5) rw_152_5 rfl ?_
                refine to_an (pc := 6) rw_152_6 rfl ?_
                have c_290 : M287.2.1 77 10 = (M243.2.1 77 10) := (W_n W286 (by decide) rfl)
                refine tt_gI (pc := 7) rw_152_7 (g_o hG288 rfl) (v := (M243.2.1 77 10)) c_290 ?_
                refine s_pI (pc := 10) rw_152_10 hG288 rfl (fun M292 W291 => ?_)
                have hG293 := g_wf hG288 W291 rfl rfl (by decide)
                have F294 := FR.w F289 W291 (show 77 = 77 ∧ (5 = 4 ∨ 5 = 5 ∨ 7 ≤ 5 ∧ 5 ≤ 10) ∨ 102 ≤ 77 ∧ 77 ≤ 104 ∨ 77 = 106 ∨ 77 = 107 by decide)
                refine to_c (pc := 13) rw_152_13 (x := (0 : Int32)) rfl rfl ?_
                refine s_r1 (pc := 14) rw_152_14 (A := 0) rfl (by decide) ?_
                refine s_r1 (pc := 118) rw_213_118 (A := 0) rfl (by decide) ?_
                have k_295 : (0 : Int32).toInt = 0 := rfl
                have c_296 : M292.2.1 77 4 = (1 : Int32) := (W_n W291 (by decide) (W_e W286))
                have k_297 : (1 : Int32).toInt = 1 := rfl
                have t_298 : (M292.2.1 77 4).toInt = (1 : Int32).toInt := congrArg Int32.toInt c_296
                have c_299 : M292.2.1 77 5 = (M243.2.1 77 10) := (W_e W291)
                have t_300 : (M292.2.1 77 5).toInt = (M243.2.1 77 10).toInt := congrArg Int32.toInt c_299
                have z_301 : x_wps t nn sg a (x_ww t nn sg 1 n9 op A9) = Sum.inl (1, (x_ns t nn (x_ns t nn (x_ns t nn (x_ns t nn (x_ns t nn a)))))) := z_252.trans ((p_ndn (by omega)).trans (p_nb1 (by omega)))
                exact h (0 : Int32) M292 hG293 F294 (by decide) (by decide) (fun z => by exfalso; omega) (fun r i z z2 => (W_n W291 (by omega) (W_n W286 (by omega) (F_n F235 (show ¬ (r = 77 ∧ (i = 4 ∨ i = 5 ∨ 7 ≤ i ∧ i ≤ 10)) by omega) (F_n F215 (show ¬ (r = 77 ∧ 7 ≤ i ∧ i ≤ 10) by omega) (W_n W198 (by omega) (F_n F190 (show ¬ (r = 77 ∧ (i = 4 ∨ i = 5)) by omega) (F_n F173 (show ¬ (r = 77 ∧ 7 ≤ i ∧ i ≤ 10) by omega) (W_n W155 (by omega) (F_n F147 (show ¬ (r = 77 ∧ (i = 4 ∨ i = 5)) by omega) (F_n F127 (show ¬ (r = 77 ∧ (i = 4 ∨ i = 5 ∨ 7 ≤ i ∧ i ≤ 10)) by omega) (F_n F107 (show ¬ (r = 77 ∧ 7 ≤ i ∧ i ≤ 10) by omega) (W_n W90 (by omega) (F_n F82 (show ¬ (r = 77 ∧ (i = 4 ∨ i = 5)) by omega) rfl)))))))))))))) (fun z => by exfalso; omega) (fun _ => winl (by omega) (by omega) z_301)
        · refine to_c (pc := 80) rw_213_80 (x := (0 : Int32)) rfl rfl ?_
          refine s_r1 (pc := 81) rw_213_81 (A := 0) rfl (by decide) ?_
          have k_302 : (0 : Int32).toInt = 0 := rfl
          have c_303 : M199.2.1 77 4 = (M196.2.1 77 4) := (W_n W198 (fun z => absurd z.1 (by decide)) rfl)
          have t_304 : (M199.2.1 77 4).toInt = (M196.2.1 77 4).toInt := congrArg Int32.toInt c_303
          have c_305 : M199.2.1 77 5 = (M196.2.1 77 5) := (W_n W198 (fun z => absurd z.1 (by decide)) rfl)
          have t_306 : (M199.2.1 77 5).toInt = (M196.2.1 77 5).toInt := congrArg Int32.toInt c_305
          have z_307 : x_wps t nn sg a (x_ww t nn sg 1 n9 op A9) = Sum.inl (1, (x_ns t nn (x_ns t nn (x_ns t nn a)))) := z_185.trans (p_wpx (by omega))
          exact h (0 : Int32) M199 hG200 F201 (by decide) (by decide) (fun z => by exfalso; omega) (fun r i z z2 => (W_n W198 (by omega) (F_n F190 (show ¬ (r = 77 ∧ (i = 4 ∨ i = 5)) by omega) (F_n F173 (show ¬ (r = 77 ∧ 7 ≤ i ∧ i ≤ 10) by omega) (W_n W155 (by omega) (F_n F147 (show ¬ (r = 77 ∧ (i = 4 ∨ i = 5)) by omega) (F_n F127 (show ¬ (r = 77 ∧ (i = 4 ∨ i = 5 ∨ 7 ≤ i ∧ i ≤ 10)) by omega) (F_n F107 (show ¬ (r = 77 ∧ 7 ≤ i ∧ i ≤ 10) by omega) (W_n W90 (by omega) (F_n F82 (show ¬ (r = 77 ∧ (i = 4 ∨ i = 5)) by omega) rfl)))))))))) (fun z => by exfalso; omega) (fun _ => winl (by omega) (by omega) z_307)
      · refine to_c (pc := 55) rw_213_55 (x := (0 : Int32)) rfl rfl ?_
        refine s_r1 (pc := 56) rw_213_56 (A := 0) rfl (by decide) ?_
        have k_308 : (0 : Int32).toInt = 0 := rfl
        have c_309 : M156.2.1 77 4 = (M153.2.1 77 4) := (W_n W155 (fun z => absurd z.1 (by decide)) rfl)
        have t_310 : (M156.2.1 77 4).toInt = (M153.2.1 77 4).toInt := congrArg Int32.toInt c_309
        have c_311 : M156.2.1 77 5 = (M153.2.1 77 5) := (W_n W155 (fun z => absurd z.1 (by decide)) rfl)
        have t_312 : (M156.2.1 77 5).toInt = (M153.2.1 77 5).toInt := congrArg Int32.toInt c_311
        have z_313 : x_wps t nn sg a (x_ww t nn sg 1 n9 op A9) = Sum.inl (1, (x_ns t nn (x_ns t nn a))) := z_144.trans (p_wpx (by omega))
        exact h (0 : Int32) M156 hG157 F158 (by decide) (by decide) (fun z => by exfalso; omega) (fun r i z z2 => (W_n W155 (by omega) (F_n F147 (show ¬ (r = 77 ∧ (i = 4 ∨ i = 5)) by omega) (F_n F127 (show ¬ (r = 77 ∧ (i = 4 ∨ i = 5 ∨ 7 ≤ i ∧ i ≤ 10)) by omega) (F_n F107 (show ¬ (r = 77 ∧ 7 ≤ i ∧ i ≤ 10) by omega) (W_n W90 (by omega) (F_n F82 (show ¬ (r = 77 ∧ (i = 4 ∨ i = 5)) by omega) rfl))))))) (fun z => by exfalso; omega) (fun _ => winl (by omega) (by omega) z_313)
  · refine to_c (pc := 19) rw_213_19 (x := (0 : Int32)) rfl rfl ?_
    refine s_r1 (pc := 20) rw_213_20 (A := 0) rfl (by decide) ?_
    have k_314 : (0 : Int32).toInt = 0 := rfl
    have c_315 : M91.2.1 77 4 = (M88.2.1 77 4) := (W_n W90 (fun z => absurd z.1 (by decide)) rfl)
    have t_316 : (M91.2.1 77 4).toInt = (M88.2.1 77 4).toInt := congrArg Int32.toInt c_315
    have c_317 : M91.2.1 77 5 = (M88.2.1 77 5) := (W_n W90 (fun z => absurd z.1 (by decide)) rfl)
    have t_318 : (M91.2.1 77 5).toInt = (M88.2.1 77 5).toInt := congrArg Int32.toInt c_317
    have z_319 : x_wps t nn sg a (x_ww t nn sg 1 n9 op A9) = Sum.inl (1, a) := p_wpx (by omega)
    exact h (0 : Int32) M91 hG92 F93 (by decide) (by decide) (fun z => by exfalso; omega) (fun r i z z2 => (W_n W90 (by omega) (F_n F82 (show ¬ (r = 77 ∧ (i = 4 ∨ i = 5)) by omega) rfl))) (fun z => by exfalso; omega) (fun _ => winl (by omega) (by omega) z_319)
set_option maxRecDepth 4000 in
set_option maxHeartbeats 0 in
theorem E_214 {X : mm_X} {d : Nat} {M : mm_M} {Q : Option Value → mm_M → Prop} {e : Int32} {t : Nat → Int} {nn : Int} {a : Int} (hX : g_X X) (hd : 3 ≤ d) (hG : g_G M) (q1 : 0 ≤ e.toInt) (q2 : e.toInt ≤ 39) (q3 : RS M t nn) (q4 : (M.2.1 77 10).toInt = a) (q5 : 0 ≤ nn) (q6 : nn ≤ 500) (q7 : TR M t nn) (q8 : W9 M) (h : ∀ (r : Int32) (M1 : mm_M), g_G M1 → FR md_ps M M1 → (0 ≤ r.toInt) → (r.toInt ≤ 1) → ((r.toInt = 1 → RS M1 t nn)) → (∀ r i : Nat, (102 ≤ r ∧ r ≤ 104) → ¬ i = (e.toInt).toNat → M1.2.1 r i = M.2.1 r i) → ((r.toInt = 1 → ∀ k : Int → x_WR, x_wjn t nn a k = k (M1.2.1 77 10).toInt)) → ((r.toInt = 0 → ∀ k : Int → x_WR, x_wjn t nn a k = Sum.inl ((M1.2.1 77 4).toInt, (M1.2.1 77 5).toInt))) → Q (some (.int r)) M1) : mm_T X d 213 0 [.ref 77, .int e] [] M Q := by
  have F0 : FR md_ps M M := FR.rf
  have b_1 := g_b hG (a := 77) (i := 10) (lo := 0) (hi := 500) rfl rfl
  have b_2 := g_b hG (a := 77) (i := 6) (lo := 0) (hi := 500) rfl rfl
  have b_3 := g_b hG (a := 77) (i := 7) (lo := 0) (hi := 500) rfl rfl
  have z_4 := RS_b q3 (a := a) (by omega)
  have z_5 := x_pk_b (t := t) (nn := nn) (a := a)
  have z_6 := x_pk_b (t := t) (nn := nn) (a := (x_ns t nn a))
  refine to_an (pc := 0) rw_214_0 rfl ?_
  refine s_gR (pc := 1) rw_214_1 hG rfl (v := 102) rfl ?_
  refine to_in (pc := 4) rw_214_4 rfl ?_
  refine to_an (pc := 5) rw_214_5 rfl ?_
  refine s_v (pc := 6) rw_214_6 (dp0 hd (by decide)) (ls0 := [.ref 77, .null, .null]) rfl (Nat.le_of_ble_eq_true rfl) (Nat.le_of_ble_eq_true rfl) rfl (to_rc rfl rfl rfl (g_o hG rfl)) rfl ?_
  refine E_211 hX (dp1 hd (by decide)) hG q3 (by omega) (t := t) (nn := nn) (a := a) (fun r7 M14 hG9 F8 p_10 p_11 p_12 p_13 => ?_)
  have F15 := FR.c F0 F8 tg_151
  refine s_ias (pc := 9) rw_214_9 hG9 rfl (n := 40) rfl (A := e.toInt) rfl (by omega) (by omega) (fun M17 W16 => ?_)
  have hG18 := g_w hG9 W16 (A := r7.toInt) rfl (lo := -1) (hi := 99) rfl rfl (by omega) (by decide)
  have F19 := FR.w F15 W16 (show 102 = 77 ∧ ((e.toInt).toNat = 4 ∨ (e.toInt).toNat = 5 ∨ 7 ≤ (e.toInt).toNat ∧ (e.toInt).toNat ≤ 10) ∨ 102 ≤ 102 ∧ 102 ≤ 104 ∨ 102 = 106 ∨ 102 = 107 by omega)
  refine to_an (pc := 10) rw_214_10 rfl ?_
  refine s_gR (pc := 11) rw_214_11 hG18 rfl (v := 102) rfl ?_
  refine to_in (pc := 14) rw_214_14 rfl ?_
  refine s_ialk (pc := 15) rw_214_15 hG18 rfl (n := 40) rfl rfl (A := e.toInt) rfl (by omega) (by omega) (v := r7) (W_e W16) ?_
  refine b_ige (pc := 16) rw_214_16 (A := r7.toInt) rfl (fun h22 => ?_) (fun h22 => ?_)
  · refine to_an (pc := 21) rw_214_21 rfl ?_
    refine s_v (pc := 22) rw_214_22 (dp0 hd (by decide)) (ls0 := [.ref 77]) rfl (Nat.le_of_ble_eq_true rfl) (Nat.le_of_ble_eq_true rfl) rfl (to_rc rfl rfl rfl (g_o hG18 rfl)) rfl ?_
    have c_23 : M17.2.1 77 7 = (M.2.1 77 7) := (W_n W16 (fun z => absurd z.1 (by decide)) (F_n F8 (show ¬ (77 = 77 ∧ (7 = 4 ∨ 7 = 5)) by decide) rfl))
    have t_24 : (M17.2.1 77 7).toInt = (M.2.1 77 7).toInt := congrArg Int32.toInt c_23
    have c_25 : M17.2.1 77 6 = (M.2.1 77 6) := (W_n W16 (fun z => absurd z.1 (by decide)) (F_n F8 (show ¬ (77 = 77 ∧ (6 = 4 ∨ 6 = 5)) by decide) rfl))
    have t_26 : (M17.2.1 77 6).toInt = (M.2.1 77 6).toInt := congrArg Int32.toInt c_25
    have c_27 : M17.2.1 77 10 = (M.2.1 77 10) := (W_n W16 (fun z => absurd z.1 (by decide)) (F_n F8 (show ¬ (77 = 77 ∧ (10 = 4 ∨ 10 = 5)) by decide) rfl))
    have t_28 : (M17.2.1 77 10).toInt = (M.2.1 77 10).toInt := congrArg Int32.toInt c_27
    have j_29 := (RS_f (fun a i z => W_n W16 (tg_153 a i _ z) rfl) (RS_f (tg_40 F8) q3))
    have z_30 := RS_b j_29 (a := a) (by omega)
    have j_31 := (TR_f (fun a i z => W_n W16 (tg_154 a i _ z) rfl) (TR_f (tg_41 F8) q7))
    have j_32 := (W9_f (fun a i z => W_n W16 (tg_155 a i _ z) rfl) (W9_f (tg_43 F8) q8))
    refine E_156 hX (dp1 hd (by decide)) hG18 (by omega) (by omega) (by omega) (by omega) j_31 j_32  (fun M39 hG34 F33 p_35 p_36 p_37 p_38 => ?_)
    have F40 := FR.c F19 F33 tg_152
    have b_41 := g_b hG34 (a := 77) (i := 7) (lo := 0) (hi := 500) rfl rfl
    have c_42 : M39.2.1 77 6 = (M.2.1 77 6) := (F_n F33 (show ¬ (77 = 77 ∧ 7 ≤ 6 ∧ 6 ≤ 10) by decide) c_25)
    have t_43 : (M39.2.1 77 6).toInt = (M.2.1 77 6).toInt := congrArg Int32.toInt c_42
    have b_44 := g_b hG34 (a := 77) (i := 8) (lo := 0) (hi := 5) rfl rfl
    have b_45 := g_b hG34 (a := 77) (i := 10) (lo := 0) (hi := 500) rfl rfl
    have z_46 := RS_s p_38.2 (a := a) (by omega)
    refine to_an (pc := 25) rw_214_25 rfl ?_
    refine s_gR (pc := 26) rw_214_26 hG34 rfl (v := 103) rfl ?_
    refine to_in (pc := 29) rw_214_29 rfl ?_
    refine to_an (pc := 30) rw_214_30 rfl ?_
    refine s_v (pc := 31) rw_214_31 (dp0 hd (by decide)) (ls0 := [.ref 77, .null, .null]) rfl (Nat.le_of_ble_eq_true rfl) (Nat.le_of_ble_eq_true rfl) rfl (to_rc rfl rfl rfl (g_o hG34 rfl)) rfl ?_
    refine E_211 hX (dp1 hd (by decide)) hG34 p_38.1 (by omega) (t := t) (nn := nn) (a := (x_ns t nn a)) (fun r47 M54 hG49 F48 p_50 p_51 p_52 p_53 => ?_)
    have F55 := FR.c F40 F48 tg_151
    refine s_ias (pc := 34) rw_214_34 hG49 rfl (n := 40) rfl (A := e.toInt) rfl (by omega) (by omega) (fun M57 W56 => ?_)
    have hG58 := g_w hG49 W56 (A := r47.toInt) rfl (lo := -1) (hi := 5) rfl rfl (by omega) (by decide)
    have F59 := FR.w F55 W56 (show 103 = 77 ∧ ((e.toInt).toNat = 4 ∨ (e.toInt).toNat = 5 ∨ 7 ≤ (e.toInt).toNat ∧ (e.toInt).toNat ≤ 10) ∨ 102 ≤ 103 ∧ 103 ≤ 104 ∨ 103 = 106 ∨ 103 = 107 by omega)
    refine to_an (pc := 35) rw_214_35 rfl ?_
    refine s_gR (pc := 36) rw_214_36 hG58 rfl (v := 103) rfl ?_
    refine to_in (pc := 39) rw_214_39 rfl ?_
    refine s_ialk (pc := 40) rw_214_40 hG58 rfl (n := 40) rfl rfl (A := e.toInt) rfl (by omega) (by omega) (v := r47) (W_e W56) ?_
    refine b_ige (pc := 41) rw_214_41 (A := r47.toInt) rfl (fun h62 => ?_) (fun h62 => ?_)
    · refine to_an (pc := 46) rw_214_46 rfl ?_
      refine s_gR (pc := 47) rw_214_47 hG58 rfl (v := 103) rfl ?_
      refine to_in (pc := 50) rw_214_50 rfl ?_
      refine s_ialk (pc := 51) rw_214_51 hG58 rfl (n := 40) rfl rfl (A := e.toInt) rfl (by omega) (by omega) (v := r47) (W_e W56) ?_
      refine to_an (pc := 52) rw_214_52 rfl ?_
      refine s_gR (pc := 53) rw_214_53 hG58 rfl (v := 102) rfl ?_
      refine to_in (pc := 56) rw_214_56 rfl ?_
      refine s_ialk (pc := 57) rw_214_57 hG58 rfl (n := 40) rfl rfl (A := e.toInt) rfl (by omega) (by omega) (v := r7) (W_n W56 (by omega) (F_n F48 (show ¬ (102 = 77 ∧ ((e.toInt).toNat = 4 ∨ (e.toInt).toNat = 5)) by omega) (F_n F33 (show ¬ (102 = 77 ∧ 7 ≤ (e.toInt).toNat ∧ (e.toInt).toNat ≤ 10) by omega) (W_e W16)))) ?_
      refine b_cne (pc := 58) rw_214_58 (A := r47.toInt) (B := r7.toInt) rfl rfl (fun h67 => ?_) (fun h67 => ?_)
      · refine to_an (pc := 67) rw_214_67 rfl ?_
        refine s_v (pc := 68) rw_214_68 (dp0 hd (by decide)) (ls0 := [.ref 77]) rfl (Nat.le_of_ble_eq_true rfl) (Nat.le_of_ble_eq_true rfl) rfl (to_rc rfl rfl rfl (g_o hG58 rfl)) rfl ?_
        have c_68 : M57.2.1 77 7 = (M39.2.1 77 7) := (W_n W56 (fun z => absurd z.1 (by decide)) (F_n F48 (show ¬ (77 = 77 ∧ (7 = 4 ∨ 7 = 5)) by decide) rfl))
        have t_69 : (M57.2.1 77 7).toInt = (M39.2.1 77 7).toInt := congrArg Int32.toInt c_68
        have c_70 : M57.2.1 77 6 = (M.2.1 77 6) := (W_n W56 (fun z => absurd z.1 (by decide)) (F_n F48 (show ¬ (77 = 77 ∧ (6 = 4 ∨ 6 = 5)) by decide) c_42))
        have t_71 : (M57.2.1 77 6).toInt = (M.2.1 77 6).toInt := congrArg Int32.toInt c_70
        have c_72 : M57.2.1 77 10 = (M39.2.1 77 10) := (W_n W56 (fun z => absurd z.1 (by decide)) (F_n F48 (show ¬ (77 = 77 ∧ (10 = 4 ∨ 10 = 5)) by decide) rfl))
        have t_73 : (M57.2.1 77 10).toInt = (M39.2.1 77 10).toInt := congrArg Int32.toInt c_72
        have j_74 := (RS_f (fun a i z => W_n W56 (tg_156 a i _ z) rfl) (RS_f (tg_40 F48) p_38.1))
        have z_75 := RS_b j_74 (a := (x_ns t nn a)) (by omega)
        have j_76 := (TR_f (fun a i z => W_n W56 (tg_157 a i _ z) rfl) (TR_f (tg_41 F48) (TR_f (tg_42 F33) j_31)))
        have j_77 := (W9_f (fun a i z => W_n W56 (tg_158 a i _ z) rfl) (W9_f (tg_43 F48) (W9_f (tg_44 F33) j_32)))
        refine E_156 hX (dp1 hd (by decide)) hG58 (by omega) (by omega) (by omega) (by omega) j_76 j_77  (fun M84 hG79 F78 p_80 p_81 p_82 p_83 => ?_)
        have F85 := FR.c F59 F78 tg_152
        have b_86 := g_b hG79 (a := 77) (i := 7) (lo := 0) (hi := 500) rfl rfl
        have c_87 : M84.2.1 77 6 = (M.2.1 77 6) := (F_n F78 (show ¬ (77 = 77 ∧ 7 ≤ 6 ∧ 6 ≤ 10) by decide) c_70)
        have t_88 : (M84.2.1 77 6).toInt = (M.2.1 77 6).toInt := congrArg Int32.toInt c_87
        have b_89 := g_b hG79 (a := 77) (i := 8) (lo := 0) (hi := 5) rfl rfl
        have b_90 := g_b hG79 (a := 77) (i := 10) (lo := 0) (hi := 500) rfl rfl
        have z_91 := RS_s p_83.2 (a := (x_ns t nn a)) (by omega)
        refine to_an (pc := 71) rw_214_71 rfl ?_
        refine to_c (pc := 72) rw_214_72 (x := (59 : Int32)) rfl rfl ?_
        refine s_v (pc := 74) rw_214_74 (dp0 hd (by decide)) (ls0 := [.ref 77, .int (59 : Int32)]) rfl (Nat.le_of_ble_eq_true rfl) (Nat.le_of_ble_eq_true rfl) rfl (to_rc rfl rfl rfl (g_o hG79 rfl)) rfl ?_
        have k_92 : (59 : Int32).toInt = 59 := rfl
        have j_93 := (TR_f (tg_42 F78) j_76)
        have j_94 := (W9_f (tg_44 F78) j_77)
        refine E_160w hX (dp1 hd (by decide)) hG79 p_83.1 (by omega) (by omega) (by omega) j_93 j_94 (by omega) (c := (59 : Int32)) (t := t) (nn := nn) (a := (x_ns t nn (x_ns t nn a))) (fun r95 M104 hG97 F96 p_98 p_99 p_100 p_101 p_102 p_103 => ?_)
        have F105 := FR.c F85 F96 tg_150
        have b_106 := g_b hG97 (a := 77) (i := 10) (lo := 0) (hi := 500) rfl rfl
        rcases (show r95.toInt = 0 ∨ r95.toInt = 1 by omega) with h107 | h107
        · skip
          have p_108 := p_102 (by omega)
          have p_109 := p_103 (by omega)
          clear p_101 p_102 p_103
          refine s_r1 (pc := 77) rw_214_77 (A := r95.toInt) rfl (by omega) ?_
          exact h r95 M104 hG97 F105 (by omega) (by omega) (fun z => by exfalso; omega) (fun r i z z2 => (F_n F96 (show ¬ (r = 77 ∧ (i = 4 ∨ i = 5 ∨ 7 ≤ i ∧ i ≤ 10)) by omega) (F_n F78 (show ¬ (r = 77 ∧ 7 ≤ i ∧ i ≤ 10) by omega) (W_n W56 (by omega) (F_n F48 (show ¬ (r = 77 ∧ (i = 4 ∨ i = 5)) by omega) (F_n F33 (show ¬ (r = 77 ∧ 7 ≤ i ∧ i ≤ 10) by omega) (W_n W16 (by omega) (F_n F8 (show ¬ (r = 77 ∧ (i = 4 ∨ i = 5)) by omega) rfl)))))))) (fun z => by exfalso; omega) (fun _ k9 => winl (by omega) (by omega) (wj_4 (by omega) (by omega) (by omega) (by omega)))
        · skip
          have p_110 := p_101 (by omega)
          clear p_101 p_102 p_103
          refine s_r1 (pc := 77) rw_214_77 (A := r95.toInt) rfl (by omega) ?_
          exact h r95 M104 hG97 F105 (by omega) (by omega) (fun _ => p_100) (fun r i z z2 => (F_n F96 (show ¬ (r = 77 ∧ (i = 4 ∨ i = 5 ∨ 7 ≤ i ∧ i ≤ 10)) by omega) (F_n F78 (show ¬ (r = 77 ∧ 7 ≤ i ∧ i ≤ 10) by omega) (W_n W56 (by omega) (F_n F48 (show ¬ (r = 77 ∧ (i = 4 ∨ i = 5)) by omega) (F_n F33 (show ¬ (r = 77 ∧ 7 ≤ i ∧ i ≤ 10) by omega) (W_n W16 (by omega) (F_n F8 (show ¬ (r = 77 ∧ (i = 4 ∨ i = 5)) by omega) rfl)))))))) (fun _ k9 => by rw [show (M104.2.1 77 10).toInt = (x_ns t nn (x_ns t nn (x_ns t nn a))) by omega]; exact wj_y (by omega) (by omega) (by omega) (by omega)) (fun z => by exfalso; omega)
      · refine to_an (pc := 61) rw_214_61 rfl ?_
        refine to_c (pc := 62) rw_214_62 (x := (3 : Int32)) rfl rfl ?_
        refine s_v (pc := 63) rw_214_63 (dp0 hd (by decide)) (ls0 := [.ref 77, .int (3 : Int32)]) rfl (Nat.le_of_ble_eq_true rfl) (Nat.le_of_ble_eq_true rfl) rfl (to_rc rfl rfl rfl (g_o hG58 rfl)) rfl ?_
        refine to_an (pc := 0) rw_152_0 rfl ?_
        refine to_in (pc := 1) rw_152_1 rfl ?_
        refine s_pI (pc := 2) rw_152_2 hG58 rfl (fun M112 W111 => ?_)
        have hG113 := g_wf hG58 W111 rfl rfl (by decide)
        have F114 := FR.w F59 W111 (show 77 = 77 ∧ (4 = 4 ∨ 4 = 5 ∨ 7 ≤ 4 ∧ 4 ≤ 10) ∨ 102 ≤ 77 ∧ 77 ≤ 104 ∨ 77 = 106 ∨ 77 = 107 by decide)
        refine to_an (pc := 5) rw_152_5 rfl ?_
        refine to_an (pc := 6) rw_152_6 rfl ?_
        have c_115 : M112.2.1 77 10 = (M39.2.1 77 10) := (W_n W111 (by decide) (W_n W56 (fun z => absurd z.1 (by decide)) (F_n F48 (show ¬ (77 = 77 ∧ (10 = 4 ∨ 10 = 5)) by decide) rfl)))
        refine tt_gI (pc := 7) rw_152_7 (g_o hG113 rfl) (v := (M39.2.1 77 10)) c_115 ?_
        refine s_pI (pc := 10) rw_152_10 hG113 rfl (fun M117 W116 => ?_)
        have hG118 := g_wf hG113 W116 rfl rfl (by decide)
        have F119 := FR.w F114 W116 (show 77 = 77 ∧ (5 = 4 ∨ 5 = 5 ∨ 7 ≤ 5 ∧ 5 ≤ 10) ∨ 102 ≤ 77 ∧ 77 ≤ 104 ∨ 77 = 106 ∨ 77 = 107 by decide)
        refine to_c (pc := 13) rw_152_13 (x := (0 : Int32)) rfl rfl ?_
        refine s_r1 (pc := 14) rw_152_14 (A := 0) rfl (by decide) ?_
        refine s_r1 (pc := 66) rw_214_66 (A := 0) rfl (by decide) ?_
        have k_120 : (0 : Int32).toInt = 0 := rfl
        have c_121 : M117.2.1 77 4 = (3 : Int32) := (W_n W116 (by decide) (W_e W111))
        have k_122 : (3 : Int32).toInt = 3 := rfl
        have t_123 : (M117.2.1 77 4).toInt = (3 : Int32).toInt := congrArg Int32.toInt c_121
        have c_124 : M117.2.1 77 5 = (M39.2.1 77 10) := (W_e W116)
        have t_125 : (M117.2.1 77 5).toInt = (M39.2.1 77 10).toInt := congrArg Int32.toInt c_124
        exact h (0 : Int32) M117 hG118 F119 (by decide) (by decide) (fun z => by exfalso; omega) (fun r i z z2 => (W_n W116 (by omega) (W_n W111 (by omega) (W_n W56 (by omega) (F_n F48 (show ¬ (r = 77 ∧ (i = 4 ∨ i = 5)) by omega) (F_n F33 (show ¬ (r = 77 ∧ 7 ≤ i ∧ i ≤ 10) by omega) (W_n W16 (by omega) (F_n F8 (show ¬ (r = 77 ∧ (i = 4 ∨ i = 5)) by omega) rfl)))))))) (fun z => by exfalso; omega) (fun _ k9 => winl (by omega) (by omega) (wj_3 (by omega) (by omega) (by omega)))
    · refine to_c (pc := 44) rw_214_44 (x := (0 : Int32)) rfl rfl ?_
      refine s_r1 (pc := 45) rw_214_45 (A := 0) rfl (by decide) ?_
      have k_126 : (0 : Int32).toInt = 0 := rfl
      have c_127 : M57.2.1 77 4 = (M54.2.1 77 4) := (W_n W56 (fun z => absurd z.1 (by decide)) rfl)
      have t_128 : (M57.2.1 77 4).toInt = (M54.2.1 77 4).toInt := congrArg Int32.toInt c_127
      have c_129 : M57.2.1 77 5 = (M54.2.1 77 5) := (W_n W56 (fun z => absurd z.1 (by decide)) rfl)
      have t_130 : (M57.2.1 77 5).toInt = (M54.2.1 77 5).toInt := congrArg Int32.toInt c_129
      exact h (0 : Int32) M57 hG58 F59 (by decide) (by decide) (fun z => by exfalso; omega) (fun r i z z2 => (W_n W56 (by omega) (F_n F48 (show ¬ (r = 77 ∧ (i = 4 ∨ i = 5)) by omega) (F_n F33 (show ¬ (r = 77 ∧ 7 ≤ i ∧ i ≤ 10) by omega) (W_n W16 (by omega) (F_n F8 (show ¬ (r = 77 ∧ (i = 4 ∨ i = 5)) by omega) rfl)))))) (fun z => by exfalso; omega) (fun _ k9 => winl (by omega) (by omega) (wj_2 (by omega) (by omega)))
  · refine to_c (pc := 19) rw_214_19 (x := (0 : Int32)) rfl rfl ?_
    refine s_r1 (pc := 20) rw_214_20 (A := 0) rfl (by decide) ?_
    have k_131 : (0 : Int32).toInt = 0 := rfl
    have c_132 : M17.2.1 77 4 = (M14.2.1 77 4) := (W_n W16 (fun z => absurd z.1 (by decide)) rfl)
    have t_133 : (M17.2.1 77 4).toInt = (M14.2.1 77 4).toInt := congrArg Int32.toInt c_132
    have c_134 : M17.2.1 77 5 = (M14.2.1 77 5) := (W_n W16 (fun z => absurd z.1 (by decide)) rfl)
    have t_135 : (M17.2.1 77 5).toInt = (M14.2.1 77 5).toInt := congrArg Int32.toInt c_134
    exact h (0 : Int32) M17 hG18 F19 (by decide) (by decide) (fun z => by exfalso; omega) (fun r i z z2 => (W_n W16 (by omega) (F_n F8 (show ¬ (r = 77 ∧ (i = 4 ∨ i = 5)) by omega) rfl))) (fun z => by exfalso; omega) (fun _ k9 => winl (by omega) (by omega) (wj_1 (by omega)))

end
section
theorem tg_168 : ∀ a i : Nat, (a = 77 ∧ 7 ≤ i ∧ i ≤ 10) → (a = 77 ∧ (i = 4 ∨ i = 5 ∨ 7 ≤ i ∧ i ≤ 10) ∨ a = 77 ∧ (i = 44 ∨ i = 52) ∨ 101 ≤ a ∧ a ≤ 108) := fun a i z => by omega
theorem tg_169 : ∀ a i : Nat, (a = 77 ∧ (i = 4 ∨ i = 5 ∨ 7 ≤ i ∧ i ≤ 10) ∨ 102 ≤ a ∧ a ≤ 104 ∨ a = 106 ∨ a = 107) → (a = 77 ∧ (i = 4 ∨ i = 5 ∨ 7 ≤ i ∧ i ≤ 10) ∨ a = 77 ∧ (i = 44 ∨ i = 52) ∨ 101 ≤ a ∧ a ≤ 108) := fun a i z => by omega
theorem tg_170 : ∀ a i : Nat, (a = 77 ∧ 6 ≤ i ∧ i ≤ 10) → ¬ (a = 77 ∧ i = 44) := fun a i z => by omega
theorem tg_171 : ∀ a i j : Nat, (a = 77 ∧ 6 ≤ i ∧ i ≤ 10) → ¬ (a = 101 ∧ i = j) := fun a i j z => by omega
theorem tg_172 : ∀ a i : Nat, a = 78 → ¬ (a = 77 ∧ i = 44) := fun a i z => by omega
theorem tg_173 : ∀ a i j : Nat, a = 78 → ¬ (a = 101 ∧ i = j) := fun a i j z => by omega
theorem tg_174 : ∀ a i : Nat, a = 79 → ¬ (a = 77 ∧ i = 44) := fun a i z => by omega
theorem tg_175 : ∀ a i j : Nat, a = 79 → ¬ (a = 101 ∧ i = j) := fun a i j z => by omega
theorem tg_176 : ∀ a i : Nat, (a = 77 ∧ 11 ≤ i ∧ i ≤ 13 ∨ 80 ≤ a ∧ a ≤ 84 ∧ i < 8 ∨ 85 ≤ a ∧ a ≤ 86 ∧ i < 12) → ¬ (a = 77 ∧ i = 44) := fun a i z => by omega
theorem tg_177 : ∀ a i j : Nat, (a = 77 ∧ 11 ≤ i ∧ i ≤ 13 ∨ 80 ≤ a ∧ a ≤ 84 ∧ i < 8 ∨ 85 ≤ a ∧ a ≤ 86 ∧ i < 12) → ¬ (a = 101 ∧ i = j) := fun a i j z => by omega
theorem tg_178 : ∀ a i : Nat, (a = 77 ∧ 6 ≤ i ∧ i ≤ 10) → ¬ (a = 77 ∧ i = 52) := fun a i z => by omega
theorem tg_179 : ∀ a i j : Nat, (a = 77 ∧ 6 ≤ i ∧ i ≤ 10) → ¬ (a = 108 ∧ i = j) := fun a i j z => by omega
theorem tg_180 : ∀ a i : Nat, a = 78 → ¬ (a = 77 ∧ i = 52) := fun a i z => by omega
theorem tg_181 : ∀ a i j : Nat, a = 78 → ¬ (a = 108 ∧ i = j) := fun a i j z => by omega
theorem tg_182 : ∀ a i : Nat, a = 79 → ¬ (a = 77 ∧ i = 52) := fun a i z => by omega
theorem tg_183 : ∀ a i j : Nat, a = 79 → ¬ (a = 108 ∧ i = j) := fun a i j z => by omega
theorem tg_184 : ∀ a i j : Nat, (a = 77 ∧ 6 ≤ i ∧ i ≤ 10) → ¬ (a = 105 ∧ i = j) := fun a i j z => by omega
theorem tg_185 : ∀ a i j : Nat, a = 78 → ¬ (a = 105 ∧ i = j) := fun a i j z => by omega
theorem tg_186 : ∀ a i j : Nat, a = 79 → ¬ (a = 105 ∧ i = j) := fun a i j z => by omega
set_option maxRecDepth 4000 in
set_option maxHeartbeats 0 in
theorem E_215 {X : mm_X} {d : Nat} {M : mm_M} {Q : Option Value → mm_M → Prop} {t : Nat → Int} {nn : Int} {a : Int} {sg : x_S} {n9 : Int} {op : List Int} {A9 : x_A} (hX : g_X X) (hd : 4 ≤ d) (hG : g_G M) (q1 : RS M t nn) (q2 : (M.2.1 77 10).toInt = a) (q3 : 0 ≤ nn) (q4 : nn ≤ 500) (q5 : TR M t nn) (q6 : W9 M) (q7 : PLk M sg) (q8 : (M.2.1 77 44).toInt = n9) (q9 : 0 ≤ n9) (q10 : ¬ (x_kind t nn a = 0 ∧ (M.2.1 77 52).toInt = 0)) (q11 : WKr M A9 n9 op) (q12 : OPR (orow M) op) (q13 : (op.length : Int) = (M.2.1 77 52).toInt) (q14 : ∀ m ∈ op, 0 ≤ m ∧ m < n9) (h : ∀ (r : Int32) (M1 : mm_M), g_G M1 → FR md_ac M M1 → (0 ≤ r.toInt) → (r.toInt ≤ 1) → ((r.toInt = 1 → RS M1 t nn)) → ((r.toInt = 1 → WS t nn sg (x_ww t nn sg 0 n9 op A9 a) M1)) → ((r.toInt = 0 → x_ww t nn sg 0 n9 op A9 a = Sum.inl ((M1.2.1 77 4).toInt, (M1.2.1 77 5).toInt))) → Q (some (.int r)) M1) : mm_T X d 214 0 [.ref 77, .null] [] M Q := by
  have F0 : FR md_ac M M := FR.rf
  have b_1 := g_b hG (a := 77) (i := 10) (lo := 0) (hi := 500) rfl rfl
  have b_2 := g_b hG (a := 77) (i := 44) (lo := 0) (hi := 40) rfl rfl
  have b_3 := g_b hG (a := 77) (i := 52) (lo := 0) (hi := 5) rfl rfl
  have b_4 := g_b hG (a := 77) (i := 8) (lo := 0) (hi := 5) rfl rfl
  have z_5 := RS_k q1 (a := a) (by omega)
  have b_6 := g_b hG (a := 77) (i := 6) (lo := 0) (hi := 500) rfl rfl
  have b_7 := g_b hG (a := 77) (i := 7) (lo := 0) (hi := 500) rfl rfl
  have z_8 := RS_b q1 (a := a) (by omega)
  have z_9 := q13
  refine to_an (pc := 0) rw_215_0 rfl ?_
  refine to_c (pc := 1) rw_215_1 (x := (41 : Int32)) rfl rfl ?_
  refine s_v (pc := 3) rw_215_3 (dp0 hd (by decide)) (ls0 := [.ref 77, .int (41 : Int32)]) rfl (Nat.le_of_ble_eq_true rfl) (Nat.le_of_ble_eq_true rfl) rfl (to_rc rfl rfl rfl (g_o hG rfl)) rfl ?_
  refine to_an (pc := 0) rw_159_0 rfl ?_
  refine tt_gI (pc := 1) rw_159_1 (g_o hG rfl) (v := (M.2.1 77 8)) rfl ?_
  refine to_c (pc := 4) rw_159_4 (x := (4 : Int32)) rfl rfl ?_
  refine b_cne (pc := 5) rw_159_5 (A := (M.2.1 77 8).toInt) (B := 4) rfl rfl (fun h10 => ?_) (fun h10 => ?_)
  · refine to_c (pc := 20) rw_159_20 (x := (0 : Int32)) rfl rfl ?_
    refine s_r1 (pc := 21) rw_159_21 (A := 0) rfl (by decide) ?_
    refine b_ieq_t (pc := 6) rw_215_6 (A := 0) rfl (by decide) ?_
    refine to_an (pc := 50) rw_215_50 rfl ?_
    refine tt_gI (pc := 51) rw_215_51 (g_o hG rfl) (v := (M.2.1 77 8)) rfl ?_
    refine to_c (pc := 54) rw_215_54 (x := (1 : Int32)) rfl rfl ?_
    refine b_cne (pc := 55) rw_215_55 (A := (M.2.1 77 8).toInt) (B := 1) rfl rfl (fun h11 => ?_) (fun h11 => ?_)
    · refine to_an (pc := 85) rw_215_85 rfl ?_
      refine to_c (pc := 86) rw_215_86 (x := (1 : Int32)) rfl rfl ?_
      refine s_v (pc := 87) rw_215_87 (dp0 hd (by decide)) (ls0 := [.ref 77, .int (1 : Int32)]) rfl (Nat.le_of_ble_eq_true rfl) (Nat.le_of_ble_eq_true rfl) rfl (to_rc rfl rfl rfl (g_o hG rfl)) rfl ?_
      refine to_an (pc := 0) rw_152_0 rfl ?_
      refine to_in (pc := 1) rw_152_1 rfl ?_
      refine s_pI (pc := 2) rw_152_2 hG rfl (fun M13 W12 => ?_)
      have hG14 := g_wf hG W12 rfl rfl (by decide)
      have F15 := FR.w F0 W12 (show 77 = 77 ∧ (4 = 4 ∨ 4 = 5 ∨ 7 ≤ 4 ∧ 4 ≤ 10) ∨ 77 = 77 ∧ (4 = 44 ∨ 4 = 52) ∨ 101 ≤ 77 ∧ 77 ≤ 108 by decide)
      refine to_an (pc := 5) rw_152_5 rfl ?_
      refine to_an (pc := 6) rw_152_6 rfl ?_
      have c_16 : M13.2.1 77 10 = (M.2.1 77 10) := (W_n W12 (by decide) rfl)
      refine tt_gI (pc := 7) rw_152_7 (g_o hG14 rfl) (v := (M.2.1 77 10)) c_16 ?_
      refine s_pI (pc := 10) rw_152_10 hG14 rfl (fun M18 W17 => ?_)
      have hG19 := g_wf hG14 W17 rfl rfl (by decide)
      have F20 := FR.w F15 W17 (show 77 = 77 ∧ (5 = 4 ∨ 5 = 5 ∨ 7 ≤ 5 ∧ 5 ≤ 10) ∨ 77 = 77 ∧ (5 = 44 ∨ 5 = 52) ∨ 101 ≤ 77 ∧ 77 ≤ 108 by decide)
      refine to_c (pc := 13) rw_152_13 (x := (0 : Int32)) rfl rfl ?_
      refine s_r1 (pc := 14) rw_152_14 (A := 0) rfl (by decide) ?_
      refine s_r1 (pc := 90) rw_215_90 (A := 0) rfl (by decide) ?_
      have k_21 : (0 : Int32).toInt = 0 := rfl
      have c_22 : M18.2.1 77 4 = (1 : Int32) := (W_n W17 (by decide) (W_e W12))
      have k_23 : (1 : Int32).toInt = 1 := rfl
      have t_24 : (M18.2.1 77 4).toInt = (1 : Int32).toInt := congrArg Int32.toInt c_22
      have c_25 : M18.2.1 77 5 = (M.2.1 77 10) := (W_e W17)
      have t_26 : (M18.2.1 77 5).toInt = (M.2.1 77 10).toInt := congrArg Int32.toInt c_25
      exact h (0 : Int32) M18 hG19 F20 (by decide) (by decide) (fun z => by exfalso; omega) (fun z => by exfalso; omega) (fun _ => winl (by omega) (by omega) (w_nx (by omega) (by omega) (by omega) (by omega) (by omega)))
    · refine to_an (pc := 58) rw_215_58 rfl ?_
      refine tt_gI (pc := 59) rw_215_59 (g_o hG rfl) (v := (M.2.1 77 9)) rfl ?_
      refine to_c (pc := 62) rw_215_62 (x := (7 : Int32)) rfl rfl ?_
      refine b_ceq (pc := 64) rw_215_64 (A := (M.2.1 77 9).toInt) (B := 7) rfl rfl (fun h27 => ?_) (fun h27 => ?_)
      · have z_28 := RS_1 q1 (a := a) (by omega) (by omega)
        refine to_an (pc := 91) rw_215_91 rfl ?_
        refine tt_gI (pc := 92) rw_215_92 (g_o hG rfl) (v := (M.2.1 77 44)) rfl ?_
        refine to_c (pc := 95) rw_215_95 (x := (40 : Int32)) rfl rfl ?_
        refine b_cne (pc := 97) rw_215_97 (A := (M.2.1 77 44).toInt) (B := 40) rfl rfl (fun h29 => ?_) (fun h29 => ?_)
        · refine to_an (pc := 106) rw_215_106 rfl ?_
          refine tt_gI (pc := 107) rw_215_107 (g_o hG rfl) (v := (M.2.1 77 44)) rfl ?_
          refine to_isn (pc := 110) rw_215_110 (ls2 := [.ref 77, .int (M.2.1 77 44)]) rfl rfl ?_
          refine to_an (pc := 111) rw_215_111 rfl ?_
          refine s_gR (pc := 112) rw_215_112 hG rfl (v := 101) rfl ?_
          refine to_in (pc := 115) rw_215_115 rfl ?_
          refine to_an (pc := 116) rw_215_116 rfl ?_
          refine tt_gI (pc := 117) rw_215_117 (g_o hG rfl) (v := (M.2.1 77 9)) rfl ?_
          refine to_c (pc := 120) rw_215_120 (x := (7 : Int32)) rfl rfl ?_
          refine b_cne_f (pc := 122) rw_215_122 (A := (M.2.1 77 9).toInt) (B := 7) rfl rfl (by omega) ?_
          refine to_c (pc := 125) rw_215_125 (x := (0 : Int32)) rfl rfl ?_
          refine to_go (pc := 126) rw_215_126 ?_
          refine s_ias (pc := 143) rw_215_143 hG rfl (n := 40) rfl (A := (M.2.1 77 44).toInt) rfl (by omega) (by omega) (fun M31 W30 => ?_)
          have hG32 := g_w hG W30 (A := 0) rfl (lo := 0) (hi := 2) rfl rfl (by omega) (by decide)
          have F33 := FR.w F0 W30 (show 101 = 77 ∧ (((M.2.1 77 44).toInt).toNat = 4 ∨ ((M.2.1 77 44).toInt).toNat = 5 ∨ 7 ≤ ((M.2.1 77 44).toInt).toNat ∧ ((M.2.1 77 44).toInt).toNat ≤ 10) ∨ 101 = 77 ∧ (((M.2.1 77 44).toInt).toNat = 44 ∨ ((M.2.1 77 44).toInt).toNat = 52) ∨ 101 ≤ 101 ∧ 101 ≤ 108 by omega)
          refine to_an (pc := 144) rw_215_144 rfl ?_
          refine to_dupr (pc := 145) rw_215_145 ?_
          have c_34 : M31.2.1 77 44 = (M.2.1 77 44) := (W_n W30 (fun z => absurd z.1 (by decide)) rfl)
          refine tt_gI (pc := 146) rw_215_146 (g_o hG32 rfl) (v := (M.2.1 77 44)) c_34 ?_
          refine to_c (pc := 149) rw_215_149 (x := (1 : Int32)) rfl rfl ?_
          refine s_add (pc := 150) rw_215_150 (A := (M.2.1 77 44).toInt) (B := 1) rfl rfl (by omega) (fun v35 e36 => ?_)
          refine s_pI (pc := 151) rw_215_151 hG32 rfl (fun M38 W37 => ?_)
          have hG39 := g_w hG32 W37 (A := v35.toInt) rfl (lo := 0) (hi := 40) rfl rfl (by omega) (by decide)
          have F40 := FR.w F33 W37 (show 77 = 77 ∧ (44 = 4 ∨ 44 = 5 ∨ 7 ≤ 44 ∧ 44 ≤ 10) ∨ 77 = 77 ∧ (44 = 44 ∨ 44 = 52) ∨ 101 ≤ 77 ∧ 77 ≤ 108 by decide)
          refine to_an (pc := 154) rw_215_154 rfl ?_
          refine s_v (pc := 155) rw_215_155 (dp0 hd (by decide)) (ls0 := [.ref 77]) rfl (Nat.le_of_ble_eq_true rfl) (Nat.le_of_ble_eq_true rfl) rfl (to_rc rfl rfl rfl (g_o hG39 rfl)) rfl ?_
          have c_41 : M38.2.1 77 7 = (M.2.1 77 7) := (W_n W37 (by decide) (W_n W30 (fun z => absurd z.1 (by decide)) rfl))
          have t_42 : (M38.2.1 77 7).toInt = (M.2.1 77 7).toInt := congrArg Int32.toInt c_41
          have c_43 : M38.2.1 77 6 = (M.2.1 77 6) := (W_n W37 (by decide) (W_n W30 (fun z => absurd z.1 (by decide)) rfl))
          have t_44 : (M38.2.1 77 6).toInt = (M.2.1 77 6).toInt := congrArg Int32.toInt c_43
          have c_45 : M38.2.1 77 10 = (M.2.1 77 10) := (W_n W37 (by decide) (W_n W30 (fun z => absurd z.1 (by decide)) rfl))
          have t_46 : (M38.2.1 77 10).toInt = (M.2.1 77 10).toInt := congrArg Int32.toInt c_45
          have j_47 := (RS_f (fun a i z => W_n W37 (tg_170 a i z) rfl) (RS_f (fun a i z => W_n W30 (tg_171 a i _ z) rfl) q1))
          have z_48 := RS_b j_47 (a := a) (by omega)
          have j_49 := (TR_f (fun a i z => W_n W37 (tg_172 a i z) rfl) (TR_f (fun a i z => W_n W30 (tg_173 a i _ z) rfl) q5))
          have j_50 := (W9_f (fun a i z => W_n W37 (tg_174 a i z) rfl) (W9_f (fun a i z => W_n W30 (tg_175 a i _ z) rfl) q6))
          refine E_156 hX (dp1 hd (by decide)) hG39 (by omega) (by omega) (by omega) (by omega) j_49 j_50  (fun M57 hG52 F51 p_53 p_54 p_55 p_56 => ?_)
          have F58 := FR.c F40 F51 tg_168
          have b_59 := g_b hG52 (a := 77) (i := 7) (lo := 0) (hi := 500) rfl rfl
          have c_60 : M57.2.1 77 6 = (M.2.1 77 6) := (F_n F51 (show ¬ (77 = 77 ∧ 7 ≤ 6 ∧ 6 ≤ 10) by decide) c_43)
          have t_61 : (M57.2.1 77 6).toInt = (M.2.1 77 6).toInt := congrArg Int32.toInt c_60
          have b_62 := g_b hG52 (a := 77) (i := 8) (lo := 0) (hi := 5) rfl rfl
          have b_63 := g_b hG52 (a := 77) (i := 10) (lo := 0) (hi := 500) rfl rfl
          have z_64 := RS_s p_56.2 (a := a) (by omega)
          refine to_an (pc := 158) rw_215_158 rfl ?_
          refine s_gR (pc := 159) rw_215_159 hG52 rfl (v := 101) rfl ?_
          refine to_in (pc := 162) rw_215_162 rfl ?_
          refine s_ialk (pc := 163) rw_215_163 hG52 rfl (n := 40) rfl rfl (A := (M.2.1 77 44).toInt) rfl (by omega) (by omega) (v := (0 : Int32)) (F_n F51 (show ¬ (101 = 77 ∧ 7 ≤ ((M.2.1 77 44).toInt).toNat ∧ ((M.2.1 77 44).toInt).toNat ≤ 10) by omega) (W_n W37 (by omega) (W_e W30))) ?_
          refine b_ine_f (pc := 164) rw_215_164 (A := 0) rfl (by decide) ?_
          refine to_an (pc := 167) rw_215_167 rfl ?_
          refine to_in (pc := 168) rw_215_168 rfl ?_
          refine s_v (pc := 169) rw_215_169 (dp0 hd (by decide)) (ls0 := [.ref 77, .int (M.2.1 77 44)]) rfl (Nat.le_of_ble_eq_true rfl) (Nat.le_of_ble_eq_true rfl) rfl (to_rc rfl rfl rfl (g_o hG52 rfl)) rfl ?_
          have j_67 := (TR_f (tg_42 F51) j_49)
          have j_68 := (W9_f (tg_44 F51) j_50)
          have j_69 := (PLk_f (tg_138 F51) (PLk_f (fun a i z => W_n W37 (tg_176 a i z) rfl) (PLk_f (fun a i z => W_n W30 (tg_177 a i _ z) rfl) q7)))
          refine E_213 hX (dp1 hd (by decide)) hG52 (by omega) (by omega) p_56.1 (by omega) (by omega) (by omega) j_67 j_68 j_69 (e := (M.2.1 77 44)) (t := t) (nn := nn) (a := (x_ns t nn a)) (sg := sg) (n9 := (n9 + 1)) (op := op) (A9 := (x_k1 A9 n9 0)) (fun r70 M79 hG72 F71 p_73 p_74 p_75 p_76 p_77 p_78 => ?_)
          have F80 := FR.c F58 F71 tg_169
          rcases (show r70.toInt = 0 ∨ r70.toInt = 1 by omega) with h81 | h81
          · skip
            have p_82 := p_78 (by omega)
            clear p_75 p_77 p_78
            have z_83 := (w_ps (by omega) (by omega) (by omega) (by omega) (by omega)).trans p_82
            refine s_r1 (pc := 172) rw_215_172 (A := r70.toInt) rfl (by omega) ?_
            exact h r70 M79 hG72 F80 (by omega) (by omega) (fun z => by exfalso; omega) (fun z => by exfalso; omega) (fun _ => winl (by omega) (by omega) z_83)
          · skip
            have p_84 := p_75 (by omega)
            have p_85 := p_77 (by omega)
            clear p_75 p_77 p_78
            have z_86 := (w_ps (by omega) (by omega) (by omega) (by omega) (by omega)).trans p_85
            refine s_r1 (pc := 172) rw_215_172 (A := r70.toInt) rfl (by omega) ?_
            have b_87 := g_b hG72 (a := 77) (i := 10) (lo := 0) (hi := 500) rfl rfl
            have c_88 : M79.2.1 77 44 = v35 := (F_n F71 (show ¬ (77 = 77 ∧ (44 = 4 ∨ 44 = 5 ∨ 7 ≤ 44 ∧ 44 ≤ 10) ∨ 102 ≤ 77 ∧ 77 ≤ 104 ∨ 77 = 106 ∨ 77 = 107) by decide) (F_n F51 (show ¬ (77 = 77 ∧ 7 ≤ 44 ∧ 44 ≤ 10) by decide) (W_e W37)))
            have t_89 : (M79.2.1 77 44).toInt = v35.toInt := congrArg Int32.toInt c_88
            have c_90 : M79.2.1 77 52 = (M.2.1 77 52) := (F_n F71 (show ¬ (77 = 77 ∧ (52 = 4 ∨ 52 = 5 ∨ 7 ≤ 52 ∧ 52 ≤ 10) ∨ 102 ≤ 77 ∧ 77 ≤ 104 ∨ 77 = 106 ∨ 77 = 107) by decide) (F_n F51 (show ¬ (77 = 77 ∧ 7 ≤ 52 ∧ 52 ≤ 10) by decide) (W_n W37 (by decide) (W_n W30 (fun z => absurd z.1 (by decide)) rfl))))
            have t_91 : (M79.2.1 77 52).toInt = (M.2.1 77 52).toInt := congrArg Int32.toInt c_90
            have k_92 : (0 : Int32).toInt = 0 := rfl
            exact h r70 M79 hG72 F80 (by omega) (by omega) (fun _ => p_84) (fun _ => WS_p (k := 0) (by decide) (by omega) q11 q12 q13 q14 (fun r i z z2 => by
                by_cases e : r = 101
                · subst e; exact (F_n F71 (show ¬ (101 = 77 ∧ (i = 4 ∨ i = 5 ∨ 7 ≤ i ∧ i ≤ 10) ∨ 102 ≤ 101 ∧ 101 ≤ 104 ∨ 101 = 106 ∨ 101 = 107) by omega) (F_n F51 (show ¬ (101 = 77 ∧ 7 ≤ i ∧ i ≤ 10) by omega) (W_n W37 (by omega) (W_n W30 (by omega) rfl))))
                · exact (p_76 r i (by omega) (by omega)).trans (F_n F51 (show ¬ (r = 77 ∧ 7 ≤ i ∧ i ≤ 10) by omega) (W_n W37 (by omega) (W_n W30 (by omega) rfl)))) (by rw [show n9.toNat = ((M.2.1 77 44).toInt).toNat by omega, show M79.2.1 101 ((M.2.1 77 44).toInt).toNat = (0 : Int32) from (F_n F71 (show ¬ (101 = 77 ∧ (((M.2.1 77 44).toInt).toNat = 4 ∨ ((M.2.1 77 44).toInt).toNat = 5 ∨ 7 ≤ ((M.2.1 77 44).toInt).toNat ∧ ((M.2.1 77 44).toInt).toNat ≤ 10) ∨ 102 ≤ 101 ∧ 101 ≤ 104 ∨ 101 = 106 ∨ 101 = 107) by omega) (F_n F51 (show ¬ (101 = 77 ∧ 7 ≤ ((M.2.1 77 44).toInt).toNat ∧ ((M.2.1 77 44).toInt).toNat ≤ 10) by omega) (W_n W37 (by omega) (W_e W30))))]; exact (show (0 : Int32).toInt = 0 by omega)) (fun r i z => (F_n F71 (show ¬ (r = 77 ∧ (i = 4 ∨ i = 5 ∨ 7 ≤ i ∧ i ≤ 10) ∨ 102 ≤ r ∧ r ≤ 104 ∨ r = 106 ∨ r = 107) by omega) (F_n F51 (show ¬ (r = 77 ∧ 7 ≤ i ∧ i ≤ 10) by omega) (W_n W37 (by omega) (W_n W30 (by omega) rfl))))) (by omega) (by omega) z_86) (fun z => by exfalso; omega)
        · refine to_an (pc := 100) rw_215_100 rfl ?_
          refine to_c (pc := 101) rw_215_101 (x := (2 : Int32)) rfl rfl ?_
          refine s_v (pc := 102) rw_215_102 (dp0 hd (by decide)) (ls0 := [.ref 77, .int (2 : Int32)]) rfl (Nat.le_of_ble_eq_true rfl) (Nat.le_of_ble_eq_true rfl) rfl (to_rc rfl rfl rfl (g_o hG rfl)) rfl ?_
          refine to_an (pc := 0) rw_152_0 rfl ?_
          refine to_in (pc := 1) rw_152_1 rfl ?_
          refine s_pI (pc := 2) rw_152_2 hG rfl (fun M94 W93 => ?_)
          have hG95 := g_wf hG W93 rfl rfl (by decide)
          have F96 := FR.w F0 W93 (show 77 = 77 ∧ (4 = 4 ∨ 4 = 5 ∨ 7 ≤ 4 ∧ 4 ≤ 10) ∨ 77 = 77 ∧ (4 = 44 ∨ 4 = 52) ∨ 101 ≤ 77 ∧ 77 ≤ 108 by decide)
          refine to_an (pc := 5) rw_152_5 rfl ?_
          refine to_an (pc := 6) rw_152_6 rfl ?_
          have c_97 : M94.2.1 77 10 = (M.2.1 77 10) := (W_n W93 (by decide) rfl)
          refine tt_gI (pc := 7) rw_152_7 (g_o hG95 rfl) (v := (M.2.1 77 10)) c_97 ?_
          refine s_pI (pc := 10) rw_152_10 hG95 rfl (fun M99 W98 => ?_)
          have hG100 := g_wf hG95 W98 rfl rfl (by decide)
          have F101 := FR.w F96 W98 (show 77 = 77 ∧ (5 = 4 ∨ 5 = 5 ∨ 7 ≤ 5 ∧ 5 ≤ 10) ∨ 77 = 77 ∧ (5 = 44 ∨ 5 = 52) ∨ 101 ≤ 77 ∧ 77 ≤ 108 by decide)
          refine to_c (pc := 13) rw_152_13 (x := (0 : Int32)) rfl rfl ?_
          refine s_r1 (pc := 14) rw_152_14 (A := 0) rfl (by decide) ?_
          refine s_r1 (pc := 105) rw_215_105 (A := 0) rfl (by decide) ?_
          have k_102 : (0 : Int32).toInt = 0 := rfl
          have c_103 : M99.2.1 77 4 = (2 : Int32) := (W_n W98 (by decide) (W_e W93))
          have k_104 : (2 : Int32).toInt = 2 := rfl
          have t_105 : (M99.2.1 77 4).toInt = (2 : Int32).toInt := congrArg Int32.toInt c_103
          have c_106 : M99.2.1 77 5 = (M.2.1 77 10) := (W_e W98)
          have t_107 : (M99.2.1 77 5).toInt = (M.2.1 77 10).toInt := congrArg Int32.toInt c_106
          exact h (0 : Int32) M99 hG100 F101 (by decide) (by decide) (fun z => by exfalso; omega) (fun z => by exfalso; omega) (fun _ => winl (by omega) (by omega) (w_40 (by omega) (by omega) (by omega) (by omega) (by omega)))
      · refine to_an (pc := 67) rw_215_67 rfl ?_
        refine tt_gI (pc := 68) rw_215_68 (g_o hG rfl) (v := (M.2.1 77 9)) rfl ?_
        refine to_c (pc := 71) rw_215_71 (x := (10 : Int32)) rfl rfl ?_
        refine b_ceq (pc := 73) rw_215_73 (A := (M.2.1 77 9).toInt) (B := 10) rfl rfl (fun h108 => ?_) (fun h108 => ?_)
        · have z_109 := RS_1 q1 (a := a) (by omega) (by omega)
          refine to_an (pc := 91) rw_215_91 rfl ?_
          refine tt_gI (pc := 92) rw_215_92 (g_o hG rfl) (v := (M.2.1 77 44)) rfl ?_
          refine to_c (pc := 95) rw_215_95 (x := (40 : Int32)) rfl rfl ?_
          refine b_cne (pc := 97) rw_215_97 (A := (M.2.1 77 44).toInt) (B := 40) rfl rfl (fun h110 => ?_) (fun h110 => ?_)
          · refine to_an (pc := 106) rw_215_106 rfl ?_
            refine tt_gI (pc := 107) rw_215_107 (g_o hG rfl) (v := (M.2.1 77 44)) rfl ?_
            refine to_isn (pc := 110) rw_215_110 (ls2 := [.ref 77, .int (M.2.1 77 44)]) rfl rfl ?_
            refine to_an (pc := 111) rw_215_111 rfl ?_
            refine s_gR (pc := 112) rw_215_112 hG rfl (v := 101) rfl ?_
            refine to_in (pc := 115) rw_215_115 rfl ?_
            refine to_an (pc := 116) rw_215_116 rfl ?_
            refine tt_gI (pc := 117) rw_215_117 (g_o hG rfl) (v := (M.2.1 77 9)) rfl ?_
            refine to_c (pc := 120) rw_215_120 (x := (7 : Int32)) rfl rfl ?_
            refine b_cne_t (pc := 122) rw_215_122 (A := (M.2.1 77 9).toInt) (B := 7) rfl rfl (by omega) ?_
            refine to_an (pc := 129) rw_215_129 rfl ?_
            refine tt_gI (pc := 130) rw_215_130 (g_o hG rfl) (v := (M.2.1 77 9)) rfl ?_
            refine to_c (pc := 133) rw_215_133 (x := (10 : Int32)) rfl rfl ?_
            refine b_cne_f (pc := 135) rw_215_135 (A := (M.2.1 77 9).toInt) (B := 10) rfl rfl (by omega) ?_
            refine to_c (pc := 138) rw_215_138 (x := (1 : Int32)) rfl rfl ?_
            refine to_go (pc := 139) rw_215_139 ?_
            refine s_ias (pc := 143) rw_215_143 hG rfl (n := 40) rfl (A := (M.2.1 77 44).toInt) rfl (by omega) (by omega) (fun M112 W111 => ?_)
            have hG113 := g_w hG W111 (A := 1) rfl (lo := 0) (hi := 2) rfl rfl (by omega) (by decide)
            have F114 := FR.w F0 W111 (show 101 = 77 ∧ (((M.2.1 77 44).toInt).toNat = 4 ∨ ((M.2.1 77 44).toInt).toNat = 5 ∨ 7 ≤ ((M.2.1 77 44).toInt).toNat ∧ ((M.2.1 77 44).toInt).toNat ≤ 10) ∨ 101 = 77 ∧ (((M.2.1 77 44).toInt).toNat = 44 ∨ ((M.2.1 77 44).toInt).toNat = 52) ∨ 101 ≤ 101 ∧ 101 ≤ 108 by omega)
            refine to_an (pc := 144) rw_215_144 rfl ?_
            refine to_dupr (pc := 145) rw_215_145 ?_
            have c_115 : M112.2.1 77 44 = (M.2.1 77 44) := (W_n W111 (fun z => absurd z.1 (by decide)) rfl)
            refine tt_gI (pc := 146) rw_215_146 (g_o hG113 rfl) (v := (M.2.1 77 44)) c_115 ?_
            refine to_c (pc := 149) rw_215_149 (x := (1 : Int32)) rfl rfl ?_
            refine s_add (pc := 150) rw_215_150 (A := (M.2.1 77 44).toInt) (B := 1) rfl rfl (by omega) (fun v116 e117 => ?_)
            refine s_pI (pc := 151) rw_215_151 hG113 rfl (fun M119 W118 => ?_)
            have hG120 := g_w hG113 W118 (A := v116.toInt) rfl (lo := 0) (hi := 40) rfl rfl (by omega) (by decide)
            have F121 := FR.w F114 W118 (show 77 = 77 ∧ (44 = 4 ∨ 44 = 5 ∨ 7 ≤ 44 ∧ 44 ≤ 10) ∨ 77 = 77 ∧ (44 = 44 ∨ 44 = 52) ∨ 101 ≤ 77 ∧ 77 ≤ 108 by decide)
            refine to_an (pc := 154) rw_215_154 rfl ?_
            refine s_v (pc := 155) rw_215_155 (dp0 hd (by decide)) (ls0 := [.ref 77]) rfl (Nat.le_of_ble_eq_true rfl) (Nat.le_of_ble_eq_true rfl) rfl (to_rc rfl rfl rfl (g_o hG120 rfl)) rfl ?_
            have c_122 : M119.2.1 77 7 = (M.2.1 77 7) := (W_n W118 (by decide) (W_n W111 (fun z => absurd z.1 (by decide)) rfl))
            have t_123 : (M119.2.1 77 7).toInt = (M.2.1 77 7).toInt := congrArg Int32.toInt c_122
            have c_124 : M119.2.1 77 6 = (M.2.1 77 6) := (W_n W118 (by decide) (W_n W111 (fun z => absurd z.1 (by decide)) rfl))
            have t_125 : (M119.2.1 77 6).toInt = (M.2.1 77 6).toInt := congrArg Int32.toInt c_124
            have c_126 : M119.2.1 77 10 = (M.2.1 77 10) := (W_n W118 (by decide) (W_n W111 (fun z => absurd z.1 (by decide)) rfl))
            have t_127 : (M119.2.1 77 10).toInt = (M.2.1 77 10).toInt := congrArg Int32.toInt c_126
            have j_128 := (RS_f (fun a i z => W_n W118 (tg_170 a i z) rfl) (RS_f (fun a i z => W_n W111 (tg_171 a i _ z) rfl) q1))
            have z_129 := RS_b j_128 (a := a) (by omega)
            have j_130 := (TR_f (fun a i z => W_n W118 (tg_172 a i z) rfl) (TR_f (fun a i z => W_n W111 (tg_173 a i _ z) rfl) q5))
            have j_131 := (W9_f (fun a i z => W_n W118 (tg_174 a i z) rfl) (W9_f (fun a i z => W_n W111 (tg_175 a i _ z) rfl) q6))
            refine E_156 hX (dp1 hd (by decide)) hG120 (by omega) (by omega) (by omega) (by omega) j_130 j_131  (fun M138 hG133 F132 p_134 p_135 p_136 p_137 => ?_)
            have F139 := FR.c F121 F132 tg_168
            have b_140 := g_b hG133 (a := 77) (i := 7) (lo := 0) (hi := 500) rfl rfl
            have c_141 : M138.2.1 77 6 = (M.2.1 77 6) := (F_n F132 (show ¬ (77 = 77 ∧ 7 ≤ 6 ∧ 6 ≤ 10) by decide) c_124)
            have t_142 : (M138.2.1 77 6).toInt = (M.2.1 77 6).toInt := congrArg Int32.toInt c_141
            have b_143 := g_b hG133 (a := 77) (i := 8) (lo := 0) (hi := 5) rfl rfl
            have b_144 := g_b hG133 (a := 77) (i := 10) (lo := 0) (hi := 500) rfl rfl
            have z_145 := RS_s p_137.2 (a := a) (by omega)
            refine to_an (pc := 158) rw_215_158 rfl ?_
            refine s_gR (pc := 159) rw_215_159 hG133 rfl (v := 101) rfl ?_
            refine to_in (pc := 162) rw_215_162 rfl ?_
            refine s_ialk (pc := 163) rw_215_163 hG133 rfl (n := 40) rfl rfl (A := (M.2.1 77 44).toInt) rfl (by omega) (by omega) (v := (1 : Int32)) (F_n F132 (show ¬ (101 = 77 ∧ 7 ≤ ((M.2.1 77 44).toInt).toNat ∧ ((M.2.1 77 44).toInt).toNat ≤ 10) by omega) (W_n W118 (by omega) (W_e W111))) ?_
            refine b_ine_t (pc := 164) rw_215_164 (A := 1) rfl (by decide) ?_
            refine to_an (pc := 173) rw_215_173 rfl ?_
            refine s_gR (pc := 174) rw_215_174 hG133 rfl (v := 101) rfl ?_
            refine to_in (pc := 177) rw_215_177 rfl ?_
            refine s_ialk (pc := 178) rw_215_178 hG133 rfl (n := 40) rfl rfl (A := (M.2.1 77 44).toInt) rfl (by omega) (by omega) (v := (1 : Int32)) (F_n F132 (show ¬ (101 = 77 ∧ 7 ≤ ((M.2.1 77 44).toInt).toNat ∧ ((M.2.1 77 44).toInt).toNat ≤ 10) by omega) (W_n W118 (by omega) (W_e W111))) ?_
            refine to_c (pc := 179) rw_215_179 (x := (1 : Int32)) rfl rfl ?_
            refine b_cne_f (pc := 180) rw_215_180 (A := 1) (B := 1) rfl rfl (by decide) ?_
            refine to_an (pc := 183) rw_215_183 rfl ?_
            refine to_in (pc := 184) rw_215_184 rfl ?_
            refine s_v (pc := 185) rw_215_185 (dp0 hd (by decide)) (ls0 := [.ref 77, .int (M.2.1 77 44)]) rfl (Nat.le_of_ble_eq_true rfl) (Nat.le_of_ble_eq_true rfl) rfl (to_rc rfl rfl rfl (g_o hG133 rfl)) rfl ?_
            have j_150 := (TR_f (tg_42 F132) j_130)
            have j_151 := (W9_f (tg_44 F132) j_131)
            refine E_214 hX (dp1 hd (by decide)) hG133 (by omega) (by omega) p_137.1 (by omega) (by omega) (by omega) j_150 j_151 (e := (M.2.1 77 44)) (t := t) (nn := nn) (a := (x_ns t nn a)) (fun r152 M161 hG154 F153 p_155 p_156 p_157 p_158 p_159 p_160 => ?_)
            have F162 := FR.c F139 F153 tg_169
            rcases (show r152.toInt = 0 ∨ r152.toInt = 1 by omega) with h163 | h163
            · skip
              have p_164 := p_160 (by omega)
              clear p_157 p_159 p_160
              have z_165 := (w_jn (by omega) (by omega) (by omega) (by omega) (by omega)).trans (p_164 (x_ww t nn sg 0 (n9 + 1) op (x_k1 A9 n9 1)))
              refine s_r1 (pc := 188) rw_215_188 (A := r152.toInt) rfl (by omega) ?_
              exact h r152 M161 hG154 F162 (by omega) (by omega) (fun z => by exfalso; omega) (fun z => by exfalso; omega) (fun _ => winl (by omega) (by omega) z_165)
            · skip
              have p_166 := p_157 (by omega)
              have p_167 := p_159 (by omega)
              clear p_157 p_159 p_160
              have z_168 := (w_jn (by omega) (by omega) (by omega) (by omega) (by omega)).trans (p_167 (x_ww t nn sg 0 (n9 + 1) op (x_k1 A9 n9 1)))
              refine s_r1 (pc := 188) rw_215_188 (A := r152.toInt) rfl (by omega) ?_
              have b_169 := g_b hG154 (a := 77) (i := 10) (lo := 0) (hi := 500) rfl rfl
              have c_170 : M161.2.1 77 44 = v116 := (F_n F153 (show ¬ (77 = 77 ∧ (44 = 4 ∨ 44 = 5 ∨ 7 ≤ 44 ∧ 44 ≤ 10) ∨ 102 ≤ 77 ∧ 77 ≤ 104 ∨ 77 = 106 ∨ 77 = 107) by decide) (F_n F132 (show ¬ (77 = 77 ∧ 7 ≤ 44 ∧ 44 ≤ 10) by decide) (W_e W118)))
              have t_171 : (M161.2.1 77 44).toInt = v116.toInt := congrArg Int32.toInt c_170
              have c_172 : M161.2.1 77 52 = (M.2.1 77 52) := (F_n F153 (show ¬ (77 = 77 ∧ (52 = 4 ∨ 52 = 5 ∨ 7 ≤ 52 ∧ 52 ≤ 10) ∨ 102 ≤ 77 ∧ 77 ≤ 104 ∨ 77 = 106 ∨ 77 = 107) by decide) (F_n F132 (show ¬ (77 = 77 ∧ 7 ≤ 52 ∧ 52 ≤ 10) by decide) (W_n W118 (by decide) (W_n W111 (fun z => absurd z.1 (by decide)) rfl))))
              have t_173 : (M161.2.1 77 52).toInt = (M.2.1 77 52).toInt := congrArg Int32.toInt c_172
              have k_174 : (1 : Int32).toInt = 1 := rfl
              exact h r152 M161 hG154 F162 (by omega) (by omega) (fun _ => p_166) (fun _ => WS_p (k := 1) (by decide) (by omega) q11 q12 q13 q14 (fun r i z z2 => by
                  by_cases e : r = 101
                  · subst e; exact (F_n F153 (show ¬ (101 = 77 ∧ (i = 4 ∨ i = 5 ∨ 7 ≤ i ∧ i ≤ 10) ∨ 102 ≤ 101 ∧ 101 ≤ 104 ∨ 101 = 106 ∨ 101 = 107) by omega) (F_n F132 (show ¬ (101 = 77 ∧ 7 ≤ i ∧ i ≤ 10) by omega) (W_n W118 (by omega) (W_n W111 (by omega) rfl))))
                  · exact (p_158 r i (by omega) (by omega)).trans (F_n F132 (show ¬ (r = 77 ∧ 7 ≤ i ∧ i ≤ 10) by omega) (W_n W118 (by omega) (W_n W111 (by omega) rfl)))) (by rw [show n9.toNat = ((M.2.1 77 44).toInt).toNat by omega, show M161.2.1 101 ((M.2.1 77 44).toInt).toNat = (1 : Int32) from (F_n F153 (show ¬ (101 = 77 ∧ (((M.2.1 77 44).toInt).toNat = 4 ∨ ((M.2.1 77 44).toInt).toNat = 5 ∨ 7 ≤ ((M.2.1 77 44).toInt).toNat ∧ ((M.2.1 77 44).toInt).toNat ≤ 10) ∨ 102 ≤ 101 ∧ 101 ≤ 104 ∨ 101 = 106 ∨ 101 = 107) by omega) (F_n F132 (show ¬ (101 = 77 ∧ 7 ≤ ((M.2.1 77 44).toInt).toNat ∧ ((M.2.1 77 44).toInt).toNat ≤ 10) by omega) (W_n W118 (by omega) (W_e W111))))]; exact (show (1 : Int32).toInt = 1 by omega)) (fun r i z => (F_n F153 (show ¬ (r = 77 ∧ (i = 4 ∨ i = 5 ∨ 7 ≤ i ∧ i ≤ 10) ∨ 102 ≤ r ∧ r ≤ 104 ∨ r = 106 ∨ r = 107) by omega) (F_n F132 (show ¬ (r = 77 ∧ 7 ≤ i ∧ i ≤ 10) by omega) (W_n W118 (by omega) (W_n W111 (by omega) rfl))))) (by omega) (by omega) z_168) (fun z => by exfalso; omega)
          · refine to_an (pc := 100) rw_215_100 rfl ?_
            refine to_c (pc := 101) rw_215_101 (x := (2 : Int32)) rfl rfl ?_
            refine s_v (pc := 102) rw_215_102 (dp0 hd (by decide)) (ls0 := [.ref 77, .int (2 : Int32)]) rfl (Nat.le_of_ble_eq_true rfl) (Nat.le_of_ble_eq_true rfl) rfl (to_rc rfl rfl rfl (g_o hG rfl)) rfl ?_
            refine to_an (pc := 0) rw_152_0 rfl ?_
            refine to_in (pc := 1) rw_152_1 rfl ?_
            refine s_pI (pc := 2) rw_152_2 hG rfl (fun M176 W175 => ?_)
            have hG177 := g_wf hG W175 rfl rfl (by decide)
            have F178 := FR.w F0 W175 (show 77 = 77 ∧ (4 = 4 ∨ 4 = 5 ∨ 7 ≤ 4 ∧ 4 ≤ 10) ∨ 77 = 77 ∧ (4 = 44 ∨ 4 = 52) ∨ 101 ≤ 77 ∧ 77 ≤ 108 by decide)
            refine to_an (pc := 5) rw_152_5 rfl ?_
            refine to_an (pc := 6) rw_152_6 rfl ?_
            have c_179 : M176.2.1 77 10 = (M.2.1 77 10) := (W_n W175 (by decide) rfl)
            refine tt_gI (pc := 7) rw_152_7 (g_o hG177 rfl) (v := (M.2.1 77 10)) c_179 ?_
            refine s_pI (pc := 10) rw_152_10 hG177 rfl (fun M181 W180 => ?_)
            have hG182 := g_wf hG177 W180 rfl rfl (by decide)
            have F183 := FR.w F178 W180 (show 77 = 77 ∧ (5 = 4 ∨ 5 = 5 ∨ 7 ≤ 5 ∧ 5 ≤ 10) ∨ 77 = 77 ∧ (5 = 44 ∨ 5 = 52) ∨ 101 ≤ 77 ∧ 77 ≤ 108 by decide)
            refine to_c (pc := 13) rw_152_13 (x := (0 : Int32)) rfl rfl ?_
            refine s_r1 (pc := 14) rw_152_14 (A := 0) rfl (by decide) ?_
            refine s_r1 (pc := 105) rw_215_105 (A := 0) rfl (by decide) ?_
            have k_184 : (0 : Int32).toInt = 0 := rfl
            have c_185 : M181.2.1 77 4 = (2 : Int32) := (W_n W180 (by decide) (W_e W175))
            have k_186 : (2 : Int32).toInt = 2 := rfl
            have t_187 : (M181.2.1 77 4).toInt = (2 : Int32).toInt := congrArg Int32.toInt c_185
            have c_188 : M181.2.1 77 5 = (M.2.1 77 10) := (W_e W180)
            have t_189 : (M181.2.1 77 5).toInt = (M.2.1 77 10).toInt := congrArg Int32.toInt c_188
            exact h (0 : Int32) M181 hG182 F183 (by decide) (by decide) (fun z => by exfalso; omega) (fun z => by exfalso; omega) (fun _ => winl (by omega) (by omega) (w_40 (by omega) (by omega) (by omega) (by omega) (by omega)))
        · refine to_an (pc := 76) rw_215_76 rfl ?_
          refine tt_gI (pc := 77) rw_215_77 (g_o hG rfl) (v := (M.2.1 77 9)) rfl ?_
          refine to_c (pc := 80) rw_215_80 (x := (11 : Int32)) rfl rfl ?_
          refine b_ceq (pc := 82) rw_215_82 (A := (M.2.1 77 9).toInt) (B := 11) rfl rfl (fun h190 => ?_) (fun h190 => ?_)
          · have z_191 := RS_1 q1 (a := a) (by omega) (by omega)
            refine to_an (pc := 91) rw_215_91 rfl ?_
            refine tt_gI (pc := 92) rw_215_92 (g_o hG rfl) (v := (M.2.1 77 44)) rfl ?_
            refine to_c (pc := 95) rw_215_95 (x := (40 : Int32)) rfl rfl ?_
            refine b_cne (pc := 97) rw_215_97 (A := (M.2.1 77 44).toInt) (B := 40) rfl rfl (fun h192 => ?_) (fun h192 => ?_)
            · refine to_an (pc := 106) rw_215_106 rfl ?_
              refine tt_gI (pc := 107) rw_215_107 (g_o hG rfl) (v := (M.2.1 77 44)) rfl ?_
              refine to_isn (pc := 110) rw_215_110 (ls2 := [.ref 77, .int (M.2.1 77 44)]) rfl rfl ?_
              refine to_an (pc := 111) rw_215_111 rfl ?_
              refine s_gR (pc := 112) rw_215_112 hG rfl (v := 101) rfl ?_
              refine to_in (pc := 115) rw_215_115 rfl ?_
              refine to_an (pc := 116) rw_215_116 rfl ?_
              refine tt_gI (pc := 117) rw_215_117 (g_o hG rfl) (v := (M.2.1 77 9)) rfl ?_
              refine to_c (pc := 120) rw_215_120 (x := (7 : Int32)) rfl rfl ?_
              refine b_cne_t (pc := 122) rw_215_122 (A := (M.2.1 77 9).toInt) (B := 7) rfl rfl (by omega) ?_
              refine to_an (pc := 129) rw_215_129 rfl ?_
              refine tt_gI (pc := 130) rw_215_130 (g_o hG rfl) (v := (M.2.1 77 9)) rfl ?_
              refine to_c (pc := 133) rw_215_133 (x := (10 : Int32)) rfl rfl ?_
              refine b_cne_t (pc := 135) rw_215_135 (A := (M.2.1 77 9).toInt) (B := 10) rfl rfl (by omega) ?_
              refine to_c (pc := 142) rw_215_142 (x := (2 : Int32)) rfl rfl ?_
              refine s_ias (pc := 143) rw_215_143 hG rfl (n := 40) rfl (A := (M.2.1 77 44).toInt) rfl (by omega) (by omega) (fun M194 W193 => ?_)
              have hG195 := g_w hG W193 (A := 2) rfl (lo := 0) (hi := 2) rfl rfl (by omega) (by decide)
              have F196 := FR.w F0 W193 (show 101 = 77 ∧ (((M.2.1 77 44).toInt).toNat = 4 ∨ ((M.2.1 77 44).toInt).toNat = 5 ∨ 7 ≤ ((M.2.1 77 44).toInt).toNat ∧ ((M.2.1 77 44).toInt).toNat ≤ 10) ∨ 101 = 77 ∧ (((M.2.1 77 44).toInt).toNat = 44 ∨ ((M.2.1 77 44).toInt).toNat = 52) ∨ 101 ≤ 101 ∧ 101 ≤ 108 by omega)
              refine to_an (pc := 144) rw_215_144 rfl ?_
              refine to_dupr (pc := 145) rw_215_145 ?_
              have c_197 : M194.2.1 77 44 = (M.2.1 77 44) := (W_n W193 (fun z => absurd z.1 (by decide)) rfl)
              refine tt_gI (pc := 146) rw_215_146 (g_o hG195 rfl) (v := (M.2.1 77 44)) c_197 ?_
              refine to_c (pc := 149) rw_215_149 (x := (1 : Int32)) rfl rfl ?_
              refine s_add (pc := 150) rw_215_150 (A := (M.2.1 77 44).toInt) (B := 1) rfl rfl (by omega) (fun v198 e199 => ?_)
              refine s_pI (pc := 151) rw_215_151 hG195 rfl (fun M201 W200 => ?_)
              have hG202 := g_w hG195 W200 (A := v198.toInt) rfl (lo := 0) (hi := 40) rfl rfl (by omega) (by decide)
              have F203 := FR.w F196 W200 (show 77 = 77 ∧ (44 = 4 ∨ 44 = 5 ∨ 7 ≤ 44 ∧ 44 ≤ 10) ∨ 77 = 77 ∧ (44 = 44 ∨ 44 = 52) ∨ 101 ≤ 77 ∧ 77 ≤ 108 by decide)
              refine to_an (pc := 154) rw_215_154 rfl ?_
              refine s_v (pc := 155) rw_215_155 (dp0 hd (by decide)) (ls0 := [.ref 77]) rfl (Nat.le_of_ble_eq_true rfl) (Nat.le_of_ble_eq_true rfl) rfl (to_rc rfl rfl rfl (g_o hG202 rfl)) rfl ?_
              have c_204 : M201.2.1 77 7 = (M.2.1 77 7) := (W_n W200 (by decide) (W_n W193 (fun z => absurd z.1 (by decide)) rfl))
              have t_205 : (M201.2.1 77 7).toInt = (M.2.1 77 7).toInt := congrArg Int32.toInt c_204
              have c_206 : M201.2.1 77 6 = (M.2.1 77 6) := (W_n W200 (by decide) (W_n W193 (fun z => absurd z.1 (by decide)) rfl))
              have t_207 : (M201.2.1 77 6).toInt = (M.2.1 77 6).toInt := congrArg Int32.toInt c_206
              have c_208 : M201.2.1 77 10 = (M.2.1 77 10) := (W_n W200 (by decide) (W_n W193 (fun z => absurd z.1 (by decide)) rfl))
              have t_209 : (M201.2.1 77 10).toInt = (M.2.1 77 10).toInt := congrArg Int32.toInt c_208
              have j_210 := (RS_f (fun a i z => W_n W200 (tg_170 a i z) rfl) (RS_f (fun a i z => W_n W193 (tg_171 a i _ z) rfl) q1))
              have z_211 := RS_b j_210 (a := a) (by omega)
              have j_212 := (TR_f (fun a i z => W_n W200 (tg_172 a i z) rfl) (TR_f (fun a i z => W_n W193 (tg_173 a i _ z) rfl) q5))
              have j_213 := (W9_f (fun a i z => W_n W200 (tg_174 a i z) rfl) (W9_f (fun a i z => W_n W193 (tg_175 a i _ z) rfl) q6))
              refine E_156 hX (dp1 hd (by decide)) hG202 (by omega) (by omega) (by omega) (by omega) j_212 j_213  (fun M220 hG215 F214 p_216 p_217 p_218 p_219 => ?_)
              have F221 := FR.c F203 F214 tg_168
              have b_222 := g_b hG215 (a := 77) (i := 7) (lo := 0) (hi := 500) rfl rfl
              have c_223 : M220.2.1 77 6 = (M.2.1 77 6) := (F_n F214 (show ¬ (77 = 77 ∧ 7 ≤ 6 ∧ 6 ≤ 10) by decide) c_206)
              have t_224 : (M220.2.1 77 6).toInt = (M.2.1 77 6).toInt := congrArg Int32.toInt c_223
              have b_225 := g_b hG215 (a := 77) (i := 8) (lo := 0) (hi := 5) rfl rfl
              have b_226 := g_b hG215 (a := 77) (i := 10) (lo := 0) (hi := 500) rfl rfl
              have z_227 := RS_s p_219.2 (a := a) (by omega)
              refine to_an (pc := 158) rw_215_158 rfl ?_
              refine s_gR (pc := 159) rw_215_159 hG215 rfl (v := 101) rfl ?_
              refine to_in (pc := 162) rw_215_162 rfl ?_
              refine s_ialk (pc := 163) rw_215_163 hG215 rfl (n := 40) rfl rfl (A := (M.2.1 77 44).toInt) rfl (by omega) (by omega) (v := (2 : Int32)) (F_n F214 (show ¬ (101 = 77 ∧ 7 ≤ ((M.2.1 77 44).toInt).toNat ∧ ((M.2.1 77 44).toInt).toNat ≤ 10) by omega) (W_n W200 (by omega) (W_e W193))) ?_
              refine b_ine_t (pc := 164) rw_215_164 (A := 2) rfl (by decide) ?_
              refine to_an (pc := 173) rw_215_173 rfl ?_
              refine s_gR (pc := 174) rw_215_174 hG215 rfl (v := 101) rfl ?_
              refine to_in (pc := 177) rw_215_177 rfl ?_
              refine s_ialk (pc := 178) rw_215_178 hG215 rfl (n := 40) rfl rfl (A := (M.2.1 77 44).toInt) rfl (by omega) (by omega) (v := (2 : Int32)) (F_n F214 (show ¬ (101 = 77 ∧ 7 ≤ ((M.2.1 77 44).toInt).toNat ∧ ((M.2.1 77 44).toInt).toNat ≤ 10) by omega) (W_n W200 (by omega) (W_e W193))) ?_
              refine to_c (pc := 179) rw_215_179 (x := (1 : Int32)) rfl rfl ?_
              refine b_cne_t (pc := 180) rw_215_180 (A := 2) (B := 1) rfl rfl (by decide) ?_
              have z_232 := RS_k p_219.1 (a := (x_ns t nn a)) (by omega)
              refine to_an (pc := 189) rw_215_189 rfl ?_
              refine to_c (pc := 190) rw_215_190 (x := (0 : Int32)) rfl rfl ?_
              refine to_c (pc := 191) rw_215_191 (x := (99 : Int32)) rfl rfl ?_
              refine s_v (pc := 193) rw_215_193 (dp0 hd (by decide)) (ls0 := [.ref 77, .int (0 : Int32), .int (99 : Int32)]) rfl (Nat.le_of_ble_eq_true rfl) (Nat.le_of_ble_eq_true rfl) rfl (to_rc rfl rfl rfl (g_o hG215 rfl)) rfl ?_
              refine to_an (pc := 0) rw_162_0 rfl ?_
              refine tt_gI (pc := 1) rw_162_1 (g_o hG215 rfl) (v := (M220.2.1 77 8)) rfl ?_
              refine to_c (pc := 4) rw_162_4 (x := (3 : Int32)) rfl rfl ?_
              refine b_ceq (pc := 5) rw_162_5 (A := (M220.2.1 77 8).toInt) (B := 3) rfl rfl (fun h233 => ?_) (fun h233 => ?_)
              · refine to_an (pc := 14) rw_162_14 rfl ?_
                refine tt_gI (pc := 15) rw_162_15 (g_o hG215 rfl) (v := (M220.2.1 77 9)) rfl ?_
                refine to_in (pc := 18) rw_162_18 rfl ?_
                refine b_clt (pc := 19) rw_162_19 (A := (M220.2.1 77 9).toInt) (B := 0) rfl rfl (fun h234 => ?_) (fun h234 => ?_)
                · refine to_an (pc := 30) rw_162_30 rfl ?_
                  refine to_c (pc := 31) rw_162_31 (x := (2 : Int32)) rfl rfl ?_
                  refine s_v (pc := 32) rw_162_32 (dp1 hd (by decide)) (ls0 := [.ref 77, .int (2 : Int32)]) rfl (Nat.le_of_ble_eq_true rfl) (Nat.le_of_ble_eq_true rfl) rfl (to_rc rfl rfl rfl (g_o hG215 rfl)) rfl ?_
                  refine to_an (pc := 0) rw_152_0 rfl ?_
                  refine to_in (pc := 1) rw_152_1 rfl ?_
                  refine s_pI (pc := 2) rw_152_2 hG215 rfl (fun M236 W235 => ?_)
                  have hG237 := g_wf hG215 W235 rfl rfl (by decide)
                  have F238 := FR.w F221 W235 (show 77 = 77 ∧ (4 = 4 ∨ 4 = 5 ∨ 7 ≤ 4 ∧ 4 ≤ 10) ∨ 77 = 77 ∧ (4 = 44 ∨ 4 = 52) ∨ 101 ≤ 77 ∧ 77 ≤ 108 by decide)
                  refine to_an (pc := 5) rw_152_5 rfl ?_
                  refine to_an (pc := 6) rw_152_6 rfl ?_
                  have c_239 : M236.2.1 77 10 = (M220.2.1 77 10) := (W_n W235 (by decide) rfl)
                  refine tt_gI (pc := 7) rw_152_7 (g_o hG237 rfl) (v := (M220.2.1 77 10)) c_239 ?_
                  refine s_pI (pc := 10) rw_152_10 hG237 rfl (fun M241 W240 => ?_)
                  have hG242 := g_wf hG237 W240 rfl rfl (by decide)
                  have F243 := FR.w F238 W240 (show 77 = 77 ∧ (5 = 4 ∨ 5 = 5 ∨ 7 ≤ 5 ∧ 5 ≤ 10) ∨ 77 = 77 ∧ (5 = 44 ∨ 5 = 52) ∨ 101 ≤ 77 ∧ 77 ≤ 108 by decide)
                  refine to_c (pc := 13) rw_152_13 (x := (0 : Int32)) rfl rfl ?_
                  refine s_r1 (pc := 14) rw_152_14 (A := 0) rfl (by decide) ?_
                  refine b_ieq_t (pc := 35) rw_162_35 (A := 0) rfl (by decide) ?_
                  refine to_c (pc := 42) rw_162_42 (x := (0 : Int32)) rfl rfl ?_
                  refine s_r1 (pc := 43) rw_162_43 (A := 0) rfl (by decide) ?_
                  refine b_ine_f (pc := 196) rw_215_196 (A := 0) rfl (by decide) ?_
                  have c_244 : M241.2.1 77 4 = (2 : Int32) := (W_n W240 (by decide) (W_e W235))
                  have c_245 : M241.2.1 77 8 = (M220.2.1 77 8) := (W_n W240 (by decide) (W_n W235 (by decide) rfl))
                  have t_246 : (M241.2.1 77 8).toInt = (M220.2.1 77 8).toInt := congrArg Int32.toInt c_245
                  have c_247 : M241.2.1 77 9 = (M220.2.1 77 9) := (W_n W240 (by decide) (W_n W235 (by decide) rfl))
                  have t_248 : (M241.2.1 77 9).toInt = (M220.2.1 77 9).toInt := congrArg Int32.toInt c_247
                  have c_249 : M241.2.1 77 10 = (M220.2.1 77 10) := (W_n W240 (by decide) c_239)
                  have t_250 : (M241.2.1 77 10).toInt = (M220.2.1 77 10).toInt := congrArg Int32.toInt c_249
                  have j_251 := (RS_f (fun a i z => W_n W240 (tg_37 a i z) rfl) (RS_f (fun a i z => W_n W235 (tg_38 a i z) rfl) p_219.1))
                  have z_252 := RS_3x j_251 (a := (x_ns t nn a)) (m := 99) (by omega) (by omega) (by omega) (by omega)
                  refine to_c (pc := 199) rw_215_199 (x := (0 : Int32)) rfl rfl ?_
                  refine s_r1 (pc := 200) rw_215_200 (A := 0) rfl (by decide) ?_
                  have k_253 : (0 : Int32).toInt = 0 := rfl
                  have k_254 : (2 : Int32).toInt = 2 := rfl
                  have t_255 : (M241.2.1 77 4).toInt = (2 : Int32).toInt := congrArg Int32.toInt c_244
                  have c_256 : M241.2.1 77 5 = (M220.2.1 77 10) := (W_e W240)
                  have t_257 : (M241.2.1 77 5).toInt = (M220.2.1 77 10).toInt := congrArg Int32.toInt c_256
                  exact h (0 : Int32) M241 hG242 F243 (by decide) (by decide) (fun z => by exfalso; omega) (fun z => by exfalso; omega) (fun _ => winl (by omega) (by omega) ((w_ag (by omega) (by omega) (by omega) (by omega) (by omega)).trans (ag_2 (by omega) (by omega))))
                · refine to_an (pc := 22) rw_162_22 rfl ?_
                  refine tt_gI (pc := 23) rw_162_23 (g_o hG215 rfl) (v := (M220.2.1 77 9)) rfl ?_
                  refine to_in (pc := 26) rw_162_26 rfl ?_
                  refine b_cle (pc := 27) rw_162_27 (A := (M220.2.1 77 9).toInt) (B := 99) rfl rfl (fun h258 => ?_) (fun h258 => ?_)
                  · refine to_c (pc := 38) rw_162_38 (x := (1 : Int32)) rfl rfl ?_
                    refine to_go (pc := 39) rw_162_39 ?_
                    refine s_r1 (pc := 43) rw_162_43 (A := 1) rfl (by decide) ?_
                    refine b_ine_t (pc := 196) rw_215_196 (A := 1) rfl (by decide) ?_
                    have z_259 := RS_3 p_219.1 (a := (x_ns t nn a)) (by omega) (by omega) (by omega)
                    refine to_an (pc := 201) rw_215_201 rfl ?_
                    refine s_gR (pc := 202) rw_215_202 hG215 rfl (v := 102) rfl ?_
                    refine to_in (pc := 205) rw_215_205 rfl ?_
                    refine to_an (pc := 206) rw_215_206 rfl ?_
                    refine tt_gI (pc := 207) rw_215_207 (g_o hG215 rfl) (v := (M220.2.1 77 9)) rfl ?_
                    refine s_ias (pc := 210) rw_215_210 hG215 rfl (n := 40) rfl (A := (M.2.1 77 44).toInt) rfl (by omega) (by omega) (fun M261 W260 => ?_)
                    have hG262 := g_w hG215 W260 (A := (M220.2.1 77 9).toInt) rfl (lo := -1) (hi := 99) rfl rfl (by omega) (by decide)
                    have F263 := FR.w F221 W260 (show 102 = 77 ∧ (((M.2.1 77 44).toInt).toNat = 4 ∨ ((M.2.1 77 44).toInt).toNat = 5 ∨ 7 ≤ ((M.2.1 77 44).toInt).toNat ∧ ((M.2.1 77 44).toInt).toNat ≤ 10) ∨ 102 = 77 ∧ (((M.2.1 77 44).toInt).toNat = 44 ∨ ((M.2.1 77 44).toInt).toNat = 52) ∨ 101 ≤ 102 ∧ 102 ≤ 108 by omega)
                    refine to_an (pc := 211) rw_215_211 rfl ?_
                    refine s_v (pc := 212) rw_215_212 (dp0 hd (by decide)) (ls0 := [.ref 77]) rfl (Nat.le_of_ble_eq_true rfl) (Nat.le_of_ble_eq_true rfl) rfl (to_rc rfl rfl rfl (g_o hG262 rfl)) rfl ?_
                    have c_264 : M261.2.1 77 7 = (M220.2.1 77 7) := (W_n W260 (fun z => absurd z.1 (by decide)) rfl)
                    have t_265 : (M261.2.1 77 7).toInt = (M220.2.1 77 7).toInt := congrArg Int32.toInt c_264
                    have c_266 : M261.2.1 77 6 = (M.2.1 77 6) := (W_n W260 (fun z => absurd z.1 (by decide)) c_223)
                    have t_267 : (M261.2.1 77 6).toInt = (M.2.1 77 6).toInt := congrArg Int32.toInt c_266
                    have c_268 : M261.2.1 77 10 = (M220.2.1 77 10) := (W_n W260 (fun z => absurd z.1 (by decide)) rfl)
                    have t_269 : (M261.2.1 77 10).toInt = (M220.2.1 77 10).toInt := congrArg Int32.toInt c_268
                    have j_270 := (RS_f (fun a i z => W_n W260 (tg_153 a i _ z) rfl) p_219.1)
                    have z_271 := RS_b j_270 (a := (x_ns t nn a)) (by omega)
                    have j_272 := (TR_f (fun a i z => W_n W260 (tg_154 a i _ z) rfl) (TR_f (tg_42 F214) j_212))
                    have j_273 := (W9_f (fun a i z => W_n W260 (tg_155 a i _ z) rfl) (W9_f (tg_44 F214) j_213))
                    refine E_156 hX (dp1 hd (by decide)) hG262 (by omega) (by omega) (by omega) (by omega) j_272 j_273  (fun M280 hG275 F274 p_276 p_277 p_278 p_279 => ?_)
                    have F281 := FR.c F263 F274 tg_168
                    have b_282 := g_b hG275 (a := 77) (i := 7) (lo := 0) (hi := 500) rfl rfl
                    have c_283 : M280.2.1 77 6 = (M.2.1 77 6) := (F_n F274 (show ¬ (77 = 77 ∧ 7 ≤ 6 ∧ 6 ≤ 10) by decide) c_266)
                    have t_284 : (M280.2.1 77 6).toInt = (M.2.1 77 6).toInt := congrArg Int32.toInt c_283
                    have b_285 := g_b hG275 (a := 77) (i := 8) (lo := 0) (hi := 5) rfl rfl
                    have b_286 := g_b hG275 (a := 77) (i := 10) (lo := 0) (hi := 500) rfl rfl
                    have z_287 := RS_s p_279.2 (a := (x_ns t nn a)) (by omega)
                    have z_288 := RS_k p_279.1 (a := (x_ns t nn (x_ns t nn a))) (by omega)
                    refine to_an (pc := 215) rw_215_215 rfl ?_
                    refine to_c (pc := 216) rw_215_216 (x := (40 : Int32)) rfl rfl ?_
                    refine s_v (pc := 218) rw_215_218 (dp0 hd (by decide)) (ls0 := [.ref 77, .int (40 : Int32)]) rfl (Nat.le_of_ble_eq_true rfl) (Nat.le_of_ble_eq_true rfl) rfl (to_rc rfl rfl rfl (g_o hG275 rfl)) rfl ?_
                    refine to_an (pc := 0) rw_159_0 rfl ?_
                    refine tt_gI (pc := 1) rw_159_1 (g_o hG275 rfl) (v := (M280.2.1 77 8)) rfl ?_
                    refine to_c (pc := 4) rw_159_4 (x := (4 : Int32)) rfl rfl ?_
                    refine b_cne (pc := 5) rw_159_5 (A := (M280.2.1 77 8).toInt) (B := 4) rfl rfl (fun h289 => ?_) (fun h289 => ?_)
                    · refine to_c (pc := 20) rw_159_20 (x := (0 : Int32)) rfl rfl ?_
                      refine s_r1 (pc := 21) rw_159_21 (A := 0) rfl (by decide) ?_
                      refine b_ine_f (pc := 221) rw_215_221 (A := 0) rfl (by decide) ?_
                      refine to_an (pc := 224) rw_215_224 rfl ?_
                      refine to_c (pc := 225) rw_215_225 (x := (1 : Int32)) rfl rfl ?_
                      refine s_v (pc := 226) rw_215_226 (dp0 hd (by decide)) (ls0 := [.ref 77, .int (1 : Int32)]) rfl (Nat.le_of_ble_eq_true rfl) (Nat.le_of_ble_eq_true rfl) rfl (to_rc rfl rfl rfl (g_o hG275 rfl)) rfl ?_
                      refine to_an (pc := 0) rw_152_0 rfl ?_
                      refine to_in (pc := 1) rw_152_1 rfl ?_
                      refine s_pI (pc := 2) rw_152_2 hG275 rfl (fun M291 W290 => ?_)
                      have hG292 := g_wf hG275 W290 rfl rfl (by decide)
                      have F293 := FR.w F281 W290 (show 77 = 77 ∧ (4 = 4 ∨ 4 = 5 ∨ 7 ≤ 4 ∧ 4 ≤ 10) ∨ 77 = 77 ∧ (4 = 44 ∨ 4 = 52) ∨ 101 ≤ 77 ∧ 77 ≤ 108 by decide)
                      refine to_an (pc := 5) rw_152_5 rfl ?_
                      refine to_an (pc := 6) rw_152_6 rfl ?_
                      have c_294 : M291.2.1 77 10 = (M280.2.1 77 10) := (W_n W290 (by decide) rfl)
                      refine tt_gI (pc := 7) rw_152_7 (g_o hG292 rfl) (v := (M280.2.1 77 10)) c_294 ?_
                      refine s_pI (pc := 10) rw_152_10 hG292 rfl (fun M296 W295 => ?_)
                      have hG297 := g_wf hG292 W295 rfl rfl (by decide)
                      have F298 := FR.w F293 W295 (show 77 = 77 ∧ (5 = 4 ∨ 5 = 5 ∨ 7 ≤ 5 ∧ 5 ≤ 10) ∨ 77 = 77 ∧ (5 = 44 ∨ 5 = 52) ∨ 101 ≤ 77 ∧ 77 ≤ 108 by decide)
                      refine to_c (pc := 13) rw_152_13 (x := (0 : Int32)) rfl rfl ?_
                      refine s_r1 (pc := 14) rw_152_14 (A := 0) rfl (by decide) ?_
                      refine s_r1 (pc := 229) rw_215_229 (A := 0) rfl (by decide) ?_
                      have k_299 : (0 : Int32).toInt = 0 := rfl
                      have c_300 : M296.2.1 77 4 = (1 : Int32) := (W_n W295 (by decide) (W_e W290))
                      have k_301 : (1 : Int32).toInt = 1 := rfl
                      have t_302 : (M296.2.1 77 4).toInt = (1 : Int32).toInt := congrArg Int32.toInt c_300
                      have c_303 : M296.2.1 77 5 = (M280.2.1 77 10) := (W_e W295)
                      have t_304 : (M296.2.1 77 5).toInt = (M280.2.1 77 10).toInt := congrArg Int32.toInt c_303
                      exact h (0 : Int32) M296 hG297 F298 (by decide) (by decide) (fun z => by exfalso; omega) (fun z => by exfalso; omega) (fun _ => winl (by omega) (by omega) ((w_ag (by omega) (by omega) (by omega) (by omega) (by omega)).trans (ag_3 (by omega) (by omega) (by omega))))
                    · refine to_an (pc := 8) rw_159_8 rfl ?_
                      refine tt_gI (pc := 9) rw_159_9 (g_o hG275 rfl) (v := (M280.2.1 77 9)) rfl ?_
                      refine to_in (pc := 12) rw_159_12 rfl ?_
                      refine b_cne (pc := 13) rw_159_13 (A := (M280.2.1 77 9).toInt) (B := 40) rfl rfl (fun h305 => ?_) (fun h305 => ?_)
                      · refine to_c (pc := 20) rw_159_20 (x := (0 : Int32)) rfl rfl ?_
                        refine s_r1 (pc := 21) rw_159_21 (A := 0) rfl (by decide) ?_
                        refine b_ine_f (pc := 221) rw_215_221 (A := 0) rfl (by decide) ?_
                        have z_306 := RS_4 p_279.1 (a := (x_ns t nn (x_ns t nn a))) (by omega) (by omega)
                        refine to_an (pc := 224) rw_215_224 rfl ?_
                        refine to_c (pc := 225) rw_215_225 (x := (1 : Int32)) rfl rfl ?_
                        refine s_v (pc := 226) rw_215_226 (dp0 hd (by decide)) (ls0 := [.ref 77, .int (1 : Int32)]) rfl (Nat.le_of_ble_eq_true rfl) (Nat.le_of_ble_eq_true rfl) rfl (to_rc rfl rfl rfl (g_o hG275 rfl)) rfl ?_
                        refine to_an (pc := 0) rw_152_0 rfl ?_
                        refine to_in (pc := 1) rw_152_1 rfl ?_
                        refine s_pI (pc := 2) rw_152_2 hG275 rfl (fun M308 W307 => ?_)
                        have hG309 := g_wf hG275 W307 rfl rfl (by decide)
                        have F310 := FR.w F281 W307 (show 77 = 77 ∧ (4 = 4 ∨ 4 = 5 ∨ 7 ≤ 4 ∧ 4 ≤ 10) ∨ 77 = 77 ∧ (4 = 44 ∨ 4 = 52) ∨ 101 ≤ 77 ∧ 77 ≤ 108 by decide)
                        refine to_an (pc := 5) rw_152_5 rfl ?_
                        refine to_an (pc := 6) rw_152_6 rfl ?_
                        have c_311 : M308.2.1 77 10 = (M280.2.1 77 10) := (W_n W307 (by decide) rfl)
                        refine tt_gI (pc := 7) rw_152_7 (g_o hG309 rfl) (v := (M280.2.1 77 10)) c_311 ?_
                        refine s_pI (pc := 10) rw_152_10 hG309 rfl (fun M313 W312 => ?_)
                        have hG314 := g_wf hG309 W312 rfl rfl (by decide)
                        have F315 := FR.w F310 W312 (show 77 = 77 ∧ (5 = 4 ∨ 5 = 5 ∨ 7 ≤ 5 ∧ 5 ≤ 10) ∨ 77 = 77 ∧ (5 = 44 ∨ 5 = 52) ∨ 101 ≤ 77 ∧ 77 ≤ 108 by decide)
                        refine to_c (pc := 13) rw_152_13 (x := (0 : Int32)) rfl rfl ?_
                        refine s_r1 (pc := 14) rw_152_14 (A := 0) rfl (by decide) ?_
                        refine s_r1 (pc := 229) rw_215_229 (A := 0) rfl (by decide) ?_
                        have k_316 : (0 : Int32).toInt = 0 := rfl
                        have c_317 : M313.2.1 77 4 = (1 : Int32) := (W_n W312 (by decide) (W_e W307))
                        have k_318 : (1 : Int32).toInt = 1 := rfl
                        have t_319 : (M313.2.1 77 4).toInt = (1 : Int32).toInt := congrArg Int32.toInt c_317
                        have c_320 : M313.2.1 77 5 = (M280.2.1 77 10) := (W_e W312)
                        have t_321 : (M313.2.1 77 5).toInt = (M280.2.1 77 10).toInt := congrArg Int32.toInt c_320
                        exact h (0 : Int32) M313 hG314 F315 (by decide) (by decide) (fun z => by exfalso; omega) (fun z => by exfalso; omega) (fun _ => winl (by omega) (by omega) ((w_ag (by omega) (by omega) (by omega) (by omega) (by omega)).trans (ag_3 (by omega) (by omega) (by omega))))
                      · refine to_c (pc := 16) rw_159_16 (x := (1 : Int32)) rfl rfl ?_
                        refine to_go (pc := 17) rw_159_17 ?_
                        refine s_r1 (pc := 21) rw_159_21 (A := 1) rfl (by decide) ?_
                        refine b_ine_t (pc := 221) rw_215_221 (A := 1) rfl (by decide) ?_
                        have z_322 := RS_4 p_279.1 (a := (x_ns t nn (x_ns t nn a))) (by omega) (by omega)
                        refine to_an (pc := 230) rw_215_230 rfl ?_
                        have c_323 : M280.2.1 77 52 = (M.2.1 77 52) := (F_n F274 (show ¬ (77 = 77 ∧ 7 ≤ 52 ∧ 52 ≤ 10) by decide) (W_n W260 (fun z => absurd z.1 (by decide)) (F_n F214 (show ¬ (77 = 77 ∧ 7 ≤ 52 ∧ 52 ≤ 10) by decide) (W_n W200 (by decide) (W_n W193 (fun z => absurd z.1 (by decide)) rfl)))))
                        refine tt_gI (pc := 231) rw_215_231 (g_o hG275 rfl) (v := (M.2.1 77 52)) c_323 ?_
                        refine to_c (pc := 234) rw_215_234 (x := (5 : Int32)) rfl rfl ?_
                        refine b_cne (pc := 235) rw_215_235 (A := (M.2.1 77 52).toInt) (B := 5) rfl rfl (fun h324 => ?_) (fun h324 => ?_)
                        · refine to_an (pc := 244) rw_215_244 rfl ?_
                          refine s_gR (pc := 245) rw_215_245 hG275 rfl (v := 108) rfl ?_
                          refine to_an (pc := 248) rw_215_248 rfl ?_
                          refine tt_gI (pc := 249) rw_215_249 (g_o hG275 rfl) (v := (M.2.1 77 52)) c_323 ?_
                          refine to_in (pc := 252) rw_215_252 rfl ?_
                          refine s_ias (pc := 253) rw_215_253 hG275 rfl (n := 5) rfl (A := (M.2.1 77 52).toInt) rfl (by omega) (by omega) (fun M326 W325 => ?_)
                          have hG327 := g_w hG275 W325 (A := (M.2.1 77 44).toInt) rfl (lo := 0) (hi := 39) rfl rfl (by omega) (by decide)
                          have F328 := FR.w F281 W325 (show 108 = 77 ∧ (((M.2.1 77 52).toInt).toNat = 4 ∨ ((M.2.1 77 52).toInt).toNat = 5 ∨ 7 ≤ ((M.2.1 77 52).toInt).toNat ∧ ((M.2.1 77 52).toInt).toNat ≤ 10) ∨ 108 = 77 ∧ (((M.2.1 77 52).toInt).toNat = 44 ∨ ((M.2.1 77 52).toInt).toNat = 52) ∨ 101 ≤ 108 ∧ 108 ≤ 108 by omega)
                          refine to_an (pc := 254) rw_215_254 rfl ?_
                          refine to_dupr (pc := 255) rw_215_255 ?_
                          have c_329 : M326.2.1 77 52 = (M.2.1 77 52) := (W_n W325 (fun z => absurd z.1 (by decide)) c_323)
                          refine tt_gI (pc := 256) rw_215_256 (g_o hG327 rfl) (v := (M.2.1 77 52)) c_329 ?_
                          refine to_c (pc := 259) rw_215_259 (x := (1 : Int32)) rfl rfl ?_
                          refine s_add (pc := 260) rw_215_260 (A := (M.2.1 77 52).toInt) (B := 1) rfl rfl (by omega) (fun v330 e331 => ?_)
                          refine s_pI (pc := 261) rw_215_261 hG327 rfl (fun M333 W332 => ?_)
                          have hG334 := g_w hG327 W332 (A := v330.toInt) rfl (lo := 0) (hi := 5) rfl rfl (by omega) (by decide)
                          have F335 := FR.w F328 W332 (show 77 = 77 ∧ (52 = 4 ∨ 52 = 5 ∨ 7 ≤ 52 ∧ 52 ≤ 10) ∨ 77 = 77 ∧ (52 = 44 ∨ 52 = 52) ∨ 101 ≤ 77 ∧ 77 ≤ 108 by decide)
                          refine to_an (pc := 264) rw_215_264 rfl ?_
                          refine s_v (pc := 265) rw_215_265 (dp0 hd (by decide)) (ls0 := [.ref 77]) rfl (Nat.le_of_ble_eq_true rfl) (Nat.le_of_ble_eq_true rfl) rfl (to_rc rfl rfl rfl (g_o hG334 rfl)) rfl ?_
                          have c_336 : M333.2.1 77 7 = (M280.2.1 77 7) := (W_n W332 (by decide) (W_n W325 (fun z => absurd z.1 (by decide)) rfl))
                          have t_337 : (M333.2.1 77 7).toInt = (M280.2.1 77 7).toInt := congrArg Int32.toInt c_336
                          have c_338 : M333.2.1 77 6 = (M.2.1 77 6) := (W_n W332 (by decide) (W_n W325 (fun z => absurd z.1 (by decide)) c_283))
                          have t_339 : (M333.2.1 77 6).toInt = (M.2.1 77 6).toInt := congrArg Int32.toInt c_338
                          have c_340 : M333.2.1 77 10 = (M280.2.1 77 10) := (W_n W332 (by decide) (W_n W325 (fun z => absurd z.1 (by decide)) rfl))
                          have t_341 : (M333.2.1 77 10).toInt = (M280.2.1 77 10).toInt := congrArg Int32.toInt c_340
                          have j_342 := (RS_f (fun a i z => W_n W332 (tg_178 a i z) rfl) (RS_f (fun a i z => W_n W325 (tg_179 a i _ z) rfl) p_279.1))
                          have z_343 := RS_b j_342 (a := (x_ns t nn (x_ns t nn a))) (by omega)
                          have j_344 := (TR_f (fun a i z => W_n W332 (tg_180 a i z) rfl) (TR_f (fun a i z => W_n W325 (tg_181 a i _ z) rfl) (TR_f (tg_42 F274) j_272)))
                          have j_345 := (W9_f (fun a i z => W_n W332 (tg_182 a i z) rfl) (W9_f (fun a i z => W_n W325 (tg_183 a i _ z) rfl) (W9_f (tg_44 F274) j_273)))
                          refine E_156 hX (dp1 hd (by decide)) hG334 (by omega) (by omega) (by omega) (by omega) j_344 j_345  (fun M352 hG347 F346 p_348 p_349 p_350 p_351 => ?_)
                          have F353 := FR.c F335 F346 tg_168
                          have b_354 := g_b hG347 (a := 77) (i := 7) (lo := 0) (hi := 500) rfl rfl
                          have c_355 : M352.2.1 77 6 = (M.2.1 77 6) := (F_n F346 (show ¬ (77 = 77 ∧ 7 ≤ 6 ∧ 6 ≤ 10) by decide) c_338)
                          have t_356 : (M352.2.1 77 6).toInt = (M.2.1 77 6).toInt := congrArg Int32.toInt c_355
                          have b_357 := g_b hG347 (a := 77) (i := 8) (lo := 0) (hi := 5) rfl rfl
                          have b_358 := g_b hG347 (a := 77) (i := 10) (lo := 0) (hi := 500) rfl rfl
                          have z_359 := RS_s p_351.2 (a := (x_ns t nn (x_ns t nn a))) (by omega)
                          refine to_c (pc := 268) rw_215_268 (x := (1 : Int32)) rfl rfl ?_
                          refine s_r1 (pc := 269) rw_215_269 (A := 1) rfl (by decide) ?_
                          have k_360 : (1 : Int32).toInt = 1 := rfl
                          have c_361 : M352.2.1 77 44 = v198 := (F_n F346 (show ¬ (77 = 77 ∧ 7 ≤ 44 ∧ 44 ≤ 10) by decide) (W_n W332 (by decide) (W_n W325 (fun z => absurd z.1 (by decide)) (F_n F274 (show ¬ (77 = 77 ∧ 7 ≤ 44 ∧ 44 ≤ 10) by decide) (W_n W260 (fun z => absurd z.1 (by decide)) (F_n F214 (show ¬ (77 = 77 ∧ 7 ≤ 44 ∧ 44 ≤ 10) by decide) (W_e W200)))))))
                          have t_362 : (M352.2.1 77 44).toInt = v198.toInt := congrArg Int32.toInt c_361
                          have c_363 : M352.2.1 77 52 = v330 := (F_n F346 (show ¬ (77 = 77 ∧ 7 ≤ 52 ∧ 52 ≤ 10) by decide) (W_e W332))
                          have t_364 : (M352.2.1 77 52).toInt = v330.toInt := congrArg Int32.toInt c_363
                          have k_365 : (2 : Int32).toInt = 2 := rfl
                          exact h (1 : Int32) M352 hG347 F353 (by decide) (by decide) (fun _ => p_351.1) (fun _ => WS_a (tm := x_val t nn (x_ns t nn a)) (by omega) q11 q12 q13 q14 (fun r i z z2 => (F_n F346 (show ¬ (r = 77 ∧ 7 ≤ i ∧ i ≤ 10) by omega) (W_n W332 (by omega) (W_n W325 (by omega) (F_n F274 (show ¬ (r = 77 ∧ 7 ≤ i ∧ i ≤ 10) by omega) (W_n W260 (by omega) (F_n F214 (show ¬ (r = 77 ∧ 7 ≤ i ∧ i ≤ 10) by omega) (W_n W200 (by omega) (W_n W193 (by omega) rfl))))))))) (by rw [show n9.toNat = ((M.2.1 77 44).toInt).toNat by omega, show M352.2.1 101 ((M.2.1 77 44).toInt).toNat = (2 : Int32) from (F_n F346 (show ¬ (101 = 77 ∧ 7 ≤ ((M.2.1 77 44).toInt).toNat ∧ ((M.2.1 77 44).toInt).toNat ≤ 10) by omega) (W_n W332 (by omega) (W_n W325 (by omega) (F_n F274 (show ¬ (101 = 77 ∧ 7 ≤ ((M.2.1 77 44).toInt).toNat ∧ ((M.2.1 77 44).toInt).toNat ≤ 10) by omega) (W_n W260 (by omega) (F_n F214 (show ¬ (101 = 77 ∧ 7 ≤ ((M.2.1 77 44).toInt).toNat ∧ ((M.2.1 77 44).toInt).toNat ≤ 10) by omega) (W_n W200 (by omega) (W_e W193))))))))]; exact (show (2 : Int32).toInt = 2 by omega)) (by rw [show n9.toNat = ((M.2.1 77 44).toInt).toNat by omega, show M352.2.1 102 ((M.2.1 77 44).toInt).toNat = (M220.2.1 77 9) from (F_n F346 (show ¬ (102 = 77 ∧ 7 ≤ ((M.2.1 77 44).toInt).toNat ∧ ((M.2.1 77 44).toInt).toNat ≤ 10) by omega) (W_n W332 (by omega) (W_n W325 (by omega) (F_n F274 (show ¬ (102 = 77 ∧ 7 ≤ ((M.2.1 77 44).toInt).toNat ∧ ((M.2.1 77 44).toInt).toNat ≤ 10) by omega) (W_e W260)))))]; exact (show (M220.2.1 77 9).toInt = x_val t nn (x_ns t nn a) by omega)) (fun i => (F_n F346 (show ¬ (105 = 77 ∧ 7 ≤ i ∧ i ≤ 10) by omega) (W_n W332 (by omega) (W_n W325 (by omega) (F_n F274 (show ¬ (105 = 77 ∧ 7 ≤ i ∧ i ≤ 10) by omega) (W_n W260 (by omega) (F_n F214 (show ¬ (105 = 77 ∧ 7 ≤ i ∧ i ≤ 10) by omega) (W_n W200 (by omega) (W_n W193 (by omega) rfl))))))))) (fun i z => (F_n F346 (show ¬ (108 = 77 ∧ 7 ≤ i ∧ i ≤ 10) by omega) (W_n W332 (by omega) (W_n W325 (by omega) (F_n F274 (show ¬ (108 = 77 ∧ 7 ≤ i ∧ i ≤ 10) by omega) (W_n W260 (by omega) (F_n F214 (show ¬ (108 = 77 ∧ 7 ≤ i ∧ i ≤ 10) by omega) (W_n W200 (by omega) (W_n W193 (by omega) rfl))))))))) (by rw [show ((M.2.1 77 52).toInt).toNat = ((M.2.1 77 52).toInt).toNat by omega, show M352.2.1 108 ((M.2.1 77 52).toInt).toNat = (M.2.1 77 44) from (F_n F346 (show ¬ (108 = 77 ∧ 7 ≤ (((M.2.1 77 52).toInt).toNat) ∧ (((M.2.1 77 52).toInt).toNat) ≤ 10) by omega) (W_n W332 (by omega) (W_e W325)))]; omega) (by omega) (by omega) (((w_ag (by omega) (by omega) (by omega) (by omega) (by omega)).trans (ag_y (by omega) (by omega) (by omega) (by omega))).trans (w_v rfl (by omega)))) (fun z => by exfalso; omega)
                        · refine to_an (pc := 238) rw_215_238 rfl ?_
                          refine to_c (pc := 239) rw_215_239 (x := (2 : Int32)) rfl rfl ?_
                          refine s_v (pc := 240) rw_215_240 (dp0 hd (by decide)) (ls0 := [.ref 77, .int (2 : Int32)]) rfl (Nat.le_of_ble_eq_true rfl) (Nat.le_of_ble_eq_true rfl) rfl (to_rc rfl rfl rfl (g_o hG275 rfl)) rfl ?_
                          refine to_an (pc := 0) rw_152_0 rfl ?_
                          refine to_in (pc := 1) rw_152_1 rfl ?_
                          refine s_pI (pc := 2) rw_152_2 hG275 rfl (fun M367 W366 => ?_)
                          have hG368 := g_wf hG275 W366 rfl rfl (by decide)
                          have F369 := FR.w F281 W366 (show 77 = 77 ∧ (4 = 4 ∨ 4 = 5 ∨ 7 ≤ 4 ∧ 4 ≤ 10) ∨ 77 = 77 ∧ (4 = 44 ∨ 4 = 52) ∨ 101 ≤ 77 ∧ 77 ≤ 108 by decide)
                          refine to_an (pc := 5) rw_152_5 rfl ?_
                          refine to_an (pc := 6) rw_152_6 rfl ?_
                          have c_370 : M367.2.1 77 10 = (M280.2.1 77 10) := (W_n W366 (by decide) rfl)
                          refine tt_gI (pc := 7) rw_152_7 (g_o hG368 rfl) (v := (M280.2.1 77 10)) c_370 ?_
                          refine s_pI (pc := 10) rw_152_10 hG368 rfl (fun M372 W371 => ?_)
                          have hG373 := g_wf hG368 W371 rfl rfl (by decide)
                          have F374 := FR.w F369 W371 (show 77 = 77 ∧ (5 = 4 ∨ 5 = 5 ∨ 7 ≤ 5 ∧ 5 ≤ 10) ∨ 77 = 77 ∧ (5 = 44 ∨ 5 = 52) ∨ 101 ≤ 77 ∧ 77 ≤ 108 by decide)
                          refine to_c (pc := 13) rw_152_13 (x := (0 : Int32)) rfl rfl ?_
                          refine s_r1 (pc := 14) rw_152_14 (A := 0) rfl (by decide) ?_
                          refine s_r1 (pc := 243) rw_215_243 (A := 0) rfl (by decide) ?_
                          have k_375 : (0 : Int32).toInt = 0 := rfl
                          have c_376 : M372.2.1 77 4 = (2 : Int32) := (W_n W371 (by decide) (W_e W366))
                          have k_377 : (2 : Int32).toInt = 2 := rfl
                          have t_378 : (M372.2.1 77 4).toInt = (2 : Int32).toInt := congrArg Int32.toInt c_376
                          have c_379 : M372.2.1 77 5 = (M280.2.1 77 10) := (W_e W371)
                          have t_380 : (M372.2.1 77 5).toInt = (M280.2.1 77 10).toInt := congrArg Int32.toInt c_379
                          exact h (0 : Int32) M372 hG373 F374 (by decide) (by decide) (fun z => by exfalso; omega) (fun z => by exfalso; omega) (fun _ => winl (by omega) (by omega) ((w_ag (by omega) (by omega) (by omega) (by omega) (by omega)).trans (ag_4 (by omega) (by omega) (by omega) (by omega))))
                  · refine to_an (pc := 30) rw_162_30 rfl ?_
                    refine to_c (pc := 31) rw_162_31 (x := (2 : Int32)) rfl rfl ?_
                    refine s_v (pc := 32) rw_162_32 (dp1 hd (by decide)) (ls0 := [.ref 77, .int (2 : Int32)]) rfl (Nat.le_of_ble_eq_true rfl) (Nat.le_of_ble_eq_true rfl) rfl (to_rc rfl rfl rfl (g_o hG215 rfl)) rfl ?_
                    refine to_an (pc := 0) rw_152_0 rfl ?_
                    refine to_in (pc := 1) rw_152_1 rfl ?_
                    refine s_pI (pc := 2) rw_152_2 hG215 rfl (fun M382 W381 => ?_)
                    have hG383 := g_wf hG215 W381 rfl rfl (by decide)
                    have F384 := FR.w F221 W381 (show 77 = 77 ∧ (4 = 4 ∨ 4 = 5 ∨ 7 ≤ 4 ∧ 4 ≤ 10) ∨ 77 = 77 ∧ (4 = 44 ∨ 4 = 52) ∨ 101 ≤ 77 ∧ 77 ≤ 108 by decide)
                    refine to_an (pc := 5) rw_152_5 rfl ?_
                    refine to_an (pc := 6) rw_152_6 rfl ?_
                    have c_385 : M382.2.1 77 10 = (M220.2.1 77 10) := (W_n W381 (by decide) rfl)
                    refine tt_gI (pc := 7) rw_152_7 (g_o hG383 rfl) (v := (M220.2.1 77 10)) c_385 ?_
                    refine s_pI (pc := 10) rw_152_10 hG383 rfl (fun M387 W386 => ?_)
                    have hG388 := g_wf hG383 W386 rfl rfl (by decide)
                    have F389 := FR.w F384 W386 (show 77 = 77 ∧ (5 = 4 ∨ 5 = 5 ∨ 7 ≤ 5 ∧ 5 ≤ 10) ∨ 77 = 77 ∧ (5 = 44 ∨ 5 = 52) ∨ 101 ≤ 77 ∧ 77 ≤ 108 by decide)
                    refine to_c (pc := 13) rw_152_13 (x := (0 : Int32)) rfl rfl ?_
                    refine s_r1 (pc := 14) rw_152_14 (A := 0) rfl (by decide) ?_
                    refine b_ieq_t (pc := 35) rw_162_35 (A := 0) rfl (by decide) ?_
                    refine to_c (pc := 42) rw_162_42 (x := (0 : Int32)) rfl rfl ?_
                    refine s_r1 (pc := 43) rw_162_43 (A := 0) rfl (by decide) ?_
                    refine b_ine_f (pc := 196) rw_215_196 (A := 0) rfl (by decide) ?_
                    have c_390 : M387.2.1 77 4 = (2 : Int32) := (W_n W386 (by decide) (W_e W381))
                    have c_391 : M387.2.1 77 8 = (M220.2.1 77 8) := (W_n W386 (by decide) (W_n W381 (by decide) rfl))
                    have t_392 : (M387.2.1 77 8).toInt = (M220.2.1 77 8).toInt := congrArg Int32.toInt c_391
                    have c_393 : M387.2.1 77 9 = (M220.2.1 77 9) := (W_n W386 (by decide) (W_n W381 (by decide) rfl))
                    have t_394 : (M387.2.1 77 9).toInt = (M220.2.1 77 9).toInt := congrArg Int32.toInt c_393
                    have c_395 : M387.2.1 77 10 = (M220.2.1 77 10) := (W_n W386 (by decide) c_385)
                    have t_396 : (M387.2.1 77 10).toInt = (M220.2.1 77 10).toInt := congrArg Int32.toInt c_395
                    have j_397 := (RS_f (fun a i z => W_n W386 (tg_37 a i z) rfl) (RS_f (fun a i z => W_n W381 (tg_38 a i z) rfl) p_219.1))
                    have z_398 := RS_3x j_397 (a := (x_ns t nn a)) (m := 99) (by omega) (by omega) (by omega) (by omega)
                    refine to_c (pc := 199) rw_215_199 (x := (0 : Int32)) rfl rfl ?_
                    refine s_r1 (pc := 200) rw_215_200 (A := 0) rfl (by decide) ?_
                    have k_399 : (0 : Int32).toInt = 0 := rfl
                    have k_400 : (2 : Int32).toInt = 2 := rfl
                    have t_401 : (M387.2.1 77 4).toInt = (2 : Int32).toInt := congrArg Int32.toInt c_390
                    have c_402 : M387.2.1 77 5 = (M220.2.1 77 10) := (W_e W386)
                    have t_403 : (M387.2.1 77 5).toInt = (M220.2.1 77 10).toInt := congrArg Int32.toInt c_402
                    exact h (0 : Int32) M387 hG388 F389 (by decide) (by decide) (fun z => by exfalso; omega) (fun z => by exfalso; omega) (fun _ => winl (by omega) (by omega) ((w_ag (by omega) (by omega) (by omega) (by omega) (by omega)).trans (ag_2 (by omega) (by omega))))
              · refine to_an (pc := 8) rw_162_8 rfl ?_
                refine to_c (pc := 9) rw_162_9 (x := (1 : Int32)) rfl rfl ?_
                refine s_v (pc := 10) rw_162_10 (dp1 hd (by decide)) (ls0 := [.ref 77, .int (1 : Int32)]) rfl (Nat.le_of_ble_eq_true rfl) (Nat.le_of_ble_eq_true rfl) rfl (to_rc rfl rfl rfl (g_o hG215 rfl)) rfl ?_
                refine to_an (pc := 0) rw_152_0 rfl ?_
                refine to_in (pc := 1) rw_152_1 rfl ?_
                refine s_pI (pc := 2) rw_152_2 hG215 rfl (fun M405 W404 => ?_)
                have hG406 := g_wf hG215 W404 rfl rfl (by decide)
                have F407 := FR.w F221 W404 (show 77 = 77 ∧ (4 = 4 ∨ 4 = 5 ∨ 7 ≤ 4 ∧ 4 ≤ 10) ∨ 77 = 77 ∧ (4 = 44 ∨ 4 = 52) ∨ 101 ≤ 77 ∧ 77 ≤ 108 by decide)
                refine to_an (pc := 5) rw_152_5 rfl ?_
                refine to_an (pc := 6) rw_152_6 rfl ?_
                have c_408 : M405.2.1 77 10 = (M220.2.1 77 10) := (W_n W404 (by decide) rfl)
                refine tt_gI (pc := 7) rw_152_7 (g_o hG406 rfl) (v := (M220.2.1 77 10)) c_408 ?_
                refine s_pI (pc := 10) rw_152_10 hG406 rfl (fun M410 W409 => ?_)
                have hG411 := g_wf hG406 W409 rfl rfl (by decide)
                have F412 := FR.w F407 W409 (show 77 = 77 ∧ (5 = 4 ∨ 5 = 5 ∨ 7 ≤ 5 ∧ 5 ≤ 10) ∨ 77 = 77 ∧ (5 = 44 ∨ 5 = 52) ∨ 101 ≤ 77 ∧ 77 ≤ 108 by decide)
                refine to_c (pc := 13) rw_152_13 (x := (0 : Int32)) rfl rfl ?_
                refine s_r1 (pc := 14) rw_152_14 (A := 0) rfl (by decide) ?_
                refine s_r1 (pc := 13) rw_162_13 (A := 0) rfl (by decide) ?_
                refine b_ine_f (pc := 196) rw_215_196 (A := 0) rfl (by decide) ?_
                have c_413 : M410.2.1 77 4 = (1 : Int32) := (W_n W409 (by decide) (W_e W404))
                refine to_c (pc := 199) rw_215_199 (x := (0 : Int32)) rfl rfl ?_
                refine s_r1 (pc := 200) rw_215_200 (A := 0) rfl (by decide) ?_
                have k_414 : (0 : Int32).toInt = 0 := rfl
                have k_415 : (1 : Int32).toInt = 1 := rfl
                have t_416 : (M410.2.1 77 4).toInt = (1 : Int32).toInt := congrArg Int32.toInt c_413
                have c_417 : M410.2.1 77 5 = (M220.2.1 77 10) := (W_e W409)
                have t_418 : (M410.2.1 77 5).toInt = (M220.2.1 77 10).toInt := congrArg Int32.toInt c_417
                exact h (0 : Int32) M410 hG411 F412 (by decide) (by decide) (fun z => by exfalso; omega) (fun z => by exfalso; omega) (fun _ => winl (by omega) (by omega) ((w_ag (by omega) (by omega) (by omega) (by omega) (by omega)).trans (ag_1 (by omega))))
            · refine to_an (pc := 100) rw_215_100 rfl ?_
              refine to_c (pc := 101) rw_215_101 (x := (2 : Int32)) rfl rfl ?_
              refine s_v (pc := 102) rw_215_102 (dp0 hd (by decide)) (ls0 := [.ref 77, .int (2 : Int32)]) rfl (Nat.le_of_ble_eq_true rfl) (Nat.le_of_ble_eq_true rfl) rfl (to_rc rfl rfl rfl (g_o hG rfl)) rfl ?_
              refine to_an (pc := 0) rw_152_0 rfl ?_
              refine to_in (pc := 1) rw_152_1 rfl ?_
              refine s_pI (pc := 2) rw_152_2 hG rfl (fun M420 W419 => ?_)
              have hG421 := g_wf hG W419 rfl rfl (by decide)
              have F422 := FR.w F0 W419 (show 77 = 77 ∧ (4 = 4 ∨ 4 = 5 ∨ 7 ≤ 4 ∧ 4 ≤ 10) ∨ 77 = 77 ∧ (4 = 44 ∨ 4 = 52) ∨ 101 ≤ 77 ∧ 77 ≤ 108 by decide)
              refine to_an (pc := 5) rw_152_5 rfl ?_
              refine to_an (pc := 6) rw_152_6 rfl ?_
              have c_423 : M420.2.1 77 10 = (M.2.1 77 10) := (W_n W419 (by decide) rfl)
              refine tt_gI (pc := 7) rw_152_7 (g_o hG421 rfl) (v := (M.2.1 77 10)) c_423 ?_
              refine s_pI (pc := 10) rw_152_10 hG421 rfl (fun M425 W424 => ?_)
              have hG426 := g_wf hG421 W424 rfl rfl (by decide)
              have F427 := FR.w F422 W424 (show 77 = 77 ∧ (5 = 4 ∨ 5 = 5 ∨ 7 ≤ 5 ∧ 5 ≤ 10) ∨ 77 = 77 ∧ (5 = 44 ∨ 5 = 52) ∨ 101 ≤ 77 ∧ 77 ≤ 108 by decide)
              refine to_c (pc := 13) rw_152_13 (x := (0 : Int32)) rfl rfl ?_
              refine s_r1 (pc := 14) rw_152_14 (A := 0) rfl (by decide) ?_
              refine s_r1 (pc := 105) rw_215_105 (A := 0) rfl (by decide) ?_
              have k_428 : (0 : Int32).toInt = 0 := rfl
              have c_429 : M425.2.1 77 4 = (2 : Int32) := (W_n W424 (by decide) (W_e W419))
              have k_430 : (2 : Int32).toInt = 2 := rfl
              have t_431 : (M425.2.1 77 4).toInt = (2 : Int32).toInt := congrArg Int32.toInt c_429
              have c_432 : M425.2.1 77 5 = (M.2.1 77 10) := (W_e W424)
              have t_433 : (M425.2.1 77 5).toInt = (M.2.1 77 10).toInt := congrArg Int32.toInt c_432
              exact h (0 : Int32) M425 hG426 F427 (by decide) (by decide) (fun z => by exfalso; omega) (fun z => by exfalso; omega) (fun _ => winl (by omega) (by omega) (w_40 (by omega) (by omega) (by omega) (by omega) (by omega)))
          · have z_434 := RS_1 q1 (a := a) (by omega) (by omega)
            refine to_an (pc := 85) rw_215_85 rfl ?_
            refine to_c (pc := 86) rw_215_86 (x := (1 : Int32)) rfl rfl ?_
            refine s_v (pc := 87) rw_215_87 (dp0 hd (by decide)) (ls0 := [.ref 77, .int (1 : Int32)]) rfl (Nat.le_of_ble_eq_true rfl) (Nat.le_of_ble_eq_true rfl) rfl (to_rc rfl rfl rfl (g_o hG rfl)) rfl ?_
            refine to_an (pc := 0) rw_152_0 rfl ?_
            refine to_in (pc := 1) rw_152_1 rfl ?_
            refine s_pI (pc := 2) rw_152_2 hG rfl (fun M436 W435 => ?_)
            have hG437 := g_wf hG W435 rfl rfl (by decide)
            have F438 := FR.w F0 W435 (show 77 = 77 ∧ (4 = 4 ∨ 4 = 5 ∨ 7 ≤ 4 ∧ 4 ≤ 10) ∨ 77 = 77 ∧ (4 = 44 ∨ 4 = 52) ∨ 101 ≤ 77 ∧ 77 ≤ 108 by decide)
            refine to_an (pc := 5) rw_152_5 rfl ?_
            refine to_an (pc := 6) rw_152_6 rfl ?_
            have c_439 : M436.2.1 77 10 = (M.2.1 77 10) := (W_n W435 (by decide) rfl)
            refine tt_gI (pc := 7) rw_152_7 (g_o hG437 rfl) (v := (M.2.1 77 10)) c_439 ?_
            refine s_pI (pc := 10) rw_152_10 hG437 rfl (fun M441 W440 => ?_)
            have hG442 := g_wf hG437 W440 rfl rfl (by decide)
            have F443 := FR.w F438 W440 (show 77 = 77 ∧ (5 = 4 ∨ 5 = 5 ∨ 7 ≤ 5 ∧ 5 ≤ 10) ∨ 77 = 77 ∧ (5 = 44 ∨ 5 = 52) ∨ 101 ≤ 77 ∧ 77 ≤ 108 by decide)
            refine to_c (pc := 13) rw_152_13 (x := (0 : Int32)) rfl rfl ?_
            refine s_r1 (pc := 14) rw_152_14 (A := 0) rfl (by decide) ?_
            refine s_r1 (pc := 90) rw_215_90 (A := 0) rfl (by decide) ?_
            have k_444 : (0 : Int32).toInt = 0 := rfl
            have c_445 : M441.2.1 77 4 = (1 : Int32) := (W_n W440 (by decide) (W_e W435))
            have k_446 : (1 : Int32).toInt = 1 := rfl
            have t_447 : (M441.2.1 77 4).toInt = (1 : Int32).toInt := congrArg Int32.toInt c_445
            have c_448 : M441.2.1 77 5 = (M.2.1 77 10) := (W_e W440)
            have t_449 : (M441.2.1 77 5).toInt = (M.2.1 77 10).toInt := congrArg Int32.toInt c_448
            exact h (0 : Int32) M441 hG442 F443 (by decide) (by decide) (fun z => by exfalso; omega) (fun z => by exfalso; omega) (fun _ => winl (by omega) (by omega) (w_kx (by omega) (by omega) (by omega) (by omega)))
  · refine to_an (pc := 8) rw_159_8 rfl ?_
    refine tt_gI (pc := 9) rw_159_9 (g_o hG rfl) (v := (M.2.1 77 9)) rfl ?_
    refine to_in (pc := 12) rw_159_12 rfl ?_
    refine b_cne (pc := 13) rw_159_13 (A := (M.2.1 77 9).toInt) (B := 41) rfl rfl (fun h450 => ?_) (fun h450 => ?_)
    · refine to_c (pc := 20) rw_159_20 (x := (0 : Int32)) rfl rfl ?_
      refine s_r1 (pc := 21) rw_159_21 (A := 0) rfl (by decide) ?_
      refine b_ieq_t (pc := 6) rw_215_6 (A := 0) rfl (by decide) ?_
      have z_451 := RS_4 q1 (a := a) (by omega) (by omega)
      refine to_an (pc := 50) rw_215_50 rfl ?_
      refine tt_gI (pc := 51) rw_215_51 (g_o hG rfl) (v := (M.2.1 77 8)) rfl ?_
      refine to_c (pc := 54) rw_215_54 (x := (1 : Int32)) rfl rfl ?_
      refine b_cne_t (pc := 55) rw_215_55 (A := (M.2.1 77 8).toInt) (B := 1) rfl rfl (by omega) ?_
      refine to_an (pc := 85) rw_215_85 rfl ?_
      refine to_c (pc := 86) rw_215_86 (x := (1 : Int32)) rfl rfl ?_
      refine s_v (pc := 87) rw_215_87 (dp0 hd (by decide)) (ls0 := [.ref 77, .int (1 : Int32)]) rfl (Nat.le_of_ble_eq_true rfl) (Nat.le_of_ble_eq_true rfl) rfl (to_rc rfl rfl rfl (g_o hG rfl)) rfl ?_
      refine to_an (pc := 0) rw_152_0 rfl ?_
      refine to_in (pc := 1) rw_152_1 rfl ?_
      refine s_pI (pc := 2) rw_152_2 hG rfl (fun M453 W452 => ?_)
      have hG454 := g_wf hG W452 rfl rfl (by decide)
      have F455 := FR.w F0 W452 (show 77 = 77 ∧ (4 = 4 ∨ 4 = 5 ∨ 7 ≤ 4 ∧ 4 ≤ 10) ∨ 77 = 77 ∧ (4 = 44 ∨ 4 = 52) ∨ 101 ≤ 77 ∧ 77 ≤ 108 by decide)
      refine to_an (pc := 5) rw_152_5 rfl ?_
      refine to_an (pc := 6) rw_152_6 rfl ?_
      have c_456 : M453.2.1 77 10 = (M.2.1 77 10) := (W_n W452 (by decide) rfl)
      refine tt_gI (pc := 7) rw_152_7 (g_o hG454 rfl) (v := (M.2.1 77 10)) c_456 ?_
      refine s_pI (pc := 10) rw_152_10 hG454 rfl (fun M458 W457 => ?_)
      have hG459 := g_wf hG454 W457 rfl rfl (by decide)
      have F460 := FR.w F455 W457 (show 77 = 77 ∧ (5 = 4 ∨ 5 = 5 ∨ 7 ≤ 5 ∧ 5 ≤ 10) ∨ 77 = 77 ∧ (5 = 44 ∨ 5 = 52) ∨ 101 ≤ 77 ∧ 77 ≤ 108 by decide)
      refine to_c (pc := 13) rw_152_13 (x := (0 : Int32)) rfl rfl ?_
      refine s_r1 (pc := 14) rw_152_14 (A := 0) rfl (by decide) ?_
      refine s_r1 (pc := 90) rw_215_90 (A := 0) rfl (by decide) ?_
      have k_461 : (0 : Int32).toInt = 0 := rfl
      have c_462 : M458.2.1 77 4 = (1 : Int32) := (W_n W457 (by decide) (W_e W452))
      have k_463 : (1 : Int32).toInt = 1 := rfl
      have t_464 : (M458.2.1 77 4).toInt = (1 : Int32).toInt := congrArg Int32.toInt c_462
      have c_465 : M458.2.1 77 5 = (M.2.1 77 10) := (W_e W457)
      have t_466 : (M458.2.1 77 5).toInt = (M.2.1 77 10).toInt := congrArg Int32.toInt c_465
      exact h (0 : Int32) M458 hG459 F460 (by decide) (by decide) (fun z => by exfalso; omega) (fun z => by exfalso; omega) (fun _ => winl (by omega) (by omega) (w_nx (by omega) (by omega) (by omega) (by omega) (by omega)))
    · refine to_c (pc := 16) rw_159_16 (x := (1 : Int32)) rfl rfl ?_
      refine to_go (pc := 17) rw_159_17 ?_
      refine s_r1 (pc := 21) rw_159_21 (A := 1) rfl (by decide) ?_
      refine b_ieq_f (pc := 6) rw_215_6 (A := 1) rfl (by decide) ?_
      refine to_an (pc := 9) rw_215_9 rfl ?_
      refine tt_gI (pc := 10) rw_215_10 (g_o hG rfl) (v := (M.2.1 77 52)) rfl ?_
      refine b_ile (pc := 13) rw_215_13 (A := (M.2.1 77 52).toInt) rfl (fun h467 => ?_) (fun h467 => ?_)
      · have z_468 := RS_4 q1 (a := a) (by omega) (by omega)
        refine to_an (pc := 50) rw_215_50 rfl ?_
        refine tt_gI (pc := 51) rw_215_51 (g_o hG rfl) (v := (M.2.1 77 8)) rfl ?_
        refine to_c (pc := 54) rw_215_54 (x := (1 : Int32)) rfl rfl ?_
        refine b_cne_t (pc := 55) rw_215_55 (A := (M.2.1 77 8).toInt) (B := 1) rfl rfl (by omega) ?_
        refine to_an (pc := 85) rw_215_85 rfl ?_
        refine to_c (pc := 86) rw_215_86 (x := (1 : Int32)) rfl rfl ?_
        refine s_v (pc := 87) rw_215_87 (dp0 hd (by decide)) (ls0 := [.ref 77, .int (1 : Int32)]) rfl (Nat.le_of_ble_eq_true rfl) (Nat.le_of_ble_eq_true rfl) rfl (to_rc rfl rfl rfl (g_o hG rfl)) rfl ?_
        refine to_an (pc := 0) rw_152_0 rfl ?_
        refine to_in (pc := 1) rw_152_1 rfl ?_
        refine s_pI (pc := 2) rw_152_2 hG rfl (fun M470 W469 => ?_)
        have hG471 := g_wf hG W469 rfl rfl (by decide)
        have F472 := FR.w F0 W469 (show 77 = 77 ∧ (4 = 4 ∨ 4 = 5 ∨ 7 ≤ 4 ∧ 4 ≤ 10) ∨ 77 = 77 ∧ (4 = 44 ∨ 4 = 52) ∨ 101 ≤ 77 ∧ 77 ≤ 108 by decide)
        refine to_an (pc := 5) rw_152_5 rfl ?_
        refine to_an (pc := 6) rw_152_6 rfl ?_
        have c_473 : M470.2.1 77 10 = (M.2.1 77 10) := (W_n W469 (by decide) rfl)
        refine tt_gI (pc := 7) rw_152_7 (g_o hG471 rfl) (v := (M.2.1 77 10)) c_473 ?_
        refine s_pI (pc := 10) rw_152_10 hG471 rfl (fun M475 W474 => ?_)
        have hG476 := g_wf hG471 W474 rfl rfl (by decide)
        have F477 := FR.w F472 W474 (show 77 = 77 ∧ (5 = 4 ∨ 5 = 5 ∨ 7 ≤ 5 ∧ 5 ≤ 10) ∨ 77 = 77 ∧ (5 = 44 ∨ 5 = 52) ∨ 101 ≤ 77 ∧ 77 ≤ 108 by decide)
        refine to_c (pc := 13) rw_152_13 (x := (0 : Int32)) rfl rfl ?_
        refine s_r1 (pc := 14) rw_152_14 (A := 0) rfl (by decide) ?_
        refine s_r1 (pc := 90) rw_215_90 (A := 0) rfl (by decide) ?_
        have k_478 : (0 : Int32).toInt = 0 := rfl
        have c_479 : M475.2.1 77 4 = (1 : Int32) := (W_n W474 (by decide) (W_e W469))
        have k_480 : (1 : Int32).toInt = 1 := rfl
        have t_481 : (M475.2.1 77 4).toInt = (1 : Int32).toInt := congrArg Int32.toInt c_479
        have c_482 : M475.2.1 77 5 = (M.2.1 77 10) := (W_e W474)
        have t_483 : (M475.2.1 77 5).toInt = (M.2.1 77 10).toInt := congrArg Int32.toInt c_482
        exact h (0 : Int32) M475 hG476 F477 (by decide) (by decide) (fun z => by exfalso; omega) (fun z => by exfalso; omega) (fun _ => winl (by omega) (by omega) (w_nx (by omega) (by omega) (by omega) (by omega) (by omega)))
      · have z_484 := RS_4 q1 (a := a) (by omega) (by omega)
        refine to_an (pc := 16) rw_215_16 rfl ?_
        refine to_dupr (pc := 17) rw_215_17 ?_
        refine tt_gI (pc := 18) rw_215_18 (g_o hG rfl) (v := (M.2.1 77 52)) rfl ?_
        refine to_c (pc := 21) rw_215_21 (x := (1 : Int32)) rfl rfl ?_
        refine s_sub (pc := 22) rw_215_22 (A := (M.2.1 77 52).toInt) (B := 1) rfl rfl (by omega) (fun v485 e486 => ?_)
        refine s_pI (pc := 23) rw_215_23 hG rfl (fun M488 W487 => ?_)
        have hG489 := g_w hG W487 (A := v485.toInt) rfl (lo := 0) (hi := 5) rfl rfl (by omega) (by decide)
        have F490 := FR.w F0 W487 (show 77 = 77 ∧ (52 = 4 ∨ 52 = 5 ∨ 7 ≤ 52 ∧ 52 ≤ 10) ∨ 77 = 77 ∧ (52 = 44 ∨ 52 = 52) ∨ 101 ≤ 77 ∧ 77 ≤ 108 by decide)
        refine to_an (pc := 26) rw_215_26 rfl ?_
        refine s_gR (pc := 27) rw_215_27 hG489 rfl (v := 105) rfl ?_
        refine to_an (pc := 30) rw_215_30 rfl ?_
        refine s_gR (pc := 31) rw_215_31 hG489 rfl (v := 108) rfl ?_
        refine to_an (pc := 34) rw_215_34 rfl ?_
        have c_491 : M488.2.1 77 52 = v485 := (W_e W487)
        refine tt_gI (pc := 35) rw_215_35 (g_o hG489 rfl) (v := v485) c_491 ?_
        refine s_ial (pc := 38) rw_215_38 hG489 rfl (n := 5) rfl rfl (A := v485.toInt) rfl (by omega) (by omega) (lo := 0) (hi := 39) rfl rfl (fun v492 w_493 _ _ => ?_)
        refine to_an (pc := 39) rw_215_39 rfl ?_
        have c_494 : M488.2.1 77 44 = (M.2.1 77 44) := (W_n W487 (by decide) rfl)
        refine tt_gI (pc := 40) rw_215_40 (g_o hG489 rfl) (v := (M.2.1 77 44)) c_494 ?_
        refine s_ias (pc := 43) rw_215_43 hG489 rfl (n := 40) rfl (A := v492.toInt) rfl (by omega) (by omega) (fun M496 W495 => ?_)
        have hG497 := g_w hG489 W495 (A := (M.2.1 77 44).toInt) rfl (lo := 0) (hi := 40) rfl rfl (by omega) (by decide)
        have F498 := FR.w F490 W495 (show 105 = 77 ∧ ((v492.toInt).toNat = 4 ∨ (v492.toInt).toNat = 5 ∨ 7 ≤ (v492.toInt).toNat ∧ (v492.toInt).toNat ≤ 10) ∨ 105 = 77 ∧ ((v492.toInt).toNat = 44 ∨ (v492.toInt).toNat = 52) ∨ 101 ≤ 105 ∧ 105 ≤ 108 by omega)
        refine to_an (pc := 44) rw_215_44 rfl ?_
        refine s_v (pc := 45) rw_215_45 (dp0 hd (by decide)) (ls0 := [.ref 77]) rfl (Nat.le_of_ble_eq_true rfl) (Nat.le_of_ble_eq_true rfl) rfl (to_rc rfl rfl rfl (g_o hG497 rfl)) rfl ?_
        have c_499 : M496.2.1 77 7 = (M.2.1 77 7) := (W_n W495 (fun z => absurd z.1 (by decide)) (W_n W487 (by decide) rfl))
        have t_500 : (M496.2.1 77 7).toInt = (M.2.1 77 7).toInt := congrArg Int32.toInt c_499
        have c_501 : M496.2.1 77 6 = (M.2.1 77 6) := (W_n W495 (fun z => absurd z.1 (by decide)) (W_n W487 (by decide) rfl))
        have t_502 : (M496.2.1 77 6).toInt = (M.2.1 77 6).toInt := congrArg Int32.toInt c_501
        have c_503 : M496.2.1 77 10 = (M.2.1 77 10) := (W_n W495 (fun z => absurd z.1 (by decide)) (W_n W487 (by decide) rfl))
        have t_504 : (M496.2.1 77 10).toInt = (M.2.1 77 10).toInt := congrArg Int32.toInt c_503
        have j_505 := (RS_f (fun a i z => W_n W495 (tg_184 a i _ z) rfl) (RS_f (fun a i z => W_n W487 (tg_178 a i z) rfl) q1))
        have z_506 := RS_b j_505 (a := a) (by omega)
        have j_507 := (TR_f (fun a i z => W_n W495 (tg_185 a i _ z) rfl) (TR_f (fun a i z => W_n W487 (tg_180 a i z) rfl) q5))
        have j_508 := (W9_f (fun a i z => W_n W495 (tg_186 a i _ z) rfl) (W9_f (fun a i z => W_n W487 (tg_182 a i z) rfl) q6))
        refine E_156 hX (dp1 hd (by decide)) hG497 (by omega) (by omega) (by omega) (by omega) j_507 j_508  (fun M515 hG510 F509 p_511 p_512 p_513 p_514 => ?_)
        have F516 := FR.c F498 F509 tg_168
        have b_517 := g_b hG510 (a := 77) (i := 7) (lo := 0) (hi := 500) rfl rfl
        have c_518 : M515.2.1 77 6 = (M.2.1 77 6) := (F_n F509 (show ¬ (77 = 77 ∧ 7 ≤ 6 ∧ 6 ≤ 10) by decide) c_501)
        have t_519 : (M515.2.1 77 6).toInt = (M.2.1 77 6).toInt := congrArg Int32.toInt c_518
        have b_520 := g_b hG510 (a := 77) (i := 8) (lo := 0) (hi := 5) rfl rfl
        have b_521 := g_b hG510 (a := 77) (i := 10) (lo := 0) (hi := 500) rfl rfl
        have z_522 := RS_s p_514.2 (a := a) (by omega)
        refine to_c (pc := 48) rw_215_48 (x := (1 : Int32)) rfl rfl ?_
        refine s_r1 (pc := 49) rw_215_49 (A := 1) rfl (by decide) ?_
        have k_523 : (1 : Int32).toInt = 1 := rfl
        have c_524 : M515.2.1 77 44 = (M.2.1 77 44) := (F_n F509 (show ¬ (77 = 77 ∧ 7 ≤ 44 ∧ 44 ≤ 10) by decide) (W_n W495 (fun z => absurd z.1 (by decide)) c_494))
        have t_525 : (M515.2.1 77 44).toInt = (M.2.1 77 44).toInt := congrArg Int32.toInt c_524
        have c_526 : M515.2.1 77 52 = v485 := (F_n F509 (show ¬ (77 = 77 ∧ 7 ≤ 52 ∧ 52 ≤ 10) by decide) (W_n W495 (fun z => absurd z.1 (by decide)) c_491))
        have t_527 : (M515.2.1 77 52).toInt = v485.toInt := congrArg Int32.toInt c_526
        exact h (1 : Int32) M515 hG510 F516 (by decide) (by decide) (fun _ => p_514.1) (fun _ => WS_c (w := 0) (k := (v485.toInt).toNat) q11 q12 q13 q14 rfl (by omega) (by omega) (by omega) (by omega) (by omega) ((W_n W487 (by omega) rfl).symm.trans w_493) (fun r i z => (F_n F509 (show ¬ (r = 77 ∧ 7 ≤ i ∧ i ≤ 10) by omega) (W_n W495 (by omega) (W_n W487 (by omega) rfl)))) (fun i z => (F_n F509 (show ¬ (105 = 77 ∧ 7 ≤ i ∧ i ≤ 10) by omega) (W_n W495 (by omega) (W_n W487 (by omega) rfl)))) (by rw [show M515.2.1 105 (v492.toInt).toNat = (M.2.1 77 44) from (F_n F509 (show ¬ (105 = 77 ∧ 7 ≤ ((v492.toInt).toNat) ∧ ((v492.toInt).toNat) ≤ 10) by omega) (W_e W495))]; omega) (by omega) (by omega) (by omega)) (fun z => by exfalso; omega)

end
