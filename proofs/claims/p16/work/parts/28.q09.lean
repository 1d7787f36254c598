theorem tg_35 : ∀ a i : Nat, (a = 77 ∧ 7 ≤ i ∧ i ≤ 10) → (a = 77 ∧ (i = 4 ∨ i = 5 ∨ 7 ≤ i ∧ i ≤ 10)) := fun a i z => by omega
theorem tg_36 : ∀ a i : Nat, (a < 0) → (a = 77 ∧ (i = 4 ∨ i = 5)) := fun a i z => by omega
theorem tg_37 : ∀ a i : Nat, (a = 77 ∧ 6 ≤ i ∧ i ≤ 10) → ¬ (a = 77 ∧ i = 5) := fun a i z => by omega
theorem tg_38 : ∀ a i : Nat, (a = 77 ∧ 6 ≤ i ∧ i ≤ 10) → ¬ (a = 77 ∧ i = 4) := fun a i z => by omega
set_option maxRecDepth 4000 in
set_option maxHeartbeats 0 in
theorem E_162 {X : mm_X} {d : Nat} {M : mm_M} {Q : Option Value → mm_M → Prop} {l : Int32} {m : Int32} {t : Nat → Int} {nn : Int} {a : Int} (hX : g_X X) (hd : 1 ≤ d) (hG : g_G M) (q1 : RS M t nn) (q2 : (M.2.1 77 10).toInt = a) (q3 : m.toInt ≤ 99) (h : ∀ (r : Int32) (M1 : mm_M), g_G M1 → FR md_wr2 M M1 → (0 ≤ r.toInt) → (r.toInt ≤ 1) → (r.toInt = 1 → x_kind t nn a = 3 ∧ x_val t nn a = (M.2.1 77 9).toInt ∧ l.toInt ≤ x_val t nn a ∧ x_val t nn a ≤ m.toInt) → (r.toInt = 0 → ¬ (x_kind t nn a = 3 ∧ l.toInt ≤ x_val t nn a ∧ x_val t nn a ≤ m.toInt)) → Q (some (.int r)) M1) : mm_T X d 161 0 [.ref 77, .int l, .int m] [] M Q := by
  have F0 : FR md_wr2 M M := FR.rf
  have b_1 := g_b hG (a := 77) (i := 10) (lo := 0) (hi := 500) rfl rfl
  have b_2 := g_b hG (a := 77) (i := 8) (lo := 0) (hi := 5) rfl rfl
  have c_3 := RS_u q1 (a := a) (by omega)
  unfold x_R at c_3
  refine to_an (pc := 0) rw_162_0 rfl (tt_gI (pc := 1) rw_162_1 (g_o hG rfl) (v := (M.2.1 77 8)) rfl (to_c (pc := 4) rw_162_4 (x := (3 : Int32)) rfl rfl (b_ceq (pc := 5) rw_162_5 (A := (M.2.1 77 8).toInt) (B := 3) rfl rfl (fun h4 => ?_) (fun h4 => ?_))))
  · refine to_an (pc := 14) rw_162_14 rfl (tt_gI (pc := 15) rw_162_15 (g_o hG rfl) (v := (M.2.1 77 9)) rfl (to_in (pc := 18) rw_162_18 rfl (b_clt (pc := 19) rw_162_19 (A := (M.2.1 77 9).toInt) (B := l.toInt) rfl rfl (fun h5 => ?_) (fun h5 => ?_))))
    · refine to_an (pc := 30) rw_162_30 rfl (to_c (pc := 31) rw_162_31 (x := (2 : Int32)) rfl rfl (s_v (pc := 32) rw_162_32 (dp0 hd (by decide)) (ls0 := [.ref 77, .int (2 : Int32)]) rfl (Nat.le_of_ble_eq_true rfl) (Nat.le_of_ble_eq_true rfl) rfl (to_rc rfl rfl rfl (g_o hG rfl)) rfl (to_an (pc := 0) rw_152_0 rfl (to_in (pc := 1) rw_152_1 rfl (s_pI (pc := 2) rw_152_2 hG rfl (fun M7 W6 => ?_))))))
      have hG8 := g_wf hG W6 rfl rfl (by decide)
      have F9 := FR.w F0 W6 (show 77 = 77 ∧ (4 = 4 ∨ 4 = 5) by decide)
      refine to_an (pc := 5) rw_152_5 rfl (to_an (pc := 6) rw_152_6 rfl ?_)
      have c_10 : M7.2.1 77 10 = (M.2.1 77 10) := (W_n W6 (by decide) rfl)
      refine tt_gI (pc := 7) rw_152_7 (g_o hG8 rfl) (v := (M.2.1 77 10)) c_10 (s_pI (pc := 10) rw_152_10 hG8 rfl (fun M12 W11 => ?_))
      have hG13 := g_wf hG8 W11 rfl rfl (by decide)
      have F14 := FR.w F9 W11 (show 77 = 77 ∧ (5 = 4 ∨ 5 = 5) by decide)
      refine to_c (pc := 13) rw_152_13 (x := (0 : Int32)) rfl rfl (s_r1 (pc := 14) rw_152_14 (A := 0) rfl (by decide) (b_ieq_t (pc := 35) rw_162_35 (A := 0) rfl (by decide) (to_c (pc := 42) rw_162_42 (x := (0 : Int32)) rfl rfl (s_r1 (pc := 43) rw_162_43 (A := 0) rfl (by decide) ?_))))
      have k_15 : (0 : Int32).toInt = 0 := rfl
      exact h (0 : Int32) M12 hG13 F14 (by decide) (by decide) (by omega) (by omega)
    · refine to_an (pc := 22) rw_162_22 rfl (tt_gI (pc := 23) rw_162_23 (g_o hG rfl) (v := (M.2.1 77 9)) rfl (to_in (pc := 26) rw_162_26 rfl (b_cle (pc := 27) rw_162_27 (A := (M.2.1 77 9).toInt) (B := m.toInt) rfl rfl (fun h16 => ?_) (fun h16 => ?_))))
      · refine to_c (pc := 38) rw_162_38 (x := (1 : Int32)) rfl rfl (to_go (pc := 39) rw_162_39 (s_r1 (pc := 43) rw_162_43 (A := 1) rfl (by decide) ?_))
        have k_17 : (1 : Int32).toInt = 1 := rfl
        exact h (1 : Int32) M hG F0 (by decide) (by decide) (by omega) (by omega)
      · refine to_an (pc := 30) rw_162_30 rfl (to_c (pc := 31) rw_162_31 (x := (2 : Int32)) rfl rfl (s_v (pc := 32) rw_162_32 (dp0 hd (by decide)) (ls0 := [.ref 77, .int (2 : Int32)]) rfl (Nat.le_of_ble_eq_true rfl) (Nat.le_of_ble_eq_true rfl) rfl (to_rc rfl rfl rfl (g_o hG rfl)) rfl (to_an (pc := 0) rw_152_0 rfl (to_in (pc := 1) rw_152_1 rfl (s_pI (pc := 2) rw_152_2 hG rfl (fun M19 W18 => ?_))))))
        have hG20 := g_wf hG W18 rfl rfl (by decide)
        have F21 := FR.w F0 W18 (show 77 = 77 ∧ (4 = 4 ∨ 4 = 5) by decide)
        refine to_an (pc := 5) rw_152_5 rfl (to_an (pc := 6) rw_152_6 rfl ?_)
        have c_22 : M19.2.1 77 10 = (M.2.1 77 10) := (W_n W18 (by decide) rfl)
        refine tt_gI (pc := 7) rw_152_7 (g_o hG20 rfl) (v := (M.2.1 77 10)) c_22 (s_pI (pc := 10) rw_152_10 hG20 rfl (fun M24 W23 => ?_))
        have hG25 := g_wf hG20 W23 rfl rfl (by decide)
        have F26 := FR.w F21 W23 (show 77 = 77 ∧ (5 = 4 ∨ 5 = 5) by decide)
        refine to_c (pc := 13) rw_152_13 (x := (0 : Int32)) rfl rfl (s_r1 (pc := 14) rw_152_14 (A := 0) rfl (by decide) (b_ieq_t (pc := 35) rw_162_35 (A := 0) rfl (by decide) (to_c (pc := 42) rw_162_42 (x := (0 : Int32)) rfl rfl (s_r1 (pc := 43) rw_162_43 (A := 0) rfl (by decide) ?_))))
        have k_27 : (0 : Int32).toInt = 0 := rfl
        exact h (0 : Int32) M24 hG25 F26 (by decide) (by decide) (by omega) (by omega)
  · refine to_an (pc := 8) rw_162_8 rfl (to_c (pc := 9) rw_162_9 (x := (1 : Int32)) rfl rfl (s_v (pc := 10) rw_162_10 (dp0 hd (by decide)) (ls0 := [.ref 77, .int (1 : Int32)]) rfl (Nat.le_of_ble_eq_true rfl) (Nat.le_of_ble_eq_true rfl) rfl (to_rc rfl rfl rfl (g_o hG rfl)) rfl (to_an (pc := 0) rw_152_0 rfl (to_in (pc := 1) rw_152_1 rfl (s_pI (pc := 2) rw_152_2 hG rfl (fun M29 W28 => ?_))))))
    have hG30 := g_wf hG W28 rfl rfl (by decide)
    have F31 := FR.w F0 W28 (show 77 = 77 ∧ (4 = 4 ∨ 4 = 5) by decide)
    refine to_an (pc := 5) rw_152_5 rfl (to_an (pc := 6) rw_152_6 rfl ?_)
    have c_32 : M29.2.1 77 10 = (M.2.1 77 10) := (W_n W28 (by decide) rfl)
    refine tt_gI (pc := 7) rw_152_7 (g_o hG30 rfl) (v := (M.2.1 77 10)) c_32 (s_pI (pc := 10) rw_152_10 hG30 rfl (fun M34 W33 => ?_))
    have hG35 := g_wf hG30 W33 rfl rfl (by decide)
    have F36 := FR.w F31 W33 (show 77 = 77 ∧ (5 = 4 ∨ 5 = 5) by decide)
    refine to_c (pc := 13) rw_152_13 (x := (0 : Int32)) rfl rfl (s_r1 (pc := 14) rw_152_14 (A := 0) rfl (by decide) (s_r1 (pc := 13) rw_162_13 (A := 0) rfl (by decide) ?_))
    have k_37 : (0 : Int32).toInt = 0 := rfl
    exact h (0 : Int32) M34 hG35 F36 (by decide) (by decide) (by omega) (by omega)
set_option maxRecDepth 4000 in
set_option maxHeartbeats 0 in
theorem E_160 {X : mm_X} {d : Nat} {M : mm_M} {Q : Option Value → mm_M → Prop} {c : Int32} {t : Nat → Int} {nn : Int} {a : Int} (hX : g_X X) (hd : 2 ≤ d) (hG : g_G M) (q1 : RS M t nn) (q2 : (M.2.1 77 10).toInt = a) (q3 : 0 ≤ nn) (q4 : nn ≤ 500) (q5 : TR M t nn) (q6 : W9 M) (q7 : c.toInt = 59) (h : ∀ (r : Int32) (M1 : mm_M), g_G M1 → FR md_tw M M1 → (0 ≤ r.toInt) → (r.toInt ≤ 1) → RS M1 t nn → (r.toInt = 1 → (x_kind t nn a = 4 ∧ x_val t nn a = 59) ∧ (M1.2.1 77 10).toInt = x_ns t nn a) → (r.toInt = 0 → ¬ (x_kind t nn a = 4 ∧ x_val t nn a = 59)) → Q (some (.int r)) M1) : mm_T X d 159 0 [.ref 77, .int c] [] M Q := by
  have F0 : FR md_tw M M := FR.rf
  have b_1 := g_b hG (a := 77) (i := 10) (lo := 0) (hi := 500) rfl rfl
  have b_2 := g_b hG (a := 77) (i := 8) (lo := 0) (hi := 5) rfl rfl
  have c_3 := RS_u q1 (a := a) (by omega)
  unfold x_R at c_3
  refine to_an (pc := 0) rw_160_0 rfl (to_in (pc := 1) rw_160_1 rfl (s_v (pc := 2) rw_160_2 (dp0 hd (by decide)) (ls0 := [.ref 77, .int c]) rfl (Nat.le_of_ble_eq_true rfl) (Nat.le_of_ble_eq_true rfl) rfl (to_rc rfl rfl rfl (g_o hG rfl)) rfl (to_an (pc := 0) rw_159_0 rfl (tt_gI (pc := 1) rw_159_1 (g_o hG rfl) (v := (M.2.1 77 8)) rfl (to_c (pc := 4) rw_159_4 (x := (4 : Int32)) rfl rfl (b_cne (pc := 5) rw_159_5 (A := (M.2.1 77 8).toInt) (B := 4) rfl rfl (fun h4 => ?_) (fun h4 => ?_)))))))
  · refine to_c (pc := 20) rw_159_20 (x := (0 : Int32)) rfl rfl (s_r1 (pc := 21) rw_159_21 (A := 0) rfl (by decide) (b_ine_f (pc := 5) rw_160_5 (A := 0) rfl (by decide) (to_an (pc := 8) rw_160_8 rfl (to_c (pc := 9) rw_160_9 (x := (1 : Int32)) rfl rfl (s_v (pc := 10) rw_160_10 (dp0 hd (by decide)) (ls0 := [.ref 77, .int (1 : Int32)]) rfl (Nat.le_of_ble_eq_true rfl) (Nat.le_of_ble_eq_true rfl) rfl (to_rc rfl rfl rfl (g_o hG rfl)) rfl (to_an (pc := 0) rw_152_0 rfl (to_in (pc := 1) rw_152_1 rfl (s_pI (pc := 2) rw_152_2 hG rfl (fun M6 W5 => ?_)))))))))
    have hG7 := g_wf hG W5 rfl rfl (by decide)
    have F8 := FR.w F0 W5 (show 77 = 77 ∧ (4 = 4 ∨ 4 = 5 ∨ 7 ≤ 4 ∧ 4 ≤ 10) by decide)
    refine to_an (pc := 5) rw_152_5 rfl (to_an (pc := 6) rw_152_6 rfl ?_)
    have c_9 : M6.2.1 77 10 = (M.2.1 77 10) := (W_n W5 (by decide) rfl)
    refine tt_gI (pc := 7) rw_152_7 (g_o hG7 rfl) (v := (M.2.1 77 10)) c_9 (s_pI (pc := 10) rw_152_10 hG7 rfl (fun M11 W10 => ?_))
    have hG12 := g_wf hG7 W10 rfl rfl (by decide)
    have F13 := FR.w F8 W10 (show 77 = 77 ∧ (5 = 4 ∨ 5 = 5 ∨ 7 ≤ 5 ∧ 5 ≤ 10) by decide)
    refine to_c (pc := 13) rw_152_13 (x := (0 : Int32)) rfl rfl (s_r1 (pc := 14) rw_152_14 (A := 0) rfl (by decide) (s_r1 (pc := 13) rw_160_13 (A := 0) rfl (by decide) ?_))
    have k_14 : (0 : Int32).toInt = 0 := rfl
    have j_15 := (RS_f (fun a i z => W_n W10 (tg_37 a i z) rfl) (RS_f (fun a i z => W_n W5 (tg_38 a i z) rfl) q1))
    have c_16 : M11.2.1 77 10 = (M.2.1 77 10) := (W_n W10 (by decide) c_9)
    have t_17 : (M11.2.1 77 10).toInt = (M.2.1 77 10).toInt := congrArg Int32.toInt c_16
    exact h (0 : Int32) M11 hG12 F13 (by decide) (by decide) j_15 (by omega) (by omega)
  · refine to_an (pc := 8) rw_159_8 rfl (tt_gI (pc := 9) rw_159_9 (g_o hG rfl) (v := (M.2.1 77 9)) rfl (to_in (pc := 12) rw_159_12 rfl (b_cne (pc := 13) rw_159_13 (A := (M.2.1 77 9).toInt) (B := c.toInt) rfl rfl (fun h18 => ?_) (fun h18 => ?_))))
    · refine to_c (pc := 20) rw_159_20 (x := (0 : Int32)) rfl rfl (s_r1 (pc := 21) rw_159_21 (A := 0) rfl (by decide) (b_ine_f (pc := 5) rw_160_5 (A := 0) rfl (by decide) (to_an (pc := 8) rw_160_8 rfl (to_c (pc := 9) rw_160_9 (x := (1 : Int32)) rfl rfl (s_v (pc := 10) rw_160_10 (dp0 hd (by decide)) (ls0 := [.ref 77, .int (1 : Int32)]) rfl (Nat.le_of_ble_eq_true rfl) (Nat.le_of_ble_eq_true rfl) rfl (to_rc rfl rfl rfl (g_o hG rfl)) rfl (to_an (pc := 0) rw_152_0 rfl (to_in (pc := 1) rw_152_1 rfl (s_pI (pc := 2) rw_152_2 hG rfl (fun M20 W19 => ?_)))))))))
      have hG21 := g_wf hG W19 rfl rfl (by decide)
      have F22 := FR.w F0 W19 (show 77 = 77 ∧ (4 = 4 ∨ 4 = 5 ∨ 7 ≤ 4 ∧ 4 ≤ 10) by decide)
      refine to_an (pc := 5) rw_152_5 rfl (to_an (pc := 6) rw_152_6 rfl ?_)
      have c_23 : M20.2.1 77 10 = (M.2.1 77 10) := (W_n W19 (by decide) rfl)
      refine tt_gI (pc := 7) rw_152_7 (g_o hG21 rfl) (v := (M.2.1 77 10)) c_23 (s_pI (pc := 10) rw_152_10 hG21 rfl (fun M25 W24 => ?_))
      have hG26 := g_wf hG21 W24 rfl rfl (by decide)
      have F27 := FR.w F22 W24 (show 77 = 77 ∧ (5 = 4 ∨ 5 = 5 ∨ 7 ≤ 5 ∧ 5 ≤ 10) by decide)
      refine to_c (pc := 13) rw_152_13 (x := (0 : Int32)) rfl rfl (s_r1 (pc := 14) rw_152_14 (A := 0) rfl (by decide) (s_r1 (pc := 13) rw_160_13 (A := 0) rfl (by decide) ?_))
      have k_28 : (0 : Int32).toInt = 0 := rfl
      have j_29 := (RS_f (fun a i z => W_n W24 (tg_37 a i z) rfl) (RS_f (fun a i z => W_n W19 (tg_38 a i z) rfl) q1))
      have c_30 : M25.2.1 77 10 = (M.2.1 77 10) := (W_n W24 (by decide) c_23)
      have t_31 : (M25.2.1 77 10).toInt = (M.2.1 77 10).toInt := congrArg Int32.toInt c_30
      exact h (0 : Int32) M25 hG26 F27 (by decide) (by decide) j_29 (by omega) (by omega)
    · refine to_c (pc := 16) rw_159_16 (x := (1 : Int32)) rfl rfl (to_go (pc := 17) rw_159_17 (s_r1 (pc := 21) rw_159_21 (A := 1) rfl (by decide) (b_ine_t (pc := 5) rw_160_5 (A := 1) rfl (by decide) (to_an (pc := 14) rw_160_14 rfl (s_v (pc := 15) rw_160_15 (dp0 hd (by decide)) (ls0 := [.ref 77]) rfl (Nat.le_of_ble_eq_true rfl) (Nat.le_of_ble_eq_true rfl) rfl (to_rc rfl rfl rfl (g_o hG rfl)) rfl ?_)))))
      have b_32 := g_b hG (a := 77) (i := 7) (lo := 0) (hi := 500) rfl rfl
      have b_33 := g_b hG (a := 77) (i := 6) (lo := 0) (hi := 500) rfl rfl
      have z_34 := RS_b q1 (a := a) (by omega)
      refine E_156 hX (dp1 hd (by decide)) hG (by omega) (by omega) (by omega) (by omega) q5 q6  (fun M41 hG36 F35 p_37 p_38 p_39 p_40 => ?_)
      have F42 := FR.c F0 F35 tg_35
      have b_43 := g_b hG36 (a := 77) (i := 7) (lo := 0) (hi := 500) rfl rfl
      have c_44 : M41.2.1 77 6 = (M.2.1 77 6) := (F_n F35 (show ¬ (77 = 77 ∧ 7 ≤ 6 ∧ 6 ≤ 10) by decide) rfl)
      have t_45 : (M41.2.1 77 6).toInt = (M.2.1 77 6).toInt := congrArg Int32.toInt c_44
      have b_46 := g_b hG36 (a := 77) (i := 8) (lo := 0) (hi := 5) rfl rfl
      have b_47 := g_b hG36 (a := 77) (i := 10) (lo := 0) (hi := 500) rfl rfl
      have z_48 := RS_s p_40.2 (a := a) (by omega)
      refine to_c (pc := 18) rw_160_18 (x := (1 : Int32)) rfl rfl (s_r1 (pc := 19) rw_160_19 (A := 1) rfl (by decide) ?_)
      have k_49 : (1 : Int32).toInt = 1 := rfl
      exact h (1 : Int32) M41 hG36 F42 (by decide) (by decide) p_40.1 (by omega) (by omega)
set_option maxRecDepth 4000 in
set_option maxHeartbeats 0 in
theorem U_166_0 {X : mm_X} {d : Nat} {M : mm_M} {Q : Option Value → mm_M → Prop} {n : Int32} {sg : x_S} (hX : g_X X) (hd : 0 ≤ d) (q1 : PLr M sg) (h : ∀ (r : Int32) (M1 : mm_M), g_G M1 → FR md_0 M M1 → (-1 ≤ r.toInt) → (r.toInt ≤ 7) → (r.toInt = x_fn sg 1 n.toInt) → Q (some (.int r)) M1) : ∀ nn9 : Nat, (∀ (N : mm_M) (x2 : Int32), g_G N → FR md_0 M N → (0 ≤ x2.toInt) → (x2.toInt ≤ 8) → (x2.toInt ≤ sg.2.1) → (PLr N sg) → (x_find (sg.2.2.2.2 1) n.toInt (sg.2.1 - x2.toInt).toNat (x2.toInt).toNat = x_fn sg 1 n.toInt) → 8 - x2.toInt < (nn9 : Int) → mm_T X d 165 2 [.ref 77, .int n, .int x2] [] N Q) := by
  intro nn9
  induction nn9 with
  | zero =>
    intro N x2 hG F0 g1 g2 g3 g4 g5 hm
    exfalso; omega
  | succ nn9 ih =>
    intro N x2 hG F0 g1 g2 g3 g4 g5 hm
    have z_1 := g4.2.1
    have z_2 := g4.2.2.1
    have z_3 := g4.2.2.2.1
    have z_4 := g4.1
    have z_5 := z_4.1
    have z_6 := z_4.2.1
    have z_7 := z_4.2.2.1
    have z_8 := z_4.2.2.2.1
    have z_9 := z_4.2.2.2.2.1
    have z_10 := z_4.2.2.2.2.2.1
    have b_11 := g_b hG (a := 77) (i := 14) (lo := 10) (hi := 60) rfl rfl
    have b_12 := g_b hG (a := 77) (i := 15) (lo := 0) (hi := 8) rfl rfl
    have b_13 := g_b hG (a := 77) (i := 16) (lo := 0) (hi := 12) rfl rfl
    refine to_in (pc := 2) rw_166_2 rfl (to_an (pc := 3) rw_166_3 rfl (tt_gI (pc := 4) rw_166_4 (g_o hG rfl) (v := (N.2.1 77 15)) rfl (b_cge (pc := 7) rw_166_7 (A := x2.toInt) (B := (N.2.1 77 15).toInt) rfl rfl (fun h14 => ?_) (fun h14 => ?_))))
    · refine to_c (pc := 31) rw_166_31 (x := (-1 : Int32)) rfl rfl (to_r0 (pc := 32) rw_166_32 ?_)
      have k_15 : (-1 : Int32).toInt = -1 := rfl
      have z_16 := x_fi_n (g := (sg.2.2.2.2 1)) (v := n.toInt) (n := sg.2.1) (x3 := x2.toInt) (by omega) g5
      exact h (-1 : Int32) N hG F0 (by omega) (by omega) (by omega)
    · refine to_an (pc := 10) rw_166_10 rfl (s_gR (pc := 11) rw_166_11 hG rfl (v := 80) rfl (to_c (pc := 14) rw_166_14 (x := (8 : Int32)) rfl rfl (to_in (pc := 16) rw_166_16 rfl (s_add (pc := 17) rw_166_17 (A := 8) (B := x2.toInt) rfl rfl (by omega) (fun v17 e18 => s_ial (pc := 18) rw_166_18 hG rfl (n := 16) rfl rfl (A := v17.toInt) rfl (by omega) (by omega) (lo := -2147483648) (hi := 2147483647) rfl rfl (fun v19 w_20 _ _ => ?_))))))
      have z_21 := PLr_r g4 1 80 rfl (by decide) (by decide) (k := x2.toInt) (by omega) (by omega) (by omega) w_20
      refine to_in (pc := 19) rw_166_19 rfl (b_cne (pc := 20) rw_166_20 (A := v19.toInt) (B := n.toInt) rfl rfl (fun h22 => ?_) (fun h22 => ?_))
      · refine s_inc (pc := 25) rw_166_25 (ls2 := fun v => [.ref 77, .int n, .int v]) rfl rfl (fun _ => rfl) (A := x2.toInt) (B := 1) rfl rfl (by omega) (fun v23 e24 => to_go (pc := 28) rw_166_28 ?_)
        exact ih N v23 hG F0 (by omega) (by omega) (by omega) g4 (x_fi_e (g := (sg.2.2.2.2 1)) (n := sg.2.1) (x3 := x2.toInt) (y := v23.toInt) (by omega) (by omega) (show ¬ x_row sg 1 x2.toInt = n.toInt by omega) (by omega) g5) (by omega)
      · refine to_in (pc := 23) rw_166_23 rfl (to_r0 (pc := 24) rw_166_24 ?_)
        have z_25 := x_fi_y (g := (sg.2.2.2.2 1)) (v := n.toInt) (n := sg.2.1) (x3 := x2.toInt) (by omega) (by omega) (show x_row sg 1 x2.toInt = n.toInt by omega) g5
        exact h x2 N hG F0 (by omega) (by omega) (by omega)
set_option maxRecDepth 4000 in
set_option maxHeartbeats 0 in
theorem E_166 {X : mm_X} {d : Nat} {M : mm_M} {Q : Option Value → mm_M → Prop} {n : Int32} {sg : x_S} (hX : g_X X) (hd : 0 ≤ d) (hG : g_G M) (q1 : PLr M sg) (h : ∀ (r : Int32) (M1 : mm_M), g_G M1 → FR md_0 M M1 → (-1 ≤ r.toInt) → (r.toInt ≤ 7) → (r.toInt = x_fn sg 1 n.toInt) → Q (some (.int r)) M1) : mm_T X d 165 0 [.ref 77, .int n, .null] [] M Q := by
  have F0 : FR md_0 M M := FR.rf
  have z_26 := q1.2.1
  have z_27 := q1.2.2.1
  have z_28 := q1.2.2.2.1
  have z_29 := q1.1
  have z_30 := z_29.1
  have z_31 := z_29.2.1
  have z_32 := z_29.2.2.1
  have z_33 := z_29.2.2.2.1
  have z_34 := z_29.2.2.2.2.1
  have z_35 := z_29.2.2.2.2.2.1
  have b_36 := g_b hG (a := 77) (i := 14) (lo := 10) (hi := 60) rfl rfl
  have b_37 := g_b hG (a := 77) (i := 15) (lo := 0) (hi := 8) rfl rfl
  have b_38 := g_b hG (a := 77) (i := 16) (lo := 0) (hi := 12) rfl rfl
  refine to_c (pc := 0) rw_166_0 (x := (0 : Int32)) rfl rfl (to_isn (pc := 1) rw_166_1 (ls2 := [.ref 77, .int n, .int (0 : Int32)]) rfl rfl ?_)
  have k_39 : (0 : Int32).toInt = 0 := rfl
  exact (U_166_0 (n := n) (sg := sg) hX hd q1 h ((8 - (0 : Int32).toInt).toNat + 1)) M (0 : Int32) hG F0 (by omega) (by omega) (by omega) q1 (by rw [show (sg.2.1 - (0 : Int32).toInt).toNat = (sg.2.1).toNat by rw [show (0 : Int32).toInt = 0 from rfl]; congr 1; omega]; rfl) (by omega)
set_option maxRecDepth 4000 in
set_option maxHeartbeats 0 in
theorem U_167_0 {X : mm_X} {d : Nat} {M : mm_M} {Q : Option Value → mm_M → Prop} {n : Int32} {sg : x_S} (hX : g_X X) (hd : 1 ≤ d) (q1 : PLr M sg) (h : ∀ (r : Int32) (M1 : mm_M), g_G M1 → FR md_0 M M1 → (0 ≤ r.toInt) → (r.toInt ≤ 1) → (r.toInt = 0 → x_fn sg 1 n.toInt = -1 ∧ x_fn sg 6 n.toInt = -1) → (r.toInt = 1 → ¬ (x_fn sg 1 n.toInt = -1 ∧ x_fn sg 6 n.toInt = -1)) → Q (some (.int r)) M1) : ∀ nn9 : Nat, (∀ (N : mm_M) (x2 : Int32), g_G N → FR md_0 M N → (0 ≤ x2.toInt) → (x2.toInt ≤ 12) → (x2.toInt ≤ sg.2.2.1) → (PLr N sg) → (x_find (sg.2.2.2.2 6) n.toInt (sg.2.2.1 - x2.toInt).toNat (x2.toInt).toNat = x_fn sg 6 n.toInt) → 12 - x2.toInt < (nn9 : Int) → mm_T X d 166 2 [.ref 77, .int n, .int x2] [] N Q) := by
  intro nn9
  induction nn9 with
  | zero =>
    intro N x2 hG F0 g1 g2 g3 g4 g5 hm
    exfalso; omega
  | succ nn9 ih =>
    intro N x2 hG F0 g1 g2 g3 g4 g5 hm
    have z_1 := g4.2.1
    have z_2 := g4.2.2.1
    have z_3 := g4.2.2.2.1
    have z_4 := g4.1
    have z_5 := z_4.1
    have z_6 := z_4.2.1
    have z_7 := z_4.2.2.1
    have z_8 := z_4.2.2.2.1
    have z_9 := z_4.2.2.2.2.1
    have z_10 := z_4.2.2.2.2.2.1
    have b_11 := g_b hG (a := 77) (i := 14) (lo := 10) (hi := 60) rfl rfl
    have b_12 := g_b hG (a := 77) (i := 15) (lo := 0) (hi := 8) rfl rfl
    have b_13 := g_b hG (a := 77) (i := 16) (lo := 0) (hi := 12) rfl rfl
    refine to_in (pc := 2) rw_167_2 rfl (to_an (pc := 3) rw_167_3 rfl (tt_gI (pc := 4) rw_167_4 (g_o hG rfl) (v := (N.2.1 77 16)) rfl (b_cge (pc := 7) rw_167_7 (A := x2.toInt) (B := (N.2.1 77 16).toInt) rfl rfl (fun h14 => ?_) (fun h14 => ?_))))
    · refine to_an (pc := 31) rw_167_31 rfl (to_in (pc := 32) rw_167_32 rfl (s_v (pc := 33) rw_167_33 (dp0 hd (by decide)) (ls0 := [.ref 77, .int n, .null]) rfl (Nat.le_of_ble_eq_true rfl) (Nat.le_of_ble_eq_true rfl) rfl (to_rc rfl rfl rfl (g_o hG rfl)) rfl (E_166 hX (dp1 hd (by decide)) hG g4 (n := n) (sg := sg) (fun r15 M21 hG17 F16 p_18 p_19 p_20 => ?_))))
      have F22 := FR.c F0 F16 tg_29
      refine b_ilt (pc := 36) rw_167_36 (A := r15.toInt) rfl (fun h23 => ?_) (fun h23 => ?_)
      · refine to_c (pc := 43) rw_167_43 (x := (0 : Int32)) rfl rfl (s_r1 (pc := 44) rw_167_44 (A := 0) rfl (by decide) ?_)
        have k_24 : (0 : Int32).toInt = 0 := rfl
        have z_25 := x_fi_n (g := (sg.2.2.2.2 6)) (v := n.toInt) (n := sg.2.2.1) (x3 := x2.toInt) (by omega) g5
        exact h (0 : Int32) M21 hG17 F22 (by decide) (by decide) (by omega) (by omega)
      · refine to_c (pc := 39) rw_167_39 (x := (1 : Int32)) rfl rfl (to_go (pc := 40) rw_167_40 (s_r1 (pc := 44) rw_167_44 (A := 1) rfl (by decide) ?_))
        have k_26 : (1 : Int32).toInt = 1 := rfl
        have z_27 := x_fi_n (g := (sg.2.2.2.2 6)) (v := n.toInt) (n := sg.2.2.1) (x3 := x2.toInt) (by omega) g5
        exact h (1 : Int32) M21 hG17 F22 (by decide) (by decide) (by omega) (by omega)
    · refine to_an (pc := 10) rw_167_10 rfl (s_gR (pc := 11) rw_167_11 hG rfl (v := 85) rfl (to_c (pc := 14) rw_167_14 (x := (12 : Int32)) rfl rfl (to_in (pc := 16) rw_167_16 rfl (s_add (pc := 17) rw_167_17 (A := 12) (B := x2.toInt) rfl rfl (by omega) (fun v28 e29 => s_ial (pc := 18) rw_167_18 hG rfl (n := 24) rfl rfl (A := v28.toInt) rfl (by omega) (by omega) (lo := -2147483648) (hi := 2147483647) rfl rfl (fun v30 w_31 _ _ => ?_))))))
      have z_32 := PLr_w g4 6 85 rfl (by decide) (by decide) (k := x2.toInt) (by omega) (by omega) (by omega) w_31
      refine to_in (pc := 19) rw_167_19 rfl (b_cne (pc := 20) rw_167_20 (A := v30.toInt) (B := n.toInt) rfl rfl (fun h33 => ?_) (fun h33 => ?_))
      · refine s_inc (pc := 25) rw_167_25 (ls2 := fun v => [.ref 77, .int n, .int v]) rfl rfl (fun _ => rfl) (A := x2.toInt) (B := 1) rfl rfl (by omega) (fun v34 e35 => to_go (pc := 28) rw_167_28 ?_)
        exact ih N v34 hG F0 (by omega) (by omega) (by omega) g4 (x_fi_e (g := (sg.2.2.2.2 6)) (n := sg.2.2.1) (x3 := x2.toInt) (y := v34.toInt) (by omega) (by omega) (show ¬ x_row sg 6 x2.toInt = n.toInt by omega) (by omega) g5) (by omega)
      · refine to_c (pc := 23) rw_167_23 (x := (1 : Int32)) rfl rfl (s_r1 (pc := 24) rw_167_24 (A := 1) rfl (by decide) ?_)
        have k_36 : (1 : Int32).toInt = 1 := rfl
        have z_37 := x_fi_y (g := (sg.2.2.2.2 6)) (v := n.toInt) (n := sg.2.2.1) (x3 := x2.toInt) (by omega) (by omega) (show x_row sg 6 x2.toInt = n.toInt by omega) g5
        exact h (1 : Int32) N hG F0 (by decide) (by decide) (by omega) (by omega)
set_option maxRecDepth 4000 in
set_option maxHeartbeats 0 in
theorem E_167 {X : mm_X} {d : Nat} {M : mm_M} {Q : Option Value → mm_M → Prop} {n : Int32} {sg : x_S} (hX : g_X X) (hd : 1 ≤ d) (hG : g_G M) (q1 : PLr M sg) (h : ∀ (r : Int32) (M1 : mm_M), g_G M1 → FR md_0 M M1 → (0 ≤ r.toInt) → (r.toInt ≤ 1) → (r.toInt = 0 → x_fn sg 1 n.toInt = -1 ∧ x_fn sg 6 n.toInt = -1) → (r.toInt = 1 → ¬ (x_fn sg 1 n.toInt = -1 ∧ x_fn sg 6 n.toInt = -1)) → Q (some (.int r)) M1) : mm_T X d 166 0 [.ref 77, .int n, .null] [] M Q := by
  have F0 : FR md_0 M M := FR.rf
  have z_38 := q1.2.1
  have z_39 := q1.2.2.1
  have z_40 := q1.2.2.2.1
  have z_41 := q1.1
  have z_42 := z_41.1
  have z_43 := z_41.2.1
  have z_44 := z_41.2.2.1
  have z_45 := z_41.2.2.2.1
  have z_46 := z_41.2.2.2.2.1
  have z_47 := z_41.2.2.2.2.2.1
  have b_48 := g_b hG (a := 77) (i := 14) (lo := 10) (hi := 60) rfl rfl
  have b_49 := g_b hG (a := 77) (i := 15) (lo := 0) (hi := 8) rfl rfl
  have b_50 := g_b hG (a := 77) (i := 16) (lo := 0) (hi := 12) rfl rfl
  refine to_c (pc := 0) rw_167_0 (x := (0 : Int32)) rfl rfl (to_isn (pc := 1) rw_167_1 (ls2 := [.ref 77, .int n, .int (0 : Int32)]) rfl rfl ?_)
  have k_51 : (0 : Int32).toInt = 0 := rfl
  exact (U_167_0 (n := n) (sg := sg) hX hd q1 h ((12 - (0 : Int32).toInt).toNat + 1)) M (0 : Int32) hG F0 (by omega) (by omega) (by omega) q1 (by rw [show (sg.2.2.1 - (0 : Int32).toInt).toNat = (sg.2.2.1).toNat by rw [show (0 : Int32).toInt = 0 from rfl]; congr 1; omega]; rfl) (by omega)
set_option maxRecDepth 4000 in
set_option maxHeartbeats 0 in
theorem E_169 {X : mm_X} {d : Nat} {M : mm_M} {Q : Option Value → mm_M → Prop} {t : Nat → Int} {nn : Int} {a : Int} {sg : x_S} (hX : g_X X) (hd : 2 ≤ d) (hG : g_G M) (q1 : RS M t nn) (q2 : (M.2.1 77 10).toInt = a) (q3 : PLr M sg) (h : ∀ (r : Int32) (M1 : mm_M), g_G M1 → FR md_wr2 M M1 → (0 ≤ r.toInt) → (r.toInt ≤ 1) → (r.toInt = 1 → x_kind t nn a = 2 ∧ x_fn sg 1 (x_val t nn a) = -1 ∧ x_fn sg 6 (x_val t nn a) = -1) → (r.toInt = 1 → x_val t nn a = (M.2.1 77 9).toInt) → (r.toInt = 0 → ¬ (x_kind t nn a = 2 ∧ x_fn sg 1 (x_val t nn a) = -1 ∧ x_fn sg 6 (x_val t nn a) = -1)) → Q (some (.int r)) M1) : mm_T X d 168 0 [.ref 77] [] M Q := by
  have F0 : FR md_wr2 M M := FR.rf
  have b_1 := g_b hG (a := 77) (i := 10) (lo := 0) (hi := 500) rfl rfl
  have b_2 := g_b hG (a := 77) (i := 8) (lo := 0) (hi := 5) rfl rfl
  have c_3 := RS_u q1 (a := a) (by omega)
  unfold x_R at c_3
  refine to_an (pc := 0) rw_169_0 rfl (tt_gI (pc := 1) rw_169_1 (g_o hG rfl) (v := (M.2.1 77 8)) rfl (to_c (pc := 4) rw_169_4 (x := (2 : Int32)) rfl rfl (b_ceq (pc := 5) rw_169_5 (A := (M.2.1 77 8).toInt) (B := 2) rfl rfl (fun h4 => ?_) (fun h4 => ?_))))
  · refine to_an (pc := 14) rw_169_14 rfl (to_an (pc := 15) rw_169_15 rfl (tt_gI (pc := 16) rw_169_16 (g_o hG rfl) (v := (M.2.1 77 9)) rfl (s_v (pc := 19) rw_169_19 (dp0 hd (by decide)) (ls0 := [.ref 77, .int (M.2.1 77 9), .null]) rfl (Nat.le_of_ble_eq_true rfl) (Nat.le_of_ble_eq_true rfl) rfl (to_rc rfl rfl rfl (g_o hG rfl)) rfl (E_167 hX (dp1 hd (by decide)) hG q3 (n := (M.2.1 77 9)) (sg := sg) (fun r5 M12 hG7 F6 p_8 p_9 p_10 p_11 => ?_)))))
    have F13 := FR.c F0 F6 tg_36
    rcases (show r5.toInt = 0 ∨ r5.toInt = 1 by omega) with h14 | h14
    · skip
      have p_15 := p_10 (by omega)
      clear p_10 p_11
      refine b_ieq_t (pc := 22) rw_169_22 (A := r5.toInt) rfl (by omega) (to_c (pc := 33) rw_169_33 (x := (1 : Int32)) rfl rfl (to_go (pc := 34) rw_169_34 (s_r1 (pc := 38) rw_169_38 (A := 1) rfl (by decide) ?_)))
      have k_16 : (1 : Int32).toInt = 1 := rfl
      have z_17 := x_fn_v (s := sg) (r := 1) (v := (M.2.1 77 9).toInt) (w := x_val t nn a)
      have z_18 := x_fn_v (s := sg) (r := 6) (v := (M.2.1 77 9).toInt) (w := x_val t nn a)
      exact h (1 : Int32) M12 hG7 F13 (by decide) (by decide) (by omega) (by omega) (by omega)
    · skip
      have p_19 := p_11 (by omega)
      clear p_10 p_11
      refine b_ieq_f (pc := 22) rw_169_22 (A := r5.toInt) rfl (by omega) (to_an (pc := 25) rw_169_25 rfl (to_c (pc := 26) rw_169_26 (x := (3 : Int32)) rfl rfl (s_v (pc := 27) rw_169_27 (dp0 hd (by decide)) (ls0 := [.ref 77, .int (3 : Int32)]) rfl (Nat.le_of_ble_eq_true rfl) (Nat.le_of_ble_eq_true rfl) rfl (to_rc rfl rfl rfl (g_o hG7 rfl)) rfl (to_an (pc := 0) rw_152_0 rfl (to_in (pc := 1) rw_152_1 rfl (s_pI (pc := 2) rw_152_2 hG7 rfl (fun M21 W20 => ?_)))))))
      have hG22 := g_wf hG7 W20 rfl rfl (by decide)
      have F23 := FR.w F13 W20 (show 77 = 77 ∧ (4 = 4 ∨ 4 = 5) by decide)
      refine to_an (pc := 5) rw_152_5 rfl (to_an (pc := 6) rw_152_6 rfl ?_)
      have c_24 : M21.2.1 77 10 = (M.2.1 77 10) := (W_n W20 (by decide) (F_n F6 (show ¬ (77 < 0) by decide) rfl))
      refine tt_gI (pc := 7) rw_152_7 (g_o hG22 rfl) (v := (M.2.1 77 10)) c_24 (s_pI (pc := 10) rw_152_10 hG22 rfl (fun M26 W25 => ?_))
      have hG27 := g_wf hG22 W25 rfl rfl (by decide)
      have F28 := FR.w F23 W25 (show 77 = 77 ∧ (5 = 4 ∨ 5 = 5) by decide)
      refine to_c (pc := 13) rw_152_13 (x := (0 : Int32)) rfl rfl (s_r1 (pc := 14) rw_152_14 (A := 0) rfl (by decide) (b_ieq_t (pc := 30) rw_169_30 (A := 0) rfl (by decide) (to_c (pc := 37) rw_169_37 (x := (0 : Int32)) rfl rfl (s_r1 (pc := 38) rw_169_38 (A := 0) rfl (by decide) ?_))))
      have k_29 : (0 : Int32).toInt = 0 := rfl
      have z_30 := x_fn_v (s := sg) (r := 1) (v := (M.2.1 77 9).toInt) (w := x_val t nn a)
      have z_31 := x_fn_v (s := sg) (r := 6) (v := (M.2.1 77 9).toInt) (w := x_val t nn a)
      exact h (0 : Int32) M26 hG27 F28 (by decide) (by decide) (by omega) (by omega) (by omega)
  · refine to_an (pc := 8) rw_169_8 rfl (to_c (pc := 9) rw_169_9 (x := (1 : Int32)) rfl rfl (s_v (pc := 10) rw_169_10 (dp0 hd (by decide)) (ls0 := [.ref 77, .int (1 : Int32)]) rfl (Nat.le_of_ble_eq_true rfl) (Nat.le_of_ble_eq_true rfl) rfl (to_rc rfl rfl rfl (g_o hG rfl)) rfl (to_an (pc := 0) rw_152_0 rfl (to_in (pc := 1) rw_152_1 rfl (s_pI (pc := 2) rw_152_2 hG rfl (fun M33 W32 => ?_))))))
    have hG34 := g_wf hG W32 rfl rfl (by decide)
    have F35 := FR.w F0 W32 (show 77 = 77 ∧ (4 = 4 ∨ 4 = 5) by decide)
    refine to_an (pc := 5) rw_152_5 rfl (to_an (pc := 6) rw_152_6 rfl ?_)
    have c_36 : M33.2.1 77 10 = (M.2.1 77 10) := (W_n W32 (by decide) rfl)
    refine tt_gI (pc := 7) rw_152_7 (g_o hG34 rfl) (v := (M.2.1 77 10)) c_36 (s_pI (pc := 10) rw_152_10 hG34 rfl (fun M38 W37 => ?_))
    have hG39 := g_wf hG34 W37 rfl rfl (by decide)
    have F40 := FR.w F35 W37 (show 77 = 77 ∧ (5 = 4 ∨ 5 = 5) by decide)
    refine to_c (pc := 13) rw_152_13 (x := (0 : Int32)) rfl rfl (s_r1 (pc := 14) rw_152_14 (A := 0) rfl (by decide) (s_r1 (pc := 13) rw_169_13 (A := 0) rfl (by decide) ?_))
    have k_41 : (0 : Int32).toInt = 0 := rfl
    have z_42 := x_fn_v (s := sg) (r := 1) (v := (M.2.1 77 9).toInt) (w := x_val t nn a)
    have z_43 := x_fn_v (s := sg) (r := 6) (v := (M.2.1 77 9).toInt) (w := x_val t nn a)
    exact h (0 : Int32) M38 hG39 F40 (by decide) (by decide) (by omega) (by omega) (by omega)
set_option maxRecDepth 4000 in
set_option maxHeartbeats 0 in
theorem U_168_0 {X : mm_X} {d : Nat} {M : mm_M} {Q : Option Value → mm_M → Prop} {a : Int32} {b : Int32} (hX : g_X X) (hd : 0 ≤ d) (q1 : 0 ≤ a.toInt) (q2 : a.toInt ≤ 59) (q3 : a.toInt ≤ b.toInt) (q4 : 0 ≤ b.toInt) (q5 : b.toInt ≤ 59) (h : ∀ (r : Int64) (M1 : mm_M), g_G M1 → FR md_0 M M1 → (r = x_bw a.toInt b.toInt) → Q (some (.long r)) M1) : ∀ nn9 : Nat, (∀ (N : mm_M) (u0 : Value) (y2 : Int64) (x4 : Int32), g_G N → FR md_0 M N → (0 ≤ x4.toInt) → (x4.toInt ≤ 60) → (a.toInt ≤ x4.toInt) → (x4.toInt ≤ b.toInt + 1) → (x_bwr (b.toInt + 1 - x4.toInt).toNat y2 (x4.toInt).toNat = x_bwr (b.toInt + 1 - a.toInt).toNat 0 (a.toInt).toNat) → 64 - x4.toInt < (nn9 : Int) → mm_T X d 167 5 [u0, .int b, .long y2, .null, .int x4] [] N Q) := by
  intro nn9
  induction nn9 with
  | zero =>
    intro N u0 y2 x4 hG F0 g1 g2 g3 g4 g5 hm
    exfalso; omega
  | succ nn9 ih =>
    intro N u0 y2 x4 hG F0 g1 g2 g3 g4 g5 hm
    refine to_i (pc := 5) rw_168_5 rfl (to_in (pc := 7) rw_168_7 rfl (b_cgt (pc := 8) rw_168_8 (A := x4.toInt) (B := b.toInt) rfl rfl (fun h1 => ?_) (fun h1 => ?_)))
    · refine to_ln (pc := 24) rw_168_24 rfl rfl rfl (to_rl (pc := 25) rw_168_25 ?_)
      have z_2 := x_bw_x (b := b.toInt) (h := x4.toInt) (by omega) g5
      exact h y2 N hG F0 (z_2.trans (x_bw_r (by omega) (by omega) (by omega)))
    · refine to_ln (pc := 11) rw_168_11 rfl rfl rfl (to_cl (pc := 12) rw_168_12 rfl (x := (1 : Int64)) rfl (to_i (pc := 13) rw_168_13 rfl (to_2s (pc := 15) rw_168_15 (v := ((1 : Int64) <<< (x4.toInt64 &&& 63))) rfl (to_2l (pc := 16) rw_168_16 (v := (y2 ||| ((1 : Int64) <<< (x4.toInt64 &&& 63)))) rfl (to_lsn (pc := 17) rw_168_17 (ls2 := [u0, .int b, .long (y2 ||| ((1 : Int64) <<< (x4.toInt64 &&& 63))), .null, .int x4]) rfl rfl (s_inc (pc := 18) rw_168_18 (ls2 := fun v => [u0, .int b, .long (y2 ||| ((1 : Int64) <<< (x4.toInt64 &&& 63))), .null, .int v]) rfl rfl (fun _ => rfl) (A := x4.toInt) (B := 1) rfl rfl (by omega) (fun v3 e4 => to_go (pc := 21) rw_168_21 ?_)))))))
      exact ih N (u0) (y2 ||| ((1 : Int64) <<< (x4.toInt64 &&& 63))) v3 hG F0 (by omega) (by omega) (by omega) (by omega) (x_bw_s (h := x4.toInt) rfl (by omega) (by omega) (by omega) g5) (by omega)
set_option maxRecDepth 4000 in
set_option maxHeartbeats 0 in
theorem E_168 {X : mm_X} {d : Nat} {M : mm_M} {Q : Option Value → mm_M → Prop} {a : Int32} {b : Int32} (hX : g_X X) (hd : 0 ≤ d) (hG : g_G M) (q1 : 0 ≤ a.toInt) (q2 : a.toInt ≤ 59) (q3 : a.toInt ≤ b.toInt) (q4 : 0 ≤ b.toInt) (q5 : b.toInt ≤ 59) (h : ∀ (r : Int64) (M1 : mm_M), g_G M1 → FR md_0 M M1 → (r = x_bw a.toInt b.toInt) → Q (some (.long r)) M1) : mm_T X d 167 0 [.int a, .int b, .null, .null, .null] [] M Q := by
  have F0 : FR md_0 M M := FR.rf
  refine to_cl (pc := 0) rw_168_0 rfl (x := (0 : Int64)) rfl (to_lsn (pc := 1) rw_168_1 (ls2 := [.int a, .int b, .long (0 : Int64), .null, .null]) rfl rfl (to_in (pc := 2) rw_168_2 rfl (to_is (pc := 3) rw_168_3 (ls2 := [.int a, .int b, .long (0 : Int64), .null, .int a]) rfl rfl ?_)))
  exact (U_168_0 (a := a) (b := b) hX hd q1 q2 q3 q4 q5 h ((64 - a.toInt).toNat + 1)) M (.int a) (0 : Int64) a hG F0 (by omega) (by omega) (by omega) (by omega) rfl (by omega)
set_option maxRecDepth 4000 in
set_option maxHeartbeats 0 in
theorem E_164 {X : mm_X} {d : Nat} {M : mm_M} {Q : Option Value → mm_M → Prop} (hX : g_X X) (hd : 0 ≤ d) (hG : g_G M) (h : ∀ (M1 : mm_M), g_G M1 → FR md_p0 M M1 → (PLr M1 x_s0) → Q (none) M1) : mm_T X d 163 0 [.ref 77] [] M Q := by
  have F0 : FR md_p0 M M := FR.rf
  refine to_an (pc := 0) rw_164_0 rfl (to_c (pc := 1) rw_164_1 (x := (10 : Int32)) rfl rfl (s_pI (pc := 3) rw_164_3 hG rfl (fun M2 W1 => ?_)))
  have hG3 := g_w hG W1 (A := 10) rfl (lo := 10) (hi := 60) rfl rfl (by omega) (by decide)
  have F4 := FR.w F0 W1 (show 77 = 77 ∧ (14 ≤ 14 ∧ 14 ≤ 16 ∨ 14 = 25) by decide)
  refine to_an (pc := 6) rw_164_6 rfl (to_c (pc := 7) rw_164_7 (x := (0 : Int32)) rfl rfl (s_pI (pc := 8) rw_164_8 hG3 rfl (fun M6 W5 => ?_)))
  have hG7 := g_w hG3 W5 (A := 0) rfl (lo := 0) (hi := 8) rfl rfl (by omega) (by decide)
  have F8 := FR.w F4 W5 (show 77 = 77 ∧ (14 ≤ 15 ∧ 15 ≤ 16 ∨ 15 = 25) by decide)
  refine to_an (pc := 11) rw_164_11 rfl (to_c (pc := 12) rw_164_12 (x := (0 : Int32)) rfl rfl (s_pI (pc := 13) rw_164_13 hG7 rfl (fun M10 W9 => ?_)))
  have hG11 := g_w hG7 W9 (A := 0) rfl (lo := 0) (hi := 12) rfl rfl (by omega) (by decide)
  have F12 := FR.w F8 W9 (show 77 = 77 ∧ (14 ≤ 16 ∧ 16 ≤ 16 ∨ 16 = 25) by decide)
  refine to_an (pc := 16) rw_164_16 rfl (to_cl (pc := 17) rw_164_17 rfl (x := (0 : Int64)) rfl (s_pJ (pc := 18) rw_164_18 hG11 rfl (fun M14 W13 => ?_)))
  have hG15 := g_wl hG11 W13
  have F16 := FR.wl F12 W13 (show 77 = 77 ∧ (14 ≤ 25 ∧ 25 ≤ 16 ∨ 25 = 25) by decide)
  refine to_rv (pc := 21) rw_164_21 ?_
  have c_17 : M14.2.1 77 14 = (10 : Int32) := (W_l W13 (W_n W9 (by decide) (W_n W5 (by decide) (W_e W1))))
  have k_18 : (10 : Int32).toInt = 10 := rfl
  have t_19 : (M14.2.1 77 14).toInt = (10 : Int32).toInt := congrArg Int32.toInt c_17
  have c_20 : M14.2.1 77 15 = (0 : Int32) := (W_l W13 (W_n W9 (by decide) (W_e W5)))
  have k_21 : (0 : Int32).toInt = 0 := rfl
  have t_22 : (M14.2.1 77 15).toInt = (0 : Int32).toInt := congrArg Int32.toInt c_20
  have c_23 : M14.2.1 77 16 = (0 : Int32) := (W_l W13 (W_e W9))
  have t_24 : (M14.2.1 77 16).toInt = (0 : Int32).toInt := congrArg Int32.toInt c_23
  exact h M14 hG15 F16 (PLr_0 (by omega) (by omega) (by omega) (L_e W13))
