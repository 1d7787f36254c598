theorem tg_174 {M M1 : mm_M} (F : FR (fun a i : Nat => a = 77 ∧ 7 ≤ i ∧ i ≤ 10) M M1) : ∀ a i : Nat, (a = 77 ∧ 11 ≤ i ∧ i ≤ 13 ∨ 80 ≤ a ∧ a ≤ 84 ∧ i < 8 ∨ 85 ≤ a ∧ a ≤ 86 ∧ i < 12) → M1.2.1 a i = M.2.1 a i := fun a i z => F_n F (show ¬ (a = 77 ∧ 7 ≤ i ∧ i ≤ 10) by omega) rfl
theorem tg_175 : ∀ a i : Nat, (a < 0) → (a = 77 ∧ (i = 4 ∨ i = 5 ∨ 7 ≤ i ∧ i ≤ 10) ∨ a = 106 ∨ a = 107) := fun a i z => by omega
theorem tg_176 : ∀ a i : Nat, (a = 77 ∧ 7 ≤ i ∧ i ≤ 10) → (a = 77 ∧ (i = 4 ∨ i = 5 ∨ 7 ≤ i ∧ i ≤ 10) ∨ a = 106 ∨ a = 107) := fun a i z => by omega
theorem tg_177 : ∀ a i j : Nat, (a = 77 ∧ 6 ≤ i ∧ i ≤ 10) → ¬ (a = 107 ∧ i = j) := fun a i j z => by omega
set_option maxRecDepth 4000 in
set_option maxHeartbeats 0 in
theorem E_161 {X : mm_X} {d : Nat} {M : mm_M} {Q : Option Value → mm_M → Prop} {c : Int32} {t : Nat → Int} {nn : Int} {a : Int} (hX : g_X X) (hd : 2 ≤ d) (hG : g_G M) (q1 : RS M t nn) (q2 : (M.2.1 77 10).toInt = a) (q3 : 0 ≤ nn) (q4 : nn ≤ 500) (q5 : TR M t nn) (q6 : W9 M) (q7 : 0 ≤ c.toInt) (q8 : c.toInt ≤ 14) (h : ∀ (r : Int32) (M1 : mm_M), g_G M1 → FR md_tw M M1 → (0 ≤ r.toInt) → (r.toInt ≤ 1) → RS M1 t nn → (r.toInt = 1 → (x_kind t nn a = 1 ∧ x_kx (x_val t nn a) = c.toInt) ∧ (M1.2.1 77 10).toInt = x_ns t nn a) → (r.toInt = 0 → ¬ (x_kind t nn a = 1 ∧ x_kx (x_val t nn a) = c.toInt)) → (r.toInt = 0 → (M1.2.1 77 4).toInt = 1 ∧ (M1.2.1 77 5).toInt = a) → Q (some (.int r)) M1) : mm_T X d 160 0 [.ref 77, .int c] [] M Q := by
  have F0 : FR md_tw M M := FR.rf
  have b_1 := g_b hG (a := 77) (i := 10) (lo := 0) (hi := 500) rfl rfl
  have b_2 := g_b hG (a := 77) (i := 8) (lo := 0) (hi := 5) rfl rfl
  have c_3 := RS_u q1 (a := a) (by omega)
  unfold x_R at c_3
  have b_4 := g_b hG (a := 77) (i := 6) (lo := 0) (hi := 500) rfl rfl
  have b_5 := g_b hG (a := 77) (i := 7) (lo := 0) (hi := 500) rfl rfl
  have z_6 := RS_b q1 (a := a) (by omega)
  refine to_an (pc := 0) rw_161_0 rfl ?_
  refine to_in (pc := 1) rw_161_1 rfl ?_
  refine s_v (pc := 2) rw_161_2 (dp0 hd (by decide)) (ls0 := [.ref 77, .int c]) rfl (Nat.le_of_ble_eq_true rfl) (Nat.le_of_ble_eq_true rfl) rfl (to_rc rfl rfl rfl (g_o hG rfl)) rfl ?_
  refine to_an (pc := 0) rw_158_0 rfl ?_
  refine tt_gI (pc := 1) rw_158_1 (g_o hG rfl) (v := (M.2.1 77 8)) rfl ?_
  refine to_c (pc := 4) rw_158_4 (x := (1 : Int32)) rfl rfl ?_
  refine b_cne (pc := 5) rw_158_5 (A := (M.2.1 77 8).toInt) (B := 1) rfl rfl (fun h7 => ?_) (fun h7 => ?_)
  · refine to_c (pc := 20) rw_158_20 (x := (0 : Int32)) rfl rfl ?_
    refine s_r1 (pc := 21) rw_158_21 (A := 0) rfl (by decide) ?_
    refine b_ine_f (pc := 5) rw_161_5 (A := 0) rfl (by decide) ?_
    refine to_an (pc := 8) rw_161_8 rfl ?_
    refine to_c (pc := 9) rw_161_9 (x := (1 : Int32)) rfl rfl ?_
    refine s_v (pc := 10) rw_161_10 (dp0 hd (by decide)) (ls0 := [.ref 77, .int (1 : Int32)]) rfl (Nat.le_of_ble_eq_true rfl) (Nat.le_of_ble_eq_true rfl) rfl (to_rc rfl rfl rfl (g_o hG rfl)) rfl ?_
    refine to_an (pc := 0) rw_152_0 rfl ?_
    refine to_in (pc := 1) rw_152_1 rfl ?_
    refine s_pI (pc := 2) rw_152_2 hG rfl (fun M9 W8 => ?_)
    have hG10 := g_wf hG W8 rfl rfl (by decide)
    have F11 := FR.w F0 W8 (show 77 = 77 ∧ (4 = 4 ∨ 4 = 5 ∨ 7 ≤ 4 ∧ 4 ≤ 10) by decide)
    refine to_an (pc := 5) rw_152_5 rfl ?_
    refine to_an (pc := 6) rw_152_6 rfl ?_
    have c_12 : M9.2.1 77 10 = (M.2.1 77 10) := (W_n W8 (by decide) rfl)
    refine tt_gI (pc := 7) rw_152_7 (g_o hG10 rfl) (v := (M.2.1 77 10)) c_12 ?_
    refine s_pI (pc := 10) rw_152_10 hG10 rfl (fun M14 W13 => ?_)
    have hG15 := g_wf hG10 W13 rfl rfl (by decide)
    have F16 := FR.w F11 W13 (show 77 = 77 ∧ (5 = 4 ∨ 5 = 5 ∨ 7 ≤ 5 ∧ 5 ≤ 10) by decide)
    refine to_c (pc := 13) rw_152_13 (x := (0 : Int32)) rfl rfl ?_
    refine s_r1 (pc := 14) rw_152_14 (A := 0) rfl (by decide) ?_
    refine s_r1 (pc := 13) rw_161_13 (A := 0) rfl (by decide) ?_
    have k_17 : (0 : Int32).toInt = 0 := rfl
    have j_18 := (RS_f (fun a i z => W_n W13 (tg_37 a i z) rfl) (RS_f (fun a i z => W_n W8 (tg_38 a i z) rfl) q1))
    have c_19 : M14.2.1 77 10 = (M.2.1 77 10) := (W_n W13 (by decide) c_12)
    have t_20 : (M14.2.1 77 10).toInt = (M.2.1 77 10).toInt := congrArg Int32.toInt c_19
    have c_21 : M14.2.1 77 4 = (1 : Int32) := (W_n W13 (by decide) (W_e W8))
    have k_22 : (1 : Int32).toInt = 1 := rfl
    have t_23 : (M14.2.1 77 4).toInt = (1 : Int32).toInt := congrArg Int32.toInt c_21
    have c_24 : M14.2.1 77 5 = (M.2.1 77 10) := (W_e W13)
    have t_25 : (M14.2.1 77 5).toInt = (M.2.1 77 10).toInt := congrArg Int32.toInt c_24
    exact h (0 : Int32) M14 hG15 F16 (by decide) (by decide) j_18 (by omega) (by omega) (by omega)
  · refine to_an (pc := 8) rw_158_8 rfl ?_
    refine tt_gI (pc := 9) rw_158_9 (g_o hG rfl) (v := (M.2.1 77 9)) rfl ?_
    refine to_in (pc := 12) rw_158_12 rfl ?_
    refine b_cne (pc := 13) rw_158_13 (A := (M.2.1 77 9).toInt) (B := c.toInt) rfl rfl (fun h26 => ?_) (fun h26 => ?_)
    · refine to_c (pc := 20) rw_158_20 (x := (0 : Int32)) rfl rfl ?_
      refine s_r1 (pc := 21) rw_158_21 (A := 0) rfl (by decide) ?_
      refine b_ine_f (pc := 5) rw_161_5 (A := 0) rfl (by decide) ?_
      refine to_an (pc := 8) rw_161_8 rfl ?_
      refine to_c (pc := 9) rw_161_9 (x := (1 : Int32)) rfl rfl ?_
      refine s_v (pc := 10) rw_161_10 (dp0 hd (by decide)) (ls0 := [.ref 77, .int (1 : Int32)]) rfl (Nat.le_of_ble_eq_true rfl) (Nat.le_of_ble_eq_true rfl) rfl (to_rc rfl rfl rfl (g_o hG rfl)) rfl ?_
      refine to_an (pc := 0) rw_152_0 rfl ?_
      refine to_in (pc := 1) rw_152_1 rfl ?_
      refine s_pI (pc := 2) rw_152_2 hG rfl (fun M28 W27 => ?_)
      have hG29 := g_wf hG W27 rfl rfl (by decide)
      have F30 := FR.w F0 W27 (show 77 = 77 ∧ (4 = 4 ∨ 4 = 5 ∨ 7 ≤ 4 ∧ 4 ≤ 10) by decide)
      refine to_an (pc := 5) rw_152_5 rfl ?_
      refine to_an (pc := 6) rw_152_6 rfl ?_
      have c_31 : M28.2.1 77 10 = (M.2.1 77 10) := (W_n W27 (by decide) rfl)
      refine tt_gI (pc := 7) rw_152_7 (g_o hG29 rfl) (v := (M.2.1 77 10)) c_31 ?_
      refine s_pI (pc := 10) rw_152_10 hG29 rfl (fun M33 W32 => ?_)
      have hG34 := g_wf hG29 W32 rfl rfl (by decide)
      have F35 := FR.w F30 W32 (show 77 = 77 ∧ (5 = 4 ∨ 5 = 5 ∨ 7 ≤ 5 ∧ 5 ≤ 10) by decide)
      refine to_c (pc := 13) rw_152_13 (x := (0 : Int32)) rfl rfl ?_
      refine s_r1 (pc := 14) rw_152_14 (A := 0) rfl (by decide) ?_
      refine s_r1 (pc := 13) rw_161_13 (A := 0) rfl (by decide) ?_
      have k_36 : (0 : Int32).toInt = 0 := rfl
      have j_37 := (RS_f (fun a i z => W_n W32 (tg_37 a i z) rfl) (RS_f (fun a i z => W_n W27 (tg_38 a i z) rfl) q1))
      have c_38 : M33.2.1 77 10 = (M.2.1 77 10) := (W_n W32 (by decide) c_31)
      have t_39 : (M33.2.1 77 10).toInt = (M.2.1 77 10).toInt := congrArg Int32.toInt c_38
      have c_40 : M33.2.1 77 4 = (1 : Int32) := (W_n W32 (by decide) (W_e W27))
      have k_41 : (1 : Int32).toInt = 1 := rfl
      have t_42 : (M33.2.1 77 4).toInt = (1 : Int32).toInt := congrArg Int32.toInt c_40
      have c_43 : M33.2.1 77 5 = (M.2.1 77 10) := (W_e W32)
      have t_44 : (M33.2.1 77 5).toInt = (M.2.1 77 10).toInt := congrArg Int32.toInt c_43
      exact h (0 : Int32) M33 hG34 F35 (by decide) (by decide) j_37 (by omega) (by omega) (by omega)
    · refine to_c (pc := 16) rw_158_16 (x := (1 : Int32)) rfl rfl ?_
      refine to_go (pc := 17) rw_158_17 ?_
      refine s_r1 (pc := 21) rw_158_21 (A := 1) rfl (by decide) ?_
      refine b_ine_t (pc := 5) rw_161_5 (A := 1) rfl (by decide) ?_
      refine to_an (pc := 14) rw_161_14 rfl ?_
      refine s_v (pc := 15) rw_161_15 (dp0 hd (by decide)) (ls0 := [.ref 77]) rfl (Nat.le_of_ble_eq_true rfl) (Nat.le_of_ble_eq_true rfl) rfl (to_rc rfl rfl rfl (g_o hG rfl)) rfl ?_
      have z_45 := RS_b q1 (a := a) (by omega)
      refine E_156 hX (dp1 hd (by decide)) hG (by omega) (by omega) (by omega) (by omega) q5 q6  (fun M52 hG47 F46 p_48 p_49 p_50 p_51 => ?_)
      have F53 := FR.c F0 F46 tg_35
      have b_54 := g_b hG47 (a := 77) (i := 7) (lo := 0) (hi := 500) rfl rfl
      have c_55 : M52.2.1 77 6 = (M.2.1 77 6) := (F_n F46 (show ¬ (77 = 77 ∧ 7 ≤ 6 ∧ 6 ≤ 10) by decide) rfl)
      have t_56 : (M52.2.1 77 6).toInt = (M.2.1 77 6).toInt := congrArg Int32.toInt c_55
      have b_57 := g_b hG47 (a := 77) (i := 8) (lo := 0) (hi := 5) rfl rfl
      have b_58 := g_b hG47 (a := 77) (i := 10) (lo := 0) (hi := 500) rfl rfl
      have z_59 := RS_s p_51.2 (a := a) (by omega)
      refine to_c (pc := 18) rw_161_18 (x := (1 : Int32)) rfl rfl ?_
      refine s_r1 (pc := 19) rw_161_19 (A := 1) rfl (by decide) ?_
      have k_60 : (1 : Int32).toInt = 1 := rfl
      have c_61 : M52.2.1 77 4 = (M.2.1 77 4) := (F_n F46 (show ¬ (77 = 77 ∧ 7 ≤ 4 ∧ 4 ≤ 10) by decide) rfl)
      have t_62 : (M52.2.1 77 4).toInt = (M.2.1 77 4).toInt := congrArg Int32.toInt c_61
      have c_63 : M52.2.1 77 5 = (M.2.1 77 5) := (F_n F46 (show ¬ (77 = 77 ∧ 7 ≤ 5 ∧ 5 ≤ 10) by decide) rfl)
      have t_64 : (M52.2.1 77 5).toInt = (M.2.1 77 5).toInt := congrArg Int32.toInt c_63
      exact h (1 : Int32) M52 hG47 F53 (by decide) (by decide) p_51.1 (by omega) (by omega) (by omega)
set_option maxRecDepth 4000 in
set_option maxHeartbeats 0 in
theorem E_211 {X : mm_X} {d : Nat} {M : mm_M} {Q : Option Value → mm_M → Prop} {t : Nat → Int} {nn : Int} {a : Int} (hX : g_X X) (hd : 1 ≤ d) (hG : g_G M) (q1 : RS M t nn) (q2 : (M.2.1 77 10).toInt = a) (h : ∀ (r : Int32) (M1 : mm_M), g_G M1 → FR md_wr2 M M1 → (-1 ≤ r.toInt) → (r.toInt ≤ 5) → (r.toInt = x_kp t nn a) → (r.toInt < 0 → (M1.2.1 77 4).toInt = 1 ∧ (M1.2.1 77 5).toInt = a) → Q (some (.int r)) M1) : mm_T X d 210 0 [.ref 77, .null, .null] [] M Q := by
  have F0 : FR md_wr2 M M := FR.rf
  have b_1 := g_b hG (a := 77) (i := 10) (lo := 0) (hi := 500) rfl rfl
  have b_2 := g_b hG (a := 77) (i := 8) (lo := 0) (hi := 5) rfl rfl
  have c_3 := RS_u q1 (a := a) (by omega)
  unfold x_R at c_3
  refine to_an (pc := 0) rw_211_0 rfl ?_
  refine tt_gI (pc := 1) rw_211_1 (g_o hG rfl) (v := (M.2.1 77 8)) rfl ?_
  refine to_c (pc := 4) rw_211_4 (x := (2 : Int32)) rfl rfl ?_
  refine b_cne (pc := 5) rw_211_5 (A := (M.2.1 77 8).toInt) (B := 2) rfl rfl (fun h4 => ?_) (fun h4 => ?_)
  · refine to_c (pc := 31) rw_211_31 (x := (-1 : Int32)) rfl rfl ?_
    refine to_isn (pc := 32) rw_211_32 (ls2 := [.ref 77, .int (-1 : Int32), .null]) rfl rfl ?_
    refine to_in (pc := 33) rw_211_33 rfl ?_
    refine b_ilt_t (pc := 34) rw_211_34 (A := -1) rfl (by decide) ?_
    refine to_an (pc := 42) rw_211_42 rfl ?_
    refine to_c (pc := 43) rw_211_43 (x := (1 : Int32)) rfl rfl ?_
    refine s_v (pc := 44) rw_211_44 (dp0 hd (by decide)) (ls0 := [.ref 77, .int (1 : Int32)]) rfl (Nat.le_of_ble_eq_true rfl) (Nat.le_of_ble_eq_true rfl) rfl (to_rc rfl rfl rfl (g_o hG rfl)) rfl ?_
    refine to_an (pc := 0) rw_152_0 rfl ?_
    refine to_in (pc := 1) rw_152_1 rfl ?_
    refine s_pI (pc := 2) rw_152_2 hG rfl (fun M6 W5 => ?_)
    have hG7 := g_wf hG W5 rfl rfl (by decide)
    have F8 := FR.w F0 W5 (show 77 = 77 ∧ (4 = 4 ∨ 4 = 5) by decide)
    refine to_an (pc := 5) rw_152_5 rfl ?_
    refine to_an (pc := 6) rw_152_6 rfl ?_
    have c_9 : M6.2.1 77 10 = (M.2.1 77 10) := (W_n W5 (by decide) rfl)
    refine tt_gI (pc := 7) rw_152_7 (g_o hG7 rfl) (v := (M.2.1 77 10)) c_9 ?_
    refine s_pI (pc := 10) rw_152_10 hG7 rfl (fun M11 W10 => ?_)
    have hG12 := g_wf hG7 W10 rfl rfl (by decide)
    have F13 := FR.w F8 W10 (show 77 = 77 ∧ (5 = 4 ∨ 5 = 5) by decide)
    refine to_c (pc := 13) rw_152_13 (x := (0 : Int32)) rfl rfl ?_
    refine s_r1 (pc := 14) rw_152_14 (A := 0) rfl (by decide) ?_
    refine to_isn (pc := 47) rw_211_47 (ls2 := [.ref 77, .int (-1 : Int32), .int (0 : Int32)]) rfl rfl ?_
    refine to_c (pc := 48) rw_211_48 (x := (-1 : Int32)) rfl rfl ?_
    refine to_r0 (pc := 49) rw_211_49 ?_
    have k_14 : (-1 : Int32).toInt = -1 := rfl
    have z_15 := x_pk_n (t := t) (nn := nn) (a := a) (by omega)
    have c_16 : M11.2.1 77 4 = (1 : Int32) := (W_n W10 (by decide) (W_e W5))
    have k_17 : (1 : Int32).toInt = 1 := rfl
    have t_18 : (M11.2.1 77 4).toInt = (1 : Int32).toInt := congrArg Int32.toInt c_16
    have c_19 : M11.2.1 77 5 = (M.2.1 77 10) := (W_e W10)
    have t_20 : (M11.2.1 77 5).toInt = (M.2.1 77 10).toInt := congrArg Int32.toInt c_19
    exact h (-1 : Int32) M11 hG12 F13 (by omega) (by omega) (by omega) (by omega)
  · refine to_an (pc := 8) rw_211_8 rfl ?_
    refine tt_gI (pc := 9) rw_211_9 (g_o hG rfl) (v := (M.2.1 77 9)) rfl ?_
    refine to_c (pc := 12) rw_211_12 (x := (33554431 : Int32)) rfl rfl ?_
    refine s_and (pc := 15) rw_211_15 (B := 33554431) rfl (by omega) (fun v21 e22 _ _ => ?_)
    have z_23 := i_and25 e22
    refine b_ine (pc := 16) rw_211_16 (A := v21.toInt) rfl (fun h24 => ?_) (fun h24 => ?_)
    · refine to_c (pc := 31) rw_211_31 (x := (-1 : Int32)) rfl rfl ?_
      refine to_isn (pc := 32) rw_211_32 (ls2 := [.ref 77, .int (-1 : Int32), .null]) rfl rfl ?_
      refine to_in (pc := 33) rw_211_33 rfl ?_
      refine b_ilt_t (pc := 34) rw_211_34 (A := -1) rfl (by decide) ?_
      refine to_an (pc := 42) rw_211_42 rfl ?_
      refine to_c (pc := 43) rw_211_43 (x := (1 : Int32)) rfl rfl ?_
      refine s_v (pc := 44) rw_211_44 (dp0 hd (by decide)) (ls0 := [.ref 77, .int (1 : Int32)]) rfl (Nat.le_of_ble_eq_true rfl) (Nat.le_of_ble_eq_true rfl) rfl (to_rc rfl rfl rfl (g_o hG rfl)) rfl ?_
      refine to_an (pc := 0) rw_152_0 rfl ?_
      refine to_in (pc := 1) rw_152_1 rfl ?_
      refine s_pI (pc := 2) rw_152_2 hG rfl (fun M26 W25 => ?_)
      have hG27 := g_wf hG W25 rfl rfl (by decide)
      have F28 := FR.w F0 W25 (show 77 = 77 ∧ (4 = 4 ∨ 4 = 5) by decide)
      refine to_an (pc := 5) rw_152_5 rfl ?_
      refine to_an (pc := 6) rw_152_6 rfl ?_
      have c_29 : M26.2.1 77 10 = (M.2.1 77 10) := (W_n W25 (by decide) rfl)
      refine tt_gI (pc := 7) rw_152_7 (g_o hG27 rfl) (v := (M.2.1 77 10)) c_29 ?_
      refine s_pI (pc := 10) rw_152_10 hG27 rfl (fun M31 W30 => ?_)
      have hG32 := g_wf hG27 W30 rfl rfl (by decide)
      have F33 := FR.w F28 W30 (show 77 = 77 ∧ (5 = 4 ∨ 5 = 5) by decide)
      refine to_c (pc := 13) rw_152_13 (x := (0 : Int32)) rfl rfl ?_
      refine s_r1 (pc := 14) rw_152_14 (A := 0) rfl (by decide) ?_
      refine to_isn (pc := 47) rw_211_47 (ls2 := [.ref 77, .int (-1 : Int32), .int (0 : Int32)]) rfl rfl ?_
      refine to_c (pc := 48) rw_211_48 (x := (-1 : Int32)) rfl rfl ?_
      refine to_r0 (pc := 49) rw_211_49 ?_
      have k_34 : (-1 : Int32).toInt = -1 := rfl
      have z_35 := x_pk_n (t := t) (nn := nn) (a := a) (by omega)
      have c_36 : M31.2.1 77 4 = (1 : Int32) := (W_n W30 (by decide) (W_e W25))
      have k_37 : (1 : Int32).toInt = 1 := rfl
      have t_38 : (M31.2.1 77 4).toInt = (1 : Int32).toInt := congrArg Int32.toInt c_36
      have c_39 : M31.2.1 77 5 = (M.2.1 77 10) := (W_e W30)
      have t_40 : (M31.2.1 77 5).toInt = (M.2.1 77 10).toInt := congrArg Int32.toInt c_39
      exact h (-1 : Int32) M31 hG32 F33 (by omega) (by omega) (by omega) (by omega)
    · refine to_an (pc := 19) rw_211_19 rfl ?_
      refine tt_gI (pc := 20) rw_211_20 (g_o hG rfl) (v := (M.2.1 77 9)) rfl ?_
      refine to_c (pc := 23) rw_211_23 (x := (25 : Int32)) rfl rfl ?_
      refine s_opE (pc := 25) rw_211_25 (w := (M.2.1 77 9) >>> (25 : Int32)) rfl (fun v41 e42 => ?_)
      have z_43 := i_shr25 e42
      have z_44 := i_of (x := (M.2.1 77 9))
      refine to_c (pc := 26) rw_211_26 (x := (1 : Int32)) rfl rfl ?_
      refine s_sub (pc := 27) rw_211_27 (A := v41.toInt) (B := 1) rfl rfl (by omega) (fun v45 e46 => ?_)
      refine to_go (pc := 28) rw_211_28 ?_
      refine to_isn (pc := 32) rw_211_32 (ls2 := [.ref 77, .int v45, .null]) rfl rfl ?_
      refine to_in (pc := 33) rw_211_33 rfl ?_
      refine b_ilt (pc := 34) rw_211_34 (A := v45.toInt) rfl (fun h47 => ?_) (fun h47 => ?_)
      · refine to_an (pc := 42) rw_211_42 rfl ?_
        refine to_c (pc := 43) rw_211_43 (x := (1 : Int32)) rfl rfl ?_
        refine s_v (pc := 44) rw_211_44 (dp0 hd (by decide)) (ls0 := [.ref 77, .int (1 : Int32)]) rfl (Nat.le_of_ble_eq_true rfl) (Nat.le_of_ble_eq_true rfl) rfl (to_rc rfl rfl rfl (g_o hG rfl)) rfl ?_
        refine to_an (pc := 0) rw_152_0 rfl ?_
        refine to_in (pc := 1) rw_152_1 rfl ?_
        refine s_pI (pc := 2) rw_152_2 hG rfl (fun M49 W48 => ?_)
        have hG50 := g_wf hG W48 rfl rfl (by decide)
        have F51 := FR.w F0 W48 (show 77 = 77 ∧ (4 = 4 ∨ 4 = 5) by decide)
        refine to_an (pc := 5) rw_152_5 rfl ?_
        refine to_an (pc := 6) rw_152_6 rfl ?_
        have c_52 : M49.2.1 77 10 = (M.2.1 77 10) := (W_n W48 (by decide) rfl)
        refine tt_gI (pc := 7) rw_152_7 (g_o hG50 rfl) (v := (M.2.1 77 10)) c_52 ?_
        refine s_pI (pc := 10) rw_152_10 hG50 rfl (fun M54 W53 => ?_)
        have hG55 := g_wf hG50 W53 rfl rfl (by decide)
        have F56 := FR.w F51 W53 (show 77 = 77 ∧ (5 = 4 ∨ 5 = 5) by decide)
        refine to_c (pc := 13) rw_152_13 (x := (0 : Int32)) rfl rfl ?_
        refine s_r1 (pc := 14) rw_152_14 (A := 0) rfl (by decide) ?_
        refine to_isn (pc := 47) rw_211_47 (ls2 := [.ref 77, .int v45, .int (0 : Int32)]) rfl rfl ?_
        refine to_c (pc := 48) rw_211_48 (x := (-1 : Int32)) rfl rfl ?_
        refine to_r0 (pc := 49) rw_211_49 ?_
        have k_57 : (-1 : Int32).toInt = -1 := rfl
        have z_58 := x_pk_n (t := t) (nn := nn) (a := a) (by omega)
        have c_59 : M54.2.1 77 4 = (1 : Int32) := (W_n W53 (by decide) (W_e W48))
        have k_60 : (1 : Int32).toInt = 1 := rfl
        have t_61 : (M54.2.1 77 4).toInt = (1 : Int32).toInt := congrArg Int32.toInt c_59
        have c_62 : M54.2.1 77 5 = (M.2.1 77 10) := (W_e W53)
        have t_63 : (M54.2.1 77 5).toInt = (M.2.1 77 10).toInt := congrArg Int32.toInt c_62
        exact h (-1 : Int32) M54 hG55 F56 (by omega) (by omega) (by omega) (by omega)
      · refine to_in (pc := 37) rw_211_37 rfl ?_
        refine to_c (pc := 38) rw_211_38 (x := (5 : Int32)) rfl rfl ?_
        refine b_cle (pc := 39) rw_211_39 (A := v45.toInt) (B := 5) rfl rfl (fun h64 => ?_) (fun h64 => ?_)
        · refine to_in (pc := 50) rw_211_50 rfl ?_
          refine to_r0 (pc := 51) rw_211_51 ?_
          have z_65 := x_pk_y (t := t) (nn := nn) (a := a) (l := v41.toInt) (by omega) (by omega) (by omega) (by omega)
          exact h v45 M hG F0 (by omega) (by omega) (by omega) (by omega)
        · refine to_an (pc := 42) rw_211_42 rfl ?_
          refine to_c (pc := 43) rw_211_43 (x := (1 : Int32)) rfl rfl ?_
          refine s_v (pc := 44) rw_211_44 (dp0 hd (by decide)) (ls0 := [.ref 77, .int (1 : Int32)]) rfl (Nat.le_of_ble_eq_true rfl) (Nat.le_of_ble_eq_true rfl) rfl (to_rc rfl rfl rfl (g_o hG rfl)) rfl ?_
          refine to_an (pc := 0) rw_152_0 rfl ?_
          refine to_in (pc := 1) rw_152_1 rfl ?_
          refine s_pI (pc := 2) rw_152_2 hG rfl (fun M67 W66 => ?_)
          have hG68 := g_wf hG W66 rfl rfl (by decide)
          have F69 := FR.w F0 W66 (show 77 = 77 ∧ (4 = 4 ∨ 4 = 5) by decide)
          refine to_an (pc := 5) rw_152_5 rfl ?_
          refine to_an (pc := 6) rw_152_6 rfl ?_
          have c_70 : M67.2.1 77 10 = (M.2.1 77 10) := (W_n W66 (by decide) rfl)
          refine tt_gI (pc := 7) rw_152_7 (g_o hG68 rfl) (v := (M.2.1 77 10)) c_70 ?_
          refine s_pI (pc := 10) rw_152_10 hG68 rfl (fun M72 W71 => ?_)
          have hG73 := g_wf hG68 W71 rfl rfl (by decide)
          have F74 := FR.w F69 W71 (show 77 = 77 ∧ (5 = 4 ∨ 5 = 5) by decide)
          refine to_c (pc := 13) rw_152_13 (x := (0 : Int32)) rfl rfl ?_
          refine s_r1 (pc := 14) rw_152_14 (A := 0) rfl (by decide) ?_
          refine to_isn (pc := 47) rw_211_47 (ls2 := [.ref 77, .int v45, .int (0 : Int32)]) rfl rfl ?_
          refine to_c (pc := 48) rw_211_48 (x := (-1 : Int32)) rfl rfl ?_
          refine to_r0 (pc := 49) rw_211_49 ?_
          have k_75 : (-1 : Int32).toInt = -1 := rfl
          have z_76 := x_pk_n (t := t) (nn := nn) (a := a) (by omega)
          have c_77 : M72.2.1 77 4 = (1 : Int32) := (W_n W71 (by decide) (W_e W66))
          have k_78 : (1 : Int32).toInt = 1 := rfl
          have t_79 : (M72.2.1 77 4).toInt = (1 : Int32).toInt := congrArg Int32.toInt c_77
          have c_80 : M72.2.1 77 5 = (M.2.1 77 10) := (W_e W71)
          have t_81 : (M72.2.1 77 5).toInt = (M.2.1 77 10).toInt := congrArg Int32.toInt c_80
          exact h (-1 : Int32) M72 hG73 F74 (by omega) (by omega) (by omega) (by omega)
set_option maxRecDepth 4000 in
set_option maxHeartbeats 0 in
theorem E_212 {X : mm_X} {d : Nat} {M : mm_M} {Q : Option Value → mm_M → Prop} {e : Int32} {t : Nat → Int} {nn : Int} {a : Int} {sg : x_S} {C9 : Nat → Int64} (hX : g_X X) (hd : 2 ≤ d) (hG : g_G M) (q1 : 0 ≤ e.toInt) (q2 : e.toInt ≤ 39) (q3 : RS M t nn) (q4 : (M.2.1 77 10).toInt = a) (q5 : 0 ≤ nn) (q6 : nn ≤ 500) (q7 : TR M t nn) (q8 : W9 M) (q9 : PLk M sg) (q10 : x_kind t nn a = 2 ∨ x_kind t nn a = 3) (h : ∀ (r : Int32) (M1 : mm_M), g_G M1 → FR md_ho M M1 → (0 ≤ r.toInt) → (r.toInt ≤ 1) → (r.toInt = 1 → a < (M1.2.1 77 10).toInt) → ((r.toInt = 1 → RS M1 t nn)) → ((r.toInt = 1 → x_nwl C9 (M1.2.1 107 (e.toInt).toNat) sg.2.2.1.toNat 0 (M1.2.2.1 106 (e.toInt).toNat) = x_nwl C9 (M.2.1 107 (e.toInt).toNat) sg.2.2.1.toNat 0 (M.2.2.1 106 (e.toInt).toNat) ||| x_nb t nn sg C9 a ∧ (M1.2.1 77 10).toInt = x_ng t nn sg a)) → (∀ i : Nat, ¬ i = (e.toInt).toNat → M1.2.1 107 i = M.2.1 107 i) → (∀ i : Nat, ¬ i = (e.toInt).toNat → M1.2.2.1 106 i = M.2.2.1 106 i) → ((r.toInt = 1 → ∀ k : Int → x_WR, x_wnd t nn sg a k = k (M1.2.1 77 10).toInt)) → ((r.toInt = 0 → ∀ k : Int → x_WR, x_wnd t nn sg a k = Sum.inl ((M1.2.1 77 4).toInt, (M1.2.1 77 5).toInt))) → Q (some (.int r)) M1) : mm_T X d 211 0 [.ref 77, .int e, .null, .null] [] M Q := by
  have F0 : FR md_ho M M := FR.rf
  have b_1 := g_b hG (a := 77) (i := 10) (lo := 0) (hi := 500) rfl rfl
  have b_2 := g_b hG (a := 77) (i := 8) (lo := 0) (hi := 5) rfl rfl
  have z_3 := RS_k q3 (a := a) (by omega)
  have z_4 := q9.2.1
  have z_5 := q9.2.2.1
  have z_6 := q9.2.2.2.1
  have z_7 := q9.1
  have z_8 := z_7.1
  have z_9 := z_7.2.1
  have z_10 := z_7.2.2.1
  have z_11 := z_7.2.2.2.1
  have z_12 := z_7.2.2.2.2.1
  have z_13 := z_7.2.2.2.2.2.1
  have b_14 := g_b hG (a := 77) (i := 11) (lo := 10) (hi := 60) rfl rfl
  have b_15 := g_b hG (a := 77) (i := 12) (lo := 0) (hi := 8) rfl rfl
  have b_16 := g_b hG (a := 77) (i := 13) (lo := 0) (hi := 12) rfl rfl
  have b_17 := g_b hG (a := 77) (i := 6) (lo := 0) (hi := 500) rfl rfl
  have b_18 := g_b hG (a := 77) (i := 7) (lo := 0) (hi := 500) rfl rfl
  have z_19 := RS_b q3 (a := a) (by omega)
  refine to_an (pc := 0) rw_212_0 rfl ?_
  refine tt_gI (pc := 1) rw_212_1 (g_o hG rfl) (v := (M.2.1 77 8)) rfl ?_
  refine to_c (pc := 4) rw_212_4 (x := (3 : Int32)) rfl rfl ?_
  refine b_cne (pc := 5) rw_212_5 (A := (M.2.1 77 8).toInt) (B := 3) rfl rfl (fun h20 => ?_) (fun h20 => ?_)
  · have z_21 := RS_2 q3 (a := a) (by omega) (by omega)
    refine to_an (pc := 45) rw_212_45 rfl ?_
    refine to_an (pc := 46) rw_212_46 rfl ?_
    refine tt_gI (pc := 47) rw_212_47 (g_o hG rfl) (v := (M.2.1 77 9)) rfl ?_
    refine s_v (pc := 50) rw_212_50 (dp0 hd (by decide)) (ls0 := [.ref 77, .int (M.2.1 77 9), .null]) rfl (Nat.le_of_ble_eq_true rfl) (Nat.le_of_ble_eq_true rfl) rfl (to_rc rfl rfl rfl (g_o hG rfl)) rfl ?_
    refine E_175 hX (dp1 hd (by decide)) hG q9 (n := (M.2.1 77 9)) (sg := sg) (fun r22 M28 hG24 F23 p_25 p_26 p_27 => ?_)
    have F29 := FR.c F0 F23 tg_175
    have z_30 := x_fn_v (s := sg) (r := 1) (v := (M.2.1 77 9).toInt) (w := x_val t nn a) (by omega)
    have j_31 := (PLk_f (tg_101 F23) q9)
    have z_32 := x_fn_b (s := sg) (v := x_val t nn a) j_31.1
    refine to_isn (pc := 53) rw_212_53 (ls2 := [.ref 77, .int e, .int r22, .null]) rfl rfl ?_
    refine to_an (pc := 54) rw_212_54 rfl ?_
    refine to_an (pc := 55) rw_212_55 rfl ?_
    have c_33 : M28.2.1 77 9 = (M.2.1 77 9) := (F_n F23 (show ¬ (77 < 0) by decide) rfl)
    refine tt_gI (pc := 56) rw_212_56 (g_o hG24 rfl) (v := (M.2.1 77 9)) c_33 ?_
    refine s_v (pc := 59) rw_212_59 (dp0 hd (by decide)) (ls0 := [.ref 77, .int (M.2.1 77 9), .null]) rfl (Nat.le_of_ble_eq_true rfl) (Nat.le_of_ble_eq_true rfl) rfl (to_rc rfl rfl rfl (g_o hG24 rfl)) rfl ?_
    refine E_176 hX (dp1 hd (by decide)) hG24 j_31 (n := (M.2.1 77 9)) (sg := sg) (fun r34 M40 hG36 F35 p_37 p_38 p_39 => ?_)
    have F41 := FR.c F29 F35 tg_175
    have z_42 := x_fn_v (s := sg) (r := 6) (v := (M.2.1 77 9).toInt) (w := x_val t nn a) (by omega)
    have j_43 := (PLk_f (tg_101 F35) j_31)
    have z_44 := x_fn_b6 (s := sg) (v := x_val t nn a) j_43.1
    refine to_isn (pc := 62) rw_212_62 (ls2 := [.ref 77, .int e, .int r22, .int r34]) rfl rfl ?_
    refine to_in (pc := 63) rw_212_63 rfl ?_
    refine b_ige (pc := 64) rw_212_64 (A := r22.toInt) rfl (fun h45 => ?_) (fun h45 => ?_)
    · refine to_an (pc := 77) rw_212_77 rfl ?_
      refine s_v (pc := 78) rw_212_78 (dp0 hd (by decide)) (ls0 := [.ref 77]) rfl (Nat.le_of_ble_eq_true rfl) (Nat.le_of_ble_eq_true rfl) rfl (to_rc rfl rfl rfl (g_o hG36 rfl)) rfl ?_
      have c_46 : M40.2.1 77 7 = (M.2.1 77 7) := (F_n F35 (show ¬ (77 < 0) by decide) (F_n F23 (show ¬ (77 < 0) by decide) rfl))
      have t_47 : (M40.2.1 77 7).toInt = (M.2.1 77 7).toInt := congrArg Int32.toInt c_46
      have c_48 : M40.2.1 77 6 = (M.2.1 77 6) := (F_n F35 (show ¬ (77 < 0) by decide) (F_n F23 (show ¬ (77 < 0) by decide) rfl))
      have t_49 : (M40.2.1 77 6).toInt = (M.2.1 77 6).toInt := congrArg Int32.toInt c_48
      have c_50 : M40.2.1 77 10 = (M.2.1 77 10) := (F_n F35 (show ¬ (77 < 0) by decide) (F_n F23 (show ¬ (77 < 0) by decide) rfl))
      have t_51 : (M40.2.1 77 10).toInt = (M.2.1 77 10).toInt := congrArg Int32.toInt c_50
      have j_52 := (RS_f (tg_45 F35) (RS_f (tg_45 F23) q3))
      have z_53 := RS_b j_52 (a := a) (by omega)
      have j_54 := (TR_f (tg_9 F35) (TR_f (tg_9 F23) q7))
      have j_55 := (W9_f (tg_46 F35) (W9_f (tg_46 F23) q8))
      refine E_156 hX (dp1 hd (by decide)) hG36 (by omega) (by omega) (by omega) (by omega) j_54 j_55  (fun M62 hG57 F56 p_58 p_59 p_60 p_61 => ?_)
      have F63 := FR.c F41 F56 tg_176
      have b_64 := g_b hG57 (a := 77) (i := 7) (lo := 0) (hi := 500) rfl rfl
      have c_65 : M62.2.1 77 6 = (M.2.1 77 6) := (F_n F56 (show ¬ (77 = 77 ∧ 7 ≤ 6 ∧ 6 ≤ 10) by decide) c_48)
      have t_66 : (M62.2.1 77 6).toInt = (M.2.1 77 6).toInt := congrArg Int32.toInt c_65
      have b_67 := g_b hG57 (a := 77) (i := 8) (lo := 0) (hi := 5) rfl rfl
      have b_68 := g_b hG57 (a := 77) (i := 10) (lo := 0) (hi := 500) rfl rfl
      have z_69 := RS_s p_61.2 (a := a) (by omega)
      have z_70 := RS_k p_61.1 (a := (x_ns t nn a)) (by omega)
      refine to_in (pc := 81) rw_212_81 rfl ?_
      refine b_ilt (pc := 82) rw_212_82 (A := r34.toInt) rfl (fun h71 => ?_) (fun h71 => ?_)
      · refine to_an (pc := 99) rw_212_99 rfl ?_
        refine to_c (pc := 100) rw_212_100 (x := (0 : Int32)) rfl rfl ?_
        refine to_an (pc := 101) rw_212_101 rfl ?_
        refine s_gR (pc := 102) rw_212_102 hG57 rfl (v := 83) rfl ?_
        refine to_in (pc := 105) rw_212_105 rfl ?_
        refine s_ial (pc := 106) rw_212_106 hG57 rfl (n := 16) rfl rfl (A := r22.toInt) rfl (by omega) (by omega) (lo := 0) (hi := 63) rfl rfl (fun v72 w_73 _ _ => ?_)
        have j_74 := (PLk_f (tg_174 F56) j_43)
        have z_75 := PLk_r j_74 4 83 rfl (by decide) (by decide) (k := r22.toInt) (by omega) (by omega) w_73
        have z_76 := x_row_v (s := sg) (r := 4) (x := r22.toInt) (y := x_fn sg 1 (x_val t nn a)) (by omega)
        have z_77 := j_74.1.2.2.2.2.2.2.2 (x_fn sg 1 (x_val t nn a)) (by omega) (by omega)
        refine to_an (pc := 107) rw_212_107 rfl ?_
        refine s_gR (pc := 108) rw_212_108 hG57 rfl (v := 82) rfl ?_
        refine to_in (pc := 111) rw_212_111 rfl ?_
        refine s_ial (pc := 112) rw_212_112 hG57 rfl (n := 16) rfl rfl (A := r22.toInt) rfl (by omega) (by omega) (lo := 0) (hi := 59) rfl rfl (fun v78 w_79 _ _ => ?_)
        have z_80 := PLk_r j_74 3 82 rfl (by decide) (by decide) (k := r22.toInt) (by omega) (by omega) w_79
        have z_81 := x_row_v (s := sg) (r := 3) (x := r22.toInt) (y := x_fn sg 1 (x_val t nn a)) (by omega)
        refine s_sub (pc := 113) rw_212_113 (A := v72.toInt) (B := v78.toInt) rfl rfl (by omega) (fun v82 e83 => ?_)
        refine s_v (pc := 114) rw_212_114 (dp0 hd (by decide)) (ls0 := [.ref 77, .int (0 : Int32), .int v82]) rfl (Nat.le_of_ble_eq_true rfl) (Nat.le_of_ble_eq_true rfl) rfl (to_rc rfl rfl rfl (g_o hG57 rfl)) rfl ?_
        refine to_an (pc := 0) rw_162_0 rfl ?_
        refine tt_gI (pc := 1) rw_162_1 (g_o hG57 rfl) (v := (M62.2.1 77 8)) rfl ?_
        refine to_c (pc := 4) rw_162_4 (x := (3 : Int32)) rfl rfl ?_
        refine b_ceq (pc := 5) rw_162_5 (A := (M62.2.1 77 8).toInt) (B := 3) rfl rfl (fun h84 => ?_) (fun h84 => ?_)
        · refine to_an (pc := 14) rw_162_14 rfl ?_
          refine tt_gI (pc := 15) rw_162_15 (g_o hG57 rfl) (v := (M62.2.1 77 9)) rfl ?_
          refine to_in (pc := 18) rw_162_18 rfl ?_
          refine b_clt (pc := 19) rw_162_19 (A := (M62.2.1 77 9).toInt) (B := 0) rfl rfl (fun h85 => ?_) (fun h85 => ?_)
          · refine to_an (pc := 30) rw_162_30 rfl ?_
            refine to_c (pc := 31) rw_162_31 (x := (2 : Int32)) rfl rfl ?_
            refine s_v (pc := 32) rw_162_32 (dp1 hd (by decide)) (ls0 := [.ref 77, .int (2 : Int32)]) rfl (Nat.le_of_ble_eq_true rfl) (Nat.le_of_ble_eq_true rfl) rfl (to_rc rfl rfl rfl (g_o hG57 rfl)) rfl ?_
            refine to_an (pc := 0) rw_152_0 rfl ?_
            refine to_in (pc := 1) rw_152_1 rfl ?_
            refine s_pI (pc := 2) rw_152_2 hG57 rfl (fun M87 W86 => ?_)
            have hG88 := g_wf hG57 W86 rfl rfl (by decide)
            have F89 := FR.w F63 W86 (show 77 = 77 ∧ (4 = 4 ∨ 4 = 5 ∨ 7 ≤ 4 ∧ 4 ≤ 10) ∨ 77 = 106 ∨ 77 = 107 by decide)
            refine to_an (pc := 5) rw_152_5 rfl ?_
            refine to_an (pc := 6) rw_152_6 rfl ?_
            have c_90 : M87.2.1 77 10 = (M62.2.1 77 10) := (W_n W86 (by decide) rfl)
            refine tt_gI (pc := 7) rw_152_7 (g_o hG88 rfl) (v := (M62.2.1 77 10)) c_90 ?_
            refine s_pI (pc := 10) rw_152_10 hG88 rfl (fun M92 W91 => ?_)
            have hG93 := g_wf hG88 W91 rfl rfl (by decide)
            have F94 := FR.w F89 W91 (show 77 = 77 ∧ (5 = 4 ∨ 5 = 5 ∨ 7 ≤ 5 ∧ 5 ≤ 10) ∨ 77 = 106 ∨ 77 = 107 by decide)
            refine to_c (pc := 13) rw_152_13 (x := (0 : Int32)) rfl rfl ?_
            refine s_r1 (pc := 14) rw_152_14 (A := 0) rfl (by decide) ?_
            refine b_ieq_t (pc := 35) rw_162_35 (A := 0) rfl (by decide) ?_
            refine to_c (pc := 42) rw_162_42 (x := (0 : Int32)) rfl rfl ?_
            refine s_r1 (pc := 43) rw_162_43 (A := 0) rfl (by decide) ?_
            refine b_ine_f (pc := 117) rw_212_117 (A := 0) rfl (by decide) ?_
            have c_95 : M92.2.1 77 4 = (2 : Int32) := (W_n W91 (by decide) (W_e W86))
            have c_96 : M92.2.1 77 8 = (M62.2.1 77 8) := (W_n W91 (by decide) (W_n W86 (by decide) rfl))
            have t_97 : (M92.2.1 77 8).toInt = (M62.2.1 77 8).toInt := congrArg Int32.toInt c_96
            have c_98 : M92.2.1 77 9 = (M62.2.1 77 9) := (W_n W91 (by decide) (W_n W86 (by decide) rfl))
            have t_99 : (M92.2.1 77 9).toInt = (M62.2.1 77 9).toInt := congrArg Int32.toInt c_98
            have c_100 : M92.2.1 77 10 = (M62.2.1 77 10) := (W_n W91 (by decide) c_90)
            have t_101 : (M92.2.1 77 10).toInt = (M62.2.1 77 10).toInt := congrArg Int32.toInt c_100
            have j_102 := (RS_f (fun a i z => W_n W91 (tg_37 a i z) rfl) (RS_f (fun a i z => W_n W86 (tg_38 a i z) rfl) p_61.1))
            have z_103 := RS_3x j_102 (a := (x_ns t nn a)) (m := x_row sg 4 (x_fn sg 1 (x_val t nn a)) - x_row sg 3 (x_fn sg 1 (x_val t nn a))) (by omega) (by omega) (by omega) (by omega)
            refine to_c (pc := 120) rw_212_120 (x := (0 : Int32)) rfl rfl ?_
            refine s_r1 (pc := 121) rw_212_121 (A := 0) rfl (by decide) ?_
            have k_104 : (0 : Int32).toInt = 0 := rfl
            have k_105 : (2 : Int32).toInt = 2 := rfl
            have t_106 : (M92.2.1 77 4).toInt = (2 : Int32).toInt := congrArg Int32.toInt c_95
            have c_107 : M92.2.1 77 5 = (M62.2.1 77 10) := (W_e W91)
            have t_108 : (M92.2.1 77 5).toInt = (M62.2.1 77 10).toInt := congrArg Int32.toInt c_107
            exact h (0 : Int32) M92 hG93 F94 (by decide) (by decide) (by omega) (fun z => by exfalso; omega) (fun z => absurd z (by decide)) (fun i hi => (W_n W91 (by omega) (W_n W86 (by omega) (F_n F56 (show ¬ (107 = 77 ∧ 7 ≤ i ∧ i ≤ 10) by omega) (F_n F35 (show ¬ (107 < 0) by decide) (F_n F23 (show ¬ (107 < 0) by decide) rfl)))))) (fun i hi => (W_j W91 (W_j W86 (F_nl F56 (show ¬ (106 = 77 ∧ 7 ≤ i ∧ i ≤ 10) by omega) (F_nl F35 (show ¬ (106 < 0) by decide) (F_nl F23 (show ¬ (106 < 0) by decide) rfl)))))) (fun z => absurd z (by decide)) (fun _ k9 => winl (by omega) (by omega) ((p_ndf (by omega) (by omega) (by omega)).trans (p_nb2 (by omega) (by omega))))
          · refine to_an (pc := 22) rw_162_22 rfl ?_
            refine tt_gI (pc := 23) rw_162_23 (g_o hG57 rfl) (v := (M62.2.1 77 9)) rfl ?_
            refine to_in (pc := 26) rw_162_26 rfl ?_
            refine b_cle (pc := 27) rw_162_27 (A := (M62.2.1 77 9).toInt) (B := v82.toInt) rfl rfl (fun h109 => ?_) (fun h109 => ?_)
            · refine to_c (pc := 38) rw_162_38 (x := (1 : Int32)) rfl rfl ?_
              refine to_go (pc := 39) rw_162_39 ?_
              refine s_r1 (pc := 43) rw_162_43 (A := 1) rfl (by decide) ?_
              refine b_ine_t (pc := 117) rw_212_117 (A := 1) rfl (by decide) ?_
              have z_110 := RS_3 p_61.1 (a := (x_ns t nn a)) (by omega) (by omega) (by omega)
              refine to_an (pc := 122) rw_212_122 rfl ?_
              refine s_gR (pc := 123) rw_212_123 hG57 rfl (v := 106) rfl ?_
              refine to_in (pc := 126) rw_212_126 rfl ?_
              refine to_dup2 (pc := 127) rw_212_127 ?_
              refine s_lalE (pc := 128) rw_212_128 hG57 rfl (n := 40) rfl (A := e.toInt) rfl (by omega) (by omega) (fun l111 w_112 => ?_)
              have z_113 : l111 = M.2.2.1 106 (e.toInt).toNat := (w_112).symm.trans ((F_nl F56 (show ¬ (106 = 77 ∧ 7 ≤ (e.toInt).toNat ∧ (e.toInt).toNat ≤ 10) by omega) (F_nl F35 (show ¬ (106 < 0) by decide) (F_nl F23 (show ¬ (106 < 0) by decide) rfl))))
              refine to_cl (pc := 129) rw_212_129 rfl (x := (1 : Int64)) rfl ?_
              refine to_an (pc := 130) rw_212_130 rfl ?_
              refine s_gR (pc := 131) rw_212_131 hG57 rfl (v := 82) rfl ?_
              refine to_in (pc := 134) rw_212_134 rfl ?_
              refine s_ialk (pc := 135) rw_212_135 hG57 rfl (n := 16) rfl rfl (A := r22.toInt) rfl (by omega) (by omega) (v := v78) w_79 ?_
              refine to_an (pc := 136) rw_212_136 rfl ?_
              refine tt_gI (pc := 137) rw_212_137 (g_o hG57 rfl) (v := (M62.2.1 77 9)) rfl ?_
              refine s_add (pc := 140) rw_212_140 (A := v78.toInt) (B := (M62.2.1 77 9).toInt) rfl rfl (by omega) (fun v116 e117 => ?_)
              refine to_2s (pc := 141) rw_212_141 (v := ((1 : Int64) <<< (v116.toInt64 &&& 63))) rfl ?_
              refine to_2l (pc := 142) rw_212_142 (v := (l111 ||| ((1 : Int64) <<< (v116.toInt64 &&& 63)))) rfl ?_
              refine s_las (pc := 143) rw_212_143 hG57 rfl (n := 40) rfl (A := e.toInt) rfl (by omega) (by omega) (fun M119 W118 => ?_)
              have hG120 := g_wl hG57 W118
              have F121 := FR.wl F63 W118 (show 106 = 77 ∧ ((e.toInt).toNat = 4 ∨ (e.toInt).toNat = 5 ∨ 7 ≤ (e.toInt).toNat ∧ (e.toInt).toNat ≤ 10) ∨ 106 = 106 ∨ 106 = 107 by omega)
              refine to_an (pc := 144) rw_212_144 rfl ?_
              refine s_v (pc := 145) rw_212_145 (dp0 hd (by decide)) (ls0 := [.ref 77]) rfl (Nat.le_of_ble_eq_true rfl) (Nat.le_of_ble_eq_true rfl) rfl (to_rc rfl rfl rfl (g_o hG120 rfl)) rfl ?_
              have c_122 : M119.2.1 77 7 = (M62.2.1 77 7) := (W_l W118 rfl)
              have t_123 : (M119.2.1 77 7).toInt = (M62.2.1 77 7).toInt := congrArg Int32.toInt c_122
              have c_124 : M119.2.1 77 6 = (M.2.1 77 6) := (W_l W118 c_65)
              have t_125 : (M119.2.1 77 6).toInt = (M.2.1 77 6).toInt := congrArg Int32.toInt c_124
              have c_126 : M119.2.1 77 10 = (M62.2.1 77 10) := (W_l W118 rfl)
              have t_127 : (M119.2.1 77 10).toInt = (M62.2.1 77 10).toInt := congrArg Int32.toInt c_126
              have j_128 := (RS_f (fun a i z => W_l W118 rfl) p_61.1)
              have z_129 := RS_b j_128 (a := (x_ns t nn a)) (by omega)
              have j_130 := (TR_f (fun a i z => W_l W118 rfl) (TR_f (tg_42 F56) j_54))
              have j_131 := (W9_f (fun a i z => W_l W118 rfl) (W9_f (tg_44 F56) j_55))
              refine E_156 hX (dp1 hd (by decide)) hG120 (by omega) (by omega) (by omega) (by omega) j_130 j_131  (fun M138 hG133 F132 p_134 p_135 p_136 p_137 => ?_)
              have F139 := FR.c F121 F132 tg_176
              have b_140 := g_b hG133 (a := 77) (i := 7) (lo := 0) (hi := 500) rfl rfl
              have c_141 : M138.2.1 77 6 = (M.2.1 77 6) := (F_n F132 (show ¬ (77 = 77 ∧ 7 ≤ 6 ∧ 6 ≤ 10) by decide) c_124)
              have t_142 : (M138.2.1 77 6).toInt = (M.2.1 77 6).toInt := congrArg Int32.toInt c_141
              have b_143 := g_b hG133 (a := 77) (i := 8) (lo := 0) (hi := 5) rfl rfl
              have b_144 := g_b hG133 (a := 77) (i := 10) (lo := 0) (hi := 500) rfl rfl
              have z_145 := RS_s p_137.2 (a := (x_ns t nn a)) (by omega)
              refine to_c (pc := 148) rw_212_148 (x := (1 : Int32)) rfl rfl ?_
              refine s_r1 (pc := 149) rw_212_149 (A := 1) rfl (by decide) ?_
              have k_146 : (1 : Int32).toInt = 1 := rfl
              have z_147 := x_ns_lt (t := t) (nn := nn) (a := a) (by omega) (x_lt_k (t := t) (by omega) (by omega))
              have z_148 := x_ns_b (t := t) (n := nn) (a := (x_ns t nn a)) (by omega) (by omega)
              exact h (1 : Int32) M138 hG133 F139 (by decide) (by decide) (by omega) (fun _ => p_137.1) (fun _ => (fun q9 => ⟨(nw_b (b := x_bit v116.toInt) ((F_n F132 (show ¬ (107 = 77 ∧ 7 ≤ (e.toInt).toNat ∧ (e.toInt).toNat ≤ 10) by omega) (W_l W118 (F_n F56 (show ¬ (107 = 77 ∧ 7 ≤ (e.toInt).toNat ∧ (e.toInt).toNat ≤ 10) by omega) (F_n F35 (show ¬ (107 < 0) by decide) (F_n F23 (show ¬ (107 < 0) by decide) rfl)))))) ((((F_nl F132 (show ¬ (106 = 77 ∧ 7 ≤ (e.toInt).toNat ∧ (e.toInt).toNat ≤ 10) by omega) rfl)).trans (L_e W118)).trans (by rw [z_113, x_bit_e (v := v116) rfl]))).trans (by rw [← q9.1]), by rw [q9.2]; omega⟩) (x_nb_f (t := t) (nn := nn) (s := sg) (C := C9) (g := a) (by omega) (by omega) (b := v116.toInt) (by omega))) (fun i hi => (F_n F132 (show ¬ (107 = 77 ∧ 7 ≤ i ∧ i ≤ 10) by omega) (W_l W118 (F_n F56 (show ¬ (107 = 77 ∧ 7 ≤ i ∧ i ≤ 10) by omega) (F_n F35 (show ¬ (107 < 0) by decide) (F_n F23 (show ¬ (107 < 0) by decide) rfl)))))) (fun i hi => (F_nl F132 (show ¬ (106 = 77 ∧ 7 ≤ i ∧ i ≤ 10) by omega) (L_n W118 (by omega) (F_nl F56 (show ¬ (106 = 77 ∧ 7 ≤ i ∧ i ≤ 10) by omega) (F_nl F35 (show ¬ (106 < 0) by decide) (F_nl F23 (show ¬ (106 < 0) by decide) rfl)))))) (fun _ k9 => by rw [show (M138.2.1 77 10).toInt = (x_ns t nn (x_ns t nn a)) by omega]; exact (p_ndf (by omega) (by omega) (by omega)).trans (p_nb (by omega) (by omega))) (fun z => absurd z (by decide))
            · refine to_an (pc := 30) rw_162_30 rfl ?_
              refine to_c (pc := 31) rw_162_31 (x := (2 : Int32)) rfl rfl ?_
              refine s_v (pc := 32) rw_162_32 (dp1 hd (by decide)) (ls0 := [.ref 77, .int (2 : Int32)]) rfl (Nat.le_of_ble_eq_true rfl) (Nat.le_of_ble_eq_true rfl) rfl (to_rc rfl rfl rfl (g_o hG57 rfl)) rfl ?_
              refine to_an (pc := 0) rw_152_0 rfl ?_
              refine to_in (pc := 1) rw_152_1 rfl ?_
              refine s_pI (pc := 2) rw_152_2 hG57 rfl (fun M150 W149 => ?_)
              have hG151 := g_wf hG57 W149 rfl rfl (by decide)
              have F152 := FR.w F63 W149 (show 77 = 77 ∧ (4 = 4 ∨ 4 = 5 ∨ 7 ≤ 4 ∧ 4 ≤ 10) ∨ 77 = 106 ∨ 77 = 107 by decide)
              refine to_an (pc := 5) rw_152_5 rfl ?_
              refine to_an (pc := 6) rw_152_6 rfl ?_
              have c_153 : M150.2.1 77 10 = (M62.2.1 77 10) := (W_n W149 (by decide) rfl)
              refine tt_gI (pc := 7) rw_152_7 (g_o hG151 rfl) (v := (M62.2.1 77 10)) c_153 ?_
              refine s_pI (pc := 10) rw_152_10 hG151 rfl (fun M155 W154 => ?_)
              have hG156 := g_wf hG151 W154 rfl rfl (by decide)
              have F157 := FR.w F152 W154 (show 77 = 77 ∧ (5 = 4 ∨ 5 = 5 ∨ 7 ≤ 5 ∧ 5 ≤ 10) ∨ 77 = 106 ∨ 77 = 107 by decide)
              refine to_c (pc := 13) rw_152_13 (x := (0 : Int32)) rfl rfl ?_
              refine s_r1 (pc := 14) rw_152_14 (A := 0) rfl (by decide) ?_
              refine b_ieq_t (pc := 35) rw_162_35 (A := 0) rfl (by decide) ?_
              refine to_c (pc := 42) rw_162_42 (x := (0 : Int32)) rfl rfl ?_
              refine s_r1 (pc := 43) rw_162_43 (A := 0) rfl (by decide) ?_
              refine b_ine_f (pc := 117) rw_212_117 (A := 0) rfl (by decide) ?_
              have c_158 : M155.2.1 77 4 = (2 : Int32) := (W_n W154 (by decide) (W_e W149))
              have c_159 : M155.2.1 77 8 = (M62.2.1 77 8) := (W_n W154 (by decide) (W_n W149 (by decide) rfl))
              have t_160 : (M155.2.1 77 8).toInt = (M62.2.1 77 8).toInt := congrArg Int32.toInt c_159
              have c_161 : M155.2.1 77 9 = (M62.2.1 77 9) := (W_n W154 (by decide) (W_n W149 (by decide) rfl))
              have t_162 : (M155.2.1 77 9).toInt = (M62.2.1 77 9).toInt := congrArg Int32.toInt c_161
              have c_163 : M155.2.1 77 10 = (M62.2.1 77 10) := (W_n W154 (by decide) c_153)
              have t_164 : (M155.2.1 77 10).toInt = (M62.2.1 77 10).toInt := congrArg Int32.toInt c_163
              have j_165 := (RS_f (fun a i z => W_n W154 (tg_37 a i z) rfl) (RS_f (fun a i z => W_n W149 (tg_38 a i z) rfl) p_61.1))
              have z_166 := RS_3x j_165 (a := (x_ns t nn a)) (m := x_row sg 4 (x_fn sg 1 (x_val t nn a)) - x_row sg 3 (x_fn sg 1 (x_val t nn a))) (by omega) (by omega) (by omega) (by omega)
              refine to_c (pc := 120) rw_212_120 (x := (0 : Int32)) rfl rfl ?_
              refine s_r1 (pc := 121) rw_212_121 (A := 0) rfl (by decide) ?_
              have k_167 : (0 : Int32).toInt = 0 := rfl
              have k_168 : (2 : Int32).toInt = 2 := rfl
              have t_169 : (M155.2.1 77 4).toInt = (2 : Int32).toInt := congrArg Int32.toInt c_158
              have c_170 : M155.2.1 77 5 = (M62.2.1 77 10) := (W_e W154)
              have t_171 : (M155.2.1 77 5).toInt = (M62.2.1 77 10).toInt := congrArg Int32.toInt c_170
              exact h (0 : Int32) M155 hG156 F157 (by decide) (by decide) (by omega) (fun z => by exfalso; omega) (fun z => absurd z (by decide)) (fun i hi => (W_n W154 (by omega) (W_n W149 (by omega) (F_n F56 (show ¬ (107 = 77 ∧ 7 ≤ i ∧ i ≤ 10) by omega) (F_n F35 (show ¬ (107 < 0) by decide) (F_n F23 (show ¬ (107 < 0) by decide) rfl)))))) (fun i hi => (W_j W154 (W_j W149 (F_nl F56 (show ¬ (106 = 77 ∧ 7 ≤ i ∧ i ≤ 10) by omega) (F_nl F35 (show ¬ (106 < 0) by decide) (F_nl F23 (show ¬ (106 < 0) by decide) rfl)))))) (fun z => absurd z (by decide)) (fun _ k9 => winl (by omega) (by omega) ((p_ndf (by omega) (by omega) (by omega)).trans (p_nb2 (by omega) (by omega))))
        · refine to_an (pc := 8) rw_162_8 rfl ?_
          refine to_c (pc := 9) rw_162_9 (x := (1 : Int32)) rfl rfl ?_
          refine s_v (pc := 10) rw_162_10 (dp1 hd (by decide)) (ls0 := [.ref 77, .int (1 : Int32)]) rfl (Nat.le_of_ble_eq_true rfl) (Nat.le_of_ble_eq_true rfl) rfl (to_rc rfl rfl rfl (g_o hG57 rfl)) rfl ?_
          refine to_an (pc := 0) rw_152_0 rfl ?_
          refine to_in (pc := 1) rw_152_1 rfl ?_
          refine s_pI (pc := 2) rw_152_2 hG57 rfl (fun M173 W172 => ?_)
          have hG174 := g_wf hG57 W172 rfl rfl (by decide)
          have F175 := FR.w F63 W172 (show 77 = 77 ∧ (4 = 4 ∨ 4 = 5 ∨ 7 ≤ 4 ∧ 4 ≤ 10) ∨ 77 = 106 ∨ 77 = 107 by decide)
          refine to_an (pc := 5) rw_152_5 rfl ?_
          refine to_an (pc := 6) rw_152_6 rfl ?_
          have c_176 : M173.2.1 77 10 = (M62.2.1 77 10) := (W_n W172 (by decide) rfl)
          refine tt_gI (pc := 7) rw_152_7 (g_o hG174 rfl) (v := (M62.2.1 77 10)) c_176 ?_
          refine s_pI (pc := 10) rw_152_10 hG174 rfl (fun M178 W177 => ?_)
          have hG179 := g_wf hG174 W177 rfl rfl (by decide)
          have F180 := FR.w F175 W177 (show 77 = 77 ∧ (5 = 4 ∨ 5 = 5 ∨ 7 ≤ 5 ∧ 5 ≤ 10) ∨ 77 = 106 ∨ 77 = 107 by decide)
          refine to_c (pc := 13) rw_152_13 (x := (0 : Int32)) rfl rfl ?_
          refine s_r1 (pc := 14) rw_152_14 (A := 0) rfl (by decide) ?_
          refine s_r1 (pc := 13) rw_162_13 (A := 0) rfl (by decide) ?_
          refine b_ine_f (pc := 117) rw_212_117 (A := 0) rfl (by decide) ?_
          have c_181 : M178.2.1 77 4 = (1 : Int32) := (W_n W177 (by decide) (W_e W172))
          refine to_c (pc := 120) rw_212_120 (x := (0 : Int32)) rfl rfl ?_
          refine s_r1 (pc := 121) rw_212_121 (A := 0) rfl (by decide) ?_
          have k_182 : (0 : Int32).toInt = 0 := rfl
          have c_183 : M178.2.1 77 10 = (M62.2.1 77 10) := (W_n W177 (by decide) c_176)
          have t_184 : (M178.2.1 77 10).toInt = (M62.2.1 77 10).toInt := congrArg Int32.toInt c_183
          have k_185 : (1 : Int32).toInt = 1 := rfl
          have t_186 : (M178.2.1 77 4).toInt = (1 : Int32).toInt := congrArg Int32.toInt c_181
          have c_187 : M178.2.1 77 5 = (M62.2.1 77 10) := (W_e W177)
          have t_188 : (M178.2.1 77 5).toInt = (M62.2.1 77 10).toInt := congrArg Int32.toInt c_187
          exact h (0 : Int32) M178 hG179 F180 (by decide) (by decide) (by omega) (fun z => by exfalso; omega) (fun z => absurd z (by decide)) (fun i hi => (W_n W177 (by omega) (W_n W172 (by omega) (F_n F56 (show ¬ (107 = 77 ∧ 7 ≤ i ∧ i ≤ 10) by omega) (F_n F35 (show ¬ (107 < 0) by decide) (F_n F23 (show ¬ (107 < 0) by decide) rfl)))))) (fun i hi => (W_j W177 (W_j W172 (F_nl F56 (show ¬ (106 = 77 ∧ 7 ≤ i ∧ i ≤ 10) by omega) (F_nl F35 (show ¬ (106 < 0) by decide) (F_nl F23 (show ¬ (106 < 0) by decide) rfl)))))) (fun z => absurd z (by decide)) (fun _ k9 => winl (by omega) (by omega) ((p_ndf (by omega) (by omega) (by omega)).trans (p_nb1 (by omega))))
      · refine to_an (pc := 85) rw_212_85 rfl ?_
        refine s_gR (pc := 86) rw_212_86 hG57 rfl (v := 107) rfl ?_
        refine to_in (pc := 89) rw_212_89 rfl ?_
        refine to_dup2 (pc := 90) rw_212_90 ?_
        refine s_ial (pc := 91) rw_212_91 hG57 rfl (n := 40) rfl rfl (A := e.toInt) rfl (by omega) (by omega) (lo := -2147483648) (hi := 2147483647) rfl rfl (fun v189 w_190 _ _ => ?_)
        have z_191 : v189 = M.2.1 107 (e.toInt).toNat := (w_190).symm.trans ((F_n F56 (show ¬ (107 = 77 ∧ 7 ≤ (e.toInt).toNat ∧ (e.toInt).toNat ≤ 10) by omega) (F_n F35 (show ¬ (107 < 0) by decide) (F_n F23 (show ¬ (107 < 0) by decide) rfl))))
        refine to_c (pc := 92) rw_212_92 (x := (1 : Int32)) rfl rfl ?_
        refine to_in (pc := 93) rw_212_93 rfl ?_
        refine s_opE (pc := 94) rw_212_94 (w := (1 : Int32) <<< r34) rfl (fun v192 e193 => ?_)
        refine s_opE (pc := 95) rw_212_95 (w := v189 ||| v192) rfl (fun v194 e195 => ?_)
        refine s_ias (pc := 96) rw_212_96 hG57 rfl (n := 40) rfl (A := e.toInt) rfl (by omega) (by omega) (fun M197 W196 => ?_)
        have hG198 := g_wf hG57 W196 rfl rfl (by decide)
        have F199 := FR.w F63 W196 (show 107 = 77 ∧ ((e.toInt).toNat = 4 ∨ (e.toInt).toNat = 5 ∨ 7 ≤ (e.toInt).toNat ∧ (e.toInt).toNat ≤ 10) ∨ 107 = 106 ∨ 107 = 107 by omega)
        refine to_c (pc := 97) rw_212_97 (x := (1 : Int32)) rfl rfl ?_
        refine s_r1 (pc := 98) rw_212_98 (A := 1) rfl (by decide) ?_
        have k_200 : (1 : Int32).toInt = 1 := rfl
        have c_201 : M197.2.1 77 10 = (M62.2.1 77 10) := (W_n W196 (fun z => absurd z.1 (by decide)) rfl)
        have t_202 : (M197.2.1 77 10).toInt = (M62.2.1 77 10).toInt := congrArg Int32.toInt c_201
        have z_203 := x_ns_lt (t := t) (nn := nn) (a := a) (by omega) (x_lt_k (t := t) (by omega) (by omega))
        have j_204 := (RS_f (fun a i z => W_n W196 (tg_177 a i _ z) rfl) p_61.1)
        exact h (1 : Int32) M197 hG198 F199 (by decide) (by decide) (by omega) (fun _ => j_204) (fun _ => (fun q9 => ⟨(nw_w ((W_j W196 (F_nl F56 (show ¬ (106 = 77 ∧ 7 ≤ (e.toInt).toNat ∧ (e.toInt).toNat ≤ 10) by omega) (F_nl F35 (show ¬ (106 < 0) by decide) (F_nl F23 (show ¬ (106 < 0) by decide) rfl))))) (((rfl).trans (W_e W196)).trans (by rw [← e195, ← e193, z_191])) rfl (by omega) (by omega) (by omega)).trans (by rw [← q9.1]), by rw [q9.2]; omega⟩) (x_nb_w (t := t) (nn := nn) (s := sg) (C := C9) (g := a) (by omega) (by omega) (w := r34.toInt) (by omega) rfl)) (fun i hi => (W_n W196 (by omega) (F_n F56 (show ¬ (107 = 77 ∧ 7 ≤ i ∧ i ≤ 10) by omega) (F_n F35 (show ¬ (107 < 0) by decide) (F_n F23 (show ¬ (107 < 0) by decide) rfl))))) (fun i hi => (W_j W196 (F_nl F56 (show ¬ (106 = 77 ∧ 7 ≤ i ∧ i ≤ 10) by omega) (F_nl F35 (show ¬ (106 < 0) by decide) (F_nl F23 (show ¬ (106 < 0) by decide) rfl))))) (fun _ k9 => by rw [show (M197.2.1 77 10).toInt = (x_ns t nn a) by omega]; exact p_ndw (by omega) (by omega)) (fun z => absurd z (by decide))
    · refine to_in (pc := 67) rw_212_67 rfl ?_
      refine b_ige (pc := 68) rw_212_68 (A := r34.toInt) rfl (fun h205 => ?_) (fun h205 => ?_)
      · refine to_an (pc := 77) rw_212_77 rfl ?_
        refine s_v (pc := 78) rw_212_78 (dp0 hd (by decide)) (ls0 := [.ref 77]) rfl (Nat.le_of_ble_eq_true rfl) (Nat.le_of_ble_eq_true rfl) rfl (to_rc rfl rfl rfl (g_o hG36 rfl)) rfl ?_
        have c_206 : M40.2.1 77 7 = (M.2.1 77 7) := (F_n F35 (show ¬ (77 < 0) by decide) (F_n F23 (show ¬ (77 < 0) by decide) rfl))
        have t_207 : (M40.2.1 77 7).toInt = (M.2.1 77 7).toInt := congrArg Int32.toInt c_206
        have c_208 : M40.2.1 77 6 = (M.2.1 77 6) := (F_n F35 (show ¬ (77 < 0) by decide) (F_n F23 (show ¬ (77 < 0) by decide) rfl))
        have t_209 : (M40.2.1 77 6).toInt = (M.2.1 77 6).toInt := congrArg Int32.toInt c_208
        have c_210 : M40.2.1 77 10 = (M.2.1 77 10) := (F_n F35 (show ¬ (77 < 0) by decide) (F_n F23 (show ¬ (77 < 0) by decide) rfl))
        have t_211 : (M40.2.1 77 10).toInt = (M.2.1 77 10).toInt := congrArg Int32.toInt c_210
        have j_212 := (RS_f (tg_45 F35) (RS_f (tg_45 F23) q3))
        have z_213 := RS_b j_212 (a := a) (by omega)
        have j_214 := (TR_f (tg_9 F35) (TR_f (tg_9 F23) q7))
        have j_215 := (W9_f (tg_46 F35) (W9_f (tg_46 F23) q8))
        refine E_156 hX (dp1 hd (by decide)) hG36 (by omega) (by omega) (by omega) (by omega) j_214 j_215  (fun M222 hG217 F216 p_218 p_219 p_220 p_221 => ?_)
        have F223 := FR.c F41 F216 tg_176
        have b_224 := g_b hG217 (a := 77) (i := 7) (lo := 0) (hi := 500) rfl rfl
        have c_225 : M222.2.1 77 6 = (M.2.1 77 6) := (F_n F216 (show ¬ (77 = 77 ∧ 7 ≤ 6 ∧ 6 ≤ 10) by decide) c_208)
        have t_226 : (M222.2.1 77 6).toInt = (M.2.1 77 6).toInt := congrArg Int32.toInt c_225
        have b_227 := g_b hG217 (a := 77) (i := 8) (lo := 0) (hi := 5) rfl rfl
        have b_228 := g_b hG217 (a := 77) (i := 10) (lo := 0) (hi := 500) rfl rfl
        have z_229 := RS_s p_221.2 (a := a) (by omega)
        have z_230 := RS_k p_221.1 (a := (x_ns t nn a)) (by omega)
        refine to_in (pc := 81) rw_212_81 rfl ?_
        refine b_ilt_f (pc := 82) rw_212_82 (A := r34.toInt) rfl (by omega) ?_
        refine to_an (pc := 85) rw_212_85 rfl ?_
        refine s_gR (pc := 86) rw_212_86 hG217 rfl (v := 107) rfl ?_
        refine to_in (pc := 89) rw_212_89 rfl ?_
        refine to_dup2 (pc := 90) rw_212_90 ?_
        refine s_ial (pc := 91) rw_212_91 hG217 rfl (n := 40) rfl rfl (A := e.toInt) rfl (by omega) (by omega) (lo := -2147483648) (hi := 2147483647) rfl rfl (fun v231 w_232 _ _ => ?_)
        have z_233 : v231 = M.2.1 107 (e.toInt).toNat := (w_232).symm.trans ((F_n F216 (show ¬ (107 = 77 ∧ 7 ≤ (e.toInt).toNat ∧ (e.toInt).toNat ≤ 10) by omega) (F_n F35 (show ¬ (107 < 0) by decide) (F_n F23 (show ¬ (107 < 0) by decide) rfl))))
        refine to_c (pc := 92) rw_212_92 (x := (1 : Int32)) rfl rfl ?_
        refine to_in (pc := 93) rw_212_93 rfl ?_
        refine s_opE (pc := 94) rw_212_94 (w := (1 : Int32) <<< r34) rfl (fun v234 e235 => ?_)
        refine s_opE (pc := 95) rw_212_95 (w := v231 ||| v234) rfl (fun v236 e237 => ?_)
        refine s_ias (pc := 96) rw_212_96 hG217 rfl (n := 40) rfl (A := e.toInt) rfl (by omega) (by omega) (fun M239 W238 => ?_)
        have hG240 := g_wf hG217 W238 rfl rfl (by decide)
        have F241 := FR.w F223 W238 (show 107 = 77 ∧ ((e.toInt).toNat = 4 ∨ (e.toInt).toNat = 5 ∨ 7 ≤ (e.toInt).toNat ∧ (e.toInt).toNat ≤ 10) ∨ 107 = 106 ∨ 107 = 107 by omega)
        refine to_c (pc := 97) rw_212_97 (x := (1 : Int32)) rfl rfl ?_
        refine s_r1 (pc := 98) rw_212_98 (A := 1) rfl (by decide) ?_
        have k_242 : (1 : Int32).toInt = 1 := rfl
        have c_243 : M239.2.1 77 10 = (M222.2.1 77 10) := (W_n W238 (fun z => absurd z.1 (by decide)) rfl)
        have t_244 : (M239.2.1 77 10).toInt = (M222.2.1 77 10).toInt := congrArg Int32.toInt c_243
        have z_245 := x_ns_lt (t := t) (nn := nn) (a := a) (by omega) (x_lt_k (t := t) (by omega) (by omega))
        have j_246 := (RS_f (fun a i z => W_n W238 (tg_177 a i _ z) rfl) p_221.1)
        exact h (1 : Int32) M239 hG240 F241 (by decide) (by decide) (by omega) (fun _ => j_246) (fun _ => (fun q9 => ⟨(nw_w ((W_j W238 (F_nl F216 (show ¬ (106 = 77 ∧ 7 ≤ (e.toInt).toNat ∧ (e.toInt).toNat ≤ 10) by omega) (F_nl F35 (show ¬ (106 < 0) by decide) (F_nl F23 (show ¬ (106 < 0) by decide) rfl))))) (((rfl).trans (W_e W238)).trans (by rw [← e237, ← e235, z_233])) rfl (by omega) (by omega) (by omega)).trans (by rw [← q9.1]), by rw [q9.2]; omega⟩) (x_nb_w (t := t) (nn := nn) (s := sg) (C := C9) (g := a) (by omega) (by omega) (w := r34.toInt) (by omega) rfl)) (fun i hi => (W_n W238 (by omega) (F_n F216 (show ¬ (107 = 77 ∧ 7 ≤ i ∧ i ≤ 10) by omega) (F_n F35 (show ¬ (107 < 0) by decide) (F_n F23 (show ¬ (107 < 0) by decide) rfl))))) (fun i hi => (W_j W238 (F_nl F216 (show ¬ (106 = 77 ∧ 7 ≤ i ∧ i ≤ 10) by omega) (F_nl F35 (show ¬ (106 < 0) by decide) (F_nl F23 (show ¬ (106 < 0) by decide) rfl))))) (fun _ k9 => by rw [show (M239.2.1 77 10).toInt = (x_ns t nn a) by omega]; exact p_ndw (by omega) (by omega)) (fun z => absurd z (by decide))
      · refine to_an (pc := 71) rw_212_71 rfl ?_
        refine to_c (pc := 72) rw_212_72 (x := (4 : Int32)) rfl rfl ?_
        refine s_v (pc := 73) rw_212_73 (dp0 hd (by decide)) (ls0 := [.ref 77, .int (4 : Int32)]) rfl (Nat.le_of_ble_eq_true rfl) (Nat.le_of_ble_eq_true rfl) rfl (to_rc rfl rfl rfl (g_o hG36 rfl)) rfl ?_
        refine to_an (pc := 0) rw_152_0 rfl ?_
        refine to_in (pc := 1) rw_152_1 rfl ?_
        refine s_pI (pc := 2) rw_152_2 hG36 rfl (fun M248 W247 => ?_)
        have hG249 := g_wf hG36 W247 rfl rfl (by decide)
        have F250 := FR.w F41 W247 (show 77 = 77 ∧ (4 = 4 ∨ 4 = 5 ∨ 7 ≤ 4 ∧ 4 ≤ 10) ∨ 77 = 106 ∨ 77 = 107 by decide)
        refine to_an (pc := 5) rw_152_5 rfl ?_
        refine to_an (pc := 6) rw_152_6 rfl ?_
        have c_251 : M248.2.1 77 10 = (M.2.1 77 10) := (W_n W247 (by decide) (F_n F35 (show ¬ (77 < 0) by decide) (F_n F23 (show ¬ (77 < 0) by decide) rfl)))
        refine tt_gI (pc := 7) rw_152_7 (g_o hG249 rfl) (v := (M.2.1 77 10)) c_251 ?_
        refine s_pI (pc := 10) rw_152_10 hG249 rfl (fun M253 W252 => ?_)
        have hG254 := g_wf hG249 W252 rfl rfl (by decide)
        have F255 := FR.w F250 W252 (show 77 = 77 ∧ (5 = 4 ∨ 5 = 5 ∨ 7 ≤ 5 ∧ 5 ≤ 10) ∨ 77 = 106 ∨ 77 = 107 by decide)
        refine to_c (pc := 13) rw_152_13 (x := (0 : Int32)) rfl rfl ?_
        refine s_r1 (pc := 14) rw_152_14 (A := 0) rfl (by decide) ?_
        refine s_r1 (pc := 76) rw_212_76 (A := 0) rfl (by decide) ?_
        have k_256 : (0 : Int32).toInt = 0 := rfl
        have c_257 : M253.2.1 77 10 = (M.2.1 77 10) := (W_n W252 (by decide) c_251)
        have t_258 : (M253.2.1 77 10).toInt = (M.2.1 77 10).toInt := congrArg Int32.toInt c_257
        have c_259 : M253.2.1 77 4 = (4 : Int32) := (W_n W252 (by decide) (W_e W247))
        have k_260 : (4 : Int32).toInt = 4 := rfl
        have t_261 : (M253.2.1 77 4).toInt = (4 : Int32).toInt := congrArg Int32.toInt c_259
        have c_262 : M253.2.1 77 5 = (M.2.1 77 10) := (W_e W252)
        have t_263 : (M253.2.1 77 5).toInt = (M.2.1 77 10).toInt := congrArg Int32.toInt c_262
        exact h (0 : Int32) M253 hG254 F255 (by decide) (by decide) (by omega) (fun z => by exfalso; omega) (fun z => absurd z (by decide)) (fun i hi => (W_n W252 (by omega) (W_n W247 (by omega) (F_n F35 (show ¬ (107 < 0) by decide) (F_n F23 (show ¬ (107 < 0) by decide) rfl))))) (fun i hi => (W_j W252 (W_j W247 (F_nl F35 (show ¬ (106 < 0) by decide) (F_nl F23 (show ¬ (106 < 0) by decide) rfl))))) (fun z => absurd z (by decide)) (fun _ k9 => winl (by omega) (by omega) (p_ndx (by omega) (by omega) (by omega)))
  · refine to_an (pc := 8) rw_212_8 rfl ?_
    refine to_c (pc := 9) rw_212_9 (x := (0 : Int32)) rfl rfl ?_
    refine to_an (pc := 10) rw_212_10 rfl ?_
    refine tt_gI (pc := 11) rw_212_11 (g_o hG rfl) (v := (M.2.1 77 11)) rfl ?_
    refine to_c (pc := 14) rw_212_14 (x := (1 : Int32)) rfl rfl ?_
    refine s_sub (pc := 15) rw_212_15 (A := (M.2.1 77 11).toInt) (B := 1) rfl rfl (by omega) (fun v264 e265 => ?_)
    refine s_v (pc := 16) rw_212_16 (dp0 hd (by decide)) (ls0 := [.ref 77, .int (0 : Int32), .int v264]) rfl (Nat.le_of_ble_eq_true rfl) (Nat.le_of_ble_eq_true rfl) rfl (to_rc rfl rfl rfl (g_o hG rfl)) rfl ?_
    refine to_an (pc := 0) rw_162_0 rfl ?_
    refine tt_gI (pc := 1) rw_162_1 (g_o hG rfl) (v := (M.2.1 77 8)) rfl ?_
    refine to_c (pc := 4) rw_162_4 (x := (3 : Int32)) rfl rfl ?_
    refine b_ceq_t (pc := 5) rw_162_5 (A := (M.2.1 77 8).toInt) (B := 3) rfl rfl (by omega) ?_
    refine to_an (pc := 14) rw_162_14 rfl ?_
    refine tt_gI (pc := 15) rw_162_15 (g_o hG rfl) (v := (M.2.1 77 9)) rfl ?_
    refine to_in (pc := 18) rw_162_18 rfl ?_
    refine b_clt (pc := 19) rw_162_19 (A := (M.2.1 77 9).toInt) (B := 0) rfl rfl (fun h266 => ?_) (fun h266 => ?_)
    · refine to_an (pc := 30) rw_162_30 rfl ?_
      refine to_c (pc := 31) rw_162_31 (x := (2 : Int32)) rfl rfl ?_
      refine s_v (pc := 32) rw_162_32 (dp1 hd (by decide)) (ls0 := [.ref 77, .int (2 : Int32)]) rfl (Nat.le_of_ble_eq_true rfl) (Nat.le_of_ble_eq_true rfl) rfl (to_rc rfl rfl rfl (g_o hG rfl)) rfl ?_
      refine to_an (pc := 0) rw_152_0 rfl ?_
      refine to_in (pc := 1) rw_152_1 rfl ?_
      refine s_pI (pc := 2) rw_152_2 hG rfl (fun M268 W267 => ?_)
      have hG269 := g_wf hG W267 rfl rfl (by decide)
      have F270 := FR.w F0 W267 (show 77 = 77 ∧ (4 = 4 ∨ 4 = 5 ∨ 7 ≤ 4 ∧ 4 ≤ 10) ∨ 77 = 106 ∨ 77 = 107 by decide)
      refine to_an (pc := 5) rw_152_5 rfl ?_
      refine to_an (pc := 6) rw_152_6 rfl ?_
      have c_271 : M268.2.1 77 10 = (M.2.1 77 10) := (W_n W267 (by decide) rfl)
      refine tt_gI (pc := 7) rw_152_7 (g_o hG269 rfl) (v := (M.2.1 77 10)) c_271 ?_
      refine s_pI (pc := 10) rw_152_10 hG269 rfl (fun M273 W272 => ?_)
      have hG274 := g_wf hG269 W272 rfl rfl (by decide)
      have F275 := FR.w F270 W272 (show 77 = 77 ∧ (5 = 4 ∨ 5 = 5 ∨ 7 ≤ 5 ∧ 5 ≤ 10) ∨ 77 = 106 ∨ 77 = 107 by decide)
      refine to_c (pc := 13) rw_152_13 (x := (0 : Int32)) rfl rfl ?_
      refine s_r1 (pc := 14) rw_152_14 (A := 0) rfl (by decide) ?_
      refine b_ieq_t (pc := 35) rw_162_35 (A := 0) rfl (by decide) ?_
      refine to_c (pc := 42) rw_162_42 (x := (0 : Int32)) rfl rfl ?_
      refine s_r1 (pc := 43) rw_162_43 (A := 0) rfl (by decide) ?_
      refine b_ine_f (pc := 19) rw_212_19 (A := 0) rfl (by decide) ?_
      have c_276 : M273.2.1 77 8 = (M.2.1 77 8) := (W_n W272 (by decide) (W_n W267 (by decide) rfl))
      have t_277 : (M273.2.1 77 8).toInt = (M.2.1 77 8).toInt := congrArg Int32.toInt c_276
      have c_278 : M273.2.1 77 9 = (M.2.1 77 9) := (W_n W272 (by decide) (W_n W267 (by decide) rfl))
      have t_279 : (M273.2.1 77 9).toInt = (M.2.1 77 9).toInt := congrArg Int32.toInt c_278
      have c_280 : M273.2.1 77 10 = (M.2.1 77 10) := (W_n W272 (by decide) c_271)
      have t_281 : (M273.2.1 77 10).toInt = (M.2.1 77 10).toInt := congrArg Int32.toInt c_280
      have j_282 := (RS_f (fun a i z => W_n W272 (tg_37 a i z) rfl) (RS_f (fun a i z => W_n W267 (tg_38 a i z) rfl) q3))
      have z_283 := RS_3x j_282 (a := a) (m := sg.1 - 1) (by omega) (by omega) (by omega) (by omega)
      refine to_c (pc := 22) rw_212_22 (x := (0 : Int32)) rfl rfl ?_
      refine s_r1 (pc := 23) rw_212_23 (A := 0) rfl (by decide) ?_
      have k_284 : (0 : Int32).toInt = 0 := rfl
      have c_285 : M273.2.1 77 4 = (2 : Int32) := (W_n W272 (by decide) (W_e W267))
      have k_286 : (2 : Int32).toInt = 2 := rfl
      have t_287 : (M273.2.1 77 4).toInt = (2 : Int32).toInt := congrArg Int32.toInt c_285
      have c_288 : M273.2.1 77 5 = (M.2.1 77 10) := (W_e W272)
      have t_289 : (M273.2.1 77 5).toInt = (M.2.1 77 10).toInt := congrArg Int32.toInt c_288
      exact h (0 : Int32) M273 hG274 F275 (by decide) (by decide) (by omega) (fun z => by exfalso; omega) (fun z => absurd z (by decide)) (fun i hi => (W_n W272 (by omega) (W_n W267 (by omega) rfl))) (fun i hi => (W_j W272 (W_j W267 rfl))) (fun z => absurd z (by decide)) (fun _ k9 => winl (by omega) (by omega) ((p_ndn (by omega)).trans (p_nb2 (by omega) (by omega))))
    · refine to_an (pc := 22) rw_162_22 rfl ?_
      refine tt_gI (pc := 23) rw_162_23 (g_o hG rfl) (v := (M.2.1 77 9)) rfl ?_
      refine to_in (pc := 26) rw_162_26 rfl ?_
      refine b_cle (pc := 27) rw_162_27 (A := (M.2.1 77 9).toInt) (B := v264.toInt) rfl rfl (fun h290 => ?_) (fun h290 => ?_)
      · refine to_c (pc := 38) rw_162_38 (x := (1 : Int32)) rfl rfl ?_
        refine to_go (pc := 39) rw_162_39 ?_
        refine s_r1 (pc := 43) rw_162_43 (A := 1) rfl (by decide) ?_
        refine b_ine_t (pc := 19) rw_212_19 (A := 1) rfl (by decide) ?_
        have z_291 := RS_3 q3 (a := a) (by omega) (by omega) (by omega)
        refine to_an (pc := 24) rw_212_24 rfl ?_
        refine s_gR (pc := 25) rw_212_25 hG rfl (v := 106) rfl ?_
        refine to_in (pc := 28) rw_212_28 rfl ?_
        refine to_dup2 (pc := 29) rw_212_29 ?_
        refine s_lalE (pc := 30) rw_212_30 hG rfl (n := 40) rfl (A := e.toInt) rfl (by omega) (by omega) (fun l292 w_293 => ?_)
        have z_294 : l292 = M.2.2.1 106 (e.toInt).toNat := (w_293).symm.trans (rfl)
        refine to_cl (pc := 31) rw_212_31 rfl (x := (1 : Int64)) rfl ?_
        refine to_an (pc := 32) rw_212_32 rfl ?_
        refine tt_gI (pc := 33) rw_212_33 (g_o hG rfl) (v := (M.2.1 77 9)) rfl ?_
        refine to_2s (pc := 36) rw_212_36 (v := ((1 : Int64) <<< ((M.2.1 77 9).toInt64 &&& 63))) rfl ?_
        refine to_2l (pc := 37) rw_212_37 (v := (l292 ||| ((1 : Int64) <<< ((M.2.1 77 9).toInt64 &&& 63)))) rfl ?_
        refine s_las (pc := 38) rw_212_38 hG rfl (n := 40) rfl (A := e.toInt) rfl (by omega) (by omega) (fun M296 W295 => ?_)
        have hG297 := g_wl hG W295
        have F298 := FR.wl F0 W295 (show 106 = 77 ∧ ((e.toInt).toNat = 4 ∨ (e.toInt).toNat = 5 ∨ 7 ≤ (e.toInt).toNat ∧ (e.toInt).toNat ≤ 10) ∨ 106 = 106 ∨ 106 = 107 by omega)
        refine to_an (pc := 39) rw_212_39 rfl ?_
        refine s_v (pc := 40) rw_212_40 (dp0 hd (by decide)) (ls0 := [.ref 77]) rfl (Nat.le_of_ble_eq_true rfl) (Nat.le_of_ble_eq_true rfl) rfl (to_rc rfl rfl rfl (g_o hG297 rfl)) rfl ?_
        have c_299 : M296.2.1 77 7 = (M.2.1 77 7) := (W_l W295 rfl)
        have t_300 : (M296.2.1 77 7).toInt = (M.2.1 77 7).toInt := congrArg Int32.toInt c_299
        have c_301 : M296.2.1 77 6 = (M.2.1 77 6) := (W_l W295 rfl)
        have t_302 : (M296.2.1 77 6).toInt = (M.2.1 77 6).toInt := congrArg Int32.toInt c_301
        have c_303 : M296.2.1 77 10 = (M.2.1 77 10) := (W_l W295 rfl)
        have t_304 : (M296.2.1 77 10).toInt = (M.2.1 77 10).toInt := congrArg Int32.toInt c_303
        have j_305 := (RS_f (fun a i z => W_l W295 rfl) q3)
        have z_306 := RS_b j_305 (a := a) (by omega)
        have j_307 := (TR_f (fun a i z => W_l W295 rfl) q7)
        have j_308 := (W9_f (fun a i z => W_l W295 rfl) q8)
        refine E_156 hX (dp1 hd (by decide)) hG297 (by omega) (by omega) (by omega) (by omega) j_307 j_308  (fun M315 hG310 F309 p_311 p_312 p_313 p_314 => ?_)
        have F316 := FR.c F298 F309 tg_176
        have b_317 := g_b hG310 (a := 77) (i := 7) (lo := 0) (hi := 500) rfl rfl
        have c_318 : M315.2.1 77 6 = (M.2.1 77 6) := (F_n F309 (show ¬ (77 = 77 ∧ 7 ≤ 6 ∧ 6 ≤ 10) by decide) c_301)
        have t_319 : (M315.2.1 77 6).toInt = (M.2.1 77 6).toInt := congrArg Int32.toInt c_318
        have b_320 := g_b hG310 (a := 77) (i := 8) (lo := 0) (hi := 5) rfl rfl
        have b_321 := g_b hG310 (a := 77) (i := 10) (lo := 0) (hi := 500) rfl rfl
        have z_322 := RS_s p_314.2 (a := a) (by omega)
        refine to_c (pc := 43) rw_212_43 (x := (1 : Int32)) rfl rfl ?_
        refine s_r1 (pc := 44) rw_212_44 (A := 1) rfl (by decide) ?_
        have k_323 : (1 : Int32).toInt = 1 := rfl
        have z_324 := x_ns_lt (t := t) (nn := nn) (a := a) (by omega) (x_lt_k (t := t) (by omega) (by omega))
        exact h (1 : Int32) M315 hG310 F316 (by decide) (by decide) (by omega) (fun _ => p_314.1) (fun _ => (fun q9 => ⟨(nw_b (b := x_bit (M.2.1 77 9).toInt) ((F_n F309 (show ¬ (107 = 77 ∧ 7 ≤ (e.toInt).toNat ∧ (e.toInt).toNat ≤ 10) by omega) (W_l W295 rfl))) ((((F_nl F309 (show ¬ (106 = 77 ∧ 7 ≤ (e.toInt).toNat ∧ (e.toInt).toNat ≤ 10) by omega) rfl)).trans (L_e W295)).trans (by rw [z_294, x_bit_e (v := (M.2.1 77 9)) rfl]))).trans (by rw [← q9.1]), by rw [q9.2]; omega⟩) (x_nb_n (t := t) (nn := nn) (s := sg) (C := C9) (g := a) (by omega) (b := (M.2.1 77 9).toInt) (by omega))) (fun i hi => (F_n F309 (show ¬ (107 = 77 ∧ 7 ≤ i ∧ i ≤ 10) by omega) (W_l W295 rfl))) (fun i hi => (F_nl F309 (show ¬ (106 = 77 ∧ 7 ≤ i ∧ i ≤ 10) by omega) (L_n W295 (by omega) rfl))) (fun _ k9 => by rw [show (M315.2.1 77 10).toInt = (x_ns t nn a) by omega]; exact (p_ndn (by omega)).trans (p_nb (by omega) (by omega))) (fun z => absurd z (by decide))
      · refine to_an (pc := 30) rw_162_30 rfl ?_
        refine to_c (pc := 31) rw_162_31 (x := (2 : Int32)) rfl rfl ?_
        refine s_v (pc := 32) rw_162_32 (dp1 hd (by decide)) (ls0 := [.ref 77, .int (2 : Int32)]) rfl (Nat.le_of_ble_eq_true rfl) (Nat.le_of_ble_eq_true rfl) rfl (to_rc rfl rfl rfl (g_o hG rfl)) rfl ?_
        refine to_an (pc := 0) rw_152_0 rfl ?_
        refine to_in (pc := 1) rw_152_1 rfl ?_
        refine s_pI (pc := 2) rw_152_2 hG rfl (fun M326 W325 => ?_)
        have hG327 := g_wf hG W325 rfl rfl (by decide)
        have F328 := FR.w F0 W325 (show 77 = 77 ∧ (4 = 4 ∨ 4 = 5 ∨ 7 ≤ 4 ∧ 4 ≤ 10) ∨ 77 = 106 ∨ 77 = 107 by decide)
        refine to_an (pc := 5) rw_152_5 rfl ?_
        refine to_an (pc := 6) rw_152_6 rfl ?_
        have c_329 : M326.2.1 77 10 = (M.2.1 77 10) := (W_n W325 (by decide) rfl)
        refine tt_gI (pc := 7) rw_152_7 (g_o hG327 rfl) (v := (M.2.1 77 10)) c_329 ?_
        refine s_pI (pc := 10) rw_152_10 hG327 rfl (fun M331 W330 => ?_)
        have hG332 := g_wf hG327 W330 rfl rfl (by decide)
        have F333 := FR.w F328 W330 (show 77 = 77 ∧ (5 = 4 ∨ 5 = 5 ∨ 7 ≤ 5 ∧ 5 ≤ 10) ∨ 77 = 106 ∨ 77 = 107 by decide)
        refine to_c (pc := 13) rw_152_13 (x := (0 : Int32)) rfl rfl ?_
        refine s_r1 (pc := 14) rw_152_14 (A := 0) rfl (by decide) ?_
        refine b_ieq_t (pc := 35) rw_162_35 (A := 0) rfl (by decide) ?_
        refine to_c (pc := 42) rw_162_42 (x := (0 : Int32)) rfl rfl ?_
        refine s_r1 (pc := 43) rw_162_43 (A := 0) rfl (by decide) ?_
        refine b_ine_f (pc := 19) rw_212_19 (A := 0) rfl (by decide) ?_
        have c_334 : M331.2.1 77 8 = (M.2.1 77 8) := (W_n W330 (by decide) (W_n W325 (by decide) rfl))
        have t_335 : (M331.2.1 77 8).toInt = (M.2.1 77 8).toInt := congrArg Int32.toInt c_334
        have c_336 : M331.2.1 77 9 = (M.2.1 77 9) := (W_n W330 (by decide) (W_n W325 (by decide) rfl))
        have t_337 : (M331.2.1 77 9).toInt = (M.2.1 77 9).toInt := congrArg Int32.toInt c_336
        have c_338 : M331.2.1 77 10 = (M.2.1 77 10) := (W_n W330 (by decide) c_329)
        have t_339 : (M331.2.1 77 10).toInt = (M.2.1 77 10).toInt := congrArg Int32.toInt c_338
        have j_340 := (RS_f (fun a i z => W_n W330 (tg_37 a i z) rfl) (RS_f (fun a i z => W_n W325 (tg_38 a i z) rfl) q3))
        have z_341 := RS_3x j_340 (a := a) (m := sg.1 - 1) (by omega) (by omega) (by omega) (by omega)
        refine to_c (pc := 22) rw_212_22 (x := (0 : Int32)) rfl rfl ?_
        refine s_r1 (pc := 23) rw_212_23 (A := 0) rfl (by decide) ?_
        have k_342 : (0 : Int32).toInt = 0 := rfl
        have c_343 : M331.2.1 77 4 = (2 : Int32) := (W_n W330 (by decide) (W_e W325))
        have k_344 : (2 : Int32).toInt = 2 := rfl
        have t_345 : (M331.2.1 77 4).toInt = (2 : Int32).toInt := congrArg Int32.toInt c_343
        have c_346 : M331.2.1 77 5 = (M.2.1 77 10) := (W_e W330)
        have t_347 : (M331.2.1 77 5).toInt = (M.2.1 77 10).toInt := congrArg Int32.toInt c_346
        exact h (0 : Int32) M331 hG332 F333 (by decide) (by decide) (by omega) (fun z => by exfalso; omega) (fun z => absurd z (by decide)) (fun i hi => (W_n W330 (by omega) (W_n W325 (by omega) rfl))) (fun i hi => (W_j W330 (W_j W325 rfl))) (fun z => absurd z (by decide)) (fun _ k9 => winl (by omega) (by omega) ((p_ndn (by omega)).trans (p_nb2 (by omega) (by omega))))
