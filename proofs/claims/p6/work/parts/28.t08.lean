theorem tg_156 {M M1 : mm_M} (F : FR (fun a i : Nat => a = 77 ∧ 7 ≤ i ∧ i ≤ 10) M M1) : ∀ a i : Nat, (a = 77 ∧ 11 ≤ i ∧ i ≤ 13 ∨ 80 ≤ a ∧ a ≤ 84 ∧ i < 8 ∨ 85 ≤ a ∧ a ≤ 86 ∧ i < 12) → M1.2.1 a i = M.2.1 a i := fun a i z => F_n F (show ¬ (a = 77 ∧ 7 ≤ i ∧ i ≤ 10) by omega) rfl
theorem tg_157 : ∀ a i : Nat, (a < 0) → (a = 77 ∧ (i = 4 ∨ i = 5 ∨ 7 ≤ i ∧ i ≤ 10) ∨ a = 106 ∨ a = 107) := fun a i z => by omega
theorem tg_158 : ∀ a i : Nat, (a = 77 ∧ 7 ≤ i ∧ i ≤ 10) → (a = 77 ∧ (i = 4 ∨ i = 5 ∨ 7 ≤ i ∧ i ≤ 10) ∨ a = 106 ∨ a = 107) := fun a i z => by omega
theorem tg_159 : ∀ a i j : Nat, (a = 77 ∧ 6 ≤ i ∧ i ≤ 10) → ¬ (a = 107 ∧ i = j) := fun a i j z => by omega
set_option maxRecDepth 4000 in
set_option maxHeartbeats 0 in
theorem E_161 {X : mm_X} {d : Nat} {M : mm_M} {Q : Option Value → mm_M → Prop} {c : Int32} {t : Nat → Int} {nn : Int} {a : Int} (hX : g_X X) (hd : 2 ≤ d) (hG : g_G M) (q1 : RS M t nn) (q2 : (M.2.1 77 10).toInt = a) (q3 : 0 ≤ nn) (q4 : nn ≤ 500) (q5 : TR M t nn) (q6 : W9 M) (q7 : 0 ≤ c.toInt) (q8 : c.toInt ≤ 14) (h : ∀ (r : Int32) (M1 : mm_M), g_G M1 → FR md_tw M M1 → (0 ≤ r.toInt) → (r.toInt ≤ 1) → RS M1 t nn → (r.toInt = 1 → (x_kind t nn a = 1 ∧ x_kx (x_val t nn a) = c.toInt) ∧ (M1.2.1 77 10).toInt = x_ns t nn a) → (r.toInt = 0 → ¬ (x_kind t nn a = 1 ∧ x_kx (x_val t nn a) = c.toInt)) → (r.toInt = 0 → (M1.2.1 77 4).toInt = 1 ∧ (M1.2.1 77 5).toInt = a) → Q (some (.int r)) M1) : mm_T X d 160 0 [.ref 77, .int c] [] M Q := by
  have F0 : FR md_tw M M := FR.rf
  have b_1 := g_b hG (a := 77) (i := 10) (lo := 0) (hi := 500) rfl rfl
  have b_2 := g_b hG (a := 77) (i := 8) (lo := 0) (hi := 5) rfl rfl
  have c_3 := RS_u q1 (a := a) (by omega)
  unfold x_R at c_3
  have b_4 := g_b hG (a := 77) (i := 6) (lo := 0) (hi := 500) rfl rfl
  have b_5 := g_b hG (a := 77) (i := 7) (lo := 0) (hi := 500) rfl rfl
  have z_6 := RS_b q1 (a := a) (by omega)
  refine to_an (pc := 0) rw_161_0 rfl ?_
  refine to_in (pc := 1) rw_161_1 rfl ?_
  refine s_v (pc := 2) rw_161_2 (dp0 hd (by decide)) (ls0 := [.ref 77, .int c]) rfl (Nat.le_of_ble_eq_true rfl) (Nat.le_of_ble_eq_true rfl) rfl (to_rc rfl rfl rfl (g_o hG rfl)) rfl ?_
  refine to_an (pc := 0) rw_158_0 rfl ?_
  refine tt_gI (pc := 1) rw_158_1 (g_o hG rfl) (v := (M.2.1 77 8)) rfl ?_
  refine to_c (pc := 4) rw_158_4 (x := (1 : Int32)) rfl rfl ?_
  refine b_cne (pc := 5) rw_158_5 (A := (M.2.1 77 8).toInt) (B := 1) rfl rfl (fun h7 => ?_) (fun h7 => ?_)
  · refine to_c (pc := 20) rw_158_20 (x := (0 : Int32)) rfl rfl ?_
    refine s_r1 (pc := 21) rw_158_21 (A := 0) rfl (by decide) ?_
    refine b_ine_f (pc := 5) rw_161_5 (A := 0) rfl (by decide) ?_
    refine to_an (pc := 8) rw_161_8 rfl ?_
    refine to_c (pc := 9) rw_161_9 (x := (1 : Int32)) rfl rfl ?_
    refine s_v (pc := 10) rw_161_10 (dp0 hd (by decide)) (ls0 := [.ref 77, .int (1 : Int32)]) rfl (Nat.le_of_ble_eq_true rfl) (Nat.le_of_ble_eq_true rfl) rfl (to_rc rfl rfl rfl (g_o hG rfl)) rfl ?_
    refine to_an (pc := 0) rw_152_0 rfl ?_
    refine to_in (pc := 1) rw_152_1 rfl ?_
    refine s_pI (pc := 2) rw_152_2 hG rfl (fun M9 W8 => ?_)
    have hG10 := g_wf hG W8 rfl rfl (by decide)
    have F11 := FR.w F0 W8 (show 77 = 77 ∧ (4 = 4 ∨ 4 = 5 ∨ 7 ≤ 4 ∧ 4 ≤ 10) by decide)
    refine to_an (pc := 5) rw_152_5 rfl ?_
    refine to_an (pc := 6) rw_152_6 rfl ?_
    have c_12 : M9.2.1 77 10 = (M.2.1 77 10) := (W_n W8 (by decide) rfl)
    refine tt_gI (pc := 7) rw_152_7 (g_o hG10 rfl) (v := (M.2.1 77 10)) c_12 ?_
    refine s_pI (pc := 10) rw_152_10 hG10 rfl (fun M14 W13 => ?_)
    have hG15 := g_wf hG10 W13 rfl rfl (by decide)
    have F16 := FR.w F11 W13 (show 77 = 77 ∧ (5 = 4 ∨ 5 = 5 ∨ 7 ≤ 5 ∧ 5 ≤ 10) by decide)
    refine to_c (pc := 13) rw_152_13 (x := (0 : Int32)) rfl rfl ?_
    refine s_r1 (pc := 14) rw_152_14 (A := 0) rfl (by decide) ?_
    refine s_r1 (pc := 13) rw_161_13 (A := 0) rfl (by decide) ?_
    have k_17 : (0 : Int32).toInt = 0 := rfl
    have j_18 := (RS_f (fun a i z => W_n W13 (tg_37 a i z) rfl) (RS_f (fun a i z => W_n W8 (tg_38 a i z) rfl) q1))
    have c_19 : M14.2.1 77 10 = (M.2.1 77 10) := (W_n W13 (by decide) c_12)
    have t_20 : (M14.2.1 77 10).toInt = (M.2.1 77 10).toInt := congrArg Int32.toInt c_19
    have c_21 : M14.2.1 77 4 = (1 : Int32) := (W_n W13 (by decide) (W_e W8))
    have k_22 : (1 : Int32).toInt = 1 := rfl
    have t_23 : (M14.2.1 77 4).toInt = (1 : Int32).toInt := congrArg Int32.toInt c_21
    have c_24 : M14.2.1 77 5 = (M.2.1 77 10) := (W_e W13)
    have t_25 : (M14.2.1 77 5).toInt = (M.2.1 77 10).toInt := congrArg Int32.toInt c_24
    exact h (0 : Int32) M14 hG15 F16 (by decide) (by decide) j_18 (by omega) (by omega) (by omega)
  · refine to_an (pc := 8) rw_158_8 rfl ?_
    refine tt_gI (pc := 9) rw_158_9 (g_o hG rfl) (v := (M.2.1 77 9)) rfl ?_
    refine to_in (pc := 12) rw_158_12 rfl ?_
    refine b_cne (pc := 13) rw_158_13 (A := (M.2.1 77 9).toInt) (B := c.toInt) rfl rfl (fun h26 => ?_) (fun h26 => ?_)
    · refine to_c (pc := 20) rw_158_20 (x := (0 : Int32)) rfl rfl ?_
      refine s_r1 (pc := 21) rw_158_21 (A := 0) rfl (by decide) ?_
      refine b_ine_f (pc := 5) rw_161_5 (A := 0) rfl (by decide) ?_
      refine to_an (pc := 8) rw_161_8 rfl ?_
      refine to_c (pc := 9) rw_161_9 (x := (1 : Int32)) rfl rfl ?_
      refine s_v (pc := 10) rw_161_10 (dp0 hd (by decide)) (ls0 := [.ref 77, .int (1 : Int32)]) rfl (Nat.le_of_ble_eq_true rfl) (Nat.le_of_ble_eq_true rfl) rfl (to_rc rfl rfl rfl (g_o hG rfl)) rfl ?_
      refine to_an (pc := 0) rw_152_0 rfl ?_
      refine to_in (pc := 1) rw_152_1 rfl ?_
      refine s_pI (pc := 2) rw_152_2 hG rfl (fun M28 W27 => ?_)
      have hG29 := g_wf hG W27 rfl rfl (by decide)
      have F30 := FR.w F0 W27 (show 77 = 77 ∧ (4 = 4 ∨ 4 = 5 ∨ 7 ≤ 4 ∧ 4 ≤ 10) by decide)
      refine to_an (pc := 5) rw_152_5 rfl ?_
      refine to_an (pc := 6) rw_152_6 rfl ?_
      have c_31 : M28.2.1 77 10 = (M.2.1 77 10) := (W_n W27 (by decide) rfl)
      refine tt_gI (pc := 7) rw_152_7 (g_o hG29 rfl) (v := (M.2.1 77 10)) c_31 ?_
      refine s_pI (pc := 10) rw_152_10 hG29 rfl (fun M33 W32 => ?_)
      have hG34 := g_wf hG29 W32 rfl rfl (by decide)
      have F35 := FR.w F30 W32 (show 77 = 77 ∧ (5 = 4 ∨ 5 = 5 ∨ 7 ≤ 5 ∧ 5 ≤ 10) by decide)
      refine to_c (pc := 13) rw_152_13 (x := (0 : Int32)) rfl rfl ?_
      refine s_r1 (pc := 14) rw_152_14 (A := 0) rfl (by decide) ?_
      refine s_r1 (pc := 13) rw_161_13 (A := 0) rfl (by decide) ?_
      have k_36 : (0 : Int32).toInt = 0 := rfl
      have j_37 := (RS_f (fun a i z => W_n W32 (tg_37 a i z) rfl) (RS_f (fun a i z => W_n W27 (tg_38 a i z) rfl) q1))
      have c_38 : M33.2.1 77 10 = (M.2.1 77 10) := (W_n W32 (by decide) c_31)
      have t_39 : (M33.2.1 77 10).toInt = (M.2.1 77 10).toInt := congrArg Int32.toInt c_38
      have c_40 : M33.2.1 77 4 = (1 : Int32) := (W_n W32 (by decide) (W_e W27))
      have k_41 : (1 : Int32).toInt = 1 := rfl
      have t_42 : (M33.2.1 77 4).toInt = (1 : Int32).toInt := congrArg Int32.toInt c_40
      have c_43 : M33.2.1 77 5 = (M.2.1 77 10) := (W_e W32)
      have t_44 : (M33.2.1 77 5).toInt = (M.2.1 77 10).toInt := congrArg Int32.toInt c_43
      exact h (0 : Int32) M33 hG34 F35 (by decide) (by decide) j_37 (by omega) (by omega) (by omega)
    · refine to_c (pc := 16) rw_158_16 (x := (1 : Int32)) rfl rfl ?_
      refine to_go (pc := 17) rw_158_17 ?_
      refine s_r1 (pc := 21) rw_158_21 (A := 1) rfl (by decide) ?_
      refine b_ine_t (pc := 5) rw_161_5 (A := 1) rfl (by decide) ?_
      refine to_an (pc := 14) rw_161_14 rfl ?_
      refine s_v (pc := 15) rw_161_15 (dp0 hd (by decide)) (ls0 := [.ref 77]) rfl (Nat.le_of_ble_eq_true rfl) (Nat.le_of_ble_eq_true rfl) rfl (to_rc rfl rfl rfl (g_o hG rfl)) rfl ?_
      have z_45 := RS_b q1 (a := a) (by omega)
      refine E_156 hX (dp1 hd (by decide)) hG (by omega) (by omega) (by omega) (by omega) q5 q6  (fun M52 hG47 F46 p_48 p_49 p_50 p_51 => ?_)
      have F53 := FR.c F0 F46 tg_35
      have b_54 := g_b hG47 (a := 77) (i := 7) (lo := 0) (hi := 500) rfl rfl
      have c_55 : M52.2.1 77 6 = (M.2.1 77 6) := (F_n F46 (show ¬ (77 = 77 ∧ 7 ≤ 6 ∧ 6 ≤ 10) by decide) rfl)
      have t_56 : (M52.2.1 77 6).toInt = (M.2.1 77 6).toInt := congrArg Int32.toInt c_55
      have b_57 := g_b hG47 (a := 77) (i := 8) (lo := 0) (hi := 5) rfl rfl
      have b_58 := g_b hG47 (a := 77) (i := 10) (lo := 0) (hi := 500) rfl rfl
      have z_59 := RS_s p_51.2 (a := a) (by omega)
      refine to_c (pc := 18) rw_161_18 (x := (1 : Int32)) rfl rfl ?_
      refine s_r1 (pc := 19) rw_161_19 (A := 1) rfl (by decide) ?_
      have k_60 : (1 : Int32).toInt = 1 := rfl
      have c_61 : M52.2.1 77 4 = (M.2.1 77 4) := (F_n F46 (show ¬ (77 = 77 ∧ 7 ≤ 4 ∧ 4 ≤ 10) by decide) rfl)
      have t_62 : (M52.2.1 77 4).toInt = (M.2.1 77 4).toInt := congrArg Int32.toInt c_61
      have c_63 : M52.2.1 77 5 = (M.2.1 77 5) := (F_n F46 (show ¬ (77 = 77 ∧ 7 ≤ 5 ∧ 5 ≤ 10) by decide) rfl)
      have t_64 : (M52.2.1 77 5).toInt = (M.2.1 77 5).toInt := congrArg Int32.toInt c_63
      exact h (1 : Int32) M52 hG47 F53 (by decide) (by decide) p_51.1 (by omega) (by omega) (by omega)
set_option maxRecDepth 4000 in
set_option maxHeartbeats 0 in
theorem E_211 {X : mm_X} {d : Nat} {M : mm_M} {Q : Option Value → mm_M → Prop} {t : Nat → Int} {nn : Int} {a : Int} (hX : g_X X) (hd : 1 ≤ d) (hG : g_G M) (q1 : RS M t nn) (q2 : (M.2.1 77 10).toInt = a) (h : ∀ (r : Int32) (M1 : mm_M), g_G M1 → FR md_wr2 M M1 → (-1 ≤ r.toInt) → (r.toInt ≤ 5) → (r.toInt = x_kp t nn a) → (r.toInt < 0 → (M1.2.1 77 4).toInt = 1 ∧ (M1.2.1 77 5).toInt = a) → Q (some (.int r)) M1) : mm_T X d 210 0 [.ref 77, .null, .null] [] M Q := by
  have F0 : FR md_wr2 M M := FR.rf
  have b_1 := g_b hG (a := 77) (i := 10) (lo := 0) (hi := 500) rfl rfl
  have b_2 := g_b hG (a := 77) (i := 8) (lo := 0) (hi := 5) rfl rfl
  have c_3 := RS_u q1 (a := a) (by omega)
  unfold x_R at c_3
  refine to_an (pc := 0) rw_211_0 rfl ?_
  refine tt_gI (pc := 1) rw_211_1 (g_o hG rfl) (v := (M.2.1 77 8)) rfl ?_
  refine to_c (pc := 4) rw_211_4 (x := (2 : Int32)) rfl rfl ?_
  refine b_cne (pc := 5) rw_211_5 (A := (M.2.1 77 8).toInt) (B := 2) rfl rfl (fun h4 => ?_) (fun h4 => ?_)
  · refine to_c (pc := 31) rw_211_31 (x := (-1 : Int32)) rfl rfl ?_
    refine to_isn (pc := 32) rw_211_32 (ls2 := [.ref 77, .int (-1 : Int32), .null]) rfl rfl ?_
    refine to_in (pc := 33) rw_211_33 rfl ?_
    refine b_ilt_t (pc := 34) rw_211_34 (A := -1) rfl (by decide) ?_
    refine to_an (pc := 42) rw_211_42 rfl ?_
    refine to_c (pc := 43) rw_211_43 (x := (1 : Int32)) rfl rfl ?_
    refine s_v (pc := 44) rw_211_44 (dp0 hd (by decide)) (ls0 := [.ref 77, .int (1 : Int32)]) rfl (Nat.le_of_ble_eq_true rfl) (Nat.le_of_ble_eq_true rfl) rfl (to_rc rfl rfl rfl (g_o hG rfl)) rfl ?_
    refine to_an (pc := 0) rw_152_0 rfl ?_
    refine to_in (pc := 1) rw_152_1 rfl ?_
    refine s_pI (pc := 2) rw_152_2 hG rfl (fun M6 W5 => ?_)
    have hG7 := g_wf hG W5 rfl rfl (by decide)
    have F8 := FR.w F0 W5 (show 77 = 77 ∧ (4 = 4 ∨ 4 = 5) by decide)
    refine to_an (pc := 5) rw_152_5 rfl ?_
    refine to_an (pc := 6) rw_152_6 rfl ?_
    have c_9 : M6.2.1 77 10 = (M.2.1 77 10) := (W_n W5 (by decide) rfl)
    refine tt_gI (pc := 7) rw_152_7 (g_o hG7 rfl) (v := (M.2.1 77 10)) c_9 ?_
    refine s_pI (pc := 10) rw_152_10 hG7 rfl (fun M11 W10 => ?_)
    have hG12 := g_wf hG7 W10 rfl rfl (by decide)
    have F13 := FR.w F8 W10 (show 77 = 77 ∧ (5 = 4 ∨ 5 = 5) by decide)
    refine to_c (pc := 13) rw_152_13 (x := (0 : Int32)) rfl rfl ?_
    refine s_r1 (pc := 14) rw_152_14 (A := 0) rfl (by decide) ?_
    refine to_isn (pc := 47) rw_211_47 (ls2 := [.ref 77, .int (-1 : Int32), .int (0 : Int32)]) rfl rfl ?_
    refine to_c (pc := 48) rw_211_48 (x := (-1 : Int32)) rfl rfl ?_
    refine to_r0 (pc := 49) rw_211_49 ?_
    have k_14 : (-1 : Int32).toInt = -1 := rfl
    have z_15 := x_pk_n (t := t) (nn := nn) (a := a) (by omega)
    have c_16 : M11.2.1 77 4 = (1 : Int32) := (W_n W10 (by decide) (W_e W5))
    have k_17 : (1 : Int32).toInt = 1 := rfl
    have t_18 : (M11.2.1 77 4).toInt = (1 : Int32).toInt := congrArg Int32.toInt c_16
    have c_19 : M11.2.1 77 5 = (M.2.1 77 10) := (W_e W10)
    have t_20 : (M11.2.1 77 5).toInt = (M.2.1 77 10).toInt := congrArg Int32.toInt c_19
    exact h (-1 : Int32) M11 hG12 F13 (by omega) (by omega) (by omega) (by omega)
  · refine to_an (pc := 8) rw_211_8 rfl ?_
    refine tt_gI (pc := 9) rw_211_9 (g_o hG rfl) (v := (M.2.1 77 9)) rfl ?_
    refine to_c (pc := 12) rw_211_12 (x := (33554431 : Int32)) rfl rfl ?_
    refine s_and (pc := 15) rw_211_15 (B := 33554431) rfl (by omega) (fun v21 e22 _ _ => ?_)
    have z_23 := i_and25 e22
    refine b_ine (pc := 16) rw_211_16 (A := v21.toInt) rfl (fun h24 => ?_) (fun h24 => ?_)
    · refine to_c (pc := 31) rw_211_31 (x := (-1 : Int32)) rfl rfl ?_
      refine to_isn (pc := 32) rw_211_32 (ls2 := [.ref 77, .int (-1 : Int32), .null]) rfl rfl ?_
      refine to_in (pc := 33) rw_211_33 rfl ?_
      refine b_ilt_t (pc := 34) rw_211_34 (A := -1) rfl (by decide) ?_
      refine to_an (pc := 42) rw_211_42 rfl ?_
      refine to_c (pc := 43) rw_211_43 (x := (1 : Int32)) rfl rfl ?_
      refine s_v (pc := 44) rw_211_44 (dp0 hd (by decide)) (ls0 := [.ref 77, .int (1 : Int32)]) rfl (Nat.le_of_ble_eq_true rfl) (Nat.le_of_ble_eq_true rfl) rfl (to_rc rfl rfl rfl (g_o hG rfl)) rfl ?_
      refine to_an (pc := 0) rw_152_0 rfl ?_
      refine to_in (pc := 1) rw_152_1 rfl ?_
      refine s_pI (pc := 2) rw_152_2 hG rfl (fun M26 W25 => ?_)
      have hG27 := g_wf hG W25 rfl rfl (by decide)
      have F28 := FR.w F0 W25 (show 77 = 77 ∧ (4 = 4 ∨ 4 = 5) by decide)
      refine to_an (pc := 5) rw_152_5 rfl ?_
      refine to_an (pc := 6) rw_152_6 rfl ?_
      have c_29 : M26.2.1 77 10 = (M.2.1 77 10) := (W_n W25 (by decide) rfl)
      refine tt_gI (pc := 7) rw_152_7 (g_o hG27 rfl) (v := (M.2.1 77 10)) c_29 ?_
      refine s_pI (pc := 10) rw_152_10 hG27 rfl (fun M31 W30 => ?_)
      have hG32 := g_wf hG27 W30 rfl rfl (by decide)
      have F33 := FR.w F28 W30 (show 77 = 77 ∧ (5 = 4 ∨ 5 = 5) by decide)
      refine to_c (pc := 13) rw_152_13 (x := (0 : Int32)) rfl rfl ?_
      refine s_r1 (pc := 14) rw_152_14 (A := 0) rfl (by decide) ?_
      refine to_isn (pc := 47) rw_211_47 (ls2 := [.ref 77, .int (-1 : Int32), .int (0 : Int32)]) rfl rfl ?_
      refine to_c (pc := 48) rw_211_48 (x := (-1 : Int32)) rfl rfl ?_
      refine to_r0 (pc := 49) rw_211_49 ?_
      have k_34 : (-1 : Int32).toInt = -1 := rfl
      have z_35 := x_pk_n (t := t) (nn := nn) (a := a) (by omega)
      have c_36 : M31.2.1 77 4 = (1 : Int32) := (W_n W30 (by decide) (W_e W25))
      have k_37 : (1 : Int32).toInt = 1 := rfl
      have t_38 : (M31.2.1 77 4).toInt = (1 : Int32).toInt := congrArg Int32.toInt c_36
      have c_39 : M31.2.1 77 5 = (M.2.1 77 10) := (W_e W30)
      have t_40 : (M31.2.1 77 5).toInt = (M.2.1 77 10).toInt := congrArg Int32.toInt c_39
      exact h (-1 : Int32) M31 hG32 F33 (by omega) (by omega) (by omega) (by omega)
    · refine to_an (pc := 19) rw_211_19 rfl ?_
      refine tt_gI (pc := 20) rw_211_20 (g_o hG rfl) (v := (M.2.1 77 9)) rfl ?_
      refine to_c (pc := 23) rw_211_23 (x := (25 : Int32)) rfl rfl ?_
      refine s_opE (pc := 25) rw_211_25 (w := (M.2.1 77 9) >>> (25 : Int32)) rfl (fun v41 e42 => ?_)
      have z_43 := i_shr25 e42
      have z_44 := i_of (x := (M.2.1 77 9))
      refine to_c (pc := 26) rw_211_26 (x := (1 : Int32)) rfl rfl ?_
      refine s_sub (pc := 27) rw_211_27 (A := v41.toInt) (B := 1) rfl rfl (by omega) (fun v45 e46 => ?_)
      refine to_go (pc := 28) rw_211_28 ?_
      refine to_isn (pc := 32) rw_211_32 (ls2 := [.ref 77, .int v45, .null]) rfl rfl ?_
      refine to_in (pc := 33) rw_211_33 rfl ?_
      refine b_ilt (pc := 34) rw_211_34 (A := v45.toInt) rfl (fun h47 => ?_) (fun h47 => ?_)
      · refine to_an (pc := 42) rw_211_42 rfl ?_
        refine to_c (pc := 43) rw_211_43 (x := (1 : Int32)) rfl rfl ?_
        refine s_v (pc := 44) rw_211_44 (dp0 hd (by decide)) (ls0 := [.ref 77, .int (1 : Int32)]) rfl (Nat.le_of_ble_eq_true rfl) (Nat.le_of_ble_eq_true rfl) rfl (to_rc rfl rfl rfl (g_o hG rfl)) rfl ?_
        refine to_an (pc := 0) rw_152_0 rfl ?_
        refine to_in (pc := 1) rw_152_1 rfl ?_
        refine s_pI (pc := 2) rw_152_2 hG rfl (fun M49 W48 => ?_)
        have hG50 := g_wf hG W48 rfl rfl (by decide)
        have F51 := FR.w F0 W48 (show 77 = 77 ∧ (4 = 4 ∨ 4 = 5) by decide)
        refine to_an (pc := 5) rw_152_5 rfl ?_
        refine to_an (pc := 6) rw_152_6 rfl ?_
        have c_52 : M49.2.1 77 10 = (M.2.1 77 10) := (W_n W48 (by decide) rfl)
        refine tt_gI (pc := 7) rw_152_7 (g_o hG50 rfl) (v := (M.2.1 77 10)) c_52 ?_
        refine s_pI (pc := 10) rw_152_10 hG50 rfl (fun M54 W53 => ?_)
        have hG55 := g_wf hG50 W53 rfl rfl (by decide)
        have F56 := FR.w F51 W53 (show 77 = 77 ∧ (5 = 4 ∨ 5 = 5) by decide)
        refine to_c (pc := 13) rw_152_13 (x := (0 : Int32)) rfl rfl ?_
        refine s_r1 (pc := 14) rw_152_14 (A := 0) rfl (by decide) ?_
        refine to_isn (pc := 47) rw_211_47 (ls2 := [.ref 77, .int v45, .int (0 : Int32)]) rfl rfl ?_
        refine to_c (pc := 48) rw_211_48 (x := (-1 : Int32)) rfl rfl ?_
        refine to_r0 (pc := 49) rw_211_49 ?_
        have k_57 : (-1 : Int32).toInt = -1 := rfl
        have z_58 := x_pk_n (t := t) (nn := nn) (a := a) (by omega)
        have c_59 : M54.2.1 77 4 = (1 : Int32) := (W_n W53 (by decide) (W_e W48))
        have k_60 : (1 : Int32).toInt = 1 := rfl
        have t_61 : (M54.2.1 77 4).toInt = (1 : Int32).toInt := congrArg Int32.toInt c_59
        have c_62 : M54.2.1 77 5 = (M.2.1 77 10) := (W_e W53)
        have t_63 : (M54.2.1 77 5).toInt = (M.2.1 77 10).toInt := congrArg Int32.toInt c_62
        exact h (-1 : Int32) M54 hG55 F56 (by omega) (by omega) (by omega) (by omega)
      · refine to_in (pc := 37) rw_211_37 rfl ?_
        refine to_c (pc := 38) rw_211_38 (x := (5 : Int32)) rfl rfl ?_
        refine b_cle (pc := 39) rw_211_39 (A := v45.toInt) (B := 5) rfl rfl (fun h64 => ?_) (fun h64 => ?_)
        · refine to_in (pc := 50) rw_211_50 rfl ?_
          refine to_r0 (pc := 51) rw_211_51 ?_
          have z_65 := x_pk_y (t := t) (nn := nn) (a := a) (l := v41.toInt) (by omega) (by omega) (by omega) (by omega)
          exact h v45 M hG F0 (by omega) (by omega) (by omega) (by omega)
        · refine to_an (pc := 42) rw_211_42 rfl ?_
          refine to_c (pc := 43) rw_211_43 (x := (1 : Int32)) rfl rfl ?_
          refine s_v (pc := 44) rw_211_44 (dp0 hd (by decide)) (ls0 := [.ref 77, .int (1 : Int32)]) rfl (Nat.le_of_ble_eq_true rfl) (Nat.le_of_ble_eq_true rfl) rfl (to_rc rfl rfl rfl (g_o hG rfl)) rfl ?_
          refine to_an (pc := 0) rw_152_0 rfl ?_
          refine to_in (pc := 1) rw_152_1 rfl ?_
          refine s_pI (pc := 2) rw_152_2 hG rfl (fun M67 W66 => ?_)
          have hG68 := g_wf hG W66 rfl rfl (by decide)
          have F69 := FR.w F0 W66 (show 77 = 77 ∧ (4 = 4 ∨ 4 = 5) by decide)
          refine to_an (pc := 5) rw_152_5 rfl ?_
          refine to_an (pc := 6) rw_152_6 rfl ?_
          have c_70 : M67.2.1 77 10 = (M.2.1 77 10) := (W_n W66 (by decide) rfl)
          refine tt_gI (pc := 7) rw_152_7 (g_o hG68 rfl) (v := (M.2.1 77 10)) c_70 ?_
          refine s_pI (pc := 10) rw_152_10 hG68 rfl (fun M72 W71 => ?_)
          have hG73 := g_wf hG68 W71 rfl rfl (by decide)
          have F74 := FR.w F69 W71 (show 77 = 77 ∧ (5 = 4 ∨ 5 = 5) by decide)
          refine to_c (pc := 13) rw_152_13 (x := (0 : Int32)) rfl rfl ?_
          refine s_r1 (pc := 14) rw_152_14 (A := 0) rfl (by decide) ?_
          refine to_isn (pc := 47) rw_211_47 (ls2 := [.ref 77, .int v45, .int (0 : Int32)]) rfl rfl ?_
          refine to_c (pc := 48) rw_211_48 (x := (-1 : Int32)) rfl rfl ?_
          refine to_r0 (pc := 49) rw_211_49 ?_
          have k_75 : (-1 : Int32).toInt = -1 := rfl
          have z_76 := x_pk_n (t := t) (nn := nn) (a := a) (by omega)
          have c_77 : M72.2.1 77 4 = (1 : Int32) := (W_n W71 (by decide) (W_e W66))
          have k_78 : (1 : Int32).toInt = 1 := rfl
          have t_79 : (M72.2.1 77 4).toInt = (1 : Int32).toInt := congrArg Int32.toInt c_77
          have c_80 : M72.2.1 77 5 = (M.2.1 77 10) := (W_e W71)
          have t_81 : (M72.2.1 77 5).toInt = (M.2.1 77 10).toInt := congrArg Int32.toInt c_80
          exact h (-1 : Int32) M72 hG73 F74 (by omega) (by omega) (by omega) (by omega)
set_option maxRecDepth 4000 in
set_option maxHeartbeats 0 in
theorem E_212 {X : mm_X} {d : Nat} {M : mm_M} {Q : Option Value → mm_M → Prop} {e : Int32} {t : Nat → Int} {nn : Int} {a : Int} {sg : x_S} (hX : g_X X) (hd : 2 ≤ d) (hG : g_G M) (q1 : 0 ≤ e.toInt) (q2 : e.toInt ≤ 39) (q3 : RS M t nn) (q4 : (M.2.1 77 10).toInt = a) (q5 : 0 ≤ nn) (q6 : nn ≤ 500) (q7 : TR M t nn) (q8 : W9 M) (q9 : PLk M sg) (q10 : x_kind t nn a = 2 ∨ x_kind t nn a = 3) (h : ∀ (r : Int32) (M1 : mm_M), g_G M1 → FR md_ho M M1 → (0 ≤ r.toInt) → (r.toInt ≤ 1) → (r.toInt = 1 → a < (M1.2.1 77 10).toInt) → ((r.toInt = 1 → RS M1 t nn)) → ((r.toInt = 1 → ∀ k : Int → x_WR, x_wnd t nn sg a k = k (M1.2.1 77 10).toInt)) → ((r.toInt = 0 → ∀ k : Int → x_WR, x_wnd t nn sg a k = Sum.inl ((M1.2.1 77 4).toInt, (M1.2.1 77 5).toInt))) → Q (some (.int r)) M1) : mm_T X d 211 0 [.ref 77, .int e, .null, .null] [] M Q := by
  have F0 : FR md_ho M M := FR.rf
  have b_1 := g_b hG (a := 77) (i := 10) (lo := 0) (hi := 500) rfl rfl
  have b_2 := g_b hG (a := 77) (i := 8) (lo := 0) (hi := 5) rfl rfl
  have z_3 := RS_k q3 (a := a) (by omega)
  have z_4 := q9.2.1
  have z_5 := q9.2.2.1
  have z_6 := q9.2.2.2.1
  have z_7 := q9.1
  have z_8 := z_7.1
  have z_9 := z_7.2.1
  have z_10 := z_7.2.2.1
  have z_11 := z_7.2.2.2.1
  have z_12 := z_7.2.2.2.2.1
  have z_13 := z_7.2.2.2.2.2.1
  have b_14 := g_b hG (a := 77) (i := 11) (lo := 10) (hi := 60) rfl rfl
  have b_15 := g_b hG (a := 77) (i := 12) (lo := 0) (hi := 8) rfl rfl
  have b_16 := g_b hG (a := 77) (i := 13) (lo := 0) (hi := 12) rfl rfl
  have b_17 := g_b hG (a := 77) (i := 6) (lo := 0) (hi := 500) rfl rfl
  have b_18 := g_b hG (a := 77) (i := 7) (lo := 0) (hi := 500) rfl rfl
  have z_19 := RS_b q3 (a := a) (by omega)
  refine to_an (pc := 0) rw_212_0 rfl ?_
  refine tt_gI (pc := 1) rw_212_1 (g_o hG rfl) (v := (M.2.1 77 8)) rfl ?_
  refine to_c (pc := 4) rw_212_4 (x := (3 : Int32)) rfl rfl ?_
  refine b_cne (pc := 5) rw_212_5 (A := (M.2.1 77 8).toInt) (B := 3) rfl rfl (fun h20 => ?_) (fun h20 => ?_)
  · have z_21 := RS_2 q3 (a := a) (by omega) (by omega)
    refine to_an (pc := 45) rw_212_45 rfl ?_
    refine to_an (pc := 46) rw_212_46 rfl ?_
    refine tt_gI (pc := 47) rw_212_47 (g_o hG rfl) (v := (M.2.1 77 9)) rfl ?_
    refine s_v (pc := 50) rw_212_50 (dp0 hd (by decide)) (ls0 := [.ref 77, .int (M.2.1 77 9), .null]) rfl (Nat.le_of_ble_eq_true rfl) (Nat.le_of_ble_eq_true rfl) rfl (to_rc rfl rfl rfl (g_o hG rfl)) rfl ?_
    refine E_175 hX (dp1 hd (by decide)) hG q9 (n := (M.2.1 77 9)) (sg := sg) (fun r22 M28 hG24 F23 p_25 p_26 p_27 => ?_)
    have F29 := FR.c F0 F23 tg_157
    have z_30 := x_fn_v (s := sg) (r := 1) (v := (M.2.1 77 9).toInt) (w := x_val t nn a) (by omega)
    have j_31 := (PLk_f (tg_101 F23) q9)
    have z_32 := x_fn_b (s := sg) (v := x_val t nn a) j_31.1
    refine to_isn (pc := 53) rw_212_53 (ls2 := [.ref 77, .int e, .int r22, .null]) rfl rfl ?_
    refine to_an (pc := 54) rw_212_54 rfl ?_
    refine to_an (pc := 55) rw_212_55 rfl ?_
    have c_33 : M28.2.1 77 9 = (M.2.1 77 9) := (F_n F23 (show ¬ (77 < 0) by decide) rfl)
    refine tt_gI (pc := 56) rw_212_56 (g_o hG24 rfl) (v := (M.2.1 77 9)) c_33 ?_
    refine s_v (pc := 59) rw_212_59 (dp0 hd (by decide)) (ls0 := [.ref 77, .int (M.2.1 77 9), .null]) rfl (Nat.le_of_ble_eq_true rfl) (Nat.le_of_ble_eq_true rfl) rfl (to_rc rfl rfl rfl (g_o hG24 rfl)) rfl ?_
    refine E_176 hX (dp1 hd (by decide)) hG24 j_31 (n := (M.2.1 77 9)) (sg := sg) (fun r34 M40 hG36 F35 p_37 p_38 p_39 => ?_)
    have F41 := FR.c F29 F35 tg_157
    have z_42 := x_fn_v (s := sg) (r := 6) (v := (M.2.1 77 9).toInt) (w := x_val t nn a) (by omega)
    refine to_isn (pc := 62) rw_212_62 (ls2 := [.ref 77, .int e, .int r22, .int r34]) rfl rfl ?_
    refine to_in (pc := 63) rw_212_63 rfl ?_
    refine b_ige (pc := 64) rw_212_64 (A := r22.toInt) rfl (fun h43 => ?_) (fun h43 => ?_)
    · refine to_an (pc := 77) rw_212_77 rfl ?_
      refine s_v (pc := 78) rw_212_78 (dp0 hd (by decide)) (ls0 := [.ref 77]) rfl (Nat.le_of_ble_eq_true rfl) (Nat.le_of_ble_eq_true rfl) rfl (to_rc rfl rfl rfl (g_o hG36 rfl)) rfl ?_
      have c_44 : M40.2.1 77 7 = (M.2.1 77 7) := (F_n F35 (show ¬ (77 < 0) by decide) (F_n F23 (show ¬ (77 < 0) by decide) rfl))
      have t_45 : (M40.2.1 77 7).toInt = (M.2.1 77 7).toInt := congrArg Int32.toInt c_44
      have c_46 : M40.2.1 77 6 = (M.2.1 77 6) := (F_n F35 (show ¬ (77 < 0) by decide) (F_n F23 (show ¬ (77 < 0) by decide) rfl))
      have t_47 : (M40.2.1 77 6).toInt = (M.2.1 77 6).toInt := congrArg Int32.toInt c_46
      have c_48 : M40.2.1 77 10 = (M.2.1 77 10) := (F_n F35 (show ¬ (77 < 0) by decide) (F_n F23 (show ¬ (77 < 0) by decide) rfl))
      have t_49 : (M40.2.1 77 10).toInt = (M.2.1 77 10).toInt := congrArg Int32.toInt c_48
      have j_50 := (RS_f (tg_40 F35) (RS_f (tg_40 F23) q3))
      have z_51 := RS_b j_50 (a := a) (by omega)
      have j_52 := (TR_f (tg_9 F35) (TR_f (tg_9 F23) q7))
      have j_53 := (W9_f (tg_43 F35) (W9_f (tg_43 F23) q8))
      refine E_156 hX (dp1 hd (by decide)) hG36 (by omega) (by omega) (by omega) (by omega) j_52 j_53  (fun M60 hG55 F54 p_56 p_57 p_58 p_59 => ?_)
      have F61 := FR.c F41 F54 tg_158
      have b_62 := g_b hG55 (a := 77) (i := 7) (lo := 0) (hi := 500) rfl rfl
      have c_63 : M60.2.1 77 6 = (M.2.1 77 6) := (F_n F54 (show ¬ (77 = 77 ∧ 7 ≤ 6 ∧ 6 ≤ 10) by decide) c_46)
      have t_64 : (M60.2.1 77 6).toInt = (M.2.1 77 6).toInt := congrArg Int32.toInt c_63
      have b_65 := g_b hG55 (a := 77) (i := 8) (lo := 0) (hi := 5) rfl rfl
      have b_66 := g_b hG55 (a := 77) (i := 10) (lo := 0) (hi := 500) rfl rfl
      have z_67 := RS_s p_59.2 (a := a) (by omega)
      have z_68 := RS_k p_59.1 (a := (x_ns t nn a)) (by omega)
      refine to_in (pc := 81) rw_212_81 rfl ?_
      refine b_ilt (pc := 82) rw_212_82 (A := r34.toInt) rfl (fun h69 => ?_) (fun h69 => ?_)
      · refine to_an (pc := 99) rw_212_99 rfl ?_
        refine to_c (pc := 100) rw_212_100 (x := (0 : Int32)) rfl rfl ?_
        refine to_an (pc := 101) rw_212_101 rfl ?_
        refine s_gR (pc := 102) rw_212_102 hG55 rfl (v := 83) rfl ?_
        refine to_in (pc := 105) rw_212_105 rfl ?_
        refine s_ial (pc := 106) rw_212_106 hG55 rfl (n := 16) rfl rfl (A := r22.toInt) rfl (by omega) (by omega) (lo := 0) (hi := 63) rfl rfl (fun v70 w_71 _ _ => ?_)
        have j_72 := (PLk_f (tg_156 F54) (PLk_f (tg_101 F35) j_31))
        have z_73 := PLk_r j_72 4 83 rfl (by decide) (by decide) (k := r22.toInt) (by omega) (by omega) w_71
        have z_74 := x_row_v (s := sg) (r := 4) (x := r22.toInt) (y := x_fn sg 1 (x_val t nn a)) (by omega)
        have z_75 := j_72.1.2.2.2.2.2.2.2 (x_fn sg 1 (x_val t nn a)) (by omega) (by omega)
        refine to_an (pc := 107) rw_212_107 rfl ?_
        refine s_gR (pc := 108) rw_212_108 hG55 rfl (v := 82) rfl ?_
        refine to_in (pc := 111) rw_212_111 rfl ?_
        refine s_ial (pc := 112) rw_212_112 hG55 rfl (n := 16) rfl rfl (A := r22.toInt) rfl (by omega) (by omega) (lo := 0) (hi := 59) rfl rfl (fun v76 w_77 _ _ => ?_)
        have z_78 := PLk_r j_72 3 82 rfl (by decide) (by decide) (k := r22.toInt) (by omega) (by omega) w_77
        have z_79 := x_row_v (s := sg) (r := 3) (x := r22.toInt) (y := x_fn sg 1 (x_val t nn a)) (by omega)
        refine s_sub (pc := 113) rw_212_113 (A := v70.toInt) (B := v76.toInt) rfl rfl (by omega) (fun v80 e81 => ?_)
        refine s_v (pc := 114) rw_212_114 (dp0 hd (by decide)) (ls0 := [.ref 77, .int (0 : Int32), .int v80]) rfl (Nat.le_of_ble_eq_true rfl) (Nat.le_of_ble_eq_true rfl) rfl (to_rc rfl rfl rfl (g_o hG55 rfl)) rfl ?_
        refine to_an (pc := 0) rw_162_0 rfl ?_
        refine tt_gI (pc := 1) rw_162_1 (g_o hG55 rfl) (v := (M60.2.1 77 8)) rfl ?_
        refine to_c (pc := 4) rw_162_4 (x := (3 : Int32)) rfl rfl ?_
        refine b_ceq (pc := 5) rw_162_5 (A := (M60.2.1 77 8).toInt) (B := 3) rfl rfl (fun h82 => ?_) (fun h82 => ?_)
        · refine to_an (pc := 14) rw_162_14 rfl ?_
          refine tt_gI (pc := 15) rw_162_15 (g_o hG55 rfl) (v := (M60.2.1 77 9)) rfl ?_
          refine to_in (pc := 18) rw_162_18 rfl ?_
          refine b_clt (pc := 19) rw_162_19 (A := (M60.2.1 77 9).toInt) (B := 0) rfl rfl (fun h83 => ?_) (fun h83 => ?_)
          · refine to_an (pc := 30) rw_162_30 rfl ?_
            refine to_c (pc := 31) rw_162_31 (x := (2 : Int32)) rfl rfl ?_
            refine s_v (pc := 32) rw_162_32 (dp1 hd (by decide)) (ls0 := [.ref 77, .int (2 : Int32)]) rfl (Nat.le_of_ble_eq_true rfl) (Nat.le_of_ble_eq_true rfl) rfl (to_rc rfl rfl rfl (g_o hG55 rfl)) rfl ?_
            refine to_an (pc := 0) rw_152_0 rfl ?_
            refine to_in (pc := 1) rw_152_1 rfl ?_
            refine s_pI (pc := 2) rw_152_2 hG55 rfl (fun M85 W84 => ?_)
            have hG86 := g_wf hG55 W84 rfl rfl (by decide)
            have F87 := FR.w F61 W84 (show 77 = 77 ∧ (4 = 4 ∨ 4 = 5 ∨ 7 ≤ 4 ∧ 4 ≤ 10) ∨ 77 = 106 ∨ 77 = 107 by decide)
            refine to_an (pc := 5) rw_152_5 rfl ?_
            refine to_an (pc := 6) rw_152_6 rfl ?_
            have c_88 : M85.2.1 77 10 = (M60.2.1 77 10) := (W_n W84 (by decide) rfl)
            refine tt_gI (pc := 7) rw_152_7 (g_o hG86 rfl) (v := (M60.2.1 77 10)) c_88 ?_
            refine s_pI (pc := 10) rw_152_10 hG86 rfl (fun M90 W89 => ?_)
            have hG91 := g_wf hG86 W89 rfl rfl (by decide)
            have F92 := FR.w F87 W89 (show 77 = 77 ∧ (5 = 4 ∨ 5 = 5 ∨ 7 ≤ 5 ∧ 5 ≤ 10) ∨ 77 = 106 ∨ 77 = 107 by decide)
            refine to_c (pc := 13) rw_152_13 (x := (0 : Int32)) rfl rfl ?_
            refine s_r1 (pc := 14) rw_152_14 (A := 0) rfl (by decide) ?_
            refine b_ieq_t (pc := 35) rw_162_35 (A := 0) rfl (by decide) ?_
            refine to_c (pc := 42) rw_162_42 (x := (0 : Int32)) rfl rfl ?_
            refine s_r1 (pc := 43) rw_162_43 (A := 0) rfl (by decide) ?_
            refine b_ine_f (pc := 117) rw_212_117 (A := 0) rfl (by decide) ?_
            have c_93 : M90.2.1 77 4 = (2 : Int32) := (W_n W89 (by decide) (W_e W84))
            have c_94 : M90.2.1 77 8 = (M60.2.1 77 8) := (W_n W89 (by decide) (W_n W84 (by decide) rfl))
            have t_95 : (M90.2.1 77 8).toInt = (M60.2.1 77 8).toInt := congrArg Int32.toInt c_94
            have c_96 : M90.2.1 77 9 = (M60.2.1 77 9) := (W_n W89 (by decide) (W_n W84 (by decide) rfl))
            have t_97 : (M90.2.1 77 9).toInt = (M60.2.1 77 9).toInt := congrArg Int32.toInt c_96
            have c_98 : M90.2.1 77 10 = (M60.2.1 77 10) := (W_n W89 (by decide) c_88)
            have t_99 : (M90.2.1 77 10).toInt = (M60.2.1 77 10).toInt := congrArg Int32.toInt c_98
            have j_100 := (RS_f (fun a i z => W_n W89 (tg_37 a i z) rfl) (RS_f (fun a i z => W_n W84 (tg_38 a i z) rfl) p_59.1))
            have z_101 := RS_3x j_100 (a := (x_ns t nn a)) (m := x_row sg 4 (x_fn sg 1 (x_val t nn a)) - x_row sg 3 (x_fn sg 1 (x_val t nn a))) (by omega) (by omega) (by omega) (by omega)
            refine to_c (pc := 120) rw_212_120 (x := (0 : Int32)) rfl rfl ?_
            refine s_r1 (pc := 121) rw_212_121 (A := 0) rfl (by decide) ?_
            have k_102 : (0 : Int32).toInt = 0 := rfl
            have k_103 : (2 : Int32).toInt = 2 := rfl
            have t_104 : (M90.2.1 77 4).toInt = (2 : Int32).toInt := congrArg Int32.toInt c_93
            have c_105 : M90.2.1 77 5 = (M60.2.1 77 10) := (W_e W89)
            have t_106 : (M90.2.1 77 5).toInt = (M60.2.1 77 10).toInt := congrArg Int32.toInt c_105
            exact h (0 : Int32) M90 hG91 F92 (by decide) (by decide) (by omega) (fun z => by exfalso; omega) (fun z => absurd z (by decide)) (fun _ k9 => winl (by omega) (by omega) ((p_ndf (by omega) (by omega) (by omega)).trans (p_nb2 (by omega) (by omega))))
          · refine to_an (pc := 22) rw_162_22 rfl ?_
            refine tt_gI (pc := 23) rw_162_23 (g_o hG55 rfl) (v := (M60.2.1 77 9)) rfl ?_
            refine to_in (pc := 26) rw_162_26 rfl ?_
            refine b_cle (pc := 27) rw_162_27 (A := (M60.2.1 77 9).toInt) (B := v80.toInt) rfl rfl (fun h107 => ?_) (fun h107 => ?_)
            · refine to_c (pc := 38) rw_162_38 (x := (1 : Int32)) rfl rfl ?_
              refine to_go (pc := 39) rw_162_39 ?_
              refine s_r1 (pc := 43) rw_162_43 (A := 1) rfl (by decide) ?_
              refine b_ine_t (pc := 117) rw_212_117 (A := 1) rfl (by decide) ?_
              have z_108 := RS_3 p_59.1 (a := (x_ns t nn a)) (by omega) (by omega) (by omega)
              refine to_an (pc := 122) rw_212_122 rfl ?_
              refine s_gR (pc := 123) rw_212_123 hG55 rfl (v := 106) rfl ?_
              refine to_in (pc := 126) rw_212_126 rfl ?_
              refine to_dup2 (pc := 127) rw_212_127 ?_
              refine s_lalE (pc := 128) rw_212_128 hG55 rfl (n := 40) rfl (A := e.toInt) rfl (by omega) (by omega) (fun l109 w_110 => ?_)
              refine to_cl (pc := 129) rw_212_129 rfl (x := (1 : Int64)) rfl ?_
              refine to_an (pc := 130) rw_212_130 rfl ?_
              refine s_gR (pc := 131) rw_212_131 hG55 rfl (v := 82) rfl ?_
              refine to_in (pc := 134) rw_212_134 rfl ?_
              refine s_ialk (pc := 135) rw_212_135 hG55 rfl (n := 16) rfl rfl (A := r22.toInt) rfl (by omega) (by omega) (v := v76) w_77 ?_
              refine to_an (pc := 136) rw_212_136 rfl ?_
              refine tt_gI (pc := 137) rw_212_137 (g_o hG55 rfl) (v := (M60.2.1 77 9)) rfl ?_
              refine s_add (pc := 140) rw_212_140 (A := v76.toInt) (B := (M60.2.1 77 9).toInt) rfl rfl (by omega) (fun v113 e114 => ?_)
              refine to_2s (pc := 141) rw_212_141 (v := ((1 : Int64) <<< (v113.toInt64 &&& 63))) rfl ?_
              refine to_2l (pc := 142) rw_212_142 (v := (l109 ||| ((1 : Int64) <<< (v113.toInt64 &&& 63)))) rfl ?_
              refine s_las (pc := 143) rw_212_143 hG55 rfl (n := 40) rfl (A := e.toInt) rfl (by omega) (by omega) (fun M116 W115 => ?_)
              have hG117 := g_wl hG55 W115
              have F118 := FR.wl F61 W115 (show 106 = 77 ∧ ((e.toInt).toNat = 4 ∨ (e.toInt).toNat = 5 ∨ 7 ≤ (e.toInt).toNat ∧ (e.toInt).toNat ≤ 10) ∨ 106 = 106 ∨ 106 = 107 by omega)
              refine to_an (pc := 144) rw_212_144 rfl ?_
              refine s_v (pc := 145) rw_212_145 (dp0 hd (by decide)) (ls0 := [.ref 77]) rfl (Nat.le_of_ble_eq_true rfl) (Nat.le_of_ble_eq_true rfl) rfl (to_rc rfl rfl rfl (g_o hG117 rfl)) rfl ?_
              have c_119 : M116.2.1 77 7 = (M60.2.1 77 7) := (W_l W115 rfl)
              have t_120 : (M116.2.1 77 7).toInt = (M60.2.1 77 7).toInt := congrArg Int32.toInt c_119
              have c_121 : M116.2.1 77 6 = (M.2.1 77 6) := (W_l W115 c_63)
              have t_122 : (M116.2.1 77 6).toInt = (M.2.1 77 6).toInt := congrArg Int32.toInt c_121
              have c_123 : M116.2.1 77 10 = (M60.2.1 77 10) := (W_l W115 rfl)
              have t_124 : (M116.2.1 77 10).toInt = (M60.2.1 77 10).toInt := congrArg Int32.toInt c_123
              have j_125 := (RS_f (fun a i z => W_l W115 rfl) p_59.1)
              have z_126 := RS_b j_125 (a := (x_ns t nn a)) (by omega)
              have j_127 := (TR_f (fun a i z => W_l W115 rfl) (TR_f (tg_47 F54) j_52))
              have j_128 := (W9_f (fun a i z => W_l W115 rfl) (W9_f (tg_48 F54) j_53))
              refine E_156 hX (dp1 hd (by decide)) hG117 (by omega) (by omega) (by omega) (by omega) j_127 j_128  (fun M135 hG130 F129 p_131 p_132 p_133 p_134 => ?_)
              have F136 := FR.c F118 F129 tg_158
              have b_137 := g_b hG130 (a := 77) (i := 7) (lo := 0) (hi := 500) rfl rfl
              have c_138 : M135.2.1 77 6 = (M.2.1 77 6) := (F_n F129 (show ¬ (77 = 77 ∧ 7 ≤ 6 ∧ 6 ≤ 10) by decide) c_121)
              have t_139 : (M135.2.1 77 6).toInt = (M.2.1 77 6).toInt := congrArg Int32.toInt c_138
              have b_140 := g_b hG130 (a := 77) (i := 8) (lo := 0) (hi := 5) rfl rfl
              have b_141 := g_b hG130 (a := 77) (i := 10) (lo := 0) (hi := 500) rfl rfl
              have z_142 := RS_s p_134.2 (a := (x_ns t nn a)) (by omega)
              refine to_c (pc := 148) rw_212_148 (x := (1 : Int32)) rfl rfl ?_
              refine s_r1 (pc := 149) rw_212_149 (A := 1) rfl (by decide) ?_
              have k_143 : (1 : Int32).toInt = 1 := rfl
              have z_144 := x_ns_lt (t := t) (nn := nn) (a := a) (by omega) (x_lt_k (t := t) (by omega) (by omega))
              have z_145 := x_ns_b (t := t) (n := nn) (a := (x_ns t nn a)) (by omega) (by omega)
              exact h (1 : Int32) M135 hG130 F136 (by decide) (by decide) (by omega) (fun _ => p_134.1) (fun _ k9 => by rw [show (M135.2.1 77 10).toInt = (x_ns t nn (x_ns t nn a)) by omega]; exact (p_ndf (by omega) (by omega) (by omega)).trans (p_nb (by omega) (by omega))) (fun z => absurd z (by decide))
            · refine to_an (pc := 30) rw_162_30 rfl ?_
              refine to_c (pc := 31) rw_162_31 (x := (2 : Int32)) rfl rfl ?_
              refine s_v (pc := 32) rw_162_32 (dp1 hd (by decide)) (ls0 := [.ref 77, .int (2 : Int32)]) rfl (Nat.le_of_ble_eq_true rfl) (Nat.le_of_ble_eq_true rfl) rfl (to_rc rfl rfl rfl (g_o hG55 rfl)) rfl ?_
              refine to_an (pc := 0) rw_152_0 rfl ?_
              refine to_in (pc := 1) rw_152_1 rfl ?_
              refine s_pI (pc := 2) rw_152_2 hG55 rfl (fun M147 W146 => ?_)
              have hG148 := g_wf hG55 W146 rfl rfl (by decide)
              have F149 := FR.w F61 W146 (show 77 = 77 ∧ (4 = 4 ∨ 4 = 5 ∨ 7 ≤ 4 ∧ 4 ≤ 10) ∨ 77 = 106 ∨ 77 = 107 by decide)
              refine to_an (pc := 5) rw_152_5 rfl ?_
              refine to_an (pc := 6) rw_152_6 rfl ?_
              have c_150 : M147.2.1 77 10 = (M60.2.1 77 10) := (W_n W146 (by decide) rfl)
              refine tt_gI (pc := 7) rw_152_7 (g_o hG148 rfl) (v := (M60.2.1 77 10)) c_150 ?_
              refine s_pI (pc := 10) rw_152_10 hG148 rfl (fun M152 W151 => ?_)
              have hG153 := g_wf hG148 W151 rfl rfl (by decide)
              have F154 := FR.w F149 W151 (show 77 = 77 ∧ (5 = 4 ∨ 5 = 5 ∨ 7 ≤ 5 ∧ 5 ≤ 10) ∨ 77 = 106 ∨ 77 = 107 by decide)
              refine to_c (pc := 13) rw_152_13 (x := (0 : Int32)) rfl rfl ?_
              refine s_r1 (pc := 14) rw_152_14 (A := 0) rfl (by decide) ?_
              refine b_ieq_t (pc := 35) rw_162_35 (A := 0) rfl (by decide) ?_
              refine to_c (pc := 42) rw_162_42 (x := (0 : Int32)) rfl rfl ?_
              refine s_r1 (pc := 43) rw_162_43 (A := 0) rfl (by decide) ?_
              refine b_ine_f (pc := 117) rw_212_117 (A := 0) rfl (by decide) ?_
              have c_155 : M152.2.1 77 4 = (2 : Int32) := (W_n W151 (by decide) (W_e W146))
              have c_156 : M152.2.1 77 8 = (M60.2.1 77 8) := (W_n W151 (by decide) (W_n W146 (by decide) rfl))
              have t_157 : (M152.2.1 77 8).toInt = (M60.2.1 77 8).toInt := congrArg Int32.toInt c_156
              have c_158 : M152.2.1 77 9 = (M60.2.1 77 9) := (W_n W151 (by decide) (W_n W146 (by decide) rfl))
              have t_159 : (M152.2.1 77 9).toInt = (M60.2.1 77 9).toInt := congrArg Int32.toInt c_158
              have c_160 : M152.2.1 77 10 = (M60.2.1 77 10) := (W_n W151 (by decide) c_150)
              have t_161 : (M152.2.1 77 10).toInt = (M60.2.1 77 10).toInt := congrArg Int32.toInt c_160
              have j_162 := (RS_f (fun a i z => W_n W151 (tg_37 a i z) rfl) (RS_f (fun a i z => W_n W146 (tg_38 a i z) rfl) p_59.1))
              have z_163 := RS_3x j_162 (a := (x_ns t nn a)) (m := x_row sg 4 (x_fn sg 1 (x_val t nn a)) - x_row sg 3 (x_fn sg 1 (x_val t nn a))) (by omega) (by omega) (by omega) (by omega)
              refine to_c (pc := 120) rw_212_120 (x := (0 : Int32)) rfl rfl ?_
              refine s_r1 (pc := 121) rw_212_121 (A := 0) rfl (by decide) ?_
              have k_164 : (0 : Int32).toInt = 0 := rfl
              have k_165 : (2 : Int32).toInt = 2 := rfl
              have t_166 : (M152.2.1 77 4).toInt = (2 : Int32).toInt := congrArg Int32.toInt c_155
              have c_167 : M152.2.1 77 5 = (M60.2.1 77 10) := (W_e W151)
              have t_168 : (M152.2.1 77 5).toInt = (M60.2.1 77 10).toInt := congrArg Int32.toInt c_167
              exact h (0 : Int32) M152 hG153 F154 (by decide) (by decide) (by omega) (fun z => by exfalso; omega) (fun z => absurd z (by decide)) (fun _ k9 => winl (by omega) (by omega) ((p_ndf (by omega) (by omega) (by omega)).trans (p_nb2 (by omega) (by omega))))
        · refine to_an (pc := 8) rw_162_8 rfl ?_
          refine to_c (pc := 9) rw_162_9 (x := (1 : Int32)) rfl rfl ?_
          refine s_v (pc := 10) rw_162_10 (dp1 hd (by decide)) (ls0 := [.ref 77, .int (1 : Int32)]) rfl (Nat.le_of_ble_eq_true rfl) (Nat.le_of_ble_eq_true rfl) rfl (to_rc rfl rfl rfl (g_o hG55 rfl)) rfl ?_
          refine to_an (pc := 0) rw_152_0 rfl ?_
          refine to_in (pc := 1) rw_152_1 rfl ?_
          refine s_pI (pc := 2) rw_152_2 hG55 rfl (fun M170 W169 => ?_)
          have hG171 := g_wf hG55 W169 rfl rfl (by decide)
          have F172 := FR.w F61 W169 (show 77 = 77 ∧ (4 = 4 ∨ 4 = 5 ∨ 7 ≤ 4 ∧ 4 ≤ 10) ∨ 77 = 106 ∨ 77 = 107 by decide)
          refine to_an (pc := 5) rw_152_5 rfl ?_
          refine to_an (pc := 6) rw_152_6 rfl ?_
          have c_173 : M170.2.1 77 10 = (M60.2.1 77 10) := (W_n W169 (by decide) rfl)
          refine tt_gI (pc := 7) rw_152_7 (g_o hG171 rfl) (v := (M60.2.1 77 10)) c_173 ?_
          refine s_pI (pc := 10) rw_152_10 hG171 rfl (fun M175 W174 => ?_)
          have hG176 := g_wf hG171 W174 rfl rfl (by decide)
          have F177 := FR.w F172 W174 (show 77 = 77 ∧ (5 = 4 ∨ 5 = 5 ∨ 7 ≤ 5 ∧ 5 ≤ 10) ∨ 77 = 106 ∨ 77 = 107 by decide)
          refine to_c (pc := 13) rw_152_13 (x := (0 : Int32)) rfl rfl ?_
          refine s_r1 (pc := 14) rw_152_14 (A := 0) rfl (by decide) ?_
          refine s_r1 (pc := 13) rw_162_13 (A := 0) rfl (by decide) ?_
          refine b_ine_f (pc := 117) rw_212_117 (A := 0) rfl (by decide) ?_
          have c_178 : M175.2.1 77 4 = (1 : Int32) := (W_n W174 (by decide) (W_e W169))
          refine to_c (pc := 120) rw_212_120 (x := (0 : Int32)) rfl rfl ?_
          refine s_r1 (pc := 121) rw_212_121 (A := 0) rfl (by decide) ?_
          have k_179 : (0 : Int32).toInt = 0 := rfl
          have c_180 : M175.2.1 77 10 = (M60.2.1 77 10) := (W_n W174 (by decide) c_173)
          have t_181 : (M175.2.1 77 10).toInt = (M60.2.1 77 10).toInt := congrArg Int32.toInt c_180
          have k_182 : (1 : Int32).toInt = 1 := rfl
          have t_183 : (M175.2.1 77 4).toInt = (1 : Int32).toInt := congrArg Int32.toInt c_178
          have c_184 : M175.2.1 77 5 = (M60.2.1 77 10) := (W_e W174)
          have t_185 : (M175.2.1 77 5).toInt = (M60.2.1 77 10).toInt := congrArg Int32.toInt c_184
          exact h (0 : Int32) M175 hG176 F177 (by decide) (by decide) (by omega) (fun z => by exfalso; omega) (fun z => absurd z (by decide)) (fun _ k9 => winl (by omega) (by omega) ((p_ndf (by omega) (by omega) (by omega)).trans (p_nb1 (by omega))))
      · refine to_an (pc := 85) rw_212_85 rfl ?_
        refine s_gR (pc := 86) rw_212_86 hG55 rfl (v := 107) rfl ?_
        refine to_in (pc := 89) rw_212_89 rfl ?_
        refine to_dup2 (pc := 90) rw_212_90 ?_
        refine s_ial (pc := 91) rw_212_91 hG55 rfl (n := 40) rfl rfl (A := e.toInt) rfl (by omega) (by omega) (lo := -2147483648) (hi := 2147483647) rfl rfl (fun v186 w_187 _ _ => ?_)
        refine to_c (pc := 92) rw_212_92 (x := (1 : Int32)) rfl rfl ?_
        refine to_in (pc := 93) rw_212_93 rfl ?_
        refine s_opE (pc := 94) rw_212_94 (w := (1 : Int32) <<< r34) rfl (fun v188 e189 => ?_)
        refine s_opE (pc := 95) rw_212_95 (w := v186 ||| v188) rfl (fun v190 e191 => ?_)
        refine s_ias (pc := 96) rw_212_96 hG55 rfl (n := 40) rfl (A := e.toInt) rfl (by omega) (by omega) (fun M193 W192 => ?_)
        have hG194 := g_wf hG55 W192 rfl rfl (by decide)
        have F195 := FR.w F61 W192 (show 107 = 77 ∧ ((e.toInt).toNat = 4 ∨ (e.toInt).toNat = 5 ∨ 7 ≤ (e.toInt).toNat ∧ (e.toInt).toNat ≤ 10) ∨ 107 = 106 ∨ 107 = 107 by omega)
        refine to_c (pc := 97) rw_212_97 (x := (1 : Int32)) rfl rfl ?_
        refine s_r1 (pc := 98) rw_212_98 (A := 1) rfl (by decide) ?_
        have k_196 : (1 : Int32).toInt = 1 := rfl
        have c_197 : M193.2.1 77 10 = (M60.2.1 77 10) := (W_n W192 (fun z => absurd z.1 (by decide)) rfl)
        have t_198 : (M193.2.1 77 10).toInt = (M60.2.1 77 10).toInt := congrArg Int32.toInt c_197
        have z_199 := x_ns_lt (t := t) (nn := nn) (a := a) (by omega) (x_lt_k (t := t) (by omega) (by omega))
        have j_200 := (RS_f (fun a i z => W_n W192 (tg_159 a i _ z) rfl) p_59.1)
        exact h (1 : Int32) M193 hG194 F195 (by decide) (by decide) (by omega) (fun _ => j_200) (fun _ k9 => by rw [show (M193.2.1 77 10).toInt = (x_ns t nn a) by omega]; exact p_ndw (by omega) (by omega)) (fun z => absurd z (by decide))
    · refine to_in (pc := 67) rw_212_67 rfl ?_
      refine b_ige (pc := 68) rw_212_68 (A := r34.toInt) rfl (fun h201 => ?_) (fun h201 => ?_)
      · refine to_an (pc := 77) rw_212_77 rfl ?_
        refine s_v (pc := 78) rw_212_78 (dp0 hd (by decide)) (ls0 := [.ref 77]) rfl (Nat.le_of_ble_eq_true rfl) (Nat.le_of_ble_eq_true rfl) rfl (to_rc rfl rfl rfl (g_o hG36 rfl)) rfl ?_
        have c_202 : M40.2.1 77 7 = (M.2.1 77 7) := (F_n F35 (show ¬ (77 < 0) by decide) (F_n F23 (show ¬ (77 < 0) by decide) rfl))
        have t_203 : (M40.2.1 77 7).toInt = (M.2.1 77 7).toInt := congrArg Int32.toInt c_202
        have c_204 : M40.2.1 77 6 = (M.2.1 77 6) := (F_n F35 (show ¬ (77 < 0) by decide) (F_n F23 (show ¬ (77 < 0) by decide) rfl))
        have t_205 : (M40.2.1 77 6).toInt = (M.2.1 77 6).toInt := congrArg Int32.toInt c_204
        have c_206 : M40.2.1 77 10 = (M.2.1 77 10) := (F_n F35 (show ¬ (77 < 0) by decide) (F_n F23 (show ¬ (77 < 0) by decide) rfl))
        have t_207 : (M40.2.1 77 10).toInt = (M.2.1 77 10).toInt := congrArg Int32.toInt c_206
        have j_208 := (RS_f (tg_40 F35) (RS_f (tg_40 F23) q3))
        have z_209 := RS_b j_208 (a := a) (by omega)
        have j_210 := (TR_f (tg_9 F35) (TR_f (tg_9 F23) q7))
        have j_211 := (W9_f (tg_43 F35) (W9_f (tg_43 F23) q8))
        refine E_156 hX (dp1 hd (by decide)) hG36 (by omega) (by omega) (by omega) (by omega) j_210 j_211  (fun M218 hG213 F212 p_214 p_215 p_216 p_217 => ?_)
        have F219 := FR.c F41 F212 tg_158
        have b_220 := g_b hG213 (a := 77) (i := 7) (lo := 0) (hi := 500) rfl rfl
        have c_221 : M218.2.1 77 6 = (M.2.1 77 6) := (F_n F212 (show ¬ (77 = 77 ∧ 7 ≤ 6 ∧ 6 ≤ 10) by decide) c_204)
        have t_222 : (M218.2.1 77 6).toInt = (M.2.1 77 6).toInt := congrArg Int32.toInt c_221
        have b_223 := g_b hG213 (a := 77) (i := 8) (lo := 0) (hi := 5) rfl rfl
        have b_224 := g_b hG213 (a := 77) (i := 10) (lo := 0) (hi := 500) rfl rfl
        have z_225 := RS_s p_217.2 (a := a) (by omega)
        have z_226 := RS_k p_217.1 (a := (x_ns t nn a)) (by omega)
        refine to_in (pc := 81) rw_212_81 rfl ?_
        refine b_ilt_f (pc := 82) rw_212_82 (A := r34.toInt) rfl (by omega) ?_
        refine to_an (pc := 85) rw_212_85 rfl ?_
        refine s_gR (pc := 86) rw_212_86 hG213 rfl (v := 107) rfl ?_
        refine to_in (pc := 89) rw_212_89 rfl ?_
        refine to_dup2 (pc := 90) rw_212_90 ?_
        refine s_ial (pc := 91) rw_212_91 hG213 rfl (n := 40) rfl rfl (A := e.toInt) rfl (by omega) (by omega) (lo := -2147483648) (hi := 2147483647) rfl rfl (fun v227 w_228 _ _ => ?_)
        refine to_c (pc := 92) rw_212_92 (x := (1 : Int32)) rfl rfl ?_
        refine to_in (pc := 93) rw_212_93 rfl ?_
        refine s_opE (pc := 94) rw_212_94 (w := (1 : Int32) <<< r34) rfl (fun v229 e230 => ?_)
        refine s_opE (pc := 95) rw_212_95 (w := v227 ||| v229) rfl (fun v231 e232 => ?_)
        refine s_ias (pc := 96) rw_212_96 hG213 rfl (n := 40) rfl (A := e.toInt) rfl (by omega) (by omega) (fun M234 W233 => ?_)
        have hG235 := g_wf hG213 W233 rfl rfl (by decide)
        have F236 := FR.w F219 W233 (show 107 = 77 ∧ ((e.toInt).toNat = 4 ∨ (e.toInt).toNat = 5 ∨ 7 ≤ (e.toInt).toNat ∧ (e.toInt).toNat ≤ 10) ∨ 107 = 106 ∨ 107 = 107 by omega)
        refine to_c (pc := 97) rw_212_97 (x := (1 : Int32)) rfl rfl ?_
        refine s_r1 (pc := 98) rw_212_98 (A := 1) rfl (by decide) ?_
        have k_237 : (1 : Int32).toInt = 1 := rfl
        have c_238 : M234.2.1 77 10 = (M218.2.1 77 10) := (W_n W233 (fun z => absurd z.1 (by decide)) rfl)
        have t_239 : (M234.2.1 77 10).toInt = (M218.2.1 77 10).toInt := congrArg Int32.toInt c_238
        have z_240 := x_ns_lt (t := t) (nn := nn) (a := a) (by omega) (x_lt_k (t := t) (by omega) (by omega))
        have j_241 := (RS_f (fun a i z => W_n W233 (tg_159 a i _ z) rfl) p_217.1)
        exact h (1 : Int32) M234 hG235 F236 (by decide) (by decide) (by omega) (fun _ => j_241) (fun _ k9 => by rw [show (M234.2.1 77 10).toInt = (x_ns t nn a) by omega]; exact p_ndw (by omega) (by omega)) (fun z => absurd z (by decide))
      · refine to_an (pc := 71) rw_212_71 rfl ?_
        refine to_c (pc := 72) rw_212_72 (x := (4 : Int32)) rfl rfl ?_
        refine s_v (pc := 73) rw_212_73 (dp0 hd (by decide)) (ls0 := [.ref 77, .int (4 : Int32)]) rfl (Nat.le_of_ble_eq_true rfl) (Nat.le_of_ble_eq_true rfl) rfl (to_rc rfl rfl rfl (g_o hG36 rfl)) rfl ?_
        refine to_an (pc := 0) rw_152_0 rfl ?_
        refine to_in (pc := 1) rw_152_1 rfl ?_
        refine s_pI (pc := 2) rw_152_2 hG36 rfl (fun M243 W242 => ?_)
        have hG244 := g_wf hG36 W242 rfl rfl (by decide)
        have F245 := FR.w F41 W242 (show 77 = 77 ∧ (4 = 4 ∨ 4 = 5 ∨ 7 ≤ 4 ∧ 4 ≤ 10) ∨ 77 = 106 ∨ 77 = 107 by decide)
        refine to_an (pc := 5) rw_152_5 rfl ?_
        refine to_an (pc := 6) rw_152_6 rfl ?_
        have c_246 : M243.2.1 77 10 = (M.2.1 77 10) := (W_n W242 (by decide) (F_n F35 (show ¬ (77 < 0) by decide) (F_n F23 (show ¬ (77 < 0) by decide) rfl)))
        refine tt_gI (pc := 7) rw_152_7 (g_o hG244 rfl) (v := (M.2.1 77 10)) c_246 ?_
        refine s_pI (pc := 10) rw_152_10 hG244 rfl (fun M248 W247 => ?_)
        have hG249 := g_wf hG244 W247 rfl rfl (by decide)
        have F250 := FR.w F245 W247 (show 77 = 77 ∧ (5 = 4 ∨ 5 = 5 ∨ 7 ≤ 5 ∧ 5 ≤ 10) ∨ 77 = 106 ∨ 77 = 107 by decide)
        refine to_c (pc := 13) rw_152_13 (x := (0 : Int32)) rfl rfl ?_
        refine s_r1 (pc := 14) rw_152_14 (A := 0) rfl (by decide) ?_
        refine s_r1 (pc := 76) rw_212_76 (A := 0) rfl (by decide) ?_
        have k_251 : (0 : Int32).toInt = 0 := rfl
        have c_252 : M248.2.1 77 10 = (M.2.1 77 10) := (W_n W247 (by decide) c_246)
        have t_253 : (M248.2.1 77 10).toInt = (M.2.1 77 10).toInt := congrArg Int32.toInt c_252
        have c_254 : M248.2.1 77 4 = (4 : Int32) := (W_n W247 (by decide) (W_e W242))
        have k_255 : (4 : Int32).toInt = 4 := rfl
        have t_256 : (M248.2.1 77 4).toInt = (4 : Int32).toInt := congrArg Int32.toInt c_254
        have c_257 : M248.2.1 77 5 = (M.2.1 77 10) := (W_e W247)
        have t_258 : (M248.2.1 77 5).toInt = (M.2.1 77 10).toInt := congrArg Int32.toInt c_257
        exact h (0 : Int32) M248 hG249 F250 (by decide) (by decide) (by omega) (fun z => by exfalso; omega) (fun z => absurd z (by decide)) (fun _ k9 => winl (by omega) (by omega) (p_ndx (by omega) (by omega) (by omega)))
  · refine to_an (pc := 8) rw_212_8 rfl ?_
    refine to_c (pc := 9) rw_212_9 (x := (0 : Int32)) rfl rfl ?_
    refine to_an (pc := 10) rw_212_10 rfl ?_
    refine tt_gI (pc := 11) rw_212_11 (g_o hG rfl) (v := (M.2.1 77 11)) rfl ?_
    refine to_c (pc := 14) rw_212_14 (x := (1 : Int32)) rfl rfl ?_
    refine s_sub (pc := 15) rw_212_15 (A := (M.2.1 77 11).toInt) (B := 1) rfl rfl (by omega) (fun v259 e260 => ?_)
    refine s_v (pc := 16) rw_212_16 (dp0 hd (by decide)) (ls0 := [.ref 77, .int (0 : Int32), .int v259]) rfl (Nat.le_of_ble_eq_true rfl) (Nat.le_of_ble_eq_true rfl) rfl (to_rc rfl rfl rfl (g_o hG rfl)) rfl ?_
    refine to_an (pc := 0) rw_162_0 rfl ?_
    refine tt_gI (pc := 1) rw_162_1 (g_o hG rfl) (v := (M.2.1 77 8)) rfl ?_
    refine to_c (pc := 4) rw_162_4 (x := (3 : Int32)) rfl rfl ?_
    refine b_ceq_t (pc := 5) rw_162_5 (A := (M.2.1 77 8).toInt) (B := 3) rfl rfl (by omega) ?_
    refine to_an (pc := 14) rw_162_14 rfl ?_
    refine tt_gI (pc := 15) rw_162_15 (g_o hG rfl) (v := (M.2.1 77 9)) rfl ?_
    refine to_in (pc := 18) rw_162_18 rfl ?_
    refine b_clt (pc := 19) rw_162_19 (A := (M.2.1 77 9).toInt) (B := 0) rfl rfl (fun h261 => ?_) (fun h261 => ?_)
    · refine to_an (pc := 30) rw_162_30 rfl ?_
      refine to_c (pc := 31) rw_162_31 (x := (2 : Int32)) rfl rfl ?_
      refine s_v (pc := 32) rw_162_32 (dp1 hd (by decide)) (ls0 := [.ref 77, .int (2 : Int32)]) rfl (Nat.le_of_ble_eq_true rfl) (Nat.le_of_ble_eq_true rfl) rfl (to_rc rfl rfl rfl (g_o hG rfl)) rfl ?_
      refine to_an (pc := 0) rw_152_0 rfl ?_
      refine to_in (pc := 1) rw_152_1 rfl ?_
      refine s_pI (pc := 2) rw_152_2 hG rfl (fun M263 W262 => ?_)
      have hG264 := g_wf hG W262 rfl rfl (by decide)
      have F265 := FR.w F0 W262 (show 77 = 77 ∧ (4 = 4 ∨ 4 = 5 ∨ 7 ≤ 4 ∧ 4 ≤ 10) ∨ 77 = 106 ∨ 77 = 107 by decide)
      refine to_an (pc := 5) rw_152_5 rfl ?_
      refine to_an (pc := 6) rw_152_6 rfl ?_
      have c_266 : M263.2.1 77 10 = (M.2.1 77 10) := (W_n W262 (by decide) rfl)
      refine tt_gI (pc := 7) rw_152_7 (g_o hG264 rfl) (v := (M.2.1 77 10)) c_266 ?_
      refine s_pI (pc := 10) rw_152_10 hG264 rfl (fun M268 W267 => ?_)
      have hG269 := g_wf hG264 W267 rfl rfl (by decide)
      have F270 := FR.w F265 W267 (show 77 = 77 ∧ (5 = 4 ∨ 5 = 5 ∨ 7 ≤ 5 ∧ 5 ≤ 10) ∨ 77 = 106 ∨ 77 = 107 by decide)
      refine to_c (pc := 13) rw_152_13 (x := (0 : Int32)) rfl rfl ?_
      refine s_r1 (pc := 14) rw_152_14 (A := 0) rfl (by decide) ?_
      refine b_ieq_t (pc := 35) rw_162_35 (A := 0) rfl (by decide) ?_
      refine to_c (pc := 42) rw_162_42 (x := (0 : Int32)) rfl rfl ?_
      refine s_r1 (pc := 43) rw_162_43 (A := 0) rfl (by decide) ?_
      refine b_ine_f (pc := 19) rw_212_19 (A := 0) rfl (by decide) ?_
      have c_271 : M268.2.1 77 8 = (M.2.1 77 8) := (W_n W267 (by decide) (W_n W262 (by decide) rfl))
      have t_272 : (M268.2.1 77 8).toInt = (M.2.1 77 8).toInt := congrArg Int32.toInt c_271
      have c_273 : M268.2.1 77 9 = (M.2.1 77 9) := (W_n W267 (by decide) (W_n W262 (by decide) rfl))
      have t_274 : (M268.2.1 77 9).toInt = (M.2.1 77 9).toInt := congrArg Int32.toInt c_273
      have c_275 : M268.2.1 77 10 = (M.2.1 77 10) := (W_n W267 (by decide) c_266)
      have t_276 : (M268.2.1 77 10).toInt = (M.2.1 77 10).toInt := congrArg Int32.toInt c_275
      have j_277 := (RS_f (fun a i z => W_n W267 (tg_37 a i z) rfl) (RS_f (fun a i z => W_n W262 (tg_38 a i z) rfl) q3))
      have z_278 := RS_3x j_277 (a := a) (m := sg.1 - 1) (by omega) (by omega) (by omega) (by omega)
      refine to_c (pc := 22) rw_212_22 (x := (0 : Int32)) rfl rfl ?_
      refine s_r1 (pc := 23) rw_212_23 (A := 0) rfl (by decide) ?_
      have k_279 : (0 : Int32).toInt = 0 := rfl
      have c_280 : M268.2.1 77 4 = (2 : Int32) := (W_n W267 (by decide) (W_e W262))
      have k_281 : (2 : Int32).toInt = 2 := rfl
      have t_282 : (M268.2.1 77 4).toInt = (2 : Int32).toInt := congrArg Int32.toInt c_280
      have c_283 : M268.2.1 77 5 = (M.2.1 77 10) := (W_e W267)
      have t_284 : (M268.2.1 77 5).toInt = (M.2.1 77 10).toInt := congrArg Int32.toInt c_283
      exact h (0 : Int32) M268 hG269 F270 (by decide) (by decide) (by omega) (fun z => by exfalso; omega) (fun z => absurd z (by decide)) (fun _ k9 => winl (by omega) (by omega) ((p_ndn (by omega)).trans (p_nb2 (by omega) (by omega))))
    · refine to_an (pc := 22) rw_162_22 rfl ?_
      refine tt_gI (pc := 23) rw_162_23 (g_o hG rfl) (v := (M.2.1 77 9)) rfl ?_
      refine to_in (pc := 26) rw_162_26 rfl ?_
      refine b_cle (pc := 27) rw_162_27 (A := (M.2.1 77 9).toInt) (B := v259.toInt) rfl rfl (fun h285 => ?_) (fun h285 => ?_)
      · refine to_c (pc := 38) rw_162_38 (x := (1 : Int32)) rfl rfl ?_
        refine to_go (pc := 39) rw_162_39 ?_
        refine s_r1 (pc := 43) rw_162_43 (A := 1) rfl (by decide) ?_
        refine b_ine_t (pc := 19) rw_212_19 (A := 1) rfl (by decide) ?_
        have z_286 := RS_3 q3 (a := a) (by omega) (by omega) (by omega)
        refine to_an (pc := 24) rw_212_24 rfl ?_
        refine s_gR (pc := 25) rw_212_25 hG rfl (v := 106) rfl ?_
        refine to_in (pc := 28) rw_212_28 rfl ?_
        refine to_dup2 (pc := 29) rw_212_29 ?_
        refine s_lalE (pc := 30) rw_212_30 hG rfl (n := 40) rfl (A := e.toInt) rfl (by omega) (by omega) (fun l287 w_288 => ?_)
        refine to_cl (pc := 31) rw_212_31 rfl (x := (1 : Int64)) rfl ?_
        refine to_an (pc := 32) rw_212_32 rfl ?_
        refine tt_gI (pc := 33) rw_212_33 (g_o hG rfl) (v := (M.2.1 77 9)) rfl ?_
        refine to_2s (pc := 36) rw_212_36 (v := ((1 : Int64) <<< ((M.2.1 77 9).toInt64 &&& 63))) rfl ?_
        refine to_2l (pc := 37) rw_212_37 (v := (l287 ||| ((1 : Int64) <<< ((M.2.1 77 9).toInt64 &&& 63)))) rfl ?_
        refine s_las (pc := 38) rw_212_38 hG rfl (n := 40) rfl (A := e.toInt) rfl (by omega) (by omega) (fun M290 W289 => ?_)
        have hG291 := g_wl hG W289
        have F292 := FR.wl F0 W289 (show 106 = 77 ∧ ((e.toInt).toNat = 4 ∨ (e.toInt).toNat = 5 ∨ 7 ≤ (e.toInt).toNat ∧ (e.toInt).toNat ≤ 10) ∨ 106 = 106 ∨ 106 = 107 by omega)
        refine to_an (pc := 39) rw_212_39 rfl ?_
        refine s_v (pc := 40) rw_212_40 (dp0 hd (by decide)) (ls0 := [.ref 77]) rfl (Nat.le_of_ble_eq_true rfl) (Nat.le_of_ble_eq_true rfl) rfl (to_rc rfl rfl rfl (g_o hG291 rfl)) rfl ?_
        have c_293 : M290.2.1 77 7 = (M.2.1 77 7) := (W_l W289 rfl)
        have t_294 : (M290.2.1 77 7).toInt = (M.2.1 77 7).toInt := congrArg Int32.toInt c_293
        have c_295 : M290.2.1 77 6 = (M.2.1 77 6) := (W_l W289 rfl)
        have t_296 : (M290.2.1 77 6).toInt = (M.2.1 77 6).toInt := congrArg Int32.toInt c_295
        have c_297 : M290.2.1 77 10 = (M.2.1 77 10) := (W_l W289 rfl)
        have t_298 : (M290.2.1 77 10).toInt = (M.2.1 77 10).toInt := congrArg Int32.toInt c_297
        have j_299 := (RS_f (fun a i z => W_l W289 rfl) q3)
        have z_300 := RS_b j_299 (a := a) (by omega)
        have j_301 := (TR_f (fun a i z => W_l W289 rfl) q7)
        have j_302 := (W9_f (fun a i z => W_l W289 rfl) q8)
        refine E_156 hX (dp1 hd (by decide)) hG291 (by omega) (by omega) (by omega) (by omega) j_301 j_302  (fun M309 hG304 F303 p_305 p_306 p_307 p_308 => ?_)
        have F310 := FR.c F292 F303 tg_158
        have b_311 := g_b hG304 (a := 77) (i := 7) (lo := 0) (hi := 500) rfl rfl
        have c_312 : M309.2.1 77 6 = (M.2.1 77 6) := (F_n F303 (show ¬ (77 = 77 ∧ 7 ≤ 6 ∧ 6 ≤ 10) by decide) c_295)
        have t_313 : (M309.2.1 77 6).toInt = (M.2.1 77 6).toInt := congrArg Int32.toInt c_312
        have b_314 := g_b hG304 (a := 77) (i := 8) (lo := 0) (hi := 5) rfl rfl
        have b_315 := g_b hG304 (a := 77) (i := 10) (lo := 0) (hi := 500) rfl rfl
        have z_316 := RS_s p_308.2 (a := a) (by omega)
        refine to_c (pc := 43) rw_212_43 (x := (1 : Int32)) rfl rfl ?_
        refine s_r1 (pc := 44) rw_212_44 (A := 1) rfl (by decide) ?_
        have k_317 : (1 : Int32).toInt = 1 := rfl
        have z_318 := x_ns_lt (t := t) (nn := nn) (a := a) (by omega) (x_lt_k (t := t) (by omega) (by omega))
        exact h (1 : Int32) M309 hG304 F310 (by decide) (by decide) (by omega) (fun _ => p_308.1) (fun _ k9 => by rw [show (M309.2.1 77 10).toInt = (x_ns t nn a) by omega]; exact (p_ndn (by omega)).trans (p_nb (by omega) (by omega))) (fun z => absurd z (by decide))
      · refine to_an (pc := 30) rw_162_30 rfl ?_
        refine to_c (pc := 31) rw_162_31 (x := (2 : Int32)) rfl rfl ?_
        refine s_v (pc := 32) rw_162_32 (dp1 hd (by decide)) (ls0 := [.ref 77, .int (2 : Int32)]) rfl (Nat.le_of_ble_eq_true rfl) (Nat.le_of_ble_eq_true rfl) rfl (to_rc rfl rfl rfl (g_o hG rfl)) rfl ?_
        refine to_an (pc := 0) rw_152_0 rfl ?_
        refine to_in (pc := 1) rw_152_1 rfl ?_
        refine s_pI (pc := 2) rw_152_2 hG rfl (fun M320 W319 => ?_)
        have hG321 := g_wf hG W319 rfl rfl (by decide)
        have F322 := FR.w F0 W319 (show 77 = 77 ∧ (4 = 4 ∨ 4 = 5 ∨ 7 ≤ 4 ∧ 4 ≤ 10) ∨ 77 = 106 ∨ 77 = 107 by decide)
        refine to_an (pc := 5) rw_152_5 rfl ?_
        refine to_an (pc := 6) rw_152_6 rfl ?_
        have c_323 : M320.2.1 77 10 = (M.2.1 77 10) := (W_n W319 (by decide) rfl)
        refine tt_gI (pc := 7) rw_152_7 (g_o hG321 rfl) (v := (M.2.1 77 10)) c_323 ?_
        refine s_pI (pc := 10) rw_152_10 hG321 rfl (fun M325 W324 => ?_)
        have hG326 := g_wf hG321 W324 rfl rfl (by decide)
        have F327 := FR.w F322 W324 (show 77 = 77 ∧ (5 = 4 ∨ 5 = 5 ∨ 7 ≤ 5 ∧ 5 ≤ 10) ∨ 77 = 106 ∨ 77 = 107 by decide)
        refine to_c (pc := 13) rw_152_13 (x := (0 : Int32)) rfl rfl ?_
        refine s_r1 (pc := 14) rw_152_14 (A := 0) rfl (by decide) ?_
        refine b_ieq_t (pc := 35) rw_162_35 (A := 0) rfl (by decide) ?_
        refine to_c (pc := 42) rw_162_42 (x := (0 : Int32)) rfl rfl ?_
        refine s_r1 (pc := 43) rw_162_43 (A := 0) rfl (by decide) ?_
        refine b_ine_f (pc := 19) rw_212_19 (A := 0) rfl (by decide) ?_
        have c_328 : M325.2.1 77 8 = (M.2.1 77 8) := (W_n W324 (by decide) (W_n W319 (by decide) rfl))
        have t_329 : (M325.2.1 77 8).toInt = (M.2.1 77 8).toInt := congrArg Int32.toInt c_328
        have c_330 : M325.2.1 77 9 = (M.2.1 77 9) := (W_n W324 (by decide) (W_n W319 (by decide) rfl))
        have t_331 : (M325.2.1 77 9).toInt = (M.2.1 77 9).toInt := congrArg Int32.toInt c_330
        have c_332 : M325.2.1 77 10 = (M.2.1 77 10) := (W_n W324 (by decide) c_323)
        have t_333 : (M325.2.1 77 10).toInt = (M.2.1 77 10).toInt := congrArg Int32.toInt c_332
        have j_334 := (RS_f (fun a i z => W_n W324 (tg_37 a i z) rfl) (RS_f (fun a i z => W_n W319 (tg_38 a i z) rfl) q3))
        have z_335 := RS_3x j_334 (a := a) (m := sg.1 - 1) (by omega) (by omega) (by omega) (by omega)
        refine to_c (pc := 22) rw_212_22 (x := (0 : Int32)) rfl rfl ?_
        refine s_r1 (pc := 23) rw_212_23 (A := 0) rfl (by decide) ?_
        have k_336 : (0 : Int32).toInt = 0 := rfl
        have c_337 : M325.2.1 77 4 = (2 : Int32) := (W_n W324 (by decide) (W_e W319))
        have k_338 : (2 : Int32).toInt = 2 := rfl
        have t_339 : (M325.2.1 77 4).toInt = (2 : Int32).toInt := congrArg Int32.toInt c_337
        have c_340 : M325.2.1 77 5 = (M.2.1 77 10) := (W_e W324)
        have t_341 : (M325.2.1 77 5).toInt = (M.2.1 77 10).toInt := congrArg Int32.toInt c_340
        exact h (0 : Int32) M325 hG326 F327 (by decide) (by decide) (by omega) (fun z => by exfalso; omega) (fun z => absurd z (by decide)) (fun _ k9 => winl (by omega) (by omega) ((p_ndn (by omega)).trans (p_nb2 (by omega) (by omega))))
