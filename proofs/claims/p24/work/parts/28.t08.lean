theorem tg_142 {M M1 : mm_M} (F : FR (fun a i : Nat => a = 77 ∧ (i = 59 ∨ i = 65 ∨ i = 66) ∨ 112 ≤ a ∧ a ≤ 114 ∧ 40 ≤ i ∨ a = 116) M M1) : ∀ a i : Nat, (a = 77 ∧ 6 ≤ i ∧ i ≤ 10) → M1.2.1 a i = M.2.1 a i := fun a i z => F_n F (show ¬ (a = 77 ∧ (i = 59 ∨ i = 65 ∨ i = 66) ∨ 112 ≤ a ∧ a ≤ 114 ∧ 40 ≤ i ∨ a = 116) by omega) rfl
theorem tg_143 {M M1 : mm_M} (F : FR (fun a i : Nat => a = 77 ∧ (i = 59 ∨ i = 65 ∨ i = 66) ∨ 112 ≤ a ∧ a ≤ 114 ∧ 40 ≤ i ∨ a = 116) M M1) : ∀ a i : Nat, a = 78 → M1.2.1 a i = M.2.1 a i := fun a i z => F_n F (show ¬ (a = 77 ∧ (i = 59 ∨ i = 65 ∨ i = 66) ∨ 112 ≤ a ∧ a ≤ 114 ∧ 40 ≤ i ∨ a = 116) by omega) rfl
theorem tg_144 {M M1 : mm_M} (F : FR (fun a i : Nat => a = 77 ∧ (i = 59 ∨ i = 65 ∨ i = 66) ∨ 112 ≤ a ∧ a ≤ 114 ∧ 40 ≤ i ∨ a = 116) M M1) : ∀ a i : Nat, a = 79 → M1.2.1 a i = M.2.1 a i := fun a i z => F_n F (show ¬ (a = 77 ∧ (i = 59 ∨ i = 65 ∨ i = 66) ∨ 112 ≤ a ∧ a ≤ 114 ∧ 40 ≤ i ∨ a = 116) by omega) rfl
theorem tg_145 : ∀ a i : Nat, (a = 77 ∧ (i = 59 ∨ i = 65 ∨ i = 66) ∨ 112 ≤ a ∧ a ≤ 114 ∧ 40 ≤ i ∨ a = 116) → (a = 77 ∧ (i = 4 ∨ i = 5 ∨ 7 ≤ i ∧ i ≤ 10) ∨ a = 77 ∧ (i = 59 ∨ 65 ≤ i ∧ i ≤ 69) ∨ 112 ≤ a ∧ a ≤ 114 ∧ 40 ≤ i ∨ a = 115 ∨ a = 116) := fun a i z => by omega
theorem tg_146 : ∀ a i : Nat, (a = 77 ∧ 7 ≤ i ∧ i ≤ 10) → (a = 77 ∧ (i = 4 ∨ i = 5 ∨ 7 ≤ i ∧ i ≤ 10) ∨ a = 77 ∧ (i = 59 ∨ 65 ≤ i ∧ i ≤ 69) ∨ 112 ≤ a ∧ a ≤ 114 ∧ 40 ≤ i ∨ a = 115 ∨ a = 116) := fun a i z => by omega
theorem tg_147 : ∀ a i : Nat, (a = 77 ∧ 6 ≤ i ∧ i ≤ 10) → ¬ (a = 77 ∧ i = 67) := fun a i z => by omega
theorem tg_148 : ∀ a i : Nat, (a = 77 ∧ 6 ≤ i ∧ i ≤ 10) → ¬ (a = 77 ∧ i = 65) := fun a i z => by omega
theorem tg_149 : ∀ a i : Nat, a = 78 → ¬ (a = 77 ∧ i = 67) := fun a i z => by omega
theorem tg_150 : ∀ a i : Nat, a = 78 → ¬ (a = 77 ∧ i = 65) := fun a i z => by omega
theorem tg_151 : ∀ a i : Nat, a = 79 → ¬ (a = 77 ∧ i = 67) := fun a i z => by omega
theorem tg_152 : ∀ a i : Nat, a = 79 → ¬ (a = 77 ∧ i = 65) := fun a i z => by omega
theorem tg_153 : ∀ a i : Nat, (a = 77 ∧ 6 ≤ i ∧ i ≤ 10) → ¬ (a = 77 ∧ i = 68) := fun a i z => by omega
theorem tg_154 : ∀ a i j : Nat, (a = 77 ∧ 6 ≤ i ∧ i ≤ 10) → ¬ (a = 115 ∧ i = j) := fun a i j z => by omega
theorem tg_155 : ∀ a i : Nat, (a = 77 ∧ 6 ≤ i ∧ i ≤ 10) → ¬ (a = 77 ∧ i = 69) := fun a i z => by omega
theorem tg_156 : ∀ a i : Nat, a = 78 → ¬ (a = 77 ∧ i = 68) := fun a i z => by omega
theorem tg_157 : ∀ a i j : Nat, a = 78 → ¬ (a = 115 ∧ i = j) := fun a i j z => by omega
theorem tg_158 : ∀ a i : Nat, a = 78 → ¬ (a = 77 ∧ i = 69) := fun a i z => by omega
theorem tg_159 : ∀ a i : Nat, a = 79 → ¬ (a = 77 ∧ i = 68) := fun a i z => by omega
theorem tg_160 : ∀ a i j : Nat, a = 79 → ¬ (a = 115 ∧ i = j) := fun a i j z => by omega
theorem tg_161 : ∀ a i : Nat, a = 79 → ¬ (a = 77 ∧ i = 69) := fun a i z => by omega
set_option maxRecDepth 4000 in
set_option maxHeartbeats 0 in
theorem E_226 {X : mm_X} {d : Nat} {M : mm_M} {Q : Option Value → mm_M → Prop} {t : Nat → Int} {nn : Int} {a : Int} {sg : x_S} {Wl9 : List Int} {P9 : x_GP} (hX : g_X X) (hd : 2 ≤ d) (hG : g_G M) (q1 : (M.2.1 77 7).toInt ≤ (M.2.1 77 6).toInt) (q2 : QK M) (q3 : (M.2.1 77 68).toInt = 1) (q4 : RS M t nn) (q5 : (M.2.1 77 10).toInt = a) (q6 : 0 ≤ nn) (q7 : nn ≤ 500) (q8 : TR M t nn) (q9 : W9 M) (q10 : PLk M sg) (q11 : (M.2.1 77 59).toInt + Wo M ((M.2.1 77 65).toInt).toNat = (M.2.1 77 69).toInt) (q12 : ¬ (x_kind t nn a = 0 ∧ (M.2.1 77 67).toInt = 0)) (q13 : GST M Wl9 P9) (h : ∀ (r : Int32) (M1 : mm_M), g_G M1 → FR md_qr M M1 → (0 ≤ r.toInt) → (r.toInt ≤ 1) → ((M1.2.1 77 7).toInt ≤ (M1.2.1 77 6).toInt) → ((M.2.1 77 7).toInt ≤ (M1.2.1 77 7).toInt) → (r.toInt = 1 → (M1.2.1 77 8).toInt = 0 ∨ (M.2.1 77 7).toInt < (M1.2.1 77 7).toInt) → (r.toInt = 1 → ¬ (M.2.1 77 8).toInt = 0) → ((r.toInt = 1 → QK M1)) → ((r.toInt = 1 → (M1.2.1 77 59).toInt + Wo M1 ((M1.2.1 77 65).toInt).toNat = (M1.2.1 77 69).toInt)) → ((r.toInt = 1 → RS M1 t nn)) → ((r.toInt = 1 → ∃ (W2 : List Int) (P2 : x_GP), GST M1 W2 P2 ∧ x_gg t nn sg 1 (M.2.1 77 67).toInt (M.2.1 77 69).toInt Wl9 P9 a = x_gg t nn sg (M1.2.1 77 68).toInt (M1.2.1 77 67).toInt (M1.2.1 77 69).toInt W2 P2 (M1.2.1 77 10).toInt)) → ((r.toInt = 0 → x_gg t nn sg 1 (M.2.1 77 67).toInt (M.2.1 77 69).toInt Wl9 P9 a = Sum.inl ((M1.2.1 77 4).toInt, (M1.2.1 77 5).toInt))) → Q (some (.int r)) M1) : mm_T X d 225 0 [.ref 77, .null] [] M Q := by
  have F0 : FR md_qr M M := FR.rf
  have b_1 := g_b hG (a := 77) (i := 7) (lo := 0) (hi := 500) rfl rfl
  have b_2 := g_b hG (a := 77) (i := 6) (lo := 0) (hi := 500) rfl rfl
  have b_3 := g_b hG (a := 77) (i := 68) (lo := 0) (hi := 1) rfl rfl
  have b_4 := g_b hG (a := 77) (i := 10) (lo := 0) (hi := 500) rfl rfl
  have b_5 := g_b hG (a := 77) (i := 67) (lo := 0) (hi := 8) rfl rfl
  have b_6 := g_b hG (a := 77) (i := 59) (lo := 0) (hi := 40) rfl rfl
  have b_7 := g_b hG (a := 77) (i := 65) (lo := 0) (hi := 48) rfl rfl
  have b_8 := g_b hG (a := 77) (i := 66) (lo := 0) (hi := 40) rfl rfl
  have b_9 := g_b hG (a := 77) (i := 69) (lo := 0) (hi := 40) rfl rfl
  have s_10 := QK_e q2
  have s_11 := Wx_b M ((M.2.1 77 65).toInt).toNat
  have b_12 := g_b hG (a := 77) (i := 8) (lo := 0) (hi := 5) rfl rfl
  have z_13 := RS_k q4 (a := a) (by (first | (clear q12; omega) | omega))
  have z_14 := q10.2.1
  have z_15 := q10.2.2.1
  have z_16 := q10.2.2.2.1
  have z_17 := q10.1
  have z_18 := z_17.1
  have z_19 := z_17.2.1
  have z_20 := z_17.2.2.1
  have z_21 := z_17.2.2.2.1
  have z_22 := z_17.2.2.2.2.1
  have z_23 := z_17.2.2.2.2.2.1
  have b_24 := g_b hG (a := 77) (i := 11) (lo := 10) (hi := 60) rfl rfl
  have b_25 := g_b hG (a := 77) (i := 12) (lo := 0) (hi := 8) rfl rfl
  have b_26 := g_b hG (a := 77) (i := 13) (lo := 0) (hi := 12) rfl rfl
  have z_27 := RS_b q4 (a := a) (by (first | (clear q12; omega) | omega))
  refine to_an (pc := 0) rw_226_0 rfl ?_
  refine to_c (pc := 1) rw_226_1 (x := (12 : Int32)) rfl rfl ?_
  refine s_v (pc := 3) rw_226_3 (dp0 hd (by decide)) (ls0 := [.ref 77, .int (12 : Int32)]) rfl (Nat.le_of_ble_eq_true rfl) (Nat.le_of_ble_eq_true rfl) rfl (to_rc rfl rfl rfl (g_o hG rfl)) rfl ?_
  refine to_an (pc := 0) rw_158_0 rfl ?_
  refine tt_gI (pc := 1) rw_158_1 (g_o hG rfl) (v := (M.2.1 77 8)) rfl ?_
  refine to_c (pc := 4) rw_158_4 (x := (1 : Int32)) rfl rfl ?_
  refine b_cne (pc := 5) rw_158_5 (A := (M.2.1 77 8).toInt) (B := 1) rfl rfl (fun h28 => ?_) (fun h28 => ?_)
  · refine to_c (pc := 20) rw_158_20 (x := (0 : Int32)) rfl rfl ?_
    refine s_r1 (pc := 21) rw_158_21 (A := 0) rfl (by decide) ?_
    refine b_ine_f (pc := 6) rw_226_6 (A := 0) rfl (by decide) ?_
    refine to_an (pc := 9) rw_226_9 rfl ?_
    refine to_c (pc := 10) rw_226_10 (x := (13 : Int32)) rfl rfl ?_
    refine s_v (pc := 12) rw_226_12 (dp0 hd (by decide)) (ls0 := [.ref 77, .int (13 : Int32)]) rfl (Nat.le_of_ble_eq_true rfl) (Nat.le_of_ble_eq_true rfl) rfl (to_rc rfl rfl rfl (g_o hG rfl)) rfl ?_
    refine to_an (pc := 0) rw_158_0 rfl ?_
    refine tt_gI (pc := 1) rw_158_1 (g_o hG rfl) (v := (M.2.1 77 8)) rfl ?_
    refine to_c (pc := 4) rw_158_4 (x := (1 : Int32)) rfl rfl ?_
    refine b_cne (pc := 5) rw_158_5 (A := (M.2.1 77 8).toInt) (B := 1) rfl rfl (fun h29 => ?_) (fun h29 => ?_)
    · refine to_c (pc := 20) rw_158_20 (x := (0 : Int32)) rfl rfl ?_
      refine s_r1 (pc := 21) rw_158_21 (A := 0) rfl (by decide) ?_
      refine b_ieq_t (pc := 15) rw_226_15 (A := 0) rfl (by decide) ?_
      refine to_an (pc := 82) rw_226_82 rfl ?_
      refine to_c (pc := 83) rw_226_83 (x := (41 : Int32)) rfl rfl ?_
      refine s_v (pc := 85) rw_226_85 (dp0 hd (by decide)) (ls0 := [.ref 77, .int (41 : Int32)]) rfl (Nat.le_of_ble_eq_true rfl) (Nat.le_of_ble_eq_true rfl) rfl (to_rc rfl rfl rfl (g_o hG rfl)) rfl ?_
      refine to_an (pc := 0) rw_159_0 rfl ?_
      refine tt_gI (pc := 1) rw_159_1 (g_o hG rfl) (v := (M.2.1 77 8)) rfl ?_
      refine to_c (pc := 4) rw_159_4 (x := (4 : Int32)) rfl rfl ?_
      refine b_cne (pc := 5) rw_159_5 (A := (M.2.1 77 8).toInt) (B := 4) rfl rfl (fun h30 => ?_) (fun h30 => ?_)
      · refine to_c (pc := 20) rw_159_20 (x := (0 : Int32)) rfl rfl ?_
        refine s_r1 (pc := 21) rw_159_21 (A := 0) rfl (by decide) ?_
        refine b_ieq_t (pc := 88) rw_226_88 (A := 0) rfl (by decide) ?_
        refine to_an (pc := 98) rw_226_98 rfl ?_
        refine to_c (pc := 99) rw_226_99 (x := (1 : Int32)) rfl rfl ?_
        refine s_v (pc := 100) rw_226_100 (dp0 hd (by decide)) (ls0 := [.ref 77, .int (1 : Int32)]) rfl (Nat.le_of_ble_eq_true rfl) (Nat.le_of_ble_eq_true rfl) rfl (to_rc rfl rfl rfl (g_o hG rfl)) rfl ?_
        refine to_an (pc := 0) rw_152_0 rfl ?_
        refine to_in (pc := 1) rw_152_1 rfl ?_
        refine s_pI (pc := 2) rw_152_2 hG rfl (fun M32 W31 => ?_)
        have hG33 := g_wf hG W31 rfl rfl (by decide)
        have F34 := FR.w F0 W31 (show 77 = 77 ∧ (4 = 4 ∨ 4 = 5 ∨ 7 ≤ 4 ∧ 4 ≤ 10) ∨ 77 = 77 ∧ (4 = 59 ∨ 65 ≤ 4 ∧ 4 ≤ 69) ∨ 112 ≤ 77 ∧ 77 ≤ 114 ∧ 40 ≤ 4 ∨ 77 = 115 ∨ 77 = 116 by decide)
        refine to_an (pc := 5) rw_152_5 rfl ?_
        refine to_an (pc := 6) rw_152_6 rfl ?_
        have c_35 : M32.2.1 77 10 = (M.2.1 77 10) := (W_n W31 (by decide) rfl)
        refine tt_gI (pc := 7) rw_152_7 (g_o hG33 rfl) (v := (M.2.1 77 10)) c_35 ?_
        refine s_pI (pc := 10) rw_152_10 hG33 rfl (fun M37 W36 => ?_)
        have hG38 := g_wf hG33 W36 rfl rfl (by decide)
        have F39 := FR.w F34 W36 (show 77 = 77 ∧ (5 = 4 ∨ 5 = 5 ∨ 7 ≤ 5 ∧ 5 ≤ 10) ∨ 77 = 77 ∧ (5 = 59 ∨ 65 ≤ 5 ∧ 5 ≤ 69) ∨ 112 ≤ 77 ∧ 77 ≤ 114 ∧ 40 ≤ 5 ∨ 77 = 115 ∨ 77 = 116 by decide)
        refine to_c (pc := 13) rw_152_13 (x := (0 : Int32)) rfl rfl ?_
        refine s_r1 (pc := 14) rw_152_14 (A := 0) rfl (by decide) ?_
        refine s_r1 (pc := 103) rw_226_103 (A := 0) rfl (by decide) ?_
        have k_40 : (0 : Int32).toInt = 0 := rfl
        have c_41 : M37.2.1 77 7 = (M.2.1 77 7) := (W_n W36 (by decide) (W_n W31 (by decide) rfl))
        have t_42 : (M37.2.1 77 7).toInt = (M.2.1 77 7).toInt := congrArg Int32.toInt c_41
        have c_43 : M37.2.1 77 6 = (M.2.1 77 6) := (W_n W36 (by decide) (W_n W31 (by decide) rfl))
        have t_44 : (M37.2.1 77 6).toInt = (M.2.1 77 6).toInt := congrArg Int32.toInt c_43
        have c_45 : M37.2.1 77 8 = (M.2.1 77 8) := (W_n W36 (by decide) (W_n W31 (by decide) rfl))
        have t_46 : (M37.2.1 77 8).toInt = (M.2.1 77 8).toInt := congrArg Int32.toInt c_45
        have c_47 : M37.2.1 77 4 = (1 : Int32) := (W_n W36 (by decide) (W_e W31))
        have k_48 : (1 : Int32).toInt = 1 := rfl
        have t_49 : (M37.2.1 77 4).toInt = (1 : Int32).toInt := congrArg Int32.toInt c_47
        have c_50 : M37.2.1 77 5 = (M.2.1 77 10) := (W_e W36)
        have t_51 : (M37.2.1 77 5).toInt = (M.2.1 77 10).toInt := congrArg Int32.toInt c_50
        have c_52 : M37.2.1 77 67 = (M.2.1 77 67) := (W_n W36 (by decide) (W_n W31 (by decide) rfl))
        have t_53 : (M37.2.1 77 67).toInt = (M.2.1 77 67).toInt := congrArg Int32.toInt c_52
        have c_54 : M37.2.1 77 69 = (M.2.1 77 69) := (W_n W36 (by decide) (W_n W31 (by decide) rfl))
        have t_55 : (M37.2.1 77 69).toInt = (M.2.1 77 69).toInt := congrArg Int32.toInt c_54
        exact h (0 : Int32) M37 hG38 F39 (by decide) (by decide) (by (first | (clear q12 h28 h29 h30; omega) | (clear q12 h28 h29; omega) | omega)) (by (first | (clear q12 h28 h29 h30; omega) | (clear q12 h28 h29; omega) | omega)) (by (first | (clear q12 h28 h29 h30; omega) | (clear q12 h28 h29; omega) | omega)) (by (first | (clear q12 h28 h29 h30; omega) | (clear q12 h28 h29; omega) | omega)) (fun z => absurd z (by (first | (clear q12 h28 h29 h30; omega) | (clear q12 h28 h29; omega) | omega))) (fun z => absurd z (by decide)) (fun z => absurd z (by decide)) (fun z => absurd z (by decide)) (fun _ => ginl (by (first | (clear q12 h28 h29 h30; omega) | (clear q12 h28 h29; omega) | omega)) (by (first | (clear q12 h28 h29 h30; omega) | (clear q12 h28 h29; omega) | omega)) (g_1x (by (first | (clear q12 h28 h29 h30; omega) | (clear q12 h28 h29; omega) | omega)) (by (first | (clear q12 h28 h29 h30; omega) | (clear q12 h28 h29; omega) | omega)) (by (first | (clear q12 h28 h29 h30; omega) | (clear q12 h28 h29; omega) | omega)) (by (first | (clear q12 h28 h29 h30; omega) | (clear q12 h28 h29; omega) | omega)) (by (first | (clear q12 h28 h29 h30; omega) | (clear q12 h28 h29; omega) | omega))))
      · refine to_an (pc := 8) rw_159_8 rfl ?_
        refine tt_gI (pc := 9) rw_159_9 (g_o hG rfl) (v := (M.2.1 77 9)) rfl ?_
        refine to_in (pc := 12) rw_159_12 rfl ?_
        refine b_cne (pc := 13) rw_159_13 (A := (M.2.1 77 9).toInt) (B := 41) rfl rfl (fun h56 => ?_) (fun h56 => ?_)
        · refine to_c (pc := 20) rw_159_20 (x := (0 : Int32)) rfl rfl ?_
          refine s_r1 (pc := 21) rw_159_21 (A := 0) rfl (by decide) ?_
          refine b_ieq_t (pc := 88) rw_226_88 (A := 0) rfl (by decide) ?_
          have z_57 := RS_4 q4 (a := a) (by (first | (clear q12 h28 h29 h56; omega) | (clear q12 h28 h29; omega) | omega)) (by (first | (clear q12 h28 h29 h56; omega) | (clear q12 h28 h29; omega) | omega))
          refine to_an (pc := 98) rw_226_98 rfl ?_
          refine to_c (pc := 99) rw_226_99 (x := (1 : Int32)) rfl rfl ?_
          refine s_v (pc := 100) rw_226_100 (dp0 hd (by decide)) (ls0 := [.ref 77, .int (1 : Int32)]) rfl (Nat.le_of_ble_eq_true rfl) (Nat.le_of_ble_eq_true rfl) rfl (to_rc rfl rfl rfl (g_o hG rfl)) rfl ?_
          refine to_an (pc := 0) rw_152_0 rfl ?_
          refine to_in (pc := 1) rw_152_1 rfl ?_
          refine s_pI (pc := 2) rw_152_2 hG rfl (fun M59 W58 => ?_)
          have hG60 := g_wf hG W58 rfl rfl (by decide)
          have F61 := FR.w F0 W58 (show 77 = 77 ∧ (4 = 4 ∨ 4 = 5 ∨ 7 ≤ 4 ∧ 4 ≤ 10) ∨ 77 = 77 ∧ (4 = 59 ∨ 65 ≤ 4 ∧ 4 ≤ 69) ∨ 112 ≤ 77 ∧ 77 ≤ 114 ∧ 40 ≤ 4 ∨ 77 = 115 ∨ 77 = 116 by decide)
          refine to_an (pc := 5) rw_152_5 rfl ?_
          refine to_an (pc := 6) rw_152_6 rfl ?_
          have c_62 : M59.2.1 77 10 = (M.2.1 77 10) := (W_n W58 (by decide) rfl)
          refine tt_gI (pc := 7) rw_152_7 (g_o hG60 rfl) (v := (M.2.1 77 10)) c_62 ?_
          refine s_pI (pc := 10) rw_152_10 hG60 rfl (fun M64 W63 => ?_)
          have hG65 := g_wf hG60 W63 rfl rfl (by decide)
          have F66 := FR.w F61 W63 (show 77 = 77 ∧ (5 = 4 ∨ 5 = 5 ∨ 7 ≤ 5 ∧ 5 ≤ 10) ∨ 77 = 77 ∧ (5 = 59 ∨ 65 ≤ 5 ∧ 5 ≤ 69) ∨ 112 ≤ 77 ∧ 77 ≤ 114 ∧ 40 ≤ 5 ∨ 77 = 115 ∨ 77 = 116 by decide)
          refine to_c (pc := 13) rw_152_13 (x := (0 : Int32)) rfl rfl ?_
          refine s_r1 (pc := 14) rw_152_14 (A := 0) rfl (by decide) ?_
          refine s_r1 (pc := 103) rw_226_103 (A := 0) rfl (by decide) ?_
          have k_67 : (0 : Int32).toInt = 0 := rfl
          have c_68 : M64.2.1 77 7 = (M.2.1 77 7) := (W_n W63 (by decide) (W_n W58 (by decide) rfl))
          have t_69 : (M64.2.1 77 7).toInt = (M.2.1 77 7).toInt := congrArg Int32.toInt c_68
          have c_70 : M64.2.1 77 6 = (M.2.1 77 6) := (W_n W63 (by decide) (W_n W58 (by decide) rfl))
          have t_71 : (M64.2.1 77 6).toInt = (M.2.1 77 6).toInt := congrArg Int32.toInt c_70
          have c_72 : M64.2.1 77 8 = (M.2.1 77 8) := (W_n W63 (by decide) (W_n W58 (by decide) rfl))
          have t_73 : (M64.2.1 77 8).toInt = (M.2.1 77 8).toInt := congrArg Int32.toInt c_72
          have c_74 : M64.2.1 77 4 = (1 : Int32) := (W_n W63 (by decide) (W_e W58))
          have k_75 : (1 : Int32).toInt = 1 := rfl
          have t_76 : (M64.2.1 77 4).toInt = (1 : Int32).toInt := congrArg Int32.toInt c_74
          have c_77 : M64.2.1 77 5 = (M.2.1 77 10) := (W_e W63)
          have t_78 : (M64.2.1 77 5).toInt = (M.2.1 77 10).toInt := congrArg Int32.toInt c_77
          have c_79 : M64.2.1 77 67 = (M.2.1 77 67) := (W_n W63 (by decide) (W_n W58 (by decide) rfl))
          have t_80 : (M64.2.1 77 67).toInt = (M.2.1 77 67).toInt := congrArg Int32.toInt c_79
          have c_81 : M64.2.1 77 69 = (M.2.1 77 69) := (W_n W63 (by decide) (W_n W58 (by decide) rfl))
          have t_82 : (M64.2.1 77 69).toInt = (M.2.1 77 69).toInt := congrArg Int32.toInt c_81
          exact h (0 : Int32) M64 hG65 F66 (by decide) (by decide) (by (first | (clear q12 h28 h29 h56; omega) | (clear q12 h28 h29; omega) | omega)) (by (first | (clear q12 h28 h29 h56; omega) | (clear q12 h28 h29; omega) | omega)) (by (first | (clear q12 h28 h29 h56; omega) | (clear q12 h28 h29; omega) | omega)) (by (first | (clear q12 h28 h29 h56; omega) | (clear q12 h28 h29; omega) | omega)) (fun z => absurd z (by (first | (clear q12 h28 h29 h56; omega) | (clear q12 h28 h29; omega) | omega))) (fun z => absurd z (by decide)) (fun z => absurd z (by decide)) (fun z => absurd z (by decide)) (fun _ => ginl (by (first | (clear q12 h28 h29 h56; omega) | (clear q12 h28 h29; omega) | omega)) (by (first | (clear q12 h28 h29 h56; omega) | (clear q12 h28 h29; omega) | omega)) (g_1x (by (first | (clear q12 h28 h29 h56; omega) | (clear q12 h28 h29; omega) | omega)) (by (first | (clear q12 h28 h29 h56; omega) | (clear q12 h28 h29; omega) | omega)) (by (first | (clear q12 h28 h29 h56; omega) | (clear q12 h28 h29; omega) | omega)) (by (first | (clear q12 h28 h29 h56; omega) | (clear q12 h28 h29; omega) | omega)) (by (first | (clear q12 h28 h29 h56; omega) | (clear q12 h28 h29; omega) | omega))))
        · refine to_c (pc := 16) rw_159_16 (x := (1 : Int32)) rfl rfl ?_
          refine to_go (pc := 17) rw_159_17 ?_
          refine s_r1 (pc := 21) rw_159_21 (A := 1) rfl (by decide) ?_
          refine b_ieq_f (pc := 88) rw_226_88 (A := 1) rfl (by decide) ?_
          refine to_an (pc := 91) rw_226_91 rfl ?_
          refine tt_gI (pc := 92) rw_226_92 (g_o hG rfl) (v := (M.2.1 77 67)) rfl ?_
          refine b_ine (pc := 95) rw_226_95 (A := (M.2.1 77 67).toInt) rfl (fun h83 => ?_) (fun h83 => ?_)
          · have z_84 := RS_4 q4 (a := a) (by (first | (clear q12 h28 h29 h83; omega) | (clear q12 h28 h29; omega) | omega)) (by (first | (clear q12 h28 h29 h83; omega) | (clear q12 h28 h29; omega) | omega))
            refine to_an (pc := 104) rw_226_104 rfl ?_
            refine to_c (pc := 105) rw_226_105 (x := (1 : Int32)) rfl rfl ?_
            refine s_v (pc := 106) rw_226_106 (dp0 hd (by decide)) (ls0 := [.ref 77, .int (1 : Int32), .null, .null, .null]) rfl (Nat.le_of_ble_eq_true rfl) (Nat.le_of_ble_eq_true rfl) rfl (to_rc rfl rfl rfl (g_o hG rfl)) rfl ?_
            have k_85 : (1 : Int32).toInt = 1 := rfl
            refine E_223 hX (dp1 hd (by decide)) hG (by (first | (clear q12 h28 h29 h83; omega) | (clear q12 h28 h29; omega) | omega)) (by (first | (clear q12 h28 h29 h83; omega) | (clear q12 h28 h29; omega) | omega)) (by (first | (clear q12 h28 h29 h83; omega) | (clear q12 h28 h29; omega) | omega)) q2 q13 (l := (1 : Int32)) (Wl9 := Wl9) (P9 := P9) (fun M93 hG88 F87 p_89 p_90 p_91 p_92 => ?_)
            have F94 := FR.c F0 F87 tg_145
            have s_95 := p_90
            have b_96 := g_b hG88 (a := 77) (i := 59) (lo := 0) (hi := 40) rfl rfl
            have b_97 := g_b hG88 (a := 77) (i := 65) (lo := 0) (hi := 48) rfl rfl
            have b_98 := g_b hG88 (a := 77) (i := 66) (lo := 0) (hi := 40) rfl rfl
            have c_99 : M93.2.1 77 67 = (M.2.1 77 67) := (F_n F87 (show ¬ (77 = 77 ∧ (67 = 59 ∨ 67 = 65 ∨ 67 = 66) ∨ 112 ≤ 77 ∧ 77 ≤ 114 ∧ 40 ≤ 67 ∨ 77 = 116) by decide) rfl)
            have t_100 : (M93.2.1 77 67).toInt = (M.2.1 77 67).toInt := congrArg Int32.toInt c_99
            have c_101 : M93.2.1 77 68 = (M.2.1 77 68) := (F_n F87 (show ¬ (77 = 77 ∧ (68 = 59 ∨ 68 = 65 ∨ 68 = 66) ∨ 112 ≤ 77 ∧ 77 ≤ 114 ∧ 40 ≤ 68 ∨ 77 = 116) by decide) rfl)
            have t_102 : (M93.2.1 77 68).toInt = (M.2.1 77 68).toInt := congrArg Int32.toInt c_101
            have c_103 : M93.2.1 77 69 = (M.2.1 77 69) := (F_n F87 (show ¬ (77 = 77 ∧ (69 = 59 ∨ 69 = 65 ∨ 69 = 66) ∨ 112 ≤ 77 ∧ 77 ≤ 114 ∧ 40 ≤ 69 ∨ 77 = 116) by decide) rfl)
            have t_104 : (M93.2.1 77 69).toInt = (M.2.1 77 69).toInt := congrArg Int32.toInt c_103
            have s_105 := QK_e p_89
            have s_106 := Wx_b M93 ((M93.2.1 77 65).toInt).toNat
            have z_107 : GST M93 (x_bd 1 Wl9 P9).1 (x_bd 1 Wl9 P9).2 := by have y := p_92; rw [show (1 : Int32).toInt = 1 from rfl] at y; exact y
            have s_t := p_91 rfl
            have s_n := p_89.2.1 (((M93.2.1 77 65).toInt).toNat - 1)
            have s_s := Wx_s M93 (((M93.2.1 77 65).toInt).toNat - 1)
            have s_p : 1 ≤ (M93.2.1 77 65).toInt := by (first | (clear q12 h28 h29 h83 p_91 s_s; omega) | (clear q12 h28 h29 p_91 s_s; omega) | omega)
            rw [show ((M93.2.1 77 65).toInt).toNat - 1 + 1 = ((M93.2.1 77 65).toInt).toNat by (first | (clear q12 h28 h29 h83 p_91 s_s; omega) | (clear q12 h28 h29 p_91 s_s; omega) | omega)] at s_s
            have s_n := s_n (by (first | (clear q12 h28 h29 h83 p_91 s_s; omega) | (clear q12 h28 h29 p_91 s_s; omega) | omega))
            have s_z : (M93.2.1 115 (((M93.2.1 77 65).toInt).toNat - 1)).toInt = 0 := by (first | (clear q12 h28 h29 h83 p_91 s_s; omega) | (clear q12 h28 h29 p_91 s_s; omega) | omega)
            have s_s := s_s.1 s_z
            refine to_an (pc := 109) rw_226_109 rfl ?_
            refine to_dupr (pc := 110) rw_226_110 ?_
            refine tt_gI (pc := 111) rw_226_111 (g_o hG88 rfl) (v := (M93.2.1 77 65)) rfl ?_
            refine to_c (pc := 114) rw_226_114 (x := (1 : Int32)) rfl rfl ?_
            refine s_sub (pc := 115) rw_226_115 (A := (M93.2.1 77 65).toInt) (B := 1) rfl rfl (by (first | (clear q12 h28 h29 h83 p_91 s_s; omega) | (clear q12 h28 h29 p_91 s_s; omega) | omega)) (fun v108 e109 => ?_)
            refine s_pI (pc := 116) rw_226_116 hG88 rfl (fun M111 W110 => ?_)
            have hG112 := g_w hG88 W110 (A := v108.toInt) rfl (lo := 0) (hi := 48) rfl rfl (by (first | (clear q12 h28 h29 h83 p_91 s_s; omega) | (clear q12 h28 h29 p_91 s_s; omega) | omega)) (by decide)
            have F113 := FR.w F94 W110 (show 77 = 77 ∧ (65 = 4 ∨ 65 = 5 ∨ 7 ≤ 65 ∧ 65 ≤ 10) ∨ 77 = 77 ∧ (65 = 59 ∨ 65 ≤ 65 ∧ 65 ≤ 69) ∨ 112 ≤ 77 ∧ 77 ≤ 114 ∧ 40 ≤ 65 ∨ 77 = 115 ∨ 77 = 116 by decide)
            refine to_an (pc := 119) rw_226_119 rfl ?_
            refine to_dupr (pc := 120) rw_226_120 ?_
            have c_114 : M111.2.1 77 67 = (M.2.1 77 67) := (W_n W110 (by decide) c_99)
            refine tt_gI (pc := 121) rw_226_121 (g_o hG112 rfl) (v := (M.2.1 77 67)) c_114 ?_
            refine to_c (pc := 124) rw_226_124 (x := (1 : Int32)) rfl rfl ?_
            refine s_sub (pc := 125) rw_226_125 (A := (M.2.1 77 67).toInt) (B := 1) rfl rfl (by (first | (clear q12 h28 h29 h83 p_91 s_s; omega) | (clear q12 h28 h29 p_91 s_s; omega) | omega)) (fun v115 e116 => ?_)
            refine s_pI (pc := 126) rw_226_126 hG112 rfl (fun M118 W117 => ?_)
            have hG119 := g_w hG112 W117 (A := v115.toInt) rfl (lo := 0) (hi := 8) rfl rfl (by (first | (clear q12 h28 h29 h83 p_91 s_s; omega) | (clear q12 h28 h29 p_91 s_s; omega) | omega)) (by decide)
            have F120 := FR.w F113 W117 (show 77 = 77 ∧ (67 = 4 ∨ 67 = 5 ∨ 7 ≤ 67 ∧ 67 ≤ 10) ∨ 77 = 77 ∧ (67 = 59 ∨ 65 ≤ 67 ∧ 67 ≤ 69) ∨ 112 ≤ 77 ∧ 77 ≤ 114 ∧ 40 ≤ 67 ∨ 77 = 115 ∨ 77 = 116 by decide)
            refine to_an (pc := 129) rw_226_129 rfl ?_
            refine s_v (pc := 130) rw_226_130 (dp0 hd (by decide)) (ls0 := [.ref 77]) rfl (Nat.le_of_ble_eq_true rfl) (Nat.le_of_ble_eq_true rfl) rfl (to_rc rfl rfl rfl (g_o hG119 rfl)) rfl ?_
            have c_121 : M118.2.1 77 7 = (M.2.1 77 7) := (W_n W117 (by decide) (W_n W110 (by decide) (F_n F87 (show ¬ (77 = 77 ∧ (7 = 59 ∨ 7 = 65 ∨ 7 = 66) ∨ 112 ≤ 77 ∧ 77 ≤ 114 ∧ 40 ≤ 7 ∨ 77 = 116) by decide) rfl)))
            have t_122 : (M118.2.1 77 7).toInt = (M.2.1 77 7).toInt := congrArg Int32.toInt c_121
            have c_123 : M118.2.1 77 6 = (M.2.1 77 6) := (W_n W117 (by decide) (W_n W110 (by decide) (F_n F87 (show ¬ (77 = 77 ∧ (6 = 59 ∨ 6 = 65 ∨ 6 = 66) ∨ 112 ≤ 77 ∧ 77 ≤ 114 ∧ 40 ≤ 6 ∨ 77 = 116) by decide) rfl)))
            have t_124 : (M118.2.1 77 6).toInt = (M.2.1 77 6).toInt := congrArg Int32.toInt c_123
            have c_125 : M118.2.1 77 10 = (M.2.1 77 10) := (W_n W117 (by decide) (W_n W110 (by decide) (F_n F87 (show ¬ (77 = 77 ∧ (10 = 59 ∨ 10 = 65 ∨ 10 = 66) ∨ 112 ≤ 77 ∧ 77 ≤ 114 ∧ 40 ≤ 10 ∨ 77 = 116) by decide) rfl)))
            have t_126 : (M118.2.1 77 10).toInt = (M.2.1 77 10).toInt := congrArg Int32.toInt c_125
            have j_127 := (RS_f (fun a i z => W_n W117 (tg_147 a i z) rfl) (RS_f (fun a i z => W_n W110 (tg_148 a i z) rfl) (RS_f (tg_142 F87) q4)))
            have z_128 := RS_b j_127 (a := a) (by (first | (clear q12 h28 h29 h83 p_91 s_s; omega) | (clear q12 h28 h29 p_91 s_s; omega) | omega))
            have j_129 := (TR_f (fun a i z => W_n W117 (tg_149 a i z) rfl) (TR_f (fun a i z => W_n W110 (tg_150 a i z) rfl) (TR_f (tg_143 F87) q8)))
            have j_130 := (W9_f (fun a i z => W_n W117 (tg_151 a i z) rfl) (W9_f (fun a i z => W_n W110 (tg_152 a i z) rfl) (W9_f (tg_144 F87) q9)))
            refine E_156 hX (dp1 hd (by decide)) hG119 (by (first | (clear q12 h28 h29 h83 p_91 s_s; omega) | (clear q12 h28 h29 p_91 s_s; omega) | omega)) (by (first | (clear q12 h28 h29 h83 p_91 s_s; omega) | (clear q12 h28 h29 p_91 s_s; omega) | omega)) (by (first | (clear q12 h28 h29 h83 p_91 s_s; omega) | (clear q12 h28 h29 p_91 s_s; omega) | omega)) (by (first | (clear q12 h28 h29 h83 p_91 s_s; omega) | (clear q12 h28 h29 p_91 s_s; omega) | omega)) j_129 j_130  (fun M137 hG132 F131 p_133 p_134 p_135 p_136 => ?_)
            have F138 := FR.c F120 F131 tg_146
            have b_139 := g_b hG132 (a := 77) (i := 7) (lo := 0) (hi := 500) rfl rfl
            have c_140 : M137.2.1 77 6 = (M.2.1 77 6) := (F_n F131 (show ¬ (77 = 77 ∧ 7 ≤ 6 ∧ 6 ≤ 10) by decide) c_123)
            have t_141 : (M137.2.1 77 6).toInt = (M.2.1 77 6).toInt := congrArg Int32.toInt c_140
            have b_142 := g_b hG132 (a := 77) (i := 8) (lo := 0) (hi := 5) rfl rfl
            have b_143 := g_b hG132 (a := 77) (i := 10) (lo := 0) (hi := 500) rfl rfl
            have z_144 := RS_s p_136.2 (a := a) (by (first | (clear q12 h28 h29 h83 p_91 s_s p_135; omega) | (clear q12 h28 h29 p_91 s_s p_135; omega) | omega))
            refine to_c (pc := 133) rw_226_133 (x := (1 : Int32)) rfl rfl ?_
            refine s_r1 (pc := 134) rw_226_134 (A := 1) rfl (by decide) ?_
            have c_145 : M137.2.1 77 59 = (M93.2.1 77 59) := (F_n F131 (show ¬ (77 = 77 ∧ 7 ≤ 59 ∧ 59 ≤ 10) by decide) (W_n W117 (by decide) (W_n W110 (by decide) rfl)))
            have t_146 : (M137.2.1 77 59).toInt = (M93.2.1 77 59).toInt := congrArg Int32.toInt c_145
            have c_147 : M137.2.1 77 65 = v108 := (F_n F131 (show ¬ (77 = 77 ∧ 7 ≤ 65 ∧ 65 ≤ 10) by decide) (W_n W117 (by decide) (W_e W110)))
            have t_148 : (M137.2.1 77 65).toInt = v108.toInt := congrArg Int32.toInt c_147
            have c_149 : M137.2.1 77 66 = (M93.2.1 77 66) := (F_n F131 (show ¬ (77 = 77 ∧ 7 ≤ 66 ∧ 66 ≤ 10) by decide) (W_n W117 (by decide) (W_n W110 (by decide) rfl)))
            have t_150 : (M137.2.1 77 66).toInt = (M93.2.1 77 66).toInt := congrArg Int32.toInt c_149
            have c_151 : M137.2.1 77 67 = v115 := (F_n F131 (show ¬ (77 = 77 ∧ 7 ≤ 67 ∧ 67 ≤ 10) by decide) (W_e W117))
            have t_152 : (M137.2.1 77 67).toInt = v115.toInt := congrArg Int32.toInt c_151
            have c_153 : M137.2.1 77 68 = (M.2.1 77 68) := (F_n F131 (show ¬ (77 = 77 ∧ 7 ≤ 68 ∧ 68 ≤ 10) by decide) (W_n W117 (by decide) (W_n W110 (by decide) c_101)))
            have t_154 : (M137.2.1 77 68).toInt = (M.2.1 77 68).toInt := congrArg Int32.toInt c_153
            have c_155 : M137.2.1 77 69 = (M.2.1 77 69) := (F_n F131 (show ¬ (77 = 77 ∧ 7 ≤ 69 ∧ 69 ≤ 10) by decide) (W_n W117 (by decide) (W_n W110 (by decide) c_103)))
            have t_156 : (M137.2.1 77 69).toInt = (M.2.1 77 69).toInt := congrArg Int32.toInt c_155
            have s_158 := Wx_f (M := M93) (M1 := M137) (((M93.2.1 77 65).toInt).toNat - 1) (fun i z => (F_n F131 (show ¬ (115 = 77 ∧ 7 ≤ i ∧ i ≤ 10) by (first | (clear q12 h28 h29 h83 p_91 s_s p_135; omega) | (clear q12 h28 h29 p_91 s_s p_135; omega) | omega)) (W_n W117 (by (first | (clear q12 h28 h29 h83 p_91 s_s p_135; omega) | (clear q12 h28 h29 p_91 s_s p_135; omega) | omega)) (W_n W110 (by (first | (clear q12 h28 h29 h83 p_91 s_s p_135; omega) | (clear q12 h28 h29 p_91 s_s p_135; omega) | omega)) rfl))))
            have j_157 : QK M137 := QK_i (by unfold QK_c; rw [show ((M137.2.1 77 65).toInt).toNat = ((M93.2.1 77 65).toInt).toNat - 1 by (first | (clear q12 h28 h29 h83 p_91 s_s p_135; omega) | (clear q12 h28 h29 p_91 s_s p_135; omega) | omega)]; refine ⟨by (first | (clear q12 h28 h29 h83 p_91 s_s p_135; omega) | (clear q12 h28 h29 p_91 s_s p_135; omega) | omega), by (first | (clear q12 h28 h29 h83 p_91 s_s p_135; omega) | (clear q12 h28 h29 p_91 s_s p_135; omega) | omega), by (first | (clear q12 h28 h29 h83 p_91 s_s p_135; omega) | (clear q12 h28 h29 p_91 s_s p_135; omega) | omega), by (first | (clear q12 h28 h29 h83 p_91 s_s p_135; omega) | (clear q12 h28 h29 p_91 s_s p_135; omega) | omega)⟩) (fun i z => by rw [(F_n F131 (show ¬ (115 = 77 ∧ 7 ≤ i ∧ i ≤ 10) by (first | (clear q12 h28 h29 h83 p_91 s_s p_135; omega) | (clear q12 h28 h29 p_91 s_s p_135; omega) | omega)) (W_n W117 (by (first | (clear q12 h28 h29 h83 p_91 s_s p_135; omega) | (clear q12 h28 h29 p_91 s_s p_135; omega) | omega)) (W_n W110 (by (first | (clear q12 h28 h29 h83 p_91 s_s p_135; omega) | (clear q12 h28 h29 p_91 s_s p_135; omega) | omega)) rfl)))]; exact p_89.2.1 i (by (first | (clear q12 h28 h29 h83 p_91 s_s p_135; omega) | (clear q12 h28 h29 p_91 s_s p_135; omega) | omega))) (by rw [(F_n F131 (show ¬ (77 = 77 ∧ 7 ≤ 59 ∧ 59 ≤ 10) by decide) (W_n W117 (by (first | (clear q12 h28 h29 h83 p_91 s_s p_135; omega) | (clear q12 h28 h29 p_91 s_s p_135; omega) | omega)) (W_n W110 (by (first | (clear q12 h28 h29 h83 p_91 s_s p_135; omega) | (clear q12 h28 h29 p_91 s_s p_135; omega) | omega)) rfl)))]; exact KN_f (fun a i z => (F_n F131 (show ¬ (a = 77 ∧ 7 ≤ i ∧ i ≤ 10) by (first | (clear q12 h28 h29 h83 p_91 s_s p_135; omega) | (clear q12 h28 h29 p_91 s_s p_135; omega) | omega)) (W_n W117 (by (first | (clear q12 h28 h29 h83 p_91 s_s p_135; omega) | (clear q12 h28 h29 p_91 s_s p_135; omega) | omega)) (W_n W110 (by (first | (clear q12 h28 h29 h83 p_91 s_s p_135; omega) | (clear q12 h28 h29 p_91 s_s p_135; omega) | omega)) rfl)))) p_89.2.2)
            exact h (1 : Int32) M137 hG132 F138 (by decide) (by decide) (by (first | (clear q12 h28 h29 h83 p_91 s_s p_135; omega) | (clear q12 h28 h29 p_91 s_s p_135; omega) | omega)) (by (first | (clear q12 h28 h29 h83 p_91 s_s p_135; omega) | (clear q12 h28 h29 p_91 s_s p_135; omega) | omega)) (by (first | (clear q12 h28 h29 h83 p_91 s_s p_135; omega) | (clear q12 h28 h29 p_91 s_s p_135; omega) | omega)) (by (first | (clear q12 h28 h29 h83 p_91 s_s p_135; omega) | (clear q12 h28 h29 p_91 s_s p_135; omega) | omega)) (fun _ => j_157) (fun _ => by rw [show ((M137.2.1 77 65).toInt).toNat = ((M93.2.1 77 65).toInt).toNat - 1 by (first | (clear q12 h28 h29 h83 p_91 s_s p_135; omega) | (clear q12 h28 h29 p_91 s_s p_135; omega) | omega)]; (first | (clear q12 h28 h29 h83 p_91 s_s p_135; omega) | (clear q12 h28 h29 p_91 s_s p_135; omega) | omega)) (fun _ => p_136.1) (fun _ => ⟨(x_bd 1 Wl9 P9).1.tail, (x_bd 1 Wl9 P9).2, GST_t z_107 (by (first | (clear q12 h28 h29 h83 p_91 s_s p_135; omega) | (clear q12 h28 h29 p_91 s_s p_135; omega) | omega)) (fun a i z => (F_n F131 (show ¬ (a = 77 ∧ 7 ≤ i ∧ i ≤ 10) by (first | (clear q12 h28 h29 h83 p_91 s_s p_135; omega) | (clear q12 h28 h29 p_91 s_s p_135; omega) | omega)) (W_n W117 (by (first | (clear q12 h28 h29 h83 p_91 s_s p_135; omega) | (clear q12 h28 h29 p_91 s_s p_135; omega) | omega)) (W_n W110 (by (first | (clear q12 h28 h29 h83 p_91 s_s p_135; omega) | (clear q12 h28 h29 p_91 s_s p_135; omega) | omega)) rfl)))) (by (first | (clear q12 h28 h29 h83 p_91 s_s p_135; omega) | (clear q12 h28 h29 p_91 s_s p_135; omega) | omega)), (g_rp (by (first | (clear q12 h28 h29 h83 p_91 s_s p_135; omega) | (clear q12 h28 h29 p_91 s_s p_135; omega) | omega)) (by (first | (clear q12 h28 h29 h83 p_91 s_s p_135; omega) | (clear q12 h28 h29 p_91 s_s p_135; omega) | omega)) (by (first | (clear q12 h28 h29 h83 p_91 s_s p_135; omega) | (clear q12 h28 h29 p_91 s_s p_135; omega) | omega)) (by (first | (clear q12 h28 h29 h83 p_91 s_s p_135; omega) | (clear q12 h28 h29 p_91 s_s p_135; omega) | omega))).trans (g_v (by (first | (clear q12 h28 h29 h83 p_91 s_s p_135; omega) | (clear q12 h28 h29 p_91 s_s p_135; omega) | omega)) (by (first | (clear q12 h28 h29 h83 p_91 s_s p_135; omega) | (clear q12 h28 h29 p_91 s_s p_135; omega) | omega)) (by (first | (clear q12 h28 h29 h83 p_91 s_s p_135; omega) | (clear q12 h28 h29 p_91 s_s p_135; omega) | omega)) rfl (by (first | (clear q12 h28 h29 h83 p_91 s_s p_135; omega) | (clear q12 h28 h29 p_91 s_s p_135; omega) | omega)))⟩) (fun z => absurd z (by decide))
          · have z_159 := RS_4 q4 (a := a) (by (first | (clear q12 h28 h29; omega) | (clear q12 h28; omega) | omega)) (by (first | (clear q12 h28 h29; omega) | (clear q12 h28; omega) | omega))
            refine to_an (pc := 98) rw_226_98 rfl ?_
            refine to_c (pc := 99) rw_226_99 (x := (1 : Int32)) rfl rfl ?_
            refine s_v (pc := 100) rw_226_100 (dp0 hd (by decide)) (ls0 := [.ref 77, .int (1 : Int32)]) rfl (Nat.le_of_ble_eq_true rfl) (Nat.le_of_ble_eq_true rfl) rfl (to_rc rfl rfl rfl (g_o hG rfl)) rfl ?_
            refine to_an (pc := 0) rw_152_0 rfl ?_
            refine to_in (pc := 1) rw_152_1 rfl ?_
            refine s_pI (pc := 2) rw_152_2 hG rfl (fun M161 W160 => ?_)
            have hG162 := g_wf hG W160 rfl rfl (by decide)
            have F163 := FR.w F0 W160 (show 77 = 77 ∧ (4 = 4 ∨ 4 = 5 ∨ 7 ≤ 4 ∧ 4 ≤ 10) ∨ 77 = 77 ∧ (4 = 59 ∨ 65 ≤ 4 ∧ 4 ≤ 69) ∨ 112 ≤ 77 ∧ 77 ≤ 114 ∧ 40 ≤ 4 ∨ 77 = 115 ∨ 77 = 116 by decide)
            refine to_an (pc := 5) rw_152_5 rfl ?_
            refine to_an (pc := 6) rw_152_6 rfl ?_
            have c_164 : M161.2.1 77 10 = (M.2.1 77 10) := (W_n W160 (by decide) rfl)
            refine tt_gI (pc := 7) rw_152_7 (g_o hG162 rfl) (v := (M.2.1 77 10)) c_164 ?_
            refine s_pI (pc := 10) rw_152_10 hG162 rfl (fun M166 W165 => ?_)
            have hG167 := g_wf hG162 W165 rfl rfl (by decide)
            have F168 := FR.w F163 W165 (show 77 = 77 ∧ (5 = 4 ∨ 5 = 5 ∨ 7 ≤ 5 ∧ 5 ≤ 10) ∨ 77 = 77 ∧ (5 = 59 ∨ 65 ≤ 5 ∧ 5 ≤ 69) ∨ 112 ≤ 77 ∧ 77 ≤ 114 ∧ 40 ≤ 5 ∨ 77 = 115 ∨ 77 = 116 by decide)
            refine to_c (pc := 13) rw_152_13 (x := (0 : Int32)) rfl rfl ?_
            refine s_r1 (pc := 14) rw_152_14 (A := 0) rfl (by decide) ?_
            refine s_r1 (pc := 103) rw_226_103 (A := 0) rfl (by decide) ?_
            have k_169 : (0 : Int32).toInt = 0 := rfl
            have c_170 : M166.2.1 77 7 = (M.2.1 77 7) := (W_n W165 (by decide) (W_n W160 (by decide) rfl))
            have t_171 : (M166.2.1 77 7).toInt = (M.2.1 77 7).toInt := congrArg Int32.toInt c_170
            have c_172 : M166.2.1 77 6 = (M.2.1 77 6) := (W_n W165 (by decide) (W_n W160 (by decide) rfl))
            have t_173 : (M166.2.1 77 6).toInt = (M.2.1 77 6).toInt := congrArg Int32.toInt c_172
            have c_174 : M166.2.1 77 8 = (M.2.1 77 8) := (W_n W165 (by decide) (W_n W160 (by decide) rfl))
            have t_175 : (M166.2.1 77 8).toInt = (M.2.1 77 8).toInt := congrArg Int32.toInt c_174
            have c_176 : M166.2.1 77 4 = (1 : Int32) := (W_n W165 (by decide) (W_e W160))
            have k_177 : (1 : Int32).toInt = 1 := rfl
            have t_178 : (M166.2.1 77 4).toInt = (1 : Int32).toInt := congrArg Int32.toInt c_176
            have c_179 : M166.2.1 77 5 = (M.2.1 77 10) := (W_e W165)
            have t_180 : (M166.2.1 77 5).toInt = (M.2.1 77 10).toInt := congrArg Int32.toInt c_179
            have c_181 : M166.2.1 77 67 = (M.2.1 77 67) := (W_n W165 (by decide) (W_n W160 (by decide) rfl))
            have t_182 : (M166.2.1 77 67).toInt = (M.2.1 77 67).toInt := congrArg Int32.toInt c_181
            have c_183 : M166.2.1 77 69 = (M.2.1 77 69) := (W_n W165 (by decide) (W_n W160 (by decide) rfl))
            have t_184 : (M166.2.1 77 69).toInt = (M.2.1 77 69).toInt := congrArg Int32.toInt c_183
            exact h (0 : Int32) M166 hG167 F168 (by decide) (by decide) (by (first | (clear q12 h28 h29; omega) | (clear q12 h28; omega) | omega)) (by (first | (clear q12 h28 h29; omega) | (clear q12 h28; omega) | omega)) (by (first | (clear q12 h28 h29; omega) | (clear q12 h28; omega) | omega)) (by (first | (clear q12 h28 h29; omega) | (clear q12 h28; omega) | omega)) (fun z => absurd z (by (first | (clear q12 h28 h29; omega) | (clear q12 h28; omega) | omega))) (fun z => absurd z (by decide)) (fun z => absurd z (by decide)) (fun z => absurd z (by decide)) (fun _ => ginl (by (first | (clear q12 h28 h29; omega) | (clear q12 h28; omega) | omega)) (by (first | (clear q12 h28 h29; omega) | (clear q12 h28; omega) | omega)) (g_1x (by (first | (clear q12 h28 h29; omega) | (clear q12 h28; omega) | omega)) (by (first | (clear q12 h28 h29; omega) | (clear q12 h28; omega) | omega)) (by (first | (clear q12 h28 h29; omega) | (clear q12 h28; omega) | omega)) (by (first | (clear q12 h28 h29; omega) | (clear q12 h28; omega) | omega)) (by (first | (clear q12 h28 h29; omega) | (clear q12 h28; omega) | omega))))
    · refine to_an (pc := 8) rw_158_8 rfl ?_
      refine tt_gI (pc := 9) rw_158_9 (g_o hG rfl) (v := (M.2.1 77 9)) rfl ?_
      refine to_in (pc := 12) rw_158_12 rfl ?_
      refine b_cne (pc := 13) rw_158_13 (A := (M.2.1 77 9).toInt) (B := 13) rfl rfl (fun h185 => ?_) (fun h185 => ?_)
      · refine to_c (pc := 20) rw_158_20 (x := (0 : Int32)) rfl rfl ?_
        refine s_r1 (pc := 21) rw_158_21 (A := 0) rfl (by decide) ?_
        refine b_ieq_t (pc := 15) rw_226_15 (A := 0) rfl (by decide) ?_
        have z_186 := RS_1 q4 (a := a) (by (first | (clear q12 h28 h185; omega) | (clear q12 h28; omega) | omega)) (by (first | (clear q12 h28 h185; omega) | (clear q12 h28; omega) | omega))
        refine to_an (pc := 82) rw_226_82 rfl ?_
        refine to_c (pc := 83) rw_226_83 (x := (41 : Int32)) rfl rfl ?_
        refine s_v (pc := 85) rw_226_85 (dp0 hd (by decide)) (ls0 := [.ref 77, .int (41 : Int32)]) rfl (Nat.le_of_ble_eq_true rfl) (Nat.le_of_ble_eq_true rfl) rfl (to_rc rfl rfl rfl (g_o hG rfl)) rfl ?_
        refine to_an (pc := 0) rw_159_0 rfl ?_
        refine tt_gI (pc := 1) rw_159_1 (g_o hG rfl) (v := (M.2.1 77 8)) rfl ?_
        refine to_c (pc := 4) rw_159_4 (x := (4 : Int32)) rfl rfl ?_
        refine b_cne_t (pc := 5) rw_159_5 (A := (M.2.1 77 8).toInt) (B := 4) rfl rfl (by (first | (clear q12 h28 h185; omega) | (clear q12 h28; omega) | omega)) ?_
        refine to_c (pc := 20) rw_159_20 (x := (0 : Int32)) rfl rfl ?_
        refine s_r1 (pc := 21) rw_159_21 (A := 0) rfl (by decide) ?_
        refine b_ieq_t (pc := 88) rw_226_88 (A := 0) rfl (by decide) ?_
        refine to_an (pc := 98) rw_226_98 rfl ?_
        refine to_c (pc := 99) rw_226_99 (x := (1 : Int32)) rfl rfl ?_
        refine s_v (pc := 100) rw_226_100 (dp0 hd (by decide)) (ls0 := [.ref 77, .int (1 : Int32)]) rfl (Nat.le_of_ble_eq_true rfl) (Nat.le_of_ble_eq_true rfl) rfl (to_rc rfl rfl rfl (g_o hG rfl)) rfl ?_
        refine to_an (pc := 0) rw_152_0 rfl ?_
        refine to_in (pc := 1) rw_152_1 rfl ?_
        refine s_pI (pc := 2) rw_152_2 hG rfl (fun M188 W187 => ?_)
        have hG189 := g_wf hG W187 rfl rfl (by decide)
        have F190 := FR.w F0 W187 (show 77 = 77 ∧ (4 = 4 ∨ 4 = 5 ∨ 7 ≤ 4 ∧ 4 ≤ 10) ∨ 77 = 77 ∧ (4 = 59 ∨ 65 ≤ 4 ∧ 4 ≤ 69) ∨ 112 ≤ 77 ∧ 77 ≤ 114 ∧ 40 ≤ 4 ∨ 77 = 115 ∨ 77 = 116 by decide)
        refine to_an (pc := 5) rw_152_5 rfl ?_
        refine to_an (pc := 6) rw_152_6 rfl ?_
        have c_191 : M188.2.1 77 10 = (M.2.1 77 10) := (W_n W187 (by decide) rfl)
        refine tt_gI (pc := 7) rw_152_7 (g_o hG189 rfl) (v := (M.2.1 77 10)) c_191 ?_
        refine s_pI (pc := 10) rw_152_10 hG189 rfl (fun M193 W192 => ?_)
        have hG194 := g_wf hG189 W192 rfl rfl (by decide)
        have F195 := FR.w F190 W192 (show 77 = 77 ∧ (5 = 4 ∨ 5 = 5 ∨ 7 ≤ 5 ∧ 5 ≤ 10) ∨ 77 = 77 ∧ (5 = 59 ∨ 65 ≤ 5 ∧ 5 ≤ 69) ∨ 112 ≤ 77 ∧ 77 ≤ 114 ∧ 40 ≤ 5 ∨ 77 = 115 ∨ 77 = 116 by decide)
        refine to_c (pc := 13) rw_152_13 (x := (0 : Int32)) rfl rfl ?_
        refine s_r1 (pc := 14) rw_152_14 (A := 0) rfl (by decide) ?_
        refine s_r1 (pc := 103) rw_226_103 (A := 0) rfl (by decide) ?_
        have k_196 : (0 : Int32).toInt = 0 := rfl
        have c_197 : M193.2.1 77 7 = (M.2.1 77 7) := (W_n W192 (by decide) (W_n W187 (by decide) rfl))
        have t_198 : (M193.2.1 77 7).toInt = (M.2.1 77 7).toInt := congrArg Int32.toInt c_197
        have c_199 : M193.2.1 77 6 = (M.2.1 77 6) := (W_n W192 (by decide) (W_n W187 (by decide) rfl))
        have t_200 : (M193.2.1 77 6).toInt = (M.2.1 77 6).toInt := congrArg Int32.toInt c_199
        have c_201 : M193.2.1 77 8 = (M.2.1 77 8) := (W_n W192 (by decide) (W_n W187 (by decide) rfl))
        have t_202 : (M193.2.1 77 8).toInt = (M.2.1 77 8).toInt := congrArg Int32.toInt c_201
        have c_203 : M193.2.1 77 4 = (1 : Int32) := (W_n W192 (by decide) (W_e W187))
        have k_204 : (1 : Int32).toInt = 1 := rfl
        have t_205 : (M193.2.1 77 4).toInt = (1 : Int32).toInt := congrArg Int32.toInt c_203
        have c_206 : M193.2.1 77 5 = (M.2.1 77 10) := (W_e W192)
        have t_207 : (M193.2.1 77 5).toInt = (M.2.1 77 10).toInt := congrArg Int32.toInt c_206
        have c_208 : M193.2.1 77 67 = (M.2.1 77 67) := (W_n W192 (by decide) (W_n W187 (by decide) rfl))
        have t_209 : (M193.2.1 77 67).toInt = (M.2.1 77 67).toInt := congrArg Int32.toInt c_208
        have c_210 : M193.2.1 77 69 = (M.2.1 77 69) := (W_n W192 (by decide) (W_n W187 (by decide) rfl))
        have t_211 : (M193.2.1 77 69).toInt = (M.2.1 77 69).toInt := congrArg Int32.toInt c_210
        exact h (0 : Int32) M193 hG194 F195 (by decide) (by decide) (by (first | (clear q12 h28 h185; omega) | (clear q12 h28; omega) | omega)) (by (first | (clear q12 h28 h185; omega) | (clear q12 h28; omega) | omega)) (by (first | (clear q12 h28 h185; omega) | (clear q12 h28; omega) | omega)) (by (first | (clear q12 h28 h185; omega) | (clear q12 h28; omega) | omega)) (fun z => absurd z (by (first | (clear q12 h28 h185; omega) | (clear q12 h28; omega) | omega))) (fun z => absurd z (by decide)) (fun z => absurd z (by decide)) (fun z => absurd z (by decide)) (fun _ => ginl (by (first | (clear q12 h28 h185; omega) | (clear q12 h28; omega) | omega)) (by (first | (clear q12 h28 h185; omega) | (clear q12 h28; omega) | omega)) (g_1x (by (first | (clear q12 h28 h185; omega) | (clear q12 h28; omega) | omega)) (by (first | (clear q12 h28 h185; omega) | (clear q12 h28; omega) | omega)) (by (first | (clear q12 h28 h185; omega) | (clear q12 h28; omega) | omega)) (by (first | (clear q12 h28 h185; omega) | (clear q12 h28; omega) | omega)) (by (first | (clear q12 h28 h185; omega) | (clear q12 h28; omega) | omega))))
      · refine to_c (pc := 16) rw_158_16 (x := (1 : Int32)) rfl rfl ?_
        refine to_go (pc := 17) rw_158_17 ?_
        refine s_r1 (pc := 21) rw_158_21 (A := 1) rfl (by decide) ?_
        refine b_ieq_f (pc := 15) rw_226_15 (A := 1) rfl (by decide) ?_
        refine to_an (pc := 18) rw_226_18 rfl ?_
        refine tt_gI (pc := 19) rw_226_19 (g_o hG rfl) (v := (M.2.1 77 9)) rfl ?_
        refine to_c (pc := 22) rw_226_22 (x := (12 : Int32)) rfl rfl ?_
        refine b_cne_t (pc := 24) rw_226_24 (A := (M.2.1 77 9).toInt) (B := 12) rfl rfl (by (first | (clear q12 h28; omega) | (clear q12; omega) | omega)) ?_
        refine to_c (pc := 31) rw_226_31 (x := (4 : Int32)) rfl rfl ?_
        refine to_isn (pc := 32) rw_226_32 (ls2 := [.ref 77, .int (4 : Int32)]) rfl rfl ?_
        have z_212 := RS_1 q4 (a := a) (by (first | (clear q12 h28; omega) | (clear q12; omega) | omega)) (by (first | (clear q12 h28; omega) | (clear q12; omega) | omega))
        refine to_an (pc := 33) rw_226_33 rfl ?_
        refine s_v (pc := 34) rw_226_34 (dp0 hd (by decide)) (ls0 := [.ref 77]) rfl (Nat.le_of_ble_eq_true rfl) (Nat.le_of_ble_eq_true rfl) rfl (to_rc rfl rfl rfl (g_o hG rfl)) rfl ?_
        refine to_an (pc := 0) rw_224_0 rfl ?_
        refine tt_gI (pc := 1) rw_224_1 (g_o hG rfl) (v := (M.2.1 77 69)) rfl ?_
        refine to_c (pc := 4) rw_224_4 (x := (40 : Int32)) rfl rfl ?_
        refine b_cne (pc := 6) rw_224_6 (A := (M.2.1 77 69).toInt) (B := 40) rfl rfl (fun h213 => ?_) (fun h213 => ?_)
        · refine to_an (pc := 15) rw_224_15 rfl ?_
          refine to_dupr (pc := 16) rw_224_16 ?_
          refine tt_gI (pc := 17) rw_224_17 (g_o hG rfl) (v := (M.2.1 77 69)) rfl ?_
          refine to_c (pc := 20) rw_224_20 (x := (1 : Int32)) rfl rfl ?_
          refine s_add (pc := 21) rw_224_21 (A := (M.2.1 77 69).toInt) (B := 1) rfl rfl (by (first | (clear q12 h28 h213; omega) | (clear q12 h28; omega) | omega)) (fun v214 e215 => ?_)
          refine s_pI (pc := 22) rw_224_22 hG rfl (fun M217 W216 => ?_)
          have hG218 := g_w hG W216 (A := v214.toInt) rfl (lo := 0) (hi := 40) rfl rfl (by (first | (clear q12 h28 h213; omega) | (clear q12 h28; omega) | omega)) (by decide)
          have F219 := FR.w F0 W216 (show 77 = 77 ∧ (69 = 4 ∨ 69 = 5 ∨ 7 ≤ 69 ∧ 69 ≤ 10) ∨ 77 = 77 ∧ (69 = 59 ∨ 65 ≤ 69 ∧ 69 ≤ 69) ∨ 112 ≤ 77 ∧ 77 ≤ 114 ∧ 40 ≤ 69 ∨ 77 = 115 ∨ 77 = 116 by decide)
          refine to_c (pc := 25) rw_224_25 (x := (1 : Int32)) rfl rfl ?_
          refine s_r1 (pc := 26) rw_224_26 (A := 1) rfl (by decide) ?_
          refine b_ine_t (pc := 37) rw_226_37 (A := 1) rfl (by decide) ?_
          refine to_an (pc := 42) rw_226_42 rfl ?_
          refine to_an (pc := 43) rw_226_43 rfl ?_
          refine to_in (pc := 44) rw_226_44 rfl ?_
          refine s_v (pc := 45) rw_226_45 (dp0 hd (by decide)) (ls0 := [.ref 77, .int (4 : Int32)]) rfl (Nat.le_of_ble_eq_true rfl) (Nat.le_of_ble_eq_true rfl) rfl (to_rc rfl rfl rfl (g_o hG218 rfl)) rfl ?_
          refine to_in (pc := 0) rw_220_0 rfl ?_
          refine to_c (pc := 1) rw_220_1 (x := (2 : Int32)) rfl rfl ?_
          refine b_cne_t (pc := 2) rw_220_2 (A := 4) (B := 2) rfl rfl (by decide) ?_
          refine to_in (pc := 9) rw_220_9 rfl ?_
          refine to_c (pc := 10) rw_220_10 (x := (3 : Int32)) rfl rfl ?_
          refine b_cne_t (pc := 11) rw_220_11 (A := 4) (B := 3) rfl rfl (by decide) ?_
          refine to_in (pc := 18) rw_220_18 rfl ?_
          refine to_c (pc := 19) rw_220_19 (x := (4 : Int32)) rfl rfl ?_
          refine b_cne_f (pc := 20) rw_220_20 (A := 4) (B := 4) rfl rfl (by decide) ?_
          refine to_c (pc := 23) rw_220_23 (x := (1 : Int32)) rfl rfl ?_
          refine to_go (pc := 24) rw_220_24 ?_
          refine to_r0 (pc := 28) rw_220_28 ?_
          refine s_v (pc := 48) rw_226_48 (dp0 hd (by decide)) (ls0 := [.ref 77, .int (1 : Int32), .null, .null, .null]) rfl (Nat.le_of_ble_eq_true rfl) (Nat.le_of_ble_eq_true rfl) rfl (to_rc rfl rfl rfl (g_o hG218 rfl)) rfl ?_
          have k_220 : (1 : Int32).toInt = 1 := rfl
          have c_221 : M217.2.1 77 59 = (M.2.1 77 59) := (W_n W216 (by decide) rfl)
          have t_222 : (M217.2.1 77 59).toInt = (M.2.1 77 59).toInt := congrArg Int32.toInt c_221
          have c_223 : M217.2.1 77 65 = (M.2.1 77 65) := (W_n W216 (by decide) rfl)
          have t_224 : (M217.2.1 77 65).toInt = (M.2.1 77 65).toInt := congrArg Int32.toInt c_223
          have c_225 : M217.2.1 77 66 = (M.2.1 77 66) := (W_n W216 (by decide) rfl)
          have t_226 : (M217.2.1 77 66).toInt = (M.2.1 77 66).toInt := congrArg Int32.toInt c_225
          have c_227 : M217.2.1 77 67 = (M.2.1 77 67) := (W_n W216 (by decide) rfl)
          have t_228 : (M217.2.1 77 67).toInt = (M.2.1 77 67).toInt := congrArg Int32.toInt c_227
          have c_229 : M217.2.1 77 68 = (M.2.1 77 68) := (W_n W216 (by decide) rfl)
          have t_230 : (M217.2.1 77 68).toInt = (M.2.1 77 68).toInt := congrArg Int32.toInt c_229
          have c_231 : M217.2.1 77 69 = v214 := (W_e W216)
          have t_232 : (M217.2.1 77 69).toInt = v214.toInt := congrArg Int32.toInt c_231
          have s_234 := Wx_f (M := M) (M1 := M217) ((M.2.1 77 65).toInt).toNat (fun i z => (W_n W216 (by (first | (clear q12 h28 h213; omega) | (clear q12 h28; omega) | omega)) rfl))
          have j_233 : QK M217 := QK_i (by unfold QK_c; rw [show ((M217.2.1 77 65).toInt).toNat = ((M.2.1 77 65).toInt).toNat by (first | (clear q12 h28 h213; omega) | (clear q12 h28; omega) | omega)]; refine ⟨by (first | (clear q12 h28 h213; omega) | (clear q12 h28; omega) | omega), by (first | (clear q12 h28 h213; omega) | (clear q12 h28; omega) | omega), by (first | (clear q12 h28 h213; omega) | (clear q12 h28; omega) | omega), by (first | (clear q12 h28 h213; omega) | (clear q12 h28; omega) | omega)⟩) (fun i z => by rw [(W_n W216 (by (first | (clear q12 h28 h213; omega) | (clear q12 h28; omega) | omega)) rfl)]; exact q2.2.1 i (by (first | (clear q12 h28 h213; omega) | (clear q12 h28; omega) | omega))) (by rw [(W_n W216 (by (first | (clear q12 h28 h213; omega) | (clear q12 h28; omega) | omega)) rfl)]; exact KN_f (fun a i z => (W_n W216 (by (first | (clear q12 h28 h213; omega) | (clear q12 h28; omega) | omega)) rfl)) q2.2.2)
          refine E_223 hX (dp1 hd (by decide)) hG218 (by (first | (clear q12 h28 h213; omega) | (clear q12 h28; omega) | omega)) (by (first | (clear q12 h28 h213; omega) | (clear q12 h28; omega) | omega)) (by (first | (clear q12 h28 h213; omega) | (clear q12 h28; omega) | omega)) j_233 (GST_f (fun a i z => (W_n W216 (by (first | (clear q12 h28 h213; omega) | (clear q12 h28; omega) | omega)) rfl)) q13) (l := (1 : Int32)) (Wl9 := Wl9) (P9 := P9) (fun M241 hG236 F235 p_237 p_238 p_239 p_240 => ?_)
          have F242 := FR.c F219 F235 tg_145
          have s_243 := p_238
          have s_244 : Wo M217 ((M217.2.1 77 65).toInt).toNat = Wo M ((M.2.1 77 65).toInt).toNat := by rw [show (M217.2.1 77 65) = (M.2.1 77 65) from (W_n W216 (by (first | (clear q12 h28 h213 p_239; omega) | (clear q12 h28 p_239; omega) | omega)) rfl)]; exact (Wx_f (M := M) (M1 := M217) _ (fun i z => (W_n W216 (by (first | (clear q12 h28 h213 p_239; omega) | (clear q12 h28 p_239; omega) | omega)) rfl))).1
          have b_245 := g_b hG236 (a := 77) (i := 59) (lo := 0) (hi := 40) rfl rfl
          have b_246 := g_b hG236 (a := 77) (i := 65) (lo := 0) (hi := 48) rfl rfl
          have b_247 := g_b hG236 (a := 77) (i := 66) (lo := 0) (hi := 40) rfl rfl
          have c_248 : M241.2.1 77 67 = (M.2.1 77 67) := (F_n F235 (show ¬ (77 = 77 ∧ (67 = 59 ∨ 67 = 65 ∨ 67 = 66) ∨ 112 ≤ 77 ∧ 77 ≤ 114 ∧ 40 ≤ 67 ∨ 77 = 116) by decide) c_227)
          have t_249 : (M241.2.1 77 67).toInt = (M.2.1 77 67).toInt := congrArg Int32.toInt c_248
          have c_250 : M241.2.1 77 68 = (M.2.1 77 68) := (F_n F235 (show ¬ (77 = 77 ∧ (68 = 59 ∨ 68 = 65 ∨ 68 = 66) ∨ 112 ≤ 77 ∧ 77 ≤ 114 ∧ 40 ≤ 68 ∨ 77 = 116) by decide) c_229)
          have t_251 : (M241.2.1 77 68).toInt = (M.2.1 77 68).toInt := congrArg Int32.toInt c_250
          have c_252 : M241.2.1 77 69 = v214 := (F_n F235 (show ¬ (77 = 77 ∧ (69 = 59 ∨ 69 = 65 ∨ 69 = 66) ∨ 112 ≤ 77 ∧ 77 ≤ 114 ∧ 40 ≤ 69 ∨ 77 = 116) by decide) c_231)
          have t_253 : (M241.2.1 77 69).toInt = v214.toInt := congrArg Int32.toInt c_252
          have s_254 := QK_e p_237
          have s_255 := Wx_b M241 ((M241.2.1 77 65).toInt).toNat
          have z_256 : GST M241 (x_bd 1 Wl9 P9).1 (x_bd 1 Wl9 P9).2 := by have y := p_240; rw [show (1 : Int32).toInt = 1 from rfl] at y; exact y
          refine to_an (pc := 51) rw_226_51 rfl ?_
          refine s_gR (pc := 52) rw_226_52 hG236 rfl (v := 115) rfl ?_
          refine to_an (pc := 55) rw_226_55 rfl ?_
          refine tt_gI (pc := 56) rw_226_56 (g_o hG236 rfl) (v := (M241.2.1 77 65)) rfl ?_
          refine to_in (pc := 59) rw_226_59 rfl ?_
          refine s_ias (pc := 60) rw_226_60 hG236 rfl (n := 64) rfl (A := (M241.2.1 77 65).toInt) rfl (by (first | (clear q12 h28 h213 p_239; omega) | (clear q12 h28 p_239; omega) | omega)) (by (first | (clear q12 h28 h213 p_239; omega) | (clear q12 h28 p_239; omega) | omega)) (fun M258 W257 => ?_)
          have hG259 := g_w hG236 W257 (A := 4) rfl (lo := 0) (hi := 4) rfl rfl (by (first | (clear q12 h28 h213 p_239; omega) | (clear q12 h28 p_239; omega) | omega)) (by decide)
          have F260 := FR.w F242 W257 (show 115 = 77 ∧ (((M241.2.1 77 65).toInt).toNat = 4 ∨ ((M241.2.1 77 65).toInt).toNat = 5 ∨ 7 ≤ ((M241.2.1 77 65).toInt).toNat ∧ ((M241.2.1 77 65).toInt).toNat ≤ 10) ∨ 115 = 77 ∧ (((M241.2.1 77 65).toInt).toNat = 59 ∨ 65 ≤ ((M241.2.1 77 65).toInt).toNat ∧ ((M241.2.1 77 65).toInt).toNat ≤ 69) ∨ 112 ≤ 115 ∧ 115 ≤ 114 ∧ 40 ≤ ((M241.2.1 77 65).toInt).toNat ∨ 115 = 115 ∨ 115 = 116 by (first | (clear q12 h28 h213 p_239; omega) | (clear q12 h28 p_239; omega) | omega))
          refine to_an (pc := 61) rw_226_61 rfl ?_
          refine to_dupr (pc := 62) rw_226_62 ?_
          have c_261 : M258.2.1 77 65 = (M241.2.1 77 65) := (W_n W257 (fun z => absurd z.1 (by decide)) rfl)
          refine tt_gI (pc := 63) rw_226_63 (g_o hG259 rfl) (v := (M241.2.1 77 65)) c_261 ?_
          refine to_c (pc := 66) rw_226_66 (x := (1 : Int32)) rfl rfl ?_
          refine s_add (pc := 67) rw_226_67 (A := (M241.2.1 77 65).toInt) (B := 1) rfl rfl (by (first | (clear q12 h28 h213 p_239; omega) | (clear q12 h28 p_239; omega) | omega)) (fun v262 e263 => ?_)
          refine s_pI (pc := 68) rw_226_68 hG259 rfl (fun M265 W264 => ?_)
          have hG266 := g_w hG259 W264 (A := v262.toInt) rfl (lo := 0) (hi := 48) rfl rfl (by (first | (clear q12 h28 h213 p_239; omega) | (clear q12 h28 p_239; omega) | omega)) (by decide)
          have F267 := FR.w F260 W264 (show 77 = 77 ∧ (65 = 4 ∨ 65 = 5 ∨ 7 ≤ 65 ∧ 65 ≤ 10) ∨ 77 = 77 ∧ (65 = 59 ∨ 65 ≤ 65 ∧ 65 ≤ 69) ∨ 112 ≤ 77 ∧ 77 ≤ 114 ∧ 40 ≤ 65 ∨ 77 = 115 ∨ 77 = 116 by decide)
          refine to_an (pc := 71) rw_226_71 rfl ?_
          refine to_c (pc := 72) rw_226_72 (x := (0 : Int32)) rfl rfl ?_
          refine s_pI (pc := 73) rw_226_73 hG266 rfl (fun M269 W268 => ?_)
          have hG270 := g_w hG266 W268 (A := 0) rfl (lo := 0) (hi := 1) rfl rfl (by (first | (clear q12 h28 h213 p_239; omega) | (clear q12 h28 p_239; omega) | omega)) (by decide)
          have F271 := FR.w F267 W268 (show 77 = 77 ∧ (68 = 4 ∨ 68 = 5 ∨ 7 ≤ 68 ∧ 68 ≤ 10) ∨ 77 = 77 ∧ (68 = 59 ∨ 65 ≤ 68 ∧ 68 ≤ 69) ∨ 112 ≤ 77 ∧ 77 ≤ 114 ∧ 40 ≤ 68 ∨ 77 = 115 ∨ 77 = 116 by decide)
          refine to_an (pc := 76) rw_226_76 rfl ?_
          refine s_v (pc := 77) rw_226_77 (dp0 hd (by decide)) (ls0 := [.ref 77]) rfl (Nat.le_of_ble_eq_true rfl) (Nat.le_of_ble_eq_true rfl) rfl (to_rc rfl rfl rfl (g_o hG270 rfl)) rfl ?_
          have c_272 : M269.2.1 77 7 = (M.2.1 77 7) := (W_n W268 (by decide) (W_n W264 (by decide) (W_n W257 (fun z => absurd z.1 (by decide)) (F_n F235 (show ¬ (77 = 77 ∧ (7 = 59 ∨ 7 = 65 ∨ 7 = 66) ∨ 112 ≤ 77 ∧ 77 ≤ 114 ∧ 40 ≤ 7 ∨ 77 = 116) by decide) (W_n W216 (by decide) rfl)))))
          have t_273 : (M269.2.1 77 7).toInt = (M.2.1 77 7).toInt := congrArg Int32.toInt c_272
          have c_274 : M269.2.1 77 6 = (M.2.1 77 6) := (W_n W268 (by decide) (W_n W264 (by decide) (W_n W257 (fun z => absurd z.1 (by decide)) (F_n F235 (show ¬ (77 = 77 ∧ (6 = 59 ∨ 6 = 65 ∨ 6 = 66) ∨ 112 ≤ 77 ∧ 77 ≤ 114 ∧ 40 ≤ 6 ∨ 77 = 116) by decide) (W_n W216 (by decide) rfl)))))
          have t_275 : (M269.2.1 77 6).toInt = (M.2.1 77 6).toInt := congrArg Int32.toInt c_274
          have c_276 : M269.2.1 77 10 = (M.2.1 77 10) := (W_n W268 (by decide) (W_n W264 (by decide) (W_n W257 (fun z => absurd z.1 (by decide)) (F_n F235 (show ¬ (77 = 77 ∧ (10 = 59 ∨ 10 = 65 ∨ 10 = 66) ∨ 112 ≤ 77 ∧ 77 ≤ 114 ∧ 40 ≤ 10 ∨ 77 = 116) by decide) (W_n W216 (by decide) rfl)))))
          have t_277 : (M269.2.1 77 10).toInt = (M.2.1 77 10).toInt := congrArg Int32.toInt c_276
          have j_278 := (RS_f (fun a i z => W_n W268 (tg_153 a i z) rfl) (RS_f (fun a i z => W_n W264 (tg_148 a i z) rfl) (RS_f (fun a i z => W_n W257 (tg_154 a i _ z) rfl) (RS_f (tg_142 F235) (RS_f (fun a i z => W_n W216 (tg_155 a i z) rfl) q4)))))
          have z_279 := RS_b j_278 (a := a) (by (first | (clear q12 h28 h213 p_239; omega) | (clear q12 h28 p_239; omega) | omega))
          have j_280 := (TR_f (fun a i z => W_n W268 (tg_156 a i z) rfl) (TR_f (fun a i z => W_n W264 (tg_150 a i z) rfl) (TR_f (fun a i z => W_n W257 (tg_157 a i _ z) rfl) (TR_f (tg_143 F235) (TR_f (fun a i z => W_n W216 (tg_158 a i z) rfl) q8)))))
          have j_281 := (W9_f (fun a i z => W_n W268 (tg_159 a i z) rfl) (W9_f (fun a i z => W_n W264 (tg_152 a i z) rfl) (W9_f (fun a i z => W_n W257 (tg_160 a i _ z) rfl) (W9_f (tg_144 F235) (W9_f (fun a i z => W_n W216 (tg_161 a i z) rfl) q9)))))
          refine E_156 hX (dp1 hd (by decide)) hG270 (by (first | (clear q12 h28 h213 p_239; omega) | (clear q12 h28 p_239; omega) | omega)) (by (first | (clear q12 h28 h213 p_239; omega) | (clear q12 h28 p_239; omega) | omega)) (by (first | (clear q12 h28 h213 p_239; omega) | (clear q12 h28 p_239; omega) | omega)) (by (first | (clear q12 h28 h213 p_239; omega) | (clear q12 h28 p_239; omega) | omega)) j_280 j_281  (fun M288 hG283 F282 p_284 p_285 p_286 p_287 => ?_)
          have F289 := FR.c F271 F282 tg_146
          have b_290 := g_b hG283 (a := 77) (i := 7) (lo := 0) (hi := 500) rfl rfl
          have c_291 : M288.2.1 77 6 = (M.2.1 77 6) := (F_n F282 (show ¬ (77 = 77 ∧ 7 ≤ 6 ∧ 6 ≤ 10) by decide) c_274)
          have t_292 : (M288.2.1 77 6).toInt = (M.2.1 77 6).toInt := congrArg Int32.toInt c_291
          have b_293 := g_b hG283 (a := 77) (i := 8) (lo := 0) (hi := 5) rfl rfl
          have b_294 := g_b hG283 (a := 77) (i := 10) (lo := 0) (hi := 500) rfl rfl
          have z_295 := RS_s p_287.2 (a := a) (by (first | (clear q12 h28 h213 p_239 p_286; omega) | (clear q12 h28 p_239 p_286; omega) | omega))
          refine to_c (pc := 80) rw_226_80 (x := (1 : Int32)) rfl rfl ?_
          refine s_r1 (pc := 81) rw_226_81 (A := 1) rfl (by decide) ?_
          have c_296 : M288.2.1 77 59 = (M241.2.1 77 59) := (F_n F282 (show ¬ (77 = 77 ∧ 7 ≤ 59 ∧ 59 ≤ 10) by decide) (W_n W268 (by decide) (W_n W264 (by decide) (W_n W257 (fun z => absurd z.1 (by decide)) rfl))))
          have t_297 : (M288.2.1 77 59).toInt = (M241.2.1 77 59).toInt := congrArg Int32.toInt c_296
          have c_298 : M288.2.1 77 65 = v262 := (F_n F282 (show ¬ (77 = 77 ∧ 7 ≤ 65 ∧ 65 ≤ 10) by decide) (W_n W268 (by decide) (W_e W264)))
          have t_299 : (M288.2.1 77 65).toInt = v262.toInt := congrArg Int32.toInt c_298
          have c_300 : M288.2.1 77 66 = (M241.2.1 77 66) := (F_n F282 (show ¬ (77 = 77 ∧ 7 ≤ 66 ∧ 66 ≤ 10) by decide) (W_n W268 (by decide) (W_n W264 (by decide) (W_n W257 (fun z => absurd z.1 (by decide)) rfl))))
          have t_301 : (M288.2.1 77 66).toInt = (M241.2.1 77 66).toInt := congrArg Int32.toInt c_300
          have c_302 : M288.2.1 77 67 = (M.2.1 77 67) := (F_n F282 (show ¬ (77 = 77 ∧ 7 ≤ 67 ∧ 67 ≤ 10) by decide) (W_n W268 (by decide) (W_n W264 (by decide) (W_n W257 (fun z => absurd z.1 (by decide)) c_248))))
          have t_303 : (M288.2.1 77 67).toInt = (M.2.1 77 67).toInt := congrArg Int32.toInt c_302
          have c_304 : M288.2.1 77 68 = (0 : Int32) := (F_n F282 (show ¬ (77 = 77 ∧ 7 ≤ 68 ∧ 68 ≤ 10) by decide) (W_e W268))
          have k_305 : (0 : Int32).toInt = 0 := rfl
          have t_306 : (M288.2.1 77 68).toInt = (0 : Int32).toInt := congrArg Int32.toInt c_304
          have c_307 : M288.2.1 77 69 = v214 := (F_n F282 (show ¬ (77 = 77 ∧ 7 ≤ 69 ∧ 69 ≤ 10) by decide) (W_n W268 (by decide) (W_n W264 (by decide) (W_n W257 (fun z => absurd z.1 (by decide)) c_252))))
          have t_308 : (M288.2.1 77 69).toInt = v214.toInt := congrArg Int32.toInt c_307
          have k_310 : (4 : Int32).toInt = 4 := rfl
          have s_311 := Wx_f (M := M241) (M1 := M288) ((M241.2.1 77 65).toInt).toNat (fun i z => (F_n F282 (show ¬ (115 = 77 ∧ 7 ≤ i ∧ i ≤ 10) by (first | (clear q12 h28 h213 p_239 p_286; omega) | (clear q12 h28 p_239 p_286; omega) | omega)) (W_n W268 (by (first | (clear q12 h28 h213 p_239 p_286; omega) | (clear q12 h28 p_239 p_286; omega) | omega)) (W_n W264 (by (first | (clear q12 h28 h213 p_239 p_286; omega) | (clear q12 h28 p_239 p_286; omega) | omega)) (W_n W257 (by (first | (clear q12 h28 h213 p_239 p_286; omega) | (clear q12 h28 p_239 p_286; omega) | omega)) rfl)))))
          have s_312 : (M288.2.1 115 ((M241.2.1 77 65).toInt).toNat).toInt = (4 : Int32).toInt := by rw [show ((M241.2.1 77 65).toInt).toNat = ((M241.2.1 77 65).toInt).toNat by (first | (clear q12 h28 h213 p_239 p_286; omega) | (clear q12 h28 p_239 p_286; omega) | omega)]; exact congrArg Int32.toInt (F_n F282 (show ¬ (115 = 77 ∧ 7 ≤ (((M241.2.1 77 65).toInt).toNat) ∧ (((M241.2.1 77 65).toInt).toNat) ≤ 10) by (first | (clear q12 h28 h213 p_239 p_286; omega) | (clear q12 h28 p_239 p_286; omega) | omega)) (W_n W268 (by (first | (clear q12 h28 h213 p_239 p_286; omega) | (clear q12 h28 p_239 p_286; omega) | omega)) (W_n W264 (by (first | (clear q12 h28 h213 p_239 p_286; omega) | (clear q12 h28 p_239 p_286; omega) | omega)) (W_e W257))))
          have s_313 := Wx_s M288 ((M241.2.1 77 65).toInt).toNat
          have j_309 : QK M288 := QK_i (by unfold QK_c; rw [show ((M288.2.1 77 65).toInt).toNat = ((M241.2.1 77 65).toInt).toNat + 1 by (first | (clear q12 h28 h213 p_239 p_286 s_313; omega) | (clear q12 h28 p_239 p_286 s_313; omega) | omega)]; refine ⟨by (first | (clear q12 h28 h213 p_239 p_286 s_313; omega) | (clear q12 h28 p_239 p_286 s_313; omega) | omega), by (first | (clear q12 h28 h213 p_239 p_286 s_313; omega) | (clear q12 h28 p_239 p_286 s_313; omega) | omega), by (first | (clear q12 h28 h213 p_239 p_286 s_313; omega) | (clear q12 h28 p_239 p_286 s_313; omega) | omega), by (first | (clear q12 h28 h213 p_239 p_286 s_313; omega) | (clear q12 h28 p_239 p_286 s_313; omega) | omega)⟩) (fun i z => by
              by_cases ei : i = ((M241.2.1 77 65).toInt).toNat
              · rw [ei]; omega
              · rw [(F_n F282 (show ¬ (115 = 77 ∧ 7 ≤ i ∧ i ≤ 10) by (first | (clear q12 h28 h213 p_239 p_286 s_313; omega) | (clear q12 h28 p_239 p_286 s_313; omega) | omega)) (W_n W268 (by (first | (clear q12 h28 h213 p_239 p_286 s_313; omega) | (clear q12 h28 p_239 p_286 s_313; omega) | omega)) (W_n W264 (by (first | (clear q12 h28 h213 p_239 p_286 s_313; omega) | (clear q12 h28 p_239 p_286 s_313; omega) | omega)) (W_n W257 (by (first | (clear q12 h28 h213 p_239 p_286 s_313; omega) | (clear q12 h28 p_239 p_286 s_313; omega) | omega)) rfl))))]; exact p_237.2.1 i (by (first | (clear q12 h28 h213 p_239 p_286 s_313; omega) | (clear q12 h28 p_239 p_286 s_313; omega) | omega))) (by rw [(F_n F282 (show ¬ (77 = 77 ∧ 7 ≤ 59 ∧ 59 ≤ 10) by decide) (W_n W268 (by (first | (clear q12 h28 h213 p_239 p_286 s_313; omega) | (clear q12 h28 p_239 p_286 s_313; omega) | omega)) (W_n W264 (by (first | (clear q12 h28 h213 p_239 p_286 s_313; omega) | (clear q12 h28 p_239 p_286 s_313; omega) | omega)) (W_n W257 (by (first | (clear q12 h28 h213 p_239 p_286 s_313; omega) | (clear q12 h28 p_239 p_286 s_313; omega) | omega)) rfl))))]; exact KN_f (fun a i z => (F_n F282 (show ¬ (a = 77 ∧ 7 ≤ i ∧ i ≤ 10) by (first | (clear q12 h28 h213 p_239 p_286 s_313; omega) | (clear q12 h28 p_239 p_286 s_313; omega) | omega)) (W_n W268 (by (first | (clear q12 h28 h213 p_239 p_286 s_313; omega) | (clear q12 h28 p_239 p_286 s_313; omega) | omega)) (W_n W264 (by (first | (clear q12 h28 h213 p_239 p_286 s_313; omega) | (clear q12 h28 p_239 p_286 s_313; omega) | omega)) (W_n W257 (by (first | (clear q12 h28 h213 p_239 p_286 s_313; omega) | (clear q12 h28 p_239 p_286 s_313; omega) | omega)) rfl))))) p_237.2.2)
          exact h (1 : Int32) M288 hG283 F289 (by decide) (by decide) (by (first | (clear q12 h28 h213 p_239 p_286 s_313; omega) | (clear q12 h28 p_239 p_286 s_313; omega) | omega)) (by (first | (clear q12 h28 h213 p_239 p_286 s_313; omega) | (clear q12 h28 p_239 p_286 s_313; omega) | omega)) (by (first | (clear q12 h28 h213 p_239 p_286 s_313; omega) | (clear q12 h28 p_239 p_286 s_313; omega) | omega)) (by (first | (clear q12 h28 h213 p_239 p_286 s_313; omega) | (clear q12 h28 p_239 p_286 s_313; omega) | omega)) (fun _ => j_309) (fun _ => by rw [show ((M288.2.1 77 65).toInt).toNat = ((M241.2.1 77 65).toInt).toNat + 1 by (first | (clear q12 h28 h213 p_239 p_286 s_313; omega) | (clear q12 h28 p_239 p_286 s_313; omega) | omega)]; (first | (clear q12 h28 h213 p_239 p_286 s_313; omega) | (clear q12 h28 p_239 p_286 s_313; omega) | omega)) (fun _ => p_287.1) (fun _ => ⟨4 :: (x_bd 1 Wl9 P9).1, (x_bd 1 Wl9 P9).2, (GST_p z_256 (j := ((M241.2.1 77 65).toInt).toNat) (by (first | (clear q12 h28 h213 p_239 p_286 s_313; omega) | (clear q12 h28 p_239 p_286 s_313; omega) | omega)) (fun i hi => (F_n F282 (show ¬ (115 = 77 ∧ 7 ≤ i ∧ i ≤ 10) by (first | (clear q12 h28 h213 p_239 p_286 s_313; omega) | (clear q12 h28 p_239 p_286 s_313; omega) | omega)) (W_n W268 (by (first | (clear q12 h28 h213 p_239 p_286 s_313; omega) | (clear q12 h28 p_239 p_286 s_313; omega) | omega)) (W_n W264 (by (first | (clear q12 h28 h213 p_239 p_286 s_313; omega) | (clear q12 h28 p_239 p_286 s_313; omega) | omega)) (W_n W257 (by (first | (clear q12 h28 h213 p_239 p_286 s_313; omega) | (clear q12 h28 p_239 p_286 s_313; omega) | omega)) rfl))))) ((F_n F282 (show ¬ (115 = 77 ∧ 7 ≤ (((M241.2.1 77 65).toInt).toNat) ∧ (((M241.2.1 77 65).toInt).toNat) ≤ 10) by (first | (clear q12 h28 h213 p_239 p_286 s_313; omega) | (clear q12 h28 p_239 p_286 s_313; omega) | omega)) (W_n W268 (by (first | (clear q12 h28 h213 p_239 p_286 s_313; omega) | (clear q12 h28 p_239 p_286 s_313; omega) | omega)) (W_n W264 (by (first | (clear q12 h28 h213 p_239 p_286 s_313; omega) | (clear q12 h28 p_239 p_286 s_313; omega) | omega)) (W_e W257))))) (show (4 : Int32).toInt = 4 by (first | (clear q12 h28 h213 p_239 p_286 s_313; omega) | (clear q12 h28 p_239 p_286 s_313; omega) | omega)) (fun a i z => (F_n F282 (show ¬ (a = 77 ∧ 7 ≤ i ∧ i ≤ 10) by (first | (clear q12 h28 h213 p_239 p_286 s_313; omega) | (clear q12 h28 p_239 p_286 s_313; omega) | omega)) (W_n W268 (by (first | (clear q12 h28 h213 p_239 p_286 s_313; omega) | (clear q12 h28 p_239 p_286 s_313; omega) | omega)) (W_n W264 (by (first | (clear q12 h28 h213 p_239 p_286 s_313; omega) | (clear q12 h28 p_239 p_286 s_313; omega) | omega)) (W_n W257 (by (first | (clear q12 h28 h213 p_239 p_286 s_313; omega) | (clear q12 h28 p_239 p_286 s_313; omega) | omega)) rfl))))) (by (first | (clear q12 h28 h213 p_239 p_286 s_313; omega) | (clear q12 h28 p_239 p_286 s_313; omega) | omega))), (g_or (by (first | (clear q12 h28 h213 p_239 p_286 s_313; omega) | (clear q12 h28 p_239 p_286 s_313; omega) | omega)) (by (first | (clear q12 h28 h213 p_239 p_286 s_313; omega) | (clear q12 h28 p_239 p_286 s_313; omega) | omega)) (by (first | (clear q12 h28 h213 p_239 p_286 s_313; omega) | (clear q12 h28 p_239 p_286 s_313; omega) | omega)) (by (first | (clear q12 h28 h213 p_239 p_286 s_313; omega) | (clear q12 h28 p_239 p_286 s_313; omega) | omega)) (by (first | (clear q12 h28 h213 p_239 p_286 s_313; omega) | (clear q12 h28 p_239 p_286 s_313; omega) | omega))).trans (g_v (by (first | (clear q12 h28 h213 p_239 p_286 s_313; omega) | (clear q12 h28 p_239 p_286 s_313; omega) | omega)) (by (first | (clear q12 h28 h213 p_239 p_286 s_313; omega) | (clear q12 h28 p_239 p_286 s_313; omega) | omega)) (by (first | (clear q12 h28 h213 p_239 p_286 s_313; omega) | (clear q12 h28 p_239 p_286 s_313; omega) | omega)) rfl (by (first | (clear q12 h28 h213 p_239 p_286 s_313; omega) | (clear q12 h28 p_239 p_286 s_313; omega) | omega)))⟩) (fun z => absurd z (by decide))
        · refine to_an (pc := 9) rw_224_9 rfl ?_
          refine to_c (pc := 10) rw_224_10 (x := (2 : Int32)) rfl rfl ?_
          refine s_v (pc := 11) rw_224_11 (dp1 hd (by decide)) (ls0 := [.ref 77, .int (2 : Int32)]) rfl (Nat.le_of_ble_eq_true rfl) (Nat.le_of_ble_eq_true rfl) rfl (to_rc rfl rfl rfl (g_o hG rfl)) rfl ?_
          refine to_an (pc := 0) rw_152_0 rfl ?_
          refine to_in (pc := 1) rw_152_1 rfl ?_
          refine s_pI (pc := 2) rw_152_2 hG rfl (fun M315 W314 => ?_)
          have hG316 := g_wf hG W314 rfl rfl (by decide)
          have F317 := FR.w F0 W314 (show 77 = 77 ∧ (4 = 4 ∨ 4 = 5 ∨ 7 ≤ 4 ∧ 4 ≤ 10) ∨ 77 = 77 ∧ (4 = 59 ∨ 65 ≤ 4 ∧ 4 ≤ 69) ∨ 112 ≤ 77 ∧ 77 ≤ 114 ∧ 40 ≤ 4 ∨ 77 = 115 ∨ 77 = 116 by decide)
          refine to_an (pc := 5) rw_152_5 rfl ?_
          refine to_an (pc := 6) rw_152_6 rfl ?_
          have c_318 : M315.2.1 77 10 = (M.2.1 77 10) := (W_n W314 (by decide) rfl)
          refine tt_gI (pc := 7) rw_152_7 (g_o hG316 rfl) (v := (M.2.1 77 10)) c_318 ?_
          refine s_pI (pc := 10) rw_152_10 hG316 rfl (fun M320 W319 => ?_)
          have hG321 := g_wf hG316 W319 rfl rfl (by decide)
          have F322 := FR.w F317 W319 (show 77 = 77 ∧ (5 = 4 ∨ 5 = 5 ∨ 7 ≤ 5 ∧ 5 ≤ 10) ∨ 77 = 77 ∧ (5 = 59 ∨ 65 ≤ 5 ∧ 5 ≤ 69) ∨ 112 ≤ 77 ∧ 77 ≤ 114 ∧ 40 ≤ 5 ∨ 77 = 115 ∨ 77 = 116 by decide)
          refine to_c (pc := 13) rw_152_13 (x := (0 : Int32)) rfl rfl ?_
          refine s_r1 (pc := 14) rw_152_14 (A := 0) rfl (by decide) ?_
          refine s_r1 (pc := 14) rw_224_14 (A := 0) rfl (by decide) ?_
          refine b_ine_f (pc := 37) rw_226_37 (A := 0) rfl (by decide) ?_
          refine to_c (pc := 40) rw_226_40 (x := (0 : Int32)) rfl rfl ?_
          refine s_r1 (pc := 41) rw_226_41 (A := 0) rfl (by decide) ?_
          have k_323 : (0 : Int32).toInt = 0 := rfl
          have c_324 : M320.2.1 77 7 = (M.2.1 77 7) := (W_n W319 (by decide) (W_n W314 (by decide) rfl))
          have t_325 : (M320.2.1 77 7).toInt = (M.2.1 77 7).toInt := congrArg Int32.toInt c_324
          have c_326 : M320.2.1 77 6 = (M.2.1 77 6) := (W_n W319 (by decide) (W_n W314 (by decide) rfl))
          have t_327 : (M320.2.1 77 6).toInt = (M.2.1 77 6).toInt := congrArg Int32.toInt c_326
          have c_328 : M320.2.1 77 8 = (M.2.1 77 8) := (W_n W319 (by decide) (W_n W314 (by decide) rfl))
          have t_329 : (M320.2.1 77 8).toInt = (M.2.1 77 8).toInt := congrArg Int32.toInt c_328
          have c_330 : M320.2.1 77 4 = (2 : Int32) := (W_n W319 (by decide) (W_e W314))
          have k_331 : (2 : Int32).toInt = 2 := rfl
          have t_332 : (M320.2.1 77 4).toInt = (2 : Int32).toInt := congrArg Int32.toInt c_330
          have c_333 : M320.2.1 77 5 = (M.2.1 77 10) := (W_e W319)
          have t_334 : (M320.2.1 77 5).toInt = (M.2.1 77 10).toInt := congrArg Int32.toInt c_333
          have c_335 : M320.2.1 77 67 = (M.2.1 77 67) := (W_n W319 (by decide) (W_n W314 (by decide) rfl))
          have t_336 : (M320.2.1 77 67).toInt = (M.2.1 77 67).toInt := congrArg Int32.toInt c_335
          have c_337 : M320.2.1 77 69 = (M.2.1 77 69) := (W_n W319 (by decide) (W_n W314 (by decide) rfl))
          have t_338 : (M320.2.1 77 69).toInt = (M.2.1 77 69).toInt := congrArg Int32.toInt c_337
          exact h (0 : Int32) M320 hG321 F322 (by decide) (by decide) (by (first | (clear q12 h28; omega) | (clear q12; omega) | omega)) (by (first | (clear q12 h28; omega) | (clear q12; omega) | omega)) (by (first | (clear q12 h28; omega) | (clear q12; omega) | omega)) (by (first | (clear q12 h28; omega) | (clear q12; omega) | omega)) (fun z => absurd z (by (first | (clear q12 h28; omega) | (clear q12; omega) | omega))) (fun z => absurd z (by decide)) (fun z => absurd z (by decide)) (fun z => absurd z (by decide)) (fun _ => ginl (by (first | (clear q12 h28; omega) | (clear q12; omega) | omega)) (by (first | (clear q12 h28; omega) | (clear q12; omega) | omega)) (g_aox (by (first | (clear q12 h28; omega) | (clear q12; omega) | omega)) (by (first | (clear q12 h28; omega) | (clear q12; omega) | omega)) (by (first | (clear q12 h28; omega) | (clear q12; omega) | omega)) (by (first | (clear q12 h28; omega) | (clear q12; omega) | omega)) (by (first | (clear q12 h28; omega) | (clear q12; omega) | omega))))
  · refine to_an (pc := 8) rw_158_8 rfl ?_
    refine tt_gI (pc := 9) rw_158_9 (g_o hG rfl) (v := (M.2.1 77 9)) rfl ?_
    refine to_in (pc := 12) rw_158_12 rfl ?_
    refine b_cne (pc := 13) rw_158_13 (A := (M.2.1 77 9).toInt) (B := 12) rfl rfl (fun h339 => ?_) (fun h339 => ?_)
    · refine to_c (pc := 20) rw_158_20 (x := (0 : Int32)) rfl rfl ?_
      refine s_r1 (pc := 21) rw_158_21 (A := 0) rfl (by decide) ?_
      refine b_ine_f (pc := 6) rw_226_6 (A := 0) rfl (by decide) ?_
      refine to_an (pc := 9) rw_226_9 rfl ?_
      refine to_c (pc := 10) rw_226_10 (x := (13 : Int32)) rfl rfl ?_
      refine s_v (pc := 12) rw_226_12 (dp0 hd (by decide)) (ls0 := [.ref 77, .int (13 : Int32)]) rfl (Nat.le_of_ble_eq_true rfl) (Nat.le_of_ble_eq_true rfl) rfl (to_rc rfl rfl rfl (g_o hG rfl)) rfl ?_
      refine to_an (pc := 0) rw_158_0 rfl ?_
      refine tt_gI (pc := 1) rw_158_1 (g_o hG rfl) (v := (M.2.1 77 8)) rfl ?_
      refine to_c (pc := 4) rw_158_4 (x := (1 : Int32)) rfl rfl ?_
      refine b_cne_f (pc := 5) rw_158_5 (A := (M.2.1 77 8).toInt) (B := 1) rfl rfl (by (first | (clear q12 h339; omega) | (clear q12; omega) | omega)) ?_
      refine to_an (pc := 8) rw_158_8 rfl ?_
      refine tt_gI (pc := 9) rw_158_9 (g_o hG rfl) (v := (M.2.1 77 9)) rfl ?_
      refine to_in (pc := 12) rw_158_12 rfl ?_
      refine b_cne (pc := 13) rw_158_13 (A := (M.2.1 77 9).toInt) (B := 13) rfl rfl (fun h340 => ?_) (fun h340 => ?_)
      · refine to_c (pc := 20) rw_158_20 (x := (0 : Int32)) rfl rfl ?_
        refine s_r1 (pc := 21) rw_158_21 (A := 0) rfl (by decide) ?_
        refine b_ieq_t (pc := 15) rw_226_15 (A := 0) rfl (by decide) ?_
        have z_341 := RS_1 q4 (a := a) (by (first | (clear q12 h339 h340; omega) | (clear q12 h339; omega) | omega)) (by (first | (clear q12 h339 h340; omega) | (clear q12 h339; omega) | omega))
        refine to_an (pc := 82) rw_226_82 rfl ?_
        refine to_c (pc := 83) rw_226_83 (x := (41 : Int32)) rfl rfl ?_
        refine s_v (pc := 85) rw_226_85 (dp0 hd (by decide)) (ls0 := [.ref 77, .int (41 : Int32)]) rfl (Nat.le_of_ble_eq_true rfl) (Nat.le_of_ble_eq_true rfl) rfl (to_rc rfl rfl rfl (g_o hG rfl)) rfl ?_
        refine to_an (pc := 0) rw_159_0 rfl ?_
        refine tt_gI (pc := 1) rw_159_1 (g_o hG rfl) (v := (M.2.1 77 8)) rfl ?_
        refine to_c (pc := 4) rw_159_4 (x := (4 : Int32)) rfl rfl ?_
        refine b_cne_t (pc := 5) rw_159_5 (A := (M.2.1 77 8).toInt) (B := 4) rfl rfl (by (first | (clear q12 h339 h340; omega) | (clear q12 h339; omega) | omega)) ?_
        refine to_c (pc := 20) rw_159_20 (x := (0 : Int32)) rfl rfl ?_
        refine s_r1 (pc := 21) rw_159_21 (A := 0) rfl (by decide) ?_
        refine b_ieq_t (pc := 88) rw_226_88 (A := 0) rfl (by decide) ?_
        refine to_an (pc := 98) rw_226_98 rfl ?_
        refine to_c (pc := 99) rw_226_99 (x := (1 : Int32)) rfl rfl ?_
        refine s_v (pc := 100) rw_226_100 (dp0 hd (by decide)) (ls0 := [.ref 77, .int (1 : Int32)]) rfl (Nat.le_of_ble_eq_true rfl) (Nat.le_of_ble_eq_true rfl) rfl (to_rc rfl rfl rfl (g_o hG rfl)) rfl ?_
        refine to_an (pc := 0) rw_152_0 rfl ?_
        refine to_in (pc := 1) rw_152_1 rfl ?_
        refine s_pI (pc := 2) rw_152_2 hG rfl (fun M343 W342 => ?_)
        have hG344 := g_wf hG W342 rfl rfl (by decide)
        have F345 := FR.w F0 W342 (show 77 = 77 ∧ (4 = 4 ∨ 4 = 5 ∨ 7 ≤ 4 ∧ 4 ≤ 10) ∨ 77 = 77 ∧ (4 = 59 ∨ 65 ≤ 4 ∧ 4 ≤ 69) ∨ 112 ≤ 77 ∧ 77 ≤ 114 ∧ 40 ≤ 4 ∨ 77 = 115 ∨ 77 = 116 by decide)
        refine to_an (pc := 5) rw_152_5 rfl ?_
        refine to_an (pc := 6) rw_152_6 rfl ?_
        have c_346 : M343.2.1 77 10 = (M.2.1 77 10) := (W_n W342 (by decide) rfl)
        refine tt_gI (pc := 7) rw_152_7 (g_o hG344 rfl) (v := (M.2.1 77 10)) c_346 ?_
        refine s_pI (pc := 10) rw_152_10 hG344 rfl (fun M348 W347 => ?_)
        have hG349 := g_wf hG344 W347 rfl rfl (by decide)
        have F350 := FR.w F345 W347 (show 77 = 77 ∧ (5 = 4 ∨ 5 = 5 ∨ 7 ≤ 5 ∧ 5 ≤ 10) ∨ 77 = 77 ∧ (5 = 59 ∨ 65 ≤ 5 ∧ 5 ≤ 69) ∨ 112 ≤ 77 ∧ 77 ≤ 114 ∧ 40 ≤ 5 ∨ 77 = 115 ∨ 77 = 116 by decide)
        refine to_c (pc := 13) rw_152_13 (x := (0 : Int32)) rfl rfl ?_
        refine s_r1 (pc := 14) rw_152_14 (A := 0) rfl (by decide) ?_
        refine s_r1 (pc := 103) rw_226_103 (A := 0) rfl (by decide) ?_
        have k_351 : (0 : Int32).toInt = 0 := rfl
        have c_352 : M348.2.1 77 7 = (M.2.1 77 7) := (W_n W347 (by decide) (W_n W342 (by decide) rfl))
        have t_353 : (M348.2.1 77 7).toInt = (M.2.1 77 7).toInt := congrArg Int32.toInt c_352
        have c_354 : M348.2.1 77 6 = (M.2.1 77 6) := (W_n W347 (by decide) (W_n W342 (by decide) rfl))
        have t_355 : (M348.2.1 77 6).toInt = (M.2.1 77 6).toInt := congrArg Int32.toInt c_354
        have c_356 : M348.2.1 77 8 = (M.2.1 77 8) := (W_n W347 (by decide) (W_n W342 (by decide) rfl))
        have t_357 : (M348.2.1 77 8).toInt = (M.2.1 77 8).toInt := congrArg Int32.toInt c_356
        have c_358 : M348.2.1 77 4 = (1 : Int32) := (W_n W347 (by decide) (W_e W342))
        have k_359 : (1 : Int32).toInt = 1 := rfl
        have t_360 : (M348.2.1 77 4).toInt = (1 : Int32).toInt := congrArg Int32.toInt c_358
        have c_361 : M348.2.1 77 5 = (M.2.1 77 10) := (W_e W347)
        have t_362 : (M348.2.1 77 5).toInt = (M.2.1 77 10).toInt := congrArg Int32.toInt c_361
        have c_363 : M348.2.1 77 67 = (M.2.1 77 67) := (W_n W347 (by decide) (W_n W342 (by decide) rfl))
        have t_364 : (M348.2.1 77 67).toInt = (M.2.1 77 67).toInt := congrArg Int32.toInt c_363
        have c_365 : M348.2.1 77 69 = (M.2.1 77 69) := (W_n W347 (by decide) (W_n W342 (by decide) rfl))
        have t_366 : (M348.2.1 77 69).toInt = (M.2.1 77 69).toInt := congrArg Int32.toInt c_365
        exact h (0 : Int32) M348 hG349 F350 (by decide) (by decide) (by (first | (clear q12 h339 h340; omega) | (clear q12 h339; omega) | omega)) (by (first | (clear q12 h339 h340; omega) | (clear q12 h339; omega) | omega)) (by (first | (clear q12 h339 h340; omega) | (clear q12 h339; omega) | omega)) (by (first | (clear q12 h339 h340; omega) | (clear q12 h339; omega) | omega)) (fun z => absurd z (by (first | (clear q12 h339 h340; omega) | (clear q12 h339; omega) | omega))) (fun z => absurd z (by decide)) (fun z => absurd z (by decide)) (fun z => absurd z (by decide)) (fun _ => ginl (by (first | (clear q12 h339 h340; omega) | (clear q12 h339; omega) | omega)) (by (first | (clear q12 h339 h340; omega) | (clear q12 h339; omega) | omega)) (g_1x (by (first | (clear q12 h339 h340; omega) | (clear q12 h339; omega) | omega)) (by (first | (clear q12 h339 h340; omega) | (clear q12 h339; omega) | omega)) (by (first | (clear q12 h339 h340; omega) | (clear q12 h339; omega) | omega)) (by (first | (clear q12 h339 h340; omega) | (clear q12 h339; omega) | omega)) (by (first | (clear q12 h339 h340; omega) | (clear q12 h339; omega) | omega))))
      · refine to_c (pc := 16) rw_158_16 (x := (1 : Int32)) rfl rfl ?_
        refine to_go (pc := 17) rw_158_17 ?_
        refine s_r1 (pc := 21) rw_158_21 (A := 1) rfl (by decide) ?_
        refine b_ieq_f (pc := 15) rw_226_15 (A := 1) rfl (by decide) ?_
        refine to_an (pc := 18) rw_226_18 rfl ?_
        refine tt_gI (pc := 19) rw_226_19 (g_o hG rfl) (v := (M.2.1 77 9)) rfl ?_
        refine to_c (pc := 22) rw_226_22 (x := (12 : Int32)) rfl rfl ?_
        refine b_cne_t (pc := 24) rw_226_24 (A := (M.2.1 77 9).toInt) (B := 12) rfl rfl (by (first | (clear q12 h339; omega) | (clear q12; omega) | omega)) ?_
        refine to_c (pc := 31) rw_226_31 (x := (4 : Int32)) rfl rfl ?_
        refine to_isn (pc := 32) rw_226_32 (ls2 := [.ref 77, .int (4 : Int32)]) rfl rfl ?_
        have z_367 := RS_1 q4 (a := a) (by (first | (clear q12 h339; omega) | (clear q12; omega) | omega)) (by (first | (clear q12 h339; omega) | (clear q12; omega) | omega))
        refine to_an (pc := 33) rw_226_33 rfl ?_
        refine s_v (pc := 34) rw_226_34 (dp0 hd (by decide)) (ls0 := [.ref 77]) rfl (Nat.le_of_ble_eq_true rfl) (Nat.le_of_ble_eq_true rfl) rfl (to_rc rfl rfl rfl (g_o hG rfl)) rfl ?_
        refine to_an (pc := 0) rw_224_0 rfl ?_
        refine tt_gI (pc := 1) rw_224_1 (g_o hG rfl) (v := (M.2.1 77 69)) rfl ?_
        refine to_c (pc := 4) rw_224_4 (x := (40 : Int32)) rfl rfl ?_
        refine b_cne (pc := 6) rw_224_6 (A := (M.2.1 77 69).toInt) (B := 40) rfl rfl (fun h368 => ?_) (fun h368 => ?_)
        · refine to_an (pc := 15) rw_224_15 rfl ?_
          refine to_dupr (pc := 16) rw_224_16 ?_
          refine tt_gI (pc := 17) rw_224_17 (g_o hG rfl) (v := (M.2.1 77 69)) rfl ?_
          refine to_c (pc := 20) rw_224_20 (x := (1 : Int32)) rfl rfl ?_
          refine s_add (pc := 21) rw_224_21 (A := (M.2.1 77 69).toInt) (B := 1) rfl rfl (by (first | (clear q12 h339 h368; omega) | (clear q12 h339; omega) | omega)) (fun v369 e370 => ?_)
          refine s_pI (pc := 22) rw_224_22 hG rfl (fun M372 W371 => ?_)
          have hG373 := g_w hG W371 (A := v369.toInt) rfl (lo := 0) (hi := 40) rfl rfl (by (first | (clear q12 h339 h368; omega) | (clear q12 h339; omega) | omega)) (by decide)
          have F374 := FR.w F0 W371 (show 77 = 77 ∧ (69 = 4 ∨ 69 = 5 ∨ 7 ≤ 69 ∧ 69 ≤ 10) ∨ 77 = 77 ∧ (69 = 59 ∨ 65 ≤ 69 ∧ 69 ≤ 69) ∨ 112 ≤ 77 ∧ 77 ≤ 114 ∧ 40 ≤ 69 ∨ 77 = 115 ∨ 77 = 116 by decide)
          refine to_c (pc := 25) rw_224_25 (x := (1 : Int32)) rfl rfl ?_
          refine s_r1 (pc := 26) rw_224_26 (A := 1) rfl (by decide) ?_
          refine b_ine_t (pc := 37) rw_226_37 (A := 1) rfl (by decide) ?_
          refine to_an (pc := 42) rw_226_42 rfl ?_
          refine to_an (pc := 43) rw_226_43 rfl ?_
          refine to_in (pc := 44) rw_226_44 rfl ?_
          refine s_v (pc := 45) rw_226_45 (dp0 hd (by decide)) (ls0 := [.ref 77, .int (4 : Int32)]) rfl (Nat.le_of_ble_eq_true rfl) (Nat.le_of_ble_eq_true rfl) rfl (to_rc rfl rfl rfl (g_o hG373 rfl)) rfl ?_
          refine to_in (pc := 0) rw_220_0 rfl ?_
          refine to_c (pc := 1) rw_220_1 (x := (2 : Int32)) rfl rfl ?_
          refine b_cne_t (pc := 2) rw_220_2 (A := 4) (B := 2) rfl rfl (by decide) ?_
          refine to_in (pc := 9) rw_220_9 rfl ?_
          refine to_c (pc := 10) rw_220_10 (x := (3 : Int32)) rfl rfl ?_
          refine b_cne_t (pc := 11) rw_220_11 (A := 4) (B := 3) rfl rfl (by decide) ?_
          refine to_in (pc := 18) rw_220_18 rfl ?_
          refine to_c (pc := 19) rw_220_19 (x := (4 : Int32)) rfl rfl ?_
          refine b_cne_f (pc := 20) rw_220_20 (A := 4) (B := 4) rfl rfl (by decide) ?_
          refine to_c (pc := 23) rw_220_23 (x := (1 : Int32)) rfl rfl ?_
          refine to_go (pc := 24) rw_220_24 ?_
          refine to_r0 (pc := 28) rw_220_28 ?_
          refine s_v (pc := 48) rw_226_48 (dp0 hd (by decide)) (ls0 := [.ref 77, .int (1 : Int32), .null, .null, .null]) rfl (Nat.le_of_ble_eq_true rfl) (Nat.le_of_ble_eq_true rfl) rfl (to_rc rfl rfl rfl (g_o hG373 rfl)) rfl ?_
          have k_375 : (1 : Int32).toInt = 1 := rfl
          have c_376 : M372.2.1 77 59 = (M.2.1 77 59) := (W_n W371 (by decide) rfl)
          have t_377 : (M372.2.1 77 59).toInt = (M.2.1 77 59).toInt := congrArg Int32.toInt c_376
          have c_378 : M372.2.1 77 65 = (M.2.1 77 65) := (W_n W371 (by decide) rfl)
          have t_379 : (M372.2.1 77 65).toInt = (M.2.1 77 65).toInt := congrArg Int32.toInt c_378
          have c_380 : M372.2.1 77 66 = (M.2.1 77 66) := (W_n W371 (by decide) rfl)
          have t_381 : (M372.2.1 77 66).toInt = (M.2.1 77 66).toInt := congrArg Int32.toInt c_380
          have c_382 : M372.2.1 77 67 = (M.2.1 77 67) := (W_n W371 (by decide) rfl)
          have t_383 : (M372.2.1 77 67).toInt = (M.2.1 77 67).toInt := congrArg Int32.toInt c_382
          have c_384 : M372.2.1 77 68 = (M.2.1 77 68) := (W_n W371 (by decide) rfl)
          have t_385 : (M372.2.1 77 68).toInt = (M.2.1 77 68).toInt := congrArg Int32.toInt c_384
          have c_386 : M372.2.1 77 69 = v369 := (W_e W371)
          have t_387 : (M372.2.1 77 69).toInt = v369.toInt := congrArg Int32.toInt c_386
          have s_389 := Wx_f (M := M) (M1 := M372) ((M.2.1 77 65).toInt).toNat (fun i z => (W_n W371 (by (first | (clear q12 h339 h368; omega) | (clear q12 h339; omega) | omega)) rfl))
          have j_388 : QK M372 := QK_i (by unfold QK_c; rw [show ((M372.2.1 77 65).toInt).toNat = ((M.2.1 77 65).toInt).toNat by (first | (clear q12 h339 h368; omega) | (clear q12 h339; omega) | omega)]; refine ⟨by (first | (clear q12 h339 h368; omega) | (clear q12 h339; omega) | omega), by (first | (clear q12 h339 h368; omega) | (clear q12 h339; omega) | omega), by (first | (clear q12 h339 h368; omega) | (clear q12 h339; omega) | omega), by (first | (clear q12 h339 h368; omega) | (clear q12 h339; omega) | omega)⟩) (fun i z => by rw [(W_n W371 (by (first | (clear q12 h339 h368; omega) | (clear q12 h339; omega) | omega)) rfl)]; exact q2.2.1 i (by (first | (clear q12 h339 h368; omega) | (clear q12 h339; omega) | omega))) (by rw [(W_n W371 (by (first | (clear q12 h339 h368; omega) | (clear q12 h339; omega) | omega)) rfl)]; exact KN_f (fun a i z => (W_n W371 (by (first | (clear q12 h339 h368; omega) | (clear q12 h339; omega) | omega)) rfl)) q2.2.2)
          refine E_223 hX (dp1 hd (by decide)) hG373 (by (first | (clear q12 h339 h368; omega) | (clear q12 h339; omega) | omega)) (by (first | (clear q12 h339 h368; omega) | (clear q12 h339; omega) | omega)) (by (first | (clear q12 h339 h368; omega) | (clear q12 h339; omega) | omega)) j_388 (GST_f (fun a i z => (W_n W371 (by (first | (clear q12 h339 h368; omega) | (clear q12 h339; omega) | omega)) rfl)) q13) (l := (1 : Int32)) (Wl9 := Wl9) (P9 := P9) (fun M396 hG391 F390 p_392 p_393 p_394 p_395 => ?_)
          have F397 := FR.c F374 F390 tg_145
          have s_398 := p_393
          have s_399 : Wo M372 ((M372.2.1 77 65).toInt).toNat = Wo M ((M.2.1 77 65).toInt).toNat := by rw [show (M372.2.1 77 65) = (M.2.1 77 65) from (W_n W371 (by (first | (clear q12 h339 h368 p_394; omega) | (clear q12 h339 p_394; omega) | omega)) rfl)]; exact (Wx_f (M := M) (M1 := M372) _ (fun i z => (W_n W371 (by (first | (clear q12 h339 h368 p_394; omega) | (clear q12 h339 p_394; omega) | omega)) rfl))).1
          have b_400 := g_b hG391 (a := 77) (i := 59) (lo := 0) (hi := 40) rfl rfl
          have b_401 := g_b hG391 (a := 77) (i := 65) (lo := 0) (hi := 48) rfl rfl
          have b_402 := g_b hG391 (a := 77) (i := 66) (lo := 0) (hi := 40) rfl rfl
          have c_403 : M396.2.1 77 67 = (M.2.1 77 67) := (F_n F390 (show ¬ (77 = 77 ∧ (67 = 59 ∨ 67 = 65 ∨ 67 = 66) ∨ 112 ≤ 77 ∧ 77 ≤ 114 ∧ 40 ≤ 67 ∨ 77 = 116) by decide) c_382)
          have t_404 : (M396.2.1 77 67).toInt = (M.2.1 77 67).toInt := congrArg Int32.toInt c_403
          have c_405 : M396.2.1 77 68 = (M.2.1 77 68) := (F_n F390 (show ¬ (77 = 77 ∧ (68 = 59 ∨ 68 = 65 ∨ 68 = 66) ∨ 112 ≤ 77 ∧ 77 ≤ 114 ∧ 40 ≤ 68 ∨ 77 = 116) by decide) c_384)
          have t_406 : (M396.2.1 77 68).toInt = (M.2.1 77 68).toInt := congrArg Int32.toInt c_405
          have c_407 : M396.2.1 77 69 = v369 := (F_n F390 (show ¬ (77 = 77 ∧ (69 = 59 ∨ 69 = 65 ∨ 69 = 66) ∨ 112 ≤ 77 ∧ 77 ≤ 114 ∧ 40 ≤ 69 ∨ 77 = 116) by decide) c_386)
          have t_408 : (M396.2.1 77 69).toInt = v369.toInt := congrArg Int32.toInt c_407
          have s_409 := QK_e p_392
          have s_410 := Wx_b M396 ((M396.2.1 77 65).toInt).toNat
          have z_411 : GST M396 (x_bd 1 Wl9 P9).1 (x_bd 1 Wl9 P9).2 := by have y := p_395; rw [show (1 : Int32).toInt = 1 from rfl] at y; exact y
          refine to_an (pc := 51) rw_226_51 rfl ?_
          refine s_gR (pc := 52) rw_226_52 hG391 rfl (v := 115) rfl ?_
          refine to_an (pc := 55) rw_226_55 rfl ?_
          refine tt_gI (pc := 56) rw_226_56 (g_o hG391 rfl) (v := (M396.2.1 77 65)) rfl ?_
          refine to_in (pc := 59) rw_226_59 rfl ?_
          refine s_ias (pc := 60) rw_226_60 hG391 rfl (n := 64) rfl (A := (M396.2.1 77 65).toInt) rfl (by (first | (clear q12 h339 h368 p_394; omega) | (clear q12 h339 p_394; omega) | omega)) (by (first | (clear q12 h339 h368 p_394; omega) | (clear q12 h339 p_394; omega) | omega)) (fun M413 W412 => ?_)
          have hG414 := g_w hG391 W412 (A := 4) rfl (lo := 0) (hi := 4) rfl rfl (by (first | (clear q12 h339 h368 p_394; omega) | (clear q12 h339 p_394; omega) | omega)) (by decide)
          have F415 := FR.w F397 W412 (show 115 = 77 ∧ (((M396.2.1 77 65).toInt).toNat = 4 ∨ ((M396.2.1 77 65).toInt).toNat = 5 ∨ 7 ≤ ((M396.2.1 77 65).toInt).toNat ∧ ((M396.2.1 77 65).toInt).toNat ≤ 10) ∨ 115 = 77 ∧ (((M396.2.1 77 65).toInt).toNat = 59 ∨ 65 ≤ ((M396.2.1 77 65).toInt).toNat ∧ ((M396.2.1 77 65).toInt).toNat ≤ 69) ∨ 112 ≤ 115 ∧ 115 ≤ 114 ∧ 40 ≤ ((M396.2.1 77 65).toInt).toNat ∨ 115 = 115 ∨ 115 = 116 by (first | (clear q12 h339 h368 p_394; omega) | (clear q12 h339 p_394; omega) | omega))
          refine to_an (pc := 61) rw_226_61 rfl ?_
          refine to_dupr (pc := 62) rw_226_62 ?_
          have c_416 : M413.2.1 77 65 = (M396.2.1 77 65) := (W_n W412 (fun z => absurd z.1 (by decide)) rfl)
          refine tt_gI (pc := 63) rw_226_63 (g_o hG414 rfl) (v := (M396.2.1 77 65)) c_416 ?_
          refine to_c (pc := 66) rw_226_66 (x := (1 : Int32)) rfl rfl ?_
          refine s_add (pc := 67) rw_226_67 (A := (M396.2.1 77 65).toInt) (B := 1) rfl rfl (by (first | (clear q12 h339 h368 p_394; omega) | (clear q12 h339 p_394; omega) | omega)) (fun v417 e418 => ?_)
          refine s_pI (pc := 68) rw_226_68 hG414 rfl (fun M420 W419 => ?_)
          have hG421 := g_w hG414 W419 (A := v417.toInt) rfl (lo := 0) (hi := 48) rfl rfl (by (first | (clear q12 h339 h368 p_394; omega) | (clear q12 h339 p_394; omega) | omega)) (by decide)
          have F422 := FR.w F415 W419 (show 77 = 77 ∧ (65 = 4 ∨ 65 = 5 ∨ 7 ≤ 65 ∧ 65 ≤ 10) ∨ 77 = 77 ∧ (65 = 59 ∨ 65 ≤ 65 ∧ 65 ≤ 69) ∨ 112 ≤ 77 ∧ 77 ≤ 114 ∧ 40 ≤ 65 ∨ 77 = 115 ∨ 77 = 116 by decide)
          refine to_an (pc := 71) rw_226_71 rfl ?_
          refine to_c (pc := 72) rw_226_72 (x := (0 : Int32)) rfl rfl ?_
          refine s_pI (pc := 73) rw_226_73 hG421 rfl (fun M424 W423 => ?_)
          have hG425 := g_w hG421 W423 (A := 0) rfl (lo := 0) (hi := 1) rfl rfl (by (first | (clear q12 h339 h368 p_394; omega) | (clear q12 h339 p_394; omega) | omega)) (by decide)
          have F426 := FR.w F422 W423 (show 77 = 77 ∧ (68 = 4 ∨ 68 = 5 ∨ 7 ≤ 68 ∧ 68 ≤ 10) ∨ 77 = 77 ∧ (68 = 59 ∨ 65 ≤ 68 ∧ 68 ≤ 69) ∨ 112 ≤ 77 ∧ 77 ≤ 114 ∧ 40 ≤ 68 ∨ 77 = 115 ∨ 77 = 116 by decide)
          refine to_an (pc := 76) rw_226_76 rfl ?_
          refine s_v (pc := 77) rw_226_77 (dp0 hd (by decide)) (ls0 := [.ref 77]) rfl (Nat.le_of_ble_eq_true rfl) (Nat.le_of_ble_eq_true rfl) rfl (to_rc rfl rfl rfl (g_o hG425 rfl)) rfl ?_
          have c_427 : M424.2.1 77 7 = (M.2.1 77 7) := (W_n W423 (by decide) (W_n W419 (by decide) (W_n W412 (fun z => absurd z.1 (by decide)) (F_n F390 (show ¬ (77 = 77 ∧ (7 = 59 ∨ 7 = 65 ∨ 7 = 66) ∨ 112 ≤ 77 ∧ 77 ≤ 114 ∧ 40 ≤ 7 ∨ 77 = 116) by decide) (W_n W371 (by decide) rfl)))))
          have t_428 : (M424.2.1 77 7).toInt = (M.2.1 77 7).toInt := congrArg Int32.toInt c_427
          have c_429 : M424.2.1 77 6 = (M.2.1 77 6) := (W_n W423 (by decide) (W_n W419 (by decide) (W_n W412 (fun z => absurd z.1 (by decide)) (F_n F390 (show ¬ (77 = 77 ∧ (6 = 59 ∨ 6 = 65 ∨ 6 = 66) ∨ 112 ≤ 77 ∧ 77 ≤ 114 ∧ 40 ≤ 6 ∨ 77 = 116) by decide) (W_n W371 (by decide) rfl)))))
          have t_430 : (M424.2.1 77 6).toInt = (M.2.1 77 6).toInt := congrArg Int32.toInt c_429
          have c_431 : M424.2.1 77 10 = (M.2.1 77 10) := (W_n W423 (by decide) (W_n W419 (by decide) (W_n W412 (fun z => absurd z.1 (by decide)) (F_n F390 (show ¬ (77 = 77 ∧ (10 = 59 ∨ 10 = 65 ∨ 10 = 66) ∨ 112 ≤ 77 ∧ 77 ≤ 114 ∧ 40 ≤ 10 ∨ 77 = 116) by decide) (W_n W371 (by decide) rfl)))))
          have t_432 : (M424.2.1 77 10).toInt = (M.2.1 77 10).toInt := congrArg Int32.toInt c_431
          have j_433 := (RS_f (fun a i z => W_n W423 (tg_153 a i z) rfl) (RS_f (fun a i z => W_n W419 (tg_148 a i z) rfl) (RS_f (fun a i z => W_n W412 (tg_154 a i _ z) rfl) (RS_f (tg_142 F390) (RS_f (fun a i z => W_n W371 (tg_155 a i z) rfl) q4)))))
          have z_434 := RS_b j_433 (a := a) (by (first | (clear q12 h339 h368 p_394; omega) | (clear q12 h339 p_394; omega) | omega))
          have j_435 := (TR_f (fun a i z => W_n W423 (tg_156 a i z) rfl) (TR_f (fun a i z => W_n W419 (tg_150 a i z) rfl) (TR_f (fun a i z => W_n W412 (tg_157 a i _ z) rfl) (TR_f (tg_143 F390) (TR_f (fun a i z => W_n W371 (tg_158 a i z) rfl) q8)))))
          have j_436 := (W9_f (fun a i z => W_n W423 (tg_159 a i z) rfl) (W9_f (fun a i z => W_n W419 (tg_152 a i z) rfl) (W9_f (fun a i z => W_n W412 (tg_160 a i _ z) rfl) (W9_f (tg_144 F390) (W9_f (fun a i z => W_n W371 (tg_161 a i z) rfl) q9)))))
          refine E_156 hX (dp1 hd (by decide)) hG425 (by (first | (clear q12 h339 h368 p_394; omega) | (clear q12 h339 p_394; omega) | omega)) (by (first | (clear q12 h339 h368 p_394; omega) | (clear q12 h339 p_394; omega) | omega)) (by (first | (clear q12 h339 h368 p_394; omega) | (clear q12 h339 p_394; omega) | omega)) (by (first | (clear q12 h339 h368 p_394; omega) | (clear q12 h339 p_394; omega) | omega)) j_435 j_436  (fun M443 hG438 F437 p_439 p_440 p_441 p_442 => ?_)
          have F444 := FR.c F426 F437 tg_146
          have b_445 := g_b hG438 (a := 77) (i := 7) (lo := 0) (hi := 500) rfl rfl
          have c_446 : M443.2.1 77 6 = (M.2.1 77 6) := (F_n F437 (show ¬ (77 = 77 ∧ 7 ≤ 6 ∧ 6 ≤ 10) by decide) c_429)
          have t_447 : (M443.2.1 77 6).toInt = (M.2.1 77 6).toInt := congrArg Int32.toInt c_446
          have b_448 := g_b hG438 (a := 77) (i := 8) (lo := 0) (hi := 5) rfl rfl
          have b_449 := g_b hG438 (a := 77) (i := 10) (lo := 0) (hi := 500) rfl rfl
          have z_450 := RS_s p_442.2 (a := a) (by (first | (clear q12 h339 h368 p_394 p_441; omega) | (clear q12 h339 p_394 p_441; omega) | omega))
          refine to_c (pc := 80) rw_226_80 (x := (1 : Int32)) rfl rfl ?_
          refine s_r1 (pc := 81) rw_226_81 (A := 1) rfl (by decide) ?_
          have c_451 : M443.2.1 77 59 = (M396.2.1 77 59) := (F_n F437 (show ¬ (77 = 77 ∧ 7 ≤ 59 ∧ 59 ≤ 10) by decide) (W_n W423 (by decide) (W_n W419 (by decide) (W_n W412 (fun z => absurd z.1 (by decide)) rfl))))
          have t_452 : (M443.2.1 77 59).toInt = (M396.2.1 77 59).toInt := congrArg Int32.toInt c_451
          have c_453 : M443.2.1 77 65 = v417 := (F_n F437 (show ¬ (77 = 77 ∧ 7 ≤ 65 ∧ 65 ≤ 10) by decide) (W_n W423 (by decide) (W_e W419)))
          have t_454 : (M443.2.1 77 65).toInt = v417.toInt := congrArg Int32.toInt c_453
          have c_455 : M443.2.1 77 66 = (M396.2.1 77 66) := (F_n F437 (show ¬ (77 = 77 ∧ 7 ≤ 66 ∧ 66 ≤ 10) by decide) (W_n W423 (by decide) (W_n W419 (by decide) (W_n W412 (fun z => absurd z.1 (by decide)) rfl))))
          have t_456 : (M443.2.1 77 66).toInt = (M396.2.1 77 66).toInt := congrArg Int32.toInt c_455
          have c_457 : M443.2.1 77 67 = (M.2.1 77 67) := (F_n F437 (show ¬ (77 = 77 ∧ 7 ≤ 67 ∧ 67 ≤ 10) by decide) (W_n W423 (by decide) (W_n W419 (by decide) (W_n W412 (fun z => absurd z.1 (by decide)) c_403))))
          have t_458 : (M443.2.1 77 67).toInt = (M.2.1 77 67).toInt := congrArg Int32.toInt c_457
          have c_459 : M443.2.1 77 68 = (0 : Int32) := (F_n F437 (show ¬ (77 = 77 ∧ 7 ≤ 68 ∧ 68 ≤ 10) by decide) (W_e W423))
          have k_460 : (0 : Int32).toInt = 0 := rfl
          have t_461 : (M443.2.1 77 68).toInt = (0 : Int32).toInt := congrArg Int32.toInt c_459
          have c_462 : M443.2.1 77 69 = v369 := (F_n F437 (show ¬ (77 = 77 ∧ 7 ≤ 69 ∧ 69 ≤ 10) by decide) (W_n W423 (by decide) (W_n W419 (by decide) (W_n W412 (fun z => absurd z.1 (by decide)) c_407))))
          have t_463 : (M443.2.1 77 69).toInt = v369.toInt := congrArg Int32.toInt c_462
          have k_465 : (4 : Int32).toInt = 4 := rfl
          have s_466 := Wx_f (M := M396) (M1 := M443) ((M396.2.1 77 65).toInt).toNat (fun i z => (F_n F437 (show ¬ (115 = 77 ∧ 7 ≤ i ∧ i ≤ 10) by (first | (clear q12 h339 h368 p_394 p_441; omega) | (clear q12 h339 p_394 p_441; omega) | omega)) (W_n W423 (by (first | (clear q12 h339 h368 p_394 p_441; omega) | (clear q12 h339 p_394 p_441; omega) | omega)) (W_n W419 (by (first | (clear q12 h339 h368 p_394 p_441; omega) | (clear q12 h339 p_394 p_441; omega) | omega)) (W_n W412 (by (first | (clear q12 h339 h368 p_394 p_441; omega) | (clear q12 h339 p_394 p_441; omega) | omega)) rfl)))))
          have s_467 : (M443.2.1 115 ((M396.2.1 77 65).toInt).toNat).toInt = (4 : Int32).toInt := by rw [show ((M396.2.1 77 65).toInt).toNat = ((M396.2.1 77 65).toInt).toNat by (first | (clear q12 h339 h368 p_394 p_441; omega) | (clear q12 h339 p_394 p_441; omega) | omega)]; exact congrArg Int32.toInt (F_n F437 (show ¬ (115 = 77 ∧ 7 ≤ (((M396.2.1 77 65).toInt).toNat) ∧ (((M396.2.1 77 65).toInt).toNat) ≤ 10) by (first | (clear q12 h339 h368 p_394 p_441; omega) | (clear q12 h339 p_394 p_441; omega) | omega)) (W_n W423 (by (first | (clear q12 h339 h368 p_394 p_441; omega) | (clear q12 h339 p_394 p_441; omega) | omega)) (W_n W419 (by (first | (clear q12 h339 h368 p_394 p_441; omega) | (clear q12 h339 p_394 p_441; omega) | omega)) (W_e W412))))
          have s_468 := Wx_s M443 ((M396.2.1 77 65).toInt).toNat
          have j_464 : QK M443 := QK_i (by unfold QK_c; rw [show ((M443.2.1 77 65).toInt).toNat = ((M396.2.1 77 65).toInt).toNat + 1 by (first | (clear q12 h339 h368 p_394 p_441 s_468; omega) | (clear q12 h339 p_394 p_441 s_468; omega) | omega)]; refine ⟨by (first | (clear q12 h339 h368 p_394 p_441 s_468; omega) | (clear q12 h339 p_394 p_441 s_468; omega) | omega), by (first | (clear q12 h339 h368 p_394 p_441 s_468; omega) | (clear q12 h339 p_394 p_441 s_468; omega) | omega), by (first | (clear q12 h339 h368 p_394 p_441 s_468; omega) | (clear q12 h339 p_394 p_441 s_468; omega) | omega), by (first | (clear q12 h339 h368 p_394 p_441 s_468; omega) | (clear q12 h339 p_394 p_441 s_468; omega) | omega)⟩) (fun i z => by
              by_cases ei : i = ((M396.2.1 77 65).toInt).toNat
              · rw [ei]; omega
              · rw [(F_n F437 (show ¬ (115 = 77 ∧ 7 ≤ i ∧ i ≤ 10) by (first | (clear q12 h339 h368 p_394 p_441 s_468; omega) | (clear q12 h339 p_394 p_441 s_468; omega) | omega)) (W_n W423 (by (first | (clear q12 h339 h368 p_394 p_441 s_468; omega) | (clear q12 h339 p_394 p_441 s_468; omega) | omega)) (W_n W419 (by (first | (clear q12 h339 h368 p_394 p_441 s_468; omega) | (clear q12 h339 p_394 p_441 s_468; omega) | omega)) (W_n W412 (by (first | (clear q12 h339 h368 p_394 p_441 s_468; omega) | (clear q12 h339 p_394 p_441 s_468; omega) | omega)) rfl))))]; exact p_392.2.1 i (by (first | (clear q12 h339 h368 p_394 p_441 s_468; omega) | (clear q12 h339 p_394 p_441 s_468; omega) | omega))) (by rw [(F_n F437 (show ¬ (77 = 77 ∧ 7 ≤ 59 ∧ 59 ≤ 10) by decide) (W_n W423 (by (first | (clear q12 h339 h368 p_394 p_441 s_468; omega) | (clear q12 h339 p_394 p_441 s_468; omega) | omega)) (W_n W419 (by (first | (clear q12 h339 h368 p_394 p_441 s_468; omega) | (clear q12 h339 p_394 p_441 s_468; omega) | omega)) (W_n W412 (by (first | (clear q12 h339 h368 p_394 p_441 s_468; omega) | (clear q12 h339 p_394 p_441 s_468; omega) | omega)) rfl))))]; exact KN_f (fun a i z => (F_n F437 (show ¬ (a = 77 ∧ 7 ≤ i ∧ i ≤ 10) by (first | (clear q12 h339 h368 p_394 p_441 s_468; omega) | (clear q12 h339 p_394 p_441 s_468; omega) | omega)) (W_n W423 (by (first | (clear q12 h339 h368 p_394 p_441 s_468; omega) | (clear q12 h339 p_394 p_441 s_468; omega) | omega)) (W_n W419 (by (first | (clear q12 h339 h368 p_394 p_441 s_468; omega) | (clear q12 h339 p_394 p_441 s_468; omega) | omega)) (W_n W412 (by (first | (clear q12 h339 h368 p_394 p_441 s_468; omega) | (clear q12 h339 p_394 p_441 s_468; omega) | omega)) rfl))))) p_392.2.2)
          exact h (1 : Int32) M443 hG438 F444 (by decide) (by decide) (by (first | (clear q12 h339 h368 p_394 p_441 s_468; omega) | (clear q12 h339 p_394 p_441 s_468; omega) | omega)) (by (first | (clear q12 h339 h368 p_394 p_441 s_468; omega) | (clear q12 h339 p_394 p_441 s_468; omega) | omega)) (by (first | (clear q12 h339 h368 p_394 p_441 s_468; omega) | (clear q12 h339 p_394 p_441 s_468; omega) | omega)) (by (first | (clear q12 h339 h368 p_394 p_441 s_468; omega) | (clear q12 h339 p_394 p_441 s_468; omega) | omega)) (fun _ => j_464) (fun _ => by rw [show ((M443.2.1 77 65).toInt).toNat = ((M396.2.1 77 65).toInt).toNat + 1 by (first | (clear q12 h339 h368 p_394 p_441 s_468; omega) | (clear q12 h339 p_394 p_441 s_468; omega) | omega)]; (first | (clear q12 h339 h368 p_394 p_441 s_468; omega) | (clear q12 h339 p_394 p_441 s_468; omega) | omega)) (fun _ => p_442.1) (fun _ => ⟨4 :: (x_bd 1 Wl9 P9).1, (x_bd 1 Wl9 P9).2, (GST_p z_411 (j := ((M396.2.1 77 65).toInt).toNat) (by (first | (clear q12 h339 h368 p_394 p_441 s_468; omega) | (clear q12 h339 p_394 p_441 s_468; omega) | omega)) (fun i hi => (F_n F437 (show ¬ (115 = 77 ∧ 7 ≤ i ∧ i ≤ 10) by (first | (clear q12 h339 h368 p_394 p_441 s_468; omega) | (clear q12 h339 p_394 p_441 s_468; omega) | omega)) (W_n W423 (by (first | (clear q12 h339 h368 p_394 p_441 s_468; omega) | (clear q12 h339 p_394 p_441 s_468; omega) | omega)) (W_n W419 (by (first | (clear q12 h339 h368 p_394 p_441 s_468; omega) | (clear q12 h339 p_394 p_441 s_468; omega) | omega)) (W_n W412 (by (first | (clear q12 h339 h368 p_394 p_441 s_468; omega) | (clear q12 h339 p_394 p_441 s_468; omega) | omega)) rfl))))) ((F_n F437 (show ¬ (115 = 77 ∧ 7 ≤ (((M396.2.1 77 65).toInt).toNat) ∧ (((M396.2.1 77 65).toInt).toNat) ≤ 10) by (first | (clear q12 h339 h368 p_394 p_441 s_468; omega) | (clear q12 h339 p_394 p_441 s_468; omega) | omega)) (W_n W423 (by (first | (clear q12 h339 h368 p_394 p_441 s_468; omega) | (clear q12 h339 p_394 p_441 s_468; omega) | omega)) (W_n W419 (by (first | (clear q12 h339 h368 p_394 p_441 s_468; omega) | (clear q12 h339 p_394 p_441 s_468; omega) | omega)) (W_e W412))))) (show (4 : Int32).toInt = 4 by (first | (clear q12 h339 h368 p_394 p_441 s_468; omega) | (clear q12 h339 p_394 p_441 s_468; omega) | omega)) (fun a i z => (F_n F437 (show ¬ (a = 77 ∧ 7 ≤ i ∧ i ≤ 10) by (first | (clear q12 h339 h368 p_394 p_441 s_468; omega) | (clear q12 h339 p_394 p_441 s_468; omega) | omega)) (W_n W423 (by (first | (clear q12 h339 h368 p_394 p_441 s_468; omega) | (clear q12 h339 p_394 p_441 s_468; omega) | omega)) (W_n W419 (by (first | (clear q12 h339 h368 p_394 p_441 s_468; omega) | (clear q12 h339 p_394 p_441 s_468; omega) | omega)) (W_n W412 (by (first | (clear q12 h339 h368 p_394 p_441 s_468; omega) | (clear q12 h339 p_394 p_441 s_468; omega) | omega)) rfl))))) (by (first | (clear q12 h339 h368 p_394 p_441 s_468; omega) | (clear q12 h339 p_394 p_441 s_468; omega) | omega))), (g_or (by (first | (clear q12 h339 h368 p_394 p_441 s_468; omega) | (clear q12 h339 p_394 p_441 s_468; omega) | omega)) (by (first | (clear q12 h339 h368 p_394 p_441 s_468; omega) | (clear q12 h339 p_394 p_441 s_468; omega) | omega)) (by (first | (clear q12 h339 h368 p_394 p_441 s_468; omega) | (clear q12 h339 p_394 p_441 s_468; omega) | omega)) (by (first | (clear q12 h339 h368 p_394 p_441 s_468; omega) | (clear q12 h339 p_394 p_441 s_468; omega) | omega)) (by (first | (clear q12 h339 h368 p_394 p_441 s_468; omega) | (clear q12 h339 p_394 p_441 s_468; omega) | omega))).trans (g_v (by (first | (clear q12 h339 h368 p_394 p_441 s_468; omega) | (clear q12 h339 p_394 p_441 s_468; omega) | omega)) (by (first | (clear q12 h339 h368 p_394 p_441 s_468; omega) | (clear q12 h339 p_394 p_441 s_468; omega) | omega)) (by (first | (clear q12 h339 h368 p_394 p_441 s_468; omega) | (clear q12 h339 p_394 p_441 s_468; omega) | omega)) rfl (by (first | (clear q12 h339 h368 p_394 p_441 s_468; omega) | (clear q12 h339 p_394 p_441 s_468; omega) | omega)))⟩) (fun z => absurd z (by decide))
        · refine to_an (pc := 9) rw_224_9 rfl ?_
          refine to_c (pc := 10) rw_224_10 (x := (2 : Int32)) rfl rfl ?_
          refine s_v (pc := 11) rw_224_11 (dp1 hd (by decide)) (ls0 := [.ref 77, .int (2 : Int32)]) rfl (Nat.le_of_ble_eq_true rfl) (Nat.le_of_ble_eq_true rfl) rfl (to_rc rfl rfl rfl (g_o hG rfl)) rfl ?_
          refine to_an (pc := 0) rw_152_0 rfl ?_
          refine to_in (pc := 1) rw_152_1 rfl ?_
          refine s_pI (pc := 2) rw_152_2 hG rfl (fun M470 W469 => ?_)
          have hG471 := g_wf hG W469 rfl rfl (by decide)
          have F472 := FR.w F0 W469 (show 77 = 77 ∧ (4 = 4 ∨ 4 = 5 ∨ 7 ≤ 4 ∧ 4 ≤ 10) ∨ 77 = 77 ∧ (4 = 59 ∨ 65 ≤ 4 ∧ 4 ≤ 69) ∨ 112 ≤ 77 ∧ 77 ≤ 114 ∧ 40 ≤ 4 ∨ 77 = 115 ∨ 77 = 116 by decide)
          refine to_an (pc := 5) rw_152_5 rfl ?_
          refine to_an (pc := 6) rw_152_6 rfl ?_
          have c_473 : M470.2.1 77 10 = (M.2.1 77 10) := (W_n W469 (by decide) rfl)
          refine tt_gI (pc := 7) rw_152_7 (g_o hG471 rfl) (v := (M.2.1 77 10)) c_473 ?_
          refine s_pI (pc := 10) rw_152_10 hG471 rfl (fun M475 W474 => ?_)
          have hG476 := g_wf hG471 W474 rfl rfl (by decide)
          have F477 := FR.w F472 W474 (show 77 = 77 ∧ (5 = 4 ∨ 5 = 5 ∨ 7 ≤ 5 ∧ 5 ≤ 10) ∨ 77 = 77 ∧ (5 = 59 ∨ 65 ≤ 5 ∧ 5 ≤ 69) ∨ 112 ≤ 77 ∧ 77 ≤ 114 ∧ 40 ≤ 5 ∨ 77 = 115 ∨ 77 = 116 by decide)
          refine to_c (pc := 13) rw_152_13 (x := (0 : Int32)) rfl rfl ?_
          refine s_r1 (pc := 14) rw_152_14 (A := 0) rfl (by decide) ?_
          refine s_r1 (pc := 14) rw_224_14 (A := 0) rfl (by decide) ?_
          refine b_ine_f (pc := 37) rw_226_37 (A := 0) rfl (by decide) ?_
          refine to_c (pc := 40) rw_226_40 (x := (0 : Int32)) rfl rfl ?_
          refine s_r1 (pc := 41) rw_226_41 (A := 0) rfl (by decide) ?_
          have k_478 : (0 : Int32).toInt = 0 := rfl
          have c_479 : M475.2.1 77 7 = (M.2.1 77 7) := (W_n W474 (by decide) (W_n W469 (by decide) rfl))
          have t_480 : (M475.2.1 77 7).toInt = (M.2.1 77 7).toInt := congrArg Int32.toInt c_479
          have c_481 : M475.2.1 77 6 = (M.2.1 77 6) := (W_n W474 (by decide) (W_n W469 (by decide) rfl))
          have t_482 : (M475.2.1 77 6).toInt = (M.2.1 77 6).toInt := congrArg Int32.toInt c_481
          have c_483 : M475.2.1 77 8 = (M.2.1 77 8) := (W_n W474 (by decide) (W_n W469 (by decide) rfl))
          have t_484 : (M475.2.1 77 8).toInt = (M.2.1 77 8).toInt := congrArg Int32.toInt c_483
          have c_485 : M475.2.1 77 4 = (2 : Int32) := (W_n W474 (by decide) (W_e W469))
          have k_486 : (2 : Int32).toInt = 2 := rfl
          have t_487 : (M475.2.1 77 4).toInt = (2 : Int32).toInt := congrArg Int32.toInt c_485
          have c_488 : M475.2.1 77 5 = (M.2.1 77 10) := (W_e W474)
          have t_489 : (M475.2.1 77 5).toInt = (M.2.1 77 10).toInt := congrArg Int32.toInt c_488
          have c_490 : M475.2.1 77 67 = (M.2.1 77 67) := (W_n W474 (by decide) (W_n W469 (by decide) rfl))
          have t_491 : (M475.2.1 77 67).toInt = (M.2.1 77 67).toInt := congrArg Int32.toInt c_490
          have c_492 : M475.2.1 77 69 = (M.2.1 77 69) := (W_n W474 (by decide) (W_n W469 (by decide) rfl))
          have t_493 : (M475.2.1 77 69).toInt = (M.2.1 77 69).toInt := congrArg Int32.toInt c_492
          exact h (0 : Int32) M475 hG476 F477 (by decide) (by decide) (by (first | (clear q12 h339; omega) | (clear q12; omega) | omega)) (by (first | (clear q12 h339; omega) | (clear q12; omega) | omega)) (by (first | (clear q12 h339; omega) | (clear q12; omega) | omega)) (by (first | (clear q12 h339; omega) | (clear q12; omega) | omega)) (fun z => absurd z (by (first | (clear q12 h339; omega) | (clear q12; omega) | omega))) (fun z => absurd z (by decide)) (fun z => absurd z (by decide)) (fun z => absurd z (by decide)) (fun _ => ginl (by (first | (clear q12 h339; omega) | (clear q12; omega) | omega)) (by (first | (clear q12 h339; omega) | (clear q12; omega) | omega)) (g_aox (by (first | (clear q12 h339; omega) | (clear q12; omega) | omega)) (by (first | (clear q12 h339; omega) | (clear q12; omega) | omega)) (by (first | (clear q12 h339; omega) | (clear q12; omega) | omega)) (by (first | (clear q12 h339; omega) | (clear q12; omega) | omega)) (by (first | (clear q12 h339; omega) | (clear q12; omega) | omega))))
    · refine to_c (pc := 16) rw_158_16 (x := (1 : Int32)) rfl rfl ?_
      refine to_go (pc := 17) rw_158_17 ?_
      refine s_r1 (pc := 21) rw_158_21 (A := 1) rfl (by decide) ?_
      refine b_ine_t (pc := 6) rw_226_6 (A := 1) rfl (by decide) ?_
      refine to_an (pc := 18) rw_226_18 rfl ?_
      refine tt_gI (pc := 19) rw_226_19 (g_o hG rfl) (v := (M.2.1 77 9)) rfl ?_
      refine to_c (pc := 22) rw_226_22 (x := (12 : Int32)) rfl rfl ?_
      refine b_cne_f (pc := 24) rw_226_24 (A := (M.2.1 77 9).toInt) (B := 12) rfl rfl (by (first | (clear q12; omega) | omega)) ?_
      refine to_c (pc := 27) rw_226_27 (x := (3 : Int32)) rfl rfl ?_
      refine to_go (pc := 28) rw_226_28 ?_
      refine to_isn (pc := 32) rw_226_32 (ls2 := [.ref 77, .int (3 : Int32)]) rfl rfl ?_
      have z_494 := RS_1 q4 (a := a) (by (first | (clear q12; omega) | omega)) (by (first | (clear q12; omega) | omega))
      refine to_an (pc := 33) rw_226_33 rfl ?_
      refine s_v (pc := 34) rw_226_34 (dp0 hd (by decide)) (ls0 := [.ref 77]) rfl (Nat.le_of_ble_eq_true rfl) (Nat.le_of_ble_eq_true rfl) rfl (to_rc rfl rfl rfl (g_o hG rfl)) rfl ?_
      refine to_an (pc := 0) rw_224_0 rfl ?_
      refine tt_gI (pc := 1) rw_224_1 (g_o hG rfl) (v := (M.2.1 77 69)) rfl ?_
      refine to_c (pc := 4) rw_224_4 (x := (40 : Int32)) rfl rfl ?_
      refine b_cne (pc := 6) rw_224_6 (A := (M.2.1 77 69).toInt) (B := 40) rfl rfl (fun h495 => ?_) (fun h495 => ?_)
      · refine to_an (pc := 15) rw_224_15 rfl ?_
        refine to_dupr (pc := 16) rw_224_16 ?_
        refine tt_gI (pc := 17) rw_224_17 (g_o hG rfl) (v := (M.2.1 77 69)) rfl ?_
        refine to_c (pc := 20) rw_224_20 (x := (1 : Int32)) rfl rfl ?_
        refine s_add (pc := 21) rw_224_21 (A := (M.2.1 77 69).toInt) (B := 1) rfl rfl (by (first | (clear q12 h495; omega) | (clear q12; omega) | omega)) (fun v496 e497 => ?_)
        refine s_pI (pc := 22) rw_224_22 hG rfl (fun M499 W498 => ?_)
        have hG500 := g_w hG W498 (A := v496.toInt) rfl (lo := 0) (hi := 40) rfl rfl (by (first | (clear q12 h495; omega) | (clear q12; omega) | omega)) (by decide)
        have F501 := FR.w F0 W498 (show 77 = 77 ∧ (69 = 4 ∨ 69 = 5 ∨ 7 ≤ 69 ∧ 69 ≤ 10) ∨ 77 = 77 ∧ (69 = 59 ∨ 65 ≤ 69 ∧ 69 ≤ 69) ∨ 112 ≤ 77 ∧ 77 ≤ 114 ∧ 40 ≤ 69 ∨ 77 = 115 ∨ 77 = 116 by decide)
        refine to_c (pc := 25) rw_224_25 (x := (1 : Int32)) rfl rfl ?_
        refine s_r1 (pc := 26) rw_224_26 (A := 1) rfl (by decide) ?_
        refine b_ine_t (pc := 37) rw_226_37 (A := 1) rfl (by decide) ?_
        refine to_an (pc := 42) rw_226_42 rfl ?_
        refine to_an (pc := 43) rw_226_43 rfl ?_
        refine to_in (pc := 44) rw_226_44 rfl ?_
        refine s_v (pc := 45) rw_226_45 (dp0 hd (by decide)) (ls0 := [.ref 77, .int (3 : Int32)]) rfl (Nat.le_of_ble_eq_true rfl) (Nat.le_of_ble_eq_true rfl) rfl (to_rc rfl rfl rfl (g_o hG500 rfl)) rfl ?_
        refine to_in (pc := 0) rw_220_0 rfl ?_
        refine to_c (pc := 1) rw_220_1 (x := (2 : Int32)) rfl rfl ?_
        refine b_cne_t (pc := 2) rw_220_2 (A := 3) (B := 2) rfl rfl (by decide) ?_
        refine to_in (pc := 9) rw_220_9 rfl ?_
        refine to_c (pc := 10) rw_220_10 (x := (3 : Int32)) rfl rfl ?_
        refine b_cne_f (pc := 11) rw_220_11 (A := 3) (B := 3) rfl rfl (by decide) ?_
        refine to_c (pc := 14) rw_220_14 (x := (2 : Int32)) rfl rfl ?_
        refine to_go (pc := 15) rw_220_15 ?_
        refine to_r0 (pc := 28) rw_220_28 ?_
        refine s_v (pc := 48) rw_226_48 (dp0 hd (by decide)) (ls0 := [.ref 77, .int (2 : Int32), .null, .null, .null]) rfl (Nat.le_of_ble_eq_true rfl) (Nat.le_of_ble_eq_true rfl) rfl (to_rc rfl rfl rfl (g_o hG500 rfl)) rfl ?_
        have k_502 : (2 : Int32).toInt = 2 := rfl
        have c_503 : M499.2.1 77 59 = (M.2.1 77 59) := (W_n W498 (by decide) rfl)
        have t_504 : (M499.2.1 77 59).toInt = (M.2.1 77 59).toInt := congrArg Int32.toInt c_503
        have c_505 : M499.2.1 77 65 = (M.2.1 77 65) := (W_n W498 (by decide) rfl)
        have t_506 : (M499.2.1 77 65).toInt = (M.2.1 77 65).toInt := congrArg Int32.toInt c_505
        have c_507 : M499.2.1 77 66 = (M.2.1 77 66) := (W_n W498 (by decide) rfl)
        have t_508 : (M499.2.1 77 66).toInt = (M.2.1 77 66).toInt := congrArg Int32.toInt c_507
        have c_509 : M499.2.1 77 67 = (M.2.1 77 67) := (W_n W498 (by decide) rfl)
        have t_510 : (M499.2.1 77 67).toInt = (M.2.1 77 67).toInt := congrArg Int32.toInt c_509
        have c_511 : M499.2.1 77 68 = (M.2.1 77 68) := (W_n W498 (by decide) rfl)
        have t_512 : (M499.2.1 77 68).toInt = (M.2.1 77 68).toInt := congrArg Int32.toInt c_511
        have c_513 : M499.2.1 77 69 = v496 := (W_e W498)
        have t_514 : (M499.2.1 77 69).toInt = v496.toInt := congrArg Int32.toInt c_513
        have s_516 := Wx_f (M := M) (M1 := M499) ((M.2.1 77 65).toInt).toNat (fun i z => (W_n W498 (by (first | (clear q12 h495; omega) | (clear q12; omega) | omega)) rfl))
        have j_515 : QK M499 := QK_i (by unfold QK_c; rw [show ((M499.2.1 77 65).toInt).toNat = ((M.2.1 77 65).toInt).toNat by (first | (clear q12 h495; omega) | (clear q12; omega) | omega)]; refine ⟨by (first | (clear q12 h495; omega) | (clear q12; omega) | omega), by (first | (clear q12 h495; omega) | (clear q12; omega) | omega), by (first | (clear q12 h495; omega) | (clear q12; omega) | omega), by (first | (clear q12 h495; omega) | (clear q12; omega) | omega)⟩) (fun i z => by rw [(W_n W498 (by (first | (clear q12 h495; omega) | (clear q12; omega) | omega)) rfl)]; exact q2.2.1 i (by (first | (clear q12 h495; omega) | (clear q12; omega) | omega))) (by rw [(W_n W498 (by (first | (clear q12 h495; omega) | (clear q12; omega) | omega)) rfl)]; exact KN_f (fun a i z => (W_n W498 (by (first | (clear q12 h495; omega) | (clear q12; omega) | omega)) rfl)) q2.2.2)
        refine E_223 hX (dp1 hd (by decide)) hG500 (by (first | (clear q12 h495; omega) | (clear q12; omega) | omega)) (by (first | (clear q12 h495; omega) | (clear q12; omega) | omega)) (by (first | (clear q12 h495; omega) | (clear q12; omega) | omega)) j_515 (GST_f (fun a i z => (W_n W498 (by (first | (clear q12 h495; omega) | (clear q12; omega) | omega)) rfl)) q13) (l := (2 : Int32)) (Wl9 := Wl9) (P9 := P9) (fun M523 hG518 F517 p_519 p_520 p_521 p_522 => ?_)
        have F524 := FR.c F501 F517 tg_145
        have s_525 := p_520
        have s_526 : Wo M499 ((M499.2.1 77 65).toInt).toNat = Wo M ((M.2.1 77 65).toInt).toNat := by rw [show (M499.2.1 77 65) = (M.2.1 77 65) from (W_n W498 (by (first | (clear q12 h495 p_521; omega) | (clear q12 p_521; omega) | omega)) rfl)]; exact (Wx_f (M := M) (M1 := M499) _ (fun i z => (W_n W498 (by (first | (clear q12 h495 p_521; omega) | (clear q12 p_521; omega) | omega)) rfl))).1
        have b_527 := g_b hG518 (a := 77) (i := 59) (lo := 0) (hi := 40) rfl rfl
        have b_528 := g_b hG518 (a := 77) (i := 65) (lo := 0) (hi := 48) rfl rfl
        have b_529 := g_b hG518 (a := 77) (i := 66) (lo := 0) (hi := 40) rfl rfl
        have c_530 : M523.2.1 77 67 = (M.2.1 77 67) := (F_n F517 (show ¬ (77 = 77 ∧ (67 = 59 ∨ 67 = 65 ∨ 67 = 66) ∨ 112 ≤ 77 ∧ 77 ≤ 114 ∧ 40 ≤ 67 ∨ 77 = 116) by decide) c_509)
        have t_531 : (M523.2.1 77 67).toInt = (M.2.1 77 67).toInt := congrArg Int32.toInt c_530
        have c_532 : M523.2.1 77 68 = (M.2.1 77 68) := (F_n F517 (show ¬ (77 = 77 ∧ (68 = 59 ∨ 68 = 65 ∨ 68 = 66) ∨ 112 ≤ 77 ∧ 77 ≤ 114 ∧ 40 ≤ 68 ∨ 77 = 116) by decide) c_511)
        have t_533 : (M523.2.1 77 68).toInt = (M.2.1 77 68).toInt := congrArg Int32.toInt c_532
        have c_534 : M523.2.1 77 69 = v496 := (F_n F517 (show ¬ (77 = 77 ∧ (69 = 59 ∨ 69 = 65 ∨ 69 = 66) ∨ 112 ≤ 77 ∧ 77 ≤ 114 ∧ 40 ≤ 69 ∨ 77 = 116) by decide) c_513)
        have t_535 : (M523.2.1 77 69).toInt = v496.toInt := congrArg Int32.toInt c_534
        have s_536 := QK_e p_519
        have s_537 := Wx_b M523 ((M523.2.1 77 65).toInt).toNat
        have z_538 : GST M523 (x_bd 2 Wl9 P9).1 (x_bd 2 Wl9 P9).2 := by have y := p_522; rw [show (2 : Int32).toInt = 2 from rfl] at y; exact y
        refine to_an (pc := 51) rw_226_51 rfl ?_
        refine s_gR (pc := 52) rw_226_52 hG518 rfl (v := 115) rfl ?_
        refine to_an (pc := 55) rw_226_55 rfl ?_
        refine tt_gI (pc := 56) rw_226_56 (g_o hG518 rfl) (v := (M523.2.1 77 65)) rfl ?_
        refine to_in (pc := 59) rw_226_59 rfl ?_
        refine s_ias (pc := 60) rw_226_60 hG518 rfl (n := 64) rfl (A := (M523.2.1 77 65).toInt) rfl (by (first | (clear q12 h495 p_521; omega) | (clear q12 p_521; omega) | omega)) (by (first | (clear q12 h495 p_521; omega) | (clear q12 p_521; omega) | omega)) (fun M540 W539 => ?_)
        have hG541 := g_w hG518 W539 (A := 3) rfl (lo := 0) (hi := 4) rfl rfl (by (first | (clear q12 h495 p_521; omega) | (clear q12 p_521; omega) | omega)) (by decide)
        have F542 := FR.w F524 W539 (show 115 = 77 ∧ (((M523.2.1 77 65).toInt).toNat = 4 ∨ ((M523.2.1 77 65).toInt).toNat = 5 ∨ 7 ≤ ((M523.2.1 77 65).toInt).toNat ∧ ((M523.2.1 77 65).toInt).toNat ≤ 10) ∨ 115 = 77 ∧ (((M523.2.1 77 65).toInt).toNat = 59 ∨ 65 ≤ ((M523.2.1 77 65).toInt).toNat ∧ ((M523.2.1 77 65).toInt).toNat ≤ 69) ∨ 112 ≤ 115 ∧ 115 ≤ 114 ∧ 40 ≤ ((M523.2.1 77 65).toInt).toNat ∨ 115 = 115 ∨ 115 = 116 by (first | (clear q12 h495 p_521; omega) | (clear q12 p_521; omega) | omega))
        refine to_an (pc := 61) rw_226_61 rfl ?_
        refine to_dupr (pc := 62) rw_226_62 ?_
        have c_543 : M540.2.1 77 65 = (M523.2.1 77 65) := (W_n W539 (fun z => absurd z.1 (by decide)) rfl)
        refine tt_gI (pc := 63) rw_226_63 (g_o hG541 rfl) (v := (M523.2.1 77 65)) c_543 ?_
        refine to_c (pc := 66) rw_226_66 (x := (1 : Int32)) rfl rfl ?_
        refine s_add (pc := 67) rw_226_67 (A := (M523.2.1 77 65).toInt) (B := 1) rfl rfl (by (first | (clear q12 h495 p_521; omega) | (clear q12 p_521; omega) | omega)) (fun v544 e545 => ?_)
        refine s_pI (pc := 68) rw_226_68 hG541 rfl (fun M547 W546 => ?_)
        have hG548 := g_w hG541 W546 (A := v544.toInt) rfl (lo := 0) (hi := 48) rfl rfl (by (first | (clear q12 h495 p_521; omega) | (clear q12 p_521; omega) | omega)) (by decide)
        have F549 := FR.w F542 W546 (show 77 = 77 ∧ (65 = 4 ∨ 65 = 5 ∨ 7 ≤ 65 ∧ 65 ≤ 10) ∨ 77 = 77 ∧ (65 = 59 ∨ 65 ≤ 65 ∧ 65 ≤ 69) ∨ 112 ≤ 77 ∧ 77 ≤ 114 ∧ 40 ≤ 65 ∨ 77 = 115 ∨ 77 = 116 by decide)
        refine to_an (pc := 71) rw_226_71 rfl ?_
        refine to_c (pc := 72) rw_226_72 (x := (0 : Int32)) rfl rfl ?_
        refine s_pI (pc := 73) rw_226_73 hG548 rfl (fun M551 W550 => ?_)
        have hG552 := g_w hG548 W550 (A := 0) rfl (lo := 0) (hi := 1) rfl rfl (by (first | (clear q12 h495 p_521; omega) | (clear q12 p_521; omega) | omega)) (by decide)
        have F553 := FR.w F549 W550 (show 77 = 77 ∧ (68 = 4 ∨ 68 = 5 ∨ 7 ≤ 68 ∧ 68 ≤ 10) ∨ 77 = 77 ∧ (68 = 59 ∨ 65 ≤ 68 ∧ 68 ≤ 69) ∨ 112 ≤ 77 ∧ 77 ≤ 114 ∧ 40 ≤ 68 ∨ 77 = 115 ∨ 77 = 116 by decide)
        refine to_an (pc := 76) rw_226_76 rfl ?_
        refine s_v (pc := 77) rw_226_77 (dp0 hd (by decide)) (ls0 := [.ref 77]) rfl (Nat.le_of_ble_eq_true rfl) (Nat.le_of_ble_eq_true rfl) rfl (to_rc rfl rfl rfl (g_o hG552 rfl)) rfl ?_
        have c_554 : M551.2.1 77 7 = (M.2.1 77 7) := (W_n W550 (by decide) (W_n W546 (by decide) (W_n W539 (fun z => absurd z.1 (by decide)) (F_n F517 (show ¬ (77 = 77 ∧ (7 = 59 ∨ 7 = 65 ∨ 7 = 66) ∨ 112 ≤ 77 ∧ 77 ≤ 114 ∧ 40 ≤ 7 ∨ 77 = 116) by decide) (W_n W498 (by decide) rfl)))))
        have t_555 : (M551.2.1 77 7).toInt = (M.2.1 77 7).toInt := congrArg Int32.toInt c_554
        have c_556 : M551.2.1 77 6 = (M.2.1 77 6) := (W_n W550 (by decide) (W_n W546 (by decide) (W_n W539 (fun z => absurd z.1 (by decide)) (F_n F517 (show ¬ (77 = 77 ∧ (6 = 59 ∨ 6 = 65 ∨ 6 = 66) ∨ 112 ≤ 77 ∧ 77 ≤ 114 ∧ 40 ≤ 6 ∨ 77 = 116) by decide) (W_n W498 (by decide) rfl)))))
        have t_557 : (M551.2.1 77 6).toInt = (M.2.1 77 6).toInt := congrArg Int32.toInt c_556
        have c_558 : M551.2.1 77 10 = (M.2.1 77 10) := (W_n W550 (by decide) (W_n W546 (by decide) (W_n W539 (fun z => absurd z.1 (by decide)) (F_n F517 (show ¬ (77 = 77 ∧ (10 = 59 ∨ 10 = 65 ∨ 10 = 66) ∨ 112 ≤ 77 ∧ 77 ≤ 114 ∧ 40 ≤ 10 ∨ 77 = 116) by decide) (W_n W498 (by decide) rfl)))))
        have t_559 : (M551.2.1 77 10).toInt = (M.2.1 77 10).toInt := congrArg Int32.toInt c_558
        have j_560 := (RS_f (fun a i z => W_n W550 (tg_153 a i z) rfl) (RS_f (fun a i z => W_n W546 (tg_148 a i z) rfl) (RS_f (fun a i z => W_n W539 (tg_154 a i _ z) rfl) (RS_f (tg_142 F517) (RS_f (fun a i z => W_n W498 (tg_155 a i z) rfl) q4)))))
        have z_561 := RS_b j_560 (a := a) (by (first | (clear q12 h495 p_521; omega) | (clear q12 p_521; omega) | omega))
        have j_562 := (TR_f (fun a i z => W_n W550 (tg_156 a i z) rfl) (TR_f (fun a i z => W_n W546 (tg_150 a i z) rfl) (TR_f (fun a i z => W_n W539 (tg_157 a i _ z) rfl) (TR_f (tg_143 F517) (TR_f (fun a i z => W_n W498 (tg_158 a i z) rfl) q8)))))
        have j_563 := (W9_f (fun a i z => W_n W550 (tg_159 a i z) rfl) (W9_f (fun a i z => W_n W546 (tg_152 a i z) rfl) (W9_f (fun a i z => W_n W539 (tg_160 a i _ z) rfl) (W9_f (tg_144 F517) (W9_f (fun a i z => W_n W498 (tg_161 a i z) rfl) q9)))))
        refine E_156 hX (dp1 hd (by decide)) hG552 (by (first | (clear q12 h495 p_521; omega) | (clear q12 p_521; omega) | omega)) (by (first | (clear q12 h495 p_521; omega) | (clear q12 p_521; omega) | omega)) (by (first | (clear q12 h495 p_521; omega) | (clear q12 p_521; omega) | omega)) (by (first | (clear q12 h495 p_521; omega) | (clear q12 p_521; omega) | omega)) j_562 j_563  (fun M570 hG565 F564 p_566 p_567 p_568 p_569 => ?_)
        have F571 := FR.c F553 F564 tg_146
        have b_572 := g_b hG565 (a := 77) (i := 7) (lo := 0) (hi := 500) rfl rfl
        have c_573 : M570.2.1 77 6 = (M.2.1 77 6) := (F_n F564 (show ¬ (77 = 77 ∧ 7 ≤ 6 ∧ 6 ≤ 10) by decide) c_556)
        have t_574 : (M570.2.1 77 6).toInt = (M.2.1 77 6).toInt := congrArg Int32.toInt c_573
        have b_575 := g_b hG565 (a := 77) (i := 8) (lo := 0) (hi := 5) rfl rfl
        have b_576 := g_b hG565 (a := 77) (i := 10) (lo := 0) (hi := 500) rfl rfl
        have z_577 := RS_s p_569.2 (a := a) (by (first | (clear q12 h495 p_521 p_568; omega) | (clear q12 p_521 p_568; omega) | omega))
        refine to_c (pc := 80) rw_226_80 (x := (1 : Int32)) rfl rfl ?_
        refine s_r1 (pc := 81) rw_226_81 (A := 1) rfl (by decide) ?_
        have k_578 : (1 : Int32).toInt = 1 := rfl
        have c_579 : M570.2.1 77 59 = (M523.2.1 77 59) := (F_n F564 (show ¬ (77 = 77 ∧ 7 ≤ 59 ∧ 59 ≤ 10) by decide) (W_n W550 (by decide) (W_n W546 (by decide) (W_n W539 (fun z => absurd z.1 (by decide)) rfl))))
        have t_580 : (M570.2.1 77 59).toInt = (M523.2.1 77 59).toInt := congrArg Int32.toInt c_579
        have c_581 : M570.2.1 77 65 = v544 := (F_n F564 (show ¬ (77 = 77 ∧ 7 ≤ 65 ∧ 65 ≤ 10) by decide) (W_n W550 (by decide) (W_e W546)))
        have t_582 : (M570.2.1 77 65).toInt = v544.toInt := congrArg Int32.toInt c_581
        have c_583 : M570.2.1 77 66 = (M523.2.1 77 66) := (F_n F564 (show ¬ (77 = 77 ∧ 7 ≤ 66 ∧ 66 ≤ 10) by decide) (W_n W550 (by decide) (W_n W546 (by decide) (W_n W539 (fun z => absurd z.1 (by decide)) rfl))))
        have t_584 : (M570.2.1 77 66).toInt = (M523.2.1 77 66).toInt := congrArg Int32.toInt c_583
        have c_585 : M570.2.1 77 67 = (M.2.1 77 67) := (F_n F564 (show ¬ (77 = 77 ∧ 7 ≤ 67 ∧ 67 ≤ 10) by decide) (W_n W550 (by decide) (W_n W546 (by decide) (W_n W539 (fun z => absurd z.1 (by decide)) c_530))))
        have t_586 : (M570.2.1 77 67).toInt = (M.2.1 77 67).toInt := congrArg Int32.toInt c_585
        have c_587 : M570.2.1 77 68 = (0 : Int32) := (F_n F564 (show ¬ (77 = 77 ∧ 7 ≤ 68 ∧ 68 ≤ 10) by decide) (W_e W550))
        have k_588 : (0 : Int32).toInt = 0 := rfl
        have t_589 : (M570.2.1 77 68).toInt = (0 : Int32).toInt := congrArg Int32.toInt c_587
        have c_590 : M570.2.1 77 69 = v496 := (F_n F564 (show ¬ (77 = 77 ∧ 7 ≤ 69 ∧ 69 ≤ 10) by decide) (W_n W550 (by decide) (W_n W546 (by decide) (W_n W539 (fun z => absurd z.1 (by decide)) c_534))))
        have t_591 : (M570.2.1 77 69).toInt = v496.toInt := congrArg Int32.toInt c_590
        have k_593 : (3 : Int32).toInt = 3 := rfl
        have s_594 := Wx_f (M := M523) (M1 := M570) ((M523.2.1 77 65).toInt).toNat (fun i z => (F_n F564 (show ¬ (115 = 77 ∧ 7 ≤ i ∧ i ≤ 10) by (first | (clear q12 h495 p_521 p_568; omega) | (clear q12 p_521 p_568; omega) | omega)) (W_n W550 (by (first | (clear q12 h495 p_521 p_568; omega) | (clear q12 p_521 p_568; omega) | omega)) (W_n W546 (by (first | (clear q12 h495 p_521 p_568; omega) | (clear q12 p_521 p_568; omega) | omega)) (W_n W539 (by (first | (clear q12 h495 p_521 p_568; omega) | (clear q12 p_521 p_568; omega) | omega)) rfl)))))
        have s_595 : (M570.2.1 115 ((M523.2.1 77 65).toInt).toNat).toInt = (3 : Int32).toInt := by rw [show ((M523.2.1 77 65).toInt).toNat = ((M523.2.1 77 65).toInt).toNat by (first | (clear q12 h495 p_521 p_568; omega) | (clear q12 p_521 p_568; omega) | omega)]; exact congrArg Int32.toInt (F_n F564 (show ¬ (115 = 77 ∧ 7 ≤ (((M523.2.1 77 65).toInt).toNat) ∧ (((M523.2.1 77 65).toInt).toNat) ≤ 10) by (first | (clear q12 h495 p_521 p_568; omega) | (clear q12 p_521 p_568; omega) | omega)) (W_n W550 (by (first | (clear q12 h495 p_521 p_568; omega) | (clear q12 p_521 p_568; omega) | omega)) (W_n W546 (by (first | (clear q12 h495 p_521 p_568; omega) | (clear q12 p_521 p_568; omega) | omega)) (W_e W539))))
        have s_596 := Wx_s M570 ((M523.2.1 77 65).toInt).toNat
        have j_592 : QK M570 := QK_i (by unfold QK_c; rw [show ((M570.2.1 77 65).toInt).toNat = ((M523.2.1 77 65).toInt).toNat + 1 by (first | (clear q12 h495 p_521 p_568 s_596; omega) | (clear q12 p_521 p_568 s_596; omega) | omega)]; refine ⟨by (first | (clear q12 h495 p_521 p_568 s_596; omega) | (clear q12 p_521 p_568 s_596; omega) | omega), by (first | (clear q12 h495 p_521 p_568 s_596; omega) | (clear q12 p_521 p_568 s_596; omega) | omega), by (first | (clear q12 h495 p_521 p_568 s_596; omega) | (clear q12 p_521 p_568 s_596; omega) | omega), by (first | (clear q12 h495 p_521 p_568 s_596; omega) | (clear q12 p_521 p_568 s_596; omega) | omega)⟩) (fun i z => by
            by_cases ei : i = ((M523.2.1 77 65).toInt).toNat
            · rw [ei]; omega
            · rw [(F_n F564 (show ¬ (115 = 77 ∧ 7 ≤ i ∧ i ≤ 10) by (first | (clear q12 h495 p_521 p_568 s_596; omega) | (clear q12 p_521 p_568 s_596; omega) | omega)) (W_n W550 (by (first | (clear q12 h495 p_521 p_568 s_596; omega) | (clear q12 p_521 p_568 s_596; omega) | omega)) (W_n W546 (by (first | (clear q12 h495 p_521 p_568 s_596; omega) | (clear q12 p_521 p_568 s_596; omega) | omega)) (W_n W539 (by (first | (clear q12 h495 p_521 p_568 s_596; omega) | (clear q12 p_521 p_568 s_596; omega) | omega)) rfl))))]; exact p_519.2.1 i (by (first | (clear q12 h495 p_521 p_568 s_596; omega) | (clear q12 p_521 p_568 s_596; omega) | omega))) (by rw [(F_n F564 (show ¬ (77 = 77 ∧ 7 ≤ 59 ∧ 59 ≤ 10) by decide) (W_n W550 (by (first | (clear q12 h495 p_521 p_568 s_596; omega) | (clear q12 p_521 p_568 s_596; omega) | omega)) (W_n W546 (by (first | (clear q12 h495 p_521 p_568 s_596; omega) | (clear q12 p_521 p_568 s_596; omega) | omega)) (W_n W539 (by (first | (clear q12 h495 p_521 p_568 s_596; omega) | (clear q12 p_521 p_568 s_596; omega) | omega)) rfl))))]; exact KN_f (fun a i z => (F_n F564 (show ¬ (a = 77 ∧ 7 ≤ i ∧ i ≤ 10) by (first | (clear q12 h495 p_521 p_568 s_596; omega) | (clear q12 p_521 p_568 s_596; omega) | omega)) (W_n W550 (by (first | (clear q12 h495 p_521 p_568 s_596; omega) | (clear q12 p_521 p_568 s_596; omega) | omega)) (W_n W546 (by (first | (clear q12 h495 p_521 p_568 s_596; omega) | (clear q12 p_521 p_568 s_596; omega) | omega)) (W_n W539 (by (first | (clear q12 h495 p_521 p_568 s_596; omega) | (clear q12 p_521 p_568 s_596; omega) | omega)) rfl))))) p_519.2.2)
        exact h (1 : Int32) M570 hG565 F571 (by decide) (by decide) (by (first | (clear q12 h495 p_521 p_568 s_596; omega) | (clear q12 p_521 p_568 s_596; omega) | omega)) (by (first | (clear q12 h495 p_521 p_568 s_596; omega) | (clear q12 p_521 p_568 s_596; omega) | omega)) (by (first | (clear q12 h495 p_521 p_568 s_596; omega) | (clear q12 p_521 p_568 s_596; omega) | omega)) (by (first | (clear q12 h495 p_521 p_568 s_596; omega) | (clear q12 p_521 p_568 s_596; omega) | omega)) (fun _ => j_592) (fun _ => by rw [show ((M570.2.1 77 65).toInt).toNat = ((M523.2.1 77 65).toInt).toNat + 1 by (first | (clear q12 h495 p_521 p_568 s_596; omega) | (clear q12 p_521 p_568 s_596; omega) | omega)]; (first | (clear q12 h495 p_521 p_568 s_596; omega) | (clear q12 p_521 p_568 s_596; omega) | omega)) (fun _ => p_569.1) (fun _ => ⟨3 :: (x_bd 2 Wl9 P9).1, (x_bd 2 Wl9 P9).2, (GST_p z_538 (j := ((M523.2.1 77 65).toInt).toNat) (by (first | (clear q12 h495 p_521 p_568 s_596; omega) | (clear q12 p_521 p_568 s_596; omega) | omega)) (fun i hi => (F_n F564 (show ¬ (115 = 77 ∧ 7 ≤ i ∧ i ≤ 10) by (first | (clear q12 h495 p_521 p_568 s_596; omega) | (clear q12 p_521 p_568 s_596; omega) | omega)) (W_n W550 (by (first | (clear q12 h495 p_521 p_568 s_596; omega) | (clear q12 p_521 p_568 s_596; omega) | omega)) (W_n W546 (by (first | (clear q12 h495 p_521 p_568 s_596; omega) | (clear q12 p_521 p_568 s_596; omega) | omega)) (W_n W539 (by (first | (clear q12 h495 p_521 p_568 s_596; omega) | (clear q12 p_521 p_568 s_596; omega) | omega)) rfl))))) ((F_n F564 (show ¬ (115 = 77 ∧ 7 ≤ (((M523.2.1 77 65).toInt).toNat) ∧ (((M523.2.1 77 65).toInt).toNat) ≤ 10) by (first | (clear q12 h495 p_521 p_568 s_596; omega) | (clear q12 p_521 p_568 s_596; omega) | omega)) (W_n W550 (by (first | (clear q12 h495 p_521 p_568 s_596; omega) | (clear q12 p_521 p_568 s_596; omega) | omega)) (W_n W546 (by (first | (clear q12 h495 p_521 p_568 s_596; omega) | (clear q12 p_521 p_568 s_596; omega) | omega)) (W_e W539))))) (show (3 : Int32).toInt = 3 by (first | (clear q12 h495 p_521 p_568 s_596; omega) | (clear q12 p_521 p_568 s_596; omega) | omega)) (fun a i z => (F_n F564 (show ¬ (a = 77 ∧ 7 ≤ i ∧ i ≤ 10) by (first | (clear q12 h495 p_521 p_568 s_596; omega) | (clear q12 p_521 p_568 s_596; omega) | omega)) (W_n W550 (by (first | (clear q12 h495 p_521 p_568 s_596; omega) | (clear q12 p_521 p_568 s_596; omega) | omega)) (W_n W546 (by (first | (clear q12 h495 p_521 p_568 s_596; omega) | (clear q12 p_521 p_568 s_596; omega) | omega)) (W_n W539 (by (first | (clear q12 h495 p_521 p_568 s_596; omega) | (clear q12 p_521 p_568 s_596; omega) | omega)) rfl))))) (by (first | (clear q12 h495 p_521 p_568 s_596; omega) | (clear q12 p_521 p_568 s_596; omega) | omega))), (g_an (by (first | (clear q12 h495 p_521 p_568 s_596; omega) | (clear q12 p_521 p_568 s_596; omega) | omega)) (by (first | (clear q12 h495 p_521 p_568 s_596; omega) | (clear q12 p_521 p_568 s_596; omega) | omega)) (by (first | (clear q12 h495 p_521 p_568 s_596; omega) | (clear q12 p_521 p_568 s_596; omega) | omega)) (by (first | (clear q12 h495 p_521 p_568 s_596; omega) | (clear q12 p_521 p_568 s_596; omega) | omega)) (by (first | (clear q12 h495 p_521 p_568 s_596; omega) | (clear q12 p_521 p_568 s_596; omega) | omega))).trans (g_v (by (first | (clear q12 h495 p_521 p_568 s_596; omega) | (clear q12 p_521 p_568 s_596; omega) | omega)) (by (first | (clear q12 h495 p_521 p_568 s_596; omega) | (clear q12 p_521 p_568 s_596; omega) | omega)) (by (first | (clear q12 h495 p_521 p_568 s_596; omega) | (clear q12 p_521 p_568 s_596; omega) | omega)) rfl (by (first | (clear q12 h495 p_521 p_568 s_596; omega) | (clear q12 p_521 p_568 s_596; omega) | omega)))⟩) (fun z => absurd z (by decide))
      · refine to_an (pc := 9) rw_224_9 rfl ?_
        refine to_c (pc := 10) rw_224_10 (x := (2 : Int32)) rfl rfl ?_
        refine s_v (pc := 11) rw_224_11 (dp1 hd (by decide)) (ls0 := [.ref 77, .int (2 : Int32)]) rfl (Nat.le_of_ble_eq_true rfl) (Nat.le_of_ble_eq_true rfl) rfl (to_rc rfl rfl rfl (g_o hG rfl)) rfl ?_
        refine to_an (pc := 0) rw_152_0 rfl ?_
        refine to_in (pc := 1) rw_152_1 rfl ?_
        refine s_pI (pc := 2) rw_152_2 hG rfl (fun M598 W597 => ?_)
        have hG599 := g_wf hG W597 rfl rfl (by decide)
        have F600 := FR.w F0 W597 (show 77 = 77 ∧ (4 = 4 ∨ 4 = 5 ∨ 7 ≤ 4 ∧ 4 ≤ 10) ∨ 77 = 77 ∧ (4 = 59 ∨ 65 ≤ 4 ∧ 4 ≤ 69) ∨ 112 ≤ 77 ∧ 77 ≤ 114 ∧ 40 ≤ 4 ∨ 77 = 115 ∨ 77 = 116 by decide)
        refine to_an (pc := 5) rw_152_5 rfl ?_
        refine to_an (pc := 6) rw_152_6 rfl ?_
        have c_601 : M598.2.1 77 10 = (M.2.1 77 10) := (W_n W597 (by decide) rfl)
        refine tt_gI (pc := 7) rw_152_7 (g_o hG599 rfl) (v := (M.2.1 77 10)) c_601 ?_
        refine s_pI (pc := 10) rw_152_10 hG599 rfl (fun M603 W602 => ?_)
        have hG604 := g_wf hG599 W602 rfl rfl (by decide)
        have F605 := FR.w F600 W602 (show 77 = 77 ∧ (5 = 4 ∨ 5 = 5 ∨ 7 ≤ 5 ∧ 5 ≤ 10) ∨ 77 = 77 ∧ (5 = 59 ∨ 65 ≤ 5 ∧ 5 ≤ 69) ∨ 112 ≤ 77 ∧ 77 ≤ 114 ∧ 40 ≤ 5 ∨ 77 = 115 ∨ 77 = 116 by decide)
        refine to_c (pc := 13) rw_152_13 (x := (0 : Int32)) rfl rfl ?_
        refine s_r1 (pc := 14) rw_152_14 (A := 0) rfl (by decide) ?_
        refine s_r1 (pc := 14) rw_224_14 (A := 0) rfl (by decide) ?_
        refine b_ine_f (pc := 37) rw_226_37 (A := 0) rfl (by decide) ?_
        refine to_c (pc := 40) rw_226_40 (x := (0 : Int32)) rfl rfl ?_
        refine s_r1 (pc := 41) rw_226_41 (A := 0) rfl (by decide) ?_
        have k_606 : (0 : Int32).toInt = 0 := rfl
        have c_607 : M603.2.1 77 7 = (M.2.1 77 7) := (W_n W602 (by decide) (W_n W597 (by decide) rfl))
        have t_608 : (M603.2.1 77 7).toInt = (M.2.1 77 7).toInt := congrArg Int32.toInt c_607
        have c_609 : M603.2.1 77 6 = (M.2.1 77 6) := (W_n W602 (by decide) (W_n W597 (by decide) rfl))
        have t_610 : (M603.2.1 77 6).toInt = (M.2.1 77 6).toInt := congrArg Int32.toInt c_609
        have c_611 : M603.2.1 77 8 = (M.2.1 77 8) := (W_n W602 (by decide) (W_n W597 (by decide) rfl))
        have t_612 : (M603.2.1 77 8).toInt = (M.2.1 77 8).toInt := congrArg Int32.toInt c_611
        have c_613 : M603.2.1 77 4 = (2 : Int32) := (W_n W602 (by decide) (W_e W597))
        have k_614 : (2 : Int32).toInt = 2 := rfl
        have t_615 : (M603.2.1 77 4).toInt = (2 : Int32).toInt := congrArg Int32.toInt c_613
        have c_616 : M603.2.1 77 5 = (M.2.1 77 10) := (W_e W602)
        have t_617 : (M603.2.1 77 5).toInt = (M.2.1 77 10).toInt := congrArg Int32.toInt c_616
        have c_618 : M603.2.1 77 67 = (M.2.1 77 67) := (W_n W602 (by decide) (W_n W597 (by decide) rfl))
        have t_619 : (M603.2.1 77 67).toInt = (M.2.1 77 67).toInt := congrArg Int32.toInt c_618
        have c_620 : M603.2.1 77 69 = (M.2.1 77 69) := (W_n W602 (by decide) (W_n W597 (by decide) rfl))
        have t_621 : (M603.2.1 77 69).toInt = (M.2.1 77 69).toInt := congrArg Int32.toInt c_620
        exact h (0 : Int32) M603 hG604 F605 (by decide) (by decide) (by (first | (clear q12; omega) | omega)) (by (first | (clear q12; omega) | omega)) (by (first | (clear q12; omega) | omega)) (by (first | (clear q12; omega) | omega)) (fun z => absurd z (by (first | (clear q12; omega) | omega))) (fun z => absurd z (by decide)) (fun z => absurd z (by decide)) (fun z => absurd z (by decide)) (fun _ => ginl (by (first | (clear q12; omega) | omega)) (by (first | (clear q12; omega) | omega)) (g_aox (by (first | (clear q12; omega) | omega)) (by (first | (clear q12; omega) | omega)) (by (first | (clear q12; omega) | omega)) (by (first | (clear q12; omega) | omega)) (by (first | (clear q12; omega) | omega))))
