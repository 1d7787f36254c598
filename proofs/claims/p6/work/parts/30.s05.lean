theorem tg_444 {M M1 : mm_M} (F : FR (fun a i : Nat => a = 77 ∧ (i = 59 ∨ i = 65 ∨ i = 66) ∨ 112 ≤ a ∧ a ≤ 114 ∧ 40 ≤ i ∨ a = 116) M M1) : ∀ a i : Nat, (a = 77 ∧ 6 ≤ i ∧ i ≤ 10) → M1.2.1 a i = M.2.1 a i := fun a i z => F_n F (show ¬ (a = 77 ∧ (i = 59 ∨ i = 65 ∨ i = 66) ∨ 112 ≤ a ∧ a ≤ 114 ∧ 40 ≤ i ∨ a = 116) by omega) rfl
theorem tg_445 {M M1 : mm_M} (F : FR (fun a i : Nat => a = 77 ∧ (i = 59 ∨ i = 65 ∨ i = 66) ∨ 112 ≤ a ∧ a ≤ 114 ∧ 40 ≤ i ∨ a = 116) M M1) : ∀ a i : Nat, a = 78 → M1.2.1 a i = M.2.1 a i := fun a i z => F_n F (show ¬ (a = 77 ∧ (i = 59 ∨ i = 65 ∨ i = 66) ∨ 112 ≤ a ∧ a ≤ 114 ∧ 40 ≤ i ∨ a = 116) by omega) rfl
theorem tg_446 {M M1 : mm_M} (F : FR (fun a i : Nat => a = 77 ∧ (i = 59 ∨ i = 65 ∨ i = 66) ∨ 112 ≤ a ∧ a ≤ 114 ∧ 40 ≤ i ∨ a = 116) M M1) : ∀ a i : Nat, a = 79 → M1.2.1 a i = M.2.1 a i := fun a i z => F_n F (show ¬ (a = 77 ∧ (i = 59 ∨ i = 65 ∨ i = 66) ∨ 112 ≤ a ∧ a ≤ 114 ∧ 40 ≤ i ∨ a = 116) by omega) rfl
theorem tg_447 : ∀ a i : Nat, (a = 77 ∧ 6 ≤ i ∧ i ≤ 10) → ¬ (a = 77 ∧ i = 67) := fun a i z => by omega
theorem tg_448 : ∀ a i : Nat, (a = 77 ∧ 6 ≤ i ∧ i ≤ 10) → ¬ (a = 77 ∧ i = 65) := fun a i z => by omega
theorem tg_449 : ∀ a i : Nat, a = 78 → ¬ (a = 77 ∧ i = 67) := fun a i z => by omega
theorem tg_450 : ∀ a i : Nat, a = 78 → ¬ (a = 77 ∧ i = 65) := fun a i z => by omega
theorem tg_451 : ∀ a i : Nat, a = 79 → ¬ (a = 77 ∧ i = 67) := fun a i z => by omega
theorem tg_452 : ∀ a i : Nat, a = 79 → ¬ (a = 77 ∧ i = 65) := fun a i z => by omega
theorem tg_453 : ∀ a i : Nat, (a = 77 ∧ 6 ≤ i ∧ i ≤ 10) → ¬ (a = 77 ∧ i = 68) := fun a i z => by omega
theorem tg_454 : ∀ a i j : Nat, (a = 77 ∧ 6 ≤ i ∧ i ≤ 10) → ¬ (a = 115 ∧ i = j) := fun a i j z => by omega
theorem tg_455 : ∀ a i : Nat, (a = 77 ∧ 6 ≤ i ∧ i ≤ 10) → ¬ (a = 77 ∧ i = 69) := fun a i z => by omega
theorem tg_456 : ∀ a i : Nat, a = 78 → ¬ (a = 77 ∧ i = 68) := fun a i z => by omega
theorem tg_457 : ∀ a i j : Nat, a = 78 → ¬ (a = 115 ∧ i = j) := fun a i j z => by omega
theorem tg_458 : ∀ a i : Nat, a = 78 → ¬ (a = 77 ∧ i = 69) := fun a i z => by omega
theorem tg_459 : ∀ a i : Nat, a = 79 → ¬ (a = 77 ∧ i = 68) := fun a i z => by omega
theorem tg_460 : ∀ a i j : Nat, a = 79 → ¬ (a = 115 ∧ i = j) := fun a i j z => by omega
theorem tg_461 : ∀ a i : Nat, a = 79 → ¬ (a = 77 ∧ i = 69) := fun a i z => by omega
set_option maxRecDepth 4000 in
set_option maxHeartbeats 0 in
theorem E_226 {X : mm_X} {d : Nat} {M : mm_M} {Q : Option Value → mm_M → Prop} {t : Nat → Int} {nn : Int} {a : Int} {sg : x_S} (hX : g_X X) (hd : 2 ≤ d) (hG : g_G M) (q1 : (M.2.1 77 7).toInt ≤ (M.2.1 77 6).toInt) (q2 : QK M) (q3 : (M.2.1 77 68).toInt = 1) (q4 : RS M t nn) (q5 : (M.2.1 77 10).toInt = a) (q6 : 0 ≤ nn) (q7 : nn ≤ 500) (q8 : TR M t nn) (q9 : W9 M) (q10 : PLk M sg) (q11 : (M.2.1 77 59).toInt + Wo M ((M.2.1 77 65).toInt).toNat = (M.2.1 77 69).toInt) (q12 : ¬ (x_kind t nn a = 0 ∧ (M.2.1 77 67).toInt = 0)) (h : ∀ (r : Int32) (M1 : mm_M), g_G M1 → FR md_qr M M1 → (0 ≤ r.toInt) → (r.toInt ≤ 1) → ((M1.2.1 77 7).toInt ≤ (M1.2.1 77 6).toInt) → ((M.2.1 77 7).toInt ≤ (M1.2.1 77 7).toInt) → (r.toInt = 1 → (M1.2.1 77 8).toInt = 0 ∨ (M.2.1 77 7).toInt < (M1.2.1 77 7).toInt) → (r.toInt = 1 → ¬ (M.2.1 77 8).toInt = 0) → ((r.toInt = 1 → QK M1)) → ((r.toInt = 1 → (M1.2.1 77 59).toInt + Wo M1 ((M1.2.1 77 65).toInt).toNat = (M1.2.1 77 69).toInt)) → ((r.toInt = 1 → RS M1 t nn)) → ((r.toInt = 1 → x_qq t nn sg 1 (M.2.1 77 67).toInt (M.2.1 77 69).toInt a = x_qq t nn sg (M1.2.1 77 68).toInt (M1.2.1 77 67).toInt (M1.2.1 77 69).toInt (M1.2.1 77 10).toInt)) → ((r.toInt = 0 → x_qq t nn sg 1 (M.2.1 77 67).toInt (M.2.1 77 69).toInt a = Sum.inl ((M1.2.1 77 4).toInt, (M1.2.1 77 5).toInt))) → Q (some (.int r)) M1) : mm_T X d 225 0 [.ref 77, .null] [] M Q := by
  have F0 : FR md_qr M M := FR.rf
  have b_1 := g_b hG (a := 77) (i := 7) (lo := 0) (hi := 500) rfl rfl
  have b_2 := g_b hG (a := 77) (i := 6) (lo := 0) (hi := 500) rfl rfl
  have b_3 := g_b hG (a := 77) (i := 68) (lo := 0) (hi := 1) rfl rfl
  have b_4 := g_b hG (a := 77) (i := 10) (lo := 0) (hi := 500) rfl rfl
  have b_5 := g_b hG (a := 77) (i := 67) (lo := 0) (hi := 8) rfl rfl
  have b_6 := g_b hG (a := 77) (i := 59) (lo := 0) (hi := 40) rfl rfl
  have b_7 := g_b hG (a := 77) (i := 65) (lo := 0) (hi := 48) rfl rfl
  have b_8 := g_b hG (a := 77) (i := 66) (lo := 0) (hi := 40) rfl rfl
  have b_9 := g_b hG (a := 77) (i := 69) (lo := 0) (hi := 40) rfl rfl
  have s_10 := QK_e q2
  have s_11 := Wx_b M ((M.2.1 77 65).toInt).toNat
  have b_12 := g_b hG (a := 77) (i := 8) (lo := 0) (hi := 5) rfl rfl
  have z_13 := RS_k q4 (a := a) (by omega)
  have z_14 := q10.2.1
  have z_15 := q10.2.2.1
  have z_16 := q10.2.2.2.1
  have z_17 := q10.1
  have z_18 := z_17.1
  have z_19 := z_17.2.1
  have z_20 := z_17.2.2.1
  have z_21 := z_17.2.2.2.1
  have z_22 := z_17.2.2.2.2.1
  have z_23 := z_17.2.2.2.2.2.1
  have b_24 := g_b hG (a := 77) (i := 11) (lo := 10) (hi := 60) rfl rfl
  have b_25 := g_b hG (a := 77) (i := 12) (lo := 0) (hi := 8) rfl rfl
  have b_26 := g_b hG (a := 77) (i := 13) (lo := 0) (hi := 12) rfl rfl
  have z_27 := RS_b q4 (a := a) (by omega)
  refine to_an (pc := 0) rw_226_0 rfl (to_c (pc := 1) rw_226_1 (x := (12 : Int32)) rfl rfl (s_v (pc := 3) rw_226_3 (dp0 hd (by decide)) (ls0 := [.ref 77, .int (12 : Int32)]) rfl (Nat.le_of_ble_eq_true rfl) (Nat.le_of_ble_eq_true rfl) rfl (to_rc rfl rfl rfl (g_o hG rfl)) rfl (to_an (pc := 0) rw_158_0 rfl (tt_gI (pc := 1) rw_158_1 (g_o hG rfl) (v := (M.2.1 77 8)) rfl (to_c (pc := 4) rw_158_4 (x := (1 : Int32)) rfl rfl (b_cne (pc := 5) rw_158_5 (A := (M.2.1 77 8).toInt) (B := 1) rfl rfl (fun h28 => ?_) (fun h28 => ?_)))))))
  · refine to_c (pc := 20) rw_158_20 (x := (0 : Int32)) rfl rfl (s_r1 (pc := 21) rw_158_21 (A := 0) rfl (by decide) (b_ine_f (pc := 6) rw_226_6 (A := 0) rfl (by decide) (to_an (pc := 9) rw_226_9 rfl (to_c (pc := 10) rw_226_10 (x := (13 : Int32)) rfl rfl (s_v (pc := 12) rw_226_12 (dp0 hd (by decide)) (ls0 := [.ref 77, .int (13 : Int32)]) rfl (Nat.le_of_ble_eq_true rfl) (Nat.le_of_ble_eq_true rfl) rfl (to_rc rfl rfl rfl (g_o hG rfl)) rfl (to_an (pc := 0) rw_158_0 rfl (tt_gI (pc := 1) rw_158_1 (g_o hG rfl) (v := (M.2.1 77 8)) rfl (to_c (pc := 4) rw_158_4 (x := (1 : Int32)) rfl rfl (b_cne (pc := 5) rw_158_5 (A := (M.2.1 77 8).toInt) (B := 1) rfl rfl (fun h29 => ?_) (fun h29 => ?_))))))))))
    · refine to_c (pc := 20) rw_158_20 (x := (0 : Int32)) rfl rfl (s_r1 (pc := 21) rw_158_21 (A := 0) rfl (by decide) (b_ieq_t (pc := 15) rw_226_15 (A := 0) rfl (by decide) (to_an (pc := 82) rw_226_82 rfl (to_c (pc := 83) rw_226_83 (x := (41 : Int32)) rfl rfl (s_v (pc := 85) rw_226_85 (dp0 hd (by decide)) (ls0 := [.ref 77, .int (41 : Int32)]) rfl (Nat.le_of_ble_eq_true rfl) (Nat.le_of_ble_eq_true rfl) rfl (to_rc rfl rfl rfl (g_o hG rfl)) rfl (to_an (pc := 0) rw_159_0 rfl (tt_gI (pc := 1) rw_159_1 (g_o hG rfl) (v := (M.2.1 77 8)) rfl (to_c (pc := 4) rw_159_4 (x := (4 : Int32)) rfl rfl (b_cne (pc := 5) rw_159_5 (A := (M.2.1 77 8).toInt) (B := 4) rfl rfl (fun h30 => ?_) (fun h30 => ?_))))))))))
      · refine to_c (pc := 20) rw_159_20 (x := (0 : Int32)) rfl rfl (s_r1 (pc := 21) rw_159_21 (A := 0) rfl (by decide) (b_ieq_t (pc := 88) rw_226_88 (A := 0) rfl (by decide) (to_an (pc := 98) rw_226_98 rfl (to_c (pc := 99) rw_226_99 (x := (1 : Int32)) rfl rfl (s_v (pc := 100) rw_226_100 (dp0 hd (by decide)) (ls0 := [.ref 77, .int (1 : Int32)]) rfl (Nat.le_of_ble_eq_true rfl) (Nat.le_of_ble_eq_true rfl) rfl (to_rc rfl rfl rfl (g_o hG rfl)) rfl (to_an (pc := 0) rw_152_0 rfl (to_in (pc := 1) rw_152_1 rfl (s_pI (pc := 2) rw_152_2 hG rfl (fun M32 W31 => ?_)))))))))
        have hG33 := g_wf hG W31 rfl rfl (by decide)
        have F34 := FR.w F0 W31 (show 77 = 77 ∧ (4 = 4 ∨ 4 = 5 ∨ 7 ≤ 4 ∧ 4 ≤ 10) ∨ 77 = 77 ∧ (4 = 59 ∨ 65 ≤ 4 ∧ 4 ≤ 69) ∨ 112 ≤ 77 ∧ 77 ≤ 114 ∧ 40 ≤ 4 ∨ 77 = 115 ∨ 77 = 116 by decide)
        refine to_an (pc := 5) rw_152_5 rfl (to_an (pc := 6) rw_152_6 rfl ?_)
        have c_35 : M32.2.1 77 10 = (M.2.1 77 10) := (W_n W31 (by decide) rfl)
        refine tt_gI (pc := 7) rw_152_7 (g_o hG33 rfl) (v := (M.2.1 77 10)) c_35 (s_pI (pc := 10) rw_152_10 hG33 rfl (fun M37 W36 => ?_))
        have hG38 := g_wf hG33 W36 rfl rfl (by decide)
        have F39 := FR.w F34 W36 (show 77 = 77 ∧ (5 = 4 ∨ 5 = 5 ∨ 7 ≤ 5 ∧ 5 ≤ 10) ∨ 77 = 77 ∧ (5 = 59 ∨ 65 ≤ 5 ∧ 5 ≤ 69) ∨ 112 ≤ 77 ∧ 77 ≤ 114 ∧ 40 ≤ 5 ∨ 77 = 115 ∨ 77 = 116 by decide)
        refine to_c (pc := 13) rw_152_13 (x := (0 : Int32)) rfl rfl (s_r1 (pc := 14) rw_152_14 (A := 0) rfl (by decide) (s_r1 (pc := 103) rw_226_103 (A := 0) rfl (by decide) ?_))
        have k_40 : (0 : Int32).toInt = 0 := rfl
        have c_41 : M37.2.1 77 7 = (M.2.1 77 7) := (W_n W36 (by decide) (W_n W31 (by decide) rfl))
        have t_42 : (M37.2.1 77 7).toInt = (M.2.1 77 7).toInt := congrArg Int32.toInt c_41
        have c_43 : M37.2.1 77 6 = (M.2.1 77 6) := (W_n W36 (by decide) (W_n W31 (by decide) rfl))
        have t_44 : (M37.2.1 77 6).toInt = (M.2.1 77 6).toInt := congrArg Int32.toInt c_43
        have c_45 : M37.2.1 77 8 = (M.2.1 77 8) := (W_n W36 (by decide) (W_n W31 (by decide) rfl))
        have t_46 : (M37.2.1 77 8).toInt = (M.2.1 77 8).toInt := congrArg Int32.toInt c_45
        have c_47 : M37.2.1 77 4 = (1 : Int32) := (W_n W36 (by decide) (W_e W31))
        have k_48 : (1 : Int32).toInt = 1 := rfl
        have t_49 : (M37.2.1 77 4).toInt = (1 : Int32).toInt := congrArg Int32.toInt c_47
        have c_50 : M37.2.1 77 5 = (M.2.1 77 10) := (W_e W36)
        have t_51 : (M37.2.1 77 5).toInt = (M.2.1 77 10).toInt := congrArg Int32.toInt c_50
        have c_52 : M37.2.1 77 67 = (M.2.1 77 67) := (W_n W36 (by decide) (W_n W31 (by decide) rfl))
        have t_53 : (M37.2.1 77 67).toInt = (M.2.1 77 67).toInt := congrArg Int32.toInt c_52
        have c_54 : M37.2.1 77 69 = (M.2.1 77 69) := (W_n W36 (by decide) (W_n W31 (by decide) rfl))
        have t_55 : (M37.2.1 77 69).toInt = (M.2.1 77 69).toInt := congrArg Int32.toInt c_54
        exact h (0 : Int32) M37 hG38 F39 (by decide) (by decide) (by omega) (by omega) (by omega) (by omega) (fun z => absurd z (by omega)) (fun z => absurd z (by decide)) (fun z => absurd z (by decide)) (fun z => absurd z (by decide)) (fun _ => inl_e (by omega) (by omega) (q_1x (by omega) (by omega) (by omega) (by omega) (by omega)))
      · refine to_an (pc := 8) rw_159_8 rfl (tt_gI (pc := 9) rw_159_9 (g_o hG rfl) (v := (M.2.1 77 9)) rfl (to_in (pc := 12) rw_159_12 rfl (b_cne (pc := 13) rw_159_13 (A := (M.2.1 77 9).toInt) (B := 41) rfl rfl (fun h56 => ?_) (fun h56 => ?_))))
        · refine to_c (pc := 20) rw_159_20 (x := (0 : Int32)) rfl rfl (s_r1 (pc := 21) rw_159_21 (A := 0) rfl (by decide) (b_ieq_t (pc := 88) rw_226_88 (A := 0) rfl (by decide) ?_))
          have z_57 := RS_4 q4 (a := a) (by omega) (by omega)
          refine to_an (pc := 98) rw_226_98 rfl (to_c (pc := 99) rw_226_99 (x := (1 : Int32)) rfl rfl (s_v (pc := 100) rw_226_100 (dp0 hd (by decide)) (ls0 := [.ref 77, .int (1 : Int32)]) rfl (Nat.le_of_ble_eq_true rfl) (Nat.le_of_ble_eq_true rfl) rfl (to_rc rfl rfl rfl (g_o hG rfl)) rfl (to_an (pc := 0) rw_152_0 rfl (to_in (pc := 1) rw_152_1 rfl (s_pI (pc := 2) rw_152_2 hG rfl (fun M59 W58 => ?_))))))
          have hG60 := g_wf hG W58 rfl rfl (by decide)
          have F61 := FR.w F0 W58 (show 77 = 77 ∧ (4 = 4 ∨ 4 = 5 ∨ 7 ≤ 4 ∧ 4 ≤ 10) ∨ 77 = 77 ∧ (4 = 59 ∨ 65 ≤ 4 ∧ 4 ≤ 69) ∨ 112 ≤ 77 ∧ 77 ≤ 114 ∧ 40 ≤ 4 ∨ 77 = 115 ∨ 77 = 116 by decide)
          refine to_an (pc := 5) rw_152_5 rfl (to_an (pc := 6) rw_152_6 rfl ?_)
          have c_62 : M59.2.1 77 10 = (M.2.1 77 10) := (W_n W58 (by decide) rfl)
          refine tt_gI (pc := 7) rw_152_7 (g_o hG60 rfl) (v := (M.2.1 77 10)) c_62 (s_pI (pc := 10) rw_152_10 hG60 rfl (fun M64 W63 => ?_))
          have hG65 := g_wf hG60 W63 rfl rfl (by decide)
          have F66 := FR.w F61 W63 (show 77 = 77 ∧ (5 = 4 ∨ 5 = 5 ∨ 7 ≤ 5 ∧ 5 ≤ 10) ∨ 77 = 77 ∧ (5 = 59 ∨ 65 ≤ 5 ∧ 5 ≤ 69) ∨ 112 ≤ 77 ∧ 77 ≤ 114 ∧ 40 ≤ 5 ∨ 77 = 115 ∨ 77 = 116 by decide)
          refine to_c (pc := 13) rw_152_13 (x := (0 : Int32)) rfl rfl (s_r1 (pc := 14) rw_152_14 (A := 0) rfl (by decide) (s_r1 (pc := 103) rw_226_103 (A := 0) rfl (by decide) ?_))
          have k_67 : (0 : Int32).toInt = 0 := rfl
          have c_68 : M64.2.1 77 7 = (M.2.1 77 7) := (W_n W63 (by decide) (W_n W58 (by decide) rfl))
          have t_69 : (M64.2.1 77 7).toInt = (M.2.1 77 7).toInt := congrArg Int32.toInt c_68
          have c_70 : M64.2.1 77 6 = (M.2.1 77 6) := (W_n W63 (by decide) (W_n W58 (by decide) rfl))
          have t_71 : (M64.2.1 77 6).toInt = (M.2.1 77 6).toInt := congrArg Int32.toInt c_70
          have c_72 : M64.2.1 77 8 = (M.2.1 77 8) := (W_n W63 (by decide) (W_n W58 (by decide) rfl))
          have t_73 : (M64.2.1 77 8).toInt = (M.2.1 77 8).toInt := congrArg Int32.toInt c_72
          have c_74 : M64.2.1 77 4 = (1 : Int32) := (W_n W63 (by decide) (W_e W58))
          have k_75 : (1 : Int32).toInt = 1 := rfl
          have t_76 : (M64.2.1 77 4).toInt = (1 : Int32).toInt := congrArg Int32.toInt c_74
          have c_77 : M64.2.1 77 5 = (M.2.1 77 10) := (W_e W63)
          have t_78 : (M64.2.1 77 5).toInt = (M.2.1 77 10).toInt := congrArg Int32.toInt c_77
          have c_79 : M64.2.1 77 67 = (M.2.1 77 67) := (W_n W63 (by decide) (W_n W58 (by decide) rfl))
          have t_80 : (M64.2.1 77 67).toInt = (M.2.1 77 67).toInt := congrArg Int32.toInt c_79
          have c_81 : M64.2.1 77 69 = (M.2.1 77 69) := (W_n W63 (by decide) (W_n W58 (by decide) rfl))
          have t_82 : (M64.2.1 77 69).toInt = (M.2.1 77 69).toInt := congrArg Int32.toInt c_81
          exact h (0 : Int32) M64 hG65 F66 (by decide) (by decide) (by omega) (by omega) (by omega) (by omega) (fun z => absurd z (by omega)) (fun z => absurd z (by decide)) (fun z => absurd z (by decide)) (fun z => absurd z (by decide)) (fun _ => inl_e (by omega) (by omega) (q_1x (by omega) (by omega) (by omega) (by omega) (by omega)))
        · refine to_c (pc := 16) rw_159_16 (x := (1 : Int32)) rfl rfl (to_go (pc := 17) rw_159_17 (s_r1 (pc := 21) rw_159_21 (A := 1) rfl (by decide) (b_ieq_f (pc := 88) rw_226_88 (A := 1) rfl (by decide) (to_an (pc := 91) rw_226_91 rfl (tt_gI (pc := 92) rw_226_92 (g_o hG rfl) (v := (M.2.1 77 67)) rfl (b_ine (pc := 95) rw_226_95 (A := (M.2.1 77 67).toInt) rfl (fun h83 => ?_) (fun h83 => ?_)))))))
          · have z_84 := RS_4 q4 (a := a) (by omega) (by omega)
            refine to_an (pc := 104) rw_226_104 rfl (to_c (pc := 105) rw_226_105 (x := (1 : Int32)) rfl rfl (s_v (pc := 106) rw_226_106 (dp0 hd (by decide)) (ls0 := [.ref 77, .int (1 : Int32), .null, .null, .null]) rfl (Nat.le_of_ble_eq_true rfl) (Nat.le_of_ble_eq_true rfl) rfl (to_rc rfl rfl rfl (g_o hG rfl)) rfl ?_))
            have k_85 : (1 : Int32).toInt = 1 := rfl
            refine C_223 hX (dp1 hd (by decide)) hG (by omega) (by omega) (by omega) q2 (l := (1 : Int32)) (fun M92 hG88 F87 p_89 p_90 p_91 => ?_)
            have F93 := FR.c F0 F87 tg_388
            have s_94 := p_90
            have b_95 := g_b hG88 (a := 77) (i := 59) (lo := 0) (hi := 40) rfl rfl
            have b_96 := g_b hG88 (a := 77) (i := 65) (lo := 0) (hi := 48) rfl rfl
            have b_97 := g_b hG88 (a := 77) (i := 66) (lo := 0) (hi := 40) rfl rfl
            have c_98 : M92.2.1 77 67 = (M.2.1 77 67) := (F_n F87 (show ¬ (77 = 77 ∧ (67 = 59 ∨ 67 = 65 ∨ 67 = 66) ∨ 112 ≤ 77 ∧ 77 ≤ 114 ∧ 40 ≤ 67 ∨ 77 = 116) by decide) rfl)
            have t_99 : (M92.2.1 77 67).toInt = (M.2.1 77 67).toInt := congrArg Int32.toInt c_98
            have c_100 : M92.2.1 77 68 = (M.2.1 77 68) := (F_n F87 (show ¬ (77 = 77 ∧ (68 = 59 ∨ 68 = 65 ∨ 68 = 66) ∨ 112 ≤ 77 ∧ 77 ≤ 114 ∧ 40 ≤ 68 ∨ 77 = 116) by decide) rfl)
            have t_101 : (M92.2.1 77 68).toInt = (M.2.1 77 68).toInt := congrArg Int32.toInt c_100
            have c_102 : M92.2.1 77 69 = (M.2.1 77 69) := (F_n F87 (show ¬ (77 = 77 ∧ (69 = 59 ∨ 69 = 65 ∨ 69 = 66) ∨ 112 ≤ 77 ∧ 77 ≤ 114 ∧ 40 ≤ 69 ∨ 77 = 116) by decide) rfl)
            have t_103 : (M92.2.1 77 69).toInt = (M.2.1 77 69).toInt := congrArg Int32.toInt c_102
            have s_104 := QK_e p_89
            have s_105 := Wx_b M92 ((M92.2.1 77 65).toInt).toNat
            have s_t := p_91 rfl
            have s_n := p_89.2.1 (((M92.2.1 77 65).toInt).toNat - 1)
            have s_s := Wx_s M92 (((M92.2.1 77 65).toInt).toNat - 1)
            have s_p : 1 ≤ (M92.2.1 77 65).toInt := by omega
            rw [show ((M92.2.1 77 65).toInt).toNat - 1 + 1 = ((M92.2.1 77 65).toInt).toNat by omega] at s_s
            have s_n := s_n (by omega)
            have s_z : (M92.2.1 115 (((M92.2.1 77 65).toInt).toNat - 1)).toInt = 0 := by omega
            have s_s := s_s.1 s_z
            refine to_an (pc := 109) rw_226_109 rfl (to_dupr (pc := 110) rw_226_110 (tt_gI (pc := 111) rw_226_111 (g_o hG88 rfl) (v := (M92.2.1 77 65)) rfl (to_c (pc := 114) rw_226_114 (x := (1 : Int32)) rfl rfl (s_sub (pc := 115) rw_226_115 (A := (M92.2.1 77 65).toInt) (B := 1) rfl rfl (by omega) (fun v106 e107 => s_pI (pc := 116) rw_226_116 hG88 rfl (fun M109 W108 => ?_))))))
            have hG110 := g_w hG88 W108 (A := v106.toInt) rfl (lo := 0) (hi := 48) rfl rfl (by omega) (by decide)
            have F111 := FR.w F93 W108 (show 77 = 77 ∧ (65 = 4 ∨ 65 = 5 ∨ 7 ≤ 65 ∧ 65 ≤ 10) ∨ 77 = 77 ∧ (65 = 59 ∨ 65 ≤ 65 ∧ 65 ≤ 69) ∨ 112 ≤ 77 ∧ 77 ≤ 114 ∧ 40 ≤ 65 ∨ 77 = 115 ∨ 77 = 116 by decide)
            refine to_an (pc := 119) rw_226_119 rfl (to_dupr (pc := 120) rw_226_120 ?_)
            have c_112 : M109.2.1 77 67 = (M.2.1 77 67) := (W_n W108 (by decide) c_98)
            refine tt_gI (pc := 121) rw_226_121 (g_o hG110 rfl) (v := (M.2.1 77 67)) c_112 (to_c (pc := 124) rw_226_124 (x := (1 : Int32)) rfl rfl (s_sub (pc := 125) rw_226_125 (A := (M.2.1 77 67).toInt) (B := 1) rfl rfl (by omega) (fun v113 e114 => s_pI (pc := 126) rw_226_126 hG110 rfl (fun M116 W115 => ?_))))
            have hG117 := g_w hG110 W115 (A := v113.toInt) rfl (lo := 0) (hi := 8) rfl rfl (by omega) (by decide)
            have F118 := FR.w F111 W115 (show 77 = 77 ∧ (67 = 4 ∨ 67 = 5 ∨ 7 ≤ 67 ∧ 67 ≤ 10) ∨ 77 = 77 ∧ (67 = 59 ∨ 65 ≤ 67 ∧ 67 ≤ 69) ∨ 112 ≤ 77 ∧ 77 ≤ 114 ∧ 40 ≤ 67 ∨ 77 = 115 ∨ 77 = 116 by decide)
            refine to_an (pc := 129) rw_226_129 rfl (s_v (pc := 130) rw_226_130 (dp0 hd (by decide)) (ls0 := [.ref 77]) rfl (Nat.le_of_ble_eq_true rfl) (Nat.le_of_ble_eq_true rfl) rfl (to_rc rfl rfl rfl (g_o hG117 rfl)) rfl ?_)
            have c_119 : M116.2.1 77 7 = (M.2.1 77 7) := (W_n W115 (by decide) (W_n W108 (by decide) (F_n F87 (show ¬ (77 = 77 ∧ (7 = 59 ∨ 7 = 65 ∨ 7 = 66) ∨ 112 ≤ 77 ∧ 77 ≤ 114 ∧ 40 ≤ 7 ∨ 77 = 116) by decide) rfl)))
            have t_120 : (M116.2.1 77 7).toInt = (M.2.1 77 7).toInt := congrArg Int32.toInt c_119
            have c_121 : M116.2.1 77 6 = (M.2.1 77 6) := (W_n W115 (by decide) (W_n W108 (by decide) (F_n F87 (show ¬ (77 = 77 ∧ (6 = 59 ∨ 6 = 65 ∨ 6 = 66) ∨ 112 ≤ 77 ∧ 77 ≤ 114 ∧ 40 ≤ 6 ∨ 77 = 116) by decide) rfl)))
            have t_122 : (M116.2.1 77 6).toInt = (M.2.1 77 6).toInt := congrArg Int32.toInt c_121
            have c_123 : M116.2.1 77 10 = (M.2.1 77 10) := (W_n W115 (by decide) (W_n W108 (by decide) (F_n F87 (show ¬ (77 = 77 ∧ (10 = 59 ∨ 10 = 65 ∨ 10 = 66) ∨ 112 ≤ 77 ∧ 77 ≤ 114 ∧ 40 ≤ 10 ∨ 77 = 116) by decide) rfl)))
            have t_124 : (M116.2.1 77 10).toInt = (M.2.1 77 10).toInt := congrArg Int32.toInt c_123
            have j_125 := (RS_f (fun a i z => W_n W115 (tg_447 a i z) rfl) (RS_f (fun a i z => W_n W108 (tg_448 a i z) rfl) (RS_f (tg_444 F87) q4)))
            have z_126 := RS_b j_125 (a := a) (by omega)
            have j_127 := (TR_f (fun a i z => W_n W115 (tg_449 a i z) rfl) (TR_f (fun a i z => W_n W108 (tg_450 a i z) rfl) (TR_f (tg_445 F87) q8)))
            have j_128 := (W9_f (fun a i z => W_n W115 (tg_451 a i z) rfl) (W9_f (fun a i z => W_n W108 (tg_452 a i z) rfl) (W9_f (tg_446 F87) q9)))
            refine E_156 hX (dp1 hd (by decide)) hG117 (by omega) (by omega) (by omega) (by omega) j_127 j_128  (fun M135 hG130 F129 p_131 p_132 p_133 p_134 => ?_)
            have F136 := FR.c F118 F129 tg_389
            have b_137 := g_b hG130 (a := 77) (i := 7) (lo := 0) (hi := 500) rfl rfl
            have c_138 : M135.2.1 77 6 = (M.2.1 77 6) := (F_n F129 (show ¬ (77 = 77 ∧ 7 ≤ 6 ∧ 6 ≤ 10) by decide) c_121)
            have t_139 : (M135.2.1 77 6).toInt = (M.2.1 77 6).toInt := congrArg Int32.toInt c_138
            have b_140 := g_b hG130 (a := 77) (i := 8) (lo := 0) (hi := 5) rfl rfl
            have b_141 := g_b hG130 (a := 77) (i := 10) (lo := 0) (hi := 500) rfl rfl
            have z_142 := RS_s p_134.2 (a := a) (by omega)
            refine to_c (pc := 133) rw_226_133 (x := (1 : Int32)) rfl rfl (s_r1 (pc := 134) rw_226_134 (A := 1) rfl (by decide) ?_)
            have c_143 : M135.2.1 77 59 = (M92.2.1 77 59) := (F_n F129 (show ¬ (77 = 77 ∧ 7 ≤ 59 ∧ 59 ≤ 10) by decide) (W_n W115 (by decide) (W_n W108 (by decide) rfl)))
            have t_144 : (M135.2.1 77 59).toInt = (M92.2.1 77 59).toInt := congrArg Int32.toInt c_143
            have c_145 : M135.2.1 77 65 = v106 := (F_n F129 (show ¬ (77 = 77 ∧ 7 ≤ 65 ∧ 65 ≤ 10) by decide) (W_n W115 (by decide) (W_e W108)))
            have t_146 : (M135.2.1 77 65).toInt = v106.toInt := congrArg Int32.toInt c_145
            have c_147 : M135.2.1 77 66 = (M92.2.1 77 66) := (F_n F129 (show ¬ (77 = 77 ∧ 7 ≤ 66 ∧ 66 ≤ 10) by decide) (W_n W115 (by decide) (W_n W108 (by decide) rfl)))
            have t_148 : (M135.2.1 77 66).toInt = (M92.2.1 77 66).toInt := congrArg Int32.toInt c_147
            have c_149 : M135.2.1 77 67 = v113 := (F_n F129 (show ¬ (77 = 77 ∧ 7 ≤ 67 ∧ 67 ≤ 10) by decide) (W_e W115))
            have t_150 : (M135.2.1 77 67).toInt = v113.toInt := congrArg Int32.toInt c_149
            have c_151 : M135.2.1 77 68 = (M.2.1 77 68) := (F_n F129 (show ¬ (77 = 77 ∧ 7 ≤ 68 ∧ 68 ≤ 10) by decide) (W_n W115 (by decide) (W_n W108 (by decide) c_100)))
            have t_152 : (M135.2.1 77 68).toInt = (M.2.1 77 68).toInt := congrArg Int32.toInt c_151
            have c_153 : M135.2.1 77 69 = (M.2.1 77 69) := (F_n F129 (show ¬ (77 = 77 ∧ 7 ≤ 69 ∧ 69 ≤ 10) by decide) (W_n W115 (by decide) (W_n W108 (by decide) c_102)))
            have t_154 : (M135.2.1 77 69).toInt = (M.2.1 77 69).toInt := congrArg Int32.toInt c_153
            have s_156 := Wx_f (M := M92) (M1 := M135) (((M92.2.1 77 65).toInt).toNat - 1) (fun i z => (F_n F129 (show ¬ (115 = 77 ∧ 7 ≤ i ∧ i ≤ 10) by omega) (W_n W115 (by omega) (W_n W108 (by omega) rfl))))
            have j_155 : QK M135 := QK_i (by unfold QK_c; rw [show ((M135.2.1 77 65).toInt).toNat = ((M92.2.1 77 65).toInt).toNat - 1 by omega]; refine ⟨by omega, by omega, by omega, by omega⟩) (fun i z => by rw [(F_n F129 (show ¬ (115 = 77 ∧ 7 ≤ i ∧ i ≤ 10) by omega) (W_n W115 (by omega) (W_n W108 (by omega) rfl)))]; exact p_89.2.1 i (by omega)) (by rw [(F_n F129 (show ¬ (77 = 77 ∧ 7 ≤ 59 ∧ 59 ≤ 10) by decide) (W_n W115 (by omega) (W_n W108 (by omega) rfl)))]; exact KN_f (fun a i z => (F_n F129 (show ¬ (a = 77 ∧ 7 ≤ i ∧ i ≤ 10) by omega) (W_n W115 (by /-r77,67-/ omega) (W_n W108 (by /-r77,65-/ omega) rfl)))) p_89.2.2)
            exact h (1 : Int32) M135 hG130 F136 (by decide) (by decide) (by omega) (by omega) (by omega) (by omega) (fun _ => j_155) (fun _ => by rw [show ((M135.2.1 77 65).toInt).toNat = ((M92.2.1 77 65).toInt).toNat - 1 by omega]; omega) (fun _ => p_134.1) (fun _ => (q_rp (by omega) (by omega) (by omega) (by omega)).trans (q_w (by omega) (by omega) (by omega) (by omega))) (fun z => absurd z (by decide))
          · have z_157 := RS_4 q4 (a := a) (by omega) (by omega)
            refine to_an (pc := 98) rw_226_98 rfl (to_c (pc := 99) rw_226_99 (x := (1 : Int32)) rfl rfl (s_v (pc := 100) rw_226_100 (dp0 hd (by decide)) (ls0 := [.ref 77, .int (1 : Int32)]) rfl (Nat.le_of_ble_eq_true rfl) (Nat.le_of_ble_eq_true rfl) rfl (to_rc rfl rfl rfl (g_o hG rfl)) rfl (to_an (pc := 0) rw_152_0 rfl (to_in (pc := 1) rw_152_1 rfl (s_pI (pc := 2) rw_152_2 hG rfl (fun M159 W158 => ?_))))))
            have hG160 := g_wf hG W158 rfl rfl (by decide)
            have F161 := FR.w F0 W158 (show 77 = 77 ∧ (4 = 4 ∨ 4 = 5 ∨ 7 ≤ 4 ∧ 4 ≤ 10) ∨ 77 = 77 ∧ (4 = 59 ∨ 65 ≤ 4 ∧ 4 ≤ 69) ∨ 112 ≤ 77 ∧ 77 ≤ 114 ∧ 40 ≤ 4 ∨ 77 = 115 ∨ 77 = 116 by decide)
            refine to_an (pc := 5) rw_152_5 rfl (to_an (pc := 6) rw_152_6 rfl ?_)
            have c_162 : M159.2.1 77 10 = (M.2.1 77 10) := (W_n W158 (by decide) rfl)
            refine tt_gI (pc := 7) rw_152_7 (g_o hG160 rfl) (v := (M.2.1 77 10)) c_162 (s_pI (pc := 10) rw_152_10 hG160 rfl (fun M164 W163 => ?_))
            have hG165 := g_wf hG160 W163 rfl rfl (by decide)
            have F166 := FR.w F161 W163 (show 77 = 77 ∧ (5 = 4 ∨ 5 = 5 ∨ 7 ≤ 5 ∧ 5 ≤ 10) ∨ 77 = 77 ∧ (5 = 59 ∨ 65 ≤ 5 ∧ 5 ≤ 69) ∨ 112 ≤ 77 ∧ 77 ≤ 114 ∧ 40 ≤ 5 ∨ 77 = 115 ∨ 77 = 116 by decide)
            refine to_c (pc := 13) rw_152_13 (x := (0 : Int32)) rfl rfl (s_r1 (pc := 14) rw_152_14 (A := 0) rfl (by decide) (s_r1 (pc := 103) rw_226_103 (A := 0) rfl (by decide) ?_))
            have k_167 : (0 : Int32).toInt = 0 := rfl
            have c_168 : M164.2.1 77 7 = (M.2.1 77 7) := (W_n W163 (by decide) (W_n W158 (by decide) rfl))
            have t_169 : (M164.2.1 77 7).toInt = (M.2.1 77 7).toInt := congrArg Int32.toInt c_168
            have c_170 : M164.2.1 77 6 = (M.2.1 77 6) := (W_n W163 (by decide) (W_n W158 (by decide) rfl))
            have t_171 : (M164.2.1 77 6).toInt = (M.2.1 77 6).toInt := congrArg Int32.toInt c_170
            have c_172 : M164.2.1 77 8 = (M.2.1 77 8) := (W_n W163 (by decide) (W_n W158 (by decide) rfl))
            have t_173 : (M164.2.1 77 8).toInt = (M.2.1 77 8).toInt := congrArg Int32.toInt c_172
            have c_174 : M164.2.1 77 4 = (1 : Int32) := (W_n W163 (by decide) (W_e W158))
            have k_175 : (1 : Int32).toInt = 1 := rfl
            have t_176 : (M164.2.1 77 4).toInt = (1 : Int32).toInt := congrArg Int32.toInt c_174
            have c_177 : M164.2.1 77 5 = (M.2.1 77 10) := (W_e W163)
            have t_178 : (M164.2.1 77 5).toInt = (M.2.1 77 10).toInt := congrArg Int32.toInt c_177
            have c_179 : M164.2.1 77 67 = (M.2.1 77 67) := (W_n W163 (by decide) (W_n W158 (by decide) rfl))
            have t_180 : (M164.2.1 77 67).toInt = (M.2.1 77 67).toInt := congrArg Int32.toInt c_179
            have c_181 : M164.2.1 77 69 = (M.2.1 77 69) := (W_n W163 (by decide) (W_n W158 (by decide) rfl))
            have t_182 : (M164.2.1 77 69).toInt = (M.2.1 77 69).toInt := congrArg Int32.toInt c_181
            exact h (0 : Int32) M164 hG165 F166 (by decide) (by decide) (by omega) (by omega) (by omega) (by omega) (fun z => absurd z (by omega)) (fun z => absurd z (by decide)) (fun z => absurd z (by decide)) (fun z => absurd z (by decide)) (fun _ => inl_e (by omega) (by omega) (q_1x (by omega) (by omega) (by omega) (by omega) (by omega)))
    · refine to_an (pc := 8) rw_158_8 rfl (tt_gI (pc := 9) rw_158_9 (g_o hG rfl) (v := (M.2.1 77 9)) rfl (to_in (pc := 12) rw_158_12 rfl (b_cne (pc := 13) rw_158_13 (A := (M.2.1 77 9).toInt) (B := 13) rfl rfl (fun h183 => ?_) (fun h183 => ?_))))
      · refine to_c (pc := 20) rw_158_20 (x := (0 : Int32)) rfl rfl (s_r1 (pc := 21) rw_158_21 (A := 0) rfl (by decide) (b_ieq_t (pc := 15) rw_226_15 (A := 0) rfl (by decide) ?_))
        have z_184 := RS_1 q4 (a := a) (by omega) (by omega)
        refine to_an (pc := 82) rw_226_82 rfl (to_c (pc := 83) rw_226_83 (x := (41 : Int32)) rfl rfl (s_v (pc := 85) rw_226_85 (dp0 hd (by decide)) (ls0 := [.ref 77, .int (41 : Int32)]) rfl (Nat.le_of_ble_eq_true rfl) (Nat.le_of_ble_eq_true rfl) rfl (to_rc rfl rfl rfl (g_o hG rfl)) rfl (to_an (pc := 0) rw_159_0 rfl (tt_gI (pc := 1) rw_159_1 (g_o hG rfl) (v := (M.2.1 77 8)) rfl (to_c (pc := 4) rw_159_4 (x := (4 : Int32)) rfl rfl (b_cne_t (pc := 5) rw_159_5 (A := (M.2.1 77 8).toInt) (B := 4) rfl rfl (by omega) (to_c (pc := 20) rw_159_20 (x := (0 : Int32)) rfl rfl (s_r1 (pc := 21) rw_159_21 (A := 0) rfl (by decide) (b_ieq_t (pc := 88) rw_226_88 (A := 0) rfl (by decide) (to_an (pc := 98) rw_226_98 rfl (to_c (pc := 99) rw_226_99 (x := (1 : Int32)) rfl rfl ?_)))))))))))
        refine s_v (pc := 100) rw_226_100 (dp0 hd (by decide)) (ls0 := [.ref 77, .int (1 : Int32)]) rfl (Nat.le_of_ble_eq_true rfl) (Nat.le_of_ble_eq_true rfl) rfl (to_rc rfl rfl rfl (g_o hG rfl)) rfl (to_an (pc := 0) rw_152_0 rfl (to_in (pc := 1) rw_152_1 rfl (s_pI (pc := 2) rw_152_2 hG rfl (fun M186 W185 => ?_))))
        have hG187 := g_wf hG W185 rfl rfl (by decide)
        have F188 := FR.w F0 W185 (show 77 = 77 ∧ (4 = 4 ∨ 4 = 5 ∨ 7 ≤ 4 ∧ 4 ≤ 10) ∨ 77 = 77 ∧ (4 = 59 ∨ 65 ≤ 4 ∧ 4 ≤ 69) ∨ 112 ≤ 77 ∧ 77 ≤ 114 ∧ 40 ≤ 4 ∨ 77 = 115 ∨ 77 = 116 by decide)
        refine to_an (pc := 5) rw_152_5 rfl (to_an (pc := 6) rw_152_6 rfl ?_)
        have c_189 : M186.2.1 77 10 = (M.2.1 77 10) := (W_n W185 (by decide) rfl)
        refine tt_gI (pc := 7) rw_152_7 (g_o hG187 rfl) (v := (M.2.1 77 10)) c_189 (s_pI (pc := 10) rw_152_10 hG187 rfl (fun M191 W190 => ?_))
        have hG192 := g_wf hG187 W190 rfl rfl (by decide)
        have F193 := FR.w F188 W190 (show 77 = 77 ∧ (5 = 4 ∨ 5 = 5 ∨ 7 ≤ 5 ∧ 5 ≤ 10) ∨ 77 = 77 ∧ (5 = 59 ∨ 65 ≤ 5 ∧ 5 ≤ 69) ∨ 112 ≤ 77 ∧ 77 ≤ 114 ∧ 40 ≤ 5 ∨ 77 = 115 ∨ 77 = 116 by decide)
        refine to_c (pc := 13) rw_152_13 (x := (0 : Int32)) rfl rfl (s_r1 (pc := 14) rw_152_14 (A := 0) rfl (by decide) (s_r1 (pc := 103) rw_226_103 (A := 0) rfl (by decide) ?_))
        have k_194 : (0 : Int32).toInt = 0 := rfl
        have c_195 : M191.2.1 77 7 = (M.2.1 77 7) := (W_n W190 (by decide) (W_n W185 (by decide) rfl))
        have t_196 : (M191.2.1 77 7).toInt = (M.2.1 77 7).toInt := congrArg Int32.toInt c_195
        have c_197 : M191.2.1 77 6 = (M.2.1 77 6) := (W_n W190 (by decide) (W_n W185 (by decide) rfl))
        have t_198 : (M191.2.1 77 6).toInt = (M.2.1 77 6).toInt := congrArg Int32.toInt c_197
        have c_199 : M191.2.1 77 8 = (M.2.1 77 8) := (W_n W190 (by decide) (W_n W185 (by decide) rfl))
        have t_200 : (M191.2.1 77 8).toInt = (M.2.1 77 8).toInt := congrArg Int32.toInt c_199
        have c_201 : M191.2.1 77 4 = (1 : Int32) := (W_n W190 (by decide) (W_e W185))
        have k_202 : (1 : Int32).toInt = 1 := rfl
        have t_203 : (M191.2.1 77 4).toInt = (1 : Int32).toInt := congrArg Int32.toInt c_201
        have c_204 : M191.2.1 77 5 = (M.2.1 77 10) := (W_e W190)
        have t_205 : (M191.2.1 77 5).toInt = (M.2.1 77 10).toInt := congrArg Int32.toInt c_204
        have c_206 : M191.2.1 77 67 = (M.2.1 77 67) := (W_n W190 (by decide) (W_n W185 (by decide) rfl))
        have t_207 : (M191.2.1 77 67).toInt = (M.2.1 77 67).toInt := congrArg Int32.toInt c_206
        have c_208 : M191.2.1 77 69 = (M.2.1 77 69) := (W_n W190 (by decide) (W_n W185 (by decide) rfl))
        have t_209 : (M191.2.1 77 69).toInt = (M.2.1 77 69).toInt := congrArg Int32.toInt c_208
        exact h (0 : Int32) M191 hG192 F193 (by decide) (by decide) (by omega) (by omega) (by omega) (by omega) (fun z => absurd z (by omega)) (fun z => absurd z (by decide)) (fun z => absurd z (by decide)) (fun z => absurd z (by decide)) (fun _ => inl_e (by omega) (by omega) (q_1x (by omega) (by omega) (by omega) (by omega) (by omega)))
      · refine to_c (pc := 16) rw_158_16 (x := (1 : Int32)) rfl rfl (to_go (pc := 17) rw_158_17 (s_r1 (pc := 21) rw_158_21 (A := 1) rfl (by decide) (b_ieq_f (pc := 15) rw_226_15 (A := 1) rfl (by decide) (to_an (pc := 18) rw_226_18 rfl (tt_gI (pc := 19) rw_226_19 (g_o hG rfl) (v := (M.2.1 77 9)) rfl (to_c (pc := 22) rw_226_22 (x := (12 : Int32)) rfl rfl (b_cne_t (pc := 24) rw_226_24 (A := (M.2.1 77 9).toInt) (B := 12) rfl rfl (by omega) (to_c (pc := 31) rw_226_31 (x := (4 : Int32)) rfl rfl (to_isn (pc := 32) rw_226_32 (ls2 := [.ref 77, .int (4 : Int32)]) rfl rfl ?_)))))))))
        have z_210 := RS_1 q4 (a := a) (by omega) (by omega)
        refine to_an (pc := 33) rw_226_33 rfl (s_v (pc := 34) rw_226_34 (dp0 hd (by decide)) (ls0 := [.ref 77]) rfl (Nat.le_of_ble_eq_true rfl) (Nat.le_of_ble_eq_true rfl) rfl (to_rc rfl rfl rfl (g_o hG rfl)) rfl (to_an (pc := 0) rw_224_0 rfl (tt_gI (pc := 1) rw_224_1 (g_o hG rfl) (v := (M.2.1 77 69)) rfl (to_c (pc := 4) rw_224_4 (x := (40 : Int32)) rfl rfl (b_cne (pc := 6) rw_224_6 (A := (M.2.1 77 69).toInt) (B := 40) rfl rfl (fun h211 => ?_) (fun h211 => ?_))))))
        · refine to_an (pc := 15) rw_224_15 rfl (to_dupr (pc := 16) rw_224_16 (tt_gI (pc := 17) rw_224_17 (g_o hG rfl) (v := (M.2.1 77 69)) rfl (to_c (pc := 20) rw_224_20 (x := (1 : Int32)) rfl rfl (s_add (pc := 21) rw_224_21 (A := (M.2.1 77 69).toInt) (B := 1) rfl rfl (by omega) (fun v212 e213 => s_pI (pc := 22) rw_224_22 hG rfl (fun M215 W214 => ?_))))))
          have hG216 := g_w hG W214 (A := v212.toInt) rfl (lo := 0) (hi := 40) rfl rfl (by omega) (by decide)
          have F217 := FR.w F0 W214 (show 77 = 77 ∧ (69 = 4 ∨ 69 = 5 ∨ 7 ≤ 69 ∧ 69 ≤ 10) ∨ 77 = 77 ∧ (69 = 59 ∨ 65 ≤ 69 ∧ 69 ≤ 69) ∨ 112 ≤ 77 ∧ 77 ≤ 114 ∧ 40 ≤ 69 ∨ 77 = 115 ∨ 77 = 116 by decide)
          refine to_c (pc := 25) rw_224_25 (x := (1 : Int32)) rfl rfl (s_r1 (pc := 26) rw_224_26 (A := 1) rfl (by decide) (b_ine_t (pc := 37) rw_226_37 (A := 1) rfl (by decide) (to_an (pc := 42) rw_226_42 rfl (to_an (pc := 43) rw_226_43 rfl (to_in (pc := 44) rw_226_44 rfl (s_v (pc := 45) rw_226_45 (dp0 hd (by decide)) (ls0 := [.ref 77, .int (4 : Int32)]) rfl (Nat.le_of_ble_eq_true rfl) (Nat.le_of_ble_eq_true rfl) rfl (to_rc rfl rfl rfl (g_o hG216 rfl)) rfl (to_in (pc := 0) rw_220_0 rfl (to_c (pc := 1) rw_220_1 (x := (2 : Int32)) rfl rfl (b_cne_t (pc := 2) rw_220_2 (A := 4) (B := 2) rfl rfl (by decide) (to_in (pc := 9) rw_220_9 rfl (to_c (pc := 10) rw_220_10 (x := (3 : Int32)) rfl rfl ?_)))))))))))
          refine b_cne_t (pc := 11) rw_220_11 (A := 4) (B := 3) rfl rfl (by decide) (to_in (pc := 18) rw_220_18 rfl (to_c (pc := 19) rw_220_19 (x := (4 : Int32)) rfl rfl (b_cne_f (pc := 20) rw_220_20 (A := 4) (B := 4) rfl rfl (by decide) (to_c (pc := 23) rw_220_23 (x := (1 : Int32)) rfl rfl (to_go (pc := 24) rw_220_24 (to_r0 (pc := 28) rw_220_28 (s_v (pc := 48) rw_226_48 (dp0 hd (by decide)) (ls0 := [.ref 77, .int (1 : Int32), .null, .null, .null]) rfl (Nat.le_of_ble_eq_true rfl) (Nat.le_of_ble_eq_true rfl) rfl (to_rc rfl rfl rfl (g_o hG216 rfl)) rfl ?_)))))))
          have k_218 : (1 : Int32).toInt = 1 := rfl
          have c_219 : M215.2.1 77 59 = (M.2.1 77 59) := (W_n W214 (by decide) rfl)
          have t_220 : (M215.2.1 77 59).toInt = (M.2.1 77 59).toInt := congrArg Int32.toInt c_219
          have c_221 : M215.2.1 77 65 = (M.2.1 77 65) := (W_n W214 (by decide) rfl)
          have t_222 : (M215.2.1 77 65).toInt = (M.2.1 77 65).toInt := congrArg Int32.toInt c_221
          have c_223 : M215.2.1 77 66 = (M.2.1 77 66) := (W_n W214 (by decide) rfl)
          have t_224 : (M215.2.1 77 66).toInt = (M.2.1 77 66).toInt := congrArg Int32.toInt c_223
          have c_225 : M215.2.1 77 67 = (M.2.1 77 67) := (W_n W214 (by decide) rfl)
          have t_226 : (M215.2.1 77 67).toInt = (M.2.1 77 67).toInt := congrArg Int32.toInt c_225
          have c_227 : M215.2.1 77 68 = (M.2.1 77 68) := (W_n W214 (by decide) rfl)
          have t_228 : (M215.2.1 77 68).toInt = (M.2.1 77 68).toInt := congrArg Int32.toInt c_227
          have c_229 : M215.2.1 77 69 = v212 := (W_e W214)
          have t_230 : (M215.2.1 77 69).toInt = v212.toInt := congrArg Int32.toInt c_229
          have s_232 := Wx_f (M := M) (M1 := M215) ((M.2.1 77 65).toInt).toNat (fun i z => (W_n W214 (by omega) rfl))
          have j_231 : QK M215 := QK_i (by unfold QK_c; rw [show ((M215.2.1 77 65).toInt).toNat = ((M.2.1 77 65).toInt).toNat by omega]; refine ⟨by omega, by omega, by omega, by omega⟩) (fun i z => by rw [(W_n W214 (by omega) rfl)]; exact q2.2.1 i (by omega)) (by rw [(W_n W214 (by omega) rfl)]; exact KN_f (fun a i z => (W_n W214 (by /-r77,69-/ omega) rfl)) q2.2.2)
          refine C_223 hX (dp1 hd (by decide)) hG216 (by omega) (by omega) (by omega) j_231 (l := (1 : Int32)) (fun M238 hG234 F233 p_235 p_236 p_237 => ?_)
          have F239 := FR.c F217 F233 tg_388
          have s_240 := p_236
          have s_241 : Wo M215 ((M215.2.1 77 65).toInt).toNat = Wo M ((M.2.1 77 65).toInt).toNat := by rw [show (M215.2.1 77 65) = (M.2.1 77 65) from (W_n W214 (by omega) rfl)]; exact (Wx_f (M := M) (M1 := M215) _ (fun i z => (W_n W214 (by omega) rfl))).1
          have b_242 := g_b hG234 (a := 77) (i := 59) (lo := 0) (hi := 40) rfl rfl
          have b_243 := g_b hG234 (a := 77) (i := 65) (lo := 0) (hi := 48) rfl rfl
          have b_244 := g_b hG234 (a := 77) (i := 66) (lo := 0) (hi := 40) rfl rfl
          have c_245 : M238.2.1 77 67 = (M.2.1 77 67) := (F_n F233 (show ¬ (77 = 77 ∧ (67 = 59 ∨ 67 = 65 ∨ 67 = 66) ∨ 112 ≤ 77 ∧ 77 ≤ 114 ∧ 40 ≤ 67 ∨ 77 = 116) by decide) c_225)
          have t_246 : (M238.2.1 77 67).toInt = (M.2.1 77 67).toInt := congrArg Int32.toInt c_245
          have c_247 : M238.2.1 77 68 = (M.2.1 77 68) := (F_n F233 (show ¬ (77 = 77 ∧ (68 = 59 ∨ 68 = 65 ∨ 68 = 66) ∨ 112 ≤ 77 ∧ 77 ≤ 114 ∧ 40 ≤ 68 ∨ 77 = 116) by decide) c_227)
          have t_248 : (M238.2.1 77 68).toInt = (M.2.1 77 68).toInt := congrArg Int32.toInt c_247
          have c_249 : M238.2.1 77 69 = v212 := (F_n F233 (show ¬ (77 = 77 ∧ (69 = 59 ∨ 69 = 65 ∨ 69 = 66) ∨ 112 ≤ 77 ∧ 77 ≤ 114 ∧ 40 ≤ 69 ∨ 77 = 116) by decide) c_229)
          have t_250 : (M238.2.1 77 69).toInt = v212.toInt := congrArg Int32.toInt c_249
          have s_251 := QK_e p_235
          have s_252 := Wx_b M238 ((M238.2.1 77 65).toInt).toNat
          refine to_an (pc := 51) rw_226_51 rfl (s_gR (pc := 52) rw_226_52 hG234 rfl (v := 115) rfl (to_an (pc := 55) rw_226_55 rfl (tt_gI (pc := 56) rw_226_56 (g_o hG234 rfl) (v := (M238.2.1 77 65)) rfl (to_in (pc := 59) rw_226_59 rfl (s_ias (pc := 60) rw_226_60 hG234 rfl (n := 64) rfl (A := (M238.2.1 77 65).toInt) rfl (by omega) (by omega) (fun M254 W253 => ?_))))))
          have hG255 := g_w hG234 W253 (A := 4) rfl (lo := 0) (hi := 4) rfl rfl (by omega) (by decide)
          have F256 := FR.w F239 W253 (show 115 = 77 ∧ (((M238.2.1 77 65).toInt).toNat = 4 ∨ ((M238.2.1 77 65).toInt).toNat = 5 ∨ 7 ≤ ((M238.2.1 77 65).toInt).toNat ∧ ((M238.2.1 77 65).toInt).toNat ≤ 10) ∨ 115 = 77 ∧ (((M238.2.1 77 65).toInt).toNat = 59 ∨ 65 ≤ ((M238.2.1 77 65).toInt).toNat ∧ ((M238.2.1 77 65).toInt).toNat ≤ 69) ∨ 112 ≤ 115 ∧ 115 ≤ 114 ∧ 40 ≤ ((M238.2.1 77 65).toInt).toNat ∨ 115 = 115 ∨ 115 = 116 by omega)
          refine to_an (pc := 61) rw_226_61 rfl (to_dupr (pc := 62) rw_226_62 ?_)
          have c_257 : M254.2.1 77 65 = (M238.2.1 77 65) := (W_n W253 (fun z => absurd z.1 (by decide)) rfl)
          refine tt_gI (pc := 63) rw_226_63 (g_o hG255 rfl) (v := (M238.2.1 77 65)) c_257 (to_c (pc := 66) rw_226_66 (x := (1 : Int32)) rfl rfl (s_add (pc := 67) rw_226_67 (A := (M238.2.1 77 65).toInt) (B := 1) rfl rfl (by omega) (fun v258 e259 => s_pI (pc := 68) rw_226_68 hG255 rfl (fun M261 W260 => ?_))))
          have hG262 := g_w hG255 W260 (A := v258.toInt) rfl (lo := 0) (hi := 48) rfl rfl (by omega) (by decide)
          have F263 := FR.w F256 W260 (show 77 = 77 ∧ (65 = 4 ∨ 65 = 5 ∨ 7 ≤ 65 ∧ 65 ≤ 10) ∨ 77 = 77 ∧ (65 = 59 ∨ 65 ≤ 65 ∧ 65 ≤ 69) ∨ 112 ≤ 77 ∧ 77 ≤ 114 ∧ 40 ≤ 65 ∨ 77 = 115 ∨ 77 = 116 by decide)
          refine to_an (pc := 71) rw_226_71 rfl (to_c (pc := 72) rw_226_72 (x := (0 : Int32)) rfl rfl (s_pI (pc := 73) rw_226_73 hG262 rfl (fun M265 W264 => ?_)))
          have hG266 := g_w hG262 W264 (A := 0) rfl (lo := 0) (hi := 1) rfl rfl (by omega) (by decide)
          have F267 := FR.w F263 W264 (show 77 = 77 ∧ (68 = 4 ∨ 68 = 5 ∨ 7 ≤ 68 ∧ 68 ≤ 10) ∨ 77 = 77 ∧ (68 = 59 ∨ 65 ≤ 68 ∧ 68 ≤ 69) ∨ 112 ≤ 77 ∧ 77 ≤ 114 ∧ 40 ≤ 68 ∨ 77 = 115 ∨ 77 = 116 by decide)
          refine to_an (pc := 76) rw_226_76 rfl (s_v (pc := 77) rw_226_77 (dp0 hd (by decide)) (ls0 := [.ref 77]) rfl (Nat.le_of_ble_eq_true rfl) (Nat.le_of_ble_eq_true rfl) rfl (to_rc rfl rfl rfl (g_o hG266 rfl)) rfl ?_)
          have c_268 : M265.2.1 77 7 = (M.2.1 77 7) := (W_n W264 (by decide) (W_n W260 (by decide) (W_n W253 (fun z => absurd z.1 (by decide)) (F_n F233 (show ¬ (77 = 77 ∧ (7 = 59 ∨ 7 = 65 ∨ 7 = 66) ∨ 112 ≤ 77 ∧ 77 ≤ 114 ∧ 40 ≤ 7 ∨ 77 = 116) by decide) (W_n W214 (by decide) rfl)))))
          have t_269 : (M265.2.1 77 7).toInt = (M.2.1 77 7).toInt := congrArg Int32.toInt c_268
          have c_270 : M265.2.1 77 6 = (M.2.1 77 6) := (W_n W264 (by decide) (W_n W260 (by decide) (W_n W253 (fun z => absurd z.1 (by decide)) (F_n F233 (show ¬ (77 = 77 ∧ (6 = 59 ∨ 6 = 65 ∨ 6 = 66) ∨ 112 ≤ 77 ∧ 77 ≤ 114 ∧ 40 ≤ 6 ∨ 77 = 116) by decide) (W_n W214 (by decide) rfl)))))
          have t_271 : (M265.2.1 77 6).toInt = (M.2.1 77 6).toInt := congrArg Int32.toInt c_270
          have c_272 : M265.2.1 77 10 = (M.2.1 77 10) := (W_n W264 (by decide) (W_n W260 (by decide) (W_n W253 (fun z => absurd z.1 (by decide)) (F_n F233 (show ¬ (77 = 77 ∧ (10 = 59 ∨ 10 = 65 ∨ 10 = 66) ∨ 112 ≤ 77 ∧ 77 ≤ 114 ∧ 40 ≤ 10 ∨ 77 = 116) by decide) (W_n W214 (by decide) rfl)))))
          have t_273 : (M265.2.1 77 10).toInt = (M.2.1 77 10).toInt := congrArg Int32.toInt c_272
          have j_274 := (RS_f (fun a i z => W_n W264 (tg_453 a i z) rfl) (RS_f (fun a i z => W_n W260 (tg_448 a i z) rfl) (RS_f (fun a i z => W_n W253 (tg_454 a i _ z) rfl) (RS_f (tg_444 F233) (RS_f (fun a i z => W_n W214 (tg_455 a i z) rfl) q4)))))
          have z_275 := RS_b j_274 (a := a) (by omega)
          have j_276 := (TR_f (fun a i z => W_n W264 (tg_456 a i z) rfl) (TR_f (fun a i z => W_n W260 (tg_450 a i z) rfl) (TR_f (fun a i z => W_n W253 (tg_457 a i _ z) rfl) (TR_f (tg_445 F233) (TR_f (fun a i z => W_n W214 (tg_458 a i z) rfl) q8)))))
          have j_277 := (W9_f (fun a i z => W_n W264 (tg_459 a i z) rfl) (W9_f (fun a i z => W_n W260 (tg_452 a i z) rfl) (W9_f (fun a i z => W_n W253 (tg_460 a i _ z) rfl) (W9_f (tg_446 F233) (W9_f (fun a i z => W_n W214 (tg_461 a i z) rfl) q9)))))
          refine E_156 hX (dp1 hd (by decide)) hG266 (by omega) (by omega) (by omega) (by omega) j_276 j_277  (fun M284 hG279 F278 p_280 p_281 p_282 p_283 => ?_)
          have F285 := FR.c F267 F278 tg_389
          have b_286 := g_b hG279 (a := 77) (i := 7) (lo := 0) (hi := 500) rfl rfl
          have c_287 : M284.2.1 77 6 = (M.2.1 77 6) := (F_n F278 (show ¬ (77 = 77 ∧ 7 ≤ 6 ∧ 6 ≤ 10) by decide) c_270)
          have t_288 : (M284.2.1 77 6).toInt = (M.2.1 77 6).toInt := congrArg Int32.toInt c_287
          have b_289 := g_b hG279 (a := 77) (i := 8) (lo := 0) (hi := 5) rfl rfl
          have b_290 := g_b hG279 (a := 77) (i := 10) (lo := 0) (hi := 500) rfl rfl
          have z_291 := RS_s p_283.2 (a := a) (by omega)
          refine to_c (pc := 80) rw_226_80 (x := (1 : Int32)) rfl rfl (s_r1 (pc := 81) rw_226_81 (A := 1) rfl (by decide) ?_)
          have c_292 : M284.2.1 77 59 = (M238.2.1 77 59) := (F_n F278 (show ¬ (77 = 77 ∧ 7 ≤ 59 ∧ 59 ≤ 10) by decide) (W_n W264 (by decide) (W_n W260 (by decide) (W_n W253 (fun z => absurd z.1 (by decide)) rfl))))
          have t_293 : (M284.2.1 77 59).toInt = (M238.2.1 77 59).toInt := congrArg Int32.toInt c_292
          have c_294 : M284.2.1 77 65 = v258 := (F_n F278 (show ¬ (77 = 77 ∧ 7 ≤ 65 ∧ 65 ≤ 10) by decide) (W_n W264 (by decide) (W_e W260)))
          have t_295 : (M284.2.1 77 65).toInt = v258.toInt := congrArg Int32.toInt c_294
          have c_296 : M284.2.1 77 66 = (M238.2.1 77 66) := (F_n F278 (show ¬ (77 = 77 ∧ 7 ≤ 66 ∧ 66 ≤ 10) by decide) (W_n W264 (by decide) (W_n W260 (by decide) (W_n W253 (fun z => absurd z.1 (by decide)) rfl))))
          have t_297 : (M284.2.1 77 66).toInt = (M238.2.1 77 66).toInt := congrArg Int32.toInt c_296
          have c_298 : M284.2.1 77 67 = (M.2.1 77 67) := (F_n F278 (show ¬ (77 = 77 ∧ 7 ≤ 67 ∧ 67 ≤ 10) by decide) (W_n W264 (by decide) (W_n W260 (by decide) (W_n W253 (fun z => absurd z.1 (by decide)) c_245))))
          have t_299 : (M284.2.1 77 67).toInt = (M.2.1 77 67).toInt := congrArg Int32.toInt c_298
          have c_300 : M284.2.1 77 68 = (0 : Int32) := (F_n F278 (show ¬ (77 = 77 ∧ 7 ≤ 68 ∧ 68 ≤ 10) by decide) (W_e W264))
          have k_301 : (0 : Int32).toInt = 0 := rfl
          have t_302 : (M284.2.1 77 68).toInt = (0 : Int32).toInt := congrArg Int32.toInt c_300
          have c_303 : M284.2.1 77 69 = v212 := (F_n F278 (show ¬ (77 = 77 ∧ 7 ≤ 69 ∧ 69 ≤ 10) by decide) (W_n W264 (by decide) (W_n W260 (by decide) (W_n W253 (fun z => absurd z.1 (by decide)) c_249))))
          have t_304 : (M284.2.1 77 69).toInt = v212.toInt := congrArg Int32.toInt c_303
          have k_306 : (4 : Int32).toInt = 4 := rfl
          have s_307 := Wx_f (M := M238) (M1 := M284) ((M238.2.1 77 65).toInt).toNat (fun i z => (F_n F278 (show ¬ (115 = 77 ∧ 7 ≤ i ∧ i ≤ 10) by omega) (W_n W264 (by omega) (W_n W260 (by omega) (W_n W253 (by omega) rfl)))))
          have s_308 : (M284.2.1 115 ((M238.2.1 77 65).toInt).toNat).toInt = (4 : Int32).toInt := by rw [show ((M238.2.1 77 65).toInt).toNat = ((M238.2.1 77 65).toInt).toNat by omega]; exact congrArg Int32.toInt (F_n F278 (show ¬ (115 = 77 ∧ 7 ≤ (((M238.2.1 77 65).toInt).toNat) ∧ (((M238.2.1 77 65).toInt).toNat) ≤ 10) by omega) (W_n W264 (by omega) (W_n W260 (by omega) (W_e W253))))
          have s_309 := Wx_s M284 ((M238.2.1 77 65).toInt).toNat
          have j_305 : QK M284 := QK_i (by unfold QK_c; rw [show ((M284.2.1 77 65).toInt).toNat = ((M238.2.1 77 65).toInt).toNat + 1 by omega]; refine ⟨by omega, by omega, by omega, by omega⟩) (fun i z => by
              by_cases ei : i = ((M238.2.1 77 65).toInt).toNat
              · rw [ei]; omega
              · rw [(F_n F278 (show ¬ (115 = 77 ∧ 7 ≤ i ∧ i ≤ 10) by omega) (W_n W264 (by omega) (W_n W260 (by omega) (W_n W253 (by omega) rfl))))]; exact p_235.2.1 i (by omega)) (by rw [(F_n F278 (show ¬ (77 = 77 ∧ 7 ≤ 59 ∧ 59 ≤ 10) by decide) (W_n W264 (by omega) (W_n W260 (by omega) (W_n W253 (by omega) rfl))))]; exact KN_f (fun a i z => (F_n F278 (show ¬ (a = 77 ∧ 7 ≤ i ∧ i ≤ 10) by omega) (W_n W264 (by /-r77,68-/ omega) (W_n W260 (by /-r77,65-/ omega) (W_n W253 (by /-r115-/ omega) rfl))))) p_235.2.2)
          exact h (1 : Int32) M284 hG279 F285 (by decide) (by decide) (by omega) (by omega) (by omega) (by omega) (fun _ => j_305) (fun _ => by rw [show ((M284.2.1 77 65).toInt).toNat = ((M238.2.1 77 65).toInt).toNat + 1 by omega]; omega) (fun _ => p_283.1) (fun _ => (q_ao (by omega) (by omega) (by omega) (by omega) (by omega)).trans (q_w (by omega) (by omega) (by omega) (by omega))) (fun z => absurd z (by decide))
        · refine to_an (pc := 9) rw_224_9 rfl (to_c (pc := 10) rw_224_10 (x := (2 : Int32)) rfl rfl (s_v (pc := 11) rw_224_11 (dp1 hd (by decide)) (ls0 := [.ref 77, .int (2 : Int32)]) rfl (Nat.le_of_ble_eq_true rfl) (Nat.le_of_ble_eq_true rfl) rfl (to_rc rfl rfl rfl (g_o hG rfl)) rfl (to_an (pc := 0) rw_152_0 rfl (to_in (pc := 1) rw_152_1 rfl (s_pI (pc := 2) rw_152_2 hG rfl (fun M311 W310 => ?_))))))
          have hG312 := g_wf hG W310 rfl rfl (by decide)
          have F313 := FR.w F0 W310 (show 77 = 77 ∧ (4 = 4 ∨ 4 = 5 ∨ 7 ≤ 4 ∧ 4 ≤ 10) ∨ 77 = 77 ∧ (4 = 59 ∨ 65 ≤ 4 ∧ 4 ≤ 69) ∨ 112 ≤ 77 ∧ 77 ≤ 114 ∧ 40 ≤ 4 ∨ 77 = 115 ∨ 77 = 116 by decide)
          refine to_an (pc := 5) rw_152_5 rfl (to_an (pc := 6) rw_152_6 rfl ?_)
          have c_314 : M311.2.1 77 10 = (M.2.1 77 10) := (W_n W310 (by decide) rfl)
          refine tt_gI (pc := 7) rw_152_7 (g_o hG312 rfl) (v := (M.2.1 77 10)) c_314 (s_pI (pc := 10) rw_152_10 hG312 rfl (fun M316 W315 => ?_))
          have hG317 := g_wf hG312 W315 rfl rfl (by decide)
          have F318 := FR.w F313 W315 (show 77 = 77 ∧ (5 = 4 ∨ 5 = 5 ∨ 7 ≤ 5 ∧ 5 ≤ 10) ∨ 77 = 77 ∧ (5 = 59 ∨ 65 ≤ 5 ∧ 5 ≤ 69) ∨ 112 ≤ 77 ∧ 77 ≤ 114 ∧ 40 ≤ 5 ∨ 77 = 115 ∨ 77 = 116 by decide)
          refine to_c (pc := 13) rw_152_13 (x := (0 : Int32)) rfl rfl (s_r1 (pc := 14) rw_152_14 (A := 0) rfl (by decide) (s_r1 (pc := 14) rw_224_14 (A := 0) rfl (by decide) (b_ine_f (pc := 37) rw_226_37 (A := 0) rfl (by decide) (to_c (pc := 40) rw_226_40 (x := (0 : Int32)) rfl rfl (s_r1 (pc := 41) rw_226_41 (A := 0) rfl (by decide) ?_)))))
          have k_319 : (0 : Int32).toInt = 0 := rfl
          have c_320 : M316.2.1 77 7 = (M.2.1 77 7) := (W_n W315 (by decide) (W_n W310 (by decide) rfl))
          have t_321 : (M316.2.1 77 7).toInt = (M.2.1 77 7).toInt := congrArg Int32.toInt c_320
          have c_322 : M316.2.1 77 6 = (M.2.1 77 6) := (W_n W315 (by decide) (W_n W310 (by decide) rfl))
          have t_323 : (M316.2.1 77 6).toInt = (M.2.1 77 6).toInt := congrArg Int32.toInt c_322
          have c_324 : M316.2.1 77 8 = (M.2.1 77 8) := (W_n W315 (by decide) (W_n W310 (by decide) rfl))
          have t_325 : (M316.2.1 77 8).toInt = (M.2.1 77 8).toInt := congrArg Int32.toInt c_324
          have c_326 : M316.2.1 77 4 = (2 : Int32) := (W_n W315 (by decide) (W_e W310))
          have k_327 : (2 : Int32).toInt = 2 := rfl
          have t_328 : (M316.2.1 77 4).toInt = (2 : Int32).toInt := congrArg Int32.toInt c_326
          have c_329 : M316.2.1 77 5 = (M.2.1 77 10) := (W_e W315)
          have t_330 : (M316.2.1 77 5).toInt = (M.2.1 77 10).toInt := congrArg Int32.toInt c_329
          have c_331 : M316.2.1 77 67 = (M.2.1 77 67) := (W_n W315 (by decide) (W_n W310 (by decide) rfl))
          have t_332 : (M316.2.1 77 67).toInt = (M.2.1 77 67).toInt := congrArg Int32.toInt c_331
          have c_333 : M316.2.1 77 69 = (M.2.1 77 69) := (W_n W315 (by decide) (W_n W310 (by decide) rfl))
          have t_334 : (M316.2.1 77 69).toInt = (M.2.1 77 69).toInt := congrArg Int32.toInt c_333
          exact h (0 : Int32) M316 hG317 F318 (by decide) (by decide) (by omega) (by omega) (by omega) (by omega) (fun z => absurd z (by omega)) (fun z => absurd z (by decide)) (fun z => absurd z (by decide)) (fun z => absurd z (by decide)) (fun _ => inl_e (by omega) (by omega) (q_aox (by omega) (by omega) (by omega) (by omega) (by omega)))
  · refine to_an (pc := 8) rw_158_8 rfl (tt_gI (pc := 9) rw_158_9 (g_o hG rfl) (v := (M.2.1 77 9)) rfl (to_in (pc := 12) rw_158_12 rfl (b_cne (pc := 13) rw_158_13 (A := (M.2.1 77 9).toInt) (B := 12) rfl rfl (fun h335 => ?_) (fun h335 => ?_))))
    · refine to_c (pc := 20) rw_158_20 (x := (0 : Int32)) rfl rfl (s_r1 (pc := 21) rw_158_21 (A := 0) rfl (by decide) (b_ine_f (pc := 6) rw_226_6 (A := 0) rfl (by decide) (to_an (pc := 9) rw_226_9 rfl (to_c (pc := 10) rw_226_10 (x := (13 : Int32)) rfl rfl (s_v (pc := 12) rw_226_12 (dp0 hd (by decide)) (ls0 := [.ref 77, .int (13 : Int32)]) rfl (Nat.le_of_ble_eq_true rfl) (Nat.le_of_ble_eq_true rfl) rfl (to_rc rfl rfl rfl (g_o hG rfl)) rfl (to_an (pc := 0) rw_158_0 rfl (tt_gI (pc := 1) rw_158_1 (g_o hG rfl) (v := (M.2.1 77 8)) rfl (to_c (pc := 4) rw_158_4 (x := (1 : Int32)) rfl rfl (b_cne_f (pc := 5) rw_158_5 (A := (M.2.1 77 8).toInt) (B := 1) rfl rfl (by omega) (to_an (pc := 8) rw_158_8 rfl (tt_gI (pc := 9) rw_158_9 (g_o hG rfl) (v := (M.2.1 77 9)) rfl ?_)))))))))))
      refine to_in (pc := 12) rw_158_12 rfl (b_cne (pc := 13) rw_158_13 (A := (M.2.1 77 9).toInt) (B := 13) rfl rfl (fun h336 => ?_) (fun h336 => ?_))
      · refine to_c (pc := 20) rw_158_20 (x := (0 : Int32)) rfl rfl (s_r1 (pc := 21) rw_158_21 (A := 0) rfl (by decide) (b_ieq_t (pc := 15) rw_226_15 (A := 0) rfl (by decide) ?_))
        have z_337 := RS_1 q4 (a := a) (by omega) (by omega)
        refine to_an (pc := 82) rw_226_82 rfl (to_c (pc := 83) rw_226_83 (x := (41 : Int32)) rfl rfl (s_v (pc := 85) rw_226_85 (dp0 hd (by decide)) (ls0 := [.ref 77, .int (41 : Int32)]) rfl (Nat.le_of_ble_eq_true rfl) (Nat.le_of_ble_eq_true rfl) rfl (to_rc rfl rfl rfl (g_o hG rfl)) rfl (to_an (pc := 0) rw_159_0 rfl (tt_gI (pc := 1) rw_159_1 (g_o hG rfl) (v := (M.2.1 77 8)) rfl (to_c (pc := 4) rw_159_4 (x := (4 : Int32)) rfl rfl (b_cne_t (pc := 5) rw_159_5 (A := (M.2.1 77 8).toInt) (B := 4) rfl rfl (by omega) (to_c (pc := 20) rw_159_20 (x := (0 : Int32)) rfl rfl (s_r1 (pc := 21) rw_159_21 (A := 0) rfl (by decide) (b_ieq_t (pc := 88) rw_226_88 (A := 0) rfl (by decide) (to_an (pc := 98) rw_226_98 rfl (to_c (pc := 99) rw_226_99 (x := (1 : Int32)) rfl rfl ?_)))))))))))
        refine s_v (pc := 100) rw_226_100 (dp0 hd (by decide)) (ls0 := [.ref 77, .int (1 : Int32)]) rfl (Nat.le_of_ble_eq_true rfl) (Nat.le_of_ble_eq_true rfl) rfl (to_rc rfl rfl rfl (g_o hG rfl)) rfl (to_an (pc := 0) rw_152_0 rfl (to_in (pc := 1) rw_152_1 rfl (s_pI (pc := 2) rw_152_2 hG rfl (fun M339 W338 => ?_))))
        have hG340 := g_wf hG W338 rfl rfl (by decide)
        have F341 := FR.w F0 W338 (show 77 = 77 ∧ (4 = 4 ∨ 4 = 5 ∨ 7 ≤ 4 ∧ 4 ≤ 10) ∨ 77 = 77 ∧ (4 = 59 ∨ 65 ≤ 4 ∧ 4 ≤ 69) ∨ 112 ≤ 77 ∧ 77 ≤ 114 ∧ 40 ≤ 4 ∨ 77 = 115 ∨ 77 = 116 by decide)
        refine to_an (pc := 5) rw_152_5 rfl (to_an (pc := 6) rw_152_6 rfl ?_)
        have c_342 : M339.2.1 77 10 = (M.2.1 77 10) := (W_n W338 (by decide) rfl)
        refine tt_gI (pc := 7) rw_152_7 (g_o hG340 rfl) (v := (M.2.1 77 10)) c_342 (s_pI (pc := 10) rw_152_10 hG340 rfl (fun M344 W343 => ?_))
        have hG345 := g_wf hG340 W343 rfl rfl (by decide)
        have F346 := FR.w F341 W343 (show 77 = 77 ∧ (5 = 4 ∨ 5 = 5 ∨ 7 ≤ 5 ∧ 5 ≤ 10) ∨ 77 = 77 ∧ (5 = 59 ∨ 65 ≤ 5 ∧ 5 ≤ 69) ∨ 112 ≤ 77 ∧ 77 ≤ 114 ∧ 40 ≤ 5 ∨ 77 = 115 ∨ 77 = 116 by decide)
        refine to_c (pc := 13) rw_152_13 (x := (0 : Int32)) rfl rfl (s_r1 (pc := 14) rw_152_14 (A := 0) rfl (by decide) (s_r1 (pc := 103) rw_226_103 (A := 0) rfl (by decide) ?_))
        have k_347 : (0 : Int32).toInt = 0 := rfl
        have c_348 : M344.2.1 77 7 = (M.2.1 77 7) := (W_n W343 (by decide) (W_n W338 (by decide) rfl))
        have t_349 : (M344.2.1 77 7).toInt = (M.2.1 77 7).toInt := congrArg Int32.toInt c_348
        have c_350 : M344.2.1 77 6 = (M.2.1 77 6) := (W_n W343 (by decide) (W_n W338 (by decide) rfl))
        have t_351 : (M344.2.1 77 6).toInt = (M.2.1 77 6).toInt := congrArg Int32.toInt c_350
        have c_352 : M344.2.1 77 8 = (M.2.1 77 8) := (W_n W343 (by decide) (W_n W338 (by decide) rfl))
        have t_353 : (M344.2.1 77 8).toInt = (M.2.1 77 8).toInt := congrArg Int32.toInt c_352
        have c_354 : M344.2.1 77 4 = (1 : Int32) := (W_n W343 (by decide) (W_e W338))
        have k_355 : (1 : Int32).toInt = 1 := rfl
        have t_356 : (M344.2.1 77 4).toInt = (1 : Int32).toInt := congrArg Int32.toInt c_354
        have c_357 : M344.2.1 77 5 = (M.2.1 77 10) := (W_e W343)
        have t_358 : (M344.2.1 77 5).toInt = (M.2.1 77 10).toInt := congrArg Int32.toInt c_357
        have c_359 : M344.2.1 77 67 = (M.2.1 77 67) := (W_n W343 (by decide) (W_n W338 (by decide) rfl))
        have t_360 : (M344.2.1 77 67).toInt = (M.2.1 77 67).toInt := congrArg Int32.toInt c_359
        have c_361 : M344.2.1 77 69 = (M.2.1 77 69) := (W_n W343 (by decide) (W_n W338 (by decide) rfl))
        have t_362 : (M344.2.1 77 69).toInt = (M.2.1 77 69).toInt := congrArg Int32.toInt c_361
        exact h (0 : Int32) M344 hG345 F346 (by decide) (by decide) (by omega) (by omega) (by omega) (by omega) (fun z => absurd z (by omega)) (fun z => absurd z (by decide)) (fun z => absurd z (by decide)) (fun z => absurd z (by decide)) (fun _ => inl_e (by omega) (by omega) (q_1x (by omega) (by omega) (by omega) (by omega) (by omega)))
      · refine to_c (pc := 16) rw_158_16 (x := (1 : Int32)) rfl rfl (to_go (pc := 17) rw_158_17 (s_r1 (pc := 21) rw_158_21 (A := 1) rfl (by decide) (b_ieq_f (pc := 15) rw_226_15 (A := 1) rfl (by decide) (to_an (pc := 18) rw_226_18 rfl (tt_gI (pc := 19) rw_226_19 (g_o hG rfl) (v := (M.2.1 77 9)) rfl (to_c (pc := 22) rw_226_22 (x := (12 : Int32)) rfl rfl (b_cne_t (pc := 24) rw_226_24 (A := (M.2.1 77 9).toInt) (B := 12) rfl rfl (by omega) (to_c (pc := 31) rw_226_31 (x := (4 : Int32)) rfl rfl (to_isn (pc := 32) rw_226_32 (ls2 := [.ref 77, .int (4 : Int32)]) rfl rfl ?_)))))))))
        have z_363 := RS_1 q4 (a := a) (by omega) (by omega)
        refine to_an (pc := 33) rw_226_33 rfl (s_v (pc := 34) rw_226_34 (dp0 hd (by decide)) (ls0 := [.ref 77]) rfl (Nat.le_of_ble_eq_true rfl) (Nat.le_of_ble_eq_true rfl) rfl (to_rc rfl rfl rfl (g_o hG rfl)) rfl (to_an (pc := 0) rw_224_0 rfl (tt_gI (pc := 1) rw_224_1 (g_o hG rfl) (v := (M.2.1 77 69)) rfl (to_c (pc := 4) rw_224_4 (x := (40 : Int32)) rfl rfl (b_cne (pc := 6) rw_224_6 (A := (M.2.1 77 69).toInt) (B := 40) rfl rfl (fun h364 => ?_) (fun h364 => ?_))))))
        · refine to_an (pc := 15) rw_224_15 rfl (to_dupr (pc := 16) rw_224_16 (tt_gI (pc := 17) rw_224_17 (g_o hG rfl) (v := (M.2.1 77 69)) rfl (to_c (pc := 20) rw_224_20 (x := (1 : Int32)) rfl rfl (s_add (pc := 21) rw_224_21 (A := (M.2.1 77 69).toInt) (B := 1) rfl rfl (by omega) (fun v365 e366 => s_pI (pc := 22) rw_224_22 hG rfl (fun M368 W367 => ?_))))))
          have hG369 := g_w hG W367 (A := v365.toInt) rfl (lo := 0) (hi := 40) rfl rfl (by omega) (by decide)
          have F370 := FR.w F0 W367 (show 77 = 77 ∧ (69 = 4 ∨ 69 = 5 ∨ 7 ≤ 69 ∧ 69 ≤ 10) ∨ 77 = 77 ∧ (69 = 59 ∨ 65 ≤ 69 ∧ 69 ≤ 69) ∨ 112 ≤ 77 ∧ 77 ≤ 114 ∧ 40 ≤ 69 ∨ 77 = 115 ∨ 77 = 116 by decide)
          refine to_c (pc := 25) rw_224_25 (x := (1 : Int32)) rfl rfl (s_r1 (pc := 26) rw_224_26 (A := 1) rfl (by decide) (b_ine_t (pc := 37) rw_226_37 (A := 1) rfl (by decide) (to_an (pc := 42) rw_226_42 rfl (to_an (pc := 43) rw_226_43 rfl (to_in (pc := 44) rw_226_44 rfl (s_v (pc := 45) rw_226_45 (dp0 hd (by decide)) (ls0 := [.ref 77, .int (4 : Int32)]) rfl (Nat.le_of_ble_eq_true rfl) (Nat.le_of_ble_eq_true rfl) rfl (to_rc rfl rfl rfl (g_o hG369 rfl)) rfl (to_in (pc := 0) rw_220_0 rfl (to_c (pc := 1) rw_220_1 (x := (2 : Int32)) rfl rfl (b_cne_t (pc := 2) rw_220_2 (A := 4) (B := 2) rfl rfl (by decide) (to_in (pc := 9) rw_220_9 rfl (to_c (pc := 10) rw_220_10 (x := (3 : Int32)) rfl rfl ?_)))))))))))
          refine b_cne_t (pc := 11) rw_220_11 (A := 4) (B := 3) rfl rfl (by decide) (to_in (pc := 18) rw_220_18 rfl (to_c (pc := 19) rw_220_19 (x := (4 : Int32)) rfl rfl (b_cne_f (pc := 20) rw_220_20 (A := 4) (B := 4) rfl rfl (by decide) (to_c (pc := 23) rw_220_23 (x := (1 : Int32)) rfl rfl (to_go (pc := 24) rw_220_24 (to_r0 (pc := 28) rw_220_28 (s_v (pc := 48) rw_226_48 (dp0 hd (by decide)) (ls0 := [.ref 77, .int (1 : Int32), .null, .null, .null]) rfl (Nat.le_of_ble_eq_true rfl) (Nat.le_of_ble_eq_true rfl) rfl (to_rc rfl rfl rfl (g_o hG369 rfl)) rfl ?_)))))))
          have k_371 : (1 : Int32).toInt = 1 := rfl
          have c_372 : M368.2.1 77 59 = (M.2.1 77 59) := (W_n W367 (by decide) rfl)
          have t_373 : (M368.2.1 77 59).toInt = (M.2.1 77 59).toInt := congrArg Int32.toInt c_372
          have c_374 : M368.2.1 77 65 = (M.2.1 77 65) := (W_n W367 (by decide) rfl)
          have t_375 : (M368.2.1 77 65).toInt = (M.2.1 77 65).toInt := congrArg Int32.toInt c_374
          have c_376 : M368.2.1 77 66 = (M.2.1 77 66) := (W_n W367 (by decide) rfl)
          have t_377 : (M368.2.1 77 66).toInt = (M.2.1 77 66).toInt := congrArg Int32.toInt c_376
          have c_378 : M368.2.1 77 67 = (M.2.1 77 67) := (W_n W367 (by decide) rfl)
          have t_379 : (M368.2.1 77 67).toInt = (M.2.1 77 67).toInt := congrArg Int32.toInt c_378
          have c_380 : M368.2.1 77 68 = (M.2.1 77 68) := (W_n W367 (by decide) rfl)
          have t_381 : (M368.2.1 77 68).toInt = (M.2.1 77 68).toInt := congrArg Int32.toInt c_380
          have c_382 : M368.2.1 77 69 = v365 := (W_e W367)
          have t_383 : (M368.2.1 77 69).toInt = v365.toInt := congrArg Int32.toInt c_382
          have s_385 := Wx_f (M := M) (M1 := M368) ((M.2.1 77 65).toInt).toNat (fun i z => (W_n W367 (by omega) rfl))
          have j_384 : QK M368 := QK_i (by unfold QK_c; rw [show ((M368.2.1 77 65).toInt).toNat = ((M.2.1 77 65).toInt).toNat by omega]; refine ⟨by omega, by omega, by omega, by omega⟩) (fun i z => by rw [(W_n W367 (by omega) rfl)]; exact q2.2.1 i (by omega)) (by rw [(W_n W367 (by omega) rfl)]; exact KN_f (fun a i z => (W_n W367 (by /-r77,69-/ omega) rfl)) q2.2.2)
          refine C_223 hX (dp1 hd (by decide)) hG369 (by omega) (by omega) (by omega) j_384 (l := (1 : Int32)) (fun M391 hG387 F386 p_388 p_389 p_390 => ?_)
          have F392 := FR.c F370 F386 tg_388
          have s_393 := p_389
          have s_394 : Wo M368 ((M368.2.1 77 65).toInt).toNat = Wo M ((M.2.1 77 65).toInt).toNat := by rw [show (M368.2.1 77 65) = (M.2.1 77 65) from (W_n W367 (by omega) rfl)]; exact (Wx_f (M := M) (M1 := M368) _ (fun i z => (W_n W367 (by omega) rfl))).1
          have b_395 := g_b hG387 (a := 77) (i := 59) (lo := 0) (hi := 40) rfl rfl
          have b_396 := g_b hG387 (a := 77) (i := 65) (lo := 0) (hi := 48) rfl rfl
          have b_397 := g_b hG387 (a := 77) (i := 66) (lo := 0) (hi := 40) rfl rfl
          have c_398 : M391.2.1 77 67 = (M.2.1 77 67) := (F_n F386 (show ¬ (77 = 77 ∧ (67 = 59 ∨ 67 = 65 ∨ 67 = 66) ∨ 112 ≤ 77 ∧ 77 ≤ 114 ∧ 40 ≤ 67 ∨ 77 = 116) by decide) c_378)
          have t_399 : (M391.2.1 77 67).toInt = (M.2.1 77 67).toInt := congrArg Int32.toInt c_398
          have c_400 : M391.2.1 77 68 = (M.2.1 77 68) := (F_n F386 (show ¬ (77 = 77 ∧ (68 = 59 ∨ 68 = 65 ∨ 68 = 66) ∨ 112 ≤ 77 ∧ 77 ≤ 114 ∧ 40 ≤ 68 ∨ 77 = 116) by decide) c_380)
          have t_401 : (M391.2.1 77 68).toInt = (M.2.1 77 68).toInt := congrArg Int32.toInt c_400
          have c_402 : M391.2.1 77 69 = v365 := (F_n F386 (show ¬ (77 = 77 ∧ (69 = 59 ∨ 69 = 65 ∨ 69 = 66) ∨ 112 ≤ 77 ∧ 77 ≤ 114 ∧ 40 ≤ 69 ∨ 77 = 116) by decide) c_382)
          have t_403 : (M391.2.1 77 69).toInt = v365.toInt := congrArg Int32.toInt c_402
          have s_404 := QK_e p_388
          have s_405 := Wx_b M391 ((M391.2.1 77 65).toInt).toNat
          refine to_an (pc := 51) rw_226_51 rfl (s_gR (pc := 52) rw_226_52 hG387 rfl (v := 115) rfl (to_an (pc := 55) rw_226_55 rfl (tt_gI (pc := 56) rw_226_56 (g_o hG387 rfl) (v := (M391.2.1 77 65)) rfl (to_in (pc := 59) rw_226_59 rfl (s_ias (pc := 60) rw_226_60 hG387 rfl (n := 64) rfl (A := (M391.2.1 77 65).toInt) rfl (by omega) (by omega) (fun M407 W406 => ?_))))))
          have hG408 := g_w hG387 W406 (A := 4) rfl (lo := 0) (hi := 4) rfl rfl (by omega) (by decide)
          have F409 := FR.w F392 W406 (show 115 = 77 ∧ (((M391.2.1 77 65).toInt).toNat = 4 ∨ ((M391.2.1 77 65).toInt).toNat = 5 ∨ 7 ≤ ((M391.2.1 77 65).toInt).toNat ∧ ((M391.2.1 77 65).toInt).toNat ≤ 10) ∨ 115 = 77 ∧ (((M391.2.1 77 65).toInt).toNat = 59 ∨ 65 ≤ ((M391.2.1 77 65).toInt).toNat ∧ ((M391.2.1 77 65).toInt).toNat ≤ 69) ∨ 112 ≤ 115 ∧ 115 ≤ 114 ∧ 40 ≤ ((M391.2.1 77 65).toInt).toNat ∨ 115 = 115 ∨ 115 = 116 by omega)
          refine to_an (pc := 61) rw_226_61 rfl (to_dupr (pc := 62) rw_226_62 ?_)
          have c_410 : M407.2.1 77 65 = (M391.2.1 77 65) := (W_n W406 (fun z => absurd z.1 (by decide)) rfl)
          refine tt_gI (pc := 63) rw_226_63 (g_o hG408 rfl) (v := (M391.2.1 77 65)) c_410 (to_c (pc := 66) rw_226_66 (x := (1 : Int32)) rfl rfl (s_add (pc := 67) rw_226_67 (A := (M391.2.1 77 65).toInt) (B := 1) rfl rfl (by omega) (fun v411 e412 => s_pI (pc := 68) rw_226_68 hG408 rfl (fun M414 W413 => ?_))))
          have hG415 := g_w hG408 W413 (A := v411.toInt) rfl (lo := 0) (hi := 48) rfl rfl (by omega) (by decide)
          have F416 := FR.w F409 W413 (show 77 = 77 ∧ (65 = 4 ∨ 65 = 5 ∨ 7 ≤ 65 ∧ 65 ≤ 10) ∨ 77 = 77 ∧ (65 = 59 ∨ 65 ≤ 65 ∧ 65 ≤ 69) ∨ 112 ≤ 77 ∧ 77 ≤ 114 ∧ 40 ≤ 65 ∨ 77 = 115 ∨ 77 = 116 by decide)
          refine to_an (pc := 71) rw_226_71 rfl (to_c (pc := 72) rw_226_72 (x := (0 : Int32)) rfl rfl (s_pI (pc := 73) rw_226_73 hG415 rfl (fun M418 W417 => ?_)))
          have hG419 := g_w hG415 W417 (A := 0) rfl (lo := 0) (hi := 1) rfl rfl (by omega) (by decide)
          have F420 := FR.w F416 W417 (show 77 = 77 ∧ (68 = 4 ∨ 68 = 5 ∨ 7 ≤ 68 ∧ 68 ≤ 10) ∨ 77 = 77 ∧ (68 = 59 ∨ 65 ≤ 68 ∧ 68 ≤ 69) ∨ 112 ≤ 77 ∧ 77 ≤ 114 ∧ 40 ≤ 68 ∨ 77 = 115 ∨ 77 = 116 by decide)
          refine to_an (pc := 76) rw_226_76 rfl (s_v (pc := 77) rw_226_77 (dp0 hd (by decide)) (ls0 := [.ref 77]) rfl (Nat.le_of_ble_eq_true rfl) (Nat.le_of_ble_eq_true rfl) rfl (to_rc rfl rfl rfl (g_o hG419 rfl)) rfl ?_)
          have c_421 : M418.2.1 77 7 = (M.2.1 77 7) := (W_n W417 (by decide) (W_n W413 (by decide) (W_n W406 (fun z => absurd z.1 (by decide)) (F_n F386 (show ¬ (77 = 77 ∧ (7 = 59 ∨ 7 = 65 ∨ 7 = 66) ∨ 112 ≤ 77 ∧ 77 ≤ 114 ∧ 40 ≤ 7 ∨ 77 = 116) by decide) (W_n W367 (by decide) rfl)))))
          have t_422 : (M418.2.1 77 7).toInt = (M.2.1 77 7).toInt := congrArg Int32.toInt c_421
          have c_423 : M418.2.1 77 6 = (M.2.1 77 6) := (W_n W417 (by decide) (W_n W413 (by decide) (W_n W406 (fun z => absurd z.1 (by decide)) (F_n F386 (show ¬ (77 = 77 ∧ (6 = 59 ∨ 6 = 65 ∨ 6 = 66) ∨ 112 ≤ 77 ∧ 77 ≤ 114 ∧ 40 ≤ 6 ∨ 77 = 116) by decide) (W_n W367 (by decide) rfl)))))
          have t_424 : (M418.2.1 77 6).toInt = (M.2.1 77 6).toInt := congrArg Int32.toInt c_423
          have c_425 : M418.2.1 77 10 = (M.2.1 77 10) := (W_n W417 (by decide) (W_n W413 (by decide) (W_n W406 (fun z => absurd z.1 (by decide)) (F_n F386 (show ¬ (77 = 77 ∧ (10 = 59 ∨ 10 = 65 ∨ 10 = 66) ∨ 112 ≤ 77 ∧ 77 ≤ 114 ∧ 40 ≤ 10 ∨ 77 = 116) by decide) (W_n W367 (by decide) rfl)))))
          have t_426 : (M418.2.1 77 10).toInt = (M.2.1 77 10).toInt := congrArg Int32.toInt c_425
          have j_427 := (RS_f (fun a i z => W_n W417 (tg_453 a i z) rfl) (RS_f (fun a i z => W_n W413 (tg_448 a i z) rfl) (RS_f (fun a i z => W_n W406 (tg_454 a i _ z) rfl) (RS_f (tg_444 F386) (RS_f (fun a i z => W_n W367 (tg_455 a i z) rfl) q4)))))
          have z_428 := RS_b j_427 (a := a) (by omega)
          have j_429 := (TR_f (fun a i z => W_n W417 (tg_456 a i z) rfl) (TR_f (fun a i z => W_n W413 (tg_450 a i z) rfl) (TR_f (fun a i z => W_n W406 (tg_457 a i _ z) rfl) (TR_f (tg_445 F386) (TR_f (fun a i z => W_n W367 (tg_458 a i z) rfl) q8)))))
          have j_430 := (W9_f (fun a i z => W_n W417 (tg_459 a i z) rfl) (W9_f (fun a i z => W_n W413 (tg_452 a i z) rfl) (W9_f (fun a i z => W_n W406 (tg_460 a i _ z) rfl) (W9_f (tg_446 F386) (W9_f (fun a i z => W_n W367 (tg_461 a i z) rfl) q9)))))
          refine E_156 hX (dp1 hd (by decide)) hG419 (by omega) (by omega) (by omega) (by omega) j_429 j_430  (fun M437 hG432 F431 p_433 p_434 p_435 p_436 => ?_)
          have F438 := FR.c F420 F431 tg_389
          have b_439 := g_b hG432 (a := 77) (i := 7) (lo := 0) (hi := 500) rfl rfl
          have c_440 : M437.2.1 77 6 = (M.2.1 77 6) := (F_n F431 (show ¬ (77 = 77 ∧ 7 ≤ 6 ∧ 6 ≤ 10) by decide) c_423)
          have t_441 : (M437.2.1 77 6).toInt = (M.2.1 77 6).toInt := congrArg Int32.toInt c_440
          have b_442 := g_b hG432 (a := 77) (i := 8) (lo := 0) (hi := 5) rfl rfl
          have b_443 := g_b hG432 (a := 77) (i := 10) (lo := 0) (hi := 500) rfl rfl
          have z_444 := RS_s p_436.2 (a := a) (by omega)
          refine to_c (pc := 80) rw_226_80 (x := (1 : Int32)) rfl rfl (s_r1 (pc := 81) rw_226_81 (A := 1) rfl (by decide) ?_)
          have c_445 : M437.2.1 77 59 = (M391.2.1 77 59) := (F_n F431 (show ¬ (77 = 77 ∧ 7 ≤ 59 ∧ 59 ≤ 10) by decide) (W_n W417 (by decide) (W_n W413 (by decide) (W_n W406 (fun z => absurd z.1 (by decide)) rfl))))
          have t_446 : (M437.2.1 77 59).toInt = (M391.2.1 77 59).toInt := congrArg Int32.toInt c_445
          have c_447 : M437.2.1 77 65 = v411 := (F_n F431 (show ¬ (77 = 77 ∧ 7 ≤ 65 ∧ 65 ≤ 10) by decide) (W_n W417 (by decide) (W_e W413)))
          have t_448 : (M437.2.1 77 65).toInt = v411.toInt := congrArg Int32.toInt c_447
          have c_449 : M437.2.1 77 66 = (M391.2.1 77 66) := (F_n F431 (show ¬ (77 = 77 ∧ 7 ≤ 66 ∧ 66 ≤ 10) by decide) (W_n W417 (by decide) (W_n W413 (by decide) (W_n W406 (fun z => absurd z.1 (by decide)) rfl))))
          have t_450 : (M437.2.1 77 66).toInt = (M391.2.1 77 66).toInt := congrArg Int32.toInt c_449
          have c_451 : M437.2.1 77 67 = (M.2.1 77 67) := (F_n F431 (show ¬ (77 = 77 ∧ 7 ≤ 67 ∧ 67 ≤ 10) by decide) (W_n W417 (by decide) (W_n W413 (by decide) (W_n W406 (fun z => absurd z.1 (by decide)) c_398))))
          have t_452 : (M437.2.1 77 67).toInt = (M.2.1 77 67).toInt := congrArg Int32.toInt c_451
          have c_453 : M437.2.1 77 68 = (0 : Int32) := (F_n F431 (show ¬ (77 = 77 ∧ 7 ≤ 68 ∧ 68 ≤ 10) by decide) (W_e W417))
          have k_454 : (0 : Int32).toInt = 0 := rfl
          have t_455 : (M437.2.1 77 68).toInt = (0 : Int32).toInt := congrArg Int32.toInt c_453
          have c_456 : M437.2.1 77 69 = v365 := (F_n F431 (show ¬ (77 = 77 ∧ 7 ≤ 69 ∧ 69 ≤ 10) by decide) (W_n W417 (by decide) (W_n W413 (by decide) (W_n W406 (fun z => absurd z.1 (by decide)) c_402))))
          have t_457 : (M437.2.1 77 69).toInt = v365.toInt := congrArg Int32.toInt c_456
          have k_459 : (4 : Int32).toInt = 4 := rfl
          have s_460 := Wx_f (M := M391) (M1 := M437) ((M391.2.1 77 65).toInt).toNat (fun i z => (F_n F431 (show ¬ (115 = 77 ∧ 7 ≤ i ∧ i ≤ 10) by omega) (W_n W417 (by omega) (W_n W413 (by omega) (W_n W406 (by omega) rfl)))))
          have s_461 : (M437.2.1 115 ((M391.2.1 77 65).toInt).toNat).toInt = (4 : Int32).toInt := by rw [show ((M391.2.1 77 65).toInt).toNat = ((M391.2.1 77 65).toInt).toNat by omega]; exact congrArg Int32.toInt (F_n F431 (show ¬ (115 = 77 ∧ 7 ≤ (((M391.2.1 77 65).toInt).toNat) ∧ (((M391.2.1 77 65).toInt).toNat) ≤ 10) by omega) (W_n W417 (by omega) (W_n W413 (by omega) (W_e W406))))
          have s_462 := Wx_s M437 ((M391.2.1 77 65).toInt).toNat
          have j_458 : QK M437 := QK_i (by unfold QK_c; rw [show ((M437.2.1 77 65).toInt).toNat = ((M391.2.1 77 65).toInt).toNat + 1 by omega]; refine ⟨by omega, by omega, by omega, by omega⟩) (fun i z => by
              by_cases ei : i = ((M391.2.1 77 65).toInt).toNat
              · rw [ei]; omega
              · rw [(F_n F431 (show ¬ (115 = 77 ∧ 7 ≤ i ∧ i ≤ 10) by omega) (W_n W417 (by omega) (W_n W413 (by omega) (W_n W406 (by omega) rfl))))]; exact p_388.2.1 i (by omega)) (by rw [(F_n F431 (show ¬ (77 = 77 ∧ 7 ≤ 59 ∧ 59 ≤ 10) by decide) (W_n W417 (by omega) (W_n W413 (by omega) (W_n W406 (by omega) rfl))))]; exact KN_f (fun a i z => (F_n F431 (show ¬ (a = 77 ∧ 7 ≤ i ∧ i ≤ 10) by omega) (W_n W417 (by /-r77,68-/ omega) (W_n W413 (by /-r77,65-/ omega) (W_n W406 (by /-r115-/ omega) rfl))))) p_388.2.2)
          exact h (1 : Int32) M437 hG432 F438 (by decide) (by decide) (by omega) (by omega) (by omega) (by omega) (fun _ => j_458) (fun _ => by rw [show ((M437.2.1 77 65).toInt).toNat = ((M391.2.1 77 65).toInt).toNat + 1 by omega]; omega) (fun _ => p_436.1) (fun _ => (q_ao (by omega) (by omega) (by omega) (by omega) (by omega)).trans (q_w (by omega) (by omega) (by omega) (by omega))) (fun z => absurd z (by decide))
        · refine to_an (pc := 9) rw_224_9 rfl (to_c (pc := 10) rw_224_10 (x := (2 : Int32)) rfl rfl (s_v (pc := 11) rw_224_11 (dp1 hd (by decide)) (ls0 := [.ref 77, .int (2 : Int32)]) rfl (Nat.le_of_ble_eq_true rfl) (Nat.le_of_ble_eq_true rfl) rfl (to_rc rfl rfl rfl (g_o hG rfl)) rfl (to_an (pc := 0) rw_152_0 rfl (to_in (pc := 1) rw_152_1 rfl (s_pI (pc := 2) rw_152_2 hG rfl (fun M464 W463 => ?_))))))
          have hG465 := g_wf hG W463 rfl rfl (by decide)
          have F466 := FR.w F0 W463 (show 77 = 77 ∧ (4 = 4 ∨ 4 = 5 ∨ 7 ≤ 4 ∧ 4 ≤ 10) ∨ 77 = 77 ∧ (4 = 59 ∨ 65 ≤ 4 ∧ 4 ≤ 69) ∨ 112 ≤ 77 ∧ 77 ≤ 114 ∧ 40 ≤ 4 ∨ 77 = 115 ∨ 77 = 116 by decide)
          refine to_an (pc := 5) rw_152_5 rfl (to_an (pc := 6) rw_152_6 rfl ?_)
          have c_467 : M464.2.1 77 10 = (M.2.1 77 10) := (W_n W463 (by decide) rfl)
          refine tt_gI (pc := 7) rw_152_7 (g_o hG465 rfl) (v := (M.2.1 77 10)) c_467 (s_pI (pc := 10) rw_152_10 hG465 rfl (fun M469 W468 => ?_))
          have hG470 := g_wf hG465 W468 rfl rfl (by decide)
          have F471 := FR.w F466 W468 (show 77 = 77 ∧ (5 = 4 ∨ 5 = 5 ∨ 7 ≤ 5 ∧ 5 ≤ 10) ∨ 77 = 77 ∧ (5 = 59 ∨ 65 ≤ 5 ∧ 5 ≤ 69) ∨ 112 ≤ 77 ∧ 77 ≤ 114 ∧ 40 ≤ 5 ∨ 77 = 115 ∨ 77 = 116 by decide)
          refine to_c (pc := 13) rw_152_13 (x := (0 : Int32)) rfl rfl (s_r1 (pc := 14) rw_152_14 (A := 0) rfl (by decide) (s_r1 (pc := 14) rw_224_14 (A := 0) rfl (by decide) (b_ine_f (pc := 37) rw_226_37 (A := 0) rfl (by decide) (to_c (pc := 40) rw_226_40 (x := (0 : Int32)) rfl rfl (s_r1 (pc := 41) rw_226_41 (A := 0) rfl (by decide) ?_)))))
          have k_472 : (0 : Int32).toInt = 0 := rfl
          have c_473 : M469.2.1 77 7 = (M.2.1 77 7) := (W_n W468 (by decide) (W_n W463 (by decide) rfl))
          have t_474 : (M469.2.1 77 7).toInt = (M.2.1 77 7).toInt := congrArg Int32.toInt c_473
          have c_475 : M469.2.1 77 6 = (M.2.1 77 6) := (W_n W468 (by decide) (W_n W463 (by decide) rfl))
          have t_476 : (M469.2.1 77 6).toInt = (M.2.1 77 6).toInt := congrArg Int32.toInt c_475
          have c_477 : M469.2.1 77 8 = (M.2.1 77 8) := (W_n W468 (by decide) (W_n W463 (by decide) rfl))
          have t_478 : (M469.2.1 77 8).toInt = (M.2.1 77 8).toInt := congrArg Int32.toInt c_477
          have c_479 : M469.2.1 77 4 = (2 : Int32) := (W_n W468 (by decide) (W_e W463))
          have k_480 : (2 : Int32).toInt = 2 := rfl
          have t_481 : (M469.2.1 77 4).toInt = (2 : Int32).toInt := congrArg Int32.toInt c_479
          have c_482 : M469.2.1 77 5 = (M.2.1 77 10) := (W_e W468)
          have t_483 : (M469.2.1 77 5).toInt = (M.2.1 77 10).toInt := congrArg Int32.toInt c_482
          have c_484 : M469.2.1 77 67 = (M.2.1 77 67) := (W_n W468 (by decide) (W_n W463 (by decide) rfl))
          have t_485 : (M469.2.1 77 67).toInt = (M.2.1 77 67).toInt := congrArg Int32.toInt c_484
          have c_486 : M469.2.1 77 69 = (M.2.1 77 69) := (W_n W468 (by decide) (W_n W463 (by decide) rfl))
          have t_487 : (M469.2.1 77 69).toInt = (M.2.1 77 69).toInt := congrArg Int32.toInt c_486
          exact h (0 : Int32) M469 hG470 F471 (by decide) (by decide) (by omega) (by omega) (by omega) (by omega) (fun z => absurd z (by omega)) (fun z => absurd z (by decide)) (fun z => absurd z (by decide)) (fun z => absurd z (by decide)) (fun _ => inl_e (by omega) (by omega) (q_aox (by omega) (by omega) (by omega) (by omega) (by omega)))
    · refine to_c (pc := 16) rw_158_16 (x := (1 : Int32)) rfl rfl (to_go (pc := 17) rw_158_17 (s_r1 (pc := 21) rw_158_21 (A := 1) rfl (by decide) (b_ine_t (pc := 6) rw_226_6 (A := 1) rfl (by decide) (to_an (pc := 18) rw_226_18 rfl (tt_gI (pc := 19) rw_226_19 (g_o hG rfl) (v := (M.2.1 77 9)) rfl (to_c (pc := 22) rw_226_22 (x := (12 : Int32)) rfl rfl (b_cne_f (pc := 24) rw_226_24 (A := (M.2.1 77 9).toInt) (B := 12) rfl rfl (by omega) (to_c (pc := 27) rw_226_27 (x := (3 : Int32)) rfl rfl (to_go (pc := 28) rw_226_28 (to_isn (pc := 32) rw_226_32 (ls2 := [.ref 77, .int (3 : Int32)]) rfl rfl ?_))))))))))
      have z_488 := RS_1 q4 (a := a) (by omega) (by omega)
      refine to_an (pc := 33) rw_226_33 rfl (s_v (pc := 34) rw_226_34 (dp0 hd (by decide)) (ls0 := [.ref 77]) rfl (Nat.le_of_ble_eq_true rfl) (Nat.le_of_ble_eq_true rfl) rfl (to_rc rfl rfl rfl (g_o hG rfl)) rfl (to_an (pc := 0) rw_224_0 rfl (tt_gI (pc := 1) rw_224_1 (g_o hG rfl) (v := (M.2.1 77 69)) rfl (to_c (pc := 4) rw_224_4 (x := (40 : Int32)) rfl rfl (b_cne (pc := 6) rw_224_6 (A := (M.2.1 77 69).toInt) (B := 40) rfl rfl (fun h489 => ?_) (fun h489 => ?_))))))
      · refine to_an (pc := 15) rw_224_15 rfl (to_dupr (pc := 16) rw_224_16 (tt_gI (pc := 17) rw_224_17 (g_o hG rfl) (v := (M.2.1 77 69)) rfl (to_c (pc := 20) rw_224_20 (x := (1 : Int32)) rfl rfl (s_add (pc := 21) rw_224_21 (A := (M.2.1 77 69).toInt) (B := 1) rfl rfl (by omega) (fun v490 e491 => s_pI (pc := 22) rw_224_22 hG rfl (fun M493 W492 => ?_))))))
        have hG494 := g_w hG W492 (A := v490.toInt) rfl (lo := 0) (hi := 40) rfl rfl (by omega) (by decide)
        have F495 := FR.w F0 W492 (show 77 = 77 ∧ (69 = 4 ∨ 69 = 5 ∨ 7 ≤ 69 ∧ 69 ≤ 10) ∨ 77 = 77 ∧ (69 = 59 ∨ 65 ≤ 69 ∧ 69 ≤ 69) ∨ 112 ≤ 77 ∧ 77 ≤ 114 ∧ 40 ≤ 69 ∨ 77 = 115 ∨ 77 = 116 by decide)
        refine to_c (pc := 25) rw_224_25 (x := (1 : Int32)) rfl rfl (s_r1 (pc := 26) rw_224_26 (A := 1) rfl (by decide) (b_ine_t (pc := 37) rw_226_37 (A := 1) rfl (by decide) (to_an (pc := 42) rw_226_42 rfl (to_an (pc := 43) rw_226_43 rfl (to_in (pc := 44) rw_226_44 rfl (s_v (pc := 45) rw_226_45 (dp0 hd (by decide)) (ls0 := [.ref 77, .int (3 : Int32)]) rfl (Nat.le_of_ble_eq_true rfl) (Nat.le_of_ble_eq_true rfl) rfl (to_rc rfl rfl rfl (g_o hG494 rfl)) rfl (to_in (pc := 0) rw_220_0 rfl (to_c (pc := 1) rw_220_1 (x := (2 : Int32)) rfl rfl (b_cne_t (pc := 2) rw_220_2 (A := 3) (B := 2) rfl rfl (by decide) (to_in (pc := 9) rw_220_9 rfl (to_c (pc := 10) rw_220_10 (x := (3 : Int32)) rfl rfl ?_)))))))))))
        refine b_cne_f (pc := 11) rw_220_11 (A := 3) (B := 3) rfl rfl (by decide) (to_c (pc := 14) rw_220_14 (x := (2 : Int32)) rfl rfl (to_go (pc := 15) rw_220_15 (to_r0 (pc := 28) rw_220_28 (s_v (pc := 48) rw_226_48 (dp0 hd (by decide)) (ls0 := [.ref 77, .int (2 : Int32), .null, .null, .null]) rfl (Nat.le_of_ble_eq_true rfl) (Nat.le_of_ble_eq_true rfl) rfl (to_rc rfl rfl rfl (g_o hG494 rfl)) rfl ?_))))
        have k_496 : (2 : Int32).toInt = 2 := rfl
        have c_497 : M493.2.1 77 59 = (M.2.1 77 59) := (W_n W492 (by decide) rfl)
        have t_498 : (M493.2.1 77 59).toInt = (M.2.1 77 59).toInt := congrArg Int32.toInt c_497
        have c_499 : M493.2.1 77 65 = (M.2.1 77 65) := (W_n W492 (by decide) rfl)
        have t_500 : (M493.2.1 77 65).toInt = (M.2.1 77 65).toInt := congrArg Int32.toInt c_499
        have c_501 : M493.2.1 77 66 = (M.2.1 77 66) := (W_n W492 (by decide) rfl)
        have t_502 : (M493.2.1 77 66).toInt = (M.2.1 77 66).toInt := congrArg Int32.toInt c_501
        have c_503 : M493.2.1 77 67 = (M.2.1 77 67) := (W_n W492 (by decide) rfl)
        have t_504 : (M493.2.1 77 67).toInt = (M.2.1 77 67).toInt := congrArg Int32.toInt c_503
        have c_505 : M493.2.1 77 68 = (M.2.1 77 68) := (W_n W492 (by decide) rfl)
        have t_506 : (M493.2.1 77 68).toInt = (M.2.1 77 68).toInt := congrArg Int32.toInt c_505
        have c_507 : M493.2.1 77 69 = v490 := (W_e W492)
        have t_508 : (M493.2.1 77 69).toInt = v490.toInt := congrArg Int32.toInt c_507
        have s_510 := Wx_f (M := M) (M1 := M493) ((M.2.1 77 65).toInt).toNat (fun i z => (W_n W492 (by omega) rfl))
        have j_509 : QK M493 := QK_i (by unfold QK_c; rw [show ((M493.2.1 77 65).toInt).toNat = ((M.2.1 77 65).toInt).toNat by omega]; refine ⟨by omega, by omega, by omega, by omega⟩) (fun i z => by rw [(W_n W492 (by omega) rfl)]; exact q2.2.1 i (by omega)) (by rw [(W_n W492 (by omega) rfl)]; exact KN_f (fun a i z => (W_n W492 (by /-r77,69-/ omega) rfl)) q2.2.2)
        refine C_223 hX (dp1 hd (by decide)) hG494 (by omega) (by omega) (by omega) j_509 (l := (2 : Int32)) (fun M516 hG512 F511 p_513 p_514 p_515 => ?_)
        have F517 := FR.c F495 F511 tg_388
        have s_518 := p_514
        have s_519 : Wo M493 ((M493.2.1 77 65).toInt).toNat = Wo M ((M.2.1 77 65).toInt).toNat := by rw [show (M493.2.1 77 65) = (M.2.1 77 65) from (W_n W492 (by omega) rfl)]; exact (Wx_f (M := M) (M1 := M493) _ (fun i z => (W_n W492 (by omega) rfl))).1
        have b_520 := g_b hG512 (a := 77) (i := 59) (lo := 0) (hi := 40) rfl rfl
        have b_521 := g_b hG512 (a := 77) (i := 65) (lo := 0) (hi := 48) rfl rfl
        have b_522 := g_b hG512 (a := 77) (i := 66) (lo := 0) (hi := 40) rfl rfl
        have c_523 : M516.2.1 77 67 = (M.2.1 77 67) := (F_n F511 (show ¬ (77 = 77 ∧ (67 = 59 ∨ 67 = 65 ∨ 67 = 66) ∨ 112 ≤ 77 ∧ 77 ≤ 114 ∧ 40 ≤ 67 ∨ 77 = 116) by decide) c_503)
        have t_524 : (M516.2.1 77 67).toInt = (M.2.1 77 67).toInt := congrArg Int32.toInt c_523
        have c_525 : M516.2.1 77 68 = (M.2.1 77 68) := (F_n F511 (show ¬ (77 = 77 ∧ (68 = 59 ∨ 68 = 65 ∨ 68 = 66) ∨ 112 ≤ 77 ∧ 77 ≤ 114 ∧ 40 ≤ 68 ∨ 77 = 116) by decide) c_505)
        have t_526 : (M516.2.1 77 68).toInt = (M.2.1 77 68).toInt := congrArg Int32.toInt c_525
        have c_527 : M516.2.1 77 69 = v490 := (F_n F511 (show ¬ (77 = 77 ∧ (69 = 59 ∨ 69 = 65 ∨ 69 = 66) ∨ 112 ≤ 77 ∧ 77 ≤ 114 ∧ 40 ≤ 69 ∨ 77 = 116) by decide) c_507)
        have t_528 : (M516.2.1 77 69).toInt = v490.toInt := congrArg Int32.toInt c_527
        have s_529 := QK_e p_513
        have s_530 := Wx_b M516 ((M516.2.1 77 65).toInt).toNat
        refine to_an (pc := 51) rw_226_51 rfl (s_gR (pc := 52) rw_226_52 hG512 rfl (v := 115) rfl (to_an (pc := 55) rw_226_55 rfl (tt_gI (pc := 56) rw_226_56 (g_o hG512 rfl) (v := (M516.2.1 77 65)) rfl (to_in (pc := 59) rw_226_59 rfl (s_ias (pc := 60) rw_226_60 hG512 rfl (n := 64) rfl (A := (M516.2.1 77 65).toInt) rfl (by omega) (by omega) (fun M532 W531 => ?_))))))
        have hG533 := g_w hG512 W531 (A := 3) rfl (lo := 0) (hi := 4) rfl rfl (by omega) (by decide)
        have F534 := FR.w F517 W531 (show 115 = 77 ∧ (((M516.2.1 77 65).toInt).toNat = 4 ∨ ((M516.2.1 77 65).toInt).toNat = 5 ∨ 7 ≤ ((M516.2.1 77 65).toInt).toNat ∧ ((M516.2.1 77 65).toInt).toNat ≤ 10) ∨ 115 = 77 ∧ (((M516.2.1 77 65).toInt).toNat = 59 ∨ 65 ≤ ((M516.2.1 77 65).toInt).toNat ∧ ((M516.2.1 77 65).toInt).toNat ≤ 69) ∨ 112 ≤ 115 ∧ 115 ≤ 114 ∧ 40 ≤ ((M516.2.1 77 65).toInt).toNat ∨ 115 = 115 ∨ 115 = 116 by omega)
        refine to_an (pc := 61) rw_226_61 rfl (to_dupr (pc := 62) rw_226_62 ?_)
        have c_535 : M532.2.1 77 65 = (M516.2.1 77 65) := (W_n W531 (fun z => absurd z.1 (by decide)) rfl)
        refine tt_gI (pc := 63) rw_226_63 (g_o hG533 rfl) (v := (M516.2.1 77 65)) c_535 (to_c (pc := 66) rw_226_66 (x := (1 : Int32)) rfl rfl (s_add (pc := 67) rw_226_67 (A := (M516.2.1 77 65).toInt) (B := 1) rfl rfl (by omega) (fun v536 e537 => s_pI (pc := 68) rw_226_68 hG533 rfl (fun M539 W538 => ?_))))
        have hG540 := g_w hG533 W538 (A := v536.toInt) rfl (lo := 0) (hi := 48) rfl rfl (by omega) (by decide)
        have F541 := FR.w F534 W538 (show 77 = 77 ∧ (65 = 4 ∨ 65 = 5 ∨ 7 ≤ 65 ∧ 65 ≤ 10) ∨ 77 = 77 ∧ (65 = 59 ∨ 65 ≤ 65 ∧ 65 ≤ 69) ∨ 112 ≤ 77 ∧ 77 ≤ 114 ∧ 40 ≤ 65 ∨ 77 = 115 ∨ 77 = 116 by decide)
        refine to_an (pc := 71) rw_226_71 rfl (to_c (pc := 72) rw_226_72 (x := (0 : Int32)) rfl rfl (s_pI (pc := 73) rw_226_73 hG540 rfl (fun M543 W542 => ?_)))
        have hG544 := g_w hG540 W542 (A := 0) rfl (lo := 0) (hi := 1) rfl rfl (by omega) (by decide)
        have F545 := FR.w F541 W542 (show 77 = 77 ∧ (68 = 4 ∨ 68 = 5 ∨ 7 ≤ 68 ∧ 68 ≤ 10) ∨ 77 = 77 ∧ (68 = 59 ∨ 65 ≤ 68 ∧ 68 ≤ 69) ∨ 112 ≤ 77 ∧ 77 ≤ 114 ∧ 40 ≤ 68 ∨ 77 = 115 ∨ 77 = 116 by decide)
        refine to_an (pc := 76) rw_226_76 rfl (s_v (pc := 77) rw_226_77 (dp0 hd (by decide)) (ls0 := [.ref 77]) rfl (Nat.le_of_ble_eq_true rfl) (Nat.le_of_ble_eq_true rfl) rfl (to_rc rfl rfl rfl (g_o hG544 rfl)) rfl ?_)
        have c_546 : M543.2.1 77 7 = (M.2.1 77 7) := (W_n W542 (by decide) (W_n W538 (by decide) (W_n W531 (fun z => absurd z.1 (by decide)) (F_n F511 (show ¬ (77 = 77 ∧ (7 = 59 ∨ 7 = 65 ∨ 7 = 66) ∨ 112 ≤ 77 ∧ 77 ≤ 114 ∧ 40 ≤ 7 ∨ 77 = 116) by decide) (W_n W492 (by decide) rfl)))))
        have t_547 : (M543.2.1 77 7).toInt = (M.2.1 77 7).toInt := congrArg Int32.toInt c_546
        have c_548 : M543.2.1 77 6 = (M.2.1 77 6) := (W_n W542 (by decide) (W_n W538 (by decide) (W_n W531 (fun z => absurd z.1 (by decide)) (F_n F511 (show ¬ (77 = 77 ∧ (6 = 59 ∨ 6 = 65 ∨ 6 = 66) ∨ 112 ≤ 77 ∧ 77 ≤ 114 ∧ 40 ≤ 6 ∨ 77 = 116) by decide) (W_n W492 (by decide) rfl)))))
        have t_549 : (M543.2.1 77 6).toInt = (M.2.1 77 6).toInt := congrArg Int32.toInt c_548
        have c_550 : M543.2.1 77 10 = (M.2.1 77 10) := (W_n W542 (by decide) (W_n W538 (by decide) (W_n W531 (fun z => absurd z.1 (by decide)) (F_n F511 (show ¬ (77 = 77 ∧ (10 = 59 ∨ 10 = 65 ∨ 10 = 66) ∨ 112 ≤ 77 ∧ 77 ≤ 114 ∧ 40 ≤ 10 ∨ 77 = 116) by decide) (W_n W492 (by decide) rfl)))))
        have t_551 : (M543.2.1 77 10).toInt = (M.2.1 77 10).toInt := congrArg Int32.toInt c_550
        have j_552 := (RS_f (fun a i z => W_n W542 (tg_453 a i z) rfl) (RS_f (fun a i z => W_n W538 (tg_448 a i z) rfl) (RS_f (fun a i z => W_n W531 (tg_454 a i _ z) rfl) (RS_f (tg_444 F511) (RS_f (fun a i z => W_n W492 (tg_455 a i z) rfl) q4)))))
        have z_553 := RS_b j_552 (a := a) (by omega)
        have j_554 := (TR_f (fun a i z => W_n W542 (tg_456 a i z) rfl) (TR_f (fun a i z => W_n W538 (tg_450 a i z) rfl) (TR_f (fun a i z => W_n W531 (tg_457 a i _ z) rfl) (TR_f (tg_445 F511) (TR_f (fun a i z => W_n W492 (tg_458 a i z) rfl) q8)))))
        have j_555 := (W9_f (fun a i z => W_n W542 (tg_459 a i z) rfl) (W9_f (fun a i z => W_n W538 (tg_452 a i z) rfl) (W9_f (fun a i z => W_n W531 (tg_460 a i _ z) rfl) (W9_f (tg_446 F511) (W9_f (fun a i z => W_n W492 (tg_461 a i z) rfl) q9)))))
        refine E_156 hX (dp1 hd (by decide)) hG544 (by omega) (by omega) (by omega) (by omega) j_554 j_555  (fun M562 hG557 F556 p_558 p_559 p_560 p_561 => ?_)
        have F563 := FR.c F545 F556 tg_389
        have b_564 := g_b hG557 (a := 77) (i := 7) (lo := 0) (hi := 500) rfl rfl
        have c_565 : M562.2.1 77 6 = (M.2.1 77 6) := (F_n F556 (show ¬ (77 = 77 ∧ 7 ≤ 6 ∧ 6 ≤ 10) by decide) c_548)
        have t_566 : (M562.2.1 77 6).toInt = (M.2.1 77 6).toInt := congrArg Int32.toInt c_565
        have b_567 := g_b hG557 (a := 77) (i := 8) (lo := 0) (hi := 5) rfl rfl
        have b_568 := g_b hG557 (a := 77) (i := 10) (lo := 0) (hi := 500) rfl rfl
        have z_569 := RS_s p_561.2 (a := a) (by omega)
        refine to_c (pc := 80) rw_226_80 (x := (1 : Int32)) rfl rfl (s_r1 (pc := 81) rw_226_81 (A := 1) rfl (by decide) ?_)
        have k_570 : (1 : Int32).toInt = 1 := rfl
        have c_571 : M562.2.1 77 59 = (M516.2.1 77 59) := (F_n F556 (show ¬ (77 = 77 ∧ 7 ≤ 59 ∧ 59 ≤ 10) by decide) (W_n W542 (by decide) (W_n W538 (by decide) (W_n W531 (fun z => absurd z.1 (by decide)) rfl))))
        have t_572 : (M562.2.1 77 59).toInt = (M516.2.1 77 59).toInt := congrArg Int32.toInt c_571
        have c_573 : M562.2.1 77 65 = v536 := (F_n F556 (show ¬ (77 = 77 ∧ 7 ≤ 65 ∧ 65 ≤ 10) by decide) (W_n W542 (by decide) (W_e W538)))
        have t_574 : (M562.2.1 77 65).toInt = v536.toInt := congrArg Int32.toInt c_573
        have c_575 : M562.2.1 77 66 = (M516.2.1 77 66) := (F_n F556 (show ¬ (77 = 77 ∧ 7 ≤ 66 ∧ 66 ≤ 10) by decide) (W_n W542 (by decide) (W_n W538 (by decide) (W_n W531 (fun z => absurd z.1 (by decide)) rfl))))
        have t_576 : (M562.2.1 77 66).toInt = (M516.2.1 77 66).toInt := congrArg Int32.toInt c_575
        have c_577 : M562.2.1 77 67 = (M.2.1 77 67) := (F_n F556 (show ¬ (77 = 77 ∧ 7 ≤ 67 ∧ 67 ≤ 10) by decide) (W_n W542 (by decide) (W_n W538 (by decide) (W_n W531 (fun z => absurd z.1 (by decide)) c_523))))
        have t_578 : (M562.2.1 77 67).toInt = (M.2.1 77 67).toInt := congrArg Int32.toInt c_577
        have c_579 : M562.2.1 77 68 = (0 : Int32) := (F_n F556 (show ¬ (77 = 77 ∧ 7 ≤ 68 ∧ 68 ≤ 10) by decide) (W_e W542))
        have k_580 : (0 : Int32).toInt = 0 := rfl
        have t_581 : (M562.2.1 77 68).toInt = (0 : Int32).toInt := congrArg Int32.toInt c_579
        have c_582 : M562.2.1 77 69 = v490 := (F_n F556 (show ¬ (77 = 77 ∧ 7 ≤ 69 ∧ 69 ≤ 10) by decide) (W_n W542 (by decide) (W_n W538 (by decide) (W_n W531 (fun z => absurd z.1 (by decide)) c_527))))
        have t_583 : (M562.2.1 77 69).toInt = v490.toInt := congrArg Int32.toInt c_582
        have k_585 : (3 : Int32).toInt = 3 := rfl
        have s_586 := Wx_f (M := M516) (M1 := M562) ((M516.2.1 77 65).toInt).toNat (fun i z => (F_n F556 (show ¬ (115 = 77 ∧ 7 ≤ i ∧ i ≤ 10) by omega) (W_n W542 (by omega) (W_n W538 (by omega) (W_n W531 (by omega) rfl)))))
        have s_587 : (M562.2.1 115 ((M516.2.1 77 65).toInt).toNat).toInt = (3 : Int32).toInt := by rw [show ((M516.2.1 77 65).toInt).toNat = ((M516.2.1 77 65).toInt).toNat by omega]; exact congrArg Int32.toInt (F_n F556 (show ¬ (115 = 77 ∧ 7 ≤ (((M516.2.1 77 65).toInt).toNat) ∧ (((M516.2.1 77 65).toInt).toNat) ≤ 10) by omega) (W_n W542 (by omega) (W_n W538 (by omega) (W_e W531))))
        have s_588 := Wx_s M562 ((M516.2.1 77 65).toInt).toNat
        have j_584 : QK M562 := QK_i (by unfold QK_c; rw [show ((M562.2.1 77 65).toInt).toNat = ((M516.2.1 77 65).toInt).toNat + 1 by omega]; refine ⟨by omega, by omega, by omega, by omega⟩) (fun i z => by
            by_cases ei : i = ((M516.2.1 77 65).toInt).toNat
            · rw [ei]; omega
            · rw [(F_n F556 (show ¬ (115 = 77 ∧ 7 ≤ i ∧ i ≤ 10) by omega) (W_n W542 (by omega) (W_n W538 (by omega) (W_n W531 (by omega) rfl))))]; exact p_513.2.1 i (by omega)) (by rw [(F_n F556 (show ¬ (77 = 77 ∧ 7 ≤ 59 ∧ 59 ≤ 10) by decide) (W_n W542 (by omega) (W_n W538 (by omega) (W_n W531 (by omega) rfl))))]; exact KN_f (fun a i z => (F_n F556 (show ¬ (a = 77 ∧ 7 ≤ i ∧ i ≤ 10) by omega) (W_n W542 (by /-r77,68-/ omega) (W_n W538 (by /-r77,65-/ omega) (W_n W531 (by /-r115-/ omega) rfl))))) p_513.2.2)
        exact h (1 : Int32) M562 hG557 F563 (by decide) (by decide) (by omega) (by omega) (by omega) (by omega) (fun _ => j_584) (fun _ => by rw [show ((M562.2.1 77 65).toInt).toNat = ((M516.2.1 77 65).toInt).toNat + 1 by omega]; omega) (fun _ => p_561.1) (fun _ => (q_ao (by omega) (by omega) (by omega) (by omega) (by omega)).trans (q_w (by omega) (by omega) (by omega) (by omega))) (fun z => absurd z (by decide))
      · refine to_an (pc := 9) rw_224_9 rfl (to_c (pc := 10) rw_224_10 (x := (2 : Int32)) rfl rfl (s_v (pc := 11) rw_224_11 (dp1 hd (by decide)) (ls0 := [.ref 77, .int (2 : Int32)]) rfl (Nat.le_of_ble_eq_true rfl) (Nat.le_of_ble_eq_true rfl) rfl (to_rc rfl rfl rfl (g_o hG rfl)) rfl (to_an (pc := 0) rw_152_0 rfl (to_in (pc := 1) rw_152_1 rfl (s_pI (pc := 2) rw_152_2 hG rfl (fun M590 W589 => ?_))))))
        have hG591 := g_wf hG W589 rfl rfl (by decide)
        have F592 := FR.w F0 W589 (show 77 = 77 ∧ (4 = 4 ∨ 4 = 5 ∨ 7 ≤ 4 ∧ 4 ≤ 10) ∨ 77 = 77 ∧ (4 = 59 ∨ 65 ≤ 4 ∧ 4 ≤ 69) ∨ 112 ≤ 77 ∧ 77 ≤ 114 ∧ 40 ≤ 4 ∨ 77 = 115 ∨ 77 = 116 by decide)
        refine to_an (pc := 5) rw_152_5 rfl (to_an (pc := 6) rw_152_6 rfl ?_)
        have c_593 : M590.2.1 77 10 = (M.2.1 77 10) := (W_n W589 (by decide) rfl)
        refine tt_gI (pc := 7) rw_152_7 (g_o hG591 rfl) (v := (M.2.1 77 10)) c_593 (s_pI (pc := 10) rw_152_10 hG591 rfl (fun M595 W594 => ?_))
        have hG596 := g_wf hG591 W594 rfl rfl (by decide)
        have F597 := FR.w F592 W594 (show 77 = 77 ∧ (5 = 4 ∨ 5 = 5 ∨ 7 ≤ 5 ∧ 5 ≤ 10) ∨ 77 = 77 ∧ (5 = 59 ∨ 65 ≤ 5 ∧ 5 ≤ 69) ∨ 112 ≤ 77 ∧ 77 ≤ 114 ∧ 40 ≤ 5 ∨ 77 = 115 ∨ 77 = 116 by decide)
        refine to_c (pc := 13) rw_152_13 (x := (0 : Int32)) rfl rfl (s_r1 (pc := 14) rw_152_14 (A := 0) rfl (by decide) (s_r1 (pc := 14) rw_224_14 (A := 0) rfl (by decide) (b_ine_f (pc := 37) rw_226_37 (A := 0) rfl (by decide) (to_c (pc := 40) rw_226_40 (x := (0 : Int32)) rfl rfl (s_r1 (pc := 41) rw_226_41 (A := 0) rfl (by decide) ?_)))))
        have k_598 : (0 : Int32).toInt = 0 := rfl
        have c_599 : M595.2.1 77 7 = (M.2.1 77 7) := (W_n W594 (by decide) (W_n W589 (by decide) rfl))
        have t_600 : (M595.2.1 77 7).toInt = (M.2.1 77 7).toInt := congrArg Int32.toInt c_599
        have c_601 : M595.2.1 77 6 = (M.2.1 77 6) := (W_n W594 (by decide) (W_n W589 (by decide) rfl))
        have t_602 : (M595.2.1 77 6).toInt = (M.2.1 77 6).toInt := congrArg Int32.toInt c_601
        have c_603 : M595.2.1 77 8 = (M.2.1 77 8) := (W_n W594 (by decide) (W_n W589 (by decide) rfl))
        have t_604 : (M595.2.1 77 8).toInt = (M.2.1 77 8).toInt := congrArg Int32.toInt c_603
        have c_605 : M595.2.1 77 4 = (2 : Int32) := (W_n W594 (by decide) (W_e W589))
        have k_606 : (2 : Int32).toInt = 2 := rfl
        have t_607 : (M595.2.1 77 4).toInt = (2 : Int32).toInt := congrArg Int32.toInt c_605
        have c_608 : M595.2.1 77 5 = (M.2.1 77 10) := (W_e W594)
        have t_609 : (M595.2.1 77 5).toInt = (M.2.1 77 10).toInt := congrArg Int32.toInt c_608
        have c_610 : M595.2.1 77 67 = (M.2.1 77 67) := (W_n W594 (by decide) (W_n W589 (by decide) rfl))
        have t_611 : (M595.2.1 77 67).toInt = (M.2.1 77 67).toInt := congrArg Int32.toInt c_610
        have c_612 : M595.2.1 77 69 = (M.2.1 77 69) := (W_n W594 (by decide) (W_n W589 (by decide) rfl))
        have t_613 : (M595.2.1 77 69).toInt = (M.2.1 77 69).toInt := congrArg Int32.toInt c_612
        exact h (0 : Int32) M595 hG596 F597 (by decide) (by decide) (by omega) (by omega) (by omega) (by omega) (fun z => absurd z (by omega)) (fun z => absurd z (by decide)) (fun z => absurd z (by decide)) (fun z => absurd z (by decide)) (fun _ => inl_e (by omega) (by omega) (q_aox (by omega) (by omega) (by omega) (by omega) (by omega)))
