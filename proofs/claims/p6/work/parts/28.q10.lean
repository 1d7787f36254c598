theorem tg_39 {M M1 : mm_M} {s : x_S} (F : FR (fun a i : Nat => a = 77 ∧ 7 ≤ i ∧ i ≤ 10) M M1) : ∀ a i : Nat, (a = 77 ∧ 14 ≤ i ∧ i ≤ 16 ∨ 80 ≤ a ∧ a ≤ 84 ∧ 8 ≤ i ∧ (i : Int) < s.2.1 + 8 ∨ 85 ≤ a ∧ a ≤ 86 ∧ 12 ≤ i ∧ (i : Int) < s.2.2.1 + 12) → M1.2.1 a i = M.2.1 a i := fun a i z => F_n F (show ¬ (a = 77 ∧ 7 ≤ i ∧ i ≤ 10) by omega) rfl
theorem tg_40 {M M1 : mm_M} (F : FR (fun a i : Nat => a = 77 ∧ (i = 4 ∨ i = 5)) M M1) : ∀ a i : Nat, (a = 77 ∧ 6 ≤ i ∧ i ≤ 10) → M1.2.1 a i = M.2.1 a i := fun a i z => F_n F (show ¬ (a = 77 ∧ (i = 4 ∨ i = 5)) by omega) rfl
theorem tg_41 {M M1 : mm_M} (F : FR (fun a i : Nat => a = 77 ∧ (i = 4 ∨ i = 5)) M M1) : ∀ a i : Nat, a = 78 → M1.2.1 a i = M.2.1 a i := fun a i z => F_n F (show ¬ (a = 77 ∧ (i = 4 ∨ i = 5)) by omega) rfl
theorem tg_42 {M M1 : mm_M} (F : FR (fun a i : Nat => a = 77 ∧ 7 ≤ i ∧ i ≤ 10) M M1) : ∀ a i : Nat, a = 78 → M1.2.1 a i = M.2.1 a i := fun a i z => F_n F (show ¬ (a = 77 ∧ 7 ≤ i ∧ i ≤ 10) by omega) rfl
theorem tg_43 {M M1 : mm_M} (F : FR (fun a i : Nat => a = 77 ∧ (i = 4 ∨ i = 5)) M M1) : ∀ a i : Nat, a = 79 → M1.2.1 a i = M.2.1 a i := fun a i z => F_n F (show ¬ (a = 77 ∧ (i = 4 ∨ i = 5)) by omega) rfl
theorem tg_44 {M M1 : mm_M} (F : FR (fun a i : Nat => a = 77 ∧ 7 ≤ i ∧ i ≤ 10) M M1) : ∀ a i : Nat, a = 79 → M1.2.1 a i = M.2.1 a i := fun a i z => F_n F (show ¬ (a = 77 ∧ 7 ≤ i ∧ i ≤ 10) by omega) rfl
theorem tg_45 {M M1 : mm_M} (F : FR (fun a i : Nat => a < 0) M M1) : ∀ a i : Nat, (a = 77 ∧ 6 ≤ i ∧ i ≤ 10) → M1.2.1 a i = M.2.1 a i := fun a i z => F_n F (show ¬ (a < 0) by omega) rfl
theorem tg_46 {M M1 : mm_M} (F : FR (fun a i : Nat => a < 0) M M1) : ∀ a i : Nat, a = 79 → M1.2.1 a i = M.2.1 a i := fun a i z => F_n F (show ¬ (a < 0) by omega) rfl
theorem tg_47 {M M1 : mm_M} {s : x_S} (F : FR (fun a i : Nat => a < 0) M M1) : ∀ a i : Nat, (a = 77 ∧ 14 ≤ i ∧ i ≤ 16 ∨ 80 ≤ a ∧ a ≤ 84 ∧ 8 ≤ i ∧ (i : Int) < s.2.1 + 8 ∨ 85 ≤ a ∧ a ≤ 86 ∧ 12 ≤ i ∧ (i : Int) < s.2.2.1 + 12) → M1.2.1 a i = M.2.1 a i := fun a i z => F_n F (show ¬ (a < 0) by omega) rfl
theorem tg_48 {M M1 : mm_M} {s : x_S} (F : FR (fun a i : Nat => a = 77 ∧ (i = 4 ∨ i = 5)) M M1) : ∀ a i : Nat, (a = 77 ∧ 14 ≤ i ∧ i ≤ 16 ∨ 80 ≤ a ∧ a ≤ 84 ∧ 8 ≤ i ∧ (i : Int) < s.2.1 + 8 ∨ 85 ≤ a ∧ a ≤ 86 ∧ 12 ≤ i ∧ (i : Int) < s.2.2.1 + 12) → M1.2.1 a i = M.2.1 a i := fun a i z => F_n F (show ¬ (a = 77 ∧ (i = 4 ∨ i = 5)) by omega) rfl
theorem tg_49 : ∀ a i : Nat, (a = 77 ∧ 7 ≤ i ∧ i ≤ 10) → (a = 77 ∧ (i = 4 ∨ i = 5 ∨ 7 ≤ i ∧ i ≤ 10 ∨ i = 15 ∨ i = 25) ∨ 80 ≤ a ∧ a ≤ 84 ∧ 8 ≤ i) := fun a i z => by omega
theorem tg_50 : ∀ a i : Nat, (a = 77 ∧ (i = 4 ∨ i = 5)) → (a = 77 ∧ (i = 4 ∨ i = 5 ∨ 7 ≤ i ∧ i ≤ 10 ∨ i = 15 ∨ i = 25) ∨ 80 ≤ a ∧ a ≤ 84 ∧ 8 ≤ i) := fun a i z => by omega
theorem tg_51 : ∀ a i : Nat, (a < 0) → (a = 77 ∧ (i = 4 ∨ i = 5 ∨ 7 ≤ i ∧ i ≤ 10 ∨ i = 15 ∨ i = 25) ∨ 80 ≤ a ∧ a ≤ 84 ∧ 8 ≤ i) := fun a i z => by omega
theorem tg_52 : ∀ a i : Nat, (a = 77 ∧ 6 ≤ i ∧ i ≤ 10) → ¬ (a = 77 ∧ i = 15) := fun a i z => by omega
theorem tg_53 : ∀ a i j : Nat, (a = 77 ∧ 6 ≤ i ∧ i ≤ 10) → ¬ (a = 84 ∧ i = j) := fun a i j z => by omega
theorem tg_54 : ∀ a i j : Nat, (a = 77 ∧ 6 ≤ i ∧ i ≤ 10) → ¬ (a = 83 ∧ i = j) := fun a i j z => by omega
theorem tg_55 : ∀ a i j : Nat, (a = 77 ∧ 6 ≤ i ∧ i ≤ 10) → ¬ (a = 82 ∧ i = j) := fun a i j z => by omega
theorem tg_56 : ∀ a i j : Nat, (a = 77 ∧ 6 ≤ i ∧ i ≤ 10) → ¬ (a = 81 ∧ i = j) := fun a i j z => by omega
theorem tg_57 : ∀ a i j : Nat, (a = 77 ∧ 6 ≤ i ∧ i ≤ 10) → ¬ (a = 80 ∧ i = j) := fun a i j z => by omega
set_option maxRecDepth 4000 in
set_option maxHeartbeats 0 in
theorem E_170 {X : mm_X} {d : Nat} {M : mm_M} {Q : Option Value → mm_M → Prop} {t : Nat → Int} {nn : Int} {a : Int} {sg : x_S} {k : x_K} (hX : g_X X) (hd : 3 ≤ d) (hG : g_G M) (q1 : RS M t nn) (q2 : (M.2.1 77 10).toInt = a) (q3 : 0 ≤ nn) (q4 : nn ≤ 500) (q5 : TR M t nn) (q6 : W9 M) (q7 : PLr M sg) (q8 : CWr M sg) (h : ∀ (r : Int32) (M1 : mm_M), g_G M1 → FR md_fl170 M M1 → (0 ≤ r.toInt) → (r.toInt ≤ 1) → RS M1 t nn → ((r.toInt = 0 → x_field t nn sg a (x_ns t nn a) k = (Sum.inl ((M1.2.1 77 4).toInt, (M1.2.1 77 5).toInt) : x_Res))) → ((r.toInt = 1 → FOr (x_field t nn sg a (x_ns t nn a) k) k M1 sg)) → (r.toInt = 1 → (M1.2.1 77 4).toInt = (M.2.1 77 4).toInt ∧ (M1.2.1 77 5).toInt = (M.2.1 77 5).toInt) → Q (some (.int r)) M1) : mm_T X d 169 0 [.ref 77, .null, .null, .null, .null, .null, .null, .null, .null] [] M Q := by
  have F0 : FR md_fl170 M M := FR.rf
  have b_1 := g_b hG (a := 77) (i := 10) (lo := 0) (hi := 500) rfl rfl
  have z_2 := q7.2.1
  have z_3 := q7.2.2.1
  have z_4 := q7.2.2.2.1
  have z_5 := q7.1
  have z_6 := z_5.1
  have z_7 := z_5.2.1
  have z_8 := z_5.2.2.1
  have z_9 := z_5.2.2.2.1
  have z_10 := z_5.2.2.2.2.1
  have z_11 := z_5.2.2.2.2.2.1
  have b_12 := g_b hG (a := 77) (i := 14) (lo := 10) (hi := 60) rfl rfl
  have b_13 := g_b hG (a := 77) (i := 15) (lo := 0) (hi := 8) rfl rfl
  have b_14 := g_b hG (a := 77) (i := 16) (lo := 0) (hi := 12) rfl rfl
  refine to_an (pc := 0) rw_170_0 rfl (tt_gI (pc := 1) rw_170_1 (g_o hG rfl) (v := (M.2.1 77 15)) rfl (to_c (pc := 4) rw_170_4 (x := (8 : Int32)) rfl rfl (b_cne (pc := 6) rw_170_6 (A := (M.2.1 77 15).toInt) (B := 8) rfl rfl (fun h15 => ?_) (fun h15 => ?_))))
  · refine to_an (pc := 15) rw_170_15 rfl (s_v (pc := 16) rw_170_16 (dp0 hd (by decide)) (ls0 := [.ref 77]) rfl (Nat.le_of_ble_eq_true rfl) (Nat.le_of_ble_eq_true rfl) rfl (to_rc rfl rfl rfl (g_o hG rfl)) rfl ?_)
    have b_16 := g_b hG (a := 77) (i := 7) (lo := 0) (hi := 500) rfl rfl
    have b_17 := g_b hG (a := 77) (i := 6) (lo := 0) (hi := 500) rfl rfl
    have z_18 := RS_b q1 (a := a) (by omega)
    refine E_156 hX (dp1 hd (by decide)) hG (by omega) (by omega) (by omega) (by omega) q5 q6  (fun M25 hG20 F19 p_21 p_22 p_23 p_24 => ?_)
    have F26 := FR.c F0 F19 tg_49
    have b_27 := g_b hG20 (a := 77) (i := 7) (lo := 0) (hi := 500) rfl rfl
    have c_28 : M25.2.1 77 6 = (M.2.1 77 6) := (F_n F19 (show ¬ (77 = 77 ∧ 7 ≤ 6 ∧ 6 ≤ 10) by decide) rfl)
    have t_29 : (M25.2.1 77 6).toInt = (M.2.1 77 6).toInt := congrArg Int32.toInt c_28
    have b_30 := g_b hG20 (a := 77) (i := 8) (lo := 0) (hi := 5) rfl rfl
    have b_31 := g_b hG20 (a := 77) (i := 10) (lo := 0) (hi := 500) rfl rfl
    have z_32 := RS_s p_24.2 (a := a) (by omega)
    refine to_an (pc := 19) rw_170_19 rfl (s_v (pc := 20) rw_170_20 (dp0 hd (by decide)) (ls0 := [.ref 77]) rfl (Nat.le_of_ble_eq_true rfl) (Nat.le_of_ble_eq_true rfl) rfl (to_rc rfl rfl rfl (g_o hG20 rfl)) rfl ?_)
    have c_33 : M25.2.1 77 4 = (M.2.1 77 4) := (F_n F19 (show ¬ (77 = 77 ∧ 7 ≤ 4 ∧ 4 ≤ 10) by decide) rfl)
    have t_34 : (M25.2.1 77 4).toInt = (M.2.1 77 4).toInt := congrArg Int32.toInt c_33
    have c_35 : M25.2.1 77 5 = (M.2.1 77 5) := (F_n F19 (show ¬ (77 = 77 ∧ 7 ≤ 5 ∧ 5 ≤ 10) by decide) rfl)
    have t_36 : (M25.2.1 77 5).toInt = (M.2.1 77 5).toInt := congrArg Int32.toInt c_35
    have j_37 := (PLr_f (tg_39 F19) (F_nl F19 (show ¬ (77 = 77 ∧ 7 ≤ 25 ∧ 25 ≤ 10) by decide) rfl) q7)
    refine E_169 hX (dp1 hd (by decide)) hG20 p_24.1 (by omega) j_37 (t := t) (nn := nn) (a := (x_ns t nn a)) (sg := sg) (fun r38 M49 hG40 F39 p_41 p_42 p_43 p_44 p_45 p_46 p_47 p_48 => ?_)
    have F50 := FR.c F26 F39 tg_50
    rcases (show r38.toInt = 0 ∨ r38.toInt = 1 by omega) with h51 | h51
    · skip
      have p_52 := p_45 (by omega)
      have p_53 := p_46 (by omega)
      have p_54 := p_47 (by omega)
      clear p_43 p_44 p_45 p_46 p_47 p_48
      refine b_ine_f (pc := 23) rw_170_23 (A := r38.toInt) rfl (by omega) (to_c (pc := 26) rw_170_26 (x := (0 : Int32)) rfl rfl (s_r1 (pc := 27) rw_170_27 (A := 0) rfl (by decide) ?_))
      have k_55 : (0 : Int32).toInt = 0 := rfl
      have j_56 := (RS_f (tg_40 F39) p_24.1)
      exact h (0 : Int32) M49 hG40 F50 (by decide) (by decide) j_56 (fun _ => (if g9 : x_kind t nn (x_ns t nn a) = 2 then pinl (by have z9 := p_54.1 g9; omega) (by omega) (xf_13 (by omega)) else pinl (by have z9 := p_54.2 g9; omega) (by omega) (xf_11 (by omega)))) (fun z => absurd z (by decide)) (by omega)
    · skip
      have p_57 := p_43 (by omega)
      have p_58 := p_44 (by omega)
      have p_59 := p_48 (by omega)
      clear p_43 p_44 p_45 p_46 p_47 p_48
      refine b_ine_t (pc := 23) rw_170_23 (A := r38.toInt) rfl (by omega) (to_c (pc := 28) rw_170_28 (x := (8 : Int32)) rfl rfl (to_an (pc := 30) rw_170_30 rfl ?_))
      have c_60 : M49.2.1 77 15 = (M.2.1 77 15) := (F_n F39 (show ¬ (77 = 77 ∧ (15 = 4 ∨ 15 = 5)) by decide) (F_n F19 (show ¬ (77 = 77 ∧ 7 ≤ 15 ∧ 15 ≤ 10) by decide) rfl))
      refine tt_gI (pc := 31) rw_170_31 (g_o hG40 rfl) (v := (M.2.1 77 15)) c_60 (s_add (pc := 34) rw_170_34 (A := 8) (B := (M.2.1 77 15).toInt) rfl rfl (by omega) (fun v61 e62 => to_isn (pc := 35) rw_170_35 (ls2 := [.ref 77, .int v61, .null, .null, .null, .null, .null, .null, .null]) rfl rfl (to_an (pc := 36) rw_170_36 rfl ?_)))
      have c_63 : M49.2.1 77 9 = (M25.2.1 77 9) := (F_n F39 (show ¬ (77 = 77 ∧ (9 = 4 ∨ 9 = 5)) by decide) rfl)
      refine tt_gI (pc := 37) rw_170_37 (g_o hG40 rfl) (v := (M25.2.1 77 9)) c_63 (to_isn (pc := 40) rw_170_40 (ls2 := [.ref 77, .int v61, .int (M25.2.1 77 9), .null, .null, .null, .null, .null, .null]) rfl rfl (to_an (pc := 41) rw_170_41 rfl (s_v (pc := 42) rw_170_42 (dp0 hd (by decide)) (ls0 := [.ref 77]) rfl (Nat.le_of_ble_eq_true rfl) (Nat.le_of_ble_eq_true rfl) rfl (to_rc rfl rfl rfl (g_o hG40 rfl)) rfl ?_)))
      have c_64 : M49.2.1 77 7 = (M25.2.1 77 7) := (F_n F39 (show ¬ (77 = 77 ∧ (7 = 4 ∨ 7 = 5)) by decide) rfl)
      have t_65 : (M49.2.1 77 7).toInt = (M25.2.1 77 7).toInt := congrArg Int32.toInt c_64
      have c_66 : M49.2.1 77 6 = (M.2.1 77 6) := (F_n F39 (show ¬ (77 = 77 ∧ (6 = 4 ∨ 6 = 5)) by decide) c_28)
      have t_67 : (M49.2.1 77 6).toInt = (M.2.1 77 6).toInt := congrArg Int32.toInt c_66
      have c_68 : M49.2.1 77 10 = (M25.2.1 77 10) := (F_n F39 (show ¬ (77 = 77 ∧ (10 = 4 ∨ 10 = 5)) by decide) rfl)
      have t_69 : (M49.2.1 77 10).toInt = (M25.2.1 77 10).toInt := congrArg Int32.toInt c_68
      have j_70 := (RS_f (tg_40 F39) p_24.1)
      have z_71 := RS_b j_70 (a := (x_ns t nn a)) (by omega)
      have j_72 := (TR_f (tg_41 F39) (TR_f (tg_42 F19) q5))
      have j_73 := (W9_f (tg_43 F39) (W9_f (tg_44 F19) q6))
      refine E_156 hX (dp1 hd (by decide)) hG40 (by omega) (by omega) (by omega) (by omega) j_72 j_73  (fun M80 hG75 F74 p_76 p_77 p_78 p_79 => ?_)
      have F81 := FR.c F50 F74 tg_49
      have b_82 := g_b hG75 (a := 77) (i := 7) (lo := 0) (hi := 500) rfl rfl
      have c_83 : M80.2.1 77 6 = (M.2.1 77 6) := (F_n F74 (show ¬ (77 = 77 ∧ 7 ≤ 6 ∧ 6 ≤ 10) by decide) c_66)
      have t_84 : (M80.2.1 77 6).toInt = (M.2.1 77 6).toInt := congrArg Int32.toInt c_83
      have b_85 := g_b hG75 (a := 77) (i := 8) (lo := 0) (hi := 5) rfl rfl
      have b_86 := g_b hG75 (a := 77) (i := 10) (lo := 0) (hi := 500) rfl rfl
      have z_87 := RS_s p_79.2 (a := (x_ns t nn a)) (by omega)
      have c_88 := RS_u p_79.1 (a := (x_ns t nn (x_ns t nn a))) (by omega)
      unfold x_R at c_88
      refine to_an (pc := 45) rw_170_45 rfl (tt_gI (pc := 46) rw_170_46 (g_o hG75 rfl) (v := (M80.2.1 77 8)) rfl (to_c (pc := 49) rw_170_49 (x := (1 : Int32)) rfl rfl (b_cne (pc := 50) rw_170_50 (A := (M80.2.1 77 8).toInt) (B := 1) rfl rfl (fun h89 => ?_) (fun h89 => ?_))))
      · refine to_an (pc := 70) rw_170_70 rfl (to_c (pc := 71) rw_170_71 (x := (1 : Int32)) rfl rfl (s_v (pc := 72) rw_170_72 (dp0 hd (by decide)) (ls0 := [.ref 77, .int (1 : Int32)]) rfl (Nat.le_of_ble_eq_true rfl) (Nat.le_of_ble_eq_true rfl) rfl (to_rc rfl rfl rfl (g_o hG75 rfl)) rfl (to_an (pc := 0) rw_152_0 rfl (to_in (pc := 1) rw_152_1 rfl (s_pI (pc := 2) rw_152_2 hG75 rfl (fun M91 W90 => ?_))))))
        have hG92 := g_wf hG75 W90 rfl rfl (by decide)
        have F93 := FR.w F81 W90 (show 77 = 77 ∧ (4 = 4 ∨ 4 = 5 ∨ 7 ≤ 4 ∧ 4 ≤ 10 ∨ 4 = 15 ∨ 4 = 25) ∨ 80 ≤ 77 ∧ 77 ≤ 84 ∧ 8 ≤ 4 by decide)
        refine to_an (pc := 5) rw_152_5 rfl (to_an (pc := 6) rw_152_6 rfl ?_)
        have c_94 : M91.2.1 77 10 = (M80.2.1 77 10) := (W_n W90 (by decide) rfl)
        refine tt_gI (pc := 7) rw_152_7 (g_o hG92 rfl) (v := (M80.2.1 77 10)) c_94 (s_pI (pc := 10) rw_152_10 hG92 rfl (fun M96 W95 => ?_))
        have hG97 := g_wf hG92 W95 rfl rfl (by decide)
        have F98 := FR.w F93 W95 (show 77 = 77 ∧ (5 = 4 ∨ 5 = 5 ∨ 7 ≤ 5 ∧ 5 ≤ 10 ∨ 5 = 15 ∨ 5 = 25) ∨ 80 ≤ 77 ∧ 77 ≤ 84 ∧ 8 ≤ 5 by decide)
        refine to_c (pc := 13) rw_152_13 (x := (0 : Int32)) rfl rfl (s_r1 (pc := 14) rw_152_14 (A := 0) rfl (by decide) (s_r1 (pc := 75) rw_170_75 (A := 0) rfl (by decide) ?_))
        have k_99 : (0 : Int32).toInt = 0 := rfl
        have j_100 := (RS_f (fun a i z => W_n W95 (tg_37 a i z) rfl) (RS_f (fun a i z => W_n W90 (tg_38 a i z) rfl) p_79.1))
        have c_101 : M96.2.1 77 4 = (1 : Int32) := (W_n W95 (by decide) (W_e W90))
        have k_102 : (1 : Int32).toInt = 1 := rfl
        have t_103 : (M96.2.1 77 4).toInt = (1 : Int32).toInt := congrArg Int32.toInt c_101
        have c_104 : M96.2.1 77 5 = (M80.2.1 77 10) := (W_e W95)
        have t_105 : (M96.2.1 77 5).toInt = (M80.2.1 77 10).toInt := congrArg Int32.toInt c_104
        exact h (0 : Int32) M96 hG97 F98 (by decide) (by decide) j_100 (fun _ => pinl (by omega) (by omega) (xf_21 (show x_fN t nn sg (x_ns t nn a) by unfold x_fN; omega) (by omega))) (fun z => absurd z (by decide)) (by omega)
      · refine to_an (pc := 53) rw_170_53 rfl (tt_gI (pc := 54) rw_170_54 (g_o hG75 rfl) (v := (M80.2.1 77 9)) rfl (to_c (pc := 57) rw_170_57 (x := (3 : Int32)) rfl rfl (b_clt (pc := 58) rw_170_58 (A := (M80.2.1 77 9).toInt) (B := 3) rfl rfl (fun h106 => ?_) (fun h106 => ?_))))
        · refine to_an (pc := 70) rw_170_70 rfl (to_c (pc := 71) rw_170_71 (x := (1 : Int32)) rfl rfl (s_v (pc := 72) rw_170_72 (dp0 hd (by decide)) (ls0 := [.ref 77, .int (1 : Int32)]) rfl (Nat.le_of_ble_eq_true rfl) (Nat.le_of_ble_eq_true rfl) rfl (to_rc rfl rfl rfl (g_o hG75 rfl)) rfl (to_an (pc := 0) rw_152_0 rfl (to_in (pc := 1) rw_152_1 rfl (s_pI (pc := 2) rw_152_2 hG75 rfl (fun M108 W107 => ?_))))))
          have hG109 := g_wf hG75 W107 rfl rfl (by decide)
          have F110 := FR.w F81 W107 (show 77 = 77 ∧ (4 = 4 ∨ 4 = 5 ∨ 7 ≤ 4 ∧ 4 ≤ 10 ∨ 4 = 15 ∨ 4 = 25) ∨ 80 ≤ 77 ∧ 77 ≤ 84 ∧ 8 ≤ 4 by decide)
          refine to_an (pc := 5) rw_152_5 rfl (to_an (pc := 6) rw_152_6 rfl ?_)
          have c_111 : M108.2.1 77 10 = (M80.2.1 77 10) := (W_n W107 (by decide) rfl)
          refine tt_gI (pc := 7) rw_152_7 (g_o hG109 rfl) (v := (M80.2.1 77 10)) c_111 (s_pI (pc := 10) rw_152_10 hG109 rfl (fun M113 W112 => ?_))
          have hG114 := g_wf hG109 W112 rfl rfl (by decide)
          have F115 := FR.w F110 W112 (show 77 = 77 ∧ (5 = 4 ∨ 5 = 5 ∨ 7 ≤ 5 ∧ 5 ≤ 10 ∨ 5 = 15 ∨ 5 = 25) ∨ 80 ≤ 77 ∧ 77 ≤ 84 ∧ 8 ≤ 5 by decide)
          refine to_c (pc := 13) rw_152_13 (x := (0 : Int32)) rfl rfl (s_r1 (pc := 14) rw_152_14 (A := 0) rfl (by decide) (s_r1 (pc := 75) rw_170_75 (A := 0) rfl (by decide) ?_))
          have k_116 : (0 : Int32).toInt = 0 := rfl
          have j_117 := (RS_f (fun a i z => W_n W112 (tg_37 a i z) rfl) (RS_f (fun a i z => W_n W107 (tg_38 a i z) rfl) p_79.1))
          have c_118 : M113.2.1 77 4 = (1 : Int32) := (W_n W112 (by decide) (W_e W107))
          have k_119 : (1 : Int32).toInt = 1 := rfl
          have t_120 : (M113.2.1 77 4).toInt = (1 : Int32).toInt := congrArg Int32.toInt c_118
          have c_121 : M113.2.1 77 5 = (M80.2.1 77 10) := (W_e W112)
          have t_122 : (M113.2.1 77 5).toInt = (M80.2.1 77 10).toInt := congrArg Int32.toInt c_121
          exact h (0 : Int32) M113 hG114 F115 (by decide) (by decide) j_117 (fun _ => pinl (by omega) (by omega) (xf_21 (show x_fN t nn sg (x_ns t nn a) by unfold x_fN; omega) (by omega))) (fun z => absurd z (by decide)) (by omega)
        · refine to_an (pc := 61) rw_170_61 rfl (tt_gI (pc := 62) rw_170_62 (g_o hG75 rfl) (v := (M80.2.1 77 9)) rfl (to_c (pc := 65) rw_170_65 (x := (6 : Int32)) rfl rfl (b_cle (pc := 67) rw_170_67 (A := (M80.2.1 77 9).toInt) (B := 6) rfl rfl (fun h123 => ?_) (fun h123 => ?_))))
          · have z_124 : x_kind t nn (x_ns t nn (x_ns t nn a)) = 1 ∧ (x_kx (x_val t nn (x_ns t nn (x_ns t nn a)))) = (M80.2.1 77 9).toInt := by omega
            clear c_88
            refine to_an (pc := 76) rw_170_76 rfl (tt_gI (pc := 77) rw_170_77 (g_o hG75 rfl) (v := (M80.2.1 77 9)) rfl (to_c (pc := 80) rw_170_80 (x := (3 : Int32)) rfl rfl (s_sub (pc := 81) rw_170_81 (A := (M80.2.1 77 9).toInt) (B := 3) rfl rfl (by omega) (fun v125 e126 => to_isn (pc := 82) rw_170_82 (ls2 := [.ref 77, .int v61, .int (M25.2.1 77 9), .int v125, .null, .null, .null, .null, .null]) rfl rfl (to_an (pc := 83) rw_170_83 rfl (s_v (pc := 84) rw_170_84 (dp0 hd (by decide)) (ls0 := [.ref 77]) rfl (Nat.le_of_ble_eq_true rfl) (Nat.le_of_ble_eq_true rfl) rfl (to_rc rfl rfl rfl (g_o hG75 rfl)) rfl ?_))))))
            have z_127 := RS_b p_79.1 (a := (x_ns t nn (x_ns t nn a))) (by omega)
            have j_128 := (TR_f (tg_42 F74) j_72)
            have j_129 := (W9_f (tg_44 F74) j_73)
            refine E_156 hX (dp1 hd (by decide)) hG75 (by omega) (by omega) (by omega) (by omega) j_128 j_129  (fun M136 hG131 F130 p_132 p_133 p_134 p_135 => ?_)
            have F137 := FR.c F81 F130 tg_49
            have b_138 := g_b hG131 (a := 77) (i := 7) (lo := 0) (hi := 500) rfl rfl
            have c_139 : M136.2.1 77 6 = (M.2.1 77 6) := (F_n F130 (show ¬ (77 = 77 ∧ 7 ≤ 6 ∧ 6 ≤ 10) by decide) c_83)
            have t_140 : (M136.2.1 77 6).toInt = (M.2.1 77 6).toInt := congrArg Int32.toInt c_139
            have b_141 := g_b hG131 (a := 77) (i := 8) (lo := 0) (hi := 5) rfl rfl
            have b_142 := g_b hG131 (a := 77) (i := 10) (lo := 0) (hi := 500) rfl rfl
            have z_143 := RS_s p_135.2 (a := (x_ns t nn (x_ns t nn a))) (by omega)
            refine to_in (pc := 87) rw_170_87 rfl (b_ieq (pc := 88) rw_170_88 (A := v125.toInt) rfl (fun h144 => ?_) (fun h144 => ?_))
            · refine to_c (pc := 96) rw_170_96 (x := (1 : Int32)) rfl rfl (to_go (pc := 97) rw_170_97 (to_is (pc := 101) rw_170_101 (ls2 := [.ref 77, .int v61, .int (M25.2.1 77 9), .int v125, .int (1 : Int32), .null, .null, .null, .null]) rfl rfl (to_in (pc := 103) rw_170_103 rfl (to_c (pc := 104) rw_170_104 (x := (1 : Int32)) rfl rfl (b_cne_t (pc := 105) rw_170_105 (A := v125.toInt) (B := 1) rfl rfl (by omega) (to_in (pc := 112) rw_170_112 rfl (to_c (pc := 113) rw_170_113 (x := (2 : Int32)) rfl rfl (b_cne_t (pc := 114) rw_170_114 (A := v125.toInt) (B := 2) rfl rfl (by omega) (to_c (pc := 121) rw_170_121 (x := (0 : Int32)) rfl rfl (to_is (pc := 122) rw_170_122 (ls2 := [.ref 77, .int v61, .int (M25.2.1 77 9), .int v125, .int (1 : Int32), .int (0 : Int32), .null, .null, .null]) rfl rfl (to_an (pc := 124) rw_170_124 rfl ?_)))))))))))
              refine to_c (pc := 125) rw_170_125 (x := (0 : Int32)) rfl rfl (to_an (pc := 126) rw_170_126 rfl ?_)
              have c_145 : M136.2.1 77 14 = (M.2.1 77 14) := (F_n F130 (show ¬ (77 = 77 ∧ 7 ≤ 14 ∧ 14 ≤ 10) by decide) (F_n F74 (show ¬ (77 = 77 ∧ 7 ≤ 14 ∧ 14 ≤ 10) by decide) (F_n F39 (show ¬ (77 = 77 ∧ (14 = 4 ∨ 14 = 5)) by decide) (F_n F19 (show ¬ (77 = 77 ∧ 7 ≤ 14 ∧ 14 ≤ 10) by decide) rfl))))
              refine tt_gI (pc := 127) rw_170_127 (g_o hG131 rfl) (v := (M.2.1 77 14)) c_145 (to_c (pc := 130) rw_170_130 (x := (1 : Int32)) rfl rfl (s_sub (pc := 131) rw_170_131 (A := (M.2.1 77 14).toInt) (B := 1) rfl rfl (by omega) (fun v146 e147 => to_i (pc := 132) rw_170_132 rfl (s_sub (pc := 134) rw_170_134 (A := v146.toInt) (B := 0) rfl rfl (by omega) (fun v148 e149 => s_v (pc := 135) rw_170_135 (dp0 hd (by decide)) (ls0 := [.ref 77, .int (0 : Int32), .int v148]) rfl (Nat.le_of_ble_eq_true rfl) (Nat.le_of_ble_eq_true rfl) rfl (to_rc rfl rfl rfl (g_o hG131 rfl)) rfl ?_)))))
              have k_150 : (0 : Int32).toInt = 0 := rfl
              have c_151 : M136.2.1 77 4 = (M49.2.1 77 4) := (F_n F130 (show ¬ (77 = 77 ∧ 7 ≤ 4 ∧ 4 ≤ 10) by decide) (F_n F74 (show ¬ (77 = 77 ∧ 7 ≤ 4 ∧ 4 ≤ 10) by decide) rfl))
              have t_152 : (M136.2.1 77 4).toInt = (M49.2.1 77 4).toInt := congrArg Int32.toInt c_151
              have c_153 : M136.2.1 77 5 = (M49.2.1 77 5) := (F_n F130 (show ¬ (77 = 77 ∧ 7 ≤ 5 ∧ 5 ≤ 10) by decide) (F_n F74 (show ¬ (77 = 77 ∧ 7 ≤ 5 ∧ 5 ≤ 10) by decide) rfl))
              have t_154 : (M136.2.1 77 5).toInt = (M49.2.1 77 5).toInt := congrArg Int32.toInt c_153
              refine E_162 hX (dp1 hd (by decide)) hG131 p_135.1 (by omega) (by omega) (l := (0 : Int32)) (m := v148) (t := t) (nn := nn) (a := (x_ns t nn (x_ns t nn (x_ns t nn a)))) (fun r155 M165 hG157 F156 p_158 p_159 p_160 p_161 p_162 p_163 p_164 => ?_)
              have F166 := FR.c F137 F156 tg_50
              rcases (show r155.toInt = 0 ∨ r155.toInt = 1 by omega) with h167 | h167
              · skip
                have p_168 := p_161 (by omega)
                have p_169 := p_162 (by omega)
                have p_170 := p_163 (by omega)
                clear p_160 p_161 p_162 p_163 p_164
                have z_171 := x_val_b (t := t) (nn := nn) (a := (x_ns t nn (x_ns t nn (x_ns t nn a))))
                refine b_ine_f (pc := 138) rw_170_138 (A := r155.toInt) rfl (by omega) (to_c (pc := 141) rw_170_141 (x := (0 : Int32)) rfl rfl (s_r1 (pc := 142) rw_170_142 (A := 0) rfl (by decide) ?_))
                have j_172 := (RS_f (tg_40 F156) p_135.1)
                exact h (0 : Int32) M165 hG157 F166 (by decide) (by decide) j_172 (fun _ => (if g9 : x_kind t nn (x_ns t nn (x_ns t nn (x_ns t nn a))) = 3 then pinl (by have z9 := p_170.1 g9; omega) (by omega) (xf_32 (show x_fN t nn sg (x_ns t nn a) by unfold x_fN; omega) (by omega) g9 (by omega)) else pinl (by have z9 := p_170.2 g9; omega) (by omega) (xf_31 (show x_fN t nn sg (x_ns t nn a) by unfold x_fN; omega) (by omega) g9))) (fun z => absurd z (by decide)) (by omega)
              · skip
                have p_173 := p_160 (by omega)
                have p_174 := p_164 (by omega)
                clear p_160 p_161 p_162 p_163 p_164
                have c_175 : M165.2.1 77 9 = (M136.2.1 77 9) := (F_n F156 (show ¬ (77 = 77 ∧ (9 = 4 ∨ 9 = 5)) by decide) rfl)
                have z_176 := x_val_b (t := t) (nn := nn) (a := (x_ns t nn (x_ns t nn (x_ns t nn a)))) (by omega)
                refine b_ine_t (pc := 138) rw_170_138 (A := r155.toInt) rfl (by omega) (to_an (pc := 143) rw_170_143 rfl (tt_gI (pc := 144) rw_170_144 (g_o hG157 rfl) (v := (M136.2.1 77 9)) c_175 (to_is (pc := 147) rw_170_147 (ls2 := [.ref 77, .int v61, .int (M25.2.1 77 9), .int v125, .int (1 : Int32), .int (0 : Int32), .int (M136.2.1 77 9), .null, .null]) rfl rfl (to_an (pc := 149) rw_170_149 rfl (tt_gJ (pc := 150) rw_170_150 (g_o hG157 rfl) (v := (M.2.2.1 77 25)) (F_nl F156 (show ¬ (77 = 77 ∧ (25 = 4 ∨ 25 = 5)) by decide) (F_nl F130 (show ¬ (77 = 77 ∧ 7 ≤ 25 ∧ 25 ≤ 10) by decide) (F_nl F74 (show ¬ (77 = 77 ∧ 7 ≤ 25 ∧ 25 ≤ 10) by decide) (F_nl F39 (show ¬ (77 = 77 ∧ (25 = 4 ∨ 25 = 5)) by decide) (F_nl F19 (show ¬ (77 = 77 ∧ 7 ≤ 25 ∧ 25 ≤ 10) by decide) rfl))))) (to_i (pc := 153) rw_170_153 rfl (to_i (pc := 155) rw_170_155 rfl (to_i (pc := 157) rw_170_157 rfl (s_add (pc := 159) rw_170_159 (A := (M136.2.1 77 9).toInt) (B := 0) rfl rfl (by omega) (fun v177 e178 => s_s (pc := 160) rw_170_160 (dp0 hd (by decide)) (ls0 := [.int (M136.2.1 77 9), .int v177, .null, .null, .null]) rfl (Nat.le_of_ble_eq_true rfl) (Nat.le_of_ble_eq_true rfl) rfl (to_rcs rfl rfl) rfl (E_168 hX (dp1 hd (by decide)) hG157 (by omega) (by omega) (by omega) (by omega) (by omega) (a := (M136.2.1 77 9)) (b := v177) (fun r179 M183 hG181 F180 p_182 => ?_))))))))))))
                have F184 := FR.c F166 F180 tg_51
                refine to_2l (pc := 163) rw_170_163 (v := ((M.2.2.1 77 25) &&& r179)) rfl (to_cl (pc := 164) rw_170_164 rfl (x := (0 : Int64)) rfl (s_lcmpE (pc := 165) rw_170_165 (fun v185 e186 => ?_)))
                have b_187 := x_eq_b (x := ((M.2.2.1 77 25) &&& r179)) (y := (0 : Int64))
                have z_188 := x_free_r q7 p_182
                have z_189 := x_free_v (s := sg) (f := (M136.2.1 77 9).toInt) (l := v177.toInt) (f2 := (x_val t nn (x_ns t nn (x_ns t nn (x_ns t nn a))))) (l2 := (x_val t nn (x_ns t nn (x_ns t nn (x_ns t nn a))))) (by omega) (by omega)
                refine b_ieq (pc := 166) rw_170_166 (A := v185.toInt) rfl (fun h190 => ?_) (fun h190 => ?_)
                · refine to_an (pc := 175) rw_170_175 rfl (s_v (pc := 176) rw_170_176 (dp0 hd (by decide)) (ls0 := [.ref 77]) rfl (Nat.le_of_ble_eq_true rfl) (Nat.le_of_ble_eq_true rfl) rfl (to_rc rfl rfl rfl (g_o hG181 rfl)) rfl ?_)
                  have c_191 : M183.2.1 77 7 = (M136.2.1 77 7) := (F_n F180 (show ¬ (77 < 0) by decide) (F_n F156 (show ¬ (77 = 77 ∧ (7 = 4 ∨ 7 = 5)) by decide) rfl))
                  have t_192 : (M183.2.1 77 7).toInt = (M136.2.1 77 7).toInt := congrArg Int32.toInt c_191
                  have c_193 : M183.2.1 77 6 = (M.2.1 77 6) := (F_n F180 (show ¬ (77 < 0) by decide) (F_n F156 (show ¬ (77 = 77 ∧ (6 = 4 ∨ 6 = 5)) by decide) c_139))
                  have t_194 : (M183.2.1 77 6).toInt = (M.2.1 77 6).toInt := congrArg Int32.toInt c_193
                  have c_195 : M183.2.1 77 10 = (M136.2.1 77 10) := (F_n F180 (show ¬ (77 < 0) by decide) (F_n F156 (show ¬ (77 = 77 ∧ (10 = 4 ∨ 10 = 5)) by decide) rfl))
                  have t_196 : (M183.2.1 77 10).toInt = (M136.2.1 77 10).toInt := congrArg Int32.toInt c_195
                  have j_197 := (RS_f (tg_45 F180) (RS_f (tg_40 F156) p_135.1))
                  have z_198 := RS_b j_197 (a := (x_ns t nn (x_ns t nn (x_ns t nn a)))) (by omega)
                  have j_199 := (TR_f (tg_9 F180) (TR_f (tg_41 F156) (TR_f (tg_42 F130) j_128)))
                  have j_200 := (W9_f (tg_46 F180) (W9_f (tg_43 F156) (W9_f (tg_44 F130) j_129)))
                  refine E_156 hX (dp1 hd (by decide)) hG181 (by omega) (by omega) (by omega) (by omega) j_199 j_200  (fun M207 hG202 F201 p_203 p_204 p_205 p_206 => ?_)
                  have F208 := FR.c F184 F201 tg_49
                  have b_209 := g_b hG202 (a := 77) (i := 7) (lo := 0) (hi := 500) rfl rfl
                  have c_210 : M207.2.1 77 6 = (M.2.1 77 6) := (F_n F201 (show ¬ (77 = 77 ∧ 7 ≤ 6 ∧ 6 ≤ 10) by decide) c_193)
                  have t_211 : (M207.2.1 77 6).toInt = (M.2.1 77 6).toInt := congrArg Int32.toInt c_210
                  have b_212 := g_b hG202 (a := 77) (i := 8) (lo := 0) (hi := 5) rfl rfl
                  have b_213 := g_b hG202 (a := 77) (i := 10) (lo := 0) (hi := 500) rfl rfl
                  have z_214 := RS_s p_206.2 (a := (x_ns t nn (x_ns t nn (x_ns t nn a)))) (by omega)
                  refine to_i (pc := 179) rw_170_179 rfl (to_i (pc := 181) rw_170_181 rfl (s_add (pc := 183) rw_170_183 (A := (M136.2.1 77 9).toInt) (B := 0) rfl rfl (by omega) (fun v215 e216 => to_is (pc := 184) rw_170_184 (ls2 := [.ref 77, .int v61, .int (M25.2.1 77 9), .int v125, .int (1 : Int32), .int (0 : Int32), .int (M136.2.1 77 9), .int v215, .null]) rfl rfl (to_c (pc := 186) rw_170_186 (x := (10 : Int32)) rfl rfl (to_is (pc := 188) rw_170_188 (ls2 := [.ref 77, .int v61, .int (M25.2.1 77 9), .int v125, .int (1 : Int32), .int (0 : Int32), .int (M136.2.1 77 9), .int v215, .int (10 : Int32)]) rfl rfl (to_i (pc := 190) rw_170_190 rfl (b_ieq_f (pc := 192) rw_170_192 (A := 1) rfl (by decide) (to_an (pc := 195) rw_170_195 rfl (to_in (pc := 196) rw_170_196 rfl (b_ine_f (pc := 197) rw_170_197 (A := v125.toInt) rfl (by omega) (to_i (pc := 200) rw_170_200 rfl ?_)))))))))))
                  refine to_c (pc := 202) rw_170_202 (x := (1 : Int32)) rfl rfl (s_add (pc := 203) rw_170_203 (A := (M136.2.1 77 9).toInt) (B := 1) rfl rfl (by omega) (fun v217 e218 => to_go (pc := 204) rw_170_204 (to_an (pc := 209) rw_170_209 rfl ?_)))
                  have c_219 : M207.2.1 77 14 = (M.2.1 77 14) := (F_n F201 (show ¬ (77 = 77 ∧ 7 ≤ 14 ∧ 14 ≤ 10) by decide) (F_n F180 (show ¬ (77 < 0) by decide) (F_n F156 (show ¬ (77 = 77 ∧ (14 = 4 ∨ 14 = 5)) by decide) c_145)))
                  refine tt_gI (pc := 210) rw_170_210 (g_o hG202 rfl) (v := (M.2.1 77 14)) c_219 (to_c (pc := 213) rw_170_213 (x := (1 : Int32)) rfl rfl (s_sub (pc := 214) rw_170_214 (A := (M.2.1 77 14).toInt) (B := 1) rfl rfl (by omega) (fun v220 e221 => s_v (pc := 215) rw_170_215 (dp0 hd (by decide)) (ls0 := [.ref 77, .int v217, .int v220]) rfl (Nat.le_of_ble_eq_true rfl) (Nat.le_of_ble_eq_true rfl) rfl (to_rc rfl rfl rfl (g_o hG202 rfl)) rfl ?_)))
                  have c_222 : M207.2.1 77 4 = (M165.2.1 77 4) := (F_n F201 (show ¬ (77 = 77 ∧ 7 ≤ 4 ∧ 4 ≤ 10) by decide) (F_n F180 (show ¬ (77 < 0) by decide) rfl))
                  have t_223 : (M207.2.1 77 4).toInt = (M165.2.1 77 4).toInt := congrArg Int32.toInt c_222
                  have c_224 : M207.2.1 77 5 = (M165.2.1 77 5) := (F_n F201 (show ¬ (77 = 77 ∧ 7 ≤ 5 ∧ 5 ≤ 10) by decide) (F_n F180 (show ¬ (77 < 0) by decide) rfl))
                  have t_225 : (M207.2.1 77 5).toInt = (M165.2.1 77 5).toInt := congrArg Int32.toInt c_224
                  refine E_162 hX (dp1 hd (by decide)) hG202 p_206.1 (by omega) (by omega) (l := v217) (m := v220) (t := t) (nn := nn) (a := (x_ns t nn (x_ns t nn (x_ns t nn (x_ns t nn a))))) (fun r226 M236 hG228 F227 p_229 p_230 p_231 p_232 p_233 p_234 p_235 => ?_)
                  have F237 := FR.c F208 F227 tg_50
                  rcases (show r226.toInt = 0 ∨ r226.toInt = 1 by omega) with h238 | h238
                  · skip
                    have p_239 := p_232 (by omega)
                    have p_240 := p_233 (by omega)
                    have p_241 := p_234 (by omega)
                    clear p_231 p_232 p_233 p_234 p_235
                    have z_242 := x_val_b (t := t) (nn := nn) (a := (x_ns t nn (x_ns t nn (x_ns t nn (x_ns t nn a)))))
                    refine b_ine_f (pc := 218) rw_170_218 (A := r226.toInt) rfl (by omega) (to_c (pc := 221) rw_170_221 (x := (0 : Int32)) rfl rfl (s_r1 (pc := 222) rw_170_222 (A := 0) rfl (by decide) ?_))
                    have j_243 := (RS_f (tg_40 F227) p_206.1)
                    exact h (0 : Int32) M236 hG228 F237 (by decide) (by decide) j_243 (fun _ => (if g9 : x_kind t nn (x_ns t nn (x_ns t nn (x_ns t nn (x_ns t nn a)))) = 3 then pinl (by have z9 := p_241.1 g9; omega) (by omega) (xf_42 (show x_fL t nn sg (x_ns t nn a) by unfold x_fL x_fN; omega) g9 (fun h8 => by unfold x_fR at h8; omega)) else pinl (by have z9 := p_241.2 g9; omega) (by omega) (xf_41 (show x_fL t nn sg (x_ns t nn a) by unfold x_fL x_fN; omega) g9))) (fun z => absurd z (by decide)) (by omega)
                  · skip
                    have p_244 := p_231 (by omega)
                    have p_245 := p_235 (by omega)
                    clear p_231 p_232 p_233 p_234 p_235
                    have c_246 : M236.2.1 77 9 = (M207.2.1 77 9) := (F_n F227 (show ¬ (77 = 77 ∧ (9 = 4 ∨ 9 = 5)) by decide) rfl)
                    have z_247 := x_val_b (t := t) (nn := nn) (a := (x_ns t nn (x_ns t nn (x_ns t nn (x_ns t nn a))))) (by omega)
                    refine b_ine_t (pc := 218) rw_170_218 (A := r226.toInt) rfl (by omega) (to_an (pc := 223) rw_170_223 rfl (tt_gI (pc := 224) rw_170_224 (g_o hG228 rfl) (v := (M207.2.1 77 9)) c_246 (to_is (pc := 227) rw_170_227 (ls2 := [.ref 77, .int v61, .int (M25.2.1 77 9), .int v125, .int (1 : Int32), .int (0 : Int32), .int (M136.2.1 77 9), .int (M207.2.1 77 9), .int (10 : Int32)]) rfl rfl (to_i (pc := 229) rw_170_229 rfl (to_i (pc := 231) rw_170_231 rfl (s_sub (pc := 233) rw_170_233 (A := (M207.2.1 77 9).toInt) (B := (M136.2.1 77 9).toInt) rfl rfl (by omega) (fun v248 e249 => to_c (pc := 234) rw_170_234 (x := (23 : Int32)) rfl rfl (b_cle (pc := 236) rw_170_236 (A := v248.toInt) (B := 23) rfl rfl (fun h250 => ?_) (fun h250 => ?_)))))))))
                    · refine to_an (pc := 245) rw_170_245 rfl (tt_gJ (pc := 246) rw_170_246 (g_o hG228 rfl) (v := (M.2.2.1 77 25)) (F_nl F227 (show ¬ (77 = 77 ∧ (25 = 4 ∨ 25 = 5)) by decide) (F_nl F201 (show ¬ (77 = 77 ∧ 7 ≤ 25 ∧ 25 ≤ 10) by decide) (F_nl F180 (show ¬ (77 < 0) by decide) (F_nl F156 (show ¬ (77 = 77 ∧ (25 = 4 ∨ 25 = 5)) by decide) (F_nl F130 (show ¬ (77 = 77 ∧ 7 ≤ 25 ∧ 25 ≤ 10) by decide) (F_nl F74 (show ¬ (77 = 77 ∧ 7 ≤ 25 ∧ 25 ≤ 10) by decide) (F_nl F39 (show ¬ (77 = 77 ∧ (25 = 4 ∨ 25 = 5)) by decide) (F_nl F19 (show ¬ (77 = 77 ∧ 7 ≤ 25 ∧ 25 ≤ 10) by decide) rfl)))))))) (to_i (pc := 249) rw_170_249 rfl (to_i (pc := 251) rw_170_251 rfl (s_s (pc := 253) rw_170_253 (dp0 hd (by decide)) (ls0 := [.int (M136.2.1 77 9), .int (M207.2.1 77 9), .null, .null, .null]) rfl (Nat.le_of_ble_eq_true rfl) (Nat.le_of_ble_eq_true rfl) rfl (to_rcs rfl rfl) rfl (E_168 hX (dp1 hd (by decide)) hG228 (by omega) (by omega) (by omega) (by omega) (by omega) (a := (M136.2.1 77 9)) (b := (M207.2.1 77 9)) (fun r251 M255 hG253 F252 p_254 => ?_))))))
                      have F256 := FR.c F237 F252 tg_51
                      refine to_2l (pc := 256) rw_170_256 (v := ((M.2.2.1 77 25) &&& r251)) rfl (to_cl (pc := 257) rw_170_257 rfl (x := (0 : Int64)) rfl (s_lcmpE (pc := 258) rw_170_258 (fun v257 e258 => ?_)))
                      have b_259 := x_eq_b (x := ((M.2.2.1 77 25) &&& r251)) (y := (0 : Int64))
                      have z_260 := x_free_r q7 p_254
                      have z_261 := x_free_v (s := sg) (f := (M136.2.1 77 9).toInt) (l := (M207.2.1 77 9).toInt) (f2 := (x_val t nn (x_ns t nn (x_ns t nn (x_ns t nn a))))) (l2 := (x_val t nn (x_ns t nn (x_ns t nn (x_ns t nn (x_ns t nn a)))))) (by omega) (by omega)
                      refine b_ieq (pc := 259) rw_170_259 (A := v257.toInt) rfl (fun h262 => ?_) (fun h262 => ?_)
                      · refine to_an (pc := 268) rw_170_268 rfl (s_v (pc := 269) rw_170_269 (dp0 hd (by decide)) (ls0 := [.ref 77]) rfl (Nat.le_of_ble_eq_true rfl) (Nat.le_of_ble_eq_true rfl) rfl (to_rc rfl rfl rfl (g_o hG253 rfl)) rfl ?_)
                        have c_263 : M255.2.1 77 7 = (M207.2.1 77 7) := (F_n F252 (show ¬ (77 < 0) by decide) (F_n F227 (show ¬ (77 = 77 ∧ (7 = 4 ∨ 7 = 5)) by decide) rfl))
                        have t_264 : (M255.2.1 77 7).toInt = (M207.2.1 77 7).toInt := congrArg Int32.toInt c_263
                        have c_265 : M255.2.1 77 6 = (M.2.1 77 6) := (F_n F252 (show ¬ (77 < 0) by decide) (F_n F227 (show ¬ (77 = 77 ∧ (6 = 4 ∨ 6 = 5)) by decide) c_210))
                        have t_266 : (M255.2.1 77 6).toInt = (M.2.1 77 6).toInt := congrArg Int32.toInt c_265
                        have c_267 : M255.2.1 77 10 = (M207.2.1 77 10) := (F_n F252 (show ¬ (77 < 0) by decide) (F_n F227 (show ¬ (77 = 77 ∧ (10 = 4 ∨ 10 = 5)) by decide) rfl))
                        have t_268 : (M255.2.1 77 10).toInt = (M207.2.1 77 10).toInt := congrArg Int32.toInt c_267
                        have j_269 := (RS_f (tg_45 F252) (RS_f (tg_40 F227) p_206.1))
                        have z_270 := RS_b j_269 (a := (x_ns t nn (x_ns t nn (x_ns t nn (x_ns t nn a))))) (by omega)
                        have j_271 := (TR_f (tg_9 F252) (TR_f (tg_41 F227) (TR_f (tg_42 F201) j_199)))
                        have j_272 := (W9_f (tg_46 F252) (W9_f (tg_43 F227) (W9_f (tg_44 F201) j_200)))
                        refine E_156 hX (dp1 hd (by decide)) hG253 (by omega) (by omega) (by omega) (by omega) j_271 j_272  (fun M279 hG274 F273 p_275 p_276 p_277 p_278 => ?_)
                        have F280 := FR.c F256 F273 tg_49
                        have b_281 := g_b hG274 (a := 77) (i := 7) (lo := 0) (hi := 500) rfl rfl
                        have c_282 : M279.2.1 77 6 = (M.2.1 77 6) := (F_n F273 (show ¬ (77 = 77 ∧ 7 ≤ 6 ∧ 6 ≤ 10) by decide) c_265)
                        have t_283 : (M279.2.1 77 6).toInt = (M.2.1 77 6).toInt := congrArg Int32.toInt c_282
                        have b_284 := g_b hG274 (a := 77) (i := 8) (lo := 0) (hi := 5) rfl rfl
                        have b_285 := g_b hG274 (a := 77) (i := 10) (lo := 0) (hi := 500) rfl rfl
                        have z_286 := RS_s p_278.2 (a := (x_ns t nn (x_ns t nn (x_ns t nn (x_ns t nn a))))) (by omega)
                        refine to_i (pc := 272) rw_170_272 rfl (to_i (pc := 274) rw_170_274 rfl (s_sub (pc := 276) rw_170_276 (A := (M207.2.1 77 9).toInt) (B := (M136.2.1 77 9).toInt) rfl rfl (by omega) (fun v287 e288 => to_c (pc := 277) rw_170_277 (x := (1 : Int32)) rfl rfl (s_add (pc := 278) rw_170_278 (A := v287.toInt) (B := 1) rfl rfl (by omega) (fun v289 e290 => to_is (pc := 279) rw_170_279 (ls2 := [.ref 77, .int v61, .int (M25.2.1 77 9), .int v125, .int (1 : Int32), .int (0 : Int32), .int (M136.2.1 77 9), .int (M207.2.1 77 9), .int v289]) rfl rfl (to_in (pc := 281) rw_170_281 rfl (to_c (pc := 282) rw_170_282 (x := (3 : Int32)) rfl rfl (b_cne_t (pc := 283) rw_170_283 (A := v125.toInt) (B := 3) rfl rfl (by omega) (to_an (pc := 318) rw_170_318 rfl (to_dupr (pc := 319) rw_170_319 (tt_gJ (pc := 320) rw_170_320 (g_o hG274 rfl) (v := (M.2.2.1 77 25)) (F_nl F273 (show ¬ (77 = 77 ∧ 7 ≤ 25 ∧ 25 ≤ 10) by decide) (F_nl F252 (show ¬ (77 < 0) by decide) (F_nl F227 (show ¬ (77 = 77 ∧ (25 = 4 ∨ 25 = 5)) by decide) (F_nl F201 (show ¬ (77 = 77 ∧ 7 ≤ 25 ∧ 25 ≤ 10) by decide) (F_nl F180 (show ¬ (77 < 0) by decide) (F_nl F156 (show ¬ (77 = 77 ∧ (25 = 4 ∨ 25 = 5)) by decide) (F_nl F130 (show ¬ (77 = 77 ∧ 7 ≤ 25 ∧ 25 ≤ 10) by decide) (F_nl F74 (show ¬ (77 = 77 ∧ 7 ≤ 25 ∧ 25 ≤ 10) by decide) (F_nl F39 (show ¬ (77 = 77 ∧ (25 = 4 ∨ 25 = 5)) by decide) (F_nl F19 (show ¬ (77 = 77 ∧ 7 ≤ 25 ∧ 25 ≤ 10) by decide) rfl)))))))))) ?_)))))))))))
                        refine to_i (pc := 323) rw_170_323 rfl (to_i (pc := 325) rw_170_325 rfl (s_s (pc := 327) rw_170_327 (dp0 hd (by decide)) (ls0 := [.int (M136.2.1 77 9), .int (M207.2.1 77 9), .null, .null, .null]) rfl (Nat.le_of_ble_eq_true rfl) (Nat.le_of_ble_eq_true rfl) rfl (to_rcs rfl rfl) rfl (E_168 hX (dp1 hd (by decide)) hG274 (by omega) (by omega) (by omega) (by omega) (by omega) (a := (M136.2.1 77 9)) (b := (M207.2.1 77 9)) (fun r291 M295 hG293 F292 p_294 => ?_))))
                        have F296 := FR.c F280 F292 tg_51
                        refine to_2l (pc := 330) rw_170_330 (v := ((M.2.2.1 77 25) ||| r291)) rfl ?_
                        have j_297 := (PLr_f (tg_47 F292) (F_nl F292 (show ¬ (77 < 0) by decide) rfl) (PLr_f (tg_39 F273) (F_nl F273 (show ¬ (77 = 77 ∧ 7 ≤ 25 ∧ 25 ≤ 10) by decide) rfl) (PLr_f (tg_47 F252) (F_nl F252 (show ¬ (77 < 0) by decide) rfl) (PLr_f (tg_48 F227) (F_nl F227 (show ¬ (77 = 77 ∧ (25 = 4 ∨ 25 = 5)) by decide) rfl) (PLr_f (tg_39 F201) (F_nl F201 (show ¬ (77 = 77 ∧ 7 ≤ 25 ∧ 25 ≤ 10) by decide) rfl) (PLr_f (tg_47 F180) (F_nl F180 (show ¬ (77 < 0) by decide) rfl) (PLr_f (tg_48 F156) (F_nl F156 (show ¬ (77 = 77 ∧ (25 = 4 ∨ 25 = 5)) by decide) rfl) (PLr_f (tg_39 F130) (F_nl F130 (show ¬ (77 = 77 ∧ 7 ≤ 25 ∧ 25 ≤ 10) by decide) rfl) (PLr_f (tg_39 F74) (F_nl F74 (show ¬ (77 = 77 ∧ 7 ≤ 25 ∧ 25 ≤ 10) by decide) rfl) (PLr_f (tg_48 F39) (F_nl F39 (show ¬ (77 = 77 ∧ (25 = 4 ∨ 25 = 5)) by decide) rfl) j_37))))))))))
                        refine s_pJ (pc := 331) rw_170_331 hG293 rfl (fun M299 W298 => ?_)
                        have hG300 := g_wl hG293 W298
                        have F301 := FR.wl F296 W298 (show 77 = 77 ∧ (25 = 4 ∨ 25 = 5 ∨ 7 ≤ 25 ∧ 25 ≤ 10 ∨ 25 = 15 ∨ 25 = 25) ∨ 80 ≤ 77 ∧ 77 ≤ 84 ∧ 8 ≤ 25 by decide)
                        refine to_an (pc := 334) rw_170_334 rfl (s_gR (pc := 335) rw_170_335 hG300 rfl (v := 80) rfl (to_in (pc := 338) rw_170_338 rfl (to_in (pc := 339) rw_170_339 rfl (s_ias (pc := 340) rw_170_340 hG300 rfl (n := 16) rfl (A := v61.toInt) rfl (by omega) (by omega) (fun M303 W302 => ?_)))))
                        have hG304 := g_wf hG300 W302 rfl rfl (by decide)
                        have F305 := FR.w F301 W302 (show 80 = 77 ∧ ((v61.toInt).toNat = 4 ∨ (v61.toInt).toNat = 5 ∨ 7 ≤ (v61.toInt).toNat ∧ (v61.toInt).toNat ≤ 10 ∨ (v61.toInt).toNat = 15 ∨ (v61.toInt).toNat = 25) ∨ 80 ≤ 80 ∧ 80 ≤ 84 ∧ 8 ≤ (v61.toInt).toNat by omega)
                        refine to_an (pc := 341) rw_170_341 rfl (s_gR (pc := 342) rw_170_342 hG304 rfl (v := 81) rfl (to_in (pc := 345) rw_170_345 rfl (to_in (pc := 346) rw_170_346 rfl (s_ias (pc := 347) rw_170_347 hG304 rfl (n := 16) rfl (A := v61.toInt) rfl (by omega) (by omega) (fun M307 W306 => ?_)))))
                        have hG308 := g_w hG304 W306 (A := v125.toInt) rfl (lo := 0) (hi := 3) rfl rfl (by omega) (by decide)
                        have F309 := FR.w F305 W306 (show 81 = 77 ∧ ((v61.toInt).toNat = 4 ∨ (v61.toInt).toNat = 5 ∨ 7 ≤ (v61.toInt).toNat ∧ (v61.toInt).toNat ≤ 10 ∨ (v61.toInt).toNat = 15 ∨ (v61.toInt).toNat = 25) ∨ 80 ≤ 81 ∧ 81 ≤ 84 ∧ 8 ≤ (v61.toInt).toNat by omega)
                        refine to_an (pc := 348) rw_170_348 rfl (s_gR (pc := 349) rw_170_349 hG308 rfl (v := 82) rfl (to_in (pc := 352) rw_170_352 rfl (to_i (pc := 353) rw_170_353 rfl (s_ias (pc := 355) rw_170_355 hG308 rfl (n := 16) rfl (A := v61.toInt) rfl (by omega) (by omega) (fun M311 W310 => ?_)))))
                        have hG312 := g_w hG308 W310 (A := (M136.2.1 77 9).toInt) rfl (lo := 0) (hi := 59) rfl rfl (by omega) (by decide)
                        have F313 := FR.w F309 W310 (show 82 = 77 ∧ ((v61.toInt).toNat = 4 ∨ (v61.toInt).toNat = 5 ∨ 7 ≤ (v61.toInt).toNat ∧ (v61.toInt).toNat ≤ 10 ∨ (v61.toInt).toNat = 15 ∨ (v61.toInt).toNat = 25) ∨ 80 ≤ 82 ∧ 82 ≤ 84 ∧ 8 ≤ (v61.toInt).toNat by omega)
                        refine to_an (pc := 356) rw_170_356 rfl (s_gR (pc := 357) rw_170_357 hG312 rfl (v := 83) rfl (to_in (pc := 360) rw_170_360 rfl (to_i (pc := 361) rw_170_361 rfl (s_ias (pc := 363) rw_170_363 hG312 rfl (n := 16) rfl (A := v61.toInt) rfl (by omega) (by omega) (fun M315 W314 => ?_)))))
                        have hG316 := g_w hG312 W314 (A := (M207.2.1 77 9).toInt) rfl (lo := 0) (hi := 63) rfl rfl (by omega) (by decide)
                        have F317 := FR.w F313 W314 (show 83 = 77 ∧ ((v61.toInt).toNat = 4 ∨ (v61.toInt).toNat = 5 ∨ 7 ≤ (v61.toInt).toNat ∧ (v61.toInt).toNat ≤ 10 ∨ (v61.toInt).toNat = 15 ∨ (v61.toInt).toNat = 25) ∨ 80 ≤ 83 ∧ 83 ≤ 84 ∧ 8 ≤ (v61.toInt).toNat by omega)
                        refine to_an (pc := 364) rw_170_364 rfl (s_gR (pc := 365) rw_170_365 hG316 rfl (v := 84) rfl (to_in (pc := 368) rw_170_368 rfl (to_i (pc := 369) rw_170_369 rfl (s_ias (pc := 371) rw_170_371 hG316 rfl (n := 16) rfl (A := v61.toInt) rfl (by omega) (by omega) (fun M319 W318 => ?_)))))
                        have hG320 := g_w hG316 W318 (A := v289.toInt) rfl (lo := 0) (hi := 24) rfl rfl (by omega) (by decide)
                        have F321 := FR.w F317 W318 (show 84 = 77 ∧ ((v61.toInt).toNat = 4 ∨ (v61.toInt).toNat = 5 ∨ 7 ≤ (v61.toInt).toNat ∧ (v61.toInt).toNat ≤ 10 ∨ (v61.toInt).toNat = 15 ∨ (v61.toInt).toNat = 25) ∨ 80 ≤ 84 ∧ 84 ≤ 84 ∧ 8 ≤ (v61.toInt).toNat by omega)
                        refine to_an (pc := 372) rw_170_372 rfl (to_dupr (pc := 373) rw_170_373 ?_)
                        have c_322 : M319.2.1 77 15 = (M.2.1 77 15) := (W_n W318 (fun z => absurd z.1 (by decide)) (W_n W314 (fun z => absurd z.1 (by decide)) (W_n W310 (fun z => absurd z.1 (by decide)) (W_n W306 (fun z => absurd z.1 (by decide)) (W_n W302 (fun z => absurd z.1 (by decide)) (W_l W298 (F_n F292 (show ¬ (77 < 0) by decide) (F_n F273 (show ¬ (77 = 77 ∧ 7 ≤ 15 ∧ 15 ≤ 10) by decide) (F_n F252 (show ¬ (77 < 0) by decide) (F_n F227 (show ¬ (77 = 77 ∧ (15 = 4 ∨ 15 = 5)) by decide) (F_n F201 (show ¬ (77 = 77 ∧ 7 ≤ 15 ∧ 15 ≤ 10) by decide) (F_n F180 (show ¬ (77 < 0) by decide) (F_n F156 (show ¬ (77 = 77 ∧ (15 = 4 ∨ 15 = 5)) by decide) (F_n F130 (show ¬ (77 = 77 ∧ 7 ≤ 15 ∧ 15 ≤ 10) by decide) (F_n F74 (show ¬ (77 = 77 ∧ 7 ≤ 15 ∧ 15 ≤ 10) by decide) c_60)))))))))))))))
                        refine tt_gI (pc := 374) rw_170_374 (g_o hG320 rfl) (v := (M.2.1 77 15)) c_322 (to_c (pc := 377) rw_170_377 (x := (1 : Int32)) rfl rfl (s_add (pc := 378) rw_170_378 (A := (M.2.1 77 15).toInt) (B := 1) rfl rfl (by omega) (fun v323 e324 => s_pI (pc := 379) rw_170_379 hG320 rfl (fun M326 W325 => ?_))))
                        have hG327 := g_w hG320 W325 (A := v323.toInt) rfl (lo := 0) (hi := 8) rfl rfl (by omega) (by decide)
                        have F328 := FR.w F321 W325 (show 77 = 77 ∧ (15 = 4 ∨ 15 = 5 ∨ 7 ≤ 15 ∧ 15 ≤ 10 ∨ 15 = 15 ∨ 15 = 25) ∨ 80 ≤ 77 ∧ 77 ≤ 84 ∧ 8 ≤ 15 by decide)
                        refine to_c (pc := 382) rw_170_382 (x := (1 : Int32)) rfl rfl (s_r1 (pc := 383) rw_170_383 (A := 1) rfl (by decide) ?_)
                        have k_329 : (1 : Int32).toInt = 1 := rfl
                        have j_330 := (RS_f (fun a i z => W_n W325 (tg_52 a i z) rfl) (RS_f (fun a i z => W_n W318 (tg_53 a i _ z) rfl) (RS_f (fun a i z => W_n W314 (tg_54 a i _ z) rfl) (RS_f (fun a i z => W_n W310 (tg_55 a i _ z) rfl) (RS_f (fun a i z => W_n W306 (tg_56 a i _ z) rfl) (RS_f (fun a i z => W_n W302 (tg_57 a i _ z) rfl) (RS_f (fun a i z => W_l W298 rfl) (RS_f (tg_45 F292) p_278.1))))))))
                        have c_331 : M326.2.1 77 10 = (M279.2.1 77 10) := (W_n W325 (by decide) (W_n W318 (fun z => absurd z.1 (by decide)) (W_n W314 (fun z => absurd z.1 (by decide)) (W_n W310 (fun z => absurd z.1 (by decide)) (W_n W306 (fun z => absurd z.1 (by decide)) (W_n W302 (fun z => absurd z.1 (by decide)) (W_l W298 (F_n F292 (show ¬ (77 < 0) by decide) rfl))))))))
                        have t_332 : (M326.2.1 77 10).toInt = (M279.2.1 77 10).toInt := congrArg Int32.toInt c_331
                        have z_333 : x_fC t nn sg (x_ns t nn a) := by unfold x_fC; omega
                        have z_334 := (x_or_r q7 (p_294.trans (x_bw_v (by omega) (by omega))) : _ = _ ||| x_bw (x_val t nn (x_ns t nn (x_ns t nn (x_ns t nn a)))) (x_val t nn (x_ns t nn (x_ns t nn (x_ns t nn (x_ns t nn a))))))
                        have z_335 := PLr_p (nm := (x_val t nn (x_ns t nn a))) (kd := 0) (f := (x_val t nn (x_ns t nn (x_ns t nn (x_ns t nn a))))) (l := (x_val t nn (x_ns t nn (x_ns t nn (x_ns t nn (x_ns t nn a)))))) (c := ((x_val t nn (x_ns t nn (x_ns t nn (x_ns t nn (x_ns t nn a))))) - (x_val t nn (x_ns t nn (x_ns t nn (x_ns t nn a)))) + 1)) j_297 W298 W302 W306 W310 W314 W318 W325 (by omega) z_334 (by omega) (by omega) (by omega) (by omega) (by omega) (by omega) (by omega) (by omega) (by omega) (by omega) (by omega)
                        have j_336 := (CWr_f (fun k hk9 => W_j W325 rfl) (CWr_f (fun k hk9 => W_j W318 rfl) (CWr_f (fun k hk9 => W_j W314 rfl) (CWr_f (fun k hk9 => W_j W310 rfl) (CWr_f (fun k hk9 => W_j W306 rfl) (CWr_f (fun k hk9 => W_j W302 rfl) (CWr_f (fun k hk9 => L_n W298 (by omega) rfl) (CWr_f (fun k hk9 => F_nl F292 (show ¬ (87 < 0) by decide) rfl) (CWr_f (fun k hk9 => F_nl F273 (show ¬ (87 = 77 ∧ 7 ≤ (12 + k) ∧ (12 + k) ≤ 10) by omega) rfl) (CWr_f (fun k hk9 => F_nl F252 (show ¬ (87 < 0) by decide) rfl) (CWr_f (fun k hk9 => F_nl F227 (show ¬ (87 = 77 ∧ ((12 + k) = 4 ∨ (12 + k) = 5)) by omega) rfl) (CWr_f (fun k hk9 => F_nl F201 (show ¬ (87 = 77 ∧ 7 ≤ (12 + k) ∧ (12 + k) ≤ 10) by omega) rfl) (CWr_f (fun k hk9 => F_nl F180 (show ¬ (87 < 0) by decide) rfl) (CWr_f (fun k hk9 => F_nl F156 (show ¬ (87 = 77 ∧ ((12 + k) = 4 ∨ (12 + k) = 5)) by omega) rfl) (CWr_f (fun k hk9 => F_nl F130 (show ¬ (87 = 77 ∧ 7 ≤ (12 + k) ∧ (12 + k) ≤ 10) by omega) rfl) (CWr_f (fun k hk9 => F_nl F74 (show ¬ (87 = 77 ∧ 7 ≤ (12 + k) ∧ (12 + k) ≤ 10) by omega) rfl) (CWr_f (fun k hk9 => F_nl F39 (show ¬ (87 = 77 ∧ ((12 + k) = 4 ∨ (12 + k) = 5)) by omega) rfl) (CWr_f (fun k hk9 => F_nl F19 (show ¬ (87 = 77 ∧ 7 ≤ (12 + k) ∧ (12 + k) ≤ 10) by omega) rfl) q8))))))))))))))))))
                        have c_337 : M326.2.1 77 4 = (M236.2.1 77 4) := (W_n W325 (by decide) (W_n W318 (fun z => absurd z.1 (by decide)) (W_n W314 (fun z => absurd z.1 (by decide)) (W_n W310 (fun z => absurd z.1 (by decide)) (W_n W306 (fun z => absurd z.1 (by decide)) (W_n W302 (fun z => absurd z.1 (by decide)) (W_l W298 (F_n F292 (show ¬ (77 < 0) by decide) (F_n F273 (show ¬ (77 = 77 ∧ 7 ≤ 4 ∧ 4 ≤ 10) by decide) (F_n F252 (show ¬ (77 < 0) by decide) rfl))))))))))
                        have t_338 : (M326.2.1 77 4).toInt = (M236.2.1 77 4).toInt := congrArg Int32.toInt c_337
                        have c_339 : M326.2.1 77 5 = (M236.2.1 77 5) := (W_n W325 (by decide) (W_n W318 (fun z => absurd z.1 (by decide)) (W_n W314 (fun z => absurd z.1 (by decide)) (W_n W310 (fun z => absurd z.1 (by decide)) (W_n W306 (fun z => absurd z.1 (by decide)) (W_n W302 (fun z => absurd z.1 (by decide)) (W_l W298 (F_n F292 (show ¬ (77 < 0) by decide) (F_n F273 (show ¬ (77 = 77 ∧ 7 ≤ 5 ∧ 5 ≤ 10) by decide) (F_n F252 (show ¬ (77 < 0) by decide) rfl))))))))))
                        have t_340 : (M326.2.1 77 5).toInt = (M236.2.1 77 5).toInt := congrArg Int32.toInt c_339
                        exact h (1 : Int32) M326 hG327 F328 (by decide) (by decide) j_330 (fun z => absurd z (by decide)) (fun _ => ⟨_, (by rw [show (M326.2.1 77 10).toInt = (x_ns t nn (x_ns t nn (x_ns t nn (x_ns t nn (x_ns t nn a))))) by omega]; exact x_field_0 z_333 (by omega)), ⟨z_335, CWr_p j_336⟩, (by show sg.2.1 + 1 + sg.2.2.1 = _; omega)⟩) (by omega)
                      · refine to_an (pc := 262) rw_170_262 rfl (to_c (pc := 263) rw_170_263 (x := (3 : Int32)) rfl rfl (s_v (pc := 264) rw_170_264 (dp0 hd (by decide)) (ls0 := [.ref 77, .int (3 : Int32)]) rfl (Nat.le_of_ble_eq_true rfl) (Nat.le_of_ble_eq_true rfl) rfl (to_rc rfl rfl rfl (g_o hG253 rfl)) rfl (to_an (pc := 0) rw_152_0 rfl (to_in (pc := 1) rw_152_1 rfl (s_pI (pc := 2) rw_152_2 hG253 rfl (fun M342 W341 => ?_))))))
                        have hG343 := g_wf hG253 W341 rfl rfl (by decide)
                        have F344 := FR.w F256 W341 (show 77 = 77 ∧ (4 = 4 ∨ 4 = 5 ∨ 7 ≤ 4 ∧ 4 ≤ 10 ∨ 4 = 15 ∨ 4 = 25) ∨ 80 ≤ 77 ∧ 77 ≤ 84 ∧ 8 ≤ 4 by decide)
                        refine to_an (pc := 5) rw_152_5 rfl (to_an (pc := 6) rw_152_6 rfl ?_)
                        have c_345 : M342.2.1 77 10 = (M207.2.1 77 10) := (W_n W341 (by decide) (F_n F252 (show ¬ (77 < 0) by decide) (F_n F227 (show ¬ (77 = 77 ∧ (10 = 4 ∨ 10 = 5)) by decide) rfl)))
                        refine tt_gI (pc := 7) rw_152_7 (g_o hG343 rfl) (v := (M207.2.1 77 10)) c_345 (s_pI (pc := 10) rw_152_10 hG343 rfl (fun M347 W346 => ?_))
                        have hG348 := g_wf hG343 W346 rfl rfl (by decide)
                        have F349 := FR.w F344 W346 (show 77 = 77 ∧ (5 = 4 ∨ 5 = 5 ∨ 7 ≤ 5 ∧ 5 ≤ 10 ∨ 5 = 15 ∨ 5 = 25) ∨ 80 ≤ 77 ∧ 77 ≤ 84 ∧ 8 ≤ 5 by decide)
                        refine to_c (pc := 13) rw_152_13 (x := (0 : Int32)) rfl rfl (s_r1 (pc := 14) rw_152_14 (A := 0) rfl (by decide) (s_r1 (pc := 267) rw_170_267 (A := 0) rfl (by decide) ?_))
                        have j_350 := (RS_f (fun a i z => W_n W346 (tg_37 a i z) rfl) (RS_f (fun a i z => W_n W341 (tg_38 a i z) rfl) (RS_f (tg_45 F252) (RS_f (tg_40 F227) p_206.1))))
                        have c_351 : M347.2.1 77 4 = (3 : Int32) := (W_n W346 (by decide) (W_e W341))
                        have k_352 : (3 : Int32).toInt = 3 := rfl
                        have t_353 : (M347.2.1 77 4).toInt = (3 : Int32).toInt := congrArg Int32.toInt c_351
                        have c_354 : M347.2.1 77 5 = (M207.2.1 77 10) := (W_e W346)
                        have t_355 : (M347.2.1 77 5).toInt = (M207.2.1 77 10).toInt := congrArg Int32.toInt c_354
                        exact h (0 : Int32) M347 hG348 F349 (by decide) (by decide) j_350 (fun _ => pinl (by omega) (by omega) (xf_43 (show x_fL t nn sg (x_ns t nn a) by unfold x_fL x_fN; omega) (by omega) (show x_fR t nn sg (x_ns t nn a) by unfold x_fR; omega) (by omega))) (fun z => absurd z (by decide)) (by omega)
                    · refine to_an (pc := 239) rw_170_239 rfl (to_c (pc := 240) rw_170_240 (x := (2 : Int32)) rfl rfl (s_v (pc := 241) rw_170_241 (dp0 hd (by decide)) (ls0 := [.ref 77, .int (2 : Int32)]) rfl (Nat.le_of_ble_eq_true rfl) (Nat.le_of_ble_eq_true rfl) rfl (to_rc rfl rfl rfl (g_o hG228 rfl)) rfl (to_an (pc := 0) rw_152_0 rfl (to_in (pc := 1) rw_152_1 rfl (s_pI (pc := 2) rw_152_2 hG228 rfl (fun M357 W356 => ?_))))))
                      have hG358 := g_wf hG228 W356 rfl rfl (by decide)
                      have F359 := FR.w F237 W356 (show 77 = 77 ∧ (4 = 4 ∨ 4 = 5 ∨ 7 ≤ 4 ∧ 4 ≤ 10 ∨ 4 = 15 ∨ 4 = 25) ∨ 80 ≤ 77 ∧ 77 ≤ 84 ∧ 8 ≤ 4 by decide)
                      refine to_an (pc := 5) rw_152_5 rfl (to_an (pc := 6) rw_152_6 rfl ?_)
                      have c_360 : M357.2.1 77 10 = (M207.2.1 77 10) := (W_n W356 (by decide) (F_n F227 (show ¬ (77 = 77 ∧ (10 = 4 ∨ 10 = 5)) by decide) rfl))
                      refine tt_gI (pc := 7) rw_152_7 (g_o hG358 rfl) (v := (M207.2.1 77 10)) c_360 (s_pI (pc := 10) rw_152_10 hG358 rfl (fun M362 W361 => ?_))
                      have hG363 := g_wf hG358 W361 rfl rfl (by decide)
                      have F364 := FR.w F359 W361 (show 77 = 77 ∧ (5 = 4 ∨ 5 = 5 ∨ 7 ≤ 5 ∧ 5 ≤ 10 ∨ 5 = 15 ∨ 5 = 25) ∨ 80 ≤ 77 ∧ 77 ≤ 84 ∧ 8 ≤ 5 by decide)
                      refine to_c (pc := 13) rw_152_13 (x := (0 : Int32)) rfl rfl (s_r1 (pc := 14) rw_152_14 (A := 0) rfl (by decide) (s_r1 (pc := 244) rw_170_244 (A := 0) rfl (by decide) ?_))
                      have j_365 := (RS_f (fun a i z => W_n W361 (tg_37 a i z) rfl) (RS_f (fun a i z => W_n W356 (tg_38 a i z) rfl) (RS_f (tg_40 F227) p_206.1)))
                      have c_366 : M362.2.1 77 4 = (2 : Int32) := (W_n W361 (by decide) (W_e W356))
                      have k_367 : (2 : Int32).toInt = 2 := rfl
                      have t_368 : (M362.2.1 77 4).toInt = (2 : Int32).toInt := congrArg Int32.toInt c_366
                      have c_369 : M362.2.1 77 5 = (M207.2.1 77 10) := (W_e W361)
                      have t_370 : (M362.2.1 77 5).toInt = (M207.2.1 77 10).toInt := congrArg Int32.toInt c_369
                      exact h (0 : Int32) M362 hG363 F364 (by decide) (by decide) j_365 (fun _ => pinl (by omega) (by omega) (xf_42 (show x_fL t nn sg (x_ns t nn a) by unfold x_fL x_fN; omega) (by omega) (fun h8 => by unfold x_fR at h8; omega))) (fun z => absurd z (by decide)) (by omega)
                · refine to_an (pc := 169) rw_170_169 rfl (to_c (pc := 170) rw_170_170 (x := (3 : Int32)) rfl rfl (s_v (pc := 171) rw_170_171 (dp0 hd (by decide)) (ls0 := [.ref 77, .int (3 : Int32)]) rfl (Nat.le_of_ble_eq_true rfl) (Nat.le_of_ble_eq_true rfl) rfl (to_rc rfl rfl rfl (g_o hG181 rfl)) rfl (to_an (pc := 0) rw_152_0 rfl (to_in (pc := 1) rw_152_1 rfl (s_pI (pc := 2) rw_152_2 hG181 rfl (fun M372 W371 => ?_))))))
                  have hG373 := g_wf hG181 W371 rfl rfl (by decide)
                  have F374 := FR.w F184 W371 (show 77 = 77 ∧ (4 = 4 ∨ 4 = 5 ∨ 7 ≤ 4 ∧ 4 ≤ 10 ∨ 4 = 15 ∨ 4 = 25) ∨ 80 ≤ 77 ∧ 77 ≤ 84 ∧ 8 ≤ 4 by decide)
                  refine to_an (pc := 5) rw_152_5 rfl (to_an (pc := 6) rw_152_6 rfl ?_)
                  have c_375 : M372.2.1 77 10 = (M136.2.1 77 10) := (W_n W371 (by decide) (F_n F180 (show ¬ (77 < 0) by decide) (F_n F156 (show ¬ (77 = 77 ∧ (10 = 4 ∨ 10 = 5)) by decide) rfl)))
                  refine tt_gI (pc := 7) rw_152_7 (g_o hG373 rfl) (v := (M136.2.1 77 10)) c_375 (s_pI (pc := 10) rw_152_10 hG373 rfl (fun M377 W376 => ?_))
                  have hG378 := g_wf hG373 W376 rfl rfl (by decide)
                  have F379 := FR.w F374 W376 (show 77 = 77 ∧ (5 = 4 ∨ 5 = 5 ∨ 7 ≤ 5 ∧ 5 ≤ 10 ∨ 5 = 15 ∨ 5 = 25) ∨ 80 ≤ 77 ∧ 77 ≤ 84 ∧ 8 ≤ 5 by decide)
                  refine to_c (pc := 13) rw_152_13 (x := (0 : Int32)) rfl rfl (s_r1 (pc := 14) rw_152_14 (A := 0) rfl (by decide) (s_r1 (pc := 174) rw_170_174 (A := 0) rfl (by decide) ?_))
                  have j_380 := (RS_f (fun a i z => W_n W376 (tg_37 a i z) rfl) (RS_f (fun a i z => W_n W371 (tg_38 a i z) rfl) (RS_f (tg_45 F180) (RS_f (tg_40 F156) p_135.1))))
                  have c_381 : M377.2.1 77 4 = (3 : Int32) := (W_n W376 (by decide) (W_e W371))
                  have k_382 : (3 : Int32).toInt = 3 := rfl
                  have t_383 : (M377.2.1 77 4).toInt = (3 : Int32).toInt := congrArg Int32.toInt c_381
                  have c_384 : M377.2.1 77 5 = (M136.2.1 77 10) := (W_e W376)
                  have t_385 : (M377.2.1 77 5).toInt = (M136.2.1 77 10).toInt := congrArg Int32.toInt c_384
                  exact h (0 : Int32) M377 hG378 F379 (by decide) (by decide) j_380 (fun _ => pinl (by omega) (by omega) (xf_33l (show x_fN t nn sg (x_ns t nn a) by unfold x_fN; omega) (by omega) (by omega) (by omega))) (fun z => absurd z (by decide)) (by omega)
            · refine to_in (pc := 91) rw_170_91 rfl (to_c (pc := 92) rw_170_92 (x := (3 : Int32)) rfl rfl (b_cne (pc := 93) rw_170_93 (A := v125.toInt) (B := 3) rfl rfl (fun h386 => ?_) (fun h386 => ?_)))
              · refine to_c (pc := 100) rw_170_100 (x := (0 : Int32)) rfl rfl (to_is (pc := 101) rw_170_101 (ls2 := [.ref 77, .int v61, .int (M25.2.1 77 9), .int v125, .int (0 : Int32), .null, .null, .null, .null]) rfl rfl (to_in (pc := 103) rw_170_103 rfl (to_c (pc := 104) rw_170_104 (x := (1 : Int32)) rfl rfl (b_cne (pc := 105) rw_170_105 (A := v125.toInt) (B := 1) rfl rfl (fun h387 => ?_) (fun h387 => ?_)))))
                · refine to_in (pc := 112) rw_170_112 rfl (to_c (pc := 113) rw_170_113 (x := (2 : Int32)) rfl rfl (b_cne_f (pc := 114) rw_170_114 (A := v125.toInt) (B := 2) rfl rfl (by omega) (to_c (pc := 117) rw_170_117 (x := (4 : Int32)) rfl rfl (to_go (pc := 118) rw_170_118 (to_is (pc := 122) rw_170_122 (ls2 := [.ref 77, .int v61, .int (M25.2.1 77 9), .int v125, .int (0 : Int32), .int (4 : Int32), .null, .null, .null]) rfl rfl (to_an (pc := 124) rw_170_124 rfl (to_c (pc := 125) rw_170_125 (x := (0 : Int32)) rfl rfl (to_an (pc := 126) rw_170_126 rfl ?_))))))))
                  have c_388 : M136.2.1 77 14 = (M.2.1 77 14) := (F_n F130 (show ¬ (77 = 77 ∧ 7 ≤ 14 ∧ 14 ≤ 10) by decide) (F_n F74 (show ¬ (77 = 77 ∧ 7 ≤ 14 ∧ 14 ≤ 10) by decide) (F_n F39 (show ¬ (77 = 77 ∧ (14 = 4 ∨ 14 = 5)) by decide) (F_n F19 (show ¬ (77 = 77 ∧ 7 ≤ 14 ∧ 14 ≤ 10) by decide) rfl))))
                  refine tt_gI (pc := 127) rw_170_127 (g_o hG131 rfl) (v := (M.2.1 77 14)) c_388 (to_c (pc := 130) rw_170_130 (x := (1 : Int32)) rfl rfl (s_sub (pc := 131) rw_170_131 (A := (M.2.1 77 14).toInt) (B := 1) rfl rfl (by omega) (fun v389 e390 => to_i (pc := 132) rw_170_132 rfl (s_sub (pc := 134) rw_170_134 (A := v389.toInt) (B := 4) rfl rfl (by omega) (fun v391 e392 => s_v (pc := 135) rw_170_135 (dp0 hd (by decide)) (ls0 := [.ref 77, .int (0 : Int32), .int v391]) rfl (Nat.le_of_ble_eq_true rfl) (Nat.le_of_ble_eq_true rfl) rfl (to_rc rfl rfl rfl (g_o hG131 rfl)) rfl ?_)))))
                  have k_393 : (0 : Int32).toInt = 0 := rfl
                  have c_394 : M136.2.1 77 4 = (M49.2.1 77 4) := (F_n F130 (show ¬ (77 = 77 ∧ 7 ≤ 4 ∧ 4 ≤ 10) by decide) (F_n F74 (show ¬ (77 = 77 ∧ 7 ≤ 4 ∧ 4 ≤ 10) by decide) rfl))
                  have t_395 : (M136.2.1 77 4).toInt = (M49.2.1 77 4).toInt := congrArg Int32.toInt c_394
                  have c_396 : M136.2.1 77 5 = (M49.2.1 77 5) := (F_n F130 (show ¬ (77 = 77 ∧ 7 ≤ 5 ∧ 5 ≤ 10) by decide) (F_n F74 (show ¬ (77 = 77 ∧ 7 ≤ 5 ∧ 5 ≤ 10) by decide) rfl))
                  have t_397 : (M136.2.1 77 5).toInt = (M49.2.1 77 5).toInt := congrArg Int32.toInt c_396
                  refine E_162 hX (dp1 hd (by decide)) hG131 p_135.1 (by omega) (by omega) (l := (0 : Int32)) (m := v391) (t := t) (nn := nn) (a := (x_ns t nn (x_ns t nn (x_ns t nn a)))) (fun r398 M408 hG400 F399 p_401 p_402 p_403 p_404 p_405 p_406 p_407 => ?_)
                  have F409 := FR.c F137 F399 tg_50
                  rcases (show r398.toInt = 0 ∨ r398.toInt = 1 by omega) with h410 | h410
                  · skip
                    have p_411 := p_404 (by omega)
                    have p_412 := p_405 (by omega)
                    have p_413 := p_406 (by omega)
                    clear p_403 p_404 p_405 p_406 p_407
                    have z_414 := x_val_b (t := t) (nn := nn) (a := (x_ns t nn (x_ns t nn (x_ns t nn a))))
                    refine b_ine_f (pc := 138) rw_170_138 (A := r398.toInt) rfl (by omega) (to_c (pc := 141) rw_170_141 (x := (0 : Int32)) rfl rfl (s_r1 (pc := 142) rw_170_142 (A := 0) rfl (by decide) ?_))
                    have j_415 := (RS_f (tg_40 F399) p_135.1)
                    exact h (0 : Int32) M408 hG400 F409 (by decide) (by decide) j_415 (fun _ => (if g9 : x_kind t nn (x_ns t nn (x_ns t nn (x_ns t nn a))) = 3 then pinl (by have z9 := p_413.1 g9; omega) (by omega) (xf_32 (show x_fN t nn sg (x_ns t nn a) by unfold x_fN; omega) (by omega) g9 (by omega)) else pinl (by have z9 := p_413.2 g9; omega) (by omega) (xf_31 (show x_fN t nn sg (x_ns t nn a) by unfold x_fN; omega) (by omega) g9))) (fun z => absurd z (by decide)) (by omega)
                  · skip
                    have p_416 := p_403 (by omega)
                    have p_417 := p_407 (by omega)
                    clear p_403 p_404 p_405 p_406 p_407
                    have c_418 : M408.2.1 77 9 = (M136.2.1 77 9) := (F_n F399 (show ¬ (77 = 77 ∧ (9 = 4 ∨ 9 = 5)) by decide) rfl)
                    have z_419 := x_val_b (t := t) (nn := nn) (a := (x_ns t nn (x_ns t nn (x_ns t nn a)))) (by omega)
                    refine b_ine_t (pc := 138) rw_170_138 (A := r398.toInt) rfl (by omega) (to_an (pc := 143) rw_170_143 rfl (tt_gI (pc := 144) rw_170_144 (g_o hG400 rfl) (v := (M136.2.1 77 9)) c_418 (to_is (pc := 147) rw_170_147 (ls2 := [.ref 77, .int v61, .int (M25.2.1 77 9), .int v125, .int (0 : Int32), .int (4 : Int32), .int (M136.2.1 77 9), .null, .null]) rfl rfl (to_an (pc := 149) rw_170_149 rfl (tt_gJ (pc := 150) rw_170_150 (g_o hG400 rfl) (v := (M.2.2.1 77 25)) (F_nl F399 (show ¬ (77 = 77 ∧ (25 = 4 ∨ 25 = 5)) by decide) (F_nl F130 (show ¬ (77 = 77 ∧ 7 ≤ 25 ∧ 25 ≤ 10) by decide) (F_nl F74 (show ¬ (77 = 77 ∧ 7 ≤ 25 ∧ 25 ≤ 10) by decide) (F_nl F39 (show ¬ (77 = 77 ∧ (25 = 4 ∨ 25 = 5)) by decide) (F_nl F19 (show ¬ (77 = 77 ∧ 7 ≤ 25 ∧ 25 ≤ 10) by decide) rfl))))) (to_i (pc := 153) rw_170_153 rfl (to_i (pc := 155) rw_170_155 rfl (to_i (pc := 157) rw_170_157 rfl (s_add (pc := 159) rw_170_159 (A := (M136.2.1 77 9).toInt) (B := 4) rfl rfl (by omega) (fun v420 e421 => s_s (pc := 160) rw_170_160 (dp0 hd (by decide)) (ls0 := [.int (M136.2.1 77 9), .int v420, .null, .null, .null]) rfl (Nat.le_of_ble_eq_true rfl) (Nat.le_of_ble_eq_true rfl) rfl (to_rcs rfl rfl) rfl (E_168 hX (dp1 hd (by decide)) hG400 (by omega) (by omega) (by omega) (by omega) (by omega) (a := (M136.2.1 77 9)) (b := v420) (fun r422 M426 hG424 F423 p_425 => ?_))))))))))))
                    have F427 := FR.c F409 F423 tg_51
                    refine to_2l (pc := 163) rw_170_163 (v := ((M.2.2.1 77 25) &&& r422)) rfl (to_cl (pc := 164) rw_170_164 rfl (x := (0 : Int64)) rfl (s_lcmpE (pc := 165) rw_170_165 (fun v428 e429 => ?_)))
                    have b_430 := x_eq_b (x := ((M.2.2.1 77 25) &&& r422)) (y := (0 : Int64))
                    have z_431 := x_free_r q7 p_425
                    have z_432 := x_free_v (s := sg) (f := (M136.2.1 77 9).toInt) (l := v420.toInt) (f2 := (x_val t nn (x_ns t nn (x_ns t nn (x_ns t nn a))))) (l2 := ((x_val t nn (x_ns t nn (x_ns t nn (x_ns t nn a)))) + ((x_kx (x_val t nn (x_ns t nn (x_ns t nn a)))) - 1))) (by omega) (by omega)
                    refine b_ieq (pc := 166) rw_170_166 (A := v428.toInt) rfl (fun h433 => ?_) (fun h433 => ?_)
                    · refine to_an (pc := 175) rw_170_175 rfl (s_v (pc := 176) rw_170_176 (dp0 hd (by decide)) (ls0 := [.ref 77]) rfl (Nat.le_of_ble_eq_true rfl) (Nat.le_of_ble_eq_true rfl) rfl (to_rc rfl rfl rfl (g_o hG424 rfl)) rfl ?_)
                      have c_434 : M426.2.1 77 7 = (M136.2.1 77 7) := (F_n F423 (show ¬ (77 < 0) by decide) (F_n F399 (show ¬ (77 = 77 ∧ (7 = 4 ∨ 7 = 5)) by decide) rfl))
                      have t_435 : (M426.2.1 77 7).toInt = (M136.2.1 77 7).toInt := congrArg Int32.toInt c_434
                      have c_436 : M426.2.1 77 6 = (M.2.1 77 6) := (F_n F423 (show ¬ (77 < 0) by decide) (F_n F399 (show ¬ (77 = 77 ∧ (6 = 4 ∨ 6 = 5)) by decide) c_139))
                      have t_437 : (M426.2.1 77 6).toInt = (M.2.1 77 6).toInt := congrArg Int32.toInt c_436
                      have c_438 : M426.2.1 77 10 = (M136.2.1 77 10) := (F_n F423 (show ¬ (77 < 0) by decide) (F_n F399 (show ¬ (77 = 77 ∧ (10 = 4 ∨ 10 = 5)) by decide) rfl))
                      have t_439 : (M426.2.1 77 10).toInt = (M136.2.1 77 10).toInt := congrArg Int32.toInt c_438
                      have j_440 := (RS_f (tg_45 F423) (RS_f (tg_40 F399) p_135.1))
                      have z_441 := RS_b j_440 (a := (x_ns t nn (x_ns t nn (x_ns t nn a)))) (by omega)
                      have j_442 := (TR_f (tg_9 F423) (TR_f (tg_41 F399) (TR_f (tg_42 F130) j_128)))
                      have j_443 := (W9_f (tg_46 F423) (W9_f (tg_43 F399) (W9_f (tg_44 F130) j_129)))
                      refine E_156 hX (dp1 hd (by decide)) hG424 (by omega) (by omega) (by omega) (by omega) j_442 j_443  (fun M450 hG445 F444 p_446 p_447 p_448 p_449 => ?_)
                      have F451 := FR.c F427 F444 tg_49
                      have b_452 := g_b hG445 (a := 77) (i := 7) (lo := 0) (hi := 500) rfl rfl
                      have c_453 : M450.2.1 77 6 = (M.2.1 77 6) := (F_n F444 (show ¬ (77 = 77 ∧ 7 ≤ 6 ∧ 6 ≤ 10) by decide) c_436)
                      have t_454 : (M450.2.1 77 6).toInt = (M.2.1 77 6).toInt := congrArg Int32.toInt c_453
                      have b_455 := g_b hG445 (a := 77) (i := 8) (lo := 0) (hi := 5) rfl rfl
                      have b_456 := g_b hG445 (a := 77) (i := 10) (lo := 0) (hi := 500) rfl rfl
                      have z_457 := RS_s p_449.2 (a := (x_ns t nn (x_ns t nn (x_ns t nn a)))) (by omega)
                      refine to_i (pc := 179) rw_170_179 rfl (to_i (pc := 181) rw_170_181 rfl (s_add (pc := 183) rw_170_183 (A := (M136.2.1 77 9).toInt) (B := 4) rfl rfl (by omega) (fun v458 e459 => to_is (pc := 184) rw_170_184 (ls2 := [.ref 77, .int v61, .int (M25.2.1 77 9), .int v125, .int (0 : Int32), .int (4 : Int32), .int (M136.2.1 77 9), .int v458, .null]) rfl rfl (to_c (pc := 186) rw_170_186 (x := (10 : Int32)) rfl rfl (to_is (pc := 188) rw_170_188 (ls2 := [.ref 77, .int v61, .int (M25.2.1 77 9), .int v125, .int (0 : Int32), .int (4 : Int32), .int (M136.2.1 77 9), .int v458, .int (10 : Int32)]) rfl rfl (to_i (pc := 190) rw_170_190 rfl (b_ieq_t (pc := 192) rw_170_192 (A := 0) rfl (by decide) (to_an (pc := 318) rw_170_318 rfl (to_dupr (pc := 319) rw_170_319 (tt_gJ (pc := 320) rw_170_320 (g_o hG445 rfl) (v := (M.2.2.1 77 25)) (F_nl F444 (show ¬ (77 = 77 ∧ 7 ≤ 25 ∧ 25 ≤ 10) by decide) (F_nl F423 (show ¬ (77 < 0) by decide) (F_nl F399 (show ¬ (77 = 77 ∧ (25 = 4 ∨ 25 = 5)) by decide) (F_nl F130 (show ¬ (77 = 77 ∧ 7 ≤ 25 ∧ 25 ≤ 10) by decide) (F_nl F74 (show ¬ (77 = 77 ∧ 7 ≤ 25 ∧ 25 ≤ 10) by decide) (F_nl F39 (show ¬ (77 = 77 ∧ (25 = 4 ∨ 25 = 5)) by decide) (F_nl F19 (show ¬ (77 = 77 ∧ 7 ≤ 25 ∧ 25 ≤ 10) by decide) rfl))))))) (to_i (pc := 323) rw_170_323 rfl ?_)))))))))))
                      refine to_i (pc := 325) rw_170_325 rfl (s_s (pc := 327) rw_170_327 (dp0 hd (by decide)) (ls0 := [.int (M136.2.1 77 9), .int v458, .null, .null, .null]) rfl (Nat.le_of_ble_eq_true rfl) (Nat.le_of_ble_eq_true rfl) rfl (to_rcs rfl rfl) rfl (E_168 hX (dp1 hd (by decide)) hG445 (by omega) (by omega) (by omega) (by omega) (by omega) (a := (M136.2.1 77 9)) (b := v458) (fun r460 M464 hG462 F461 p_463 => ?_)))
                      have F465 := FR.c F451 F461 tg_51
                      refine to_2l (pc := 330) rw_170_330 (v := ((M.2.2.1 77 25) ||| r460)) rfl ?_
                      have j_466 := (PLr_f (tg_47 F461) (F_nl F461 (show ¬ (77 < 0) by decide) rfl) (PLr_f (tg_39 F444) (F_nl F444 (show ¬ (77 = 77 ∧ 7 ≤ 25 ∧ 25 ≤ 10) by decide) rfl) (PLr_f (tg_47 F423) (F_nl F423 (show ¬ (77 < 0) by decide) rfl) (PLr_f (tg_48 F399) (F_nl F399 (show ¬ (77 = 77 ∧ (25 = 4 ∨ 25 = 5)) by decide) rfl) (PLr_f (tg_39 F130) (F_nl F130 (show ¬ (77 = 77 ∧ 7 ≤ 25 ∧ 25 ≤ 10) by decide) rfl) (PLr_f (tg_39 F74) (F_nl F74 (show ¬ (77 = 77 ∧ 7 ≤ 25 ∧ 25 ≤ 10) by decide) rfl) (PLr_f (tg_48 F39) (F_nl F39 (show ¬ (77 = 77 ∧ (25 = 4 ∨ 25 = 5)) by decide) rfl) j_37)))))))
                      refine s_pJ (pc := 331) rw_170_331 hG462 rfl (fun M468 W467 => ?_)
                      have hG469 := g_wl hG462 W467
                      have F470 := FR.wl F465 W467 (show 77 = 77 ∧ (25 = 4 ∨ 25 = 5 ∨ 7 ≤ 25 ∧ 25 ≤ 10 ∨ 25 = 15 ∨ 25 = 25) ∨ 80 ≤ 77 ∧ 77 ≤ 84 ∧ 8 ≤ 25 by decide)
                      refine to_an (pc := 334) rw_170_334 rfl (s_gR (pc := 335) rw_170_335 hG469 rfl (v := 80) rfl (to_in (pc := 338) rw_170_338 rfl (to_in (pc := 339) rw_170_339 rfl (s_ias (pc := 340) rw_170_340 hG469 rfl (n := 16) rfl (A := v61.toInt) rfl (by omega) (by omega) (fun M472 W471 => ?_)))))
                      have hG473 := g_wf hG469 W471 rfl rfl (by decide)
                      have F474 := FR.w F470 W471 (show 80 = 77 ∧ ((v61.toInt).toNat = 4 ∨ (v61.toInt).toNat = 5 ∨ 7 ≤ (v61.toInt).toNat ∧ (v61.toInt).toNat ≤ 10 ∨ (v61.toInt).toNat = 15 ∨ (v61.toInt).toNat = 25) ∨ 80 ≤ 80 ∧ 80 ≤ 84 ∧ 8 ≤ (v61.toInt).toNat by omega)
                      refine to_an (pc := 341) rw_170_341 rfl (s_gR (pc := 342) rw_170_342 hG473 rfl (v := 81) rfl (to_in (pc := 345) rw_170_345 rfl (to_in (pc := 346) rw_170_346 rfl (s_ias (pc := 347) rw_170_347 hG473 rfl (n := 16) rfl (A := v61.toInt) rfl (by omega) (by omega) (fun M476 W475 => ?_)))))
                      have hG477 := g_w hG473 W475 (A := v125.toInt) rfl (lo := 0) (hi := 3) rfl rfl (by omega) (by decide)
                      have F478 := FR.w F474 W475 (show 81 = 77 ∧ ((v61.toInt).toNat = 4 ∨ (v61.toInt).toNat = 5 ∨ 7 ≤ (v61.toInt).toNat ∧ (v61.toInt).toNat ≤ 10 ∨ (v61.toInt).toNat = 15 ∨ (v61.toInt).toNat = 25) ∨ 80 ≤ 81 ∧ 81 ≤ 84 ∧ 8 ≤ (v61.toInt).toNat by omega)
                      refine to_an (pc := 348) rw_170_348 rfl (s_gR (pc := 349) rw_170_349 hG477 rfl (v := 82) rfl (to_in (pc := 352) rw_170_352 rfl (to_i (pc := 353) rw_170_353 rfl (s_ias (pc := 355) rw_170_355 hG477 rfl (n := 16) rfl (A := v61.toInt) rfl (by omega) (by omega) (fun M480 W479 => ?_)))))
                      have hG481 := g_w hG477 W479 (A := (M136.2.1 77 9).toInt) rfl (lo := 0) (hi := 59) rfl rfl (by omega) (by decide)
                      have F482 := FR.w F478 W479 (show 82 = 77 ∧ ((v61.toInt).toNat = 4 ∨ (v61.toInt).toNat = 5 ∨ 7 ≤ (v61.toInt).toNat ∧ (v61.toInt).toNat ≤ 10 ∨ (v61.toInt).toNat = 15 ∨ (v61.toInt).toNat = 25) ∨ 80 ≤ 82 ∧ 82 ≤ 84 ∧ 8 ≤ (v61.toInt).toNat by omega)
                      refine to_an (pc := 356) rw_170_356 rfl (s_gR (pc := 357) rw_170_357 hG481 rfl (v := 83) rfl (to_in (pc := 360) rw_170_360 rfl (to_i (pc := 361) rw_170_361 rfl (s_ias (pc := 363) rw_170_363 hG481 rfl (n := 16) rfl (A := v61.toInt) rfl (by omega) (by omega) (fun M484 W483 => ?_)))))
                      have hG485 := g_w hG481 W483 (A := v458.toInt) rfl (lo := 0) (hi := 63) rfl rfl (by omega) (by decide)
                      have F486 := FR.w F482 W483 (show 83 = 77 ∧ ((v61.toInt).toNat = 4 ∨ (v61.toInt).toNat = 5 ∨ 7 ≤ (v61.toInt).toNat ∧ (v61.toInt).toNat ≤ 10 ∨ (v61.toInt).toNat = 15 ∨ (v61.toInt).toNat = 25) ∨ 80 ≤ 83 ∧ 83 ≤ 84 ∧ 8 ≤ (v61.toInt).toNat by omega)
                      refine to_an (pc := 364) rw_170_364 rfl (s_gR (pc := 365) rw_170_365 hG485 rfl (v := 84) rfl (to_in (pc := 368) rw_170_368 rfl (to_i (pc := 369) rw_170_369 rfl (s_ias (pc := 371) rw_170_371 hG485 rfl (n := 16) rfl (A := v61.toInt) rfl (by omega) (by omega) (fun M488 W487 => ?_)))))
                      have hG489 := g_w hG485 W487 (A := 10) rfl (lo := 0) (hi := 24) rfl rfl (by omega) (by decide)
                      have F490 := FR.w F486 W487 (show 84 = 77 ∧ ((v61.toInt).toNat = 4 ∨ (v61.toInt).toNat = 5 ∨ 7 ≤ (v61.toInt).toNat ∧ (v61.toInt).toNat ≤ 10 ∨ (v61.toInt).toNat = 15 ∨ (v61.toInt).toNat = 25) ∨ 80 ≤ 84 ∧ 84 ≤ 84 ∧ 8 ≤ (v61.toInt).toNat by omega)
                      refine to_an (pc := 372) rw_170_372 rfl (to_dupr (pc := 373) rw_170_373 ?_)
                      have c_491 : M488.2.1 77 15 = (M.2.1 77 15) := (W_n W487 (fun z => absurd z.1 (by decide)) (W_n W483 (fun z => absurd z.1 (by decide)) (W_n W479 (fun z => absurd z.1 (by decide)) (W_n W475 (fun z => absurd z.1 (by decide)) (W_n W471 (fun z => absurd z.1 (by decide)) (W_l W467 (F_n F461 (show ¬ (77 < 0) by decide) (F_n F444 (show ¬ (77 = 77 ∧ 7 ≤ 15 ∧ 15 ≤ 10) by decide) (F_n F423 (show ¬ (77 < 0) by decide) (F_n F399 (show ¬ (77 = 77 ∧ (15 = 4 ∨ 15 = 5)) by decide) (F_n F130 (show ¬ (77 = 77 ∧ 7 ≤ 15 ∧ 15 ≤ 10) by decide) (F_n F74 (show ¬ (77 = 77 ∧ 7 ≤ 15 ∧ 15 ≤ 10) by decide) c_60))))))))))))
                      refine tt_gI (pc := 374) rw_170_374 (g_o hG489 rfl) (v := (M.2.1 77 15)) c_491 (to_c (pc := 377) rw_170_377 (x := (1 : Int32)) rfl rfl (s_add (pc := 378) rw_170_378 (A := (M.2.1 77 15).toInt) (B := 1) rfl rfl (by omega) (fun v492 e493 => s_pI (pc := 379) rw_170_379 hG489 rfl (fun M495 W494 => ?_))))
                      have hG496 := g_w hG489 W494 (A := v492.toInt) rfl (lo := 0) (hi := 8) rfl rfl (by omega) (by decide)
                      have F497 := FR.w F490 W494 (show 77 = 77 ∧ (15 = 4 ∨ 15 = 5 ∨ 7 ≤ 15 ∧ 15 ≤ 10 ∨ 15 = 15 ∨ 15 = 25) ∨ 80 ≤ 77 ∧ 77 ≤ 84 ∧ 8 ≤ 15 by decide)
                      refine to_c (pc := 382) rw_170_382 (x := (1 : Int32)) rfl rfl (s_r1 (pc := 383) rw_170_383 (A := 1) rfl (by decide) ?_)
                      have k_498 : (1 : Int32).toInt = 1 := rfl
                      have j_499 := (RS_f (fun a i z => W_n W494 (tg_52 a i z) rfl) (RS_f (fun a i z => W_n W487 (tg_53 a i _ z) rfl) (RS_f (fun a i z => W_n W483 (tg_54 a i _ z) rfl) (RS_f (fun a i z => W_n W479 (tg_55 a i _ z) rfl) (RS_f (fun a i z => W_n W475 (tg_56 a i _ z) rfl) (RS_f (fun a i z => W_n W471 (tg_57 a i _ z) rfl) (RS_f (fun a i z => W_l W467 rfl) (RS_f (tg_45 F461) p_449.1))))))))
                      have c_500 : M495.2.1 77 10 = (M450.2.1 77 10) := (W_n W494 (by decide) (W_n W487 (fun z => absurd z.1 (by decide)) (W_n W483 (fun z => absurd z.1 (by decide)) (W_n W479 (fun z => absurd z.1 (by decide)) (W_n W475 (fun z => absurd z.1 (by decide)) (W_n W471 (fun z => absurd z.1 (by decide)) (W_l W467 (F_n F461 (show ¬ (77 < 0) by decide) rfl))))))))
                      have t_501 : (M495.2.1 77 10).toInt = (M450.2.1 77 10).toInt := congrArg Int32.toInt c_500
                      have z_502 : x_fC t nn sg (x_ns t nn a) := by unfold x_fC; omega
                      have k_503 : (10 : Int32).toInt = 10 := rfl
                      have z_504 := (x_or_r q7 (p_463.trans (x_bw_v (by omega) (by omega))) : _ = _ ||| x_bw (x_val t nn (x_ns t nn (x_ns t nn (x_ns t nn a)))) ((x_val t nn (x_ns t nn (x_ns t nn (x_ns t nn a)))) + ((x_kx (x_val t nn (x_ns t nn (x_ns t nn a)))) - 1)))
                      have z_505 := PLr_p (nm := (x_val t nn (x_ns t nn a))) (kd := ((x_kx (x_val t nn (x_ns t nn (x_ns t nn a)))) - 3)) (f := (x_val t nn (x_ns t nn (x_ns t nn (x_ns t nn a))))) (l := ((x_val t nn (x_ns t nn (x_ns t nn (x_ns t nn a)))) + ((x_kx (x_val t nn (x_ns t nn (x_ns t nn a)))) - 1))) (c := 10) j_466 W467 W471 W475 W479 W483 W487 W494 (by omega) z_504 (by omega) (by omega) (by omega) (by omega) (by omega) (by omega) (by omega) (by omega) (by omega) (by omega) (by omega)
                      have j_506 := (CWr_f (fun k hk9 => W_j W494 rfl) (CWr_f (fun k hk9 => W_j W487 rfl) (CWr_f (fun k hk9 => W_j W483 rfl) (CWr_f (fun k hk9 => W_j W479 rfl) (CWr_f (fun k hk9 => W_j W475 rfl) (CWr_f (fun k hk9 => W_j W471 rfl) (CWr_f (fun k hk9 => L_n W467 (by omega) rfl) (CWr_f (fun k hk9 => F_nl F461 (show ¬ (87 < 0) by decide) rfl) (CWr_f (fun k hk9 => F_nl F444 (show ¬ (87 = 77 ∧ 7 ≤ (12 + k) ∧ (12 + k) ≤ 10) by omega) rfl) (CWr_f (fun k hk9 => F_nl F423 (show ¬ (87 < 0) by decide) rfl) (CWr_f (fun k hk9 => F_nl F399 (show ¬ (87 = 77 ∧ ((12 + k) = 4 ∨ (12 + k) = 5)) by omega) rfl) (CWr_f (fun k hk9 => F_nl F130 (show ¬ (87 = 77 ∧ 7 ≤ (12 + k) ∧ (12 + k) ≤ 10) by omega) rfl) (CWr_f (fun k hk9 => F_nl F74 (show ¬ (87 = 77 ∧ 7 ≤ (12 + k) ∧ (12 + k) ≤ 10) by omega) rfl) (CWr_f (fun k hk9 => F_nl F39 (show ¬ (87 = 77 ∧ ((12 + k) = 4 ∨ (12 + k) = 5)) by omega) rfl) (CWr_f (fun k hk9 => F_nl F19 (show ¬ (87 = 77 ∧ 7 ≤ (12 + k) ∧ (12 + k) ≤ 10) by omega) rfl) q8)))))))))))))))
                      have c_507 : M495.2.1 77 4 = (M408.2.1 77 4) := (W_n W494 (by decide) (W_n W487 (fun z => absurd z.1 (by decide)) (W_n W483 (fun z => absurd z.1 (by decide)) (W_n W479 (fun z => absurd z.1 (by decide)) (W_n W475 (fun z => absurd z.1 (by decide)) (W_n W471 (fun z => absurd z.1 (by decide)) (W_l W467 (F_n F461 (show ¬ (77 < 0) by decide) (F_n F444 (show ¬ (77 = 77 ∧ 7 ≤ 4 ∧ 4 ≤ 10) by decide) (F_n F423 (show ¬ (77 < 0) by decide) rfl))))))))))
                      have t_508 : (M495.2.1 77 4).toInt = (M408.2.1 77 4).toInt := congrArg Int32.toInt c_507
                      have c_509 : M495.2.1 77 5 = (M408.2.1 77 5) := (W_n W494 (by decide) (W_n W487 (fun z => absurd z.1 (by decide)) (W_n W483 (fun z => absurd z.1 (by decide)) (W_n W479 (fun z => absurd z.1 (by decide)) (W_n W475 (fun z => absurd z.1 (by decide)) (W_n W471 (fun z => absurd z.1 (by decide)) (W_l W467 (F_n F461 (show ¬ (77 < 0) by decide) (F_n F444 (show ¬ (77 = 77 ∧ 7 ≤ 5 ∧ 5 ≤ 10) by decide) (F_n F423 (show ¬ (77 < 0) by decide) rfl))))))))))
                      have t_510 : (M495.2.1 77 5).toInt = (M408.2.1 77 5).toInt := congrArg Int32.toInt c_509
                      exact h (1 : Int32) M495 hG496 F497 (by decide) (by decide) j_499 (fun z => absurd z (by decide)) (fun _ => ⟨_, (by rw [show (M495.2.1 77 10).toInt = (x_ns t nn (x_ns t nn (x_ns t nn (x_ns t nn a)))) by omega]; exact x_field_d z_502 (by omega)), ⟨z_505, CWr_p j_506⟩, (by show sg.2.1 + 1 + sg.2.2.1 = _; omega)⟩) (by omega)
                    · refine to_an (pc := 169) rw_170_169 rfl (to_c (pc := 170) rw_170_170 (x := (3 : Int32)) rfl rfl (s_v (pc := 171) rw_170_171 (dp0 hd (by decide)) (ls0 := [.ref 77, .int (3 : Int32)]) rfl (Nat.le_of_ble_eq_true rfl) (Nat.le_of_ble_eq_true rfl) rfl (to_rc rfl rfl rfl (g_o hG424 rfl)) rfl (to_an (pc := 0) rw_152_0 rfl (to_in (pc := 1) rw_152_1 rfl (s_pI (pc := 2) rw_152_2 hG424 rfl (fun M512 W511 => ?_))))))
                      have hG513 := g_wf hG424 W511 rfl rfl (by decide)
                      have F514 := FR.w F427 W511 (show 77 = 77 ∧ (4 = 4 ∨ 4 = 5 ∨ 7 ≤ 4 ∧ 4 ≤ 10 ∨ 4 = 15 ∨ 4 = 25) ∨ 80 ≤ 77 ∧ 77 ≤ 84 ∧ 8 ≤ 4 by decide)
                      refine to_an (pc := 5) rw_152_5 rfl (to_an (pc := 6) rw_152_6 rfl ?_)
                      have c_515 : M512.2.1 77 10 = (M136.2.1 77 10) := (W_n W511 (by decide) (F_n F423 (show ¬ (77 < 0) by decide) (F_n F399 (show ¬ (77 = 77 ∧ (10 = 4 ∨ 10 = 5)) by decide) rfl)))
                      refine tt_gI (pc := 7) rw_152_7 (g_o hG513 rfl) (v := (M136.2.1 77 10)) c_515 (s_pI (pc := 10) rw_152_10 hG513 rfl (fun M517 W516 => ?_))
                      have hG518 := g_wf hG513 W516 rfl rfl (by decide)
                      have F519 := FR.w F514 W516 (show 77 = 77 ∧ (5 = 4 ∨ 5 = 5 ∨ 7 ≤ 5 ∧ 5 ≤ 10 ∨ 5 = 15 ∨ 5 = 25) ∨ 80 ≤ 77 ∧ 77 ≤ 84 ∧ 8 ≤ 5 by decide)
                      refine to_c (pc := 13) rw_152_13 (x := (0 : Int32)) rfl rfl (s_r1 (pc := 14) rw_152_14 (A := 0) rfl (by decide) (s_r1 (pc := 174) rw_170_174 (A := 0) rfl (by decide) ?_))
                      have j_520 := (RS_f (fun a i z => W_n W516 (tg_37 a i z) rfl) (RS_f (fun a i z => W_n W511 (tg_38 a i z) rfl) (RS_f (tg_45 F423) (RS_f (tg_40 F399) p_135.1))))
                      have c_521 : M517.2.1 77 4 = (3 : Int32) := (W_n W516 (by decide) (W_e W511))
                      have k_522 : (3 : Int32).toInt = 3 := rfl
                      have t_523 : (M517.2.1 77 4).toInt = (3 : Int32).toInt := congrArg Int32.toInt c_521
                      have c_524 : M517.2.1 77 5 = (M136.2.1 77 10) := (W_e W516)
                      have t_525 : (M517.2.1 77 5).toInt = (M136.2.1 77 10).toInt := congrArg Int32.toInt c_524
                      exact h (0 : Int32) M517 hG518 F519 (by decide) (by decide) j_520 (fun _ => pinl (by omega) (by omega) (xf_33d (show x_fN t nn sg (x_ns t nn a) by unfold x_fN; omega) (by omega) (by omega) (by omega))) (fun z => absurd z (by decide)) (by omega)
                · refine to_c (pc := 108) rw_170_108 (x := (3 : Int32)) rfl rfl (to_go (pc := 109) rw_170_109 (to_is (pc := 122) rw_170_122 (ls2 := [.ref 77, .int v61, .int (M25.2.1 77 9), .int v125, .int (0 : Int32), .int (3 : Int32), .null, .null, .null]) rfl rfl (to_an (pc := 124) rw_170_124 rfl (to_c (pc := 125) rw_170_125 (x := (0 : Int32)) rfl rfl (to_an (pc := 126) rw_170_126 rfl ?_)))))
                  have c_526 : M136.2.1 77 14 = (M.2.1 77 14) := (F_n F130 (show ¬ (77 = 77 ∧ 7 ≤ 14 ∧ 14 ≤ 10) by decide) (F_n F74 (show ¬ (77 = 77 ∧ 7 ≤ 14 ∧ 14 ≤ 10) by decide) (F_n F39 (show ¬ (77 = 77 ∧ (14 = 4 ∨ 14 = 5)) by decide) (F_n F19 (show ¬ (77 = 77 ∧ 7 ≤ 14 ∧ 14 ≤ 10) by decide) rfl))))
                  refine tt_gI (pc := 127) rw_170_127 (g_o hG131 rfl) (v := (M.2.1 77 14)) c_526 (to_c (pc := 130) rw_170_130 (x := (1 : Int32)) rfl rfl (s_sub (pc := 131) rw_170_131 (A := (M.2.1 77 14).toInt) (B := 1) rfl rfl (by omega) (fun v527 e528 => to_i (pc := 132) rw_170_132 rfl (s_sub (pc := 134) rw_170_134 (A := v527.toInt) (B := 3) rfl rfl (by omega) (fun v529 e530 => s_v (pc := 135) rw_170_135 (dp0 hd (by decide)) (ls0 := [.ref 77, .int (0 : Int32), .int v529]) rfl (Nat.le_of_ble_eq_true rfl) (Nat.le_of_ble_eq_true rfl) rfl (to_rc rfl rfl rfl (g_o hG131 rfl)) rfl ?_)))))
                  have k_531 : (0 : Int32).toInt = 0 := rfl
                  have c_532 : M136.2.1 77 4 = (M49.2.1 77 4) := (F_n F130 (show ¬ (77 = 77 ∧ 7 ≤ 4 ∧ 4 ≤ 10) by decide) (F_n F74 (show ¬ (77 = 77 ∧ 7 ≤ 4 ∧ 4 ≤ 10) by decide) rfl))
                  have t_533 : (M136.2.1 77 4).toInt = (M49.2.1 77 4).toInt := congrArg Int32.toInt c_532
                  have c_534 : M136.2.1 77 5 = (M49.2.1 77 5) := (F_n F130 (show ¬ (77 = 77 ∧ 7 ≤ 5 ∧ 5 ≤ 10) by decide) (F_n F74 (show ¬ (77 = 77 ∧ 7 ≤ 5 ∧ 5 ≤ 10) by decide) rfl))
                  have t_535 : (M136.2.1 77 5).toInt = (M49.2.1 77 5).toInt := congrArg Int32.toInt c_534
                  refine E_162 hX (dp1 hd (by decide)) hG131 p_135.1 (by omega) (by omega) (l := (0 : Int32)) (m := v529) (t := t) (nn := nn) (a := (x_ns t nn (x_ns t nn (x_ns t nn a)))) (fun r536 M546 hG538 F537 p_539 p_540 p_541 p_542 p_543 p_544 p_545 => ?_)
                  have F547 := FR.c F137 F537 tg_50
                  rcases (show r536.toInt = 0 ∨ r536.toInt = 1 by omega) with h548 | h548
                  · skip
                    have p_549 := p_542 (by omega)
                    have p_550 := p_543 (by omega)
                    have p_551 := p_544 (by omega)
                    clear p_541 p_542 p_543 p_544 p_545
                    have z_552 := x_val_b (t := t) (nn := nn) (a := (x_ns t nn (x_ns t nn (x_ns t nn a))))
                    refine b_ine_f (pc := 138) rw_170_138 (A := r536.toInt) rfl (by omega) (to_c (pc := 141) rw_170_141 (x := (0 : Int32)) rfl rfl (s_r1 (pc := 142) rw_170_142 (A := 0) rfl (by decide) ?_))
                    have j_553 := (RS_f (tg_40 F537) p_135.1)
                    exact h (0 : Int32) M546 hG538 F547 (by decide) (by decide) j_553 (fun _ => (if g9 : x_kind t nn (x_ns t nn (x_ns t nn (x_ns t nn a))) = 3 then pinl (by have z9 := p_551.1 g9; omega) (by omega) (xf_32 (show x_fN t nn sg (x_ns t nn a) by unfold x_fN; omega) (by omega) g9 (by omega)) else pinl (by have z9 := p_551.2 g9; omega) (by omega) (xf_31 (show x_fN t nn sg (x_ns t nn a) by unfold x_fN; omega) (by omega) g9))) (fun z => absurd z (by decide)) (by omega)
                  · skip
                    have p_554 := p_541 (by omega)
                    have p_555 := p_545 (by omega)
                    clear p_541 p_542 p_543 p_544 p_545
                    have c_556 : M546.2.1 77 9 = (M136.2.1 77 9) := (F_n F537 (show ¬ (77 = 77 ∧ (9 = 4 ∨ 9 = 5)) by decide) rfl)
                    have z_557 := x_val_b (t := t) (nn := nn) (a := (x_ns t nn (x_ns t nn (x_ns t nn a)))) (by omega)
                    refine b_ine_t (pc := 138) rw_170_138 (A := r536.toInt) rfl (by omega) (to_an (pc := 143) rw_170_143 rfl (tt_gI (pc := 144) rw_170_144 (g_o hG538 rfl) (v := (M136.2.1 77 9)) c_556 (to_is (pc := 147) rw_170_147 (ls2 := [.ref 77, .int v61, .int (M25.2.1 77 9), .int v125, .int (0 : Int32), .int (3 : Int32), .int (M136.2.1 77 9), .null, .null]) rfl rfl (to_an (pc := 149) rw_170_149 rfl (tt_gJ (pc := 150) rw_170_150 (g_o hG538 rfl) (v := (M.2.2.1 77 25)) (F_nl F537 (show ¬ (77 = 77 ∧ (25 = 4 ∨ 25 = 5)) by decide) (F_nl F130 (show ¬ (77 = 77 ∧ 7 ≤ 25 ∧ 25 ≤ 10) by decide) (F_nl F74 (show ¬ (77 = 77 ∧ 7 ≤ 25 ∧ 25 ≤ 10) by decide) (F_nl F39 (show ¬ (77 = 77 ∧ (25 = 4 ∨ 25 = 5)) by decide) (F_nl F19 (show ¬ (77 = 77 ∧ 7 ≤ 25 ∧ 25 ≤ 10) by decide) rfl))))) (to_i (pc := 153) rw_170_153 rfl (to_i (pc := 155) rw_170_155 rfl (to_i (pc := 157) rw_170_157 rfl (s_add (pc := 159) rw_170_159 (A := (M136.2.1 77 9).toInt) (B := 3) rfl rfl (by omega) (fun v558 e559 => s_s (pc := 160) rw_170_160 (dp0 hd (by decide)) (ls0 := [.int (M136.2.1 77 9), .int v558, .null, .null, .null]) rfl (Nat.le_of_ble_eq_true rfl) (Nat.le_of_ble_eq_true rfl) rfl (to_rcs rfl rfl) rfl (E_168 hX (dp1 hd (by decide)) hG538 (by omega) (by omega) (by omega) (by omega) (by omega) (a := (M136.2.1 77 9)) (b := v558) (fun r560 M564 hG562 F561 p_563 => ?_))))))))))))
                    have F565 := FR.c F547 F561 tg_51
                    refine to_2l (pc := 163) rw_170_163 (v := ((M.2.2.1 77 25) &&& r560)) rfl (to_cl (pc := 164) rw_170_164 rfl (x := (0 : Int64)) rfl (s_lcmpE (pc := 165) rw_170_165 (fun v566 e567 => ?_)))
                    have b_568 := x_eq_b (x := ((M.2.2.1 77 25) &&& r560)) (y := (0 : Int64))
                    have z_569 := x_free_r q7 p_563
                    have z_570 := x_free_v (s := sg) (f := (M136.2.1 77 9).toInt) (l := v558.toInt) (f2 := (x_val t nn (x_ns t nn (x_ns t nn (x_ns t nn a))))) (l2 := ((x_val t nn (x_ns t nn (x_ns t nn (x_ns t nn a)))) + ((x_kx (x_val t nn (x_ns t nn (x_ns t nn a)))) - 1))) (by omega) (by omega)
                    refine b_ieq (pc := 166) rw_170_166 (A := v566.toInt) rfl (fun h571 => ?_) (fun h571 => ?_)
                    · refine to_an (pc := 175) rw_170_175 rfl (s_v (pc := 176) rw_170_176 (dp0 hd (by decide)) (ls0 := [.ref 77]) rfl (Nat.le_of_ble_eq_true rfl) (Nat.le_of_ble_eq_true rfl) rfl (to_rc rfl rfl rfl (g_o hG562 rfl)) rfl ?_)
                      have c_572 : M564.2.1 77 7 = (M136.2.1 77 7) := (F_n F561 (show ¬ (77 < 0) by decide) (F_n F537 (show ¬ (77 = 77 ∧ (7 = 4 ∨ 7 = 5)) by decide) rfl))
                      have t_573 : (M564.2.1 77 7).toInt = (M136.2.1 77 7).toInt := congrArg Int32.toInt c_572
                      have c_574 : M564.2.1 77 6 = (M.2.1 77 6) := (F_n F561 (show ¬ (77 < 0) by decide) (F_n F537 (show ¬ (77 = 77 ∧ (6 = 4 ∨ 6 = 5)) by decide) c_139))
                      have t_575 : (M564.2.1 77 6).toInt = (M.2.1 77 6).toInt := congrArg Int32.toInt c_574
                      have c_576 : M564.2.1 77 10 = (M136.2.1 77 10) := (F_n F561 (show ¬ (77 < 0) by decide) (F_n F537 (show ¬ (77 = 77 ∧ (10 = 4 ∨ 10 = 5)) by decide) rfl))
                      have t_577 : (M564.2.1 77 10).toInt = (M136.2.1 77 10).toInt := congrArg Int32.toInt c_576
                      have j_578 := (RS_f (tg_45 F561) (RS_f (tg_40 F537) p_135.1))
                      have z_579 := RS_b j_578 (a := (x_ns t nn (x_ns t nn (x_ns t nn a)))) (by omega)
                      have j_580 := (TR_f (tg_9 F561) (TR_f (tg_41 F537) (TR_f (tg_42 F130) j_128)))
                      have j_581 := (W9_f (tg_46 F561) (W9_f (tg_43 F537) (W9_f (tg_44 F130) j_129)))
                      refine E_156 hX (dp1 hd (by decide)) hG562 (by omega) (by omega) (by omega) (by omega) j_580 j_581  (fun M588 hG583 F582 p_584 p_585 p_586 p_587 => ?_)
                      have F589 := FR.c F565 F582 tg_49
                      have b_590 := g_b hG583 (a := 77) (i := 7) (lo := 0) (hi := 500) rfl rfl
                      have c_591 : M588.2.1 77 6 = (M.2.1 77 6) := (F_n F582 (show ¬ (77 = 77 ∧ 7 ≤ 6 ∧ 6 ≤ 10) by decide) c_574)
                      have t_592 : (M588.2.1 77 6).toInt = (M.2.1 77 6).toInt := congrArg Int32.toInt c_591
                      have b_593 := g_b hG583 (a := 77) (i := 8) (lo := 0) (hi := 5) rfl rfl
                      have b_594 := g_b hG583 (a := 77) (i := 10) (lo := 0) (hi := 500) rfl rfl
                      have z_595 := RS_s p_587.2 (a := (x_ns t nn (x_ns t nn (x_ns t nn a)))) (by omega)
                      refine to_i (pc := 179) rw_170_179 rfl (to_i (pc := 181) rw_170_181 rfl (s_add (pc := 183) rw_170_183 (A := (M136.2.1 77 9).toInt) (B := 3) rfl rfl (by omega) (fun v596 e597 => to_is (pc := 184) rw_170_184 (ls2 := [.ref 77, .int v61, .int (M25.2.1 77 9), .int v125, .int (0 : Int32), .int (3 : Int32), .int (M136.2.1 77 9), .int v596, .null]) rfl rfl (to_c (pc := 186) rw_170_186 (x := (10 : Int32)) rfl rfl (to_is (pc := 188) rw_170_188 (ls2 := [.ref 77, .int v61, .int (M25.2.1 77 9), .int v125, .int (0 : Int32), .int (3 : Int32), .int (M136.2.1 77 9), .int v596, .int (10 : Int32)]) rfl rfl (to_i (pc := 190) rw_170_190 rfl (b_ieq_t (pc := 192) rw_170_192 (A := 0) rfl (by decide) (to_an (pc := 318) rw_170_318 rfl (to_dupr (pc := 319) rw_170_319 (tt_gJ (pc := 320) rw_170_320 (g_o hG583 rfl) (v := (M.2.2.1 77 25)) (F_nl F582 (show ¬ (77 = 77 ∧ 7 ≤ 25 ∧ 25 ≤ 10) by decide) (F_nl F561 (show ¬ (77 < 0) by decide) (F_nl F537 (show ¬ (77 = 77 ∧ (25 = 4 ∨ 25 = 5)) by decide) (F_nl F130 (show ¬ (77 = 77 ∧ 7 ≤ 25 ∧ 25 ≤ 10) by decide) (F_nl F74 (show ¬ (77 = 77 ∧ 7 ≤ 25 ∧ 25 ≤ 10) by decide) (F_nl F39 (show ¬ (77 = 77 ∧ (25 = 4 ∨ 25 = 5)) by decide) (F_nl F19 (show ¬ (77 = 77 ∧ 7 ≤ 25 ∧ 25 ≤ 10) by decide) rfl))))))) (to_i (pc := 323) rw_170_323 rfl ?_)))))))))))
                      refine to_i (pc := 325) rw_170_325 rfl (s_s (pc := 327) rw_170_327 (dp0 hd (by decide)) (ls0 := [.int (M136.2.1 77 9), .int v596, .null, .null, .null]) rfl (Nat.le_of_ble_eq_true rfl) (Nat.le_of_ble_eq_true rfl) rfl (to_rcs rfl rfl) rfl (E_168 hX (dp1 hd (by decide)) hG583 (by omega) (by omega) (by omega) (by omega) (by omega) (a := (M136.2.1 77 9)) (b := v596) (fun r598 M602 hG600 F599 p_601 => ?_)))
                      have F603 := FR.c F589 F599 tg_51
                      refine to_2l (pc := 330) rw_170_330 (v := ((M.2.2.1 77 25) ||| r598)) rfl ?_
                      have j_604 := (PLr_f (tg_47 F599) (F_nl F599 (show ¬ (77 < 0) by decide) rfl) (PLr_f (tg_39 F582) (F_nl F582 (show ¬ (77 = 77 ∧ 7 ≤ 25 ∧ 25 ≤ 10) by decide) rfl) (PLr_f (tg_47 F561) (F_nl F561 (show ¬ (77 < 0) by decide) rfl) (PLr_f (tg_48 F537) (F_nl F537 (show ¬ (77 = 77 ∧ (25 = 4 ∨ 25 = 5)) by decide) rfl) (PLr_f (tg_39 F130) (F_nl F130 (show ¬ (77 = 77 ∧ 7 ≤ 25 ∧ 25 ≤ 10) by decide) rfl) (PLr_f (tg_39 F74) (F_nl F74 (show ¬ (77 = 77 ∧ 7 ≤ 25 ∧ 25 ≤ 10) by decide) rfl) (PLr_f (tg_48 F39) (F_nl F39 (show ¬ (77 = 77 ∧ (25 = 4 ∨ 25 = 5)) by decide) rfl) j_37)))))))
                      refine s_pJ (pc := 331) rw_170_331 hG600 rfl (fun M606 W605 => ?_)
                      have hG607 := g_wl hG600 W605
                      have F608 := FR.wl F603 W605 (show 77 = 77 ∧ (25 = 4 ∨ 25 = 5 ∨ 7 ≤ 25 ∧ 25 ≤ 10 ∨ 25 = 15 ∨ 25 = 25) ∨ 80 ≤ 77 ∧ 77 ≤ 84 ∧ 8 ≤ 25 by decide)
                      refine to_an (pc := 334) rw_170_334 rfl (s_gR (pc := 335) rw_170_335 hG607 rfl (v := 80) rfl (to_in (pc := 338) rw_170_338 rfl (to_in (pc := 339) rw_170_339 rfl (s_ias (pc := 340) rw_170_340 hG607 rfl (n := 16) rfl (A := v61.toInt) rfl (by omega) (by omega) (fun M610 W609 => ?_)))))
                      have hG611 := g_wf hG607 W609 rfl rfl (by decide)
                      have F612 := FR.w F608 W609 (show 80 = 77 ∧ ((v61.toInt).toNat = 4 ∨ (v61.toInt).toNat = 5 ∨ 7 ≤ (v61.toInt).toNat ∧ (v61.toInt).toNat ≤ 10 ∨ (v61.toInt).toNat = 15 ∨ (v61.toInt).toNat = 25) ∨ 80 ≤ 80 ∧ 80 ≤ 84 ∧ 8 ≤ (v61.toInt).toNat by omega)
                      refine to_an (pc := 341) rw_170_341 rfl (s_gR (pc := 342) rw_170_342 hG611 rfl (v := 81) rfl (to_in (pc := 345) rw_170_345 rfl (to_in (pc := 346) rw_170_346 rfl (s_ias (pc := 347) rw_170_347 hG611 rfl (n := 16) rfl (A := v61.toInt) rfl (by omega) (by omega) (fun M614 W613 => ?_)))))
                      have hG615 := g_w hG611 W613 (A := v125.toInt) rfl (lo := 0) (hi := 3) rfl rfl (by omega) (by decide)
                      have F616 := FR.w F612 W613 (show 81 = 77 ∧ ((v61.toInt).toNat = 4 ∨ (v61.toInt).toNat = 5 ∨ 7 ≤ (v61.toInt).toNat ∧ (v61.toInt).toNat ≤ 10 ∨ (v61.toInt).toNat = 15 ∨ (v61.toInt).toNat = 25) ∨ 80 ≤ 81 ∧ 81 ≤ 84 ∧ 8 ≤ (v61.toInt).toNat by omega)
                      refine to_an (pc := 348) rw_170_348 rfl (s_gR (pc := 349) rw_170_349 hG615 rfl (v := 82) rfl (to_in (pc := 352) rw_170_352 rfl (to_i (pc := 353) rw_170_353 rfl (s_ias (pc := 355) rw_170_355 hG615 rfl (n := 16) rfl (A := v61.toInt) rfl (by omega) (by omega) (fun M618 W617 => ?_)))))
                      have hG619 := g_w hG615 W617 (A := (M136.2.1 77 9).toInt) rfl (lo := 0) (hi := 59) rfl rfl (by omega) (by decide)
                      have F620 := FR.w F616 W617 (show 82 = 77 ∧ ((v61.toInt).toNat = 4 ∨ (v61.toInt).toNat = 5 ∨ 7 ≤ (v61.toInt).toNat ∧ (v61.toInt).toNat ≤ 10 ∨ (v61.toInt).toNat = 15 ∨ (v61.toInt).toNat = 25) ∨ 80 ≤ 82 ∧ 82 ≤ 84 ∧ 8 ≤ (v61.toInt).toNat by omega)
                      refine to_an (pc := 356) rw_170_356 rfl (s_gR (pc := 357) rw_170_357 hG619 rfl (v := 83) rfl (to_in (pc := 360) rw_170_360 rfl (to_i (pc := 361) rw_170_361 rfl (s_ias (pc := 363) rw_170_363 hG619 rfl (n := 16) rfl (A := v61.toInt) rfl (by omega) (by omega) (fun M622 W621 => ?_)))))
                      have hG623 := g_w hG619 W621 (A := v596.toInt) rfl (lo := 0) (hi := 63) rfl rfl (by omega) (by decide)
                      have F624 := FR.w F620 W621 (show 83 = 77 ∧ ((v61.toInt).toNat = 4 ∨ (v61.toInt).toNat = 5 ∨ 7 ≤ (v61.toInt).toNat ∧ (v61.toInt).toNat ≤ 10 ∨ (v61.toInt).toNat = 15 ∨ (v61.toInt).toNat = 25) ∨ 80 ≤ 83 ∧ 83 ≤ 84 ∧ 8 ≤ (v61.toInt).toNat by omega)
                      refine to_an (pc := 364) rw_170_364 rfl (s_gR (pc := 365) rw_170_365 hG623 rfl (v := 84) rfl (to_in (pc := 368) rw_170_368 rfl (to_i (pc := 369) rw_170_369 rfl (s_ias (pc := 371) rw_170_371 hG623 rfl (n := 16) rfl (A := v61.toInt) rfl (by omega) (by omega) (fun M626 W625 => ?_)))))
                      have hG627 := g_w hG623 W625 (A := 10) rfl (lo := 0) (hi := 24) rfl rfl (by omega) (by decide)
                      have F628 := FR.w F624 W625 (show 84 = 77 ∧ ((v61.toInt).toNat = 4 ∨ (v61.toInt).toNat = 5 ∨ 7 ≤ (v61.toInt).toNat ∧ (v61.toInt).toNat ≤ 10 ∨ (v61.toInt).toNat = 15 ∨ (v61.toInt).toNat = 25) ∨ 80 ≤ 84 ∧ 84 ≤ 84 ∧ 8 ≤ (v61.toInt).toNat by omega)
                      refine to_an (pc := 372) rw_170_372 rfl (to_dupr (pc := 373) rw_170_373 ?_)
                      have c_629 : M626.2.1 77 15 = (M.2.1 77 15) := (W_n W625 (fun z => absurd z.1 (by decide)) (W_n W621 (fun z => absurd z.1 (by decide)) (W_n W617 (fun z => absurd z.1 (by decide)) (W_n W613 (fun z => absurd z.1 (by decide)) (W_n W609 (fun z => absurd z.1 (by decide)) (W_l W605 (F_n F599 (show ¬ (77 < 0) by decide) (F_n F582 (show ¬ (77 = 77 ∧ 7 ≤ 15 ∧ 15 ≤ 10) by decide) (F_n F561 (show ¬ (77 < 0) by decide) (F_n F537 (show ¬ (77 = 77 ∧ (15 = 4 ∨ 15 = 5)) by decide) (F_n F130 (show ¬ (77 = 77 ∧ 7 ≤ 15 ∧ 15 ≤ 10) by decide) (F_n F74 (show ¬ (77 = 77 ∧ 7 ≤ 15 ∧ 15 ≤ 10) by decide) c_60))))))))))))
                      refine tt_gI (pc := 374) rw_170_374 (g_o hG627 rfl) (v := (M.2.1 77 15)) c_629 (to_c (pc := 377) rw_170_377 (x := (1 : Int32)) rfl rfl (s_add (pc := 378) rw_170_378 (A := (M.2.1 77 15).toInt) (B := 1) rfl rfl (by omega) (fun v630 e631 => s_pI (pc := 379) rw_170_379 hG627 rfl (fun M633 W632 => ?_))))
                      have hG634 := g_w hG627 W632 (A := v630.toInt) rfl (lo := 0) (hi := 8) rfl rfl (by omega) (by decide)
                      have F635 := FR.w F628 W632 (show 77 = 77 ∧ (15 = 4 ∨ 15 = 5 ∨ 7 ≤ 15 ∧ 15 ≤ 10 ∨ 15 = 15 ∨ 15 = 25) ∨ 80 ≤ 77 ∧ 77 ≤ 84 ∧ 8 ≤ 15 by decide)
                      refine to_c (pc := 382) rw_170_382 (x := (1 : Int32)) rfl rfl (s_r1 (pc := 383) rw_170_383 (A := 1) rfl (by decide) ?_)
                      have k_636 : (1 : Int32).toInt = 1 := rfl
                      have j_637 := (RS_f (fun a i z => W_n W632 (tg_52 a i z) rfl) (RS_f (fun a i z => W_n W625 (tg_53 a i _ z) rfl) (RS_f (fun a i z => W_n W621 (tg_54 a i _ z) rfl) (RS_f (fun a i z => W_n W617 (tg_55 a i _ z) rfl) (RS_f (fun a i z => W_n W613 (tg_56 a i _ z) rfl) (RS_f (fun a i z => W_n W609 (tg_57 a i _ z) rfl) (RS_f (fun a i z => W_l W605 rfl) (RS_f (tg_45 F599) p_587.1))))))))
                      have c_638 : M633.2.1 77 10 = (M588.2.1 77 10) := (W_n W632 (by decide) (W_n W625 (fun z => absurd z.1 (by decide)) (W_n W621 (fun z => absurd z.1 (by decide)) (W_n W617 (fun z => absurd z.1 (by decide)) (W_n W613 (fun z => absurd z.1 (by decide)) (W_n W609 (fun z => absurd z.1 (by decide)) (W_l W605 (F_n F599 (show ¬ (77 < 0) by decide) rfl))))))))
                      have t_639 : (M633.2.1 77 10).toInt = (M588.2.1 77 10).toInt := congrArg Int32.toInt c_638
                      have z_640 : x_fC t nn sg (x_ns t nn a) := by unfold x_fC; omega
                      have k_641 : (10 : Int32).toInt = 10 := rfl
                      have z_642 := (x_or_r q7 (p_601.trans (x_bw_v (by omega) (by omega))) : _ = _ ||| x_bw (x_val t nn (x_ns t nn (x_ns t nn (x_ns t nn a)))) ((x_val t nn (x_ns t nn (x_ns t nn (x_ns t nn a)))) + ((x_kx (x_val t nn (x_ns t nn (x_ns t nn a)))) - 1)))
                      have z_643 := PLr_p (nm := (x_val t nn (x_ns t nn a))) (kd := ((x_kx (x_val t nn (x_ns t nn (x_ns t nn a)))) - 3)) (f := (x_val t nn (x_ns t nn (x_ns t nn (x_ns t nn a))))) (l := ((x_val t nn (x_ns t nn (x_ns t nn (x_ns t nn a)))) + ((x_kx (x_val t nn (x_ns t nn (x_ns t nn a)))) - 1))) (c := 10) j_604 W605 W609 W613 W617 W621 W625 W632 (by omega) z_642 (by omega) (by omega) (by omega) (by omega) (by omega) (by omega) (by omega) (by omega) (by omega) (by omega) (by omega)
                      have j_644 := (CWr_f (fun k hk9 => W_j W632 rfl) (CWr_f (fun k hk9 => W_j W625 rfl) (CWr_f (fun k hk9 => W_j W621 rfl) (CWr_f (fun k hk9 => W_j W617 rfl) (CWr_f (fun k hk9 => W_j W613 rfl) (CWr_f (fun k hk9 => W_j W609 rfl) (CWr_f (fun k hk9 => L_n W605 (by omega) rfl) (CWr_f (fun k hk9 => F_nl F599 (show ¬ (87 < 0) by decide) rfl) (CWr_f (fun k hk9 => F_nl F582 (show ¬ (87 = 77 ∧ 7 ≤ (12 + k) ∧ (12 + k) ≤ 10) by omega) rfl) (CWr_f (fun k hk9 => F_nl F561 (show ¬ (87 < 0) by decide) rfl) (CWr_f (fun k hk9 => F_nl F537 (show ¬ (87 = 77 ∧ ((12 + k) = 4 ∨ (12 + k) = 5)) by omega) rfl) (CWr_f (fun k hk9 => F_nl F130 (show ¬ (87 = 77 ∧ 7 ≤ (12 + k) ∧ (12 + k) ≤ 10) by omega) rfl) (CWr_f (fun k hk9 => F_nl F74 (show ¬ (87 = 77 ∧ 7 ≤ (12 + k) ∧ (12 + k) ≤ 10) by omega) rfl) (CWr_f (fun k hk9 => F_nl F39 (show ¬ (87 = 77 ∧ ((12 + k) = 4 ∨ (12 + k) = 5)) by omega) rfl) (CWr_f (fun k hk9 => F_nl F19 (show ¬ (87 = 77 ∧ 7 ≤ (12 + k) ∧ (12 + k) ≤ 10) by omega) rfl) q8)))))))))))))))
                      have c_645 : M633.2.1 77 4 = (M546.2.1 77 4) := (W_n W632 (by decide) (W_n W625 (fun z => absurd z.1 (by decide)) (W_n W621 (fun z => absurd z.1 (by decide)) (W_n W617 (fun z => absurd z.1 (by decide)) (W_n W613 (fun z => absurd z.1 (by decide)) (W_n W609 (fun z => absurd z.1 (by decide)) (W_l W605 (F_n F599 (show ¬ (77 < 0) by decide) (F_n F582 (show ¬ (77 = 77 ∧ 7 ≤ 4 ∧ 4 ≤ 10) by decide) (F_n F561 (show ¬ (77 < 0) by decide) rfl))))))))))
                      have t_646 : (M633.2.1 77 4).toInt = (M546.2.1 77 4).toInt := congrArg Int32.toInt c_645
                      have c_647 : M633.2.1 77 5 = (M546.2.1 77 5) := (W_n W632 (by decide) (W_n W625 (fun z => absurd z.1 (by decide)) (W_n W621 (fun z => absurd z.1 (by decide)) (W_n W617 (fun z => absurd z.1 (by decide)) (W_n W613 (fun z => absurd z.1 (by decide)) (W_n W609 (fun z => absurd z.1 (by decide)) (W_l W605 (F_n F599 (show ¬ (77 < 0) by decide) (F_n F582 (show ¬ (77 = 77 ∧ 7 ≤ 5 ∧ 5 ≤ 10) by decide) (F_n F561 (show ¬ (77 < 0) by decide) rfl))))))))))
                      have t_648 : (M633.2.1 77 5).toInt = (M546.2.1 77 5).toInt := congrArg Int32.toInt c_647
                      exact h (1 : Int32) M633 hG634 F635 (by decide) (by decide) j_637 (fun z => absurd z (by decide)) (fun _ => ⟨_, (by rw [show (M633.2.1 77 10).toInt = (x_ns t nn (x_ns t nn (x_ns t nn (x_ns t nn a)))) by omega]; exact x_field_d z_640 (by omega)), ⟨z_643, CWr_p j_644⟩, (by show sg.2.1 + 1 + sg.2.2.1 = _; omega)⟩) (by omega)
                    · refine to_an (pc := 169) rw_170_169 rfl (to_c (pc := 170) rw_170_170 (x := (3 : Int32)) rfl rfl (s_v (pc := 171) rw_170_171 (dp0 hd (by decide)) (ls0 := [.ref 77, .int (3 : Int32)]) rfl (Nat.le_of_ble_eq_true rfl) (Nat.le_of_ble_eq_true rfl) rfl (to_rc rfl rfl rfl (g_o hG562 rfl)) rfl (to_an (pc := 0) rw_152_0 rfl (to_in (pc := 1) rw_152_1 rfl (s_pI (pc := 2) rw_152_2 hG562 rfl (fun M650 W649 => ?_))))))
                      have hG651 := g_wf hG562 W649 rfl rfl (by decide)
                      have F652 := FR.w F565 W649 (show 77 = 77 ∧ (4 = 4 ∨ 4 = 5 ∨ 7 ≤ 4 ∧ 4 ≤ 10 ∨ 4 = 15 ∨ 4 = 25) ∨ 80 ≤ 77 ∧ 77 ≤ 84 ∧ 8 ≤ 4 by decide)
                      refine to_an (pc := 5) rw_152_5 rfl (to_an (pc := 6) rw_152_6 rfl ?_)
                      have c_653 : M650.2.1 77 10 = (M136.2.1 77 10) := (W_n W649 (by decide) (F_n F561 (show ¬ (77 < 0) by decide) (F_n F537 (show ¬ (77 = 77 ∧ (10 = 4 ∨ 10 = 5)) by decide) rfl)))
                      refine tt_gI (pc := 7) rw_152_7 (g_o hG651 rfl) (v := (M136.2.1 77 10)) c_653 (s_pI (pc := 10) rw_152_10 hG651 rfl (fun M655 W654 => ?_))
                      have hG656 := g_wf hG651 W654 rfl rfl (by decide)
                      have F657 := FR.w F652 W654 (show 77 = 77 ∧ (5 = 4 ∨ 5 = 5 ∨ 7 ≤ 5 ∧ 5 ≤ 10 ∨ 5 = 15 ∨ 5 = 25) ∨ 80 ≤ 77 ∧ 77 ≤ 84 ∧ 8 ≤ 5 by decide)
                      refine to_c (pc := 13) rw_152_13 (x := (0 : Int32)) rfl rfl (s_r1 (pc := 14) rw_152_14 (A := 0) rfl (by decide) (s_r1 (pc := 174) rw_170_174 (A := 0) rfl (by decide) ?_))
                      have j_658 := (RS_f (fun a i z => W_n W654 (tg_37 a i z) rfl) (RS_f (fun a i z => W_n W649 (tg_38 a i z) rfl) (RS_f (tg_45 F561) (RS_f (tg_40 F537) p_135.1))))
                      have c_659 : M655.2.1 77 4 = (3 : Int32) := (W_n W654 (by decide) (W_e W649))
                      have k_660 : (3 : Int32).toInt = 3 := rfl
                      have t_661 : (M655.2.1 77 4).toInt = (3 : Int32).toInt := congrArg Int32.toInt c_659
                      have c_662 : M655.2.1 77 5 = (M136.2.1 77 10) := (W_e W654)
                      have t_663 : (M655.2.1 77 5).toInt = (M136.2.1 77 10).toInt := congrArg Int32.toInt c_662
                      exact h (0 : Int32) M655 hG656 F657 (by decide) (by decide) j_658 (fun _ => pinl (by omega) (by omega) (xf_33d (show x_fN t nn sg (x_ns t nn a) by unfold x_fN; omega) (by omega) (by omega) (by omega))) (fun z => absurd z (by decide)) (by omega)
              · refine to_c (pc := 96) rw_170_96 (x := (1 : Int32)) rfl rfl (to_go (pc := 97) rw_170_97 (to_is (pc := 101) rw_170_101 (ls2 := [.ref 77, .int v61, .int (M25.2.1 77 9), .int v125, .int (1 : Int32), .null, .null, .null, .null]) rfl rfl (to_in (pc := 103) rw_170_103 rfl (to_c (pc := 104) rw_170_104 (x := (1 : Int32)) rfl rfl (b_cne_t (pc := 105) rw_170_105 (A := v125.toInt) (B := 1) rfl rfl (by omega) (to_in (pc := 112) rw_170_112 rfl (to_c (pc := 113) rw_170_113 (x := (2 : Int32)) rfl rfl (b_cne_t (pc := 114) rw_170_114 (A := v125.toInt) (B := 2) rfl rfl (by omega) (to_c (pc := 121) rw_170_121 (x := (0 : Int32)) rfl rfl (to_is (pc := 122) rw_170_122 (ls2 := [.ref 77, .int v61, .int (M25.2.1 77 9), .int v125, .int (1 : Int32), .int (0 : Int32), .null, .null, .null]) rfl rfl (to_an (pc := 124) rw_170_124 rfl ?_)))))))))))
                refine to_c (pc := 125) rw_170_125 (x := (0 : Int32)) rfl rfl (to_an (pc := 126) rw_170_126 rfl ?_)
                have c_664 : M136.2.1 77 14 = (M.2.1 77 14) := (F_n F130 (show ¬ (77 = 77 ∧ 7 ≤ 14 ∧ 14 ≤ 10) by decide) (F_n F74 (show ¬ (77 = 77 ∧ 7 ≤ 14 ∧ 14 ≤ 10) by decide) (F_n F39 (show ¬ (77 = 77 ∧ (14 = 4 ∨ 14 = 5)) by decide) (F_n F19 (show ¬ (77 = 77 ∧ 7 ≤ 14 ∧ 14 ≤ 10) by decide) rfl))))
                refine tt_gI (pc := 127) rw_170_127 (g_o hG131 rfl) (v := (M.2.1 77 14)) c_664 (to_c (pc := 130) rw_170_130 (x := (1 : Int32)) rfl rfl (s_sub (pc := 131) rw_170_131 (A := (M.2.1 77 14).toInt) (B := 1) rfl rfl (by omega) (fun v665 e666 => to_i (pc := 132) rw_170_132 rfl (s_sub (pc := 134) rw_170_134 (A := v665.toInt) (B := 0) rfl rfl (by omega) (fun v667 e668 => s_v (pc := 135) rw_170_135 (dp0 hd (by decide)) (ls0 := [.ref 77, .int (0 : Int32), .int v667]) rfl (Nat.le_of_ble_eq_true rfl) (Nat.le_of_ble_eq_true rfl) rfl (to_rc rfl rfl rfl (g_o hG131 rfl)) rfl ?_)))))
                have k_669 : (0 : Int32).toInt = 0 := rfl
                have c_670 : M136.2.1 77 4 = (M49.2.1 77 4) := (F_n F130 (show ¬ (77 = 77 ∧ 7 ≤ 4 ∧ 4 ≤ 10) by decide) (F_n F74 (show ¬ (77 = 77 ∧ 7 ≤ 4 ∧ 4 ≤ 10) by decide) rfl))
                have t_671 : (M136.2.1 77 4).toInt = (M49.2.1 77 4).toInt := congrArg Int32.toInt c_670
                have c_672 : M136.2.1 77 5 = (M49.2.1 77 5) := (F_n F130 (show ¬ (77 = 77 ∧ 7 ≤ 5 ∧ 5 ≤ 10) by decide) (F_n F74 (show ¬ (77 = 77 ∧ 7 ≤ 5 ∧ 5 ≤ 10) by decide) rfl))
                have t_673 : (M136.2.1 77 5).toInt = (M49.2.1 77 5).toInt := congrArg Int32.toInt c_672
                refine E_162 hX (dp1 hd (by decide)) hG131 p_135.1 (by omega) (by omega) (l := (0 : Int32)) (m := v667) (t := t) (nn := nn) (a := (x_ns t nn (x_ns t nn (x_ns t nn a)))) (fun r674 M684 hG676 F675 p_677 p_678 p_679 p_680 p_681 p_682 p_683 => ?_)
                have F685 := FR.c F137 F675 tg_50
                rcases (show r674.toInt = 0 ∨ r674.toInt = 1 by omega) with h686 | h686
                · skip
                  have p_687 := p_680 (by omega)
                  have p_688 := p_681 (by omega)
                  have p_689 := p_682 (by omega)
                  clear p_679 p_680 p_681 p_682 p_683
                  have z_690 := x_val_b (t := t) (nn := nn) (a := (x_ns t nn (x_ns t nn (x_ns t nn a))))
                  refine b_ine_f (pc := 138) rw_170_138 (A := r674.toInt) rfl (by omega) (to_c (pc := 141) rw_170_141 (x := (0 : Int32)) rfl rfl (s_r1 (pc := 142) rw_170_142 (A := 0) rfl (by decide) ?_))
                  have j_691 := (RS_f (tg_40 F675) p_135.1)
                  exact h (0 : Int32) M684 hG676 F685 (by decide) (by decide) j_691 (fun _ => (if g9 : x_kind t nn (x_ns t nn (x_ns t nn (x_ns t nn a))) = 3 then pinl (by have z9 := p_689.1 g9; omega) (by omega) (xf_32 (show x_fN t nn sg (x_ns t nn a) by unfold x_fN; omega) (by omega) g9 (by omega)) else pinl (by have z9 := p_689.2 g9; omega) (by omega) (xf_31 (show x_fN t nn sg (x_ns t nn a) by unfold x_fN; omega) (by omega) g9))) (fun z => absurd z (by decide)) (by omega)
                · skip
                  have p_692 := p_679 (by omega)
                  have p_693 := p_683 (by omega)
                  clear p_679 p_680 p_681 p_682 p_683
                  have c_694 : M684.2.1 77 9 = (M136.2.1 77 9) := (F_n F675 (show ¬ (77 = 77 ∧ (9 = 4 ∨ 9 = 5)) by decide) rfl)
                  have z_695 := x_val_b (t := t) (nn := nn) (a := (x_ns t nn (x_ns t nn (x_ns t nn a)))) (by omega)
                  refine b_ine_t (pc := 138) rw_170_138 (A := r674.toInt) rfl (by omega) (to_an (pc := 143) rw_170_143 rfl (tt_gI (pc := 144) rw_170_144 (g_o hG676 rfl) (v := (M136.2.1 77 9)) c_694 (to_is (pc := 147) rw_170_147 (ls2 := [.ref 77, .int v61, .int (M25.2.1 77 9), .int v125, .int (1 : Int32), .int (0 : Int32), .int (M136.2.1 77 9), .null, .null]) rfl rfl (to_an (pc := 149) rw_170_149 rfl (tt_gJ (pc := 150) rw_170_150 (g_o hG676 rfl) (v := (M.2.2.1 77 25)) (F_nl F675 (show ¬ (77 = 77 ∧ (25 = 4 ∨ 25 = 5)) by decide) (F_nl F130 (show ¬ (77 = 77 ∧ 7 ≤ 25 ∧ 25 ≤ 10) by decide) (F_nl F74 (show ¬ (77 = 77 ∧ 7 ≤ 25 ∧ 25 ≤ 10) by decide) (F_nl F39 (show ¬ (77 = 77 ∧ (25 = 4 ∨ 25 = 5)) by decide) (F_nl F19 (show ¬ (77 = 77 ∧ 7 ≤ 25 ∧ 25 ≤ 10) by decide) rfl))))) (to_i (pc := 153) rw_170_153 rfl (to_i (pc := 155) rw_170_155 rfl (to_i (pc := 157) rw_170_157 rfl (s_add (pc := 159) rw_170_159 (A := (M136.2.1 77 9).toInt) (B := 0) rfl rfl (by omega) (fun v696 e697 => s_s (pc := 160) rw_170_160 (dp0 hd (by decide)) (ls0 := [.int (M136.2.1 77 9), .int v696, .null, .null, .null]) rfl (Nat.le_of_ble_eq_true rfl) (Nat.le_of_ble_eq_true rfl) rfl (to_rcs rfl rfl) rfl (E_168 hX (dp1 hd (by decide)) hG676 (by omega) (by omega) (by omega) (by omega) (by omega) (a := (M136.2.1 77 9)) (b := v696) (fun r698 M702 hG700 F699 p_701 => ?_))))))))))))
                  have F703 := FR.c F685 F699 tg_51
                  refine to_2l (pc := 163) rw_170_163 (v := ((M.2.2.1 77 25) &&& r698)) rfl (to_cl (pc := 164) rw_170_164 rfl (x := (0 : Int64)) rfl (s_lcmpE (pc := 165) rw_170_165 (fun v704 e705 => ?_)))
                  have b_706 := x_eq_b (x := ((M.2.2.1 77 25) &&& r698)) (y := (0 : Int64))
                  have z_707 := x_free_r q7 p_701
                  have z_708 := x_free_v (s := sg) (f := (M136.2.1 77 9).toInt) (l := v696.toInt) (f2 := (x_val t nn (x_ns t nn (x_ns t nn (x_ns t nn a))))) (l2 := (x_val t nn (x_ns t nn (x_ns t nn (x_ns t nn a))))) (by omega) (by omega)
                  refine b_ieq (pc := 166) rw_170_166 (A := v704.toInt) rfl (fun h709 => ?_) (fun h709 => ?_)
                  · refine to_an (pc := 175) rw_170_175 rfl (s_v (pc := 176) rw_170_176 (dp0 hd (by decide)) (ls0 := [.ref 77]) rfl (Nat.le_of_ble_eq_true rfl) (Nat.le_of_ble_eq_true rfl) rfl (to_rc rfl rfl rfl (g_o hG700 rfl)) rfl ?_)
                    have c_710 : M702.2.1 77 7 = (M136.2.1 77 7) := (F_n F699 (show ¬ (77 < 0) by decide) (F_n F675 (show ¬ (77 = 77 ∧ (7 = 4 ∨ 7 = 5)) by decide) rfl))
                    have t_711 : (M702.2.1 77 7).toInt = (M136.2.1 77 7).toInt := congrArg Int32.toInt c_710
                    have c_712 : M702.2.1 77 6 = (M.2.1 77 6) := (F_n F699 (show ¬ (77 < 0) by decide) (F_n F675 (show ¬ (77 = 77 ∧ (6 = 4 ∨ 6 = 5)) by decide) c_139))
                    have t_713 : (M702.2.1 77 6).toInt = (M.2.1 77 6).toInt := congrArg Int32.toInt c_712
                    have c_714 : M702.2.1 77 10 = (M136.2.1 77 10) := (F_n F699 (show ¬ (77 < 0) by decide) (F_n F675 (show ¬ (77 = 77 ∧ (10 = 4 ∨ 10 = 5)) by decide) rfl))
                    have t_715 : (M702.2.1 77 10).toInt = (M136.2.1 77 10).toInt := congrArg Int32.toInt c_714
                    have j_716 := (RS_f (tg_45 F699) (RS_f (tg_40 F675) p_135.1))
                    have z_717 := RS_b j_716 (a := (x_ns t nn (x_ns t nn (x_ns t nn a)))) (by omega)
                    have j_718 := (TR_f (tg_9 F699) (TR_f (tg_41 F675) (TR_f (tg_42 F130) j_128)))
                    have j_719 := (W9_f (tg_46 F699) (W9_f (tg_43 F675) (W9_f (tg_44 F130) j_129)))
                    refine E_156 hX (dp1 hd (by decide)) hG700 (by omega) (by omega) (by omega) (by omega) j_718 j_719  (fun M726 hG721 F720 p_722 p_723 p_724 p_725 => ?_)
                    have F727 := FR.c F703 F720 tg_49
                    have b_728 := g_b hG721 (a := 77) (i := 7) (lo := 0) (hi := 500) rfl rfl
                    have c_729 : M726.2.1 77 6 = (M.2.1 77 6) := (F_n F720 (show ¬ (77 = 77 ∧ 7 ≤ 6 ∧ 6 ≤ 10) by decide) c_712)
                    have t_730 : (M726.2.1 77 6).toInt = (M.2.1 77 6).toInt := congrArg Int32.toInt c_729
                    have b_731 := g_b hG721 (a := 77) (i := 8) (lo := 0) (hi := 5) rfl rfl
                    have b_732 := g_b hG721 (a := 77) (i := 10) (lo := 0) (hi := 500) rfl rfl
                    have z_733 := RS_s p_725.2 (a := (x_ns t nn (x_ns t nn (x_ns t nn a)))) (by omega)
                    refine to_i (pc := 179) rw_170_179 rfl (to_i (pc := 181) rw_170_181 rfl (s_add (pc := 183) rw_170_183 (A := (M136.2.1 77 9).toInt) (B := 0) rfl rfl (by omega) (fun v734 e735 => to_is (pc := 184) rw_170_184 (ls2 := [.ref 77, .int v61, .int (M25.2.1 77 9), .int v125, .int (1 : Int32), .int (0 : Int32), .int (M136.2.1 77 9), .int v734, .null]) rfl rfl (to_c (pc := 186) rw_170_186 (x := (10 : Int32)) rfl rfl (to_is (pc := 188) rw_170_188 (ls2 := [.ref 77, .int v61, .int (M25.2.1 77 9), .int v125, .int (1 : Int32), .int (0 : Int32), .int (M136.2.1 77 9), .int v734, .int (10 : Int32)]) rfl rfl (to_i (pc := 190) rw_170_190 rfl (b_ieq_f (pc := 192) rw_170_192 (A := 1) rfl (by decide) (to_an (pc := 195) rw_170_195 rfl (to_in (pc := 196) rw_170_196 rfl (b_ine_t (pc := 197) rw_170_197 (A := v125.toInt) rfl (by omega) (to_i (pc := 207) rw_170_207 rfl ?_)))))))))))
                    refine to_an (pc := 209) rw_170_209 rfl ?_
                    have c_736 : M726.2.1 77 14 = (M.2.1 77 14) := (F_n F720 (show ¬ (77 = 77 ∧ 7 ≤ 14 ∧ 14 ≤ 10) by decide) (F_n F699 (show ¬ (77 < 0) by decide) (F_n F675 (show ¬ (77 = 77 ∧ (14 = 4 ∨ 14 = 5)) by decide) c_664)))
                    refine tt_gI (pc := 210) rw_170_210 (g_o hG721 rfl) (v := (M.2.1 77 14)) c_736 (to_c (pc := 213) rw_170_213 (x := (1 : Int32)) rfl rfl (s_sub (pc := 214) rw_170_214 (A := (M.2.1 77 14).toInt) (B := 1) rfl rfl (by omega) (fun v737 e738 => s_v (pc := 215) rw_170_215 (dp0 hd (by decide)) (ls0 := [.ref 77, .int (M136.2.1 77 9), .int v737]) rfl (Nat.le_of_ble_eq_true rfl) (Nat.le_of_ble_eq_true rfl) rfl (to_rc rfl rfl rfl (g_o hG721 rfl)) rfl ?_)))
                    have c_739 : M726.2.1 77 4 = (M684.2.1 77 4) := (F_n F720 (show ¬ (77 = 77 ∧ 7 ≤ 4 ∧ 4 ≤ 10) by decide) (F_n F699 (show ¬ (77 < 0) by decide) rfl))
                    have t_740 : (M726.2.1 77 4).toInt = (M684.2.1 77 4).toInt := congrArg Int32.toInt c_739
                    have c_741 : M726.2.1 77 5 = (M684.2.1 77 5) := (F_n F720 (show ¬ (77 = 77 ∧ 7 ≤ 5 ∧ 5 ≤ 10) by decide) (F_n F699 (show ¬ (77 < 0) by decide) rfl))
                    have t_742 : (M726.2.1 77 5).toInt = (M684.2.1 77 5).toInt := congrArg Int32.toInt c_741
                    refine E_162 hX (dp1 hd (by decide)) hG721 p_725.1 (by omega) (by omega) (l := (M136.2.1 77 9)) (m := v737) (t := t) (nn := nn) (a := (x_ns t nn (x_ns t nn (x_ns t nn (x_ns t nn a))))) (fun r743 M753 hG745 F744 p_746 p_747 p_748 p_749 p_750 p_751 p_752 => ?_)
                    have F754 := FR.c F727 F744 tg_50
                    rcases (show r743.toInt = 0 ∨ r743.toInt = 1 by omega) with h755 | h755
                    · skip
                      have p_756 := p_749 (by omega)
                      have p_757 := p_750 (by omega)
                      have p_758 := p_751 (by omega)
                      clear p_748 p_749 p_750 p_751 p_752
                      have z_759 := x_val_b (t := t) (nn := nn) (a := (x_ns t nn (x_ns t nn (x_ns t nn (x_ns t nn a)))))
                      refine b_ine_f (pc := 218) rw_170_218 (A := r743.toInt) rfl (by omega) (to_c (pc := 221) rw_170_221 (x := (0 : Int32)) rfl rfl (s_r1 (pc := 222) rw_170_222 (A := 0) rfl (by decide) ?_))
                      have j_760 := (RS_f (tg_40 F744) p_725.1)
                      exact h (0 : Int32) M753 hG745 F754 (by decide) (by decide) j_760 (fun _ => (if g9 : x_kind t nn (x_ns t nn (x_ns t nn (x_ns t nn (x_ns t nn a)))) = 3 then pinl (by have z9 := p_758.1 g9; omega) (by omega) (xf_42 (show x_fL t nn sg (x_ns t nn a) by unfold x_fL x_fN; omega) g9 (fun h8 => by unfold x_fR at h8; omega)) else pinl (by have z9 := p_758.2 g9; omega) (by omega) (xf_41 (show x_fL t nn sg (x_ns t nn a) by unfold x_fL x_fN; omega) g9))) (fun z => absurd z (by decide)) (by omega)
                    · skip
                      have p_761 := p_748 (by omega)
                      have p_762 := p_752 (by omega)
                      clear p_748 p_749 p_750 p_751 p_752
                      have c_763 : M753.2.1 77 9 = (M726.2.1 77 9) := (F_n F744 (show ¬ (77 = 77 ∧ (9 = 4 ∨ 9 = 5)) by decide) rfl)
                      have z_764 := x_val_b (t := t) (nn := nn) (a := (x_ns t nn (x_ns t nn (x_ns t nn (x_ns t nn a))))) (by omega)
                      refine b_ine_t (pc := 218) rw_170_218 (A := r743.toInt) rfl (by omega) (to_an (pc := 223) rw_170_223 rfl (tt_gI (pc := 224) rw_170_224 (g_o hG745 rfl) (v := (M726.2.1 77 9)) c_763 (to_is (pc := 227) rw_170_227 (ls2 := [.ref 77, .int v61, .int (M25.2.1 77 9), .int v125, .int (1 : Int32), .int (0 : Int32), .int (M136.2.1 77 9), .int (M726.2.1 77 9), .int (10 : Int32)]) rfl rfl (to_i (pc := 229) rw_170_229 rfl (to_i (pc := 231) rw_170_231 rfl (s_sub (pc := 233) rw_170_233 (A := (M726.2.1 77 9).toInt) (B := (M136.2.1 77 9).toInt) rfl rfl (by omega) (fun v765 e766 => to_c (pc := 234) rw_170_234 (x := (23 : Int32)) rfl rfl (b_cle (pc := 236) rw_170_236 (A := v765.toInt) (B := 23) rfl rfl (fun h767 => ?_) (fun h767 => ?_)))))))))
                      · refine to_an (pc := 245) rw_170_245 rfl (tt_gJ (pc := 246) rw_170_246 (g_o hG745 rfl) (v := (M.2.2.1 77 25)) (F_nl F744 (show ¬ (77 = 77 ∧ (25 = 4 ∨ 25 = 5)) by decide) (F_nl F720 (show ¬ (77 = 77 ∧ 7 ≤ 25 ∧ 25 ≤ 10) by decide) (F_nl F699 (show ¬ (77 < 0) by decide) (F_nl F675 (show ¬ (77 = 77 ∧ (25 = 4 ∨ 25 = 5)) by decide) (F_nl F130 (show ¬ (77 = 77 ∧ 7 ≤ 25 ∧ 25 ≤ 10) by decide) (F_nl F74 (show ¬ (77 = 77 ∧ 7 ≤ 25 ∧ 25 ≤ 10) by decide) (F_nl F39 (show ¬ (77 = 77 ∧ (25 = 4 ∨ 25 = 5)) by decide) (F_nl F19 (show ¬ (77 = 77 ∧ 7 ≤ 25 ∧ 25 ≤ 10) by decide) rfl)))))))) (to_i (pc := 249) rw_170_249 rfl (to_i (pc := 251) rw_170_251 rfl (s_s (pc := 253) rw_170_253 (dp0 hd (by decide)) (ls0 := [.int (M136.2.1 77 9), .int (M726.2.1 77 9), .null, .null, .null]) rfl (Nat.le_of_ble_eq_true rfl) (Nat.le_of_ble_eq_true rfl) rfl (to_rcs rfl rfl) rfl (E_168 hX (dp1 hd (by decide)) hG745 (by omega) (by omega) (by omega) (by omega) (by omega) (a := (M136.2.1 77 9)) (b := (M726.2.1 77 9)) (fun r768 M772 hG770 F769 p_771 => ?_))))))
                        have F773 := FR.c F754 F769 tg_51
                        refine to_2l (pc := 256) rw_170_256 (v := ((M.2.2.1 77 25) &&& r768)) rfl (to_cl (pc := 257) rw_170_257 rfl (x := (0 : Int64)) rfl (s_lcmpE (pc := 258) rw_170_258 (fun v774 e775 => ?_)))
                        have b_776 := x_eq_b (x := ((M.2.2.1 77 25) &&& r768)) (y := (0 : Int64))
                        have z_777 := x_free_r q7 p_771
                        have z_778 := x_free_v (s := sg) (f := (M136.2.1 77 9).toInt) (l := (M726.2.1 77 9).toInt) (f2 := (x_val t nn (x_ns t nn (x_ns t nn (x_ns t nn a))))) (l2 := (x_val t nn (x_ns t nn (x_ns t nn (x_ns t nn (x_ns t nn a)))))) (by omega) (by omega)
                        refine b_ieq (pc := 259) rw_170_259 (A := v774.toInt) rfl (fun h779 => ?_) (fun h779 => ?_)
                        · refine to_an (pc := 268) rw_170_268 rfl (s_v (pc := 269) rw_170_269 (dp0 hd (by decide)) (ls0 := [.ref 77]) rfl (Nat.le_of_ble_eq_true rfl) (Nat.le_of_ble_eq_true rfl) rfl (to_rc rfl rfl rfl (g_o hG770 rfl)) rfl ?_)
                          have c_780 : M772.2.1 77 7 = (M726.2.1 77 7) := (F_n F769 (show ¬ (77 < 0) by decide) (F_n F744 (show ¬ (77 = 77 ∧ (7 = 4 ∨ 7 = 5)) by decide) rfl))
                          have t_781 : (M772.2.1 77 7).toInt = (M726.2.1 77 7).toInt := congrArg Int32.toInt c_780
                          have c_782 : M772.2.1 77 6 = (M.2.1 77 6) := (F_n F769 (show ¬ (77 < 0) by decide) (F_n F744 (show ¬ (77 = 77 ∧ (6 = 4 ∨ 6 = 5)) by decide) c_729))
                          have t_783 : (M772.2.1 77 6).toInt = (M.2.1 77 6).toInt := congrArg Int32.toInt c_782
                          have c_784 : M772.2.1 77 10 = (M726.2.1 77 10) := (F_n F769 (show ¬ (77 < 0) by decide) (F_n F744 (show ¬ (77 = 77 ∧ (10 = 4 ∨ 10 = 5)) by decide) rfl))
                          have t_785 : (M772.2.1 77 10).toInt = (M726.2.1 77 10).toInt := congrArg Int32.toInt c_784
                          have j_786 := (RS_f (tg_45 F769) (RS_f (tg_40 F744) p_725.1))
                          have z_787 := RS_b j_786 (a := (x_ns t nn (x_ns t nn (x_ns t nn (x_ns t nn a))))) (by omega)
                          have j_788 := (TR_f (tg_9 F769) (TR_f (tg_41 F744) (TR_f (tg_42 F720) j_718)))
                          have j_789 := (W9_f (tg_46 F769) (W9_f (tg_43 F744) (W9_f (tg_44 F720) j_719)))
                          refine E_156 hX (dp1 hd (by decide)) hG770 (by omega) (by omega) (by omega) (by omega) j_788 j_789  (fun M796 hG791 F790 p_792 p_793 p_794 p_795 => ?_)
                          have F797 := FR.c F773 F790 tg_49
                          have b_798 := g_b hG791 (a := 77) (i := 7) (lo := 0) (hi := 500) rfl rfl
                          have c_799 : M796.2.1 77 6 = (M.2.1 77 6) := (F_n F790 (show ¬ (77 = 77 ∧ 7 ≤ 6 ∧ 6 ≤ 10) by decide) c_782)
                          have t_800 : (M796.2.1 77 6).toInt = (M.2.1 77 6).toInt := congrArg Int32.toInt c_799
                          have b_801 := g_b hG791 (a := 77) (i := 8) (lo := 0) (hi := 5) rfl rfl
                          have b_802 := g_b hG791 (a := 77) (i := 10) (lo := 0) (hi := 500) rfl rfl
                          have z_803 := RS_s p_795.2 (a := (x_ns t nn (x_ns t nn (x_ns t nn (x_ns t nn a))))) (by omega)
                          refine to_i (pc := 272) rw_170_272 rfl (to_i (pc := 274) rw_170_274 rfl (s_sub (pc := 276) rw_170_276 (A := (M726.2.1 77 9).toInt) (B := (M136.2.1 77 9).toInt) rfl rfl (by omega) (fun v804 e805 => to_c (pc := 277) rw_170_277 (x := (1 : Int32)) rfl rfl (s_add (pc := 278) rw_170_278 (A := v804.toInt) (B := 1) rfl rfl (by omega) (fun v806 e807 => to_is (pc := 279) rw_170_279 (ls2 := [.ref 77, .int v61, .int (M25.2.1 77 9), .int v125, .int (1 : Int32), .int (0 : Int32), .int (M136.2.1 77 9), .int (M726.2.1 77 9), .int v806]) rfl rfl (to_in (pc := 281) rw_170_281 rfl (to_c (pc := 282) rw_170_282 (x := (3 : Int32)) rfl rfl (b_cne_f (pc := 283) rw_170_283 (A := v125.toInt) (B := 3) rfl rfl (by omega) (to_an (pc := 286) rw_170_286 rfl (to_c (pc := 287) rw_170_287 (x := (1 : Int32)) rfl rfl (to_i (pc := 288) rw_170_288 rfl ?_)))))))))))
                          refine to_c (pc := 290) rw_170_290 (x := (4 : Int32)) rfl rfl (b_cge (pc := 291) rw_170_291 (A := v806.toInt) (B := 4) rfl rfl (fun h808 => ?_) (fun h808 => ?_))
                          · refine to_c (pc := 299) rw_170_299 (x := (4 : Int32)) rfl rfl (s_v (pc := 300) rw_170_300 (dp0 hd (by decide)) (ls0 := [.ref 77, .int (1 : Int32), .int (4 : Int32)]) rfl (Nat.le_of_ble_eq_true rfl) (Nat.le_of_ble_eq_true rfl) rfl (to_rc rfl rfl rfl (g_o hG791 rfl)) rfl ?_)
                            have k_809 : (1 : Int32).toInt = 1 := rfl
                            have k_810 : (4 : Int32).toInt = 4 := rfl
                            have c_811 : M796.2.1 77 4 = (M753.2.1 77 4) := (F_n F790 (show ¬ (77 = 77 ∧ 7 ≤ 4 ∧ 4 ≤ 10) by decide) (F_n F769 (show ¬ (77 < 0) by decide) rfl))
                            have t_812 : (M796.2.1 77 4).toInt = (M753.2.1 77 4).toInt := congrArg Int32.toInt c_811
                            have c_813 : M796.2.1 77 5 = (M753.2.1 77 5) := (F_n F790 (show ¬ (77 = 77 ∧ 7 ≤ 5 ∧ 5 ≤ 10) by decide) (F_n F769 (show ¬ (77 < 0) by decide) rfl))
                            have t_814 : (M796.2.1 77 5).toInt = (M753.2.1 77 5).toInt := congrArg Int32.toInt c_813
                            refine E_162 hX (dp1 hd (by decide)) hG791 p_795.1 (by omega) (by omega) (l := (1 : Int32)) (m := (4 : Int32)) (t := t) (nn := nn) (a := (x_ns t nn (x_ns t nn (x_ns t nn (x_ns t nn (x_ns t nn a)))))) (fun r815 M825 hG817 F816 p_818 p_819 p_820 p_821 p_822 p_823 p_824 => ?_)
                            have F826 := FR.c F797 F816 tg_50
                            rcases (show r815.toInt = 0 ∨ r815.toInt = 1 by omega) with h827 | h827
                            · skip
                              have p_828 := p_821 (by omega)
                              have p_829 := p_822 (by omega)
                              have p_830 := p_823 (by omega)
                              clear p_820 p_821 p_822 p_823 p_824
                              have z_831 := x_val_b (t := t) (nn := nn) (a := (x_ns t nn (x_ns t nn (x_ns t nn (x_ns t nn (x_ns t nn a))))))
                              refine b_ine_f (pc := 303) rw_170_303 (A := r815.toInt) rfl (by omega) (to_c (pc := 306) rw_170_306 (x := (0 : Int32)) rfl rfl (s_r1 (pc := 307) rw_170_307 (A := 0) rfl (by decide) ?_))
                              have j_832 := (RS_f (tg_40 F816) p_795.1)
                              exact h (0 : Int32) M825 hG817 F826 (by decide) (by decide) j_832 (fun _ => (if g9 : x_kind t nn (x_ns t nn (x_ns t nn (x_ns t nn (x_ns t nn (x_ns t nn a))))) = 3 then pinl (by have z9 := p_830.1 g9; omega) (by omega) (xf_52 (show x_fL t nn sg (x_ns t nn a) by unfold x_fL x_fN; omega) (by omega) (show x_fR t nn sg (x_ns t nn a) by unfold x_fR; omega) (by omega) (by omega) g9 (by omega)) else pinl (by have z9 := p_830.2 g9; omega) (by omega) (xf_51 (show x_fL t nn sg (x_ns t nn a) by unfold x_fL x_fN; omega) (by omega) (show x_fR t nn sg (x_ns t nn a) by unfold x_fR; omega) (by omega) (by omega) g9))) (fun z => absurd z (by decide)) (by omega)
                            · skip
                              have p_833 := p_820 (by omega)
                              have p_834 := p_824 (by omega)
                              clear p_820 p_821 p_822 p_823 p_824
                              have c_835 : M825.2.1 77 9 = (M796.2.1 77 9) := (F_n F816 (show ¬ (77 = 77 ∧ (9 = 4 ∨ 9 = 5)) by decide) rfl)
                              have z_836 := x_val_b (t := t) (nn := nn) (a := (x_ns t nn (x_ns t nn (x_ns t nn (x_ns t nn (x_ns t nn a)))))) (by omega)
                              refine b_ine_t (pc := 303) rw_170_303 (A := r815.toInt) rfl (by omega) (to_an (pc := 308) rw_170_308 rfl (tt_gI (pc := 309) rw_170_309 (g_o hG817 rfl) (v := (M796.2.1 77 9)) c_835 (to_is (pc := 312) rw_170_312 (ls2 := [.ref 77, .int v61, .int (M25.2.1 77 9), .int v125, .int (1 : Int32), .int (0 : Int32), .int (M136.2.1 77 9), .int (M726.2.1 77 9), .int (M796.2.1 77 9)]) rfl rfl (to_an (pc := 314) rw_170_314 rfl (s_v (pc := 315) rw_170_315 (dp0 hd (by decide)) (ls0 := [.ref 77]) rfl (Nat.le_of_ble_eq_true rfl) (Nat.le_of_ble_eq_true rfl) rfl (to_rc rfl rfl rfl (g_o hG817 rfl)) rfl ?_)))))
                              have c_837 : M825.2.1 77 7 = (M796.2.1 77 7) := (F_n F816 (show ¬ (77 = 77 ∧ (7 = 4 ∨ 7 = 5)) by decide) rfl)
                              have t_838 : (M825.2.1 77 7).toInt = (M796.2.1 77 7).toInt := congrArg Int32.toInt c_837
                              have c_839 : M825.2.1 77 6 = (M.2.1 77 6) := (F_n F816 (show ¬ (77 = 77 ∧ (6 = 4 ∨ 6 = 5)) by decide) c_799)
                              have t_840 : (M825.2.1 77 6).toInt = (M.2.1 77 6).toInt := congrArg Int32.toInt c_839
                              have c_841 : M825.2.1 77 10 = (M796.2.1 77 10) := (F_n F816 (show ¬ (77 = 77 ∧ (10 = 4 ∨ 10 = 5)) by decide) rfl)
                              have t_842 : (M825.2.1 77 10).toInt = (M796.2.1 77 10).toInt := congrArg Int32.toInt c_841
                              have j_843 := (RS_f (tg_40 F816) p_795.1)
                              have z_844 := RS_b j_843 (a := (x_ns t nn (x_ns t nn (x_ns t nn (x_ns t nn (x_ns t nn a)))))) (by omega)
                              have j_845 := (TR_f (tg_41 F816) (TR_f (tg_42 F790) j_788))
                              have j_846 := (W9_f (tg_43 F816) (W9_f (tg_44 F790) j_789))
                              refine E_156 hX (dp1 hd (by decide)) hG817 (by omega) (by omega) (by omega) (by omega) j_845 j_846  (fun M853 hG848 F847 p_849 p_850 p_851 p_852 => ?_)
                              have F854 := FR.c F826 F847 tg_49
                              have b_855 := g_b hG848 (a := 77) (i := 7) (lo := 0) (hi := 500) rfl rfl
                              have c_856 : M853.2.1 77 6 = (M.2.1 77 6) := (F_n F847 (show ¬ (77 = 77 ∧ 7 ≤ 6 ∧ 6 ≤ 10) by decide) c_839)
                              have t_857 : (M853.2.1 77 6).toInt = (M.2.1 77 6).toInt := congrArg Int32.toInt c_856
                              have b_858 := g_b hG848 (a := 77) (i := 8) (lo := 0) (hi := 5) rfl rfl
                              have b_859 := g_b hG848 (a := 77) (i := 10) (lo := 0) (hi := 500) rfl rfl
                              have z_860 := RS_s p_852.2 (a := (x_ns t nn (x_ns t nn (x_ns t nn (x_ns t nn (x_ns t nn a)))))) (by omega)
                              refine to_an (pc := 318) rw_170_318 rfl (to_dupr (pc := 319) rw_170_319 (tt_gJ (pc := 320) rw_170_320 (g_o hG848 rfl) (v := (M.2.2.1 77 25)) (F_nl F847 (show ¬ (77 = 77 ∧ 7 ≤ 25 ∧ 25 ≤ 10) by decide) (F_nl F816 (show ¬ (77 = 77 ∧ (25 = 4 ∨ 25 = 5)) by decide) (F_nl F790 (show ¬ (77 = 77 ∧ 7 ≤ 25 ∧ 25 ≤ 10) by decide) (F_nl F769 (show ¬ (77 < 0) by decide) (F_nl F744 (show ¬ (77 = 77 ∧ (25 = 4 ∨ 25 = 5)) by decide) (F_nl F720 (show ¬ (77 = 77 ∧ 7 ≤ 25 ∧ 25 ≤ 10) by decide) (F_nl F699 (show ¬ (77 < 0) by decide) (F_nl F675 (show ¬ (77 = 77 ∧ (25 = 4 ∨ 25 = 5)) by decide) (F_nl F130 (show ¬ (77 = 77 ∧ 7 ≤ 25 ∧ 25 ≤ 10) by decide) (F_nl F74 (show ¬ (77 = 77 ∧ 7 ≤ 25 ∧ 25 ≤ 10) by decide) (F_nl F39 (show ¬ (77 = 77 ∧ (25 = 4 ∨ 25 = 5)) by decide) (F_nl F19 (show ¬ (77 = 77 ∧ 7 ≤ 25 ∧ 25 ≤ 10) by decide) rfl)))))))))))) (to_i (pc := 323) rw_170_323 rfl (to_i (pc := 325) rw_170_325 rfl (s_s (pc := 327) rw_170_327 (dp0 hd (by decide)) (ls0 := [.int (M136.2.1 77 9), .int (M726.2.1 77 9), .null, .null, .null]) rfl (Nat.le_of_ble_eq_true rfl) (Nat.le_of_ble_eq_true rfl) rfl (to_rcs rfl rfl) rfl (E_168 hX (dp1 hd (by decide)) hG848 (by omega) (by omega) (by omega) (by omega) (by omega) (a := (M136.2.1 77 9)) (b := (M726.2.1 77 9)) (fun r861 M865 hG863 F862 p_864 => ?_)))))))
                              have F866 := FR.c F854 F862 tg_51
                              refine to_2l (pc := 330) rw_170_330 (v := ((M.2.2.1 77 25) ||| r861)) rfl ?_
                              have j_867 := (PLr_f (tg_47 F862) (F_nl F862 (show ¬ (77 < 0) by decide) rfl) (PLr_f (tg_39 F847) (F_nl F847 (show ¬ (77 = 77 ∧ 7 ≤ 25 ∧ 25 ≤ 10) by decide) rfl) (PLr_f (tg_48 F816) (F_nl F816 (show ¬ (77 = 77 ∧ (25 = 4 ∨ 25 = 5)) by decide) rfl) (PLr_f (tg_39 F790) (F_nl F790 (show ¬ (77 = 77 ∧ 7 ≤ 25 ∧ 25 ≤ 10) by decide) rfl) (PLr_f (tg_47 F769) (F_nl F769 (show ¬ (77 < 0) by decide) rfl) (PLr_f (tg_48 F744) (F_nl F744 (show ¬ (77 = 77 ∧ (25 = 4 ∨ 25 = 5)) by decide) rfl) (PLr_f (tg_39 F720) (F_nl F720 (show ¬ (77 = 77 ∧ 7 ≤ 25 ∧ 25 ≤ 10) by decide) rfl) (PLr_f (tg_47 F699) (F_nl F699 (show ¬ (77 < 0) by decide) rfl) (PLr_f (tg_48 F675) (F_nl F675 (show ¬ (77 = 77 ∧ (25 = 4 ∨ 25 = 5)) by decide) rfl) (PLr_f (tg_39 F130) (F_nl F130 (show ¬ (77 = 77 ∧ 7 ≤ 25 ∧ 25 ≤ 10) by decide) rfl) (PLr_f (tg_39 F74) (F_nl F74 (show ¬ (77 = 77 ∧ 7 ≤ 25 ∧ 25 ≤ 10) by decide) rfl) (PLr_f (tg_48 F39) (F_nl F39 (show ¬ (77 = 77 ∧ (25 = 4 ∨ 25 = 5)) by decide) rfl) j_37))))))))))))
                              refine s_pJ (pc := 331) rw_170_331 hG863 rfl (fun M869 W868 => ?_)
                              have hG870 := g_wl hG863 W868
                              have F871 := FR.wl F866 W868 (show 77 = 77 ∧ (25 = 4 ∨ 25 = 5 ∨ 7 ≤ 25 ∧ 25 ≤ 10 ∨ 25 = 15 ∨ 25 = 25) ∨ 80 ≤ 77 ∧ 77 ≤ 84 ∧ 8 ≤ 25 by decide)
                              refine to_an (pc := 334) rw_170_334 rfl (s_gR (pc := 335) rw_170_335 hG870 rfl (v := 80) rfl (to_in (pc := 338) rw_170_338 rfl (to_in (pc := 339) rw_170_339 rfl (s_ias (pc := 340) rw_170_340 hG870 rfl (n := 16) rfl (A := v61.toInt) rfl (by omega) (by omega) (fun M873 W872 => ?_)))))
                              have hG874 := g_wf hG870 W872 rfl rfl (by decide)
                              have F875 := FR.w F871 W872 (show 80 = 77 ∧ ((v61.toInt).toNat = 4 ∨ (v61.toInt).toNat = 5 ∨ 7 ≤ (v61.toInt).toNat ∧ (v61.toInt).toNat ≤ 10 ∨ (v61.toInt).toNat = 15 ∨ (v61.toInt).toNat = 25) ∨ 80 ≤ 80 ∧ 80 ≤ 84 ∧ 8 ≤ (v61.toInt).toNat by omega)
                              refine to_an (pc := 341) rw_170_341 rfl (s_gR (pc := 342) rw_170_342 hG874 rfl (v := 81) rfl (to_in (pc := 345) rw_170_345 rfl (to_in (pc := 346) rw_170_346 rfl (s_ias (pc := 347) rw_170_347 hG874 rfl (n := 16) rfl (A := v61.toInt) rfl (by omega) (by omega) (fun M877 W876 => ?_)))))
                              have hG878 := g_w hG874 W876 (A := v125.toInt) rfl (lo := 0) (hi := 3) rfl rfl (by omega) (by decide)
                              have F879 := FR.w F875 W876 (show 81 = 77 ∧ ((v61.toInt).toNat = 4 ∨ (v61.toInt).toNat = 5 ∨ 7 ≤ (v61.toInt).toNat ∧ (v61.toInt).toNat ≤ 10 ∨ (v61.toInt).toNat = 15 ∨ (v61.toInt).toNat = 25) ∨ 80 ≤ 81 ∧ 81 ≤ 84 ∧ 8 ≤ (v61.toInt).toNat by omega)
                              refine to_an (pc := 348) rw_170_348 rfl (s_gR (pc := 349) rw_170_349 hG878 rfl (v := 82) rfl (to_in (pc := 352) rw_170_352 rfl (to_i (pc := 353) rw_170_353 rfl (s_ias (pc := 355) rw_170_355 hG878 rfl (n := 16) rfl (A := v61.toInt) rfl (by omega) (by omega) (fun M881 W880 => ?_)))))
                              have hG882 := g_w hG878 W880 (A := (M136.2.1 77 9).toInt) rfl (lo := 0) (hi := 59) rfl rfl (by omega) (by decide)
                              have F883 := FR.w F879 W880 (show 82 = 77 ∧ ((v61.toInt).toNat = 4 ∨ (v61.toInt).toNat = 5 ∨ 7 ≤ (v61.toInt).toNat ∧ (v61.toInt).toNat ≤ 10 ∨ (v61.toInt).toNat = 15 ∨ (v61.toInt).toNat = 25) ∨ 80 ≤ 82 ∧ 82 ≤ 84 ∧ 8 ≤ (v61.toInt).toNat by omega)
                              refine to_an (pc := 356) rw_170_356 rfl (s_gR (pc := 357) rw_170_357 hG882 rfl (v := 83) rfl (to_in (pc := 360) rw_170_360 rfl (to_i (pc := 361) rw_170_361 rfl (s_ias (pc := 363) rw_170_363 hG882 rfl (n := 16) rfl (A := v61.toInt) rfl (by omega) (by omega) (fun M885 W884 => ?_)))))
                              have hG886 := g_w hG882 W884 (A := (M726.2.1 77 9).toInt) rfl (lo := 0) (hi := 63) rfl rfl (by omega) (by decide)
                              have F887 := FR.w F883 W884 (show 83 = 77 ∧ ((v61.toInt).toNat = 4 ∨ (v61.toInt).toNat = 5 ∨ 7 ≤ (v61.toInt).toNat ∧ (v61.toInt).toNat ≤ 10 ∨ (v61.toInt).toNat = 15 ∨ (v61.toInt).toNat = 25) ∨ 80 ≤ 83 ∧ 83 ≤ 84 ∧ 8 ≤ (v61.toInt).toNat by omega)
                              refine to_an (pc := 364) rw_170_364 rfl (s_gR (pc := 365) rw_170_365 hG886 rfl (v := 84) rfl (to_in (pc := 368) rw_170_368 rfl (to_i (pc := 369) rw_170_369 rfl (s_ias (pc := 371) rw_170_371 hG886 rfl (n := 16) rfl (A := v61.toInt) rfl (by omega) (by omega) (fun M889 W888 => ?_)))))
                              have hG890 := g_w hG886 W888 (A := (M796.2.1 77 9).toInt) rfl (lo := 0) (hi := 24) rfl rfl (by omega) (by decide)
                              have F891 := FR.w F887 W888 (show 84 = 77 ∧ ((v61.toInt).toNat = 4 ∨ (v61.toInt).toNat = 5 ∨ 7 ≤ (v61.toInt).toNat ∧ (v61.toInt).toNat ≤ 10 ∨ (v61.toInt).toNat = 15 ∨ (v61.toInt).toNat = 25) ∨ 80 ≤ 84 ∧ 84 ≤ 84 ∧ 8 ≤ (v61.toInt).toNat by omega)
                              refine to_an (pc := 372) rw_170_372 rfl (to_dupr (pc := 373) rw_170_373 ?_)
                              have c_892 : M889.2.1 77 15 = (M.2.1 77 15) := (W_n W888 (fun z => absurd z.1 (by decide)) (W_n W884 (fun z => absurd z.1 (by decide)) (W_n W880 (fun z => absurd z.1 (by decide)) (W_n W876 (fun z => absurd z.1 (by decide)) (W_n W872 (fun z => absurd z.1 (by decide)) (W_l W868 (F_n F862 (show ¬ (77 < 0) by decide) (F_n F847 (show ¬ (77 = 77 ∧ 7 ≤ 15 ∧ 15 ≤ 10) by decide) (F_n F816 (show ¬ (77 = 77 ∧ (15 = 4 ∨ 15 = 5)) by decide) (F_n F790 (show ¬ (77 = 77 ∧ 7 ≤ 15 ∧ 15 ≤ 10) by decide) (F_n F769 (show ¬ (77 < 0) by decide) (F_n F744 (show ¬ (77 = 77 ∧ (15 = 4 ∨ 15 = 5)) by decide) (F_n F720 (show ¬ (77 = 77 ∧ 7 ≤ 15 ∧ 15 ≤ 10) by decide) (F_n F699 (show ¬ (77 < 0) by decide) (F_n F675 (show ¬ (77 = 77 ∧ (15 = 4 ∨ 15 = 5)) by decide) (F_n F130 (show ¬ (77 = 77 ∧ 7 ≤ 15 ∧ 15 ≤ 10) by decide) (F_n F74 (show ¬ (77 = 77 ∧ 7 ≤ 15 ∧ 15 ≤ 10) by decide) c_60)))))))))))))))))
                              refine tt_gI (pc := 374) rw_170_374 (g_o hG890 rfl) (v := (M.2.1 77 15)) c_892 (to_c (pc := 377) rw_170_377 (x := (1 : Int32)) rfl rfl (s_add (pc := 378) rw_170_378 (A := (M.2.1 77 15).toInt) (B := 1) rfl rfl (by omega) (fun v893 e894 => s_pI (pc := 379) rw_170_379 hG890 rfl (fun M896 W895 => ?_))))
                              have hG897 := g_w hG890 W895 (A := v893.toInt) rfl (lo := 0) (hi := 8) rfl rfl (by omega) (by decide)
                              have F898 := FR.w F891 W895 (show 77 = 77 ∧ (15 = 4 ∨ 15 = 5 ∨ 7 ≤ 15 ∧ 15 ≤ 10 ∨ 15 = 15 ∨ 15 = 25) ∨ 80 ≤ 77 ∧ 77 ≤ 84 ∧ 8 ≤ 15 by decide)
                              refine to_c (pc := 382) rw_170_382 (x := (1 : Int32)) rfl rfl (s_r1 (pc := 383) rw_170_383 (A := 1) rfl (by decide) ?_)
                              have j_899 := (RS_f (fun a i z => W_n W895 (tg_52 a i z) rfl) (RS_f (fun a i z => W_n W888 (tg_53 a i _ z) rfl) (RS_f (fun a i z => W_n W884 (tg_54 a i _ z) rfl) (RS_f (fun a i z => W_n W880 (tg_55 a i _ z) rfl) (RS_f (fun a i z => W_n W876 (tg_56 a i _ z) rfl) (RS_f (fun a i z => W_n W872 (tg_57 a i _ z) rfl) (RS_f (fun a i z => W_l W868 rfl) (RS_f (tg_45 F862) p_852.1))))))))
                              have c_900 : M896.2.1 77 10 = (M853.2.1 77 10) := (W_n W895 (by decide) (W_n W888 (fun z => absurd z.1 (by decide)) (W_n W884 (fun z => absurd z.1 (by decide)) (W_n W880 (fun z => absurd z.1 (by decide)) (W_n W876 (fun z => absurd z.1 (by decide)) (W_n W872 (fun z => absurd z.1 (by decide)) (W_l W868 (F_n F862 (show ¬ (77 < 0) by decide) rfl))))))))
                              have t_901 : (M896.2.1 77 10).toInt = (M853.2.1 77 10).toInt := congrArg Int32.toInt c_900
                              have z_902 : x_fC t nn sg (x_ns t nn a) := by unfold x_fC; omega
                              have z_903 := (x_or_r q7 (p_864.trans (x_bw_v (by omega) (by omega))) : _ = _ ||| x_bw (x_val t nn (x_ns t nn (x_ns t nn (x_ns t nn a)))) (x_val t nn (x_ns t nn (x_ns t nn (x_ns t nn (x_ns t nn a))))))
                              have z_904 := PLr_p (nm := (x_val t nn (x_ns t nn a))) (kd := 3) (f := (x_val t nn (x_ns t nn (x_ns t nn (x_ns t nn a))))) (l := (x_val t nn (x_ns t nn (x_ns t nn (x_ns t nn (x_ns t nn a)))))) (c := (x_val t nn (x_ns t nn (x_ns t nn (x_ns t nn (x_ns t nn (x_ns t nn a))))))) j_867 W868 W872 W876 W880 W884 W888 W895 (by omega) z_903 (by omega) (by omega) (by omega) (by omega) (by omega) (by omega) (by omega) (by omega) (by omega) (by omega) (by omega)
                              have j_905 := (CWr_f (fun k hk9 => W_j W895 rfl) (CWr_f (fun k hk9 => W_j W888 rfl) (CWr_f (fun k hk9 => W_j W884 rfl) (CWr_f (fun k hk9 => W_j W880 rfl) (CWr_f (fun k hk9 => W_j W876 rfl) (CWr_f (fun k hk9 => W_j W872 rfl) (CWr_f (fun k hk9 => L_n W868 (by omega) rfl) (CWr_f (fun k hk9 => F_nl F862 (show ¬ (87 < 0) by decide) rfl) (CWr_f (fun k hk9 => F_nl F847 (show ¬ (87 = 77 ∧ 7 ≤ (12 + k) ∧ (12 + k) ≤ 10) by omega) rfl) (CWr_f (fun k hk9 => F_nl F816 (show ¬ (87 = 77 ∧ ((12 + k) = 4 ∨ (12 + k) = 5)) by omega) rfl) (CWr_f (fun k hk9 => F_nl F790 (show ¬ (87 = 77 ∧ 7 ≤ (12 + k) ∧ (12 + k) ≤ 10) by omega) rfl) (CWr_f (fun k hk9 => F_nl F769 (show ¬ (87 < 0) by decide) rfl) (CWr_f (fun k hk9 => F_nl F744 (show ¬ (87 = 77 ∧ ((12 + k) = 4 ∨ (12 + k) = 5)) by omega) rfl) (CWr_f (fun k hk9 => F_nl F720 (show ¬ (87 = 77 ∧ 7 ≤ (12 + k) ∧ (12 + k) ≤ 10) by omega) rfl) (CWr_f (fun k hk9 => F_nl F699 (show ¬ (87 < 0) by decide) rfl) (CWr_f (fun k hk9 => F_nl F675 (show ¬ (87 = 77 ∧ ((12 + k) = 4 ∨ (12 + k) = 5)) by omega) rfl) (CWr_f (fun k hk9 => F_nl F130 (show ¬ (87 = 77 ∧ 7 ≤ (12 + k) ∧ (12 + k) ≤ 10) by omega) rfl) (CWr_f (fun k hk9 => F_nl F74 (show ¬ (87 = 77 ∧ 7 ≤ (12 + k) ∧ (12 + k) ≤ 10) by omega) rfl) (CWr_f (fun k hk9 => F_nl F39 (show ¬ (87 = 77 ∧ ((12 + k) = 4 ∨ (12 + k) = 5)) by omega) rfl) (CWr_f (fun k hk9 => F_nl F19 (show ¬ (87 = 77 ∧ 7 ≤ (12 + k) ∧ (12 + k) ≤ 10) by omega) rfl) q8))))))))))))))))))))
                              have c_906 : M896.2.1 77 4 = (M825.2.1 77 4) := (W_n W895 (by decide) (W_n W888 (fun z => absurd z.1 (by decide)) (W_n W884 (fun z => absurd z.1 (by decide)) (W_n W880 (fun z => absurd z.1 (by decide)) (W_n W876 (fun z => absurd z.1 (by decide)) (W_n W872 (fun z => absurd z.1 (by decide)) (W_l W868 (F_n F862 (show ¬ (77 < 0) by decide) (F_n F847 (show ¬ (77 = 77 ∧ 7 ≤ 4 ∧ 4 ≤ 10) by decide) rfl)))))))))
                              have t_907 : (M896.2.1 77 4).toInt = (M825.2.1 77 4).toInt := congrArg Int32.toInt c_906
                              have c_908 : M896.2.1 77 5 = (M825.2.1 77 5) := (W_n W895 (by decide) (W_n W888 (fun z => absurd z.1 (by decide)) (W_n W884 (fun z => absurd z.1 (by decide)) (W_n W880 (fun z => absurd z.1 (by decide)) (W_n W876 (fun z => absurd z.1 (by decide)) (W_n W872 (fun z => absurd z.1 (by decide)) (W_l W868 (F_n F862 (show ¬ (77 < 0) by decide) (F_n F847 (show ¬ (77 = 77 ∧ 7 ≤ 5 ∧ 5 ≤ 10) by decide) rfl)))))))))
                              have t_909 : (M896.2.1 77 5).toInt = (M825.2.1 77 5).toInt := congrArg Int32.toInt c_908
                              exact h (1 : Int32) M896 hG897 F898 (by decide) (by decide) j_899 (fun z => absurd z (by decide)) (fun _ => ⟨_, (by rw [show (M896.2.1 77 10).toInt = (x_ns t nn (x_ns t nn (x_ns t nn (x_ns t nn (x_ns t nn (x_ns t nn a)))))) by omega]; exact x_field_3 z_902 (by omega)), ⟨z_904, CWr_p j_905⟩, (by show sg.2.1 + 1 + sg.2.2.1 = _; omega)⟩) (by omega)
                          · refine to_i (pc := 294) rw_170_294 rfl (to_go (pc := 296) rw_170_296 (s_v (pc := 300) rw_170_300 (dp0 hd (by decide)) (ls0 := [.ref 77, .int (1 : Int32), .int v806]) rfl (Nat.le_of_ble_eq_true rfl) (Nat.le_of_ble_eq_true rfl) rfl (to_rc rfl rfl rfl (g_o hG791 rfl)) rfl ?_))
                            have k_910 : (1 : Int32).toInt = 1 := rfl
                            have c_911 : M796.2.1 77 4 = (M753.2.1 77 4) := (F_n F790 (show ¬ (77 = 77 ∧ 7 ≤ 4 ∧ 4 ≤ 10) by decide) (F_n F769 (show ¬ (77 < 0) by decide) rfl))
                            have t_912 : (M796.2.1 77 4).toInt = (M753.2.1 77 4).toInt := congrArg Int32.toInt c_911
                            have c_913 : M796.2.1 77 5 = (M753.2.1 77 5) := (F_n F790 (show ¬ (77 = 77 ∧ 7 ≤ 5 ∧ 5 ≤ 10) by decide) (F_n F769 (show ¬ (77 < 0) by decide) rfl))
                            have t_914 : (M796.2.1 77 5).toInt = (M753.2.1 77 5).toInt := congrArg Int32.toInt c_913
                            refine E_162 hX (dp1 hd (by decide)) hG791 p_795.1 (by omega) (by omega) (l := (1 : Int32)) (m := v806) (t := t) (nn := nn) (a := (x_ns t nn (x_ns t nn (x_ns t nn (x_ns t nn (x_ns t nn a)))))) (fun r915 M925 hG917 F916 p_918 p_919 p_920 p_921 p_922 p_923 p_924 => ?_)
                            have F926 := FR.c F797 F916 tg_50
                            rcases (show r915.toInt = 0 ∨ r915.toInt = 1 by omega) with h927 | h927
                            · skip
                              have p_928 := p_921 (by omega)
                              have p_929 := p_922 (by omega)
                              have p_930 := p_923 (by omega)
                              clear p_920 p_921 p_922 p_923 p_924
                              have z_931 := x_val_b (t := t) (nn := nn) (a := (x_ns t nn (x_ns t nn (x_ns t nn (x_ns t nn (x_ns t nn a))))))
                              refine b_ine_f (pc := 303) rw_170_303 (A := r915.toInt) rfl (by omega) (to_c (pc := 306) rw_170_306 (x := (0 : Int32)) rfl rfl (s_r1 (pc := 307) rw_170_307 (A := 0) rfl (by decide) ?_))
                              have j_932 := (RS_f (tg_40 F916) p_795.1)
                              exact h (0 : Int32) M925 hG917 F926 (by decide) (by decide) j_932 (fun _ => (if g9 : x_kind t nn (x_ns t nn (x_ns t nn (x_ns t nn (x_ns t nn (x_ns t nn a))))) = 3 then pinl (by have z9 := p_930.1 g9; omega) (by omega) (xf_52 (show x_fL t nn sg (x_ns t nn a) by unfold x_fL x_fN; omega) (by omega) (show x_fR t nn sg (x_ns t nn a) by unfold x_fR; omega) (by omega) (by omega) g9 (by omega)) else pinl (by have z9 := p_930.2 g9; omega) (by omega) (xf_51 (show x_fL t nn sg (x_ns t nn a) by unfold x_fL x_fN; omega) (by omega) (show x_fR t nn sg (x_ns t nn a) by unfold x_fR; omega) (by omega) (by omega) g9))) (fun z => absurd z (by decide)) (by omega)
                            · skip
                              have p_933 := p_920 (by omega)
                              have p_934 := p_924 (by omega)
                              clear p_920 p_921 p_922 p_923 p_924
                              have c_935 : M925.2.1 77 9 = (M796.2.1 77 9) := (F_n F916 (show ¬ (77 = 77 ∧ (9 = 4 ∨ 9 = 5)) by decide) rfl)
                              have z_936 := x_val_b (t := t) (nn := nn) (a := (x_ns t nn (x_ns t nn (x_ns t nn (x_ns t nn (x_ns t nn a)))))) (by omega)
                              refine b_ine_t (pc := 303) rw_170_303 (A := r915.toInt) rfl (by omega) (to_an (pc := 308) rw_170_308 rfl (tt_gI (pc := 309) rw_170_309 (g_o hG917 rfl) (v := (M796.2.1 77 9)) c_935 (to_is (pc := 312) rw_170_312 (ls2 := [.ref 77, .int v61, .int (M25.2.1 77 9), .int v125, .int (1 : Int32), .int (0 : Int32), .int (M136.2.1 77 9), .int (M726.2.1 77 9), .int (M796.2.1 77 9)]) rfl rfl (to_an (pc := 314) rw_170_314 rfl (s_v (pc := 315) rw_170_315 (dp0 hd (by decide)) (ls0 := [.ref 77]) rfl (Nat.le_of_ble_eq_true rfl) (Nat.le_of_ble_eq_true rfl) rfl (to_rc rfl rfl rfl (g_o hG917 rfl)) rfl ?_)))))
                              have c_937 : M925.2.1 77 7 = (M796.2.1 77 7) := (F_n F916 (show ¬ (77 = 77 ∧ (7 = 4 ∨ 7 = 5)) by decide) rfl)
                              have t_938 : (M925.2.1 77 7).toInt = (M796.2.1 77 7).toInt := congrArg Int32.toInt c_937
                              have c_939 : M925.2.1 77 6 = (M.2.1 77 6) := (F_n F916 (show ¬ (77 = 77 ∧ (6 = 4 ∨ 6 = 5)) by decide) c_799)
                              have t_940 : (M925.2.1 77 6).toInt = (M.2.1 77 6).toInt := congrArg Int32.toInt c_939
                              have c_941 : M925.2.1 77 10 = (M796.2.1 77 10) := (F_n F916 (show ¬ (77 = 77 ∧ (10 = 4 ∨ 10 = 5)) by decide) rfl)
                              have t_942 : (M925.2.1 77 10).toInt = (M796.2.1 77 10).toInt := congrArg Int32.toInt c_941
                              have j_943 := (RS_f (tg_40 F916) p_795.1)
                              have z_944 := RS_b j_943 (a := (x_ns t nn (x_ns t nn (x_ns t nn (x_ns t nn (x_ns t nn a)))))) (by omega)
                              have j_945 := (TR_f (tg_41 F916) (TR_f (tg_42 F790) j_788))
                              have j_946 := (W9_f (tg_43 F916) (W9_f (tg_44 F790) j_789))
                              refine E_156 hX (dp1 hd (by decide)) hG917 (by omega) (by omega) (by omega) (by omega) j_945 j_946  (fun M953 hG948 F947 p_949 p_950 p_951 p_952 => ?_)
                              have F954 := FR.c F926 F947 tg_49
                              have b_955 := g_b hG948 (a := 77) (i := 7) (lo := 0) (hi := 500) rfl rfl
                              have c_956 : M953.2.1 77 6 = (M.2.1 77 6) := (F_n F947 (show ¬ (77 = 77 ∧ 7 ≤ 6 ∧ 6 ≤ 10) by decide) c_939)
                              have t_957 : (M953.2.1 77 6).toInt = (M.2.1 77 6).toInt := congrArg Int32.toInt c_956
                              have b_958 := g_b hG948 (a := 77) (i := 8) (lo := 0) (hi := 5) rfl rfl
                              have b_959 := g_b hG948 (a := 77) (i := 10) (lo := 0) (hi := 500) rfl rfl
                              have z_960 := RS_s p_952.2 (a := (x_ns t nn (x_ns t nn (x_ns t nn (x_ns t nn (x_ns t nn a)))))) (by omega)
                              refine to_an (pc := 318) rw_170_318 rfl (to_dupr (pc := 319) rw_170_319 (tt_gJ (pc := 320) rw_170_320 (g_o hG948 rfl) (v := (M.2.2.1 77 25)) (F_nl F947 (show ¬ (77 = 77 ∧ 7 ≤ 25 ∧ 25 ≤ 10) by decide) (F_nl F916 (show ¬ (77 = 77 ∧ (25 = 4 ∨ 25 = 5)) by decide) (F_nl F790 (show ¬ (77 = 77 ∧ 7 ≤ 25 ∧ 25 ≤ 10) by decide) (F_nl F769 (show ¬ (77 < 0) by decide) (F_nl F744 (show ¬ (77 = 77 ∧ (25 = 4 ∨ 25 = 5)) by decide) (F_nl F720 (show ¬ (77 = 77 ∧ 7 ≤ 25 ∧ 25 ≤ 10) by decide) (F_nl F699 (show ¬ (77 < 0) by decide) (F_nl F675 (show ¬ (77 = 77 ∧ (25 = 4 ∨ 25 = 5)) by decide) (F_nl F130 (show ¬ (77 = 77 ∧ 7 ≤ 25 ∧ 25 ≤ 10) by decide) (F_nl F74 (show ¬ (77 = 77 ∧ 7 ≤ 25 ∧ 25 ≤ 10) by decide) (F_nl F39 (show ¬ (77 = 77 ∧ (25 = 4 ∨ 25 = 5)) by decide) (F_nl F19 (show ¬ (77 = 77 ∧ 7 ≤ 25 ∧ 25 ≤ 10) by decide) rfl)))))))))))) (to_i (pc := 323) rw_170_323 rfl (to_i (pc := 325) rw_170_325 rfl (s_s (pc := 327) rw_170_327 (dp0 hd (by decide)) (ls0 := [.int (M136.2.1 77 9), .int (M726.2.1 77 9), .null, .null, .null]) rfl (Nat.le_of_ble_eq_true rfl) (Nat.le_of_ble_eq_true rfl) rfl (to_rcs rfl rfl) rfl (E_168 hX (dp1 hd (by decide)) hG948 (by omega) (by omega) (by omega) (by omega) (by omega) (a := (M136.2.1 77 9)) (b := (M726.2.1 77 9)) (fun r961 M965 hG963 F962 p_964 => ?_)))))))
                              have F966 := FR.c F954 F962 tg_51
                              refine to_2l (pc := 330) rw_170_330 (v := ((M.2.2.1 77 25) ||| r961)) rfl ?_
                              have j_967 := (PLr_f (tg_47 F962) (F_nl F962 (show ¬ (77 < 0) by decide) rfl) (PLr_f (tg_39 F947) (F_nl F947 (show ¬ (77 = 77 ∧ 7 ≤ 25 ∧ 25 ≤ 10) by decide) rfl) (PLr_f (tg_48 F916) (F_nl F916 (show ¬ (77 = 77 ∧ (25 = 4 ∨ 25 = 5)) by decide) rfl) (PLr_f (tg_39 F790) (F_nl F790 (show ¬ (77 = 77 ∧ 7 ≤ 25 ∧ 25 ≤ 10) by decide) rfl) (PLr_f (tg_47 F769) (F_nl F769 (show ¬ (77 < 0) by decide) rfl) (PLr_f (tg_48 F744) (F_nl F744 (show ¬ (77 = 77 ∧ (25 = 4 ∨ 25 = 5)) by decide) rfl) (PLr_f (tg_39 F720) (F_nl F720 (show ¬ (77 = 77 ∧ 7 ≤ 25 ∧ 25 ≤ 10) by decide) rfl) (PLr_f (tg_47 F699) (F_nl F699 (show ¬ (77 < 0) by decide) rfl) (PLr_f (tg_48 F675) (F_nl F675 (show ¬ (77 = 77 ∧ (25 = 4 ∨ 25 = 5)) by decide) rfl) (PLr_f (tg_39 F130) (F_nl F130 (show ¬ (77 = 77 ∧ 7 ≤ 25 ∧ 25 ≤ 10) by decide) rfl) (PLr_f (tg_39 F74) (F_nl F74 (show ¬ (77 = 77 ∧ 7 ≤ 25 ∧ 25 ≤ 10) by decide) rfl) (PLr_f (tg_48 F39) (F_nl F39 (show ¬ (77 = 77 ∧ (25 = 4 ∨ 25 = 5)) by decide) rfl) j_37))))))))))))
                              refine s_pJ (pc := 331) rw_170_331 hG963 rfl (fun M969 W968 => ?_)
                              have hG970 := g_wl hG963 W968
                              have F971 := FR.wl F966 W968 (show 77 = 77 ∧ (25 = 4 ∨ 25 = 5 ∨ 7 ≤ 25 ∧ 25 ≤ 10 ∨ 25 = 15 ∨ 25 = 25) ∨ 80 ≤ 77 ∧ 77 ≤ 84 ∧ 8 ≤ 25 by decide)
                              refine to_an (pc := 334) rw_170_334 rfl (s_gR (pc := 335) rw_170_335 hG970 rfl (v := 80) rfl (to_in (pc := 338) rw_170_338 rfl (to_in (pc := 339) rw_170_339 rfl (s_ias (pc := 340) rw_170_340 hG970 rfl (n := 16) rfl (A := v61.toInt) rfl (by omega) (by omega) (fun M973 W972 => ?_)))))
                              have hG974 := g_wf hG970 W972 rfl rfl (by decide)
                              have F975 := FR.w F971 W972 (show 80 = 77 ∧ ((v61.toInt).toNat = 4 ∨ (v61.toInt).toNat = 5 ∨ 7 ≤ (v61.toInt).toNat ∧ (v61.toInt).toNat ≤ 10 ∨ (v61.toInt).toNat = 15 ∨ (v61.toInt).toNat = 25) ∨ 80 ≤ 80 ∧ 80 ≤ 84 ∧ 8 ≤ (v61.toInt).toNat by omega)
                              refine to_an (pc := 341) rw_170_341 rfl (s_gR (pc := 342) rw_170_342 hG974 rfl (v := 81) rfl (to_in (pc := 345) rw_170_345 rfl (to_in (pc := 346) rw_170_346 rfl (s_ias (pc := 347) rw_170_347 hG974 rfl (n := 16) rfl (A := v61.toInt) rfl (by omega) (by omega) (fun M977 W976 => ?_)))))
                              have hG978 := g_w hG974 W976 (A := v125.toInt) rfl (lo := 0) (hi := 3) rfl rfl (by omega) (by decide)
                              have F979 := FR.w F975 W976 (show 81 = 77 ∧ ((v61.toInt).toNat = 4 ∨ (v61.toInt).toNat = 5 ∨ 7 ≤ (v61.toInt).toNat ∧ (v61.toInt).toNat ≤ 10 ∨ (v61.toInt).toNat = 15 ∨ (v61.toInt).toNat = 25) ∨ 80 ≤ 81 ∧ 81 ≤ 84 ∧ 8 ≤ (v61.toInt).toNat by omega)
                              refine to_an (pc := 348) rw_170_348 rfl (s_gR (pc := 349) rw_170_349 hG978 rfl (v := 82) rfl (to_in (pc := 352) rw_170_352 rfl (to_i (pc := 353) rw_170_353 rfl (s_ias (pc := 355) rw_170_355 hG978 rfl (n := 16) rfl (A := v61.toInt) rfl (by omega) (by omega) (fun M981 W980 => ?_)))))
                              have hG982 := g_w hG978 W980 (A := (M136.2.1 77 9).toInt) rfl (lo := 0) (hi := 59) rfl rfl (by omega) (by decide)
                              have F983 := FR.w F979 W980 (show 82 = 77 ∧ ((v61.toInt).toNat = 4 ∨ (v61.toInt).toNat = 5 ∨ 7 ≤ (v61.toInt).toNat ∧ (v61.toInt).toNat ≤ 10 ∨ (v61.toInt).toNat = 15 ∨ (v61.toInt).toNat = 25) ∨ 80 ≤ 82 ∧ 82 ≤ 84 ∧ 8 ≤ (v61.toInt).toNat by omega)
                              refine to_an (pc := 356) rw_170_356 rfl (s_gR (pc := 357) rw_170_357 hG982 rfl (v := 83) rfl (to_in (pc := 360) rw_170_360 rfl (to_i (pc := 361) rw_170_361 rfl (s_ias (pc := 363) rw_170_363 hG982 rfl (n := 16) rfl (A := v61.toInt) rfl (by omega) (by omega) (fun M985 W984 => ?_)))))
                              have hG986 := g_w hG982 W984 (A := (M726.2.1 77 9).toInt) rfl (lo := 0) (hi := 63) rfl rfl (by omega) (by decide)
                              have F987 := FR.w F983 W984 (show 83 = 77 ∧ ((v61.toInt).toNat = 4 ∨ (v61.toInt).toNat = 5 ∨ 7 ≤ (v61.toInt).toNat ∧ (v61.toInt).toNat ≤ 10 ∨ (v61.toInt).toNat = 15 ∨ (v61.toInt).toNat = 25) ∨ 80 ≤ 83 ∧ 83 ≤ 84 ∧ 8 ≤ (v61.toInt).toNat by omega)
                              refine to_an (pc := 364) rw_170_364 rfl (s_gR (pc := 365) rw_170_365 hG986 rfl (v := 84) rfl (to_in (pc := 368) rw_170_368 rfl (to_i (pc := 369) rw_170_369 rfl (s_ias (pc := 371) rw_170_371 hG986 rfl (n := 16) rfl (A := v61.toInt) rfl (by omega) (by omega) (fun M989 W988 => ?_)))))
                              have hG990 := g_w hG986 W988 (A := (M796.2.1 77 9).toInt) rfl (lo := 0) (hi := 24) rfl rfl (by omega) (by decide)
                              have F991 := FR.w F987 W988 (show 84 = 77 ∧ ((v61.toInt).toNat = 4 ∨ (v61.toInt).toNat = 5 ∨ 7 ≤ (v61.toInt).toNat ∧ (v61.toInt).toNat ≤ 10 ∨ (v61.toInt).toNat = 15 ∨ (v61.toInt).toNat = 25) ∨ 80 ≤ 84 ∧ 84 ≤ 84 ∧ 8 ≤ (v61.toInt).toNat by omega)
                              refine to_an (pc := 372) rw_170_372 rfl (to_dupr (pc := 373) rw_170_373 ?_)
                              have c_992 : M989.2.1 77 15 = (M.2.1 77 15) := (W_n W988 (fun z => absurd z.1 (by decide)) (W_n W984 (fun z => absurd z.1 (by decide)) (W_n W980 (fun z => absurd z.1 (by decide)) (W_n W976 (fun z => absurd z.1 (by decide)) (W_n W972 (fun z => absurd z.1 (by decide)) (W_l W968 (F_n F962 (show ¬ (77 < 0) by decide) (F_n F947 (show ¬ (77 = 77 ∧ 7 ≤ 15 ∧ 15 ≤ 10) by decide) (F_n F916 (show ¬ (77 = 77 ∧ (15 = 4 ∨ 15 = 5)) by decide) (F_n F790 (show ¬ (77 = 77 ∧ 7 ≤ 15 ∧ 15 ≤ 10) by decide) (F_n F769 (show ¬ (77 < 0) by decide) (F_n F744 (show ¬ (77 = 77 ∧ (15 = 4 ∨ 15 = 5)) by decide) (F_n F720 (show ¬ (77 = 77 ∧ 7 ≤ 15 ∧ 15 ≤ 10) by decide) (F_n F699 (show ¬ (77 < 0) by decide) (F_n F675 (show ¬ (77 = 77 ∧ (15 = 4 ∨ 15 = 5)) by decide) (F_n F130 (show ¬ (77 = 77 ∧ 7 ≤ 15 ∧ 15 ≤ 10) by decide) (F_n F74 (show ¬ (77 = 77 ∧ 7 ≤ 15 ∧ 15 ≤ 10) by decide) c_60)))))))))))))))))
                              refine tt_gI (pc := 374) rw_170_374 (g_o hG990 rfl) (v := (M.2.1 77 15)) c_992 (to_c (pc := 377) rw_170_377 (x := (1 : Int32)) rfl rfl (s_add (pc := 378) rw_170_378 (A := (M.2.1 77 15).toInt) (B := 1) rfl rfl (by omega) (fun v993 e994 => s_pI (pc := 379) rw_170_379 hG990 rfl (fun M996 W995 => ?_))))
                              have hG997 := g_w hG990 W995 (A := v993.toInt) rfl (lo := 0) (hi := 8) rfl rfl (by omega) (by decide)
                              have F998 := FR.w F991 W995 (show 77 = 77 ∧ (15 = 4 ∨ 15 = 5 ∨ 7 ≤ 15 ∧ 15 ≤ 10 ∨ 15 = 15 ∨ 15 = 25) ∨ 80 ≤ 77 ∧ 77 ≤ 84 ∧ 8 ≤ 15 by decide)
                              refine to_c (pc := 382) rw_170_382 (x := (1 : Int32)) rfl rfl (s_r1 (pc := 383) rw_170_383 (A := 1) rfl (by decide) ?_)
                              have j_999 := (RS_f (fun a i z => W_n W995 (tg_52 a i z) rfl) (RS_f (fun a i z => W_n W988 (tg_53 a i _ z) rfl) (RS_f (fun a i z => W_n W984 (tg_54 a i _ z) rfl) (RS_f (fun a i z => W_n W980 (tg_55 a i _ z) rfl) (RS_f (fun a i z => W_n W976 (tg_56 a i _ z) rfl) (RS_f (fun a i z => W_n W972 (tg_57 a i _ z) rfl) (RS_f (fun a i z => W_l W968 rfl) (RS_f (tg_45 F962) p_952.1))))))))
                              have c_1000 : M996.2.1 77 10 = (M953.2.1 77 10) := (W_n W995 (by decide) (W_n W988 (fun z => absurd z.1 (by decide)) (W_n W984 (fun z => absurd z.1 (by decide)) (W_n W980 (fun z => absurd z.1 (by decide)) (W_n W976 (fun z => absurd z.1 (by decide)) (W_n W972 (fun z => absurd z.1 (by decide)) (W_l W968 (F_n F962 (show ¬ (77 < 0) by decide) rfl))))))))
                              have t_1001 : (M996.2.1 77 10).toInt = (M953.2.1 77 10).toInt := congrArg Int32.toInt c_1000
                              have z_1002 : x_fC t nn sg (x_ns t nn a) := by unfold x_fC; omega
                              have z_1003 := (x_or_r q7 (p_964.trans (x_bw_v (by omega) (by omega))) : _ = _ ||| x_bw (x_val t nn (x_ns t nn (x_ns t nn (x_ns t nn a)))) (x_val t nn (x_ns t nn (x_ns t nn (x_ns t nn (x_ns t nn a))))))
                              have z_1004 := PLr_p (nm := (x_val t nn (x_ns t nn a))) (kd := 3) (f := (x_val t nn (x_ns t nn (x_ns t nn (x_ns t nn a))))) (l := (x_val t nn (x_ns t nn (x_ns t nn (x_ns t nn (x_ns t nn a)))))) (c := (x_val t nn (x_ns t nn (x_ns t nn (x_ns t nn (x_ns t nn (x_ns t nn a))))))) j_967 W968 W972 W976 W980 W984 W988 W995 (by omega) z_1003 (by omega) (by omega) (by omega) (by omega) (by omega) (by omega) (by omega) (by omega) (by omega) (by omega) (by omega)
                              have j_1005 := (CWr_f (fun k hk9 => W_j W995 rfl) (CWr_f (fun k hk9 => W_j W988 rfl) (CWr_f (fun k hk9 => W_j W984 rfl) (CWr_f (fun k hk9 => W_j W980 rfl) (CWr_f (fun k hk9 => W_j W976 rfl) (CWr_f (fun k hk9 => W_j W972 rfl) (CWr_f (fun k hk9 => L_n W968 (by omega) rfl) (CWr_f (fun k hk9 => F_nl F962 (show ¬ (87 < 0) by decide) rfl) (CWr_f (fun k hk9 => F_nl F947 (show ¬ (87 = 77 ∧ 7 ≤ (12 + k) ∧ (12 + k) ≤ 10) by omega) rfl) (CWr_f (fun k hk9 => F_nl F916 (show ¬ (87 = 77 ∧ ((12 + k) = 4 ∨ (12 + k) = 5)) by omega) rfl) (CWr_f (fun k hk9 => F_nl F790 (show ¬ (87 = 77 ∧ 7 ≤ (12 + k) ∧ (12 + k) ≤ 10) by omega) rfl) (CWr_f (fun k hk9 => F_nl F769 (show ¬ (87 < 0) by decide) rfl) (CWr_f (fun k hk9 => F_nl F744 (show ¬ (87 = 77 ∧ ((12 + k) = 4 ∨ (12 + k) = 5)) by omega) rfl) (CWr_f (fun k hk9 => F_nl F720 (show ¬ (87 = 77 ∧ 7 ≤ (12 + k) ∧ (12 + k) ≤ 10) by omega) rfl) (CWr_f (fun k hk9 => F_nl F699 (show ¬ (87 < 0) by decide) rfl) (CWr_f (fun k hk9 => F_nl F675 (show ¬ (87 = 77 ∧ ((12 + k) = 4 ∨ (12 + k) = 5)) by omega) rfl) (CWr_f (fun k hk9 => F_nl F130 (show ¬ (87 = 77 ∧ 7 ≤ (12 + k) ∧ (12 + k) ≤ 10) by omega) rfl) (CWr_f (fun k hk9 => F_nl F74 (show ¬ (87 = 77 ∧ 7 ≤ (12 + k) ∧ (12 + k) ≤ 10) by omega) rfl) (CWr_f (fun k hk9 => F_nl F39 (show ¬ (87 = 77 ∧ ((12 + k) = 4 ∨ (12 + k) = 5)) by omega) rfl) (CWr_f (fun k hk9 => F_nl F19 (show ¬ (87 = 77 ∧ 7 ≤ (12 + k) ∧ (12 + k) ≤ 10) by omega) rfl) q8))))))))))))))))))))
                              have c_1006 : M996.2.1 77 4 = (M925.2.1 77 4) := (W_n W995 (by decide) (W_n W988 (fun z => absurd z.1 (by decide)) (W_n W984 (fun z => absurd z.1 (by decide)) (W_n W980 (fun z => absurd z.1 (by decide)) (W_n W976 (fun z => absurd z.1 (by decide)) (W_n W972 (fun z => absurd z.1 (by decide)) (W_l W968 (F_n F962 (show ¬ (77 < 0) by decide) (F_n F947 (show ¬ (77 = 77 ∧ 7 ≤ 4 ∧ 4 ≤ 10) by decide) rfl)))))))))
                              have t_1007 : (M996.2.1 77 4).toInt = (M925.2.1 77 4).toInt := congrArg Int32.toInt c_1006
                              have c_1008 : M996.2.1 77 5 = (M925.2.1 77 5) := (W_n W995 (by decide) (W_n W988 (fun z => absurd z.1 (by decide)) (W_n W984 (fun z => absurd z.1 (by decide)) (W_n W980 (fun z => absurd z.1 (by decide)) (W_n W976 (fun z => absurd z.1 (by decide)) (W_n W972 (fun z => absurd z.1 (by decide)) (W_l W968 (F_n F962 (show ¬ (77 < 0) by decide) (F_n F947 (show ¬ (77 = 77 ∧ 7 ≤ 5 ∧ 5 ≤ 10) by decide) rfl)))))))))
                              have t_1009 : (M996.2.1 77 5).toInt = (M925.2.1 77 5).toInt := congrArg Int32.toInt c_1008
                              exact h (1 : Int32) M996 hG997 F998 (by decide) (by decide) j_999 (fun z => absurd z (by decide)) (fun _ => ⟨_, (by rw [show (M996.2.1 77 10).toInt = (x_ns t nn (x_ns t nn (x_ns t nn (x_ns t nn (x_ns t nn (x_ns t nn a)))))) by omega]; exact x_field_3 z_1002 (by omega)), ⟨z_1004, CWr_p j_1005⟩, (by show sg.2.1 + 1 + sg.2.2.1 = _; omega)⟩) (by omega)
                        · refine to_an (pc := 262) rw_170_262 rfl (to_c (pc := 263) rw_170_263 (x := (3 : Int32)) rfl rfl (s_v (pc := 264) rw_170_264 (dp0 hd (by decide)) (ls0 := [.ref 77, .int (3 : Int32)]) rfl (Nat.le_of_ble_eq_true rfl) (Nat.le_of_ble_eq_true rfl) rfl (to_rc rfl rfl rfl (g_o hG770 rfl)) rfl (to_an (pc := 0) rw_152_0 rfl (to_in (pc := 1) rw_152_1 rfl (s_pI (pc := 2) rw_152_2 hG770 rfl (fun M1011 W1010 => ?_))))))
                          have hG1012 := g_wf hG770 W1010 rfl rfl (by decide)
                          have F1013 := FR.w F773 W1010 (show 77 = 77 ∧ (4 = 4 ∨ 4 = 5 ∨ 7 ≤ 4 ∧ 4 ≤ 10 ∨ 4 = 15 ∨ 4 = 25) ∨ 80 ≤ 77 ∧ 77 ≤ 84 ∧ 8 ≤ 4 by decide)
                          refine to_an (pc := 5) rw_152_5 rfl (to_an (pc := 6) rw_152_6 rfl ?_)
                          have c_1014 : M1011.2.1 77 10 = (M726.2.1 77 10) := (W_n W1010 (by decide) (F_n F769 (show ¬ (77 < 0) by decide) (F_n F744 (show ¬ (77 = 77 ∧ (10 = 4 ∨ 10 = 5)) by decide) rfl)))
                          refine tt_gI (pc := 7) rw_152_7 (g_o hG1012 rfl) (v := (M726.2.1 77 10)) c_1014 (s_pI (pc := 10) rw_152_10 hG1012 rfl (fun M1016 W1015 => ?_))
                          have hG1017 := g_wf hG1012 W1015 rfl rfl (by decide)
                          have F1018 := FR.w F1013 W1015 (show 77 = 77 ∧ (5 = 4 ∨ 5 = 5 ∨ 7 ≤ 5 ∧ 5 ≤ 10 ∨ 5 = 15 ∨ 5 = 25) ∨ 80 ≤ 77 ∧ 77 ≤ 84 ∧ 8 ≤ 5 by decide)
                          refine to_c (pc := 13) rw_152_13 (x := (0 : Int32)) rfl rfl (s_r1 (pc := 14) rw_152_14 (A := 0) rfl (by decide) (s_r1 (pc := 267) rw_170_267 (A := 0) rfl (by decide) ?_))
                          have j_1019 := (RS_f (fun a i z => W_n W1015 (tg_37 a i z) rfl) (RS_f (fun a i z => W_n W1010 (tg_38 a i z) rfl) (RS_f (tg_45 F769) (RS_f (tg_40 F744) p_725.1))))
                          have c_1020 : M1016.2.1 77 4 = (3 : Int32) := (W_n W1015 (by decide) (W_e W1010))
                          have k_1021 : (3 : Int32).toInt = 3 := rfl
                          have t_1022 : (M1016.2.1 77 4).toInt = (3 : Int32).toInt := congrArg Int32.toInt c_1020
                          have c_1023 : M1016.2.1 77 5 = (M726.2.1 77 10) := (W_e W1015)
                          have t_1024 : (M1016.2.1 77 5).toInt = (M726.2.1 77 10).toInt := congrArg Int32.toInt c_1023
                          exact h (0 : Int32) M1016 hG1017 F1018 (by decide) (by decide) j_1019 (fun _ => pinl (by omega) (by omega) (xf_43 (show x_fL t nn sg (x_ns t nn a) by unfold x_fL x_fN; omega) (by omega) (show x_fR t nn sg (x_ns t nn a) by unfold x_fR; omega) (by omega))) (fun z => absurd z (by decide)) (by omega)
                      · refine to_an (pc := 239) rw_170_239 rfl (to_c (pc := 240) rw_170_240 (x := (2 : Int32)) rfl rfl (s_v (pc := 241) rw_170_241 (dp0 hd (by decide)) (ls0 := [.ref 77, .int (2 : Int32)]) rfl (Nat.le_of_ble_eq_true rfl) (Nat.le_of_ble_eq_true rfl) rfl (to_rc rfl rfl rfl (g_o hG745 rfl)) rfl (to_an (pc := 0) rw_152_0 rfl (to_in (pc := 1) rw_152_1 rfl (s_pI (pc := 2) rw_152_2 hG745 rfl (fun M1026 W1025 => ?_))))))
                        have hG1027 := g_wf hG745 W1025 rfl rfl (by decide)
                        have F1028 := FR.w F754 W1025 (show 77 = 77 ∧ (4 = 4 ∨ 4 = 5 ∨ 7 ≤ 4 ∧ 4 ≤ 10 ∨ 4 = 15 ∨ 4 = 25) ∨ 80 ≤ 77 ∧ 77 ≤ 84 ∧ 8 ≤ 4 by decide)
                        refine to_an (pc := 5) rw_152_5 rfl (to_an (pc := 6) rw_152_6 rfl ?_)
                        have c_1029 : M1026.2.1 77 10 = (M726.2.1 77 10) := (W_n W1025 (by decide) (F_n F744 (show ¬ (77 = 77 ∧ (10 = 4 ∨ 10 = 5)) by decide) rfl))
                        refine tt_gI (pc := 7) rw_152_7 (g_o hG1027 rfl) (v := (M726.2.1 77 10)) c_1029 (s_pI (pc := 10) rw_152_10 hG1027 rfl (fun M1031 W1030 => ?_))
                        have hG1032 := g_wf hG1027 W1030 rfl rfl (by decide)
                        have F1033 := FR.w F1028 W1030 (show 77 = 77 ∧ (5 = 4 ∨ 5 = 5 ∨ 7 ≤ 5 ∧ 5 ≤ 10 ∨ 5 = 15 ∨ 5 = 25) ∨ 80 ≤ 77 ∧ 77 ≤ 84 ∧ 8 ≤ 5 by decide)
                        refine to_c (pc := 13) rw_152_13 (x := (0 : Int32)) rfl rfl (s_r1 (pc := 14) rw_152_14 (A := 0) rfl (by decide) (s_r1 (pc := 244) rw_170_244 (A := 0) rfl (by decide) ?_))
                        have j_1034 := (RS_f (fun a i z => W_n W1030 (tg_37 a i z) rfl) (RS_f (fun a i z => W_n W1025 (tg_38 a i z) rfl) (RS_f (tg_40 F744) p_725.1)))
                        have c_1035 : M1031.2.1 77 4 = (2 : Int32) := (W_n W1030 (by decide) (W_e W1025))
                        have k_1036 : (2 : Int32).toInt = 2 := rfl
                        have t_1037 : (M1031.2.1 77 4).toInt = (2 : Int32).toInt := congrArg Int32.toInt c_1035
                        have c_1038 : M1031.2.1 77 5 = (M726.2.1 77 10) := (W_e W1030)
                        have t_1039 : (M1031.2.1 77 5).toInt = (M726.2.1 77 10).toInt := congrArg Int32.toInt c_1038
                        exact h (0 : Int32) M1031 hG1032 F1033 (by decide) (by decide) j_1034 (fun _ => pinl (by omega) (by omega) (xf_42 (show x_fL t nn sg (x_ns t nn a) by unfold x_fL x_fN; omega) (by omega) (fun h8 => by unfold x_fR at h8; omega))) (fun z => absurd z (by decide)) (by omega)
                  · refine to_an (pc := 169) rw_170_169 rfl (to_c (pc := 170) rw_170_170 (x := (3 : Int32)) rfl rfl (s_v (pc := 171) rw_170_171 (dp0 hd (by decide)) (ls0 := [.ref 77, .int (3 : Int32)]) rfl (Nat.le_of_ble_eq_true rfl) (Nat.le_of_ble_eq_true rfl) rfl (to_rc rfl rfl rfl (g_o hG700 rfl)) rfl (to_an (pc := 0) rw_152_0 rfl (to_in (pc := 1) rw_152_1 rfl (s_pI (pc := 2) rw_152_2 hG700 rfl (fun M1041 W1040 => ?_))))))
                    have hG1042 := g_wf hG700 W1040 rfl rfl (by decide)
                    have F1043 := FR.w F703 W1040 (show 77 = 77 ∧ (4 = 4 ∨ 4 = 5 ∨ 7 ≤ 4 ∧ 4 ≤ 10 ∨ 4 = 15 ∨ 4 = 25) ∨ 80 ≤ 77 ∧ 77 ≤ 84 ∧ 8 ≤ 4 by decide)
                    refine to_an (pc := 5) rw_152_5 rfl (to_an (pc := 6) rw_152_6 rfl ?_)
                    have c_1044 : M1041.2.1 77 10 = (M136.2.1 77 10) := (W_n W1040 (by decide) (F_n F699 (show ¬ (77 < 0) by decide) (F_n F675 (show ¬ (77 = 77 ∧ (10 = 4 ∨ 10 = 5)) by decide) rfl)))
                    refine tt_gI (pc := 7) rw_152_7 (g_o hG1042 rfl) (v := (M136.2.1 77 10)) c_1044 (s_pI (pc := 10) rw_152_10 hG1042 rfl (fun M1046 W1045 => ?_))
                    have hG1047 := g_wf hG1042 W1045 rfl rfl (by decide)
                    have F1048 := FR.w F1043 W1045 (show 77 = 77 ∧ (5 = 4 ∨ 5 = 5 ∨ 7 ≤ 5 ∧ 5 ≤ 10 ∨ 5 = 15 ∨ 5 = 25) ∨ 80 ≤ 77 ∧ 77 ≤ 84 ∧ 8 ≤ 5 by decide)
                    refine to_c (pc := 13) rw_152_13 (x := (0 : Int32)) rfl rfl (s_r1 (pc := 14) rw_152_14 (A := 0) rfl (by decide) (s_r1 (pc := 174) rw_170_174 (A := 0) rfl (by decide) ?_))
                    have j_1049 := (RS_f (fun a i z => W_n W1045 (tg_37 a i z) rfl) (RS_f (fun a i z => W_n W1040 (tg_38 a i z) rfl) (RS_f (tg_45 F699) (RS_f (tg_40 F675) p_135.1))))
                    have c_1050 : M1046.2.1 77 4 = (3 : Int32) := (W_n W1045 (by decide) (W_e W1040))
                    have k_1051 : (3 : Int32).toInt = 3 := rfl
                    have t_1052 : (M1046.2.1 77 4).toInt = (3 : Int32).toInt := congrArg Int32.toInt c_1050
                    have c_1053 : M1046.2.1 77 5 = (M136.2.1 77 10) := (W_e W1045)
                    have t_1054 : (M1046.2.1 77 5).toInt = (M136.2.1 77 10).toInt := congrArg Int32.toInt c_1053
                    exact h (0 : Int32) M1046 hG1047 F1048 (by decide) (by decide) j_1049 (fun _ => pinl (by omega) (by omega) (xf_33l (show x_fN t nn sg (x_ns t nn a) by unfold x_fN; omega) (by omega) (by omega) (by omega))) (fun z => absurd z (by decide)) (by omega)
          · refine to_an (pc := 70) rw_170_70 rfl (to_c (pc := 71) rw_170_71 (x := (1 : Int32)) rfl rfl (s_v (pc := 72) rw_170_72 (dp0 hd (by decide)) (ls0 := [.ref 77, .int (1 : Int32)]) rfl (Nat.le_of_ble_eq_true rfl) (Nat.le_of_ble_eq_true rfl) rfl (to_rc rfl rfl rfl (g_o hG75 rfl)) rfl (to_an (pc := 0) rw_152_0 rfl (to_in (pc := 1) rw_152_1 rfl (s_pI (pc := 2) rw_152_2 hG75 rfl (fun M1056 W1055 => ?_))))))
            have hG1057 := g_wf hG75 W1055 rfl rfl (by decide)
            have F1058 := FR.w F81 W1055 (show 77 = 77 ∧ (4 = 4 ∨ 4 = 5 ∨ 7 ≤ 4 ∧ 4 ≤ 10 ∨ 4 = 15 ∨ 4 = 25) ∨ 80 ≤ 77 ∧ 77 ≤ 84 ∧ 8 ≤ 4 by decide)
            refine to_an (pc := 5) rw_152_5 rfl (to_an (pc := 6) rw_152_6 rfl ?_)
            have c_1059 : M1056.2.1 77 10 = (M80.2.1 77 10) := (W_n W1055 (by decide) rfl)
            refine tt_gI (pc := 7) rw_152_7 (g_o hG1057 rfl) (v := (M80.2.1 77 10)) c_1059 (s_pI (pc := 10) rw_152_10 hG1057 rfl (fun M1061 W1060 => ?_))
            have hG1062 := g_wf hG1057 W1060 rfl rfl (by decide)
            have F1063 := FR.w F1058 W1060 (show 77 = 77 ∧ (5 = 4 ∨ 5 = 5 ∨ 7 ≤ 5 ∧ 5 ≤ 10 ∨ 5 = 15 ∨ 5 = 25) ∨ 80 ≤ 77 ∧ 77 ≤ 84 ∧ 8 ≤ 5 by decide)
            refine to_c (pc := 13) rw_152_13 (x := (0 : Int32)) rfl rfl (s_r1 (pc := 14) rw_152_14 (A := 0) rfl (by decide) (s_r1 (pc := 75) rw_170_75 (A := 0) rfl (by decide) ?_))
            have k_1064 : (0 : Int32).toInt = 0 := rfl
            have j_1065 := (RS_f (fun a i z => W_n W1060 (tg_37 a i z) rfl) (RS_f (fun a i z => W_n W1055 (tg_38 a i z) rfl) p_79.1))
            have c_1066 : M1061.2.1 77 4 = (1 : Int32) := (W_n W1060 (by decide) (W_e W1055))
            have k_1067 : (1 : Int32).toInt = 1 := rfl
            have t_1068 : (M1061.2.1 77 4).toInt = (1 : Int32).toInt := congrArg Int32.toInt c_1066
            have c_1069 : M1061.2.1 77 5 = (M80.2.1 77 10) := (W_e W1060)
            have t_1070 : (M1061.2.1 77 5).toInt = (M80.2.1 77 10).toInt := congrArg Int32.toInt c_1069
            exact h (0 : Int32) M1061 hG1062 F1063 (by decide) (by decide) j_1065 (fun _ => pinl (by omega) (by omega) (xf_21 (show x_fN t nn sg (x_ns t nn a) by unfold x_fN; omega) (by omega))) (fun z => absurd z (by decide)) (by omega)
  · refine to_an (pc := 9) rw_170_9 rfl (to_c (pc := 10) rw_170_10 (x := (2 : Int32)) rfl rfl (s_v (pc := 11) rw_170_11 (dp0 hd (by decide)) (ls0 := [.ref 77, .int (2 : Int32)]) rfl (Nat.le_of_ble_eq_true rfl) (Nat.le_of_ble_eq_true rfl) rfl (to_rc rfl rfl rfl (g_o hG rfl)) rfl (to_an (pc := 0) rw_152_0 rfl (to_in (pc := 1) rw_152_1 rfl (s_pI (pc := 2) rw_152_2 hG rfl (fun M1072 W1071 => ?_))))))
    have hG1073 := g_wf hG W1071 rfl rfl (by decide)
    have F1074 := FR.w F0 W1071 (show 77 = 77 ∧ (4 = 4 ∨ 4 = 5 ∨ 7 ≤ 4 ∧ 4 ≤ 10 ∨ 4 = 15 ∨ 4 = 25) ∨ 80 ≤ 77 ∧ 77 ≤ 84 ∧ 8 ≤ 4 by decide)
    refine to_an (pc := 5) rw_152_5 rfl (to_an (pc := 6) rw_152_6 rfl ?_)
    have c_1075 : M1072.2.1 77 10 = (M.2.1 77 10) := (W_n W1071 (by decide) rfl)
    refine tt_gI (pc := 7) rw_152_7 (g_o hG1073 rfl) (v := (M.2.1 77 10)) c_1075 (s_pI (pc := 10) rw_152_10 hG1073 rfl (fun M1077 W1076 => ?_))
    have hG1078 := g_wf hG1073 W1076 rfl rfl (by decide)
    have F1079 := FR.w F1074 W1076 (show 77 = 77 ∧ (5 = 4 ∨ 5 = 5 ∨ 7 ≤ 5 ∧ 5 ≤ 10 ∨ 5 = 15 ∨ 5 = 25) ∨ 80 ≤ 77 ∧ 77 ≤ 84 ∧ 8 ≤ 5 by decide)
    refine to_c (pc := 13) rw_152_13 (x := (0 : Int32)) rfl rfl (s_r1 (pc := 14) rw_152_14 (A := 0) rfl (by decide) (s_r1 (pc := 14) rw_170_14 (A := 0) rfl (by decide) ?_))
    have k_1080 : (0 : Int32).toInt = 0 := rfl
    have j_1081 := (RS_f (fun a i z => W_n W1076 (tg_37 a i z) rfl) (RS_f (fun a i z => W_n W1071 (tg_38 a i z) rfl) q1))
    have c_1082 : M1077.2.1 77 4 = (2 : Int32) := (W_n W1076 (by decide) (W_e W1071))
    have k_1083 : (2 : Int32).toInt = 2 := rfl
    have t_1084 : (M1077.2.1 77 4).toInt = (2 : Int32).toInt := congrArg Int32.toInt c_1082
    have c_1085 : M1077.2.1 77 5 = (M.2.1 77 10) := (W_e W1076)
    have t_1086 : (M1077.2.1 77 5).toInt = (M.2.1 77 10).toInt := congrArg Int32.toInt c_1085
    exact h (0 : Int32) M1077 hG1078 F1079 (by decide) (by decide) j_1081 (fun _ => pinl (by omega) (by omega) (xf_02 (by omega))) (fun z => absurd z (by decide)) (by omega)
