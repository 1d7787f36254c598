set_option maxRecDepth 4000 in
set_option maxHeartbeats 0 in
theorem E_170 {X : mm_X} {d : Nat} {M : mm_M} {Q : Option Value → mm_M → Prop} {t : Nat → Int} {nn : Int} {a : Int} {sg : x_S} {k : x_K} (hX : g_X X) (hd : 3 ≤ d) (hG : g_G M) (q1 : RS M t nn) (q2 : (M.2.1 77 10).toInt = a) (q3 : 0 ≤ nn) (q4 : nn ≤ 500) (q5 : TR M t nn) (q6 : W9 M) (q7 : PLr M sg) (h : ∀ (r : Int32) (M1 : mm_M), g_G M1 → FR md_fl170 M M1 → (0 ≤ r.toInt) → (r.toInt ≤ 1) → RS M1 t nn → ((r.toInt = 0 → x_field t nn sg (x_ns t nn a) k = none)) → ((r.toInt = 1 → FOr (x_field t nn sg (x_ns t nn a) k) k M1 sg)) → Q (some (.int r)) M1) : mm_T X d 169 0 [.ref 77, .null, .null, .null, .null, .null, .null, .null, .null] [] M Q := by
  have F0 : FR md_fl170 M M := FR.rf
  have b_1 := g_b hG (a := 77) (i := 10) (lo := 0) (hi := 500) rfl rfl
  have z_2 := q7.2.1
  have z_3 := q7.2.2.1
  have z_4 := q7.2.2.2.1
  have z_5 := q7.1
  have z_6 := z_5.1
  have z_7 := z_5.2.1
  have z_8 := z_5.2.2.1
  have z_9 := z_5.2.2.2.1
  have z_10 := z_5.2.2.2.2.1
  have z_11 := z_5.2.2.2.2.2.1
  have b_12 := g_b hG (a := 77) (i := 14) (lo := 10) (hi := 60) rfl rfl
  have b_13 := g_b hG (a := 77) (i := 15) (lo := 0) (hi := 8) rfl rfl
  have b_14 := g_b hG (a := 77) (i := 16) (lo := 0) (hi := 12) rfl rfl
  refine to_an (pc := 0) rw_170_0 rfl ?_
  refine tt_gI (pc := 1) rw_170_1 (g_o hG rfl) (v := (M.2.1 77 15)) rfl ?_
  refine to_c (pc := 4) rw_170_4 (x := (8 : Int32)) rfl rfl ?_
  refine b_cne (pc := 6) rw_170_6 (A := (M.2.1 77 15).toInt) (B := 8) rfl rfl (fun h15 => ?_) (fun h15 => ?_)
  · refine to_an (pc := 15) rw_170_15 rfl ?_
    refine s_v (pc := 16) rw_170_16 (by omega) (ls0 := [.ref 77]) rfl (Nat.le_of_ble_eq_true rfl) (Nat.le_of_ble_eq_true rfl) rfl (to_rc rfl rfl rfl (g_o hG rfl)) rfl ?_
    have b_16 := g_b hG (a := 77) (i := 7) (lo := 0) (hi := 500) rfl rfl
    have b_17 := g_b hG (a := 77) (i := 6) (lo := 0) (hi := 500) rfl rfl
    have z_18 := RS_b q1 (a := a) (by omega)
    refine E_156 hX (by omega) hG (by omega) (by omega) (by omega) (by omega) q5 q6  (fun M25 hG20 F19 p_21 p_22 p_23 p_24 => ?_)
    have F26 := FR.c F0 F19 (fun a i z => show a = 77 ∧ (i = 4 ∨ i = 5 ∨ 7 ≤ i ∧ i ≤ 10 ∨ i = 15 ∨ i = 25) ∨ 80 ≤ a ∧ a ≤ 84 ∧ 8 ≤ i by have z : a = 77 ∧ 7 ≤ i ∧ i ≤ 10 := z; omega)
    have b_27 := g_b hG20 (a := 77) (i := 7) (lo := 0) (hi := 500) rfl rfl
    have c_28 : M25.2.1 77 6 = (M.2.1 77 6) := (F_n F19 (show ¬ (77 = 77 ∧ 7 ≤ 6 ∧ 6 ≤ 10) by omega) rfl)
    have t_29 : (M25.2.1 77 6).toInt = (M.2.1 77 6).toInt := congrArg Int32.toInt c_28
    have b_30 := g_b hG20 (a := 77) (i := 8) (lo := 0) (hi := 5) rfl rfl
    have b_31 := g_b hG20 (a := 77) (i := 10) (lo := 0) (hi := 500) rfl rfl
    have z_32 := RS_s p_24.2 (a := a) (by omega)
    refine to_an (pc := 19) rw_170_19 rfl ?_
    refine s_v (pc := 20) rw_170_20 (by omega) (ls0 := [.ref 77]) rfl (Nat.le_of_ble_eq_true rfl) (Nat.le_of_ble_eq_true rfl) rfl (to_rc rfl rfl rfl (g_o hG20 rfl)) rfl ?_
    have j_33 := (PLr_f (fun a i z => F_n F19 (show ¬ (a = 77 ∧ 7 ≤ i ∧ i ≤ 10) by omega) rfl) (F_nl F19 (show ¬ (77 = 77 ∧ 7 ≤ 25 ∧ 25 ≤ 10) by omega) rfl) q7)
    refine E_169 hX (by omega) hG20 p_24.1 (by omega) j_33 (t := t) (nn := nn) (a := (x_ns t nn a)) (sg := sg) (fun r34 M42 hG36 F35 p_37 p_38 p_39 p_40 p_41 => ?_)
    have F43 := FR.c F26 F35 (fun a i z => show a = 77 ∧ (i = 4 ∨ i = 5 ∨ 7 ≤ i ∧ i ≤ 10 ∨ i = 15 ∨ i = 25) ∨ 80 ≤ a ∧ a ≤ 84 ∧ 8 ≤ i by have z : a = 77 ∧ (i = 4 ∨ i = 5) := z; omega)
    rcases (show r34.toInt = 0 ∨ r34.toInt = 1 by omega) with h44 | h44
    · skip
      have p_45 := p_41 (by omega)
      clear p_39 p_40 p_41
      refine b_ine_f (pc := 23) rw_170_23 (A := r34.toInt) rfl (by omega) ?_
      refine to_c (pc := 26) rw_170_26 (x := (0 : Int32)) rfl rfl ?_
      refine s_r1 (pc := 27) rw_170_27 (A := 0) rfl (by omega) ?_
      have k_46 : (0 : Int32).toInt = 0 := rfl
      have j_47 := (RS_f (fun a i z => F_n F35 (show ¬ (a = 77 ∧ (i = 4 ∨ i = 5)) by omega) rfl) p_24.1)
      exact h (0 : Int32) M42 hG36 F43 (by omega) (by omega) j_47 (fun _ => x_field_n (fun h9 => by unfold x_fC at h9; omega)) (fun z => absurd z (by decide))
    · skip
      have p_48 := p_39 (by omega)
      have p_49 := p_40 (by omega)
      clear p_39 p_40 p_41
      refine b_ine_t (pc := 23) rw_170_23 (A := r34.toInt) rfl (by omega) ?_
      refine to_c (pc := 28) rw_170_28 (x := (8 : Int32)) rfl rfl ?_
      refine to_an (pc := 30) rw_170_30 rfl ?_
      have c_50 : M42.2.1 77 15 = (M.2.1 77 15) := (F_n F35 (show ¬ (77 = 77 ∧ (15 = 4 ∨ 15 = 5)) by omega) (F_n F19 (show ¬ (77 = 77 ∧ 7 ≤ 15 ∧ 15 ≤ 10) by omega) rfl))
      refine tt_gI (pc := 31) rw_170_31 (g_o hG36 rfl) (v := (M.2.1 77 15)) c_50 ?_
      refine s_add (pc := 34) rw_170_34 (A := 8) (B := (M.2.1 77 15).toInt) rfl rfl (by omega) (fun v51 e52 => ?_)
      refine to_isn (pc := 35) rw_170_35 (ls2 := [.ref 77, .int v51, .null, .null, .null, .null, .null, .null, .null]) rfl rfl ?_
      refine to_an (pc := 36) rw_170_36 rfl ?_
      have c_53 : M42.2.1 77 9 = (M25.2.1 77 9) := (F_n F35 (show ¬ (77 = 77 ∧ (9 = 4 ∨ 9 = 5)) by omega) rfl)
      refine tt_gI (pc := 37) rw_170_37 (g_o hG36 rfl) (v := (M25.2.1 77 9)) c_53 ?_
      refine to_isn (pc := 40) rw_170_40 (ls2 := [.ref 77, .int v51, .int (M25.2.1 77 9), .null, .null, .null, .null, .null, .null]) rfl rfl ?_
      refine to_an (pc := 41) rw_170_41 rfl ?_
      refine s_v (pc := 42) rw_170_42 (by omega) (ls0 := [.ref 77]) rfl (Nat.le_of_ble_eq_true rfl) (Nat.le_of_ble_eq_true rfl) rfl (to_rc rfl rfl rfl (g_o hG36 rfl)) rfl ?_
      have c_54 : M42.2.1 77 7 = (M25.2.1 77 7) := (F_n F35 (show ¬ (77 = 77 ∧ (7 = 4 ∨ 7 = 5)) by omega) rfl)
      have t_55 : (M42.2.1 77 7).toInt = (M25.2.1 77 7).toInt := congrArg Int32.toInt c_54
      have c_56 : M42.2.1 77 6 = (M.2.1 77 6) := (F_n F35 (show ¬ (77 = 77 ∧ (6 = 4 ∨ 6 = 5)) by omega) c_28)
      have t_57 : (M42.2.1 77 6).toInt = (M.2.1 77 6).toInt := congrArg Int32.toInt c_56
      have c_58 : M42.2.1 77 10 = (M25.2.1 77 10) := (F_n F35 (show ¬ (77 = 77 ∧ (10 = 4 ∨ 10 = 5)) by omega) rfl)
      have t_59 : (M42.2.1 77 10).toInt = (M25.2.1 77 10).toInt := congrArg Int32.toInt c_58
      have j_60 := (RS_f (fun a i z => F_n F35 (show ¬ (a = 77 ∧ (i = 4 ∨ i = 5)) by omega) rfl) p_24.1)
      have z_61 := RS_b j_60 (a := (x_ns t nn a)) (by omega)
      have j_62 := (TR_f (fun a i z => F_n F35 (show ¬ (a = 77 ∧ (i = 4 ∨ i = 5)) by omega) rfl) (TR_f (fun a i z => F_n F19 (show ¬ (a = 77 ∧ 7 ≤ i ∧ i ≤ 10) by omega) rfl) q5))
      have j_63 := (W9_f (fun a i z => F_n F35 (show ¬ (a = 77 ∧ (i = 4 ∨ i = 5)) by omega) rfl) (W9_f (fun a i z => F_n F19 (show ¬ (a = 77 ∧ 7 ≤ i ∧ i ≤ 10) by omega) rfl) q6))
      refine E_156 hX (by omega) hG36 (by omega) (by omega) (by omega) (by omega) j_62 j_63  (fun M70 hG65 F64 p_66 p_67 p_68 p_69 => ?_)
      have F71 := FR.c F43 F64 (fun a i z => show a = 77 ∧ (i = 4 ∨ i = 5 ∨ 7 ≤ i ∧ i ≤ 10 ∨ i = 15 ∨ i = 25) ∨ 80 ≤ a ∧ a ≤ 84 ∧ 8 ≤ i by have z : a = 77 ∧ 7 ≤ i ∧ i ≤ 10 := z; omega)
      have b_72 := g_b hG65 (a := 77) (i := 7) (lo := 0) (hi := 500) rfl rfl
      have c_73 : M70.2.1 77 6 = (M.2.1 77 6) := (F_n F64 (show ¬ (77 = 77 ∧ 7 ≤ 6 ∧ 6 ≤ 10) by omega) c_56)
      have t_74 : (M70.2.1 77 6).toInt = (M.2.1 77 6).toInt := congrArg Int32.toInt c_73
      have b_75 := g_b hG65 (a := 77) (i := 8) (lo := 0) (hi := 5) rfl rfl
      have b_76 := g_b hG65 (a := 77) (i := 10) (lo := 0) (hi := 500) rfl rfl
      have z_77 := RS_s p_69.2 (a := (x_ns t nn a)) (by omega)
      have c_78 := RS_u p_69.1 (a := (x_ns t nn (x_ns t nn a))) (by omega)
      unfold x_R at c_78
      refine to_an (pc := 45) rw_170_45 rfl ?_
      refine tt_gI (pc := 46) rw_170_46 (g_o hG65 rfl) (v := (M70.2.1 77 8)) rfl ?_
      refine to_c (pc := 49) rw_170_49 (x := (1 : Int32)) rfl rfl ?_
      refine b_cne (pc := 50) rw_170_50 (A := (M70.2.1 77 8).toInt) (B := 1) rfl rfl (fun h79 => ?_) (fun h79 => ?_)
      · refine to_an (pc := 70) rw_170_70 rfl ?_
        refine to_c (pc := 71) rw_170_71 (x := (1 : Int32)) rfl rfl ?_
        refine s_v (pc := 72) rw_170_72 (by omega) (ls0 := [.ref 77, .int (1 : Int32)]) rfl (Nat.le_of_ble_eq_true rfl) (Nat.le_of_ble_eq_true rfl) rfl (to_rc rfl rfl rfl (g_o hG65 rfl)) rfl ?_
        refine to_an (pc := 0) rw_152_0 rfl ?_
        refine to_in (pc := 1) rw_152_1 rfl ?_
        refine s_pI (pc := 2) rw_152_2 hG65 rfl (fun M81 W80 => ?_)
        have hG82 := g_wf hG65 W80 rfl rfl (by decide)
        have F83 := FR.w F71 W80 (show 77 = 77 ∧ (4 = 4 ∨ 4 = 5 ∨ 7 ≤ 4 ∧ 4 ≤ 10 ∨ 4 = 15 ∨ 4 = 25) ∨ 80 ≤ 77 ∧ 77 ≤ 84 ∧ 8 ≤ 4 by omega)
        refine to_an (pc := 5) rw_152_5 rfl ?_
        refine to_an (pc := 6) rw_152_6 rfl ?_
        have c_84 : M81.2.1 77 10 = (M70.2.1 77 10) := (W_n W80 (by decide) rfl)
        refine tt_gI (pc := 7) rw_152_7 (g_o hG82 rfl) (v := (M70.2.1 77 10)) c_84 ?_
        refine s_pI (pc := 10) rw_152_10 hG82 rfl (fun M86 W85 => ?_)
        have hG87 := g_wf hG82 W85 rfl rfl (by decide)
        have F88 := FR.w F83 W85 (show 77 = 77 ∧ (5 = 4 ∨ 5 = 5 ∨ 7 ≤ 5 ∧ 5 ≤ 10 ∨ 5 = 15 ∨ 5 = 25) ∨ 80 ≤ 77 ∧ 77 ≤ 84 ∧ 8 ≤ 5 by omega)
        refine to_c (pc := 13) rw_152_13 (x := (0 : Int32)) rfl rfl ?_
        refine s_r1 (pc := 14) rw_152_14 (A := 0) rfl (by omega) ?_
        refine s_r1 (pc := 75) rw_170_75 (A := 0) rfl (by omega) ?_
        have k_89 : (0 : Int32).toInt = 0 := rfl
        have j_90 := (RS_f (fun a i z => W_n W85 (by omega) rfl) (RS_f (fun a i z => W_n W80 (by omega) rfl) p_69.1))
        exact h (0 : Int32) M86 hG87 F88 (by omega) (by omega) j_90 (fun _ => x_field_n (fun h9 => by unfold x_fC at h9; omega)) (fun z => absurd z (by decide))
      · refine to_an (pc := 53) rw_170_53 rfl ?_
        refine tt_gI (pc := 54) rw_170_54 (g_o hG65 rfl) (v := (M70.2.1 77 9)) rfl ?_
        refine to_c (pc := 57) rw_170_57 (x := (3 : Int32)) rfl rfl ?_
        refine b_clt (pc := 58) rw_170_58 (A := (M70.2.1 77 9).toInt) (B := 3) rfl rfl (fun h91 => ?_) (fun h91 => ?_)
        · refine to_an (pc := 70) rw_170_70 rfl ?_
          refine to_c (pc := 71) rw_170_71 (x := (1 : Int32)) rfl rfl ?_
          refine s_v (pc := 72) rw_170_72 (by omega) (ls0 := [.ref 77, .int (1 : Int32)]) rfl (Nat.le_of_ble_eq_true rfl) (Nat.le_of_ble_eq_true rfl) rfl (to_rc rfl rfl rfl (g_o hG65 rfl)) rfl ?_
          refine to_an (pc := 0) rw_152_0 rfl ?_
          refine to_in (pc := 1) rw_152_1 rfl ?_
          refine s_pI (pc := 2) rw_152_2 hG65 rfl (fun M93 W92 => ?_)
          have hG94 := g_wf hG65 W92 rfl rfl (by decide)
          have F95 := FR.w F71 W92 (show 77 = 77 ∧ (4 = 4 ∨ 4 = 5 ∨ 7 ≤ 4 ∧ 4 ≤ 10 ∨ 4 = 15 ∨ 4 = 25) ∨ 80 ≤ 77 ∧ 77 ≤ 84 ∧ 8 ≤ 4 by omega)
          refine to_an (pc := 5) rw_152_5 rfl ?_
          refine to_an (pc := 6) rw_152_6 rfl ?_
          have c_96 : M93.2.1 77 10 = (M70.2.1 77 10) := (W_n W92 (by decide) rfl)
          refine tt_gI (pc := 7) rw_152_7 (g_o hG94 rfl) (v := (M70.2.1 77 10)) c_96 ?_
          refine s_pI (pc := 10) rw_152_10 hG94 rfl (fun M98 W97 => ?_)
          have hG99 := g_wf hG94 W97 rfl rfl (by decide)
          have F100 := FR.w F95 W97 (show 77 = 77 ∧ (5 = 4 ∨ 5 = 5 ∨ 7 ≤ 5 ∧ 5 ≤ 10 ∨ 5 = 15 ∨ 5 = 25) ∨ 80 ≤ 77 ∧ 77 ≤ 84 ∧ 8 ≤ 5 by omega)
          refine to_c (pc := 13) rw_152_13 (x := (0 : Int32)) rfl rfl ?_
          refine s_r1 (pc := 14) rw_152_14 (A := 0) rfl (by omega) ?_
          refine s_r1 (pc := 75) rw_170_75 (A := 0) rfl (by omega) ?_
          have k_101 : (0 : Int32).toInt = 0 := rfl
          have j_102 := (RS_f (fun a i z => W_n W97 (by omega) rfl) (RS_f (fun a i z => W_n W92 (by omega) rfl) p_69.1))
          exact h (0 : Int32) M98 hG99 F100 (by omega) (by omega) j_102 (fun _ => x_field_n (fun h9 => by unfold x_fC at h9; omega)) (fun z => absurd z (by decide))
        · refine to_an (pc := 61) rw_170_61 rfl ?_
          refine tt_gI (pc := 62) rw_170_62 (g_o hG65 rfl) (v := (M70.2.1 77 9)) rfl ?_
          refine to_c (pc := 65) rw_170_65 (x := (6 : Int32)) rfl rfl ?_
          refine b_cle (pc := 67) rw_170_67 (A := (M70.2.1 77 9).toInt) (B := 6) rfl rfl (fun h103 => ?_) (fun h103 => ?_)
          · have z_104 : x_kind t nn (x_ns t nn (x_ns t nn a)) = 1 ∧ (x_kx (x_val t nn (x_ns t nn (x_ns t nn a)))) = (M70.2.1 77 9).toInt := by omega
            clear c_78
            refine to_an (pc := 76) rw_170_76 rfl ?_
            refine tt_gI (pc := 77) rw_170_77 (g_o hG65 rfl) (v := (M70.2.1 77 9)) rfl ?_
            refine to_c (pc := 80) rw_170_80 (x := (3 : Int32)) rfl rfl ?_
            refine s_sub (pc := 81) rw_170_81 (A := (M70.2.1 77 9).toInt) (B := 3) rfl rfl (by omega) (fun v105 e106 => ?_)
            refine to_isn (pc := 82) rw_170_82 (ls2 := [.ref 77, .int v51, .int (M25.2.1 77 9), .int v105, .null, .null, .null, .null, .null]) rfl rfl ?_
            refine to_an (pc := 83) rw_170_83 rfl ?_
            refine s_v (pc := 84) rw_170_84 (by omega) (ls0 := [.ref 77]) rfl (Nat.le_of_ble_eq_true rfl) (Nat.le_of_ble_eq_true rfl) rfl (to_rc rfl rfl rfl (g_o hG65 rfl)) rfl ?_
            have z_107 := RS_b p_69.1 (a := (x_ns t nn (x_ns t nn a))) (by omega)
            have j_108 := (TR_f (fun a i z => F_n F64 (show ¬ (a = 77 ∧ 7 ≤ i ∧ i ≤ 10) by omega) rfl) j_62)
            have j_109 := (W9_f (fun a i z => F_n F64 (show ¬ (a = 77 ∧ 7 ≤ i ∧ i ≤ 10) by omega) rfl) j_63)
            refine E_156 hX (by omega) hG65 (by omega) (by omega) (by omega) (by omega) j_108 j_109  (fun M116 hG111 F110 p_112 p_113 p_114 p_115 => ?_)
            have F117 := FR.c F71 F110 (fun a i z => show a = 77 ∧ (i = 4 ∨ i = 5 ∨ 7 ≤ i ∧ i ≤ 10 ∨ i = 15 ∨ i = 25) ∨ 80 ≤ a ∧ a ≤ 84 ∧ 8 ≤ i by have z : a = 77 ∧ 7 ≤ i ∧ i ≤ 10 := z; omega)
            have b_118 := g_b hG111 (a := 77) (i := 7) (lo := 0) (hi := 500) rfl rfl
            have c_119 : M116.2.1 77 6 = (M.2.1 77 6) := (F_n F110 (show ¬ (77 = 77 ∧ 7 ≤ 6 ∧ 6 ≤ 10) by omega) c_73)
            have t_120 : (M116.2.1 77 6).toInt = (M.2.1 77 6).toInt := congrArg Int32.toInt c_119
            have b_121 := g_b hG111 (a := 77) (i := 8) (lo := 0) (hi := 5) rfl rfl
            have b_122 := g_b hG111 (a := 77) (i := 10) (lo := 0) (hi := 500) rfl rfl
            have z_123 := RS_s p_115.2 (a := (x_ns t nn (x_ns t nn a))) (by omega)
            refine to_in (pc := 87) rw_170_87 rfl ?_
            refine b_ieq (pc := 88) rw_170_88 (A := v105.toInt) rfl (fun h124 => ?_) (fun h124 => ?_)
            · refine to_c (pc := 96) rw_170_96 (x := (1 : Int32)) rfl rfl ?_
              refine to_go (pc := 97) rw_170_97 ?_
              refine to_is (pc := 101) rw_170_101 (ls2 := [.ref 77, .int v51, .int (M25.2.1 77 9), .int v105, .int (1 : Int32), .null, .null, .null, .null]) rfl rfl ?_
              refine to_in (pc := 103) rw_170_103 rfl ?_
              refine to_c (pc := 104) rw_170_104 (x := (1 : Int32)) rfl rfl ?_
              refine b_cne_t (pc := 105) rw_170_105 (A := v105.toInt) (B := 1) rfl rfl (by omega) ?_
              refine to_in (pc := 112) rw_170_112 rfl ?_
              refine to_c (pc := 113) rw_170_113 (x := (2 : Int32)) rfl rfl ?_
              refine b_cne_t (pc := 114) rw_170_114 (A := v105.toInt) (B := 2) rfl rfl (by omega) ?_
              refine to_c (pc := 121) rw_170_121 (x := (0 : Int32)) rfl rfl ?_
              refine to_is (pc := 122) rw_170_122 (ls2 := [.ref 77, .int v51, .int (M25.2.1 77 9), .int v105, .int (1 : Int32), .int (0 : Int32), .null, .null, .null]) rfl rfl ?_
              refine to_an (pc := 124) rw_170_124 rfl ?_
              refine to_c (pc := 125) rw_170_125 (x := (0 : Int32)) rfl rfl ?_
              refine to_an (pc := 126) rw_170_126 rfl ?_
              have c_125 : M116.2.1 77 14 = (M.2.1 77 14) := (F_n F110 (show ¬ (77 = 77 ∧ 7 ≤ 14 ∧ 14 ≤ 10) by omega) (F_n F64 (show ¬ (77 = 77 ∧ 7 ≤ 14 ∧ 14 ≤ 10) by omega) (F_n F35 (show ¬ (77 = 77 ∧ (14 = 4 ∨ 14 = 5)) by omega) (F_n F19 (show ¬ (77 = 77 ∧ 7 ≤ 14 ∧ 14 ≤ 10) by omega) rfl))))
              refine tt_gI (pc := 127) rw_170_127 (g_o hG111 rfl) (v := (M.2.1 77 14)) c_125 ?_
              refine to_c (pc := 130) rw_170_130 (x := (1 : Int32)) rfl rfl ?_
              refine s_sub (pc := 131) rw_170_131 (A := (M.2.1 77 14).toInt) (B := 1) rfl rfl (by omega) (fun v126 e127 => ?_)
              refine to_i (pc := 132) rw_170_132 rfl ?_
              refine s_sub (pc := 134) rw_170_134 (A := v126.toInt) (B := 0) rfl rfl (by omega) (fun v128 e129 => ?_)
              refine s_v (pc := 135) rw_170_135 (by omega) (ls0 := [.ref 77, .int (0 : Int32), .int v128]) rfl (Nat.le_of_ble_eq_true rfl) (Nat.le_of_ble_eq_true rfl) rfl (to_rc rfl rfl rfl (g_o hG111 rfl)) rfl ?_
              have k_130 : (0 : Int32).toInt = 0 := rfl
              refine E_162 hX (by omega) hG111 p_115.1 (by omega) (by omega) (l := (0 : Int32)) (m := v128) (t := t) (nn := nn) (a := (x_ns t nn (x_ns t nn (x_ns t nn a)))) (fun r131 M138 hG133 F132 p_134 p_135 p_136 p_137 => ?_)
              have F139 := FR.c F117 F132 (fun a i z => show a = 77 ∧ (i = 4 ∨ i = 5 ∨ 7 ≤ i ∧ i ≤ 10 ∨ i = 15 ∨ i = 25) ∨ 80 ≤ a ∧ a ≤ 84 ∧ 8 ≤ i by have z : a = 77 ∧ (i = 4 ∨ i = 5) := z; omega)
              rcases (show r131.toInt = 0 ∨ r131.toInt = 1 by omega) with h140 | h140
              · skip
                have p_141 := p_137 (by omega)
                clear p_136 p_137
                have z_142 := x_val_b (t := t) (nn := nn) (a := (x_ns t nn (x_ns t nn (x_ns t nn a))))
                refine b_ine_f (pc := 138) rw_170_138 (A := r131.toInt) rfl (by omega) ?_
                refine to_c (pc := 141) rw_170_141 (x := (0 : Int32)) rfl rfl ?_
                refine s_r1 (pc := 142) rw_170_142 (A := 0) rfl (by omega) ?_
                have j_143 := (RS_f (fun a i z => F_n F132 (show ¬ (a = 77 ∧ (i = 4 ∨ i = 5)) by omega) rfl) p_115.1)
                exact h (0 : Int32) M138 hG133 F139 (by omega) (by omega) j_143 (fun _ => x_field_n (fun h9 => by unfold x_fC at h9; omega)) (fun z => absurd z (by decide))
              · skip
                have p_144 := p_136 (by omega)
                clear p_136 p_137
                have c_145 : M138.2.1 77 9 = (M116.2.1 77 9) := (F_n F132 (show ¬ (77 = 77 ∧ (9 = 4 ∨ 9 = 5)) by omega) rfl)
                have z_146 := x_val_b (t := t) (nn := nn) (a := (x_ns t nn (x_ns t nn (x_ns t nn a)))) (by omega)
                refine b_ine_t (pc := 138) rw_170_138 (A := r131.toInt) rfl (by omega) ?_
                refine to_an (pc := 143) rw_170_143 rfl ?_
                refine tt_gI (pc := 144) rw_170_144 (g_o hG133 rfl) (v := (M116.2.1 77 9)) c_145 ?_
                refine to_is (pc := 147) rw_170_147 (ls2 := [.ref 77, .int v51, .int (M25.2.1 77 9), .int v105, .int (1 : Int32), .int (0 : Int32), .int (M116.2.1 77 9), .null, .null]) rfl rfl ?_
                refine to_an (pc := 149) rw_170_149 rfl ?_
                refine tt_gJ (pc := 150) rw_170_150 (g_o hG133 rfl) (v := (M.2.2.1 77 25)) (F_nl F132 (show ¬ (77 = 77 ∧ (25 = 4 ∨ 25 = 5)) by omega) (F_nl F110 (show ¬ (77 = 77 ∧ 7 ≤ 25 ∧ 25 ≤ 10) by omega) (F_nl F64 (show ¬ (77 = 77 ∧ 7 ≤ 25 ∧ 25 ≤ 10) by omega) (F_nl F35 (show ¬ (77 = 77 ∧ (25 = 4 ∨ 25 = 5)) by omega) (F_nl F19 (show ¬ (77 = 77 ∧ 7 ≤ 25 ∧ 25 ≤ 10) by omega) rfl))))) ?_
                refine to_i (pc := 153) rw_170_153 rfl ?_
                refine to_i (pc := 155) rw_170_155 rfl ?_
                refine to_i (pc := 157) rw_170_157 rfl ?_
                refine s_add (pc := 159) rw_170_159 (A := (M116.2.1 77 9).toInt) (B := 0) rfl rfl (by omega) (fun v147 e148 => ?_)
                refine s_s (pc := 160) rw_170_160 (by omega) (ls0 := [.int (M116.2.1 77 9), .int v147, .null, .null, .null]) rfl (Nat.le_of_ble_eq_true rfl) (Nat.le_of_ble_eq_true rfl) rfl (to_rcs rfl rfl) rfl ?_
                refine E_168 hX (by omega) hG133 (by omega) (by omega) (by omega) (by omega) (by omega) (a := (M116.2.1 77 9)) (b := v147) (fun r149 M153 hG151 F150 p_152 => ?_)
                have F154 := FR.c F139 F150 (fun a i z => show a = 77 ∧ (i = 4 ∨ i = 5 ∨ 7 ≤ i ∧ i ≤ 10 ∨ i = 15 ∨ i = 25) ∨ 80 ≤ a ∧ a ≤ 84 ∧ 8 ≤ i by have z : a < 0 := z; omega)
                refine to_2l (pc := 163) rw_170_163 (v := ((M.2.2.1 77 25) &&& r149)) rfl ?_
                refine to_cl (pc := 164) rw_170_164 rfl (x := (0 : Int64)) rfl ?_
                refine s_lcmpE (pc := 165) rw_170_165 (fun v155 e156 => ?_)
                have b_157 := x_eq_b (x := ((M.2.2.1 77 25) &&& r149)) (y := (0 : Int64))
                have z_158 := x_free_r q7 p_152
                have z_159 := x_free_v (s := sg) (f := (M116.2.1 77 9).toInt) (l := v147.toInt) (f2 := (x_val t nn (x_ns t nn (x_ns t nn (x_ns t nn a))))) (l2 := (x_val t nn (x_ns t nn (x_ns t nn (x_ns t nn a))))) (by omega) (by omega)
                refine b_ieq (pc := 166) rw_170_166 (A := v155.toInt) rfl (fun h160 => ?_) (fun h160 => ?_)
                · refine to_an (pc := 175) rw_170_175 rfl ?_
                  refine s_v (pc := 176) rw_170_176 (by omega) (ls0 := [.ref 77]) rfl (Nat.le_of_ble_eq_true rfl) (Nat.le_of_ble_eq_true rfl) rfl (to_rc rfl rfl rfl (g_o hG151 rfl)) rfl ?_
                  have c_161 : M153.2.1 77 7 = (M116.2.1 77 7) := (F_n F150 (show ¬ (77 < 0) by omega) (F_n F132 (show ¬ (77 = 77 ∧ (7 = 4 ∨ 7 = 5)) by omega) rfl))
                  have t_162 : (M153.2.1 77 7).toInt = (M116.2.1 77 7).toInt := congrArg Int32.toInt c_161
                  have c_163 : M153.2.1 77 6 = (M.2.1 77 6) := (F_n F150 (show ¬ (77 < 0) by omega) (F_n F132 (show ¬ (77 = 77 ∧ (6 = 4 ∨ 6 = 5)) by omega) c_119))
                  have t_164 : (M153.2.1 77 6).toInt = (M.2.1 77 6).toInt := congrArg Int32.toInt c_163
                  have c_165 : M153.2.1 77 10 = (M116.2.1 77 10) := (F_n F150 (show ¬ (77 < 0) by omega) (F_n F132 (show ¬ (77 = 77 ∧ (10 = 4 ∨ 10 = 5)) by omega) rfl))
                  have t_166 : (M153.2.1 77 10).toInt = (M116.2.1 77 10).toInt := congrArg Int32.toInt c_165
                  have j_167 := (RS_f (fun a i z => F_n F150 (show ¬ (a < 0) by omega) rfl) (RS_f (fun a i z => F_n F132 (show ¬ (a = 77 ∧ (i = 4 ∨ i = 5)) by omega) rfl) p_115.1))
                  have z_168 := RS_b j_167 (a := (x_ns t nn (x_ns t nn (x_ns t nn a)))) (by omega)
                  have j_169 := (TR_f (fun a i z => F_n F150 (show ¬ (a < 0) by omega) rfl) (TR_f (fun a i z => F_n F132 (show ¬ (a = 77 ∧ (i = 4 ∨ i = 5)) by omega) rfl) (TR_f (fun a i z => F_n F110 (show ¬ (a = 77 ∧ 7 ≤ i ∧ i ≤ 10) by omega) rfl) j_108)))
                  have j_170 := (W9_f (fun a i z => F_n F150 (show ¬ (a < 0) by omega) rfl) (W9_f (fun a i z => F_n F132 (show ¬ (a = 77 ∧ (i = 4 ∨ i = 5)) by omega) rfl) (W9_f (fun a i z => F_n F110 (show ¬ (a = 77 ∧ 7 ≤ i ∧ i ≤ 10) by omega) rfl) j_109)))
                  refine E_156 hX (by omega) hG151 (by omega) (by omega) (by omega) (by omega) j_169 j_170  (fun M177 hG172 F171 p_173 p_174 p_175 p_176 => ?_)
                  have F178 := FR.c F154 F171 (fun a i z => show a = 77 ∧ (i = 4 ∨ i = 5 ∨ 7 ≤ i ∧ i ≤ 10 ∨ i = 15 ∨ i = 25) ∨ 80 ≤ a ∧ a ≤ 84 ∧ 8 ≤ i by have z : a = 77 ∧ 7 ≤ i ∧ i ≤ 10 := z; omega)
                  have b_179 := g_b hG172 (a := 77) (i := 7) (lo := 0) (hi := 500) rfl rfl
                  have c_180 : M177.2.1 77 6 = (M.2.1 77 6) := (F_n F171 (show ¬ (77 = 77 ∧ 7 ≤ 6 ∧ 6 ≤ 10) by omega) c_163)
                  have t_181 : (M177.2.1 77 6).toInt = (M.2.1 77 6).toInt := congrArg Int32.toInt c_180
                  have b_182 := g_b hG172 (a := 77) (i := 8) (lo := 0) (hi := 5) rfl rfl
                  have b_183 := g_b hG172 (a := 77) (i := 10) (lo := 0) (hi := 500) rfl rfl
                  have z_184 := RS_s p_176.2 (a := (x_ns t nn (x_ns t nn (x_ns t nn a)))) (by omega)
                  refine to_i (pc := 179) rw_170_179 rfl ?_
                  refine to_i (pc := 181) rw_170_181 rfl ?_
                  refine s_add (pc := 183) rw_170_183 (A := (M116.2.1 77 9).toInt) (B := 0) rfl rfl (by omega) (fun v185 e186 => ?_)
                  refine to_is (pc := 184) rw_170_184 (ls2 := [.ref 77, .int v51, .int (M25.2.1 77 9), .int v105, .int (1 : Int32), .int (0 : Int32), .int (M116.2.1 77 9), .int v185, .null]) rfl rfl ?_
                  refine to_c (pc := 186) rw_170_186 (x := (10 : Int32)) rfl rfl ?_
                  refine to_is (pc := 188) rw_170_188 (ls2 := [.ref 77, .int v51, .int (M25.2.1 77 9), .int v105, .int (1 : Int32), .int (0 : Int32), .int (M116.2.1 77 9), .int v185, .int (10 : Int32)]) rfl rfl ?_
                  refine to_i (pc := 190) rw_170_190 rfl ?_
                  refine b_ieq_f (pc := 192) rw_170_192 (A := 1) rfl (by omega) ?_
                  refine to_an (pc := 195) rw_170_195 rfl ?_
                  refine to_in (pc := 196) rw_170_196 rfl ?_
                  refine b_ine_f (pc := 197) rw_170_197 (A := v105.toInt) rfl (by omega) ?_
                  refine to_i (pc := 200) rw_170_200 rfl ?_
                  refine to_c (pc := 202) rw_170_202 (x := (1 : Int32)) rfl rfl ?_
                  refine s_add (pc := 203) rw_170_203 (A := (M116.2.1 77 9).toInt) (B := 1) rfl rfl (by omega) (fun v187 e188 => ?_)
                  refine to_go (pc := 204) rw_170_204 ?_
                  refine to_an (pc := 209) rw_170_209 rfl ?_
                  have c_189 : M177.2.1 77 14 = (M.2.1 77 14) := (F_n F171 (show ¬ (77 = 77 ∧ 7 ≤ 14 ∧ 14 ≤ 10) by omega) (F_n F150 (show ¬ (77 < 0) by omega) (F_n F132 (show ¬ (77 = 77 ∧ (14 = 4 ∨ 14 = 5)) by omega) c_125)))
                  refine tt_gI (pc := 210) rw_170_210 (g_o hG172 rfl) (v := (M.2.1 77 14)) c_189 ?_
                  refine to_c (pc := 213) rw_170_213 (x := (1 : Int32)) rfl rfl ?_
                  refine s_sub (pc := 214) rw_170_214 (A := (M.2.1 77 14).toInt) (B := 1) rfl rfl (by omega) (fun v190 e191 => ?_)
                  refine s_v (pc := 215) rw_170_215 (by omega) (ls0 := [.ref 77, .int v187, .int v190]) rfl (Nat.le_of_ble_eq_true rfl) (Nat.le_of_ble_eq_true rfl) rfl (to_rc rfl rfl rfl (g_o hG172 rfl)) rfl ?_
                  refine E_162 hX (by omega) hG172 p_176.1 (by omega) (by omega) (l := v187) (m := v190) (t := t) (nn := nn) (a := (x_ns t nn (x_ns t nn (x_ns t nn (x_ns t nn a))))) (fun r192 M199 hG194 F193 p_195 p_196 p_197 p_198 => ?_)
                  have F200 := FR.c F178 F193 (fun a i z => show a = 77 ∧ (i = 4 ∨ i = 5 ∨ 7 ≤ i ∧ i ≤ 10 ∨ i = 15 ∨ i = 25) ∨ 80 ≤ a ∧ a ≤ 84 ∧ 8 ≤ i by have z : a = 77 ∧ (i = 4 ∨ i = 5) := z; omega)
                  rcases (show r192.toInt = 0 ∨ r192.toInt = 1 by omega) with h201 | h201
                  · skip
                    have p_202 := p_198 (by omega)
                    clear p_197 p_198
                    have z_203 := x_val_b (t := t) (nn := nn) (a := (x_ns t nn (x_ns t nn (x_ns t nn (x_ns t nn a)))))
                    refine b_ine_f (pc := 218) rw_170_218 (A := r192.toInt) rfl (by omega) ?_
                    refine to_c (pc := 221) rw_170_221 (x := (0 : Int32)) rfl rfl ?_
                    refine s_r1 (pc := 222) rw_170_222 (A := 0) rfl (by omega) ?_
                    have j_204 := (RS_f (fun a i z => F_n F193 (show ¬ (a = 77 ∧ (i = 4 ∨ i = 5)) by omega) rfl) p_176.1)
                    exact h (0 : Int32) M199 hG194 F200 (by omega) (by omega) j_204 (fun _ => x_field_n (fun h9 => by unfold x_fC at h9; omega)) (fun z => absurd z (by decide))
                  · skip
                    have p_205 := p_197 (by omega)
                    clear p_197 p_198
                    have c_206 : M199.2.1 77 9 = (M177.2.1 77 9) := (F_n F193 (show ¬ (77 = 77 ∧ (9 = 4 ∨ 9 = 5)) by omega) rfl)
                    have z_207 := x_val_b (t := t) (nn := nn) (a := (x_ns t nn (x_ns t nn (x_ns t nn (x_ns t nn a))))) (by omega)
                    refine b_ine_t (pc := 218) rw_170_218 (A := r192.toInt) rfl (by omega) ?_
                    refine to_an (pc := 223) rw_170_223 rfl ?_
                    refine tt_gI (pc := 224) rw_170_224 (g_o hG194 rfl) (v := (M177.2.1 77 9)) c_206 ?_
                    refine to_is (pc := 227) rw_170_227 (ls2 := [.ref 77, .int v51, .int (M25.2.1 77 9), .int v105, .int (1 : Int32), .int (0 : Int32), .int (M116.2.1 77 9), .int (M177.2.1 77 9), .int (10 : Int32)]) rfl rfl ?_
                    refine to_i (pc := 229) rw_170_229 rfl ?_
                    refine to_i (pc := 231) rw_170_231 rfl ?_
                    refine s_sub (pc := 233) rw_170_233 (A := (M177.2.1 77 9).toInt) (B := (M116.2.1 77 9).toInt) rfl rfl (by omega) (fun v208 e209 => ?_)
                    refine to_c (pc := 234) rw_170_234 (x := (23 : Int32)) rfl rfl ?_
                    refine b_cle (pc := 236) rw_170_236 (A := v208.toInt) (B := 23) rfl rfl (fun h210 => ?_) (fun h210 => ?_)
                    · refine to_an (pc := 245) rw_170_245 rfl ?_
                      refine tt_gJ (pc := 246) rw_170_246 (g_o hG194 rfl) (v := (M.2.2.1 77 25)) (F_nl F193 (show ¬ (77 = 77 ∧ (25 = 4 ∨ 25 = 5)) by omega) (F_nl F171 (show ¬ (77 = 77 ∧ 7 ≤ 25 ∧ 25 ≤ 10) by omega) (F_nl F150 (show ¬ (77 < 0) by omega) (F_nl F132 (show ¬ (77 = 77 ∧ (25 = 4 ∨ 25 = 5)) by omega) (F_nl F110 (show ¬ (77 = 77 ∧ 7 ≤ 25 ∧ 25 ≤ 10) by omega) (F_nl F64 (show ¬ (77 = 77 ∧ 7 ≤ 25 ∧ 25 ≤ 10) by omega) (F_nl F35 (show ¬ (77 = 77 ∧ (25 = 4 ∨ 25 = 5)) by omega) (F_nl F19 (show ¬ (77 = 77 ∧ 7 ≤ 25 ∧ 25 ≤ 10) by omega) rfl)))))))) ?_
                      refine to_i (pc := 249) rw_170_249 rfl ?_
                      refine to_i (pc := 251) rw_170_251 rfl ?_
                      refine s_s (pc := 253) rw_170_253 (by omega) (ls0 := [.int (M116.2.1 77 9), .int (M177.2.1 77 9), .null, .null, .null]) rfl (Nat.le_of_ble_eq_true rfl) (Nat.le_of_ble_eq_true rfl) rfl (to_rcs rfl rfl) rfl ?_
                      refine E_168 hX (by omega) hG194 (by omega) (by omega) (by omega) (by omega) (by omega) (a := (M116.2.1 77 9)) (b := (M177.2.1 77 9)) (fun r211 M215 hG213 F212 p_214 => ?_)
                      have F216 := FR.c F200 F212 (fun a i z => show a = 77 ∧ (i = 4 ∨ i = 5 ∨ 7 ≤ i ∧ i ≤ 10 ∨ i = 15 ∨ i = 25) ∨ 80 ≤ a ∧ a ≤ 84 ∧ 8 ≤ i by have z : a < 0 := z; omega)
                      refine to_2l (pc := 256) rw_170_256 (v := ((M.2.2.1 77 25) &&& r211)) rfl ?_
                      refine to_cl (pc := 257) rw_170_257 rfl (x := (0 : Int64)) rfl ?_
                      refine s_lcmpE (pc := 258) rw_170_258 (fun v217 e218 => ?_)
                      have b_219 := x_eq_b (x := ((M.2.2.1 77 25) &&& r211)) (y := (0 : Int64))
                      have z_220 := x_free_r q7 p_214
                      have z_221 := x_free_v (s := sg) (f := (M116.2.1 77 9).toInt) (l := (M177.2.1 77 9).toInt) (f2 := (x_val t nn (x_ns t nn (x_ns t nn (x_ns t nn a))))) (l2 := (x_val t nn (x_ns t nn (x_ns t nn (x_ns t nn (x_ns t nn a)))))) (by omega) (by omega)
                      refine b_ieq (pc := 259) rw_170_259 (A := v217.toInt) rfl (fun h222 => ?_) (fun h222 => ?_)
                      · refine to_an (pc := 268) rw_170_268 rfl ?_
                        refine s_v (pc := 269) rw_170_269 (by omega) (ls0 := [.ref 77]) rfl (Nat.le_of_ble_eq_true rfl) (Nat.le_of_ble_eq_true rfl) rfl (to_rc rfl rfl rfl (g_o hG213 rfl)) rfl ?_
                        have c_223 : M215.2.1 77 7 = (M177.2.1 77 7) := (F_n F212 (show ¬ (77 < 0) by omega) (F_n F193 (show ¬ (77 = 77 ∧ (7 = 4 ∨ 7 = 5)) by omega) rfl))
                        have t_224 : (M215.2.1 77 7).toInt = (M177.2.1 77 7).toInt := congrArg Int32.toInt c_223
                        have c_225 : M215.2.1 77 6 = (M.2.1 77 6) := (F_n F212 (show ¬ (77 < 0) by omega) (F_n F193 (show ¬ (77 = 77 ∧ (6 = 4 ∨ 6 = 5)) by omega) c_180))
                        have t_226 : (M215.2.1 77 6).toInt = (M.2.1 77 6).toInt := congrArg Int32.toInt c_225
                        have c_227 : M215.2.1 77 10 = (M177.2.1 77 10) := (F_n F212 (show ¬ (77 < 0) by omega) (F_n F193 (show ¬ (77 = 77 ∧ (10 = 4 ∨ 10 = 5)) by omega) rfl))
                        have t_228 : (M215.2.1 77 10).toInt = (M177.2.1 77 10).toInt := congrArg Int32.toInt c_227
                        have j_229 := (RS_f (fun a i z => F_n F212 (show ¬ (a < 0) by omega) rfl) (RS_f (fun a i z => F_n F193 (show ¬ (a = 77 ∧ (i = 4 ∨ i = 5)) by omega) rfl) p_176.1))
                        have z_230 := RS_b j_229 (a := (x_ns t nn (x_ns t nn (x_ns t nn (x_ns t nn a))))) (by omega)
                        have j_231 := (TR_f (fun a i z => F_n F212 (show ¬ (a < 0) by omega) rfl) (TR_f (fun a i z => F_n F193 (show ¬ (a = 77 ∧ (i = 4 ∨ i = 5)) by omega) rfl) (TR_f (fun a i z => F_n F171 (show ¬ (a = 77 ∧ 7 ≤ i ∧ i ≤ 10) by omega) rfl) j_169)))
                        have j_232 := (W9_f (fun a i z => F_n F212 (show ¬ (a < 0) by omega) rfl) (W9_f (fun a i z => F_n F193 (show ¬ (a = 77 ∧ (i = 4 ∨ i = 5)) by omega) rfl) (W9_f (fun a i z => F_n F171 (show ¬ (a = 77 ∧ 7 ≤ i ∧ i ≤ 10) by omega) rfl) j_170)))
                        refine E_156 hX (by omega) hG213 (by omega) (by omega) (by omega) (by omega) j_231 j_232  (fun M239 hG234 F233 p_235 p_236 p_237 p_238 => ?_)
                        have F240 := FR.c F216 F233 (fun a i z => show a = 77 ∧ (i = 4 ∨ i = 5 ∨ 7 ≤ i ∧ i ≤ 10 ∨ i = 15 ∨ i = 25) ∨ 80 ≤ a ∧ a ≤ 84 ∧ 8 ≤ i by have z : a = 77 ∧ 7 ≤ i ∧ i ≤ 10 := z; omega)
                        have b_241 := g_b hG234 (a := 77) (i := 7) (lo := 0) (hi := 500) rfl rfl
                        have c_242 : M239.2.1 77 6 = (M.2.1 77 6) := (F_n F233 (show ¬ (77 = 77 ∧ 7 ≤ 6 ∧ 6 ≤ 10) by omega) c_225)
                        have t_243 : (M239.2.1 77 6).toInt = (M.2.1 77 6).toInt := congrArg Int32.toInt c_242
                        have b_244 := g_b hG234 (a := 77) (i := 8) (lo := 0) (hi := 5) rfl rfl
                        have b_245 := g_b hG234 (a := 77) (i := 10) (lo := 0) (hi := 500) rfl rfl
                        have z_246 := RS_s p_238.2 (a := (x_ns t nn (x_ns t nn (x_ns t nn (x_ns t nn a))))) (by omega)
                        refine to_i (pc := 272) rw_170_272 rfl ?_
                        refine to_i (pc := 274) rw_170_274 rfl ?_
                        refine s_sub (pc := 276) rw_170_276 (A := (M177.2.1 77 9).toInt) (B := (M116.2.1 77 9).toInt) rfl rfl (by omega) (fun v247 e248 => ?_)
                        refine to_c (pc := 277) rw_170_277 (x := (1 : Int32)) rfl rfl ?_
                        refine s_add (pc := 278) rw_170_278 (A := v247.toInt) (B := 1) rfl rfl (by omega) (fun v249 e250 => ?_)
                        refine to_is (pc := 279) rw_170_279 (ls2 := [.ref 77, .int v51, .int (M25.2.1 77 9), .int v105, .int (1 : Int32), .int (0 : Int32), .int (M116.2.1 77 9), .int (M177.2.1 77 9), .int v249]) rfl rfl ?_
                        refine to_in (pc := 281) rw_170_281 rfl ?_
                        refine to_c (pc := 282) rw_170_282 (x := (3 : Int32)) rfl rfl ?_
                        refine b_cne_t (pc := 283) rw_170_283 (A := v105.toInt) (B := 3) rfl rfl (by omega) ?_
                        refine to_an (pc := 318) rw_170_318 rfl ?_
                        refine to_dupr (pc := 319) rw_170_319 ?_
                        refine tt_gJ (pc := 320) rw_170_320 (g_o hG234 rfl) (v := (M.2.2.1 77 25)) (F_nl F233 (show ¬ (77 = 77 ∧ 7 ≤ 25 ∧ 25 ≤ 10) by omega) (F_nl F212 (show ¬ (77 < 0) by omega) (F_nl F193 (show ¬ (77 = 77 ∧ (25 = 4 ∨ 25 = 5)) by omega) (F_nl F171 (show ¬ (77 = 77 ∧ 7 ≤ 25 ∧ 25 ≤ 10) by omega) (F_nl F150 (show ¬ (77 < 0) by omega) (F_nl F132 (show ¬ (77 = 77 ∧ (25 = 4 ∨ 25 = 5)) by omega) (F_nl F110 (show ¬ (77 = 77 ∧ 7 ≤ 25 ∧ 25 ≤ 10) by omega) (F_nl F64 (show ¬ (77 = 77 ∧ 7 ≤ 25 ∧ 25 ≤ 10) by omega) (F_nl F35 (show ¬ (77 = 77 ∧ (25 = 4 ∨ 25 = 5)) by omega) (F_nl F19 (show ¬ (77 = 77 ∧ 7 ≤ 25 ∧ 25 ≤ 10) by omega) rfl)))))))))) ?_
                        refine to_i (pc := 323) rw_170_323 rfl ?_
                        refine to_i (pc := 325) rw_170_325 rfl ?_
                        refine s_s (pc := 327) rw_170_327 (by omega) (ls0 := [.int (M116.2.1 77 9), .int (M177.2.1 77 9), .null, .null, .null]) rfl (Nat.le_of_ble_eq_true rfl) (Nat.le_of_ble_eq_true rfl) rfl (to_rcs rfl rfl) rfl ?_
                        refine E_168 hX (by omega) hG234 (by omega) (by omega) (by omega) (by omega) (by omega) (a := (M116.2.1 77 9)) (b := (M177.2.1 77 9)) (fun r251 M255 hG253 F252 p_254 => ?_)
                        have F256 := FR.c F240 F252 (fun a i z => show a = 77 ∧ (i = 4 ∨ i = 5 ∨ 7 ≤ i ∧ i ≤ 10 ∨ i = 15 ∨ i = 25) ∨ 80 ≤ a ∧ a ≤ 84 ∧ 8 ≤ i by have z : a < 0 := z; omega)
                        refine to_2l (pc := 330) rw_170_330 (v := ((M.2.2.1 77 25) ||| r251)) rfl ?_
                        have j_257 := (PLr_f (fun a i z => F_n F252 (show ¬ (a < 0) by omega) rfl) (F_nl F252 (show ¬ (77 < 0) by omega) rfl) (PLr_f (fun a i z => F_n F233 (show ¬ (a = 77 ∧ 7 ≤ i ∧ i ≤ 10) by omega) rfl) (F_nl F233 (show ¬ (77 = 77 ∧ 7 ≤ 25 ∧ 25 ≤ 10) by omega) rfl) (PLr_f (fun a i z => F_n F212 (show ¬ (a < 0) by omega) rfl) (F_nl F212 (show ¬ (77 < 0) by omega) rfl) (PLr_f (fun a i z => F_n F193 (show ¬ (a = 77 ∧ (i = 4 ∨ i = 5)) by omega) rfl) (F_nl F193 (show ¬ (77 = 77 ∧ (25 = 4 ∨ 25 = 5)) by omega) rfl) (PLr_f (fun a i z => F_n F171 (show ¬ (a = 77 ∧ 7 ≤ i ∧ i ≤ 10) by omega) rfl) (F_nl F171 (show ¬ (77 = 77 ∧ 7 ≤ 25 ∧ 25 ≤ 10) by omega) rfl) (PLr_f (fun a i z => F_n F150 (show ¬ (a < 0) by omega) rfl) (F_nl F150 (show ¬ (77 < 0) by omega) rfl) (PLr_f (fun a i z => F_n F132 (show ¬ (a = 77 ∧ (i = 4 ∨ i = 5)) by omega) rfl) (F_nl F132 (show ¬ (77 = 77 ∧ (25 = 4 ∨ 25 = 5)) by omega) rfl) (PLr_f (fun a i z => F_n F110 (show ¬ (a = 77 ∧ 7 ≤ i ∧ i ≤ 10) by omega) rfl) (F_nl F110 (show ¬ (77 = 77 ∧ 7 ≤ 25 ∧ 25 ≤ 10) by omega) rfl) (PLr_f (fun a i z => F_n F64 (show ¬ (a = 77 ∧ 7 ≤ i ∧ i ≤ 10) by omega) rfl) (F_nl F64 (show ¬ (77 = 77 ∧ 7 ≤ 25 ∧ 25 ≤ 10) by omega) rfl) (PLr_f (fun a i z => F_n F35 (show ¬ (a = 77 ∧ (i = 4 ∨ i = 5)) by omega) rfl) (F_nl F35 (show ¬ (77 = 77 ∧ (25 = 4 ∨ 25 = 5)) by omega) rfl) j_33))))))))))
                        refine s_pJ (pc := 331) rw_170_331 hG253 rfl (fun M259 W258 => ?_)
                        have hG260 := g_wl hG253 W258
                        have F261 := FR.wl F256 W258 (show 77 = 77 ∧ (25 = 4 ∨ 25 = 5 ∨ 7 ≤ 25 ∧ 25 ≤ 10 ∨ 25 = 15 ∨ 25 = 25) ∨ 80 ≤ 77 ∧ 77 ≤ 84 ∧ 8 ≤ 25 by omega)
                        refine to_an (pc := 334) rw_170_334 rfl ?_
                        refine s_gR (pc := 335) rw_170_335 hG260 rfl (v := 80) rfl ?_
                        refine to_in (pc := 338) rw_170_338 rfl ?_
                        refine to_in (pc := 339) rw_170_339 rfl ?_
                        refine s_ias (pc := 340) rw_170_340 hG260 rfl (n := 16) rfl (A := v51.toInt) rfl (by omega) (by omega) (fun M263 W262 => ?_)
                        have hG264 := g_wf hG260 W262 rfl rfl (by decide)
                        have F265 := FR.w F261 W262 (show 80 = 77 ∧ ((v51.toInt).toNat = 4 ∨ (v51.toInt).toNat = 5 ∨ 7 ≤ (v51.toInt).toNat ∧ (v51.toInt).toNat ≤ 10 ∨ (v51.toInt).toNat = 15 ∨ (v51.toInt).toNat = 25) ∨ 80 ≤ 80 ∧ 80 ≤ 84 ∧ 8 ≤ (v51.toInt).toNat by omega)
                        refine to_an (pc := 341) rw_170_341 rfl ?_
                        refine s_gR (pc := 342) rw_170_342 hG264 rfl (v := 81) rfl ?_
                        refine to_in (pc := 345) rw_170_345 rfl ?_
                        refine to_in (pc := 346) rw_170_346 rfl ?_
                        refine s_ias (pc := 347) rw_170_347 hG264 rfl (n := 16) rfl (A := v51.toInt) rfl (by omega) (by omega) (fun M267 W266 => ?_)
                        have hG268 := g_w hG264 W266 (A := v105.toInt) rfl (lo := 0) (hi := 3) rfl rfl (by omega) (by decide)
                        have F269 := FR.w F265 W266 (show 81 = 77 ∧ ((v51.toInt).toNat = 4 ∨ (v51.toInt).toNat = 5 ∨ 7 ≤ (v51.toInt).toNat ∧ (v51.toInt).toNat ≤ 10 ∨ (v51.toInt).toNat = 15 ∨ (v51.toInt).toNat = 25) ∨ 80 ≤ 81 ∧ 81 ≤ 84 ∧ 8 ≤ (v51.toInt).toNat by omega)
                        refine to_an (pc := 348) rw_170_348 rfl ?_
                        refine s_gR (pc := 349) rw_170_349 hG268 rfl (v := 82) rfl ?_
                        refine to_in (pc := 352) rw_170_352 rfl ?_
                        refine to_i (pc := 353) rw_170_353 rfl ?_
                        refine s_ias (pc := 355) rw_170_355 hG268 rfl (n := 16) rfl (A := v51.toInt) rfl (by omega) (by omega) (fun M271 W270 => ?_)
                        have hG272 := g_w hG268 W270 (A := (M116.2.1 77 9).toInt) rfl (lo := 0) (hi := 59) rfl rfl (by omega) (by decide)
                        have F273 := FR.w F269 W270 (show 82 = 77 ∧ ((v51.toInt).toNat = 4 ∨ (v51.toInt).toNat = 5 ∨ 7 ≤ (v51.toInt).toNat ∧ (v51.toInt).toNat ≤ 10 ∨ (v51.toInt).toNat = 15 ∨ (v51.toInt).toNat = 25) ∨ 80 ≤ 82 ∧ 82 ≤ 84 ∧ 8 ≤ (v51.toInt).toNat by omega)
                        refine to_an (pc := 356) rw_170_356 rfl ?_
                        refine s_gR (pc := 357) rw_170_357 hG272 rfl (v := 83) rfl ?_
                        refine to_in (pc := 360) rw_170_360 rfl ?_
                        refine to_i (pc := 361) rw_170_361 rfl ?_
                        refine s_ias (pc := 363) rw_170_363 hG272 rfl (n := 16) rfl (A := v51.toInt) rfl (by omega) (by omega) (fun M275 W274 => ?_)
                        have hG276 := g_w hG272 W274 (A := (M177.2.1 77 9).toInt) rfl (lo := 0) (hi := 63) rfl rfl (by omega) (by decide)
                        have F277 := FR.w F273 W274 (show 83 = 77 ∧ ((v51.toInt).toNat = 4 ∨ (v51.toInt).toNat = 5 ∨ 7 ≤ (v51.toInt).toNat ∧ (v51.toInt).toNat ≤ 10 ∨ (v51.toInt).toNat = 15 ∨ (v51.toInt).toNat = 25) ∨ 80 ≤ 83 ∧ 83 ≤ 84 ∧ 8 ≤ (v51.toInt).toNat by omega)
                        refine to_an (pc := 364) rw_170_364 rfl ?_
                        refine s_gR (pc := 365) rw_170_365 hG276 rfl (v := 84) rfl ?_
                        refine to_in (pc := 368) rw_170_368 rfl ?_
                        refine to_i (pc := 369) rw_170_369 rfl ?_
                        refine s_ias (pc := 371) rw_170_371 hG276 rfl (n := 16) rfl (A := v51.toInt) rfl (by omega) (by omega) (fun M279 W278 => ?_)
                        have hG280 := g_w hG276 W278 (A := v249.toInt) rfl (lo := 0) (hi := 24) rfl rfl (by omega) (by decide)
                        have F281 := FR.w F277 W278 (show 84 = 77 ∧ ((v51.toInt).toNat = 4 ∨ (v51.toInt).toNat = 5 ∨ 7 ≤ (v51.toInt).toNat ∧ (v51.toInt).toNat ≤ 10 ∨ (v51.toInt).toNat = 15 ∨ (v51.toInt).toNat = 25) ∨ 80 ≤ 84 ∧ 84 ≤ 84 ∧ 8 ≤ (v51.toInt).toNat by omega)
                        refine to_an (pc := 372) rw_170_372 rfl ?_
                        refine to_dupr (pc := 373) rw_170_373 ?_
                        have c_282 : M279.2.1 77 15 = (M.2.1 77 15) := (W_n W278 (by omega) (W_n W274 (by omega) (W_n W270 (by omega) (W_n W266 (by omega) (W_n W262 (by omega) (W_l W258 (F_n F252 (show ¬ (77 < 0) by omega) (F_n F233 (show ¬ (77 = 77 ∧ 7 ≤ 15 ∧ 15 ≤ 10) by omega) (F_n F212 (show ¬ (77 < 0) by omega) (F_n F193 (show ¬ (77 = 77 ∧ (15 = 4 ∨ 15 = 5)) by omega) (F_n F171 (show ¬ (77 = 77 ∧ 7 ≤ 15 ∧ 15 ≤ 10) by omega) (F_n F150 (show ¬ (77 < 0) by omega) (F_n F132 (show ¬ (77 = 77 ∧ (15 = 4 ∨ 15 = 5)) by omega) (F_n F110 (show ¬ (77 = 77 ∧ 7 ≤ 15 ∧ 15 ≤ 10) by omega) (F_n F64 (show ¬ (77 = 77 ∧ 7 ≤ 15 ∧ 15 ≤ 10) by omega) c_50)))))))))))))))
                        refine tt_gI (pc := 374) rw_170_374 (g_o hG280 rfl) (v := (M.2.1 77 15)) c_282 ?_
                        refine to_c (pc := 377) rw_170_377 (x := (1 : Int32)) rfl rfl ?_
                        refine s_add (pc := 378) rw_170_378 (A := (M.2.1 77 15).toInt) (B := 1) rfl rfl (by omega) (fun v283 e284 => ?_)
                        refine s_pI (pc := 379) rw_170_379 hG280 rfl (fun M286 W285 => ?_)
                        have hG287 := g_w hG280 W285 (A := v283.toInt) rfl (lo := 0) (hi := 8) rfl rfl (by omega) (by decide)
                        have F288 := FR.w F281 W285 (show 77 = 77 ∧ (15 = 4 ∨ 15 = 5 ∨ 7 ≤ 15 ∧ 15 ≤ 10 ∨ 15 = 15 ∨ 15 = 25) ∨ 80 ≤ 77 ∧ 77 ≤ 84 ∧ 8 ≤ 15 by omega)
                        refine to_c (pc := 382) rw_170_382 (x := (1 : Int32)) rfl rfl ?_
                        refine s_r1 (pc := 383) rw_170_383 (A := 1) rfl (by omega) ?_
                        have k_289 : (1 : Int32).toInt = 1 := rfl
                        have j_290 := (RS_f (fun a i z => W_n W285 (by omega) rfl) (RS_f (fun a i z => W_n W278 (by omega) rfl) (RS_f (fun a i z => W_n W274 (by omega) rfl) (RS_f (fun a i z => W_n W270 (by omega) rfl) (RS_f (fun a i z => W_n W266 (by omega) rfl) (RS_f (fun a i z => W_n W262 (by omega) rfl) (RS_f (fun a i z => W_l W258 rfl) (RS_f (fun a i z => F_n F252 (show ¬ (a < 0) by omega) rfl) p_238.1))))))))
                        have c_291 : M286.2.1 77 10 = (M239.2.1 77 10) := (W_n W285 (by decide) (W_n W278 (by omega) (W_n W274 (by omega) (W_n W270 (by omega) (W_n W266 (by omega) (W_n W262 (by omega) (W_l W258 (F_n F252 (show ¬ (77 < 0) by omega) rfl))))))))
                        have t_292 : (M286.2.1 77 10).toInt = (M239.2.1 77 10).toInt := congrArg Int32.toInt c_291
                        have z_293 : x_fC t nn sg (x_ns t nn a) := by unfold x_fC; omega
                        have z_294 := (x_or_r q7 (p_254.trans (x_bw_v (by omega) (by omega))) : _ = _ ||| x_bw (x_val t nn (x_ns t nn (x_ns t nn (x_ns t nn a)))) (x_val t nn (x_ns t nn (x_ns t nn (x_ns t nn (x_ns t nn a))))))
                        have z_295 := PLr_p (nm := (x_val t nn (x_ns t nn a))) (kd := 0) (f := (x_val t nn (x_ns t nn (x_ns t nn (x_ns t nn a))))) (l := (x_val t nn (x_ns t nn (x_ns t nn (x_ns t nn (x_ns t nn a)))))) (c := ((x_val t nn (x_ns t nn (x_ns t nn (x_ns t nn (x_ns t nn a))))) - (x_val t nn (x_ns t nn (x_ns t nn (x_ns t nn a)))) + 1)) j_257 W258 W262 W266 W270 W274 W278 W285 (by omega) z_294 (by omega) (by omega) (by omega) (by omega) (by omega) (by omega) (by omega) (by omega) (by omega) (by omega) (by omega)
                        exact h (1 : Int32) M286 hG287 F288 (by omega) (by omega) j_290 (fun z => absurd z (by decide)) (fun _ => ⟨_, (by rw [show (M286.2.1 77 10).toInt = (x_ns t nn (x_ns t nn (x_ns t nn (x_ns t nn (x_ns t nn a))))) by omega]; exact x_field_0 z_293 (by omega)), z_295, (by show sg.2.1 + 1 + sg.2.2.1 = _; omega)⟩)
                      · refine to_an (pc := 262) rw_170_262 rfl ?_
                        refine to_c (pc := 263) rw_170_263 (x := (3 : Int32)) rfl rfl ?_
                        refine s_v (pc := 264) rw_170_264 (by omega) (ls0 := [.ref 77, .int (3 : Int32)]) rfl (Nat.le_of_ble_eq_true rfl) (Nat.le_of_ble_eq_true rfl) rfl (to_rc rfl rfl rfl (g_o hG213 rfl)) rfl ?_
                        refine to_an (pc := 0) rw_152_0 rfl ?_
                        refine to_in (pc := 1) rw_152_1 rfl ?_
                        refine s_pI (pc := 2) rw_152_2 hG213 rfl (fun M297 W296 => ?_)
                        have hG298 := g_wf hG213 W296 rfl rfl (by decide)
                        have F299 := FR.w F216 W296 (show 77 = 77 ∧ (4 = 4 ∨ 4 = 5 ∨ 7 ≤ 4 ∧ 4 ≤ 10 ∨ 4 = 15 ∨ 4 = 25) ∨ 80 ≤ 77 ∧ 77 ≤ 84 ∧ 8 ≤ 4 by omega)
                        refine to_an (pc := 5) rw_152_5 rfl ?_
                        refine to_an (pc := 6) rw_152_6 rfl ?_
                        have c_300 : M297.2.1 77 10 = (M177.2.1 77 10) := (W_n W296 (by decide) (F_n F212 (show ¬ (77 < 0) by omega) (F_n F193 (show ¬ (77 = 77 ∧ (10 = 4 ∨ 10 = 5)) by omega) rfl)))
                        refine tt_gI (pc := 7) rw_152_7 (g_o hG298 rfl) (v := (M177.2.1 77 10)) c_300 ?_
                        refine s_pI (pc := 10) rw_152_10 hG298 rfl (fun M302 W301 => ?_)
                        have hG303 := g_wf hG298 W301 rfl rfl (by decide)
                        have F304 := FR.w F299 W301 (show 77 = 77 ∧ (5 = 4 ∨ 5 = 5 ∨ 7 ≤ 5 ∧ 5 ≤ 10 ∨ 5 = 15 ∨ 5 = 25) ∨ 80 ≤ 77 ∧ 77 ≤ 84 ∧ 8 ≤ 5 by omega)
                        refine to_c (pc := 13) rw_152_13 (x := (0 : Int32)) rfl rfl ?_
                        refine s_r1 (pc := 14) rw_152_14 (A := 0) rfl (by omega) ?_
                        refine s_r1 (pc := 267) rw_170_267 (A := 0) rfl (by omega) ?_
                        have j_305 := (RS_f (fun a i z => W_n W301 (by omega) rfl) (RS_f (fun a i z => W_n W296 (by omega) rfl) (RS_f (fun a i z => F_n F212 (show ¬ (a < 0) by omega) rfl) (RS_f (fun a i z => F_n F193 (show ¬ (a = 77 ∧ (i = 4 ∨ i = 5)) by omega) rfl) p_176.1))))
                        exact h (0 : Int32) M302 hG303 F304 (by omega) (by omega) j_305 (fun _ => x_field_n (fun h9 => by unfold x_fC at h9; omega)) (fun z => absurd z (by decide))
                    · refine to_an (pc := 239) rw_170_239 rfl ?_
                      refine to_c (pc := 240) rw_170_240 (x := (2 : Int32)) rfl rfl ?_
                      refine s_v (pc := 241) rw_170_241 (by omega) (ls0 := [.ref 77, .int (2 : Int32)]) rfl (Nat.le_of_ble_eq_true rfl) (Nat.le_of_ble_eq_true rfl) rfl (to_rc rfl rfl rfl (g_o hG194 rfl)) rfl ?_
                      refine to_an (pc := 0) rw_152_0 rfl ?_
                      refine to_in (pc := 1) rw_152_1 rfl ?_
                      refine s_pI (pc := 2) rw_152_2 hG194 rfl (fun M307 W306 => ?_)
                      have hG308 := g_wf hG194 W306 rfl rfl (by decide)
                      have F309 := FR.w F200 W306 (show 77 = 77 ∧ (4 = 4 ∨ 4 = 5 ∨ 7 ≤ 4 ∧ 4 ≤ 10 ∨ 4 = 15 ∨ 4 = 25) ∨ 80 ≤ 77 ∧ 77 ≤ 84 ∧ 8 ≤ 4 by omega)
                      refine to_an (pc := 5) rw_152_5 rfl ?_
                      refine to_an (pc := 6) rw_152_6 rfl ?_
                      have c_310 : M307.2.1 77 10 = (M177.2.1 77 10) := (W_n W306 (by decide) (F_n F193 (show ¬ (77 = 77 ∧ (10 = 4 ∨ 10 = 5)) by omega) rfl))
                      refine tt_gI (pc := 7) rw_152_7 (g_o hG308 rfl) (v := (M177.2.1 77 10)) c_310 ?_
                      refine s_pI (pc := 10) rw_152_10 hG308 rfl (fun M312 W311 => ?_)
                      have hG313 := g_wf hG308 W311 rfl rfl (by decide)
                      have F314 := FR.w F309 W311 (show 77 = 77 ∧ (5 = 4 ∨ 5 = 5 ∨ 7 ≤ 5 ∧ 5 ≤ 10 ∨ 5 = 15 ∨ 5 = 25) ∨ 80 ≤ 77 ∧ 77 ≤ 84 ∧ 8 ≤ 5 by omega)
                      refine to_c (pc := 13) rw_152_13 (x := (0 : Int32)) rfl rfl ?_
                      refine s_r1 (pc := 14) rw_152_14 (A := 0) rfl (by omega) ?_
                      refine s_r1 (pc := 244) rw_170_244 (A := 0) rfl (by omega) ?_
                      have j_315 := (RS_f (fun a i z => W_n W311 (by omega) rfl) (RS_f (fun a i z => W_n W306 (by omega) rfl) (RS_f (fun a i z => F_n F193 (show ¬ (a = 77 ∧ (i = 4 ∨ i = 5)) by omega) rfl) p_176.1)))
                      exact h (0 : Int32) M312 hG313 F314 (by omega) (by omega) j_315 (fun _ => x_field_n (fun h9 => by unfold x_fC at h9; omega)) (fun z => absurd z (by decide))
                · refine to_an (pc := 169) rw_170_169 rfl ?_
                  refine to_c (pc := 170) rw_170_170 (x := (3 : Int32)) rfl rfl ?_
                  refine s_v (pc := 171) rw_170_171 (by omega) (ls0 := [.ref 77, .int (3 : Int32)]) rfl (Nat.le_of_ble_eq_true rfl) (Nat.le_of_ble_eq_true rfl) rfl (to_rc rfl rfl rfl (g_o hG151 rfl)) rfl ?_
                  refine to_an (pc := 0) rw_152_0 rfl ?_
                  refine to_in (pc := 1) rw_152_1 rfl ?_
                  refine s_pI (pc := 2) rw_152_2 hG151 rfl (fun M317 W316 => ?_)
                  have hG318 := g_wf hG151 W316 rfl rfl (by decide)
                  have F319 := FR.w F154 W316 (show 77 = 77 ∧ (4 = 4 ∨ 4 = 5 ∨ 7 ≤ 4 ∧ 4 ≤ 10 ∨ 4 = 15 ∨ 4 = 25) ∨ 80 ≤ 77 ∧ 77 ≤ 84 ∧ 8 ≤ 4 by omega)
                  refine to_an (pc := 5) rw_152_5 rfl ?_
                  refine to_an (pc := 6) rw_152_6 rfl ?_
                  have c_320 : M317.2.1 77 10 = (M116.2.1 77 10) := (W_n W316 (by decide) (F_n F150 (show ¬ (77 < 0) by omega) (F_n F132 (show ¬ (77 = 77 ∧ (10 = 4 ∨ 10 = 5)) by omega) rfl)))
                  refine tt_gI (pc := 7) rw_152_7 (g_o hG318 rfl) (v := (M116.2.1 77 10)) c_320 ?_
                  refine s_pI (pc := 10) rw_152_10 hG318 rfl (fun M322 W321 => ?_)
                  have hG323 := g_wf hG318 W321 rfl rfl (by decide)
                  have F324 := FR.w F319 W321 (show 77 = 77 ∧ (5 = 4 ∨ 5 = 5 ∨ 7 ≤ 5 ∧ 5 ≤ 10 ∨ 5 = 15 ∨ 5 = 25) ∨ 80 ≤ 77 ∧ 77 ≤ 84 ∧ 8 ≤ 5 by omega)
                  refine to_c (pc := 13) rw_152_13 (x := (0 : Int32)) rfl rfl ?_
                  refine s_r1 (pc := 14) rw_152_14 (A := 0) rfl (by omega) ?_
                  refine s_r1 (pc := 174) rw_170_174 (A := 0) rfl (by omega) ?_
                  have j_325 := (RS_f (fun a i z => W_n W321 (by omega) rfl) (RS_f (fun a i z => W_n W316 (by omega) rfl) (RS_f (fun a i z => F_n F150 (show ¬ (a < 0) by omega) rfl) (RS_f (fun a i z => F_n F132 (show ¬ (a = 77 ∧ (i = 4 ∨ i = 5)) by omega) rfl) p_115.1))))
                  exact h (0 : Int32) M322 hG323 F324 (by omega) (by omega) j_325 (fun _ => x_field_n (fun h9 => by unfold x_fC at h9; omega)) (fun z => absurd z (by decide))
            · refine to_in (pc := 91) rw_170_91 rfl ?_
              refine to_c (pc := 92) rw_170_92 (x := (3 : Int32)) rfl rfl ?_
              refine b_cne (pc := 93) rw_170_93 (A := v105.toInt) (B := 3) rfl rfl (fun h326 => ?_) (fun h326 => ?_)
              · refine to_c (pc := 100) rw_170_100 (x := (0 : Int32)) rfl rfl ?_
                refine to_is (pc := 101) rw_170_101 (ls2 := [.ref 77, .int v51, .int (M25.2.1 77 9), .int v105, .int (0 : Int32), .null, .null, .null, .null]) rfl rfl ?_
                refine to_in (pc := 103) rw_170_103 rfl ?_
                refine to_c (pc := 104) rw_170_104 (x := (1 : Int32)) rfl rfl ?_
                refine b_cne (pc := 105) rw_170_105 (A := v105.toInt) (B := 1) rfl rfl (fun h327 => ?_) (fun h327 => ?_)
                · refine to_in (pc := 112) rw_170_112 rfl ?_
                  refine to_c (pc := 113) rw_170_113 (x := (2 : Int32)) rfl rfl ?_
                  refine b_cne_f (pc := 114) rw_170_114 (A := v105.toInt) (B := 2) rfl rfl (by omega) ?_
                  refine to_c (pc := 117) rw_170_117 (x := (4 : Int32)) rfl rfl ?_
                  refine to_go (pc := 118) rw_170_118 ?_
                  refine to_is (pc := 122) rw_170_122 (ls2 := [.ref 77, .int v51, .int (M25.2.1 77 9), .int v105, .int (0 : Int32), .int (4 : Int32), .null, .null, .null]) rfl rfl ?_
                  refine to_an (pc := 124) rw_170_124 rfl ?_
                  refine to_c (pc := 125) rw_170_125 (x := (0 : Int32)) rfl rfl ?_
                  refine to_an (pc := 126) rw_170_126 rfl ?_
                  have c_328 : M116.2.1 77 14 = (M.2.1 77 14) := (F_n F110 (show ¬ (77 = 77 ∧ 7 ≤ 14 ∧ 14 ≤ 10) by omega) (F_n F64 (show ¬ (77 = 77 ∧ 7 ≤ 14 ∧ 14 ≤ 10) by omega) (F_n F35 (show ¬ (77 = 77 ∧ (14 = 4 ∨ 14 = 5)) by omega) (F_n F19 (show ¬ (77 = 77 ∧ 7 ≤ 14 ∧ 14 ≤ 10) by omega) rfl))))
                  refine tt_gI (pc := 127) rw_170_127 (g_o hG111 rfl) (v := (M.2.1 77 14)) c_328 ?_
                  refine to_c (pc := 130) rw_170_130 (x := (1 : Int32)) rfl rfl ?_
                  refine s_sub (pc := 131) rw_170_131 (A := (M.2.1 77 14).toInt) (B := 1) rfl rfl (by omega) (fun v329 e330 => ?_)
                  refine to_i (pc := 132) rw_170_132 rfl ?_
                  refine s_sub (pc := 134) rw_170_134 (A := v329.toInt) (B := 4) rfl rfl (by omega) (fun v331 e332 => ?_)
                  refine s_v (pc := 135) rw_170_135 (by omega) (ls0 := [.ref 77, .int (0 : Int32), .int v331]) rfl (Nat.le_of_ble_eq_true rfl) (Nat.le_of_ble_eq_true rfl) rfl (to_rc rfl rfl rfl (g_o hG111 rfl)) rfl ?_
                  have k_333 : (0 : Int32).toInt = 0 := rfl
                  refine E_162 hX (by omega) hG111 p_115.1 (by omega) (by omega) (l := (0 : Int32)) (m := v331) (t := t) (nn := nn) (a := (x_ns t nn (x_ns t nn (x_ns t nn a)))) (fun r334 M341 hG336 F335 p_337 p_338 p_339 p_340 => ?_)
                  have F342 := FR.c F117 F335 (fun a i z => show a = 77 ∧ (i = 4 ∨ i = 5 ∨ 7 ≤ i ∧ i ≤ 10 ∨ i = 15 ∨ i = 25) ∨ 80 ≤ a ∧ a ≤ 84 ∧ 8 ≤ i by have z : a = 77 ∧ (i = 4 ∨ i = 5) := z; omega)
                  rcases (show r334.toInt = 0 ∨ r334.toInt = 1 by omega) with h343 | h343
                  · skip
                    have p_344 := p_340 (by omega)
                    clear p_339 p_340
                    have z_345 := x_val_b (t := t) (nn := nn) (a := (x_ns t nn (x_ns t nn (x_ns t nn a))))
                    refine b_ine_f (pc := 138) rw_170_138 (A := r334.toInt) rfl (by omega) ?_
                    refine to_c (pc := 141) rw_170_141 (x := (0 : Int32)) rfl rfl ?_
                    refine s_r1 (pc := 142) rw_170_142 (A := 0) rfl (by omega) ?_
                    have j_346 := (RS_f (fun a i z => F_n F335 (show ¬ (a = 77 ∧ (i = 4 ∨ i = 5)) by omega) rfl) p_115.1)
                    exact h (0 : Int32) M341 hG336 F342 (by omega) (by omega) j_346 (fun _ => x_field_n (fun h9 => by unfold x_fC at h9; omega)) (fun z => absurd z (by decide))
                  · skip
                    have p_347 := p_339 (by omega)
                    clear p_339 p_340
                    have c_348 : M341.2.1 77 9 = (M116.2.1 77 9) := (F_n F335 (show ¬ (77 = 77 ∧ (9 = 4 ∨ 9 = 5)) by omega) rfl)
                    have z_349 := x_val_b (t := t) (nn := nn) (a := (x_ns t nn (x_ns t nn (x_ns t nn a)))) (by omega)
                    refine b_ine_t (pc := 138) rw_170_138 (A := r334.toInt) rfl (by omega) ?_
                    refine to_an (pc := 143) rw_170_143 rfl ?_
                    refine tt_gI (pc := 144) rw_170_144 (g_o hG336 rfl) (v := (M116.2.1 77 9)) c_348 ?_
                    refine to_is (pc := 147) rw_170_147 (ls2 := [.ref 77, .int v51, .int (M25.2.1 77 9), .int v105, .int (0 : Int32), .int (4 : Int32), .int (M116.2.1 77 9), .null, .null]) rfl rfl ?_
                    refine to_an (pc := 149) rw_170_149 rfl ?_
                    refine tt_gJ (pc := 150) rw_170_150 (g_o hG336 rfl) (v := (M.2.2.1 77 25)) (F_nl F335 (show ¬ (77 = 77 ∧ (25 = 4 ∨ 25 = 5)) by omega) (F_nl F110 (show ¬ (77 = 77 ∧ 7 ≤ 25 ∧ 25 ≤ 10) by omega) (F_nl F64 (show ¬ (77 = 77 ∧ 7 ≤ 25 ∧ 25 ≤ 10) by omega) (F_nl F35 (show ¬ (77 = 77 ∧ (25 = 4 ∨ 25 = 5)) by omega) (F_nl F19 (show ¬ (77 = 77 ∧ 7 ≤ 25 ∧ 25 ≤ 10) by omega) rfl))))) ?_
                    refine to_i (pc := 153) rw_170_153 rfl ?_
                    refine to_i (pc := 155) rw_170_155 rfl ?_
                    refine to_i (pc := 157) rw_170_157 rfl ?_
                    refine s_add (pc := 159) rw_170_159 (A := (M116.2.1 77 9).toInt) (B := 4) rfl rfl (by omega) (fun v350 e351 => ?_)
                    refine s_s (pc := 160) rw_170_160 (by omega) (ls0 := [.int (M116.2.1 77 9), .int v350, .null, .null, .null]) rfl (Nat.le_of_ble_eq_true rfl) (Nat.le_of_ble_eq_true rfl) rfl (to_rcs rfl rfl) rfl ?_
                    refine E_168 hX (by omega) hG336 (by omega) (by omega) (by omega) (by omega) (by omega) (a := (M116.2.1 77 9)) (b := v350) (fun r352 M356 hG354 F353 p_355 => ?_)
                    have F357 := FR.c F342 F353 (fun a i z => show a = 77 ∧ (i = 4 ∨ i = 5 ∨ 7 ≤ i ∧ i ≤ 10 ∨ i = 15 ∨ i = 25) ∨ 80 ≤ a ∧ a ≤ 84 ∧ 8 ≤ i by have z : a < 0 := z; omega)
                    refine to_2l (pc := 163) rw_170_163 (v := ((M.2.2.1 77 25) &&& r352)) rfl ?_
                    refine to_cl (pc := 164) rw_170_164 rfl (x := (0 : Int64)) rfl ?_
                    refine s_lcmpE (pc := 165) rw_170_165 (fun v358 e359 => ?_)
                    have b_360 := x_eq_b (x := ((M.2.2.1 77 25) &&& r352)) (y := (0 : Int64))
                    have z_361 := x_free_r q7 p_355
                    have z_362 := x_free_v (s := sg) (f := (M116.2.1 77 9).toInt) (l := v350.toInt) (f2 := (x_val t nn (x_ns t nn (x_ns t nn (x_ns t nn a))))) (l2 := ((x_val t nn (x_ns t nn (x_ns t nn (x_ns t nn a)))) + ((x_kx (x_val t nn (x_ns t nn (x_ns t nn a)))) - 1))) (by omega) (by omega)
                    refine b_ieq (pc := 166) rw_170_166 (A := v358.toInt) rfl (fun h363 => ?_) (fun h363 => ?_)
                    · refine to_an (pc := 175) rw_170_175 rfl ?_
                      refine s_v (pc := 176) rw_170_176 (by omega) (ls0 := [.ref 77]) rfl (Nat.le_of_ble_eq_true rfl) (Nat.le_of_ble_eq_true rfl) rfl (to_rc rfl rfl rfl (g_o hG354 rfl)) rfl ?_
                      have c_364 : M356.2.1 77 7 = (M116.2.1 77 7) := (F_n F353 (show ¬ (77 < 0) by omega) (F_n F335 (show ¬ (77 = 77 ∧ (7 = 4 ∨ 7 = 5)) by omega) rfl))
                      have t_365 : (M356.2.1 77 7).toInt = (M116.2.1 77 7).toInt := congrArg Int32.toInt c_364
                      have c_366 : M356.2.1 77 6 = (M.2.1 77 6) := (F_n F353 (show ¬ (77 < 0) by omega) (F_n F335 (show ¬ (77 = 77 ∧ (6 = 4 ∨ 6 = 5)) by omega) c_119))
                      have t_367 : (M356.2.1 77 6).toInt = (M.2.1 77 6).toInt := congrArg Int32.toInt c_366
                      have c_368 : M356.2.1 77 10 = (M116.2.1 77 10) := (F_n F353 (show ¬ (77 < 0) by omega) (F_n F335 (show ¬ (77 = 77 ∧ (10 = 4 ∨ 10 = 5)) by omega) rfl))
                      have t_369 : (M356.2.1 77 10).toInt = (M116.2.1 77 10).toInt := congrArg Int32.toInt c_368
                      have j_370 := (RS_f (fun a i z => F_n F353 (show ¬ (a < 0) by omega) rfl) (RS_f (fun a i z => F_n F335 (show ¬ (a = 77 ∧ (i = 4 ∨ i = 5)) by omega) rfl) p_115.1))
                      have z_371 := RS_b j_370 (a := (x_ns t nn (x_ns t nn (x_ns t nn a)))) (by omega)
                      have j_372 := (TR_f (fun a i z => F_n F353 (show ¬ (a < 0) by omega) rfl) (TR_f (fun a i z => F_n F335 (show ¬ (a = 77 ∧ (i = 4 ∨ i = 5)) by omega) rfl) (TR_f (fun a i z => F_n F110 (show ¬ (a = 77 ∧ 7 ≤ i ∧ i ≤ 10) by omega) rfl) j_108)))
                      have j_373 := (W9_f (fun a i z => F_n F353 (show ¬ (a < 0) by omega) rfl) (W9_f (fun a i z => F_n F335 (show ¬ (a = 77 ∧ (i = 4 ∨ i = 5)) by omega) rfl) (W9_f (fun a i z => F_n F110 (show ¬ (a = 77 ∧ 7 ≤ i ∧ i ≤ 10) by omega) rfl) j_109)))
                      refine E_156 hX (by omega) hG354 (by omega) (by omega) (by omega) (by omega) j_372 j_373  (fun M380 hG375 F374 p_376 p_377 p_378 p_379 => ?_)
                      have F381 := FR.c F357 F374 (fun a i z => show a = 77 ∧ (i = 4 ∨ i = 5 ∨ 7 ≤ i ∧ i ≤ 10 ∨ i = 15 ∨ i = 25) ∨ 80 ≤ a ∧ a ≤ 84 ∧ 8 ≤ i by have z : a = 77 ∧ 7 ≤ i ∧ i ≤ 10 := z; omega)
                      have b_382 := g_b hG375 (a := 77) (i := 7) (lo := 0) (hi := 500) rfl rfl
                      have c_383 : M380.2.1 77 6 = (M.2.1 77 6) := (F_n F374 (show ¬ (77 = 77 ∧ 7 ≤ 6 ∧ 6 ≤ 10) by omega) c_366)
                      have t_384 : (M380.2.1 77 6).toInt = (M.2.1 77 6).toInt := congrArg Int32.toInt c_383
                      have b_385 := g_b hG375 (a := 77) (i := 8) (lo := 0) (hi := 5) rfl rfl
                      have b_386 := g_b hG375 (a := 77) (i := 10) (lo := 0) (hi := 500) rfl rfl
                      have z_387 := RS_s p_379.2 (a := (x_ns t nn (x_ns t nn (x_ns t nn a)))) (by omega)
                      refine to_i (pc := 179) rw_170_179 rfl ?_
                      refine to_i (pc := 181) rw_170_181 rfl ?_
                      refine s_add (pc := 183) rw_170_183 (A := (M116.2.1 77 9).toInt) (B := 4) rfl rfl (by omega) (fun v388 e389 => ?_)
                      refine to_is (pc := 184) rw_170_184 (ls2 := [.ref 77, .int v51, .int (M25.2.1 77 9), .int v105, .int (0 : Int32), .int (4 : Int32), .int (M116.2.1 77 9), .int v388, .null]) rfl rfl ?_
                      refine to_c (pc := 186) rw_170_186 (x := (10 : Int32)) rfl rfl ?_
                      refine to_is (pc := 188) rw_170_188 (ls2 := [.ref 77, .int v51, .int (M25.2.1 77 9), .int v105, .int (0 : Int32), .int (4 : Int32), .int (M116.2.1 77 9), .int v388, .int (10 : Int32)]) rfl rfl ?_
                      refine to_i (pc := 190) rw_170_190 rfl ?_
                      refine b_ieq_t (pc := 192) rw_170_192 (A := 0) rfl (by omega) ?_
                      refine to_an (pc := 318) rw_170_318 rfl ?_
                      refine to_dupr (pc := 319) rw_170_319 ?_
                      refine tt_gJ (pc := 320) rw_170_320 (g_o hG375 rfl) (v := (M.2.2.1 77 25)) (F_nl F374 (show ¬ (77 = 77 ∧ 7 ≤ 25 ∧ 25 ≤ 10) by omega) (F_nl F353 (show ¬ (77 < 0) by omega) (F_nl F335 (show ¬ (77 = 77 ∧ (25 = 4 ∨ 25 = 5)) by omega) (F_nl F110 (show ¬ (77 = 77 ∧ 7 ≤ 25 ∧ 25 ≤ 10) by omega) (F_nl F64 (show ¬ (77 = 77 ∧ 7 ≤ 25 ∧ 25 ≤ 10) by omega) (F_nl F35 (show ¬ (77 = 77 ∧ (25 = 4 ∨ 25 = 5)) by omega) (F_nl F19 (show ¬ (77 = 77 ∧ 7 ≤ 25 ∧ 25 ≤ 10) by omega) rfl))))))) ?_
                      refine to_i (pc := 323) rw_170_323 rfl ?_
                      refine to_i (pc := 325) rw_170_325 rfl ?_
                      refine s_s (pc := 327) rw_170_327 (by omega) (ls0 := [.int (M116.2.1 77 9), .int v388, .null, .null, .null]) rfl (Nat.le_of_ble_eq_true rfl) (Nat.le_of_ble_eq_true rfl) rfl (to_rcs rfl rfl) rfl ?_
                      refine E_168 hX (by omega) hG375 (by omega) (by omega) (by omega) (by omega) (by omega) (a := (M116.2.1 77 9)) (b := v388) (fun r390 M394 hG392 F391 p_393 => ?_)
                      have F395 := FR.c F381 F391 (fun a i z => show a = 77 ∧ (i = 4 ∨ i = 5 ∨ 7 ≤ i ∧ i ≤ 10 ∨ i = 15 ∨ i = 25) ∨ 80 ≤ a ∧ a ≤ 84 ∧ 8 ≤ i by have z : a < 0 := z; omega)
                      refine to_2l (pc := 330) rw_170_330 (v := ((M.2.2.1 77 25) ||| r390)) rfl ?_
                      have j_396 := (PLr_f (fun a i z => F_n F391 (show ¬ (a < 0) by omega) rfl) (F_nl F391 (show ¬ (77 < 0) by omega) rfl) (PLr_f (fun a i z => F_n F374 (show ¬ (a = 77 ∧ 7 ≤ i ∧ i ≤ 10) by omega) rfl) (F_nl F374 (show ¬ (77 = 77 ∧ 7 ≤ 25 ∧ 25 ≤ 10) by omega) rfl) (PLr_f (fun a i z => F_n F353 (show ¬ (a < 0) by omega) rfl) (F_nl F353 (show ¬ (77 < 0) by omega) rfl) (PLr_f (fun a i z => F_n F335 (show ¬ (a = 77 ∧ (i = 4 ∨ i = 5)) by omega) rfl) (F_nl F335 (show ¬ (77 = 77 ∧ (25 = 4 ∨ 25 = 5)) by omega) rfl) (PLr_f (fun a i z => F_n F110 (show ¬ (a = 77 ∧ 7 ≤ i ∧ i ≤ 10) by omega) rfl) (F_nl F110 (show ¬ (77 = 77 ∧ 7 ≤ 25 ∧ 25 ≤ 10) by omega) rfl) (PLr_f (fun a i z => F_n F64 (show ¬ (a = 77 ∧ 7 ≤ i ∧ i ≤ 10) by omega) rfl) (F_nl F64 (show ¬ (77 = 77 ∧ 7 ≤ 25 ∧ 25 ≤ 10) by omega) rfl) (PLr_f (fun a i z => F_n F35 (show ¬ (a = 77 ∧ (i = 4 ∨ i = 5)) by omega) rfl) (F_nl F35 (show ¬ (77 = 77 ∧ (25 = 4 ∨ 25 = 5)) by omega) rfl) j_33)))))))
                      refine s_pJ (pc := 331) rw_170_331 hG392 rfl (fun M398 W397 => ?_)
                      have hG399 := g_wl hG392 W397
                      have F400 := FR.wl F395 W397 (show 77 = 77 ∧ (25 = 4 ∨ 25 = 5 ∨ 7 ≤ 25 ∧ 25 ≤ 10 ∨ 25 = 15 ∨ 25 = 25) ∨ 80 ≤ 77 ∧ 77 ≤ 84 ∧ 8 ≤ 25 by omega)
                      refine to_an (pc := 334) rw_170_334 rfl ?_
                      refine s_gR (pc := 335) rw_170_335 hG399 rfl (v := 80) rfl ?_
                      refine to_in (pc := 338) rw_170_338 rfl ?_
                      refine to_in (pc := 339) rw_170_339 rfl ?_
                      refine s_ias (pc := 340) rw_170_340 hG399 rfl (n := 16) rfl (A := v51.toInt) rfl (by omega) (by omega) (fun M402 W401 => ?_)
                      have hG403 := g_wf hG399 W401 rfl rfl (by decide)
                      have F404 := FR.w F400 W401 (show 80 = 77 ∧ ((v51.toInt).toNat = 4 ∨ (v51.toInt).toNat = 5 ∨ 7 ≤ (v51.toInt).toNat ∧ (v51.toInt).toNat ≤ 10 ∨ (v51.toInt).toNat = 15 ∨ (v51.toInt).toNat = 25) ∨ 80 ≤ 80 ∧ 80 ≤ 84 ∧ 8 ≤ (v51.toInt).toNat by omega)
                      refine to_an (pc := 341) rw_170_341 rfl ?_
                      refine s_gR (pc := 342) rw_170_342 hG403 rfl (v := 81) rfl ?_
                      refine to_in (pc := 345) rw_170_345 rfl ?_
                      refine to_in (pc := 346) rw_170_346 rfl ?_
                      refine s_ias (pc := 347) rw_170_347 hG403 rfl (n := 16) rfl (A := v51.toInt) rfl (by omega) (by omega) (fun M406 W405 => ?_)
                      have hG407 := g_w hG403 W405 (A := v105.toInt) rfl (lo := 0) (hi := 3) rfl rfl (by omega) (by decide)
                      have F408 := FR.w F404 W405 (show 81 = 77 ∧ ((v51.toInt).toNat = 4 ∨ (v51.toInt).toNat = 5 ∨ 7 ≤ (v51.toInt).toNat ∧ (v51.toInt).toNat ≤ 10 ∨ (v51.toInt).toNat = 15 ∨ (v51.toInt).toNat = 25) ∨ 80 ≤ 81 ∧ 81 ≤ 84 ∧ 8 ≤ (v51.toInt).toNat by omega)
                      refine to_an (pc := 348) rw_170_348 rfl ?_
                      refine s_gR (pc := 349) rw_170_349 hG407 rfl (v := 82) rfl ?_
                      refine to_in (pc := 352) rw_170_352 rfl ?_
                      refine to_i (pc := 353) rw_170_353 rfl ?_
                      refine s_ias (pc := 355) rw_170_355 hG407 rfl (n := 16) rfl (A := v51.toInt) rfl (by omega) (by omega) (fun M410 W409 => ?_)
                      have hG411 := g_w hG407 W409 (A := (M116.2.1 77 9).toInt) rfl (lo := 0) (hi := 59) rfl rfl (by omega) (by decide)
                      have F412 := FR.w F408 W409 (show 82 = 77 ∧ ((v51.toInt).toNat = 4 ∨ (v51.toInt).toNat = 5 ∨ 7 ≤ (v51.toInt).toNat ∧ (v51.toInt).toNat ≤ 10 ∨ (v51.toInt).toNat = 15 ∨ (v51.toInt).toNat = 25) ∨ 80 ≤ 82 ∧ 82 ≤ 84 ∧ 8 ≤ (v51.toInt).toNat by omega)
                      refine to_an (pc := 356) rw_170_356 rfl ?_
                      refine s_gR (pc := 357) rw_170_357 hG411 rfl (v := 83) rfl ?_
                      refine to_in (pc := 360) rw_170_360 rfl ?_
                      refine to_i (pc := 361) rw_170_361 rfl ?_
                      refine s_ias (pc := 363) rw_170_363 hG411 rfl (n := 16) rfl (A := v51.toInt) rfl (by omega) (by omega) (fun M414 W413 => ?_)
                      have hG415 := g_w hG411 W413 (A := v388.toInt) rfl (lo := 0) (hi := 63) rfl rfl (by omega) (by decide)
                      have F416 := FR.w F412 W413 (show 83 = 77 ∧ ((v51.toInt).toNat = 4 ∨ (v51.toInt).toNat = 5 ∨ 7 ≤ (v51.toInt).toNat ∧ (v51.toInt).toNat ≤ 10 ∨ (v51.toInt).toNat = 15 ∨ (v51.toInt).toNat = 25) ∨ 80 ≤ 83 ∧ 83 ≤ 84 ∧ 8 ≤ (v51.toInt).toNat by omega)
                      refine to_an (pc := 364) rw_170_364 rfl ?_
                      refine s_gR (pc := 365) rw_170_365 hG415 rfl (v := 84) rfl ?_
                      refine to_in (pc := 368) rw_170_368 rfl ?_
                      refine to_i (pc := 369) rw_170_369 rfl ?_
                      refine s_ias (pc := 371) rw_170_371 hG415 rfl (n := 16) rfl (A := v51.toInt) rfl (by omega) (by omega) (fun M418 W417 => ?_)
                      have hG419 := g_w hG415 W417 (A := 10) rfl (lo := 0) (hi := 24) rfl rfl (by omega) (by decide)
                      have F420 := FR.w F416 W417 (show 84 = 77 ∧ ((v51.toInt).toNat = 4 ∨ (v51.toInt).toNat = 5 ∨ 7 ≤ (v51.toInt).toNat ∧ (v51.toInt).toNat ≤ 10 ∨ (v51.toInt).toNat = 15 ∨ (v51.toInt).toNat = 25) ∨ 80 ≤ 84 ∧ 84 ≤ 84 ∧ 8 ≤ (v51.toInt).toNat by omega)
                      refine to_an (pc := 372) rw_170_372 rfl ?_
                      refine to_dupr (pc := 373) rw_170_373 ?_
                      have c_421 : M418.2.1 77 15 = (M.2.1 77 15) := (W_n W417 (by omega) (W_n W413 (by omega) (W_n W409 (by omega) (W_n W405 (by omega) (W_n W401 (by omega) (W_l W397 (F_n F391 (show ¬ (77 < 0) by omega) (F_n F374 (show ¬ (77 = 77 ∧ 7 ≤ 15 ∧ 15 ≤ 10) by omega) (F_n F353 (show ¬ (77 < 0) by omega) (F_n F335 (show ¬ (77 = 77 ∧ (15 = 4 ∨ 15 = 5)) by omega) (F_n F110 (show ¬ (77 = 77 ∧ 7 ≤ 15 ∧ 15 ≤ 10) by omega) (F_n F64 (show ¬ (77 = 77 ∧ 7 ≤ 15 ∧ 15 ≤ 10) by omega) c_50))))))))))))
                      refine tt_gI (pc := 374) rw_170_374 (g_o hG419 rfl) (v := (M.2.1 77 15)) c_421 ?_
                      refine to_c (pc := 377) rw_170_377 (x := (1 : Int32)) rfl rfl ?_
                      refine s_add (pc := 378) rw_170_378 (A := (M.2.1 77 15).toInt) (B := 1) rfl rfl (by omega) (fun v422 e423 => ?_)
                      refine s_pI (pc := 379) rw_170_379 hG419 rfl (fun M425 W424 => ?_)
                      have hG426 := g_w hG419 W424 (A := v422.toInt) rfl (lo := 0) (hi := 8) rfl rfl (by omega) (by decide)
                      have F427 := FR.w F420 W424 (show 77 = 77 ∧ (15 = 4 ∨ 15 = 5 ∨ 7 ≤ 15 ∧ 15 ≤ 10 ∨ 15 = 15 ∨ 15 = 25) ∨ 80 ≤ 77 ∧ 77 ≤ 84 ∧ 8 ≤ 15 by omega)
                      refine to_c (pc := 382) rw_170_382 (x := (1 : Int32)) rfl rfl ?_
                      refine s_r1 (pc := 383) rw_170_383 (A := 1) rfl (by omega) ?_
                      have k_428 : (1 : Int32).toInt = 1 := rfl
                      have j_429 := (RS_f (fun a i z => W_n W424 (by omega) rfl) (RS_f (fun a i z => W_n W417 (by omega) rfl) (RS_f (fun a i z => W_n W413 (by omega) rfl) (RS_f (fun a i z => W_n W409 (by omega) rfl) (RS_f (fun a i z => W_n W405 (by omega) rfl) (RS_f (fun a i z => W_n W401 (by omega) rfl) (RS_f (fun a i z => W_l W397 rfl) (RS_f (fun a i z => F_n F391 (show ¬ (a < 0) by omega) rfl) p_379.1))))))))
                      have c_430 : M425.2.1 77 10 = (M380.2.1 77 10) := (W_n W424 (by decide) (W_n W417 (by omega) (W_n W413 (by omega) (W_n W409 (by omega) (W_n W405 (by omega) (W_n W401 (by omega) (W_l W397 (F_n F391 (show ¬ (77 < 0) by omega) rfl))))))))
                      have t_431 : (M425.2.1 77 10).toInt = (M380.2.1 77 10).toInt := congrArg Int32.toInt c_430
                      have z_432 : x_fC t nn sg (x_ns t nn a) := by unfold x_fC; omega
                      have k_433 : (10 : Int32).toInt = 10 := rfl
                      have z_434 := (x_or_r q7 (p_393.trans (x_bw_v (by omega) (by omega))) : _ = _ ||| x_bw (x_val t nn (x_ns t nn (x_ns t nn (x_ns t nn a)))) ((x_val t nn (x_ns t nn (x_ns t nn (x_ns t nn a)))) + ((x_kx (x_val t nn (x_ns t nn (x_ns t nn a)))) - 1)))
                      have z_435 := PLr_p (nm := (x_val t nn (x_ns t nn a))) (kd := ((x_kx (x_val t nn (x_ns t nn (x_ns t nn a)))) - 3)) (f := (x_val t nn (x_ns t nn (x_ns t nn (x_ns t nn a))))) (l := ((x_val t nn (x_ns t nn (x_ns t nn (x_ns t nn a)))) + ((x_kx (x_val t nn (x_ns t nn (x_ns t nn a)))) - 1))) (c := 10) j_396 W397 W401 W405 W409 W413 W417 W424 (by omega) z_434 (by omega) (by omega) (by omega) (by omega) (by omega) (by omega) (by omega) (by omega) (by omega) (by omega) (by omega)
                      exact h (1 : Int32) M425 hG426 F427 (by omega) (by omega) j_429 (fun z => absurd z (by decide)) (fun _ => ⟨_, (by rw [show (M425.2.1 77 10).toInt = (x_ns t nn (x_ns t nn (x_ns t nn (x_ns t nn a)))) by omega]; exact x_field_d z_432 (by omega)), z_435, (by show sg.2.1 + 1 + sg.2.2.1 = _; omega)⟩)
                    · refine to_an (pc := 169) rw_170_169 rfl ?_
                      refine to_c (pc := 170) rw_170_170 (x := (3 : Int32)) rfl rfl ?_
                      refine s_v (pc := 171) rw_170_171 (by omega) (ls0 := [.ref 77, .int (3 : Int32)]) rfl (Nat.le_of_ble_eq_true rfl) (Nat.le_of_ble_eq_true rfl) rfl (to_rc rfl rfl rfl (g_o hG354 rfl)) rfl ?_
                      refine to_an (pc := 0) rw_152_0 rfl ?_
                      refine to_in (pc := 1) rw_152_1 rfl ?_
                      refine s_pI (pc := 2) rw_152_2 hG354 rfl (fun M437 W436 => ?_)
                      have hG438 := g_wf hG354 W436 rfl rfl (by decide)
                      have F439 := FR.w F357 W436 (show 77 = 77 ∧ (4 = 4 ∨ 4 = 5 ∨ 7 ≤ 4 ∧ 4 ≤ 10 ∨ 4 = 15 ∨ 4 = 25) ∨ 80 ≤ 77 ∧ 77 ≤ 84 ∧ 8 ≤ 4 by omega)
                      refine to_an (pc := 5) rw_152_5 rfl ?_
                      refine to_an (pc := 6) rw_152_6 rfl ?_
                      have c_440 : M437.2.1 77 10 = (M116.2.1 77 10) := (W_n W436 (by decide) (F_n F353 (show ¬ (77 < 0) by omega) (F_n F335 (show ¬ (77 = 77 ∧ (10 = 4 ∨ 10 = 5)) by omega) rfl)))
                      refine tt_gI (pc := 7) rw_152_7 (g_o hG438 rfl) (v := (M116.2.1 77 10)) c_440 ?_
                      refine s_pI (pc := 10) rw_152_10 hG438 rfl (fun M442 W441 => ?_)
                      have hG443 := g_wf hG438 W441 rfl rfl (by decide)
                      have F444 := FR.w F439 W441 (show 77 = 77 ∧ (5 = 4 ∨ 5 = 5 ∨ 7 ≤ 5 ∧ 5 ≤ 10 ∨ 5 = 15 ∨ 5 = 25) ∨ 80 ≤ 77 ∧ 77 ≤ 84 ∧ 8 ≤ 5 by omega)
                      refine to_c (pc := 13) rw_152_13 (x := (0 : Int32)) rfl rfl ?_
                      refine s_r1 (pc := 14) rw_152_14 (A := 0) rfl (by omega) ?_
                      refine s_r1 (pc := 174) rw_170_174 (A := 0) rfl (by omega) ?_
                      have j_445 := (RS_f (fun a i z => W_n W441 (by omega) rfl) (RS_f (fun a i z => W_n W436 (by omega) rfl) (RS_f (fun a i z => F_n F353 (show ¬ (a < 0) by omega) rfl) (RS_f (fun a i z => F_n F335 (show ¬ (a = 77 ∧ (i = 4 ∨ i = 5)) by omega) rfl) p_115.1))))
                      exact h (0 : Int32) M442 hG443 F444 (by omega) (by omega) j_445 (fun _ => x_field_n (fun h9 => by unfold x_fC at h9; omega)) (fun z => absurd z (by decide))
                · refine to_c (pc := 108) rw_170_108 (x := (3 : Int32)) rfl rfl ?_
                  refine to_go (pc := 109) rw_170_109 ?_
                  refine to_is (pc := 122) rw_170_122 (ls2 := [.ref 77, .int v51, .int (M25.2.1 77 9), .int v105, .int (0 : Int32), .int (3 : Int32), .null, .null, .null]) rfl rfl ?_
                  refine to_an (pc := 124) rw_170_124 rfl ?_
                  refine to_c (pc := 125) rw_170_125 (x := (0 : Int32)) rfl rfl ?_
                  refine to_an (pc := 126) rw_170_126 rfl ?_
                  have c_446 : M116.2.1 77 14 = (M.2.1 77 14) := (F_n F110 (show ¬ (77 = 77 ∧ 7 ≤ 14 ∧ 14 ≤ 10) by omega) (F_n F64 (show ¬ (77 = 77 ∧ 7 ≤ 14 ∧ 14 ≤ 10) by omega) (F_n F35 (show ¬ (77 = 77 ∧ (14 = 4 ∨ 14 = 5)) by omega) (F_n F19 (show ¬ (77 = 77 ∧ 7 ≤ 14 ∧ 14 ≤ 10) by omega) rfl))))
                  refine tt_gI (pc := 127) rw_170_127 (g_o hG111 rfl) (v := (M.2.1 77 14)) c_446 ?_
                  refine to_c (pc := 130) rw_170_130 (x := (1 : Int32)) rfl rfl ?_
                  refine s_sub (pc := 131) rw_170_131 (A := (M.2.1 77 14).toInt) (B := 1) rfl rfl (by omega) (fun v447 e448 => ?_)
                  refine to_i (pc := 132) rw_170_132 rfl ?_
                  refine s_sub (pc := 134) rw_170_134 (A := v447.toInt) (B := 3) rfl rfl (by omega) (fun v449 e450 => ?_)
                  refine s_v (pc := 135) rw_170_135 (by omega) (ls0 := [.ref 77, .int (0 : Int32), .int v449]) rfl (Nat.le_of_ble_eq_true rfl) (Nat.le_of_ble_eq_true rfl) rfl (to_rc rfl rfl rfl (g_o hG111 rfl)) rfl ?_
                  have k_451 : (0 : Int32).toInt = 0 := rfl
                  refine E_162 hX (by omega) hG111 p_115.1 (by omega) (by omega) (l := (0 : Int32)) (m := v449) (t := t) (nn := nn) (a := (x_ns t nn (x_ns t nn (x_ns t nn a)))) (fun r452 M459 hG454 F453 p_455 p_456 p_457 p_458 => ?_)
                  have F460 := FR.c F117 F453 (fun a i z => show a = 77 ∧ (i = 4 ∨ i = 5 ∨ 7 ≤ i ∧ i ≤ 10 ∨ i = 15 ∨ i = 25) ∨ 80 ≤ a ∧ a ≤ 84 ∧ 8 ≤ i by have z : a = 77 ∧ (i = 4 ∨ i = 5) := z; omega)
                  rcases (show r452.toInt = 0 ∨ r452.toInt = 1 by omega) with h461 | h461
                  · skip
                    have p_462 := p_458 (by omega)
                    clear p_457 p_458
                    have z_463 := x_val_b (t := t) (nn := nn) (a := (x_ns t nn (x_ns t nn (x_ns t nn a))))
                    refine b_ine_f (pc := 138) rw_170_138 (A := r452.toInt) rfl (by omega) ?_
                    refine to_c (pc := 141) rw_170_141 (x := (0 : Int32)) rfl rfl ?_
                    refine s_r1 (pc := 142) rw_170_142 (A := 0) rfl (by omega) ?_
                    have j_464 := (RS_f (fun a i z => F_n F453 (show ¬ (a = 77 ∧ (i = 4 ∨ i = 5)) by omega) rfl) p_115.1)
                    exact h (0 : Int32) M459 hG454 F460 (by omega) (by omega) j_464 (fun _ => x_field_n (fun h9 => by unfold x_fC at h9; omega)) (fun z => absurd z (by decide))
                  · skip
                    have p_465 := p_457 (by omega)
                    clear p_457 p_458
                    have c_466 : M459.2.1 77 9 = (M116.2.1 77 9) := (F_n F453 (show ¬ (77 = 77 ∧ (9 = 4 ∨ 9 = 5)) by omega) rfl)
                    have z_467 := x_val_b (t := t) (nn := nn) (a := (x_ns t nn (x_ns t nn (x_ns t nn a)))) (by omega)
                    refine b_ine_t (pc := 138) rw_170_138 (A := r452.toInt) rfl (by omega) ?_
                    refine to_an (pc := 143) rw_170_143 rfl ?_
                    refine tt_gI (pc := 144) rw_170_144 (g_o hG454 rfl) (v := (M116.2.1 77 9)) c_466 ?_
                    refine to_is (pc := 147) rw_170_147 (ls2 := [.ref 77, .int v51, .int (M25.2.1 77 9), .int v105, .int (0 : Int32), .int (3 : Int32), .int (M116.2.1 77 9), .null, .null]) rfl rfl ?_
                    refine to_an (pc := 149) rw_170_149 rfl ?_
                    refine tt_gJ (pc := 150) rw_170_150 (g_o hG454 rfl) (v := (M.2.2.1 77 25)) (F_nl F453 (show ¬ (77 = 77 ∧ (25 = 4 ∨ 25 = 5)) by omega) (F_nl F110 (show ¬ (77 = 77 ∧ 7 ≤ 25 ∧ 25 ≤ 10) by omega) (F_nl F64 (show ¬ (77 = 77 ∧ 7 ≤ 25 ∧ 25 ≤ 10) by omega) (F_nl F35 (show ¬ (77 = 77 ∧ (25 = 4 ∨ 25 = 5)) by omega) (F_nl F19 (show ¬ (77 = 77 ∧ 7 ≤ 25 ∧ 25 ≤ 10) by omega) rfl))))) ?_
                    refine to_i (pc := 153) rw_170_153 rfl ?_
                    refine to_i (pc := 155) rw_170_155 rfl ?_
                    refine to_i (pc := 157) rw_170_157 rfl ?_
                    refine s_add (pc := 159) rw_170_159 (A := (M116.2.1 77 9).toInt) (B := 3) rfl rfl (by omega) (fun v468 e469 => ?_)
                    refine s_s (pc := 160) rw_170_160 (by omega) (ls0 := [.int (M116.2.1 77 9), .int v468, .null, .null, .null]) rfl (Nat.le_of_ble_eq_true rfl) (Nat.le_of_ble_eq_true rfl) rfl (to_rcs rfl rfl) rfl ?_
                    refine E_168 hX (by omega) hG454 (by omega) (by omega) (by omega) (by omega) (by omega) (a := (M116.2.1 77 9)) (b := v468) (fun r470 M474 hG472 F471 p_473 => ?_)
                    have F475 := FR.c F460 F471 (fun a i z => show a = 77 ∧ (i = 4 ∨ i = 5 ∨ 7 ≤ i ∧ i ≤ 10 ∨ i = 15 ∨ i = 25) ∨ 80 ≤ a ∧ a ≤ 84 ∧ 8 ≤ i by have z : a < 0 := z; omega)
                    refine to_2l (pc := 163) rw_170_163 (v := ((M.2.2.1 77 25) &&& r470)) rfl ?_
                    refine to_cl (pc := 164) rw_170_164 rfl (x := (0 : Int64)) rfl ?_
                    refine s_lcmpE (pc := 165) rw_170_165 (fun v476 e477 => ?_)
                    have b_478 := x_eq_b (x := ((M.2.2.1 77 25) &&& r470)) (y := (0 : Int64))
                    have z_479 := x_free_r q7 p_473
                    have z_480 := x_free_v (s := sg) (f := (M116.2.1 77 9).toInt) (l := v468.toInt) (f2 := (x_val t nn (x_ns t nn (x_ns t nn (x_ns t nn a))))) (l2 := ((x_val t nn (x_ns t nn (x_ns t nn (x_ns t nn a)))) + ((x_kx (x_val t nn (x_ns t nn (x_ns t nn a)))) - 1))) (by omega) (by omega)
                    refine b_ieq (pc := 166) rw_170_166 (A := v476.toInt) rfl (fun h481 => ?_) (fun h481 => ?_)
                    · refine to_an (pc := 175) rw_170_175 rfl ?_
                      refine s_v (pc := 176) rw_170_176 (by omega) (ls0 := [.ref 77]) rfl (Nat.le_of_ble_eq_true rfl) (Nat.le_of_ble_eq_true rfl) rfl (to_rc rfl rfl rfl (g_o hG472 rfl)) rfl ?_
                      have c_482 : M474.2.1 77 7 = (M116.2.1 77 7) := (F_n F471 (show ¬ (77 < 0) by omega) (F_n F453 (show ¬ (77 = 77 ∧ (7 = 4 ∨ 7 = 5)) by omega) rfl))
                      have t_483 : (M474.2.1 77 7).toInt = (M116.2.1 77 7).toInt := congrArg Int32.toInt c_482
                      have c_484 : M474.2.1 77 6 = (M.2.1 77 6) := (F_n F471 (show ¬ (77 < 0) by omega) (F_n F453 (show ¬ (77 = 77 ∧ (6 = 4 ∨ 6 = 5)) by omega) c_119))
                      have t_485 : (M474.2.1 77 6).toInt = (M.2.1 77 6).toInt := congrArg Int32.toInt c_484
                      have c_486 : M474.2.1 77 10 = (M116.2.1 77 10) := (F_n F471 (show ¬ (77 < 0) by omega) (F_n F453 (show ¬ (77 = 77 ∧ (10 = 4 ∨ 10 = 5)) by omega) rfl))
                      have t_487 : (M474.2.1 77 10).toInt = (M116.2.1 77 10).toInt := congrArg Int32.toInt c_486
                      have j_488 := (RS_f (fun a i z => F_n F471 (show ¬ (a < 0) by omega) rfl) (RS_f (fun a i z => F_n F453 (show ¬ (a = 77 ∧ (i = 4 ∨ i = 5)) by omega) rfl) p_115.1))
                      have z_489 := RS_b j_488 (a := (x_ns t nn (x_ns t nn (x_ns t nn a)))) (by omega)
                      have j_490 := (TR_f (fun a i z => F_n F471 (show ¬ (a < 0) by omega) rfl) (TR_f (fun a i z => F_n F453 (show ¬ (a = 77 ∧ (i = 4 ∨ i = 5)) by omega) rfl) (TR_f (fun a i z => F_n F110 (show ¬ (a = 77 ∧ 7 ≤ i ∧ i ≤ 10) by omega) rfl) j_108)))
                      have j_491 := (W9_f (fun a i z => F_n F471 (show ¬ (a < 0) by omega) rfl) (W9_f (fun a i z => F_n F453 (show ¬ (a = 77 ∧ (i = 4 ∨ i = 5)) by omega) rfl) (W9_f (fun a i z => F_n F110 (show ¬ (a = 77 ∧ 7 ≤ i ∧ i ≤ 10) by omega) rfl) j_109)))
                      refine E_156 hX (by omega) hG472 (by omega) (by omega) (by omega) (by omega) j_490 j_491  (fun M498 hG493 F492 p_494 p_495 p_496 p_497 => ?_)
                      have F499 := FR.c F475 F492 (fun a i z => show a = 77 ∧ (i = 4 ∨ i = 5 ∨ 7 ≤ i ∧ i ≤ 10 ∨ i = 15 ∨ i = 25) ∨ 80 ≤ a ∧ a ≤ 84 ∧ 8 ≤ i by have z : a = 77 ∧ 7 ≤ i ∧ i ≤ 10 := z; omega)
                      have b_500 := g_b hG493 (a := 77) (i := 7) (lo := 0) (hi := 500) rfl rfl
                      have c_501 : M498.2.1 77 6 = (M.2.1 77 6) := (F_n F492 (show ¬ (77 = 77 ∧ 7 ≤ 6 ∧ 6 ≤ 10) by omega) c_484)
                      have t_502 : (M498.2.1 77 6).toInt = (M.2.1 77 6).toInt := congrArg Int32.toInt c_501
                      have b_503 := g_b hG493 (a := 77) (i := 8) (lo := 0) (hi := 5) rfl rfl
                      have b_504 := g_b hG493 (a := 77) (i := 10) (lo := 0) (hi := 500) rfl rfl
                      have z_505 := RS_s p_497.2 (a := (x_ns t nn (x_ns t nn (x_ns t nn a)))) (by omega)
                      refine to_i (pc := 179) rw_170_179 rfl ?_
                      refine to_i (pc := 181) rw_170_181 rfl ?_
                      refine s_add (pc := 183) rw_170_183 (A := (M116.2.1 77 9).toInt) (B := 3) rfl rfl (by omega) (fun v506 e507 => ?_)
                      refine to_is (pc := 184) rw_170_184 (ls2 := [.ref 77, .int v51, .int (M25.2.1 77 9), .int v105, .int (0 : Int32), .int (3 : Int32), .int (M116.2.1 77 9), .int v506, .null]) rfl rfl ?_
                      refine to_c (pc := 186) rw_170_186 (x := (10 : Int32)) rfl rfl ?_
                      refine to_is (pc := 188) rw_170_188 (ls2 := [.ref 77, .int v51, .int (M25.2.1 77 9), .int v105, .int (0 : Int32), .int (3 : Int32), .int (M116.2.1 77 9), .int v506, .int (10 : Int32)]) rfl rfl ?_
                      refine to_i (pc := 190) rw_170_190 rfl ?_
                      refine b_ieq_t (pc := 192) rw_170_192 (A := 0) rfl (by omega) ?_
                      refine to_an (pc := 318) rw_170_318 rfl ?_
                      refine to_dupr (pc := 319) rw_170_319 ?_
                      refine tt_gJ (pc := 320) rw_170_320 (g_o hG493 rfl) (v := (M.2.2.1 77 25)) (F_nl F492 (show ¬ (77 = 77 ∧ 7 ≤ 25 ∧ 25 ≤ 10) by omega) (F_nl F471 (show ¬ (77 < 0) by omega) (F_nl F453 (show ¬ (77 = 77 ∧ (25 = 4 ∨ 25 = 5)) by omega) (F_nl F110 (show ¬ (77 = 77 ∧ 7 ≤ 25 ∧ 25 ≤ 10) by omega) (F_nl F64 (show ¬ (77 = 77 ∧ 7 ≤ 25 ∧ 25 ≤ 10) by omega) (F_nl F35 (show ¬ (77 = 77 ∧ (25 = 4 ∨ 25 = 5)) by omega) (F_nl F19 (show ¬ (77 = 77 ∧ 7 ≤ 25 ∧ 25 ≤ 10) by omega) rfl))))))) ?_
                      refine to_i (pc := 323) rw_170_323 rfl ?_
                      refine to_i (pc := 325) rw_170_325 rfl ?_
                      refine s_s (pc := 327) rw_170_327 (by omega) (ls0 := [.int (M116.2.1 77 9), .int v506, .null, .null, .null]) rfl (Nat.le_of_ble_eq_true rfl) (Nat.le_of_ble_eq_true rfl) rfl (to_rcs rfl rfl) rfl ?_
                      refine E_168 hX (by omega) hG493 (by omega) (by omega) (by omega) (by omega) (by omega) (a := (M116.2.1 77 9)) (b := v506) (fun r508 M512 hG510 F509 p_511 => ?_)
                      have F513 := FR.c F499 F509 (fun a i z => show a = 77 ∧ (i = 4 ∨ i = 5 ∨ 7 ≤ i ∧ i ≤ 10 ∨ i = 15 ∨ i = 25) ∨ 80 ≤ a ∧ a ≤ 84 ∧ 8 ≤ i by have z : a < 0 := z; omega)
                      refine to_2l (pc := 330) rw_170_330 (v := ((M.2.2.1 77 25) ||| r508)) rfl ?_
                      have j_514 := (PLr_f (fun a i z => F_n F509 (show ¬ (a < 0) by omega) rfl) (F_nl F509 (show ¬ (77 < 0) by omega) rfl) (PLr_f (fun a i z => F_n F492 (show ¬ (a = 77 ∧ 7 ≤ i ∧ i ≤ 10) by omega) rfl) (F_nl F492 (show ¬ (77 = 77 ∧ 7 ≤ 25 ∧ 25 ≤ 10) by omega) rfl) (PLr_f (fun a i z => F_n F471 (show ¬ (a < 0) by omega) rfl) (F_nl F471 (show ¬ (77 < 0) by omega) rfl) (PLr_f (fun a i z => F_n F453 (show ¬ (a = 77 ∧ (i = 4 ∨ i = 5)) by omega) rfl) (F_nl F453 (show ¬ (77 = 77 ∧ (25 = 4 ∨ 25 = 5)) by omega) rfl) (PLr_f (fun a i z => F_n F110 (show ¬ (a = 77 ∧ 7 ≤ i ∧ i ≤ 10) by omega) rfl) (F_nl F110 (show ¬ (77 = 77 ∧ 7 ≤ 25 ∧ 25 ≤ 10) by omega) rfl) (PLr_f (fun a i z => F_n F64 (show ¬ (a = 77 ∧ 7 ≤ i ∧ i ≤ 10) by omega) rfl) (F_nl F64 (show ¬ (77 = 77 ∧ 7 ≤ 25 ∧ 25 ≤ 10) by omega) rfl) (PLr_f (fun a i z => F_n F35 (show ¬ (a = 77 ∧ (i = 4 ∨ i = 5)) by omega) rfl) (F_nl F35 (show ¬ (77 = 77 ∧ (25 = 4 ∨ 25 = 5)) by omega) rfl) j_33)))))))
                      refine s_pJ (pc := 331) rw_170_331 hG510 rfl (fun M516 W515 => ?_)
                      have hG517 := g_wl hG510 W515
                      have F518 := FR.wl F513 W515 (show 77 = 77 ∧ (25 = 4 ∨ 25 = 5 ∨ 7 ≤ 25 ∧ 25 ≤ 10 ∨ 25 = 15 ∨ 25 = 25) ∨ 80 ≤ 77 ∧ 77 ≤ 84 ∧ 8 ≤ 25 by omega)
                      refine to_an (pc := 334) rw_170_334 rfl ?_
                      refine s_gR (pc := 335) rw_170_335 hG517 rfl (v := 80) rfl ?_
                      refine to_in (pc := 338) rw_170_338 rfl ?_
                      refine to_in (pc := 339) rw_170_339 rfl ?_
                      refine s_ias (pc := 340) rw_170_340 hG517 rfl (n := 16) rfl (A := v51.toInt) rfl (by omega) (by omega) (fun M520 W519 => ?_)
                      have hG521 := g_wf hG517 W519 rfl rfl (by decide)
                      have F522 := FR.w F518 W519 (show 80 = 77 ∧ ((v51.toInt).toNat = 4 ∨ (v51.toInt).toNat = 5 ∨ 7 ≤ (v51.toInt).toNat ∧ (v51.toInt).toNat ≤ 10 ∨ (v51.toInt).toNat = 15 ∨ (v51.toInt).toNat = 25) ∨ 80 ≤ 80 ∧ 80 ≤ 84 ∧ 8 ≤ (v51.toInt).toNat by omega)
                      refine to_an (pc := 341) rw_170_341 rfl ?_
                      refine s_gR (pc := 342) rw_170_342 hG521 rfl (v := 81) rfl ?_
                      refine to_in (pc := 345) rw_170_345 rfl ?_
                      refine to_in (pc := 346) rw_170_346 rfl ?_
                      refine s_ias (pc := 347) rw_170_347 hG521 rfl (n := 16) rfl (A := v51.toInt) rfl (by omega) (by omega) (fun M524 W523 => ?_)
                      have hG525 := g_w hG521 W523 (A := v105.toInt) rfl (lo := 0) (hi := 3) rfl rfl (by omega) (by decide)
                      have F526 := FR.w F522 W523 (show 81 = 77 ∧ ((v51.toInt).toNat = 4 ∨ (v51.toInt).toNat = 5 ∨ 7 ≤ (v51.toInt).toNat ∧ (v51.toInt).toNat ≤ 10 ∨ (v51.toInt).toNat = 15 ∨ (v51.toInt).toNat = 25) ∨ 80 ≤ 81 ∧ 81 ≤ 84 ∧ 8 ≤ (v51.toInt).toNat by omega)
                      refine to_an (pc := 348) rw_170_348 rfl ?_
                      refine s_gR (pc := 349) rw_170_349 hG525 rfl (v := 82) rfl ?_
                      refine to_in (pc := 352) rw_170_352 rfl ?_
                      refine to_i (pc := 353) rw_170_353 rfl ?_
                      refine s_ias (pc := 355) rw_170_355 hG525 rfl (n := 16) rfl (A := v51.toInt) rfl (by omega) (by omega) (fun M528 W527 => ?_)
                      have hG529 := g_w hG525 W527 (A := (M116.2.1 77 9).toInt) rfl (lo := 0) (hi := 59) rfl rfl (by omega) (by decide)
                      have F530 := FR.w F526 W527 (show 82 = 77 ∧ ((v51.toInt).toNat = 4 ∨ (v51.toInt).toNat = 5 ∨ 7 ≤ (v51.toInt).toNat ∧ (v51.toInt).toNat ≤ 10 ∨ (v51.toInt).toNat = 15 ∨ (v51.toInt).toNat = 25) ∨ 80 ≤ 82 ∧ 82 ≤ 84 ∧ 8 ≤ (v51.toInt).toNat by omega)
                      refine to_an (pc := 356) rw_170_356 rfl ?_
                      refine s_gR (pc := 357) rw_170_357 hG529 rfl (v := 83) rfl ?_
                      refine to_in (pc := 360) rw_170_360 rfl ?_
                      refine to_i (pc := 361) rw_170_361 rfl ?_
                      refine s_ias (pc := 363) rw_170_363 hG529 rfl (n := 16) rfl (A := v51.toInt) rfl (by omega) (by omega) (fun M532 W531 => ?_)
                      have hG533 := g_w hG529 W531 (A := v506.toInt) rfl (lo := 0) (hi := 63) rfl rfl (by omega) (by decide)
                      have F534 := FR.w F530 W531 (show 83 = 77 ∧ ((v51.toInt).toNat = 4 ∨ (v51.toInt).toNat = 5 ∨ 7 ≤ (v51.toInt).toNat ∧ (v51.toInt).toNat ≤ 10 ∨ (v51.toInt).toNat = 15 ∨ (v51.toInt).toNat = 25) ∨ 80 ≤ 83 ∧ 83 ≤ 84 ∧ 8 ≤ (v51.toInt).toNat by omega)
                      refine to_an (pc := 364) rw_170_364 rfl ?_
                      refine s_gR (pc := 365) rw_170_365 hG533 rfl (v := 84) rfl ?_
                      refine to_in (pc := 368) rw_170_368 rfl ?_
                      refine to_i (pc := 369) rw_170_369 rfl ?_
                      refine s_ias (pc := 371) rw_170_371 hG533 rfl (n := 16) rfl (A := v51.toInt) rfl (by omega) (by omega) (fun M536 W535 => ?_)
                      have hG537 := g_w hG533 W535 (A := 10) rfl (lo := 0) (hi := 24) rfl rfl (by omega) (by decide)
                      have F538 := FR.w F534 W535 (show 84 = 77 ∧ ((v51.toInt).toNat = 4 ∨ (v51.toInt).toNat = 5 ∨ 7 ≤ (v51.toInt).toNat ∧ (v51.toInt).toNat ≤ 10 ∨ (v51.toInt).toNat = 15 ∨ (v51.toInt).toNat = 25) ∨ 80 ≤ 84 ∧ 84 ≤ 84 ∧ 8 ≤ (v51.toInt).toNat by omega)
                      refine to_an (pc := 372) rw_170_372 rfl ?_
                      refine to_dupr (pc := 373) rw_170_373 ?_
                      have c_539 : M536.2.1 77 15 = (M.2.1 77 15) := (W_n W535 (by omega) (W_n W531 (by omega) (W_n W527 (by omega) (W_n W523 (by omega) (W_n W519 (by omega) (W_l W515 (F_n F509 (show ¬ (77 < 0) by omega) (F_n F492 (show ¬ (77 = 77 ∧ 7 ≤ 15 ∧ 15 ≤ 10) by omega) (F_n F471 (show ¬ (77 < 0) by omega) (F_n F453 (show ¬ (77 = 77 ∧ (15 = 4 ∨ 15 = 5)) by omega) (F_n F110 (show ¬ (77 = 77 ∧ 7 ≤ 15 ∧ 15 ≤ 10) by omega) (F_n F64 (show ¬ (77 = 77 ∧ 7 ≤ 15 ∧ 15 ≤ 10) by omega) c_50))))))))))))
                      refine tt_gI (pc := 374) rw_170_374 (g_o hG537 rfl) (v := (M.2.1 77 15)) c_539 ?_
                      refine to_c (pc := 377) rw_170_377 (x := (1 : Int32)) rfl rfl ?_
                      refine s_add (pc := 378) rw_170_378 (A := (M.2.1 77 15).toInt) (B := 1) rfl rfl (by omega) (fun v540 e541 => ?_)
                      refine s_pI (pc := 379) rw_170_379 hG537 rfl (fun M543 W542 => ?_)
                      have hG544 := g_w hG537 W542 (A := v540.toInt) rfl (lo := 0) (hi := 8) rfl rfl (by omega) (by decide)
                      have F545 := FR.w F538 W542 (show 77 = 77 ∧ (15 = 4 ∨ 15 = 5 ∨ 7 ≤ 15 ∧ 15 ≤ 10 ∨ 15 = 15 ∨ 15 = 25) ∨ 80 ≤ 77 ∧ 77 ≤ 84 ∧ 8 ≤ 15 by omega)
                      refine to_c (pc := 382) rw_170_382 (x := (1 : Int32)) rfl rfl ?_
                      refine s_r1 (pc := 383) rw_170_383 (A := 1) rfl (by omega) ?_
                      have k_546 : (1 : Int32).toInt = 1 := rfl
                      have j_547 := (RS_f (fun a i z => W_n W542 (by omega) rfl) (RS_f (fun a i z => W_n W535 (by omega) rfl) (RS_f (fun a i z => W_n W531 (by omega) rfl) (RS_f (fun a i z => W_n W527 (by omega) rfl) (RS_f (fun a i z => W_n W523 (by omega) rfl) (RS_f (fun a i z => W_n W519 (by omega) rfl) (RS_f (fun a i z => W_l W515 rfl) (RS_f (fun a i z => F_n F509 (show ¬ (a < 0) by omega) rfl) p_497.1))))))))
                      have c_548 : M543.2.1 77 10 = (M498.2.1 77 10) := (W_n W542 (by decide) (W_n W535 (by omega) (W_n W531 (by omega) (W_n W527 (by omega) (W_n W523 (by omega) (W_n W519 (by omega) (W_l W515 (F_n F509 (show ¬ (77 < 0) by omega) rfl))))))))
                      have t_549 : (M543.2.1 77 10).toInt = (M498.2.1 77 10).toInt := congrArg Int32.toInt c_548
                      have z_550 : x_fC t nn sg (x_ns t nn a) := by unfold x_fC; omega
                      have k_551 : (10 : Int32).toInt = 10 := rfl
                      have z_552 := (x_or_r q7 (p_511.trans (x_bw_v (by omega) (by omega))) : _ = _ ||| x_bw (x_val t nn (x_ns t nn (x_ns t nn (x_ns t nn a)))) ((x_val t nn (x_ns t nn (x_ns t nn (x_ns t nn a)))) + ((x_kx (x_val t nn (x_ns t nn (x_ns t nn a)))) - 1)))
                      have z_553 := PLr_p (nm := (x_val t nn (x_ns t nn a))) (kd := ((x_kx (x_val t nn (x_ns t nn (x_ns t nn a)))) - 3)) (f := (x_val t nn (x_ns t nn (x_ns t nn (x_ns t nn a))))) (l := ((x_val t nn (x_ns t nn (x_ns t nn (x_ns t nn a)))) + ((x_kx (x_val t nn (x_ns t nn (x_ns t nn a)))) - 1))) (c := 10) j_514 W515 W519 W523 W527 W531 W535 W542 (by omega) z_552 (by omega) (by omega) (by omega) (by omega) (by omega) (by omega) (by omega) (by omega) (by omega) (by omega) (by omega)
                      exact h (1 : Int32) M543 hG544 F545 (by omega) (by omega) j_547 (fun z => absurd z (by decide)) (fun _ => ⟨_, (by rw [show (M543.2.1 77 10).toInt = (x_ns t nn (x_ns t nn (x_ns t nn (x_ns t nn a)))) by omega]; exact x_field_d z_550 (by omega)), z_553, (by show sg.2.1 + 1 + sg.2.2.1 = _; omega)⟩)
                    · refine to_an (pc := 169) rw_170_169 rfl ?_
                      refine to_c (pc := 170) rw_170_170 (x := (3 : Int32)) rfl rfl ?_
                      refine s_v (pc := 171) rw_170_171 (by omega) (ls0 := [.ref 77, .int (3 : Int32)]) rfl (Nat.le_of_ble_eq_true rfl) (Nat.le_of_ble_eq_true rfl) rfl (to_rc rfl rfl rfl (g_o hG472 rfl)) rfl ?_
                      refine to_an (pc := 0) rw_152_0 rfl ?_
                      refine to_in (pc := 1) rw_152_1 rfl ?_
                      refine s_pI (pc := 2) rw_152_2 hG472 rfl (fun M555 W554 => ?_)
                      have hG556 := g_wf hG472 W554 rfl rfl (by decide)
                      have F557 := FR.w F475 W554 (show 77 = 77 ∧ (4 = 4 ∨ 4 = 5 ∨ 7 ≤ 4 ∧ 4 ≤ 10 ∨ 4 = 15 ∨ 4 = 25) ∨ 80 ≤ 77 ∧ 77 ≤ 84 ∧ 8 ≤ 4 by omega)
                      refine to_an (pc := 5) rw_152_5 rfl ?_
                      refine to_an (pc := 6) rw_152_6 rfl ?_
                      have c_558 : M555.2.1 77 10 = (M116.2.1 77 10) := (W_n W554 (by decide) (F_n F471 (show ¬ (77 < 0) by omega) (F_n F453 (show ¬ (77 = 77 ∧ (10 = 4 ∨ 10 = 5)) by omega) rfl)))
                      refine tt_gI (pc := 7) rw_152_7 (g_o hG556 rfl) (v := (M116.2.1 77 10)) c_558 ?_
                      refine s_pI (pc := 10) rw_152_10 hG556 rfl (fun M560 W559 => ?_)
                      have hG561 := g_wf hG556 W559 rfl rfl (by decide)
                      have F562 := FR.w F557 W559 (show 77 = 77 ∧ (5 = 4 ∨ 5 = 5 ∨ 7 ≤ 5 ∧ 5 ≤ 10 ∨ 5 = 15 ∨ 5 = 25) ∨ 80 ≤ 77 ∧ 77 ≤ 84 ∧ 8 ≤ 5 by omega)
                      refine to_c (pc := 13) rw_152_13 (x := (0 : Int32)) rfl rfl ?_
                      refine s_r1 (pc := 14) rw_152_14 (A := 0) rfl (by omega) ?_
                      refine s_r1 (pc := 174) rw_170_174 (A := 0) rfl (by omega) ?_
                      have j_563 := (RS_f (fun a i z => W_n W559 (by omega) rfl) (RS_f (fun a i z => W_n W554 (by omega) rfl) (RS_f (fun a i z => F_n F471 (show ¬ (a < 0) by omega) rfl) (RS_f (fun a i z => F_n F453 (show ¬ (a = 77 ∧ (i = 4 ∨ i = 5)) by omega) rfl) p_115.1))))
                      exact h (0 : Int32) M560 hG561 F562 (by omega) (by omega) j_563 (fun _ => x_field_n (fun h9 => by unfold x_fC at h9; omega)) (fun z => absurd z (by decide))
              · refine to_c (pc := 96) rw_170_96 (x := (1 : Int32)) rfl rfl ?_
                refine to_go (pc := 97) rw_170_97 ?_
                refine to_is (pc := 101) rw_170_101 (ls2 := [.ref 77, .int v51, .int (M25.2.1 77 9), .int v105, .int (1 : Int32), .null, .null, .null, .null]) rfl rfl ?_
                refine to_in (pc := 103) rw_170_103 rfl ?_
                refine to_c (pc := 104) rw_170_104 (x := (1 : Int32)) rfl rfl ?_
                refine b_cne_t (pc := 105) rw_170_105 (A := v105.toInt) (B := 1) rfl rfl (by omega) ?_
                refine to_in (pc := 112) rw_170_112 rfl ?_
                refine to_c (pc := 113) rw_170_113 (x := (2 : Int32)) rfl rfl ?_
                refine b_cne_t (pc := 114) rw_170_114 (A := v105.toInt) (B := 2) rfl rfl (by omega) ?_
                refine to_c (pc := 121) rw_170_121 (x := (0 : Int32)) rfl rfl ?_
                refine to_is (pc := 122) rw_170_122 (ls2 := [.ref 77, .int v51, .int (M25.2.1 77 9), .int v105, .int (1 : Int32), .int (0 : Int32), .null, .null, .null]) rfl rfl ?_
                refine to_an (pc := 124) rw_170_124 rfl ?_
                refine to_c (pc := 125) rw_170_125 (x := (0 : Int32)) rfl rfl ?_
                refine to_an (pc := 126) rw_170_126 rfl ?_
                have c_564 : M116.2.1 77 14 = (M.2.1 77 14) := (F_n F110 (show ¬ (77 = 77 ∧ 7 ≤ 14 ∧ 14 ≤ 10) by omega) (F_n F64 (show ¬ (77 = 77 ∧ 7 ≤ 14 ∧ 14 ≤ 10) by omega) (F_n F35 (show ¬ (77 = 77 ∧ (14 = 4 ∨ 14 = 5)) by omega) (F_n F19 (show ¬ (77 = 77 ∧ 7 ≤ 14 ∧ 14 ≤ 10) by omega) rfl))))
                refine tt_gI (pc := 127) rw_170_127 (g_o hG111 rfl) (v := (M.2.1 77 14)) c_564 ?_
                refine to_c (pc := 130) rw_170_130 (x := (1 : Int32)) rfl rfl ?_
                refine s_sub (pc := 131) rw_170_131 (A := (M.2.1 77 14).toInt) (B := 1) rfl rfl (by omega) (fun v565 e566 => ?_)
                refine to_i (pc := 132) rw_170_132 rfl ?_
                refine s_sub (pc := 134) rw_170_134 (A := v565.toInt) (B := 0) rfl rfl (by omega) (fun v567 e568 => ?_)
                refine s_v (pc := 135) rw_170_135 (by omega) (ls0 := [.ref 77, .int (0 : Int32), .int v567]) rfl (Nat.le_of_ble_eq_true rfl) (Nat.le_of_ble_eq_true rfl) rfl (to_rc rfl rfl rfl (g_o hG111 rfl)) rfl ?_
                have k_569 : (0 : Int32).toInt = 0 := rfl
                refine E_162 hX (by omega) hG111 p_115.1 (by omega) (by omega) (l := (0 : Int32)) (m := v567) (t := t) (nn := nn) (a := (x_ns t nn (x_ns t nn (x_ns t nn a)))) (fun r570 M577 hG572 F571 p_573 p_574 p_575 p_576 => ?_)
                have F578 := FR.c F117 F571 (fun a i z => show a = 77 ∧ (i = 4 ∨ i = 5 ∨ 7 ≤ i ∧ i ≤ 10 ∨ i = 15 ∨ i = 25) ∨ 80 ≤ a ∧ a ≤ 84 ∧ 8 ≤ i by have z : a = 77 ∧ (i = 4 ∨ i = 5) := z; omega)
                rcases (show r570.toInt = 0 ∨ r570.toInt = 1 by omega) with h579 | h579
                · skip
                  have p_580 := p_576 (by omega)
                  clear p_575 p_576
                  have z_581 := x_val_b (t := t) (nn := nn) (a := (x_ns t nn (x_ns t nn (x_ns t nn a))))
                  refine b_ine_f (pc := 138) rw_170_138 (A := r570.toInt) rfl (by omega) ?_
                  refine to_c (pc := 141) rw_170_141 (x := (0 : Int32)) rfl rfl ?_
                  refine s_r1 (pc := 142) rw_170_142 (A := 0) rfl (by omega) ?_
                  have j_582 := (RS_f (fun a i z => F_n F571 (show ¬ (a = 77 ∧ (i = 4 ∨ i = 5)) by omega) rfl) p_115.1)
                  exact h (0 : Int32) M577 hG572 F578 (by omega) (by omega) j_582 (fun _ => x_field_n (fun h9 => by unfold x_fC at h9; omega)) (fun z => absurd z (by decide))
                · skip
                  have p_583 := p_575 (by omega)
                  clear p_575 p_576
                  have c_584 : M577.2.1 77 9 = (M116.2.1 77 9) := (F_n F571 (show ¬ (77 = 77 ∧ (9 = 4 ∨ 9 = 5)) by omega) rfl)
                  have z_585 := x_val_b (t := t) (nn := nn) (a := (x_ns t nn (x_ns t nn (x_ns t nn a)))) (by omega)
                  refine b_ine_t (pc := 138) rw_170_138 (A := r570.toInt) rfl (by omega) ?_
                  refine to_an (pc := 143) rw_170_143 rfl ?_
                  refine tt_gI (pc := 144) rw_170_144 (g_o hG572 rfl) (v := (M116.2.1 77 9)) c_584 ?_
                  refine to_is (pc := 147) rw_170_147 (ls2 := [.ref 77, .int v51, .int (M25.2.1 77 9), .int v105, .int (1 : Int32), .int (0 : Int32), .int (M116.2.1 77 9), .null, .null]) rfl rfl ?_
                  refine to_an (pc := 149) rw_170_149 rfl ?_
                  refine tt_gJ (pc := 150) rw_170_150 (g_o hG572 rfl) (v := (M.2.2.1 77 25)) (F_nl F571 (show ¬ (77 = 77 ∧ (25 = 4 ∨ 25 = 5)) by omega) (F_nl F110 (show ¬ (77 = 77 ∧ 7 ≤ 25 ∧ 25 ≤ 10) by omega) (F_nl F64 (show ¬ (77 = 77 ∧ 7 ≤ 25 ∧ 25 ≤ 10) by omega) (F_nl F35 (show ¬ (77 = 77 ∧ (25 = 4 ∨ 25 = 5)) by omega) (F_nl F19 (show ¬ (77 = 77 ∧ 7 ≤ 25 ∧ 25 ≤ 10) by omega) rfl))))) ?_
                  refine to_i (pc := 153) rw_170_153 rfl ?_
                  refine to_i (pc := 155) rw_170_155 rfl ?_
                  refine to_i (pc := 157) rw_170_157 rfl ?_
                  refine s_add (pc := 159) rw_170_159 (A := (M116.2.1 77 9).toInt) (B := 0) rfl rfl (by omega) (fun v586 e587 => ?_)
                  refine s_s (pc := 160) rw_170_160 (by omega) (ls0 := [.int (M116.2.1 77 9), .int v586, .null, .null, .null]) rfl (Nat.le_of_ble_eq_true rfl) (Nat.le_of_ble_eq_true rfl) rfl (to_rcs rfl rfl) rfl ?_
                  refine E_168 hX (by omega) hG572 (by omega) (by omega) (by omega) (by omega) (by omega) (a := (M116.2.1 77 9)) (b := v586) (fun r588 M592 hG590 F589 p_591 => ?_)
                  have F593 := FR.c F578 F589 (fun a i z => show a = 77 ∧ (i = 4 ∨ i = 5 ∨ 7 ≤ i ∧ i ≤ 10 ∨ i = 15 ∨ i = 25) ∨ 80 ≤ a ∧ a ≤ 84 ∧ 8 ≤ i by have z : a < 0 := z; omega)
                  refine to_2l (pc := 163) rw_170_163 (v := ((M.2.2.1 77 25) &&& r588)) rfl ?_
                  refine to_cl (pc := 164) rw_170_164 rfl (x := (0 : Int64)) rfl ?_
                  refine s_lcmpE (pc := 165) rw_170_165 (fun v594 e595 => ?_)
                  have b_596 := x_eq_b (x := ((M.2.2.1 77 25) &&& r588)) (y := (0 : Int64))
                  have z_597 := x_free_r q7 p_591
                  have z_598 := x_free_v (s := sg) (f := (M116.2.1 77 9).toInt) (l := v586.toInt) (f2 := (x_val t nn (x_ns t nn (x_ns t nn (x_ns t nn a))))) (l2 := (x_val t nn (x_ns t nn (x_ns t nn (x_ns t nn a))))) (by omega) (by omega)
                  refine b_ieq (pc := 166) rw_170_166 (A := v594.toInt) rfl (fun h599 => ?_) (fun h599 => ?_)
                  · refine to_an (pc := 175) rw_170_175 rfl ?_
                    refine s_v (pc := 176) rw_170_176 (by omega) (ls0 := [.ref 77]) rfl (Nat.le_of_ble_eq_true rfl) (Nat.le_of_ble_eq_true rfl) rfl (to_rc rfl rfl rfl (g_o hG590 rfl)) rfl ?_
                    have c_600 : M592.2.1 77 7 = (M116.2.1 77 7) := (F_n F589 (show ¬ (77 < 0) by omega) (F_n F571 (show ¬ (77 = 77 ∧ (7 = 4 ∨ 7 = 5)) by omega) rfl))
                    have t_601 : (M592.2.1 77 7).toInt = (M116.2.1 77 7).toInt := congrArg Int32.toInt c_600
                    have c_602 : M592.2.1 77 6 = (M.2.1 77 6) := (F_n F589 (show ¬ (77 < 0) by omega) (F_n F571 (show ¬ (77 = 77 ∧ (6 = 4 ∨ 6 = 5)) by omega) c_119))
                    have t_603 : (M592.2.1 77 6).toInt = (M.2.1 77 6).toInt := congrArg Int32.toInt c_602
                    have c_604 : M592.2.1 77 10 = (M116.2.1 77 10) := (F_n F589 (show ¬ (77 < 0) by omega) (F_n F571 (show ¬ (77 = 77 ∧ (10 = 4 ∨ 10 = 5)) by omega) rfl))
                    have t_605 : (M592.2.1 77 10).toInt = (M116.2.1 77 10).toInt := congrArg Int32.toInt c_604
                    have j_606 := (RS_f (fun a i z => F_n F589 (show ¬ (a < 0) by omega) rfl) (RS_f (fun a i z => F_n F571 (show ¬ (a = 77 ∧ (i = 4 ∨ i = 5)) by omega) rfl) p_115.1))
                    have z_607 := RS_b j_606 (a := (x_ns t nn (x_ns t nn (x_ns t nn a)))) (by omega)
                    have j_608 := (TR_f (fun a i z => F_n F589 (show ¬ (a < 0) by omega) rfl) (TR_f (fun a i z => F_n F571 (show ¬ (a = 77 ∧ (i = 4 ∨ i = 5)) by omega) rfl) (TR_f (fun a i z => F_n F110 (show ¬ (a = 77 ∧ 7 ≤ i ∧ i ≤ 10) by omega) rfl) j_108)))
                    have j_609 := (W9_f (fun a i z => F_n F589 (show ¬ (a < 0) by omega) rfl) (W9_f (fun a i z => F_n F571 (show ¬ (a = 77 ∧ (i = 4 ∨ i = 5)) by omega) rfl) (W9_f (fun a i z => F_n F110 (show ¬ (a = 77 ∧ 7 ≤ i ∧ i ≤ 10) by omega) rfl) j_109)))
                    refine E_156 hX (by omega) hG590 (by omega) (by omega) (by omega) (by omega) j_608 j_609  (fun M616 hG611 F610 p_612 p_613 p_614 p_615 => ?_)
                    have F617 := FR.c F593 F610 (fun a i z => show a = 77 ∧ (i = 4 ∨ i = 5 ∨ 7 ≤ i ∧ i ≤ 10 ∨ i = 15 ∨ i = 25) ∨ 80 ≤ a ∧ a ≤ 84 ∧ 8 ≤ i by have z : a = 77 ∧ 7 ≤ i ∧ i ≤ 10 := z; omega)
                    have b_618 := g_b hG611 (a := 77) (i := 7) (lo := 0) (hi := 500) rfl rfl
                    have c_619 : M616.2.1 77 6 = (M.2.1 77 6) := (F_n F610 (show ¬ (77 = 77 ∧ 7 ≤ 6 ∧ 6 ≤ 10) by omega) c_602)
                    have t_620 : (M616.2.1 77 6).toInt = (M.2.1 77 6).toInt := congrArg Int32.toInt c_619
                    have b_621 := g_b hG611 (a := 77) (i := 8) (lo := 0) (hi := 5) rfl rfl
                    have b_622 := g_b hG611 (a := 77) (i := 10) (lo := 0) (hi := 500) rfl rfl
                    have z_623 := RS_s p_615.2 (a := (x_ns t nn (x_ns t nn (x_ns t nn a)))) (by omega)
                    refine to_i (pc := 179) rw_170_179 rfl ?_
                    refine to_i (pc := 181) rw_170_181 rfl ?_
                    refine s_add (pc := 183) rw_170_183 (A := (M116.2.1 77 9).toInt) (B := 0) rfl rfl (by omega) (fun v624 e625 => ?_)
                    refine to_is (pc := 184) rw_170_184 (ls2 := [.ref 77, .int v51, .int (M25.2.1 77 9), .int v105, .int (1 : Int32), .int (0 : Int32), .int (M116.2.1 77 9), .int v624, .null]) rfl rfl ?_
                    refine to_c (pc := 186) rw_170_186 (x := (10 : Int32)) rfl rfl ?_
                    refine to_is (pc := 188) rw_170_188 (ls2 := [.ref 77, .int v51, .int (M25.2.1 77 9), .int v105, .int (1 : Int32), .int (0 : Int32), .int (M116.2.1 77 9), .int v624, .int (10 : Int32)]) rfl rfl ?_
                    refine to_i (pc := 190) rw_170_190 rfl ?_
                    refine b_ieq_f (pc := 192) rw_170_192 (A := 1) rfl (by omega) ?_
                    refine to_an (pc := 195) rw_170_195 rfl ?_
                    refine to_in (pc := 196) rw_170_196 rfl ?_
                    refine b_ine_t (pc := 197) rw_170_197 (A := v105.toInt) rfl (by omega) ?_
                    refine to_i (pc := 207) rw_170_207 rfl ?_
                    refine to_an (pc := 209) rw_170_209 rfl ?_
                    have c_626 : M616.2.1 77 14 = (M.2.1 77 14) := (F_n F610 (show ¬ (77 = 77 ∧ 7 ≤ 14 ∧ 14 ≤ 10) by omega) (F_n F589 (show ¬ (77 < 0) by omega) (F_n F571 (show ¬ (77 = 77 ∧ (14 = 4 ∨ 14 = 5)) by omega) c_564)))
                    refine tt_gI (pc := 210) rw_170_210 (g_o hG611 rfl) (v := (M.2.1 77 14)) c_626 ?_
                    refine to_c (pc := 213) rw_170_213 (x := (1 : Int32)) rfl rfl ?_
                    refine s_sub (pc := 214) rw_170_214 (A := (M.2.1 77 14).toInt) (B := 1) rfl rfl (by omega) (fun v627 e628 => ?_)
                    refine s_v (pc := 215) rw_170_215 (by omega) (ls0 := [.ref 77, .int (M116.2.1 77 9), .int v627]) rfl (Nat.le_of_ble_eq_true rfl) (Nat.le_of_ble_eq_true rfl) rfl (to_rc rfl rfl rfl (g_o hG611 rfl)) rfl ?_
                    refine E_162 hX (by omega) hG611 p_615.1 (by omega) (by omega) (l := (M116.2.1 77 9)) (m := v627) (t := t) (nn := nn) (a := (x_ns t nn (x_ns t nn (x_ns t nn (x_ns t nn a))))) (fun r629 M636 hG631 F630 p_632 p_633 p_634 p_635 => ?_)
                    have F637 := FR.c F617 F630 (fun a i z => show a = 77 ∧ (i = 4 ∨ i = 5 ∨ 7 ≤ i ∧ i ≤ 10 ∨ i = 15 ∨ i = 25) ∨ 80 ≤ a ∧ a ≤ 84 ∧ 8 ≤ i by have z : a = 77 ∧ (i = 4 ∨ i = 5) := z; omega)
                    rcases (show r629.toInt = 0 ∨ r629.toInt = 1 by omega) with h638 | h638
                    · skip
                      have p_639 := p_635 (by omega)
                      clear p_634 p_635
                      have z_640 := x_val_b (t := t) (nn := nn) (a := (x_ns t nn (x_ns t nn (x_ns t nn (x_ns t nn a)))))
                      refine b_ine_f (pc := 218) rw_170_218 (A := r629.toInt) rfl (by omega) ?_
                      refine to_c (pc := 221) rw_170_221 (x := (0 : Int32)) rfl rfl ?_
                      refine s_r1 (pc := 222) rw_170_222 (A := 0) rfl (by omega) ?_
                      have j_641 := (RS_f (fun a i z => F_n F630 (show ¬ (a = 77 ∧ (i = 4 ∨ i = 5)) by omega) rfl) p_615.1)
                      exact h (0 : Int32) M636 hG631 F637 (by omega) (by omega) j_641 (fun _ => x_field_n (fun h9 => by unfold x_fC at h9; omega)) (fun z => absurd z (by decide))
                    · skip
                      have p_642 := p_634 (by omega)
                      clear p_634 p_635
                      have c_643 : M636.2.1 77 9 = (M616.2.1 77 9) := (F_n F630 (show ¬ (77 = 77 ∧ (9 = 4 ∨ 9 = 5)) by omega) rfl)
                      have z_644 := x_val_b (t := t) (nn := nn) (a := (x_ns t nn (x_ns t nn (x_ns t nn (x_ns t nn a))))) (by omega)
                      refine b_ine_t (pc := 218) rw_170_218 (A := r629.toInt) rfl (by omega) ?_
                      refine to_an (pc := 223) rw_170_223 rfl ?_
                      refine tt_gI (pc := 224) rw_170_224 (g_o hG631 rfl) (v := (M616.2.1 77 9)) c_643 ?_
                      refine to_is (pc := 227) rw_170_227 (ls2 := [.ref 77, .int v51, .int (M25.2.1 77 9), .int v105, .int (1 : Int32), .int (0 : Int32), .int (M116.2.1 77 9), .int (M616.2.1 77 9), .int (10 : Int32)]) rfl rfl ?_
                      refine to_i (pc := 229) rw_170_229 rfl ?_
                      refine to_i (pc := 231) rw_170_231 rfl ?_
                      refine s_sub (pc := 233) rw_170_233 (A := (M616.2.1 77 9).toInt) (B := (M116.2.1 77 9).toInt) rfl rfl (by omega) (fun v645 e646 => ?_)
                      refine to_c (pc := 234) rw_170_234 (x := (23 : Int32)) rfl rfl ?_
                      refine b_cle (pc := 236) rw_170_236 (A := v645.toInt) (B := 23) rfl rfl (fun h647 => ?_) (fun h647 => ?_)
                      · refine to_an (pc := 245) rw_170_245 rfl ?_
                        refine tt_gJ (pc := 246) rw_170_246 (g_o hG631 rfl) (v := (M.2.2.1 77 25)) (F_nl F630 (show ¬ (77 = 77 ∧ (25 = 4 ∨ 25 = 5)) by omega) (F_nl F610 (show ¬ (77 = 77 ∧ 7 ≤ 25 ∧ 25 ≤ 10) by omega) (F_nl F589 (show ¬ (77 < 0) by omega) (F_nl F571 (show ¬ (77 = 77 ∧ (25 = 4 ∨ 25 = 5)) by omega) (F_nl F110 (show ¬ (77 = 77 ∧ 7 ≤ 25 ∧ 25 ≤ 10) by omega) (F_nl F64 (show ¬ (77 = 77 ∧ 7 ≤ 25 ∧ 25 ≤ 10) by omega) (F_nl F35 (show ¬ (77 = 77 ∧ (25 = 4 ∨ 25 = 5)) by omega) (F_nl F19 (show ¬ (77 = 77 ∧ 7 ≤ 25 ∧ 25 ≤ 10) by omega) rfl)))))))) ?_
                        refine to_i (pc := 249) rw_170_249 rfl ?_
                        refine to_i (pc := 251) rw_170_251 rfl ?_
                        refine s_s (pc := 253) rw_170_253 (by omega) (ls0 := [.int (M116.2.1 77 9), .int (M616.2.1 77 9), .null, .null, .null]) rfl (Nat.le_of_ble_eq_true rfl) (Nat.le_of_ble_eq_true rfl) rfl (to_rcs rfl rfl) rfl ?_
                        refine E_168 hX (by omega) hG631 (by omega) (by omega) (by omega) (by omega) (by omega) (a := (M116.2.1 77 9)) (b := (M616.2.1 77 9)) (fun r648 M652 hG650 F649 p_651 => ?_)
                        have F653 := FR.c F637 F649 (fun a i z => show a = 77 ∧ (i = 4 ∨ i = 5 ∨ 7 ≤ i ∧ i ≤ 10 ∨ i = 15 ∨ i = 25) ∨ 80 ≤ a ∧ a ≤ 84 ∧ 8 ≤ i by have z : a < 0 := z; omega)
                        refine to_2l (pc := 256) rw_170_256 (v := ((M.2.2.1 77 25) &&& r648)) rfl ?_
                        refine to_cl (pc := 257) rw_170_257 rfl (x := (0 : Int64)) rfl ?_
                        refine s_lcmpE (pc := 258) rw_170_258 (fun v654 e655 => ?_)
                        have b_656 := x_eq_b (x := ((M.2.2.1 77 25) &&& r648)) (y := (0 : Int64))
                        have z_657 := x_free_r q7 p_651
                        have z_658 := x_free_v (s := sg) (f := (M116.2.1 77 9).toInt) (l := (M616.2.1 77 9).toInt) (f2 := (x_val t nn (x_ns t nn (x_ns t nn (x_ns t nn a))))) (l2 := (x_val t nn (x_ns t nn (x_ns t nn (x_ns t nn (x_ns t nn a)))))) (by omega) (by omega)
                        refine b_ieq (pc := 259) rw_170_259 (A := v654.toInt) rfl (fun h659 => ?_) (fun h659 => ?_)
                        · refine to_an (pc := 268) rw_170_268 rfl ?_
                          refine s_v (pc := 269) rw_170_269 (by omega) (ls0 := [.ref 77]) rfl (Nat.le_of_ble_eq_true rfl) (Nat.le_of_ble_eq_true rfl) rfl (to_rc rfl rfl rfl (g_o hG650 rfl)) rfl ?_
                          have c_660 : M652.2.1 77 7 = (M616.2.1 77 7) := (F_n F649 (show ¬ (77 < 0) by omega) (F_n F630 (show ¬ (77 = 77 ∧ (7 = 4 ∨ 7 = 5)) by omega) rfl))
                          have t_661 : (M652.2.1 77 7).toInt = (M616.2.1 77 7).toInt := congrArg Int32.toInt c_660
                          have c_662 : M652.2.1 77 6 = (M.2.1 77 6) := (F_n F649 (show ¬ (77 < 0) by omega) (F_n F630 (show ¬ (77 = 77 ∧ (6 = 4 ∨ 6 = 5)) by omega) c_619))
                          have t_663 : (M652.2.1 77 6).toInt = (M.2.1 77 6).toInt := congrArg Int32.toInt c_662
                          have c_664 : M652.2.1 77 10 = (M616.2.1 77 10) := (F_n F649 (show ¬ (77 < 0) by omega) (F_n F630 (show ¬ (77 = 77 ∧ (10 = 4 ∨ 10 = 5)) by omega) rfl))
                          have t_665 : (M652.2.1 77 10).toInt = (M616.2.1 77 10).toInt := congrArg Int32.toInt c_664
                          have j_666 := (RS_f (fun a i z => F_n F649 (show ¬ (a < 0) by omega) rfl) (RS_f (fun a i z => F_n F630 (show ¬ (a = 77 ∧ (i = 4 ∨ i = 5)) by omega) rfl) p_615.1))
                          have z_667 := RS_b j_666 (a := (x_ns t nn (x_ns t nn (x_ns t nn (x_ns t nn a))))) (by omega)
                          have j_668 := (TR_f (fun a i z => F_n F649 (show ¬ (a < 0) by omega) rfl) (TR_f (fun a i z => F_n F630 (show ¬ (a = 77 ∧ (i = 4 ∨ i = 5)) by omega) rfl) (TR_f (fun a i z => F_n F610 (show ¬ (a = 77 ∧ 7 ≤ i ∧ i ≤ 10) by omega) rfl) j_608)))
                          have j_669 := (W9_f (fun a i z => F_n F649 (show ¬ (a < 0) by omega) rfl) (W9_f (fun a i z => F_n F630 (show ¬ (a = 77 ∧ (i = 4 ∨ i = 5)) by omega) rfl) (W9_f (fun a i z => F_n F610 (show ¬ (a = 77 ∧ 7 ≤ i ∧ i ≤ 10) by omega) rfl) j_609)))
                          refine E_156 hX (by omega) hG650 (by omega) (by omega) (by omega) (by omega) j_668 j_669  (fun M676 hG671 F670 p_672 p_673 p_674 p_675 => ?_)
                          have F677 := FR.c F653 F670 (fun a i z => show a = 77 ∧ (i = 4 ∨ i = 5 ∨ 7 ≤ i ∧ i ≤ 10 ∨ i = 15 ∨ i = 25) ∨ 80 ≤ a ∧ a ≤ 84 ∧ 8 ≤ i by have z : a = 77 ∧ 7 ≤ i ∧ i ≤ 10 := z; omega)
                          have b_678 := g_b hG671 (a := 77) (i := 7) (lo := 0) (hi := 500) rfl rfl
                          have c_679 : M676.2.1 77 6 = (M.2.1 77 6) := (F_n F670 (show ¬ (77 = 77 ∧ 7 ≤ 6 ∧ 6 ≤ 10) by omega) c_662)
                          have t_680 : (M676.2.1 77 6).toInt = (M.2.1 77 6).toInt := congrArg Int32.toInt c_679
                          have b_681 := g_b hG671 (a := 77) (i := 8) (lo := 0) (hi := 5) rfl rfl
                          have b_682 := g_b hG671 (a := 77) (i := 10) (lo := 0) (hi := 500) rfl rfl
                          have z_683 := RS_s p_675.2 (a := (x_ns t nn (x_ns t nn (x_ns t nn (x_ns t nn a))))) (by omega)
                          refine to_i (pc := 272) rw_170_272 rfl ?_
                          refine to_i (pc := 274) rw_170_274 rfl ?_
                          refine s_sub (pc := 276) rw_170_276 (A := (M616.2.1 77 9).toInt) (B := (M116.2.1 77 9).toInt) rfl rfl (by omega) (fun v684 e685 => ?_)
                          refine to_c (pc := 277) rw_170_277 (x := (1 : Int32)) rfl rfl ?_
                          refine s_add (pc := 278) rw_170_278 (A := v684.toInt) (B := 1) rfl rfl (by omega) (fun v686 e687 => ?_)
                          refine to_is (pc := 279) rw_170_279 (ls2 := [.ref 77, .int v51, .int (M25.2.1 77 9), .int v105, .int (1 : Int32), .int (0 : Int32), .int (M116.2.1 77 9), .int (M616.2.1 77 9), .int v686]) rfl rfl ?_
                          refine to_in (pc := 281) rw_170_281 rfl ?_
                          refine to_c (pc := 282) rw_170_282 (x := (3 : Int32)) rfl rfl ?_
                          refine b_cne_f (pc := 283) rw_170_283 (A := v105.toInt) (B := 3) rfl rfl (by omega) ?_
                          refine to_an (pc := 286) rw_170_286 rfl ?_
                          refine to_c (pc := 287) rw_170_287 (x := (1 : Int32)) rfl rfl ?_
                          refine to_i (pc := 288) rw_170_288 rfl ?_
                          refine to_c (pc := 290) rw_170_290 (x := (4 : Int32)) rfl rfl ?_
                          refine b_cge (pc := 291) rw_170_291 (A := v686.toInt) (B := 4) rfl rfl (fun h688 => ?_) (fun h688 => ?_)
                          · refine to_c (pc := 299) rw_170_299 (x := (4 : Int32)) rfl rfl ?_
                            refine s_v (pc := 300) rw_170_300 (by omega) (ls0 := [.ref 77, .int (1 : Int32), .int (4 : Int32)]) rfl (Nat.le_of_ble_eq_true rfl) (Nat.le_of_ble_eq_true rfl) rfl (to_rc rfl rfl rfl (g_o hG671 rfl)) rfl ?_
                            have k_689 : (1 : Int32).toInt = 1 := rfl
                            have k_690 : (4 : Int32).toInt = 4 := rfl
                            refine E_162 hX (by omega) hG671 p_675.1 (by omega) (by omega) (l := (1 : Int32)) (m := (4 : Int32)) (t := t) (nn := nn) (a := (x_ns t nn (x_ns t nn (x_ns t nn (x_ns t nn (x_ns t nn a)))))) (fun r691 M698 hG693 F692 p_694 p_695 p_696 p_697 => ?_)
                            have F699 := FR.c F677 F692 (fun a i z => show a = 77 ∧ (i = 4 ∨ i = 5 ∨ 7 ≤ i ∧ i ≤ 10 ∨ i = 15 ∨ i = 25) ∨ 80 ≤ a ∧ a ≤ 84 ∧ 8 ≤ i by have z : a = 77 ∧ (i = 4 ∨ i = 5) := z; omega)
                            rcases (show r691.toInt = 0 ∨ r691.toInt = 1 by omega) with h700 | h700
                            · skip
                              have p_701 := p_697 (by omega)
                              clear p_696 p_697
                              have z_702 := x_val_b (t := t) (nn := nn) (a := (x_ns t nn (x_ns t nn (x_ns t nn (x_ns t nn (x_ns t nn a))))))
                              refine b_ine_f (pc := 303) rw_170_303 (A := r691.toInt) rfl (by omega) ?_
                              refine to_c (pc := 306) rw_170_306 (x := (0 : Int32)) rfl rfl ?_
                              refine s_r1 (pc := 307) rw_170_307 (A := 0) rfl (by omega) ?_
                              have j_703 := (RS_f (fun a i z => F_n F692 (show ¬ (a = 77 ∧ (i = 4 ∨ i = 5)) by omega) rfl) p_675.1)
                              exact h (0 : Int32) M698 hG693 F699 (by omega) (by omega) j_703 (fun _ => x_field_n (fun h9 => by unfold x_fC at h9; omega)) (fun z => absurd z (by decide))
                            · skip
                              have p_704 := p_696 (by omega)
                              clear p_696 p_697
                              have c_705 : M698.2.1 77 9 = (M676.2.1 77 9) := (F_n F692 (show ¬ (77 = 77 ∧ (9 = 4 ∨ 9 = 5)) by omega) rfl)
                              have z_706 := x_val_b (t := t) (nn := nn) (a := (x_ns t nn (x_ns t nn (x_ns t nn (x_ns t nn (x_ns t nn a)))))) (by omega)
                              refine b_ine_t (pc := 303) rw_170_303 (A := r691.toInt) rfl (by omega) ?_
                              refine to_an (pc := 308) rw_170_308 rfl ?_
                              refine tt_gI (pc := 309) rw_170_309 (g_o hG693 rfl) (v := (M676.2.1 77 9)) c_705 ?_
                              refine to_is (pc := 312) rw_170_312 (ls2 := [.ref 77, .int v51, .int (M25.2.1 77 9), .int v105, .int (1 : Int32), .int (0 : Int32), .int (M116.2.1 77 9), .int (M616.2.1 77 9), .int (M676.2.1 77 9)]) rfl rfl ?_
                              refine to_an (pc := 314) rw_170_314 rfl ?_
                              refine s_v (pc := 315) rw_170_315 (by omega) (ls0 := [.ref 77]) rfl (Nat.le_of_ble_eq_true rfl) (Nat.le_of_ble_eq_true rfl) rfl (to_rc rfl rfl rfl (g_o hG693 rfl)) rfl ?_
                              have c_707 : M698.2.1 77 7 = (M676.2.1 77 7) := (F_n F692 (show ¬ (77 = 77 ∧ (7 = 4 ∨ 7 = 5)) by omega) rfl)
                              have t_708 : (M698.2.1 77 7).toInt = (M676.2.1 77 7).toInt := congrArg Int32.toInt c_707
                              have c_709 : M698.2.1 77 6 = (M.2.1 77 6) := (F_n F692 (show ¬ (77 = 77 ∧ (6 = 4 ∨ 6 = 5)) by omega) c_679)
                              have t_710 : (M698.2.1 77 6).toInt = (M.2.1 77 6).toInt := congrArg Int32.toInt c_709
                              have c_711 : M698.2.1 77 10 = (M676.2.1 77 10) := (F_n F692 (show ¬ (77 = 77 ∧ (10 = 4 ∨ 10 = 5)) by omega) rfl)
                              have t_712 : (M698.2.1 77 10).toInt = (M676.2.1 77 10).toInt := congrArg Int32.toInt c_711
                              have j_713 := (RS_f (fun a i z => F_n F692 (show ¬ (a = 77 ∧ (i = 4 ∨ i = 5)) by omega) rfl) p_675.1)
                              have z_714 := RS_b j_713 (a := (x_ns t nn (x_ns t nn (x_ns t nn (x_ns t nn (x_ns t nn a)))))) (by omega)
                              have j_715 := (TR_f (fun a i z => F_n F692 (show ¬ (a = 77 ∧ (i = 4 ∨ i = 5)) by omega) rfl) (TR_f (fun a i z => F_n F670 (show ¬ (a = 77 ∧ 7 ≤ i ∧ i ≤ 10) by omega) rfl) j_668))
                              have j_716 := (W9_f (fun a i z => F_n F692 (show ¬ (a = 77 ∧ (i = 4 ∨ i = 5)) by omega) rfl) (W9_f (fun a i z => F_n F670 (show ¬ (a = 77 ∧ 7 ≤ i ∧ i ≤ 10) by omega) rfl) j_669))
                              refine E_156 hX (by omega) hG693 (by omega) (by omega) (by omega) (by omega) j_715 j_716  (fun M723 hG718 F717 p_719 p_720 p_721 p_722 => ?_)
                              have F724 := FR.c F699 F717 (fun a i z => show a = 77 ∧ (i = 4 ∨ i = 5 ∨ 7 ≤ i ∧ i ≤ 10 ∨ i = 15 ∨ i = 25) ∨ 80 ≤ a ∧ a ≤ 84 ∧ 8 ≤ i by have z : a = 77 ∧ 7 ≤ i ∧ i ≤ 10 := z; omega)
                              have b_725 := g_b hG718 (a := 77) (i := 7) (lo := 0) (hi := 500) rfl rfl
                              have c_726 : M723.2.1 77 6 = (M.2.1 77 6) := (F_n F717 (show ¬ (77 = 77 ∧ 7 ≤ 6 ∧ 6 ≤ 10) by omega) c_709)
                              have t_727 : (M723.2.1 77 6).toInt = (M.2.1 77 6).toInt := congrArg Int32.toInt c_726
                              have b_728 := g_b hG718 (a := 77) (i := 8) (lo := 0) (hi := 5) rfl rfl
                              have b_729 := g_b hG718 (a := 77) (i := 10) (lo := 0) (hi := 500) rfl rfl
                              have z_730 := RS_s p_722.2 (a := (x_ns t nn (x_ns t nn (x_ns t nn (x_ns t nn (x_ns t nn a)))))) (by omega)
                              refine to_an (pc := 318) rw_170_318 rfl ?_
                              refine to_dupr (pc := 319) rw_170_319 ?_
                              refine tt_gJ (pc := 320) rw_170_320 (g_o hG718 rfl) (v := (M.2.2.1 77 25)) (F_nl F717 (show ¬ (77 = 77 ∧ 7 ≤ 25 ∧ 25 ≤ 10) by omega) (F_nl F692 (show ¬ (77 = 77 ∧ (25 = 4 ∨ 25 = 5)) by omega) (F_nl F670 (show ¬ (77 = 77 ∧ 7 ≤ 25 ∧ 25 ≤ 10) by omega) (F_nl F649 (show ¬ (77 < 0) by omega) (F_nl F630 (show ¬ (77 = 77 ∧ (25 = 4 ∨ 25 = 5)) by omega) (F_nl F610 (show ¬ (77 = 77 ∧ 7 ≤ 25 ∧ 25 ≤ 10) by omega) (F_nl F589 (show ¬ (77 < 0) by omega) (F_nl F571 (show ¬ (77 = 77 ∧ (25 = 4 ∨ 25 = 5)) by omega) (F_nl F110 (show ¬ (77 = 77 ∧ 7 ≤ 25 ∧ 25 ≤ 10) by omega) (F_nl F64 (show ¬ (77 = 77 ∧ 7 ≤ 25 ∧ 25 ≤ 10) by omega) (F_nl F35 (show ¬ (77 = 77 ∧ (25 = 4 ∨ 25 = 5)) by omega) (F_nl F19 (show ¬ (77 = 77 ∧ 7 ≤ 25 ∧ 25 ≤ 10) by omega) rfl)))))))))))) ?_
                              refine to_i (pc := 323) rw_170_323 rfl ?_
                              refine to_i (pc := 325) rw_170_325 rfl ?_
                              refine s_s (pc := 327) rw_170_327 (by omega) (ls0 := [.int (M116.2.1 77 9), .int (M616.2.1 77 9), .null, .null, .null]) rfl (Nat.le_of_ble_eq_true rfl) (Nat.le_of_ble_eq_true rfl) rfl (to_rcs rfl rfl) rfl ?_
                              refine E_168 hX (by omega) hG718 (by omega) (by omega) (by omega) (by omega) (by omega) (a := (M116.2.1 77 9)) (b := (M616.2.1 77 9)) (fun r731 M735 hG733 F732 p_734 => ?_)
                              have F736 := FR.c F724 F732 (fun a i z => show a = 77 ∧ (i = 4 ∨ i = 5 ∨ 7 ≤ i ∧ i ≤ 10 ∨ i = 15 ∨ i = 25) ∨ 80 ≤ a ∧ a ≤ 84 ∧ 8 ≤ i by have z : a < 0 := z; omega)
                              refine to_2l (pc := 330) rw_170_330 (v := ((M.2.2.1 77 25) ||| r731)) rfl ?_
                              have j_737 := (PLr_f (fun a i z => F_n F732 (show ¬ (a < 0) by omega) rfl) (F_nl F732 (show ¬ (77 < 0) by omega) rfl) (PLr_f (fun a i z => F_n F717 (show ¬ (a = 77 ∧ 7 ≤ i ∧ i ≤ 10) by omega) rfl) (F_nl F717 (show ¬ (77 = 77 ∧ 7 ≤ 25 ∧ 25 ≤ 10) by omega) rfl) (PLr_f (fun a i z => F_n F692 (show ¬ (a = 77 ∧ (i = 4 ∨ i = 5)) by omega) rfl) (F_nl F692 (show ¬ (77 = 77 ∧ (25 = 4 ∨ 25 = 5)) by omega) rfl) (PLr_f (fun a i z => F_n F670 (show ¬ (a = 77 ∧ 7 ≤ i ∧ i ≤ 10) by omega) rfl) (F_nl F670 (show ¬ (77 = 77 ∧ 7 ≤ 25 ∧ 25 ≤ 10) by omega) rfl) (PLr_f (fun a i z => F_n F649 (show ¬ (a < 0) by omega) rfl) (F_nl F649 (show ¬ (77 < 0) by omega) rfl) (PLr_f (fun a i z => F_n F630 (show ¬ (a = 77 ∧ (i = 4 ∨ i = 5)) by omega) rfl) (F_nl F630 (show ¬ (77 = 77 ∧ (25 = 4 ∨ 25 = 5)) by omega) rfl) (PLr_f (fun a i z => F_n F610 (show ¬ (a = 77 ∧ 7 ≤ i ∧ i ≤ 10) by omega) rfl) (F_nl F610 (show ¬ (77 = 77 ∧ 7 ≤ 25 ∧ 25 ≤ 10) by omega) rfl) (PLr_f (fun a i z => F_n F589 (show ¬ (a < 0) by omega) rfl) (F_nl F589 (show ¬ (77 < 0) by omega) rfl) (PLr_f (fun a i z => F_n F571 (show ¬ (a = 77 ∧ (i = 4 ∨ i = 5)) by omega) rfl) (F_nl F571 (show ¬ (77 = 77 ∧ (25 = 4 ∨ 25 = 5)) by omega) rfl) (PLr_f (fun a i z => F_n F110 (show ¬ (a = 77 ∧ 7 ≤ i ∧ i ≤ 10) by omega) rfl) (F_nl F110 (show ¬ (77 = 77 ∧ 7 ≤ 25 ∧ 25 ≤ 10) by omega) rfl) (PLr_f (fun a i z => F_n F64 (show ¬ (a = 77 ∧ 7 ≤ i ∧ i ≤ 10) by omega) rfl) (F_nl F64 (show ¬ (77 = 77 ∧ 7 ≤ 25 ∧ 25 ≤ 10) by omega) rfl) (PLr_f (fun a i z => F_n F35 (show ¬ (a = 77 ∧ (i = 4 ∨ i = 5)) by omega) rfl) (F_nl F35 (show ¬ (77 = 77 ∧ (25 = 4 ∨ 25 = 5)) by omega) rfl) j_33))))))))))))
                              refine s_pJ (pc := 331) rw_170_331 hG733 rfl (fun M739 W738 => ?_)
                              have hG740 := g_wl hG733 W738
                              have F741 := FR.wl F736 W738 (show 77 = 77 ∧ (25 = 4 ∨ 25 = 5 ∨ 7 ≤ 25 ∧ 25 ≤ 10 ∨ 25 = 15 ∨ 25 = 25) ∨ 80 ≤ 77 ∧ 77 ≤ 84 ∧ 8 ≤ 25 by omega)
                              refine to_an (pc := 334) rw_170_334 rfl ?_
                              refine s_gR (pc := 335) rw_170_335 hG740 rfl (v := 80) rfl ?_
                              refine to_in (pc := 338) rw_170_338 rfl ?_
                              refine to_in (pc := 339) rw_170_339 rfl ?_
                              refine s_ias (pc := 340) rw_170_340 hG740 rfl (n := 16) rfl (A := v51.toInt) rfl (by omega) (by omega) (fun M743 W742 => ?_)
                              have hG744 := g_wf hG740 W742 rfl rfl (by decide)
                              have F745 := FR.w F741 W742 (show 80 = 77 ∧ ((v51.toInt).toNat = 4 ∨ (v51.toInt).toNat = 5 ∨ 7 ≤ (v51.toInt).toNat ∧ (v51.toInt).toNat ≤ 10 ∨ (v51.toInt).toNat = 15 ∨ (v51.toInt).toNat = 25) ∨ 80 ≤ 80 ∧ 80 ≤ 84 ∧ 8 ≤ (v51.toInt).toNat by omega)
                              refine to_an (pc := 341) rw_170_341 rfl ?_
                              refine s_gR (pc := 342) rw_170_342 hG744 rfl (v := 81) rfl ?_
                              refine to_in (pc := 345) rw_170_345 rfl ?_
                              refine to_in (pc := 346) rw_170_346 rfl ?_
                              refine s_ias (pc := 347) rw_170_347 hG744 rfl (n := 16) rfl (A := v51.toInt) rfl (by omega) (by omega) (fun M747 W746 => ?_)
                              have hG748 := g_w hG744 W746 (A := v105.toInt) rfl (lo := 0) (hi := 3) rfl rfl (by omega) (by decide)
                              have F749 := FR.w F745 W746 (show 81 = 77 ∧ ((v51.toInt).toNat = 4 ∨ (v51.toInt).toNat = 5 ∨ 7 ≤ (v51.toInt).toNat ∧ (v51.toInt).toNat ≤ 10 ∨ (v51.toInt).toNat = 15 ∨ (v51.toInt).toNat = 25) ∨ 80 ≤ 81 ∧ 81 ≤ 84 ∧ 8 ≤ (v51.toInt).toNat by omega)
                              refine to_an (pc := 348) rw_170_348 rfl ?_
                              refine s_gR (pc := 349) rw_170_349 hG748 rfl (v := 82) rfl ?_
                              refine to_in (pc := 352) rw_170_352 rfl ?_
                              refine to_i (pc := 353) rw_170_353 rfl ?_
                              refine s_ias (pc := 355) rw_170_355 hG748 rfl (n := 16) rfl (A := v51.toInt) rfl (by omega) (by omega) (fun M751 W750 => ?_)
                              have hG752 := g_w hG748 W750 (A := (M116.2.1 77 9).toInt) rfl (lo := 0) (hi := 59) rfl rfl (by omega) (by decide)
                              have F753 := FR.w F749 W750 (show 82 = 77 ∧ ((v51.toInt).toNat = 4 ∨ (v51.toInt).toNat = 5 ∨ 7 ≤ (v51.toInt).toNat ∧ (v51.toInt).toNat ≤ 10 ∨ (v51.toInt).toNat = 15 ∨ (v51.toInt).toNat = 25) ∨ 80 ≤ 82 ∧ 82 ≤ 84 ∧ 8 ≤ (v51.toInt).toNat by omega)
                              refine to_an (pc := 356) rw_170_356 rfl ?_
                              refine s_gR (pc := 357) rw_170_357 hG752 rfl (v := 83) rfl ?_
                              refine to_in (pc := 360) rw_170_360 rfl ?_
                              refine to_i (pc := 361) rw_170_361 rfl ?_
                              refine s_ias (pc := 363) rw_170_363 hG752 rfl (n := 16) rfl (A := v51.toInt) rfl (by omega) (by omega) (fun M755 W754 => ?_)
                              have hG756 := g_w hG752 W754 (A := (M616.2.1 77 9).toInt) rfl (lo := 0) (hi := 63) rfl rfl (by omega) (by decide)
                              have F757 := FR.w F753 W754 (show 83 = 77 ∧ ((v51.toInt).toNat = 4 ∨ (v51.toInt).toNat = 5 ∨ 7 ≤ (v51.toInt).toNat ∧ (v51.toInt).toNat ≤ 10 ∨ (v51.toInt).toNat = 15 ∨ (v51.toInt).toNat = 25) ∨ 80 ≤ 83 ∧ 83 ≤ 84 ∧ 8 ≤ (v51.toInt).toNat by omega)
                              refine to_an (pc := 364) rw_170_364 rfl ?_
                              refine s_gR (pc := 365) rw_170_365 hG756 rfl (v := 84) rfl ?_
                              refine to_in (pc := 368) rw_170_368 rfl ?_
                              refine to_i (pc := 369) rw_170_369 rfl ?_
                              refine s_ias (pc := 371) rw_170_371 hG756 rfl (n := 16) rfl (A := v51.toInt) rfl (by omega) (by omega) (fun M759 W758 => ?_)
                              have hG760 := g_w hG756 W758 (A := (M676.2.1 77 9).toInt) rfl (lo := 0) (hi := 24) rfl rfl (by omega) (by decide)
                              have F761 := FR.w F757 W758 (show 84 = 77 ∧ ((v51.toInt).toNat = 4 ∨ (v51.toInt).toNat = 5 ∨ 7 ≤ (v51.toInt).toNat ∧ (v51.toInt).toNat ≤ 10 ∨ (v51.toInt).toNat = 15 ∨ (v51.toInt).toNat = 25) ∨ 80 ≤ 84 ∧ 84 ≤ 84 ∧ 8 ≤ (v51.toInt).toNat by omega)
                              refine to_an (pc := 372) rw_170_372 rfl ?_
                              refine to_dupr (pc := 373) rw_170_373 ?_
                              have c_762 : M759.2.1 77 15 = (M.2.1 77 15) := (W_n W758 (by omega) (W_n W754 (by omega) (W_n W750 (by omega) (W_n W746 (by omega) (W_n W742 (by omega) (W_l W738 (F_n F732 (show ¬ (77 < 0) by omega) (F_n F717 (show ¬ (77 = 77 ∧ 7 ≤ 15 ∧ 15 ≤ 10) by omega) (F_n F692 (show ¬ (77 = 77 ∧ (15 = 4 ∨ 15 = 5)) by omega) (F_n F670 (show ¬ (77 = 77 ∧ 7 ≤ 15 ∧ 15 ≤ 10) by omega) (F_n F649 (show ¬ (77 < 0) by omega) (F_n F630 (show ¬ (77 = 77 ∧ (15 = 4 ∨ 15 = 5)) by omega) (F_n F610 (show ¬ (77 = 77 ∧ 7 ≤ 15 ∧ 15 ≤ 10) by omega) (F_n F589 (show ¬ (77 < 0) by omega) (F_n F571 (show ¬ (77 = 77 ∧ (15 = 4 ∨ 15 = 5)) by omega) (F_n F110 (show ¬ (77 = 77 ∧ 7 ≤ 15 ∧ 15 ≤ 10) by omega) (F_n F64 (show ¬ (77 = 77 ∧ 7 ≤ 15 ∧ 15 ≤ 10) by omega) c_50)))))))))))))))))
                              refine tt_gI (pc := 374) rw_170_374 (g_o hG760 rfl) (v := (M.2.1 77 15)) c_762 ?_
                              refine to_c (pc := 377) rw_170_377 (x := (1 : Int32)) rfl rfl ?_
                              refine s_add (pc := 378) rw_170_378 (A := (M.2.1 77 15).toInt) (B := 1) rfl rfl (by omega) (fun v763 e764 => ?_)
                              refine s_pI (pc := 379) rw_170_379 hG760 rfl (fun M766 W765 => ?_)
                              have hG767 := g_w hG760 W765 (A := v763.toInt) rfl (lo := 0) (hi := 8) rfl rfl (by omega) (by decide)
                              have F768 := FR.w F761 W765 (show 77 = 77 ∧ (15 = 4 ∨ 15 = 5 ∨ 7 ≤ 15 ∧ 15 ≤ 10 ∨ 15 = 15 ∨ 15 = 25) ∨ 80 ≤ 77 ∧ 77 ≤ 84 ∧ 8 ≤ 15 by omega)
                              refine to_c (pc := 382) rw_170_382 (x := (1 : Int32)) rfl rfl ?_
                              refine s_r1 (pc := 383) rw_170_383 (A := 1) rfl (by omega) ?_
                              have j_769 := (RS_f (fun a i z => W_n W765 (by omega) rfl) (RS_f (fun a i z => W_n W758 (by omega) rfl) (RS_f (fun a i z => W_n W754 (by omega) rfl) (RS_f (fun a i z => W_n W750 (by omega) rfl) (RS_f (fun a i z => W_n W746 (by omega) rfl) (RS_f (fun a i z => W_n W742 (by omega) rfl) (RS_f (fun a i z => W_l W738 rfl) (RS_f (fun a i z => F_n F732 (show ¬ (a < 0) by omega) rfl) p_722.1))))))))
                              have c_770 : M766.2.1 77 10 = (M723.2.1 77 10) := (W_n W765 (by decide) (W_n W758 (by omega) (W_n W754 (by omega) (W_n W750 (by omega) (W_n W746 (by omega) (W_n W742 (by omega) (W_l W738 (F_n F732 (show ¬ (77 < 0) by omega) rfl))))))))
                              have t_771 : (M766.2.1 77 10).toInt = (M723.2.1 77 10).toInt := congrArg Int32.toInt c_770
                              have z_772 : x_fC t nn sg (x_ns t nn a) := by unfold x_fC; omega
                              have z_773 := (x_or_r q7 (p_734.trans (x_bw_v (by omega) (by omega))) : _ = _ ||| x_bw (x_val t nn (x_ns t nn (x_ns t nn (x_ns t nn a)))) (x_val t nn (x_ns t nn (x_ns t nn (x_ns t nn (x_ns t nn a))))))
                              have z_774 := PLr_p (nm := (x_val t nn (x_ns t nn a))) (kd := 3) (f := (x_val t nn (x_ns t nn (x_ns t nn (x_ns t nn a))))) (l := (x_val t nn (x_ns t nn (x_ns t nn (x_ns t nn (x_ns t nn a)))))) (c := (x_val t nn (x_ns t nn (x_ns t nn (x_ns t nn (x_ns t nn (x_ns t nn a))))))) j_737 W738 W742 W746 W750 W754 W758 W765 (by omega) z_773 (by omega) (by omega) (by omega) (by omega) (by omega) (by omega) (by omega) (by omega) (by omega) (by omega) (by omega)
                              exact h (1 : Int32) M766 hG767 F768 (by omega) (by omega) j_769 (fun z => absurd z (by decide)) (fun _ => ⟨_, (by rw [show (M766.2.1 77 10).toInt = (x_ns t nn (x_ns t nn (x_ns t nn (x_ns t nn (x_ns t nn (x_ns t nn a)))))) by omega]; exact x_field_3 z_772 (by omega)), z_774, (by show sg.2.1 + 1 + sg.2.2.1 = _; omega)⟩)
                          · refine to_i (pc := 294) rw_170_294 rfl ?_
                            refine to_go (pc := 296) rw_170_296 ?_
                            refine s_v (pc := 300) rw_170_300 (by omega) (ls0 := [.ref 77, .int (1 : Int32), .int v686]) rfl (Nat.le_of_ble_eq_true rfl) (Nat.le_of_ble_eq_true rfl) rfl (to_rc rfl rfl rfl (g_o hG671 rfl)) rfl ?_
                            have k_775 : (1 : Int32).toInt = 1 := rfl
                            refine E_162 hX (by omega) hG671 p_675.1 (by omega) (by omega) (l := (1 : Int32)) (m := v686) (t := t) (nn := nn) (a := (x_ns t nn (x_ns t nn (x_ns t nn (x_ns t nn (x_ns t nn a)))))) (fun r776 M783 hG778 F777 p_779 p_780 p_781 p_782 => ?_)
                            have F784 := FR.c F677 F777 (fun a i z => show a = 77 ∧ (i = 4 ∨ i = 5 ∨ 7 ≤ i ∧ i ≤ 10 ∨ i = 15 ∨ i = 25) ∨ 80 ≤ a ∧ a ≤ 84 ∧ 8 ≤ i by have z : a = 77 ∧ (i = 4 ∨ i = 5) := z; omega)
                            rcases (show r776.toInt = 0 ∨ r776.toInt = 1 by omega) with h785 | h785
                            · skip
                              have p_786 := p_782 (by omega)
                              clear p_781 p_782
                              have z_787 := x_val_b (t := t) (nn := nn) (a := (x_ns t nn (x_ns t nn (x_ns t nn (x_ns t nn (x_ns t nn a))))))
                              refine b_ine_f (pc := 303) rw_170_303 (A := r776.toInt) rfl (by omega) ?_
                              refine to_c (pc := 306) rw_170_306 (x := (0 : Int32)) rfl rfl ?_
                              refine s_r1 (pc := 307) rw_170_307 (A := 0) rfl (by omega) ?_
                              have j_788 := (RS_f (fun a i z => F_n F777 (show ¬ (a = 77 ∧ (i = 4 ∨ i = 5)) by omega) rfl) p_675.1)
                              exact h (0 : Int32) M783 hG778 F784 (by omega) (by omega) j_788 (fun _ => x_field_n (fun h9 => by unfold x_fC at h9; omega)) (fun z => absurd z (by decide))
                            · skip
                              have p_789 := p_781 (by omega)
                              clear p_781 p_782
                              have c_790 : M783.2.1 77 9 = (M676.2.1 77 9) := (F_n F777 (show ¬ (77 = 77 ∧ (9 = 4 ∨ 9 = 5)) by omega) rfl)
                              have z_791 := x_val_b (t := t) (nn := nn) (a := (x_ns t nn (x_ns t nn (x_ns t nn (x_ns t nn (x_ns t nn a)))))) (by omega)
                              refine b_ine_t (pc := 303) rw_170_303 (A := r776.toInt) rfl (by omega) ?_
                              refine to_an (pc := 308) rw_170_308 rfl ?_
                              refine tt_gI (pc := 309) rw_170_309 (g_o hG778 rfl) (v := (M676.2.1 77 9)) c_790 ?_
                              refine to_is (pc := 312) rw_170_312 (ls2 := [.ref 77, .int v51, .int (M25.2.1 77 9), .int v105, .int (1 : Int32), .int (0 : Int32), .int (M116.2.1 77 9), .int (M616.2.1 77 9), .int (M676.2.1 77 9)]) rfl rfl ?_
                              refine to_an (pc := 314) rw_170_314 rfl ?_
                              refine s_v (pc := 315) rw_170_315 (by omega) (ls0 := [.ref 77]) rfl (Nat.le_of_ble_eq_true rfl) (Nat.le_of_ble_eq_true rfl) rfl (to_rc rfl rfl rfl (g_o hG778 rfl)) rfl ?_
                              have c_792 : M783.2.1 77 7 = (M676.2.1 77 7) := (F_n F777 (show ¬ (77 = 77 ∧ (7 = 4 ∨ 7 = 5)) by omega) rfl)
                              have t_793 : (M783.2.1 77 7).toInt = (M676.2.1 77 7).toInt := congrArg Int32.toInt c_792
                              have c_794 : M783.2.1 77 6 = (M.2.1 77 6) := (F_n F777 (show ¬ (77 = 77 ∧ (6 = 4 ∨ 6 = 5)) by omega) c_679)
                              have t_795 : (M783.2.1 77 6).toInt = (M.2.1 77 6).toInt := congrArg Int32.toInt c_794
                              have c_796 : M783.2.1 77 10 = (M676.2.1 77 10) := (F_n F777 (show ¬ (77 = 77 ∧ (10 = 4 ∨ 10 = 5)) by omega) rfl)
                              have t_797 : (M783.2.1 77 10).toInt = (M676.2.1 77 10).toInt := congrArg Int32.toInt c_796
                              have j_798 := (RS_f (fun a i z => F_n F777 (show ¬ (a = 77 ∧ (i = 4 ∨ i = 5)) by omega) rfl) p_675.1)
                              have z_799 := RS_b j_798 (a := (x_ns t nn (x_ns t nn (x_ns t nn (x_ns t nn (x_ns t nn a)))))) (by omega)
                              have j_800 := (TR_f (fun a i z => F_n F777 (show ¬ (a = 77 ∧ (i = 4 ∨ i = 5)) by omega) rfl) (TR_f (fun a i z => F_n F670 (show ¬ (a = 77 ∧ 7 ≤ i ∧ i ≤ 10) by omega) rfl) j_668))
                              have j_801 := (W9_f (fun a i z => F_n F777 (show ¬ (a = 77 ∧ (i = 4 ∨ i = 5)) by omega) rfl) (W9_f (fun a i z => F_n F670 (show ¬ (a = 77 ∧ 7 ≤ i ∧ i ≤ 10) by omega) rfl) j_669))
                              refine E_156 hX (by omega) hG778 (by omega) (by omega) (by omega) (by omega) j_800 j_801  (fun M808 hG803 F802 p_804 p_805 p_806 p_807 => ?_)
                              have F809 := FR.c F784 F802 (fun a i z => show a = 77 ∧ (i = 4 ∨ i = 5 ∨ 7 ≤ i ∧ i ≤ 10 ∨ i = 15 ∨ i = 25) ∨ 80 ≤ a ∧ a ≤ 84 ∧ 8 ≤ i by have z : a = 77 ∧ 7 ≤ i ∧ i ≤ 10 := z; omega)
                              have b_810 := g_b hG803 (a := 77) (i := 7) (lo := 0) (hi := 500) rfl rfl
                              have c_811 : M808.2.1 77 6 = (M.2.1 77 6) := (F_n F802 (show ¬ (77 = 77 ∧ 7 ≤ 6 ∧ 6 ≤ 10) by omega) c_794)
                              have t_812 : (M808.2.1 77 6).toInt = (M.2.1 77 6).toInt := congrArg Int32.toInt c_811
                              have b_813 := g_b hG803 (a := 77) (i := 8) (lo := 0) (hi := 5) rfl rfl
                              have b_814 := g_b hG803 (a := 77) (i := 10) (lo := 0) (hi := 500) rfl rfl
                              have z_815 := RS_s p_807.2 (a := (x_ns t nn (x_ns t nn (x_ns t nn (x_ns t nn (x_ns t nn a)))))) (by omega)
                              refine to_an (pc := 318) rw_170_318 rfl ?_
                              refine to_dupr (pc := 319) rw_170_319 ?_
                              refine tt_gJ (pc := 320) rw_170_320 (g_o hG803 rfl) (v := (M.2.2.1 77 25)) (F_nl F802 (show ¬ (77 = 77 ∧ 7 ≤ 25 ∧ 25 ≤ 10) by omega) (F_nl F777 (show ¬ (77 = 77 ∧ (25 = 4 ∨ 25 = 5)) by omega) (F_nl F670 (show ¬ (77 = 77 ∧ 7 ≤ 25 ∧ 25 ≤ 10) by omega) (F_nl F649 (show ¬ (77 < 0) by omega) (F_nl F630 (show ¬ (77 = 77 ∧ (25 = 4 ∨ 25 = 5)) by omega) (F_nl F610 (show ¬ (77 = 77 ∧ 7 ≤ 25 ∧ 25 ≤ 10) by omega) (F_nl F589 (show ¬ (77 < 0) by omega) (F_nl F571 (show ¬ (77 = 77 ∧ (25 = 4 ∨ 25 = 5)) by omega) (F_nl F110 (show ¬ (77 = 77 ∧ 7 ≤ 25 ∧ 25 ≤ 10) by omega) (F_nl F64 (show ¬ (77 = 77 ∧ 7 ≤ 25 ∧ 25 ≤ 10) by omega) (F_nl F35 (show ¬ (77 = 77 ∧ (25 = 4 ∨ 25 = 5)) by omega) (F_nl F19 (show ¬ (77 = 77 ∧ 7 ≤ 25 ∧ 25 ≤ 10) by omega) rfl)))))))))))) ?_
                              refine to_i (pc := 323) rw_170_323 rfl ?_
                              refine to_i (pc := 325) rw_170_325 rfl ?_
                              refine s_s (pc := 327) rw_170_327 (by omega) (ls0 := [.int (M116.2.1 77 9), .int (M616.2.1 77 9), .null, .null, .null]) rfl (Nat.le_of_ble_eq_true rfl) (Nat.le_of_ble_eq_true rfl) rfl (to_rcs rfl rfl) rfl ?_
                              refine E_168 hX (by omega) hG803 (by omega) (by omega) (by omega) (by omega) (by omega) (a := (M116.2.1 77 9)) (b := (M616.2.1 77 9)) (fun r816 M820 hG818 F817 p_819 => ?_)
                              have F821 := FR.c F809 F817 (fun a i z => show a = 77 ∧ (i = 4 ∨ i = 5 ∨ 7 ≤ i ∧ i ≤ 10 ∨ i = 15 ∨ i = 25) ∨ 80 ≤ a ∧ a ≤ 84 ∧ 8 ≤ i by have z : a < 0 := z; omega)
                              refine to_2l (pc := 330) rw_170_330 (v := ((M.2.2.1 77 25) ||| r816)) rfl ?_
                              have j_822 := (PLr_f (fun a i z => F_n F817 (show ¬ (a < 0) by omega) rfl) (F_nl F817 (show ¬ (77 < 0) by omega) rfl) (PLr_f (fun a i z => F_n F802 (show ¬ (a = 77 ∧ 7 ≤ i ∧ i ≤ 10) by omega) rfl) (F_nl F802 (show ¬ (77 = 77 ∧ 7 ≤ 25 ∧ 25 ≤ 10) by omega) rfl) (PLr_f (fun a i z => F_n F777 (show ¬ (a = 77 ∧ (i = 4 ∨ i = 5)) by omega) rfl) (F_nl F777 (show ¬ (77 = 77 ∧ (25 = 4 ∨ 25 = 5)) by omega) rfl) (PLr_f (fun a i z => F_n F670 (show ¬ (a = 77 ∧ 7 ≤ i ∧ i ≤ 10) by omega) rfl) (F_nl F670 (show ¬ (77 = 77 ∧ 7 ≤ 25 ∧ 25 ≤ 10) by omega) rfl) (PLr_f (fun a i z => F_n F649 (show ¬ (a < 0) by omega) rfl) (F_nl F649 (show ¬ (77 < 0) by omega) rfl) (PLr_f (fun a i z => F_n F630 (show ¬ (a = 77 ∧ (i = 4 ∨ i = 5)) by omega) rfl) (F_nl F630 (show ¬ (77 = 77 ∧ (25 = 4 ∨ 25 = 5)) by omega) rfl) (PLr_f (fun a i z => F_n F610 (show ¬ (a = 77 ∧ 7 ≤ i ∧ i ≤ 10) by omega) rfl) (F_nl F610 (show ¬ (77 = 77 ∧ 7 ≤ 25 ∧ 25 ≤ 10) by omega) rfl) (PLr_f (fun a i z => F_n F589 (show ¬ (a < 0) by omega) rfl) (F_nl F589 (show ¬ (77 < 0) by omega) rfl) (PLr_f (fun a i z => F_n F571 (show ¬ (a = 77 ∧ (i = 4 ∨ i = 5)) by omega) rfl) (F_nl F571 (show ¬ (77 = 77 ∧ (25 = 4 ∨ 25 = 5)) by omega) rfl) (PLr_f (fun a i z => F_n F110 (show ¬ (a = 77 ∧ 7 ≤ i ∧ i ≤ 10) by omega) rfl) (F_nl F110 (show ¬ (77 = 77 ∧ 7 ≤ 25 ∧ 25 ≤ 10) by omega) rfl) (PLr_f (fun a i z => F_n F64 (show ¬ (a = 77 ∧ 7 ≤ i ∧ i ≤ 10) by omega) rfl) (F_nl F64 (show ¬ (77 = 77 ∧ 7 ≤ 25 ∧ 25 ≤ 10) by omega) rfl) (PLr_f (fun a i z => F_n F35 (show ¬ (a = 77 ∧ (i = 4 ∨ i = 5)) by omega) rfl) (F_nl F35 (show ¬ (77 = 77 ∧ (25 = 4 ∨ 25 = 5)) by omega) rfl) j_33))))))))))))
                              refine s_pJ (pc := 331) rw_170_331 hG818 rfl (fun M824 W823 => ?_)
                              have hG825 := g_wl hG818 W823
                              have F826 := FR.wl F821 W823 (show 77 = 77 ∧ (25 = 4 ∨ 25 = 5 ∨ 7 ≤ 25 ∧ 25 ≤ 10 ∨ 25 = 15 ∨ 25 = 25) ∨ 80 ≤ 77 ∧ 77 ≤ 84 ∧ 8 ≤ 25 by omega)
                              refine to_an (pc := 334) rw_170_334 rfl ?_
                              refine s_gR (pc := 335) rw_170_335 hG825 rfl (v := 80) rfl ?_
                              refine to_in (pc := 338) rw_170_338 rfl ?_
                              refine to_in (pc := 339) rw_170_339 rfl ?_
                              refine s_ias (pc := 340) rw_170_340 hG825 rfl (n := 16) rfl (A := v51.toInt) rfl (by omega) (by omega) (fun M828 W827 => ?_)
                              have hG829 := g_wf hG825 W827 rfl rfl (by decide)
                              have F830 := FR.w F826 W827 (show 80 = 77 ∧ ((v51.toInt).toNat = 4 ∨ (v51.toInt).toNat = 5 ∨ 7 ≤ (v51.toInt).toNat ∧ (v51.toInt).toNat ≤ 10 ∨ (v51.toInt).toNat = 15 ∨ (v51.toInt).toNat = 25) ∨ 80 ≤ 80 ∧ 80 ≤ 84 ∧ 8 ≤ (v51.toInt).toNat by omega)
                              refine to_an (pc := 341) rw_170_341 rfl ?_
                              refine s_gR (pc := 342) rw_170_342 hG829 rfl (v := 81) rfl ?_
                              refine to_in (pc := 345) rw_170_345 rfl ?_
                              refine to_in (pc := 346) rw_170_346 rfl ?_
                              refine s_ias (pc := 347) rw_170_347 hG829 rfl (n := 16) rfl (A := v51.toInt) rfl (by omega) (by omega) (fun M832 W831 => ?_)
                              have hG833 := g_w hG829 W831 (A := v105.toInt) rfl (lo := 0) (hi := 3) rfl rfl (by omega) (by decide)
                              have F834 := FR.w F830 W831 (show 81 = 77 ∧ ((v51.toInt).toNat = 4 ∨ (v51.toInt).toNat = 5 ∨ 7 ≤ (v51.toInt).toNat ∧ (v51.toInt).toNat ≤ 10 ∨ (v51.toInt).toNat = 15 ∨ (v51.toInt).toNat = 25) ∨ 80 ≤ 81 ∧ 81 ≤ 84 ∧ 8 ≤ (v51.toInt).toNat by omega)
                              refine to_an (pc := 348) rw_170_348 rfl ?_
                              refine s_gR (pc := 349) rw_170_349 hG833 rfl (v := 82) rfl ?_
                              refine to_in (pc := 352) rw_170_352 rfl ?_
                              refine to_i (pc := 353) rw_170_353 rfl ?_
                              refine s_ias (pc := 355) rw_170_355 hG833 rfl (n := 16) rfl (A := v51.toInt) rfl (by omega) (by omega) (fun M836 W835 => ?_)
                              have hG837 := g_w hG833 W835 (A := (M116.2.1 77 9).toInt) rfl (lo := 0) (hi := 59) rfl rfl (by omega) (by decide)
                              have F838 := FR.w F834 W835 (show 82 = 77 ∧ ((v51.toInt).toNat = 4 ∨ (v51.toInt).toNat = 5 ∨ 7 ≤ (v51.toInt).toNat ∧ (v51.toInt).toNat ≤ 10 ∨ (v51.toInt).toNat = 15 ∨ (v51.toInt).toNat = 25) ∨ 80 ≤ 82 ∧ 82 ≤ 84 ∧ 8 ≤ (v51.toInt).toNat by omega)
                              refine to_an (pc := 356) rw_170_356 rfl ?_
                              refine s_gR (pc := 357) rw_170_357 hG837 rfl (v := 83) rfl ?_
                              refine to_in (pc := 360) rw_170_360 rfl ?_
                              refine to_i (pc := 361) rw_170_361 rfl ?_
                              refine s_ias (pc := 363) rw_170_363 hG837 rfl (n := 16) rfl (A := v51.toInt) rfl (by omega) (by omega) (fun M840 W839 => ?_)
                              have hG841 := g_w hG837 W839 (A := (M616.2.1 77 9).toInt) rfl (lo := 0) (hi := 63) rfl rfl (by omega) (by decide)
                              have F842 := FR.w F838 W839 (show 83 = 77 ∧ ((v51.toInt).toNat = 4 ∨ (v51.toInt).toNat = 5 ∨ 7 ≤ (v51.toInt).toNat ∧ (v51.toInt).toNat ≤ 10 ∨ (v51.toInt).toNat = 15 ∨ (v51.toInt).toNat = 25) ∨ 80 ≤ 83 ∧ 83 ≤ 84 ∧ 8 ≤ (v51.toInt).toNat by omega)
                              refine to_an (pc := 364) rw_170_364 rfl ?_
                              refine s_gR (pc := 365) rw_170_365 hG841 rfl (v := 84) rfl ?_
                              refine to_in (pc := 368) rw_170_368 rfl ?_
                              refine to_i (pc := 369) rw_170_369 rfl ?_
                              refine s_ias (pc := 371) rw_170_371 hG841 rfl (n := 16) rfl (A := v51.toInt) rfl (by omega) (by omega) (fun M844 W843 => ?_)
                              have hG845 := g_w hG841 W843 (A := (M676.2.1 77 9).toInt) rfl (lo := 0) (hi := 24) rfl rfl (by omega) (by decide)
                              have F846 := FR.w F842 W843 (show 84 = 77 ∧ ((v51.toInt).toNat = 4 ∨ (v51.toInt).toNat = 5 ∨ 7 ≤ (v51.toInt).toNat ∧ (v51.toInt).toNat ≤ 10 ∨ (v51.toInt).toNat = 15 ∨ (v51.toInt).toNat = 25) ∨ 80 ≤ 84 ∧ 84 ≤ 84 ∧ 8 ≤ (v51.toInt).toNat by omega)
                              refine to_an (pc := 372) rw_170_372 rfl ?_
                              refine to_dupr (pc := 373) rw_170_373 ?_
                              have c_847 : M844.2.1 77 15 = (M.2.1 77 15) := (W_n W843 (by omega) (W_n W839 (by omega) (W_n W835 (by omega) (W_n W831 (by omega) (W_n W827 (by omega) (W_l W823 (F_n F817 (show ¬ (77 < 0) by omega) (F_n F802 (show ¬ (77 = 77 ∧ 7 ≤ 15 ∧ 15 ≤ 10) by omega) (F_n F777 (show ¬ (77 = 77 ∧ (15 = 4 ∨ 15 = 5)) by omega) (F_n F670 (show ¬ (77 = 77 ∧ 7 ≤ 15 ∧ 15 ≤ 10) by omega) (F_n F649 (show ¬ (77 < 0) by omega) (F_n F630 (show ¬ (77 = 77 ∧ (15 = 4 ∨ 15 = 5)) by omega) (F_n F610 (show ¬ (77 = 77 ∧ 7 ≤ 15 ∧ 15 ≤ 10) by omega) (F_n F589 (show ¬ (77 < 0) by omega) (F_n F571 (show ¬ (77 = 77 ∧ (15 = 4 ∨ 15 = 5)) by omega) (F_n F110 (show ¬ (77 = 77 ∧ 7 ≤ 15 ∧ 15 ≤ 10) by omega) (F_n F64 (show ¬ (77 = 77 ∧ 7 ≤ 15 ∧ 15 ≤ 10) by omega) c_50)))))))))))))))))
                              refine tt_gI (pc := 374) rw_170_374 (g_o hG845 rfl) (v := (M.2.1 77 15)) c_847 ?_
                              refine to_c (pc := 377) rw_170_377 (x := (1 : Int32)) rfl rfl ?_
                              refine s_add (pc := 378) rw_170_378 (A := (M.2.1 77 15).toInt) (B := 1) rfl rfl (by omega) (fun v848 e849 => ?_)
                              refine s_pI (pc := 379) rw_170_379 hG845 rfl (fun M851 W850 => ?_)
                              have hG852 := g_w hG845 W850 (A := v848.toInt) rfl (lo := 0) (hi := 8) rfl rfl (by omega) (by decide)
                              have F853 := FR.w F846 W850 (show 77 = 77 ∧ (15 = 4 ∨ 15 = 5 ∨ 7 ≤ 15 ∧ 15 ≤ 10 ∨ 15 = 15 ∨ 15 = 25) ∨ 80 ≤ 77 ∧ 77 ≤ 84 ∧ 8 ≤ 15 by omega)
                              refine to_c (pc := 382) rw_170_382 (x := (1 : Int32)) rfl rfl ?_
                              refine s_r1 (pc := 383) rw_170_383 (A := 1) rfl (by omega) ?_
                              have j_854 := (RS_f (fun a i z => W_n W850 (by omega) rfl) (RS_f (fun a i z => W_n W843 (by omega) rfl) (RS_f (fun a i z => W_n W839 (by omega) rfl) (RS_f (fun a i z => W_n W835 (by omega) rfl) (RS_f (fun a i z => W_n W831 (by omega) rfl) (RS_f (fun a i z => W_n W827 (by omega) rfl) (RS_f (fun a i z => W_l W823 rfl) (RS_f (fun a i z => F_n F817 (show ¬ (a < 0) by omega) rfl) p_807.1))))))))
                              have c_855 : M851.2.1 77 10 = (M808.2.1 77 10) := (W_n W850 (by decide) (W_n W843 (by omega) (W_n W839 (by omega) (W_n W835 (by omega) (W_n W831 (by omega) (W_n W827 (by omega) (W_l W823 (F_n F817 (show ¬ (77 < 0) by omega) rfl))))))))
                              have t_856 : (M851.2.1 77 10).toInt = (M808.2.1 77 10).toInt := congrArg Int32.toInt c_855
                              have z_857 : x_fC t nn sg (x_ns t nn a) := by unfold x_fC; omega
                              have z_858 := (x_or_r q7 (p_819.trans (x_bw_v (by omega) (by omega))) : _ = _ ||| x_bw (x_val t nn (x_ns t nn (x_ns t nn (x_ns t nn a)))) (x_val t nn (x_ns t nn (x_ns t nn (x_ns t nn (x_ns t nn a))))))
                              have z_859 := PLr_p (nm := (x_val t nn (x_ns t nn a))) (kd := 3) (f := (x_val t nn (x_ns t nn (x_ns t nn (x_ns t nn a))))) (l := (x_val t nn (x_ns t nn (x_ns t nn (x_ns t nn (x_ns t nn a)))))) (c := (x_val t nn (x_ns t nn (x_ns t nn (x_ns t nn (x_ns t nn (x_ns t nn a))))))) j_822 W823 W827 W831 W835 W839 W843 W850 (by omega) z_858 (by omega) (by omega) (by omega) (by omega) (by omega) (by omega) (by omega) (by omega) (by omega) (by omega) (by omega)
                              exact h (1 : Int32) M851 hG852 F853 (by omega) (by omega) j_854 (fun z => absurd z (by decide)) (fun _ => ⟨_, (by rw [show (M851.2.1 77 10).toInt = (x_ns t nn (x_ns t nn (x_ns t nn (x_ns t nn (x_ns t nn (x_ns t nn a)))))) by omega]; exact x_field_3 z_857 (by omega)), z_859, (by show sg.2.1 + 1 + sg.2.2.1 = _; omega)⟩)
                        · refine to_an (pc := 262) rw_170_262 rfl ?_
                          refine to_c (pc := 263) rw_170_263 (x := (3 : Int32)) rfl rfl ?_
                          refine s_v (pc := 264) rw_170_264 (by omega) (ls0 := [.ref 77, .int (3 : Int32)]) rfl (Nat.le_of_ble_eq_true rfl) (Nat.le_of_ble_eq_true rfl) rfl (to_rc rfl rfl rfl (g_o hG650 rfl)) rfl ?_
                          refine to_an (pc := 0) rw_152_0 rfl ?_
                          refine to_in (pc := 1) rw_152_1 rfl ?_
                          refine s_pI (pc := 2) rw_152_2 hG650 rfl (fun M861 W860 => ?_)
                          have hG862 := g_wf hG650 W860 rfl rfl (by decide)
                          have F863 := FR.w F653 W860 (show 77 = 77 ∧ (4 = 4 ∨ 4 = 5 ∨ 7 ≤ 4 ∧ 4 ≤ 10 ∨ 4 = 15 ∨ 4 = 25) ∨ 80 ≤ 77 ∧ 77 ≤ 84 ∧ 8 ≤ 4 by omega)
                          refine to_an (pc := 5) rw_152_5 rfl ?_
                          refine to_an (pc := 6) rw_152_6 rfl ?_
                          have c_864 : M861.2.1 77 10 = (M616.2.1 77 10) := (W_n W860 (by decide) (F_n F649 (show ¬ (77 < 0) by omega) (F_n F630 (show ¬ (77 = 77 ∧ (10 = 4 ∨ 10 = 5)) by omega) rfl)))
                          refine tt_gI (pc := 7) rw_152_7 (g_o hG862 rfl) (v := (M616.2.1 77 10)) c_864 ?_
                          refine s_pI (pc := 10) rw_152_10 hG862 rfl (fun M866 W865 => ?_)
                          have hG867 := g_wf hG862 W865 rfl rfl (by decide)
                          have F868 := FR.w F863 W865 (show 77 = 77 ∧ (5 = 4 ∨ 5 = 5 ∨ 7 ≤ 5 ∧ 5 ≤ 10 ∨ 5 = 15 ∨ 5 = 25) ∨ 80 ≤ 77 ∧ 77 ≤ 84 ∧ 8 ≤ 5 by omega)
                          refine to_c (pc := 13) rw_152_13 (x := (0 : Int32)) rfl rfl ?_
                          refine s_r1 (pc := 14) rw_152_14 (A := 0) rfl (by omega) ?_
                          refine s_r1 (pc := 267) rw_170_267 (A := 0) rfl (by omega) ?_
                          have j_869 := (RS_f (fun a i z => W_n W865 (by omega) rfl) (RS_f (fun a i z => W_n W860 (by omega) rfl) (RS_f (fun a i z => F_n F649 (show ¬ (a < 0) by omega) rfl) (RS_f (fun a i z => F_n F630 (show ¬ (a = 77 ∧ (i = 4 ∨ i = 5)) by omega) rfl) p_615.1))))
                          exact h (0 : Int32) M866 hG867 F868 (by omega) (by omega) j_869 (fun _ => x_field_n (fun h9 => by unfold x_fC at h9; omega)) (fun z => absurd z (by decide))
                      · refine to_an (pc := 239) rw_170_239 rfl ?_
                        refine to_c (pc := 240) rw_170_240 (x := (2 : Int32)) rfl rfl ?_
                        refine s_v (pc := 241) rw_170_241 (by omega) (ls0 := [.ref 77, .int (2 : Int32)]) rfl (Nat.le_of_ble_eq_true rfl) (Nat.le_of_ble_eq_true rfl) rfl (to_rc rfl rfl rfl (g_o hG631 rfl)) rfl ?_
                        refine to_an (pc := 0) rw_152_0 rfl ?_
                        refine to_in (pc := 1) rw_152_1 rfl ?_
                        refine s_pI (pc := 2) rw_152_2 hG631 rfl (fun M871 W870 => ?_)
                        have hG872 := g_wf hG631 W870 rfl rfl (by decide)
                        have F873 := FR.w F637 W870 (show 77 = 77 ∧ (4 = 4 ∨ 4 = 5 ∨ 7 ≤ 4 ∧ 4 ≤ 10 ∨ 4 = 15 ∨ 4 = 25) ∨ 80 ≤ 77 ∧ 77 ≤ 84 ∧ 8 ≤ 4 by omega)
                        refine to_an (pc := 5) rw_152_5 rfl ?_
                        refine to_an (pc := 6) rw_152_6 rfl ?_
                        have c_874 : M871.2.1 77 10 = (M616.2.1 77 10) := (W_n W870 (by decide) (F_n F630 (show ¬ (77 = 77 ∧ (10 = 4 ∨ 10 = 5)) by omega) rfl))
                        refine tt_gI (pc := 7) rw_152_7 (g_o hG872 rfl) (v := (M616.2.1 77 10)) c_874 ?_
                        refine s_pI (pc := 10) rw_152_10 hG872 rfl (fun M876 W875 => ?_)
                        have hG877 := g_wf hG872 W875 rfl rfl (by decide)
                        have F878 := FR.w F873 W875 (show 77 = 77 ∧ (5 = 4 ∨ 5 = 5 ∨ 7 ≤ 5 ∧ 5 ≤ 10 ∨ 5 = 15 ∨ 5 = 25) ∨ 80 ≤ 77 ∧ 77 ≤ 84 ∧ 8 ≤ 5 by omega)
                        refine to_c (pc := 13) rw_152_13 (x := (0 : Int32)) rfl rfl ?_
                        refine s_r1 (pc := 14) rw_152_14 (A := 0) rfl (by omega) ?_
                        refine s_r1 (pc := 244) rw_170_244 (A := 0) rfl (by omega) ?_
                        have j_879 := (RS_f (fun a i z => W_n W875 (by omega) rfl) (RS_f (fun a i z => W_n W870 (by omega) rfl) (RS_f (fun a i z => F_n F630 (show ¬ (a = 77 ∧ (i = 4 ∨ i = 5)) by omega) rfl) p_615.1)))
                        exact h (0 : Int32) M876 hG877 F878 (by omega) (by omega) j_879 (fun _ => x_field_n (fun h9 => by unfold x_fC at h9; omega)) (fun z => absurd z (by decide))
                  · refine to_an (pc := 169) rw_170_169 rfl ?_
                    refine to_c (pc := 170) rw_170_170 (x := (3 : Int32)) rfl rfl ?_
                    refine s_v (pc := 171) rw_170_171 (by omega) (ls0 := [.ref 77, .int (3 : Int32)]) rfl (Nat.le_of_ble_eq_true rfl) (Nat.le_of_ble_eq_true rfl) rfl (to_rc rfl rfl rfl (g_o hG590 rfl)) rfl ?_
                    refine to_an (pc := 0) rw_152_0 rfl ?_
                    refine to_in (pc := 1) rw_152_1 rfl ?_
                    refine s_pI (pc := 2) rw_152_2 hG590 rfl (fun M881 W880 => ?_)
                    have hG882 := g_wf hG590 W880 rfl rfl (by decide)
                    have F883 := FR.w F593 W880 (show 77 = 77 ∧ (4 = 4 ∨ 4 = 5 ∨ 7 ≤ 4 ∧ 4 ≤ 10 ∨ 4 = 15 ∨ 4 = 25) ∨ 80 ≤ 77 ∧ 77 ≤ 84 ∧ 8 ≤ 4 by omega)
                    refine to_an (pc := 5) rw_152_5 rfl ?_
                    refine to_an (pc := 6) rw_152_6 rfl ?_
                    have c_884 : M881.2.1 77 10 = (M116.2.1 77 10) := (W_n W880 (by decide) (F_n F589 (show ¬ (77 < 0) by omega) (F_n F571 (show ¬ (77 = 77 ∧ (10 = 4 ∨ 10 = 5)) by omega) rfl)))
                    refine tt_gI (pc := 7) rw_152_7 (g_o hG882 rfl) (v := (M116.2.1 77 10)) c_884 ?_
                    refine s_pI (pc := 10) rw_152_10 hG882 rfl (fun M886 W885 => ?_)
                    have hG887 := g_wf hG882 W885 rfl rfl (by decide)
                    have F888 := FR.w F883 W885 (show 77 = 77 ∧ (5 = 4 ∨ 5 = 5 ∨ 7 ≤ 5 ∧ 5 ≤ 10 ∨ 5 = 15 ∨ 5 = 25) ∨ 80 ≤ 77 ∧ 77 ≤ 84 ∧ 8 ≤ 5 by omega)
                    refine to_c (pc := 13) rw_152_13 (x := (0 : Int32)) rfl rfl ?_
                    refine s_r1 (pc := 14) rw_152_14 (A := 0) rfl (by omega) ?_
                    refine s_r1 (pc := 174) rw_170_174 (A := 0) rfl (by omega) ?_
                    have j_889 := (RS_f (fun a i z => W_n W885 (by omega) rfl) (RS_f (fun a i z => W_n W880 (by omega) rfl) (RS_f (fun a i z => F_n F589 (show ¬ (a < 0) by omega) rfl) (RS_f (fun a i z => F_n F571 (show ¬ (a = 77 ∧ (i = 4 ∨ i = 5)) by omega) rfl) p_115.1))))
                    exact h (0 : Int32) M886 hG887 F888 (by omega) (by omega) j_889 (fun _ => x_field_n (fun h9 => by unfold x_fC at h9; omega)) (fun z => absurd z (by decide))
          · refine to_an (pc := 70) rw_170_70 rfl ?_
            refine to_c (pc := 71) rw_170_71 (x := (1 : Int32)) rfl rfl ?_
            refine s_v (pc := 72) rw_170_72 (by omega) (ls0 := [.ref 77, .int (1 : Int32)]) rfl (Nat.le_of_ble_eq_true rfl) (Nat.le_of_ble_eq_true rfl) rfl (to_rc rfl rfl rfl (g_o hG65 rfl)) rfl ?_
            refine to_an (pc := 0) rw_152_0 rfl ?_
            refine to_in (pc := 1) rw_152_1 rfl ?_
            refine s_pI (pc := 2) rw_152_2 hG65 rfl (fun M891 W890 => ?_)
            have hG892 := g_wf hG65 W890 rfl rfl (by decide)
            have F893 := FR.w F71 W890 (show 77 = 77 ∧ (4 = 4 ∨ 4 = 5 ∨ 7 ≤ 4 ∧ 4 ≤ 10 ∨ 4 = 15 ∨ 4 = 25) ∨ 80 ≤ 77 ∧ 77 ≤ 84 ∧ 8 ≤ 4 by omega)
            refine to_an (pc := 5) rw_152_5 rfl ?_
            refine to_an (pc := 6) rw_152_6 rfl ?_
            have c_894 : M891.2.1 77 10 = (M70.2.1 77 10) := (W_n W890 (by decide) rfl)
            refine tt_gI (pc := 7) rw_152_7 (g_o hG892 rfl) (v := (M70.2.1 77 10)) c_894 ?_
            refine s_pI (pc := 10) rw_152_10 hG892 rfl (fun M896 W895 => ?_)
            have hG897 := g_wf hG892 W895 rfl rfl (by decide)
            have F898 := FR.w F893 W895 (show 77 = 77 ∧ (5 = 4 ∨ 5 = 5 ∨ 7 ≤ 5 ∧ 5 ≤ 10 ∨ 5 = 15 ∨ 5 = 25) ∨ 80 ≤ 77 ∧ 77 ≤ 84 ∧ 8 ≤ 5 by omega)
            refine to_c (pc := 13) rw_152_13 (x := (0 : Int32)) rfl rfl ?_
            refine s_r1 (pc := 14) rw_152_14 (A := 0) rfl (by omega) ?_
            refine s_r1 (pc := 75) rw_170_75 (A := 0) rfl (by omega) ?_
            have k_899 : (0 : Int32).toInt = 0 := rfl
            have j_900 := (RS_f (fun a i z => W_n W895 (by omega) rfl) (RS_f (fun a i z => W_n W890 (by omega) rfl) p_69.1))
            exact h (0 : Int32) M896 hG897 F898 (by omega) (by omega) j_900 (fun _ => x_field_n (fun h9 => by unfold x_fC at h9; omega)) (fun z => absurd z (by decide))
  · refine to_an (pc := 9) rw_170_9 rfl ?_
    refine to_c (pc := 10) rw_170_10 (x := (2 : Int32)) rfl rfl ?_
    refine s_v (pc := 11) rw_170_11 (by omega) (ls0 := [.ref 77, .int (2 : Int32)]) rfl (Nat.le_of_ble_eq_true rfl) (Nat.le_of_ble_eq_true rfl) rfl (to_rc rfl rfl rfl (g_o hG rfl)) rfl ?_
    refine to_an (pc := 0) rw_152_0 rfl ?_
    refine to_in (pc := 1) rw_152_1 rfl ?_
    refine s_pI (pc := 2) rw_152_2 hG rfl (fun M902 W901 => ?_)
    have hG903 := g_wf hG W901 rfl rfl (by decide)
    have F904 := FR.w F0 W901 (show 77 = 77 ∧ (4 = 4 ∨ 4 = 5 ∨ 7 ≤ 4 ∧ 4 ≤ 10 ∨ 4 = 15 ∨ 4 = 25) ∨ 80 ≤ 77 ∧ 77 ≤ 84 ∧ 8 ≤ 4 by omega)
    refine to_an (pc := 5) rw_152_5 rfl ?_
    refine to_an (pc := 6) rw_152_6 rfl ?_
    have c_905 : M902.2.1 77 10 = (M.2.1 77 10) := (W_n W901 (by decide) rfl)
    refine tt_gI (pc := 7) rw_152_7 (g_o hG903 rfl) (v := (M.2.1 77 10)) c_905 ?_
    refine s_pI (pc := 10) rw_152_10 hG903 rfl (fun M907 W906 => ?_)
    have hG908 := g_wf hG903 W906 rfl rfl (by decide)
    have F909 := FR.w F904 W906 (show 77 = 77 ∧ (5 = 4 ∨ 5 = 5 ∨ 7 ≤ 5 ∧ 5 ≤ 10 ∨ 5 = 15 ∨ 5 = 25) ∨ 80 ≤ 77 ∧ 77 ≤ 84 ∧ 8 ≤ 5 by omega)
    refine to_c (pc := 13) rw_152_13 (x := (0 : Int32)) rfl rfl ?_
    refine s_r1 (pc := 14) rw_152_14 (A := 0) rfl (by omega) ?_
    refine s_r1 (pc := 14) rw_170_14 (A := 0) rfl (by omega) ?_
    have k_910 : (0 : Int32).toInt = 0 := rfl
    have j_911 := (RS_f (fun a i z => W_n W906 (by omega) rfl) (RS_f (fun a i z => W_n W901 (by omega) rfl) q1))
    exact h (0 : Int32) M907 hG908 F909 (by omega) (by omega) j_911 (fun _ => x_field_n (fun h9 => by unfold x_fC at h9; omega)) (fun z => absurd z (by decide))
