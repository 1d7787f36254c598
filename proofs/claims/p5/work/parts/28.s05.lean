set_option maxRecDepth 4000 in
set_option maxHeartbeats 0 in
theorem E_225 {X : mm_X} {d : Nat} {M : mm_M} {Q : Option Value → mm_M → Prop} {t : Nat → Int} {nn : Int} {a : Int} {sg : x_S} (hX : g_X X) (hd : 2 ≤ d) (hG : g_G M) (q1 : (M.2.1 77 7).toInt ≤ (M.2.1 77 6).toInt) (q2 : QK M) (q3 : FA M) (q4 : (M.2.1 77 68).toInt = 0) (q5 : RS M t nn) (q6 : (M.2.1 77 10).toInt = a) (q7 : 0 ≤ nn) (q8 : nn ≤ 500) (q9 : TR M t nn) (q10 : W9 M) (q11 : PLk M sg) (q12 : (M.2.1 77 59).toInt + Wo M ((M.2.1 77 65).toInt).toNat = (M.2.1 77 69).toInt) (h : ∀ (r : Int32) (M1 : mm_M), g_G M1 → FR md_qr M M1 → (0 ≤ r.toInt) → (r.toInt ≤ 1) → ((M1.2.1 77 7).toInt ≤ (M1.2.1 77 6).toInt) → ((M.2.1 77 7).toInt ≤ (M1.2.1 77 7).toInt) → (r.toInt = 1 → (M1.2.1 77 8).toInt = 0 ∨ (M.2.1 77 7).toInt < (M1.2.1 77 7).toInt) → (r.toInt = 1 → ¬ (M.2.1 77 8).toInt = 0) → ((r.toInt = 1 → QK M1)) → ((r.toInt = 1 → (M1.2.1 77 59).toInt + Wo M1 ((M1.2.1 77 65).toInt).toNat = (M1.2.1 77 69).toInt)) → ((r.toInt = 1 → RS M1 t nn)) → ((r.toInt = 1 → x_qq t nn sg 0 (M.2.1 77 67).toInt (M.2.1 77 69).toInt a = x_qq t nn sg (M1.2.1 77 68).toInt (M1.2.1 77 67).toInt (M1.2.1 77 69).toInt (M1.2.1 77 10).toInt)) → ((r.toInt = 0 → x_qq t nn sg 0 (M.2.1 77 67).toInt (M.2.1 77 69).toInt a = Sum.inl ((M1.2.1 77 4).toInt, (M1.2.1 77 5).toInt))) → Q (some (.int r)) M1) : mm_T X d 224 0 [.ref 77, .null, .null, .null, .null, .null] [] M Q := by
  have F0 : FR md_qr M M := FR.rf
  have b_1 := g_b hG (a := 77) (i := 7) (lo := 0) (hi := 500) rfl rfl
  have b_2 := g_b hG (a := 77) (i := 6) (lo := 0) (hi := 500) rfl rfl
  have b_3 := g_b hG (a := 77) (i := 68) (lo := 0) (hi := 1) rfl rfl
  have b_4 := g_b hG (a := 77) (i := 10) (lo := 0) (hi := 500) rfl rfl
  have b_5 := g_b hG (a := 77) (i := 59) (lo := 0) (hi := 40) rfl rfl
  have b_6 := g_b hG (a := 77) (i := 65) (lo := 0) (hi := 48) rfl rfl
  have b_7 := g_b hG (a := 77) (i := 66) (lo := 0) (hi := 40) rfl rfl
  have b_8 := g_b hG (a := 77) (i := 67) (lo := 0) (hi := 8) rfl rfl
  have b_9 := g_b hG (a := 77) (i := 69) (lo := 0) (hi := 40) rfl rfl
  have s_10 := QK_e q2
  have s_11 := Wx_b M ((M.2.1 77 65).toInt).toNat
  have b_12 := g_b hG (a := 77) (i := 8) (lo := 0) (hi := 5) rfl rfl
  have c_13 := RS_u q5 (a := a) (by omega)
  unfold x_R at c_13
  have z_14 := q11.2.1
  have z_15 := q11.2.2.1
  have z_16 := q11.2.2.2.1
  have z_17 := q11.1
  have z_18 := z_17.1
  have z_19 := z_17.2.1
  have z_20 := z_17.2.2.1
  have z_21 := z_17.2.2.2.1
  have z_22 := z_17.2.2.2.2.1
  have z_23 := z_17.2.2.2.2.2.1
  have b_24 := g_b hG (a := 77) (i := 11) (lo := 10) (hi := 60) rfl rfl
  have b_25 := g_b hG (a := 77) (i := 12) (lo := 0) (hi := 8) rfl rfl
  have b_26 := g_b hG (a := 77) (i := 13) (lo := 0) (hi := 12) rfl rfl
  have z_27 := RS_b q5 (a := a) (by omega)
  refine to_an (pc := 0) rw_225_0 rfl (to_c (pc := 1) rw_225_1 (x := (40 : Int32)) rfl rfl (s_v (pc := 3) rw_225_3 (dp0 hd (by decide)) (ls0 := [.ref 77, .int (40 : Int32)]) rfl (Nat.le_of_ble_eq_true rfl) (Nat.le_of_ble_eq_true rfl) rfl (to_rc rfl rfl rfl (g_o hG rfl)) rfl (to_an (pc := 0) rw_159_0 rfl (tt_gI (pc := 1) rw_159_1 (g_o hG rfl) (v := (M.2.1 77 8)) rfl (to_c (pc := 4) rw_159_4 (x := (4 : Int32)) rfl rfl (b_cne (pc := 5) rw_159_5 (A := (M.2.1 77 8).toInt) (B := 4) rfl rfl (fun h28 => ?_) (fun h28 => ?_)))))))
  · refine to_c (pc := 20) rw_159_20 (x := (0 : Int32)) rfl rfl (s_r1 (pc := 21) rw_159_21 (A := 0) rfl (by decide) (b_ieq_t (pc := 6) rw_225_6 (A := 0) rfl (by decide) (to_an (pc := 60) rw_225_60 rfl (to_c (pc := 61) rw_225_61 (x := (14 : Int32)) rfl rfl (s_v (pc := 63) rw_225_63 (dp0 hd (by decide)) (ls0 := [.ref 77, .int (14 : Int32)]) rfl (Nat.le_of_ble_eq_true rfl) (Nat.le_of_ble_eq_true rfl) rfl (to_rc rfl rfl rfl (g_o hG rfl)) rfl (to_an (pc := 0) rw_158_0 rfl (tt_gI (pc := 1) rw_158_1 (g_o hG rfl) (v := (M.2.1 77 8)) rfl (to_c (pc := 4) rw_158_4 (x := (1 : Int32)) rfl rfl (b_cne (pc := 5) rw_158_5 (A := (M.2.1 77 8).toInt) (B := 1) rfl rfl (fun h29 => ?_) (fun h29 => ?_))))))))))
    · refine to_c (pc := 20) rw_158_20 (x := (0 : Int32)) rfl rfl (s_r1 (pc := 21) rw_158_21 (A := 0) rfl (by decide) (b_ieq_t (pc := 66) rw_225_66 (A := 0) rfl (by decide) (to_an (pc := 104) rw_225_104 rfl (tt_gI (pc := 105) rw_225_105 (g_o hG rfl) (v := (M.2.1 77 8)) rfl (to_c (pc := 108) rw_225_108 (x := (2 : Int32)) rfl rfl (b_ceq (pc := 109) rw_225_109 (A := (M.2.1 77 8).toInt) (B := 2) rfl rfl (fun h30 => ?_) (fun h30 => ?_)))))))
      · refine to_an (pc := 118) rw_225_118 rfl (s_v (pc := 119) rw_225_119 (dp0 hd (by decide)) (ls0 := [.ref 77]) rfl (Nat.le_of_ble_eq_true rfl) (Nat.le_of_ble_eq_true rfl) rfl (to_rc rfl rfl rfl (g_o hG rfl)) rfl (to_an (pc := 0) rw_224_0 rfl (tt_gI (pc := 1) rw_224_1 (g_o hG rfl) (v := (M.2.1 77 69)) rfl (to_c (pc := 4) rw_224_4 (x := (40 : Int32)) rfl rfl (b_cne (pc := 6) rw_224_6 (A := (M.2.1 77 69).toInt) (B := 40) rfl rfl (fun h31 => ?_) (fun h31 => ?_))))))
        · refine to_an (pc := 15) rw_224_15 rfl (to_dupr (pc := 16) rw_224_16 (tt_gI (pc := 17) rw_224_17 (g_o hG rfl) (v := (M.2.1 77 69)) rfl (to_c (pc := 20) rw_224_20 (x := (1 : Int32)) rfl rfl (s_add (pc := 21) rw_224_21 (A := (M.2.1 77 69).toInt) (B := 1) rfl rfl (by omega) (fun v32 e33 => s_pI (pc := 22) rw_224_22 hG rfl (fun M35 W34 => ?_))))))
          have hG36 := g_w hG W34 (A := v32.toInt) rfl (lo := 0) (hi := 40) rfl rfl (by omega) (by decide)
          have F37 := FR.w F0 W34 (show 77 = 77 ∧ (69 = 4 ∨ 69 = 5 ∨ 7 ≤ 69 ∧ 69 ≤ 10) ∨ 77 = 77 ∧ (69 = 59 ∨ 65 ≤ 69 ∧ 69 ≤ 69) ∨ 112 ≤ 77 ∧ 77 ≤ 114 ∧ 40 ≤ 69 ∨ 77 = 115 ∨ 77 = 116 by decide)
          refine to_c (pc := 25) rw_224_25 (x := (1 : Int32)) rfl rfl (s_r1 (pc := 26) rw_224_26 (A := 1) rfl (by decide) (b_ine_t (pc := 122) rw_225_122 (A := 1) rfl (by decide) ?_))
          have z_38 : x_kind t nn a = 2 ∧ x_val t nn a = (M.2.1 77 9).toInt := by omega
          clear c_13
          have z_39 := x_fn_b (s := sg) (v := x_val t nn a) q11.1
          refine to_an (pc := 127) rw_225_127 rfl ?_
          have c_40 : M35.2.1 77 9 = (M.2.1 77 9) := (W_n W34 (by decide) rfl)
          refine tt_gI (pc := 128) rw_225_128 (g_o hG36 rfl) (v := (M.2.1 77 9)) c_40 (to_isn (pc := 131) rw_225_131 (ls2 := [.ref 77, .int (M.2.1 77 9), .null, .null, .null, .null]) rfl rfl (to_an (pc := 132) rw_225_132 rfl ?_))
          have c_41 : M35.2.1 77 10 = (M.2.1 77 10) := (W_n W34 (by decide) rfl)
          refine tt_gI (pc := 133) rw_225_133 (g_o hG36 rfl) (v := (M.2.1 77 10)) c_41 (to_isn (pc := 136) rw_225_136 (ls2 := [.ref 77, .int (M.2.1 77 9), .int (M.2.1 77 10), .null, .null, .null]) rfl rfl (to_an (pc := 137) rw_225_137 rfl (s_v (pc := 138) rw_225_138 (dp0 hd (by decide)) (ls0 := [.ref 77]) rfl (Nat.le_of_ble_eq_true rfl) (Nat.le_of_ble_eq_true rfl) rfl (to_rc rfl rfl rfl (g_o hG36 rfl)) rfl ?_)))
          have c_42 : M35.2.1 77 7 = (M.2.1 77 7) := (W_n W34 (by decide) rfl)
          have t_43 : (M35.2.1 77 7).toInt = (M.2.1 77 7).toInt := congrArg Int32.toInt c_42
          have c_44 : M35.2.1 77 6 = (M.2.1 77 6) := (W_n W34 (by decide) rfl)
          have t_45 : (M35.2.1 77 6).toInt = (M.2.1 77 6).toInt := congrArg Int32.toInt c_44
          have t_46 : (M35.2.1 77 10).toInt = (M.2.1 77 10).toInt := congrArg Int32.toInt c_41
          have j_47 := (RS_f (fun a i z => W_n W34 (by /-r77-/ omega) rfl) q5)
          have z_48 := RS_b j_47 (a := a) (by omega)
          have j_49 := (TR_f (fun a i z => W_n W34 (by /-r77-/ omega) rfl) q9)
          have j_50 := (W9_f (fun a i z => W_n W34 (by /-r77-/ omega) rfl) q10)
          refine E_156 hX (dp1 hd (by decide)) hG36 (by omega) (by omega) (by omega) (by omega) j_49 j_50  (fun M57 hG52 F51 p_53 p_54 p_55 p_56 => ?_)
          have F58 := FR.c F37 F51 (fun a i z => show a = 77 ∧ (i = 4 ∨ i = 5 ∨ 7 ≤ i ∧ i ≤ 10) ∨ a = 77 ∧ (i = 59 ∨ 65 ≤ i ∧ i ≤ 69) ∨ 112 ≤ a ∧ a ≤ 114 ∧ 40 ≤ i ∨ a = 115 ∨ a = 116 by have z : a = 77 ∧ 7 ≤ i ∧ i ≤ 10 := z; omega)
          have b_59 := g_b hG52 (a := 77) (i := 7) (lo := 0) (hi := 500) rfl rfl
          have c_60 : M57.2.1 77 6 = (M.2.1 77 6) := (F_n F51 (show ¬ (77 = 77 ∧ 7 ≤ 6 ∧ 6 ≤ 10) by decide) c_44)
          have t_61 : (M57.2.1 77 6).toInt = (M.2.1 77 6).toInt := congrArg Int32.toInt c_60
          have b_62 := g_b hG52 (a := 77) (i := 8) (lo := 0) (hi := 5) rfl rfl
          have b_63 := g_b hG52 (a := 77) (i := 10) (lo := 0) (hi := 500) rfl rfl
          have z_64 := RS_s p_56.2 (a := a) (by omega)
          have c_65 := RS_u p_56.1 (a := (x_ns t nn a)) (by omega)
          unfold x_R at c_65
          refine to_an (pc := 141) rw_225_141 rfl (to_c (pc := 142) rw_225_142 (x := (61 : Int32)) rfl rfl (s_v (pc := 144) rw_225_144 (dp0 hd (by decide)) (ls0 := [.ref 77, .int (61 : Int32)]) rfl (Nat.le_of_ble_eq_true rfl) (Nat.le_of_ble_eq_true rfl) rfl (to_rc rfl rfl rfl (g_o hG52 rfl)) rfl (to_an (pc := 0) rw_159_0 rfl (tt_gI (pc := 1) rw_159_1 (g_o hG52 rfl) (v := (M57.2.1 77 8)) rfl (to_c (pc := 4) rw_159_4 (x := (4 : Int32)) rfl rfl (b_cne (pc := 5) rw_159_5 (A := (M57.2.1 77 8).toInt) (B := 4) rfl rfl (fun h66 => ?_) (fun h66 => ?_)))))))
          · refine to_c (pc := 20) rw_159_20 (x := (0 : Int32)) rfl rfl (s_r1 (pc := 21) rw_159_21 (A := 0) rfl (by decide) (to_isn (pc := 147) rw_225_147 (ls2 := [.ref 77, .int (M.2.1 77 9), .int (M.2.1 77 10), .int (0 : Int32), .null, .null]) rfl rfl ?_))
            have z_67 : ¬ (x_kind t nn (x_ns t nn a) = 4 ∧ x_val t nn (x_ns t nn a) = 61) := by omega
            clear c_65
            refine to_an (pc := 148) rw_225_148 rfl (to_in (pc := 149) rw_225_149 rfl (s_v (pc := 150) rw_225_150 (dp0 hd (by decide)) (ls0 := [.ref 77, .int (M.2.1 77 9), .null]) rfl (Nat.le_of_ble_eq_true rfl) (Nat.le_of_ble_eq_true rfl) rfl (to_rc rfl rfl rfl (g_o hG52 rfl)) rfl ?_))
            have j_68 := (PLk_f (fun a i z => F_n F51 (show ¬ (a = 77 ∧ 7 ≤ i ∧ i ≤ 10) by omega) rfl) (PLk_f (fun a i z => W_n W34 (by /-r77-/ omega) rfl) q11))
            refine E_175 hX (dp1 hd (by decide)) hG52 j_68 (n := (M.2.1 77 9)) (sg := sg) (fun r69 M75 hG71 F70 p_72 p_73 p_74 => ?_)
            have F76 := FR.c F58 F70 (fun a i z => show a = 77 ∧ (i = 4 ∨ i = 5 ∨ 7 ≤ i ∧ i ≤ 10) ∨ a = 77 ∧ (i = 59 ∨ 65 ≤ i ∧ i ≤ 69) ∨ 112 ≤ a ∧ a ≤ 114 ∧ 40 ≤ i ∨ a = 115 ∨ a = 116 by have z : a < 0 := z; omega)
            have z_77 := x_fn_v (s := sg) (r := 1) (v := (M.2.1 77 9).toInt) (w := x_val t nn a)
            refine to_is (pc := 153) rw_225_153 (ls2 := [.ref 77, .int (M.2.1 77 9), .int (M.2.1 77 10), .int (0 : Int32), .int r69, .null]) rfl rfl (to_an (pc := 155) rw_225_155 rfl (to_in (pc := 156) rw_225_156 rfl (s_v (pc := 157) rw_225_157 (dp0 hd (by decide)) (ls0 := [.ref 77, .int (M.2.1 77 9), .null]) rfl (Nat.le_of_ble_eq_true rfl) (Nat.le_of_ble_eq_true rfl) rfl (to_rc rfl rfl rfl (g_o hG71 rfl)) rfl ?_)))
            have j_78 := (PLk_f (fun a i z => F_n F70 (show ¬ (a < 0) by omega) rfl) j_68)
            refine E_176 hX (dp1 hd (by decide)) hG71 j_78 (n := (M.2.1 77 9)) (sg := sg) (fun r79 M85 hG81 F80 p_82 p_83 p_84 => ?_)
            have F86 := FR.c F76 F80 (fun a i z => show a = 77 ∧ (i = 4 ∨ i = 5 ∨ 7 ≤ i ∧ i ≤ 10) ∨ a = 77 ∧ (i = 59 ∨ 65 ≤ i ∧ i ≤ 69) ∨ 112 ≤ a ∧ a ≤ 114 ∧ 40 ≤ i ∨ a = 115 ∨ a = 116 by have z : a < 0 := z; omega)
            have z_87 := x_fn_v (s := sg) (r := 6) (v := (M.2.1 77 9).toInt) (w := x_val t nn a)
            refine to_is (pc := 160) rw_225_160 (ls2 := [.ref 77, .int (M.2.1 77 9), .int (M.2.1 77 10), .int (0 : Int32), .int r69, .int r79]) rfl rfl (to_in (pc := 162) rw_225_162 rfl (b_ieq_t (pc := 163) rw_225_163 (A := 0) rfl (by decide) (to_i (pc := 178) rw_225_178 rfl (b_ige (pc := 180) rw_225_180 (A := r79.toInt) rfl (fun h88 => ?_) (fun h88 => ?_)))))
            · refine to_an (pc := 194) rw_225_194 rfl (to_c (pc := 195) rw_225_195 (x := (1 : Int32)) rfl rfl (s_pI (pc := 196) rw_225_196 hG81 rfl (fun M90 W89 => ?_)))
              have hG91 := g_w hG81 W89 (A := 1) rfl (lo := 0) (hi := 1) rfl rfl (by omega) (by decide)
              have F92 := FR.w F86 W89 (show 77 = 77 ∧ (68 = 4 ∨ 68 = 5 ∨ 7 ≤ 68 ∧ 68 ≤ 10) ∨ 77 = 77 ∧ (68 = 59 ∨ 65 ≤ 68 ∧ 68 ≤ 69) ∨ 112 ≤ 77 ∧ 77 ≤ 114 ∧ 40 ≤ 68 ∨ 77 = 115 ∨ 77 = 116 by decide)
              refine to_in (pc := 199) rw_225_199 rfl (b_ine_f (pc := 200) rw_225_200 (A := 0) rfl (by decide) (to_an (pc := 203) rw_225_203 rfl (to_c (pc := 204) rw_225_204 (x := (1 : Int32)) rfl rfl (to_i (pc := 205) rw_225_205 rfl (to_c (pc := 207) rw_225_207 (x := (0 : Int32)) rfl rfl (s_v (pc := 208) rw_225_208 (dp0 hd (by decide)) (ls0 := [.ref 77, .int (1 : Int32), .int r79, .int (0 : Int32)]) rfl (Nat.le_of_ble_eq_true rfl) (Nat.le_of_ble_eq_true rfl) rfl (to_rc rfl rfl rfl (g_o hG91 rfl)) rfl ?_))))))
              have k_93 : (1 : Int32).toInt = 1 := rfl
              have k_94 : (0 : Int32).toInt = 0 := rfl
              have c_95 : M90.2.1 77 59 = (M.2.1 77 59) := (W_n W89 (by decide) (F_n F80 (show ¬ (77 < 0) by decide) (F_n F70 (show ¬ (77 < 0) by decide) (F_n F51 (show ¬ (77 = 77 ∧ 7 ≤ 59 ∧ 59 ≤ 10) by decide) (W_n W34 (by decide) rfl)))))
              have t_96 : (M90.2.1 77 59).toInt = (M.2.1 77 59).toInt := congrArg Int32.toInt c_95
              have c_97 : M90.2.1 77 66 = (M.2.1 77 66) := (W_n W89 (by decide) (F_n F80 (show ¬ (77 < 0) by decide) (F_n F70 (show ¬ (77 < 0) by decide) (F_n F51 (show ¬ (77 = 77 ∧ 7 ≤ 66 ∧ 66 ≤ 10) by decide) (W_n W34 (by decide) rfl)))))
              have t_98 : (M90.2.1 77 66).toInt = (M.2.1 77 66).toInt := congrArg Int32.toInt c_97
              refine C_221 hX (dp1 hd (by decide)) hG91 (by omega) (by omega) (by omega) (by omega) (by omega) (by omega) (by rw [(W_n W89 (by omega) (F_n F80 (show ¬ (77 < 0) by decide) (F_n F70 (show ¬ (77 < 0) by decide) (F_n F51 (show ¬ (77 = 77 ∧ 7 ≤ 59 ∧ 59 ≤ 10) by decide) (W_n W34 (by omega) rfl)))))]; exact KN_f (fun a i z => (W_n W89 (by omega) (F_n F80 (show ¬ (a < 0) by omega) (F_n F70 (show ¬ (a < 0) by omega) (F_n F51 (show ¬ (a = 77 ∧ 7 ≤ i ∧ i ≤ 10) by omega) (W_n W34 (by omega) rfl)))))) q2.2.2) (by omega) (by omega) (by omega) (by omega) (k := (1 : Int32)) (p := r79) (o := (0 : Int32)) (fun M104 hG100 F99 p_101 p_102 p_103 => ?_)
              have F105 := FR.c F92 F99 (fun a i z => show a = 77 ∧ (i = 4 ∨ i = 5 ∨ 7 ≤ i ∧ i ≤ 10) ∨ a = 77 ∧ (i = 59 ∨ 65 ≤ i ∧ i ≤ 69) ∨ 112 ≤ a ∧ a ≤ 114 ∧ 40 ≤ i ∨ a = 115 ∨ a = 116 by have z : a = 77 ∧ (i = 59 ∨ i = 66) ∨ 112 ≤ a ∧ a ≤ 114 ∧ 40 ≤ i ∨ a = 116 := z; omega)
              have b_106 := g_b hG100 (a := 77) (i := 59) (lo := 0) (hi := 40) rfl rfl
              have b_107 := g_b hG100 (a := 77) (i := 66) (lo := 0) (hi := 40) rfl rfl
              refine to_c (pc := 211) rw_225_211 (x := (1 : Int32)) rfl rfl (s_r1 (pc := 212) rw_225_212 (A := 1) rfl (by decide) ?_)
              have c_108 : M104.2.1 77 7 = (M57.2.1 77 7) := (F_n F99 (show ¬ (77 = 77 ∧ (7 = 59 ∨ 7 = 66) ∨ 112 ≤ 77 ∧ 77 ≤ 114 ∧ 40 ≤ 7 ∨ 77 = 116) by decide) (W_n W89 (by decide) (F_n F80 (show ¬ (77 < 0) by decide) (F_n F70 (show ¬ (77 < 0) by decide) rfl))))
              have t_109 : (M104.2.1 77 7).toInt = (M57.2.1 77 7).toInt := congrArg Int32.toInt c_108
              have c_110 : M104.2.1 77 6 = (M.2.1 77 6) := (F_n F99 (show ¬ (77 = 77 ∧ (6 = 59 ∨ 6 = 66) ∨ 112 ≤ 77 ∧ 77 ≤ 114 ∧ 40 ≤ 6 ∨ 77 = 116) by decide) (W_n W89 (by decide) (F_n F80 (show ¬ (77 < 0) by decide) (F_n F70 (show ¬ (77 < 0) by decide) c_60))))
              have t_111 : (M104.2.1 77 6).toInt = (M.2.1 77 6).toInt := congrArg Int32.toInt c_110
              have c_112 : M104.2.1 77 8 = (M57.2.1 77 8) := (F_n F99 (show ¬ (77 = 77 ∧ (8 = 59 ∨ 8 = 66) ∨ 112 ≤ 77 ∧ 77 ≤ 114 ∧ 40 ≤ 8 ∨ 77 = 116) by decide) (W_n W89 (by decide) (F_n F80 (show ¬ (77 < 0) by decide) (F_n F70 (show ¬ (77 < 0) by decide) rfl))))
              have t_113 : (M104.2.1 77 8).toInt = (M57.2.1 77 8).toInt := congrArg Int32.toInt c_112
              have c_114 : M104.2.1 77 65 = (M.2.1 77 65) := (F_n F99 (show ¬ (77 = 77 ∧ (65 = 59 ∨ 65 = 66) ∨ 112 ≤ 77 ∧ 77 ≤ 114 ∧ 40 ≤ 65 ∨ 77 = 116) by decide) (W_n W89 (by decide) (F_n F80 (show ¬ (77 < 0) by decide) (F_n F70 (show ¬ (77 < 0) by decide) (F_n F51 (show ¬ (77 = 77 ∧ 7 ≤ 65 ∧ 65 ≤ 10) by decide) (W_n W34 (by decide) rfl))))))
              have t_115 : (M104.2.1 77 65).toInt = (M.2.1 77 65).toInt := congrArg Int32.toInt c_114
              have c_116 : M104.2.1 77 67 = (M.2.1 77 67) := (F_n F99 (show ¬ (77 = 77 ∧ (67 = 59 ∨ 67 = 66) ∨ 112 ≤ 77 ∧ 77 ≤ 114 ∧ 40 ≤ 67 ∨ 77 = 116) by decide) (W_n W89 (by decide) (F_n F80 (show ¬ (77 < 0) by decide) (F_n F70 (show ¬ (77 < 0) by decide) (F_n F51 (show ¬ (77 = 77 ∧ 7 ≤ 67 ∧ 67 ≤ 10) by decide) (W_n W34 (by decide) rfl))))))
              have t_117 : (M104.2.1 77 67).toInt = (M.2.1 77 67).toInt := congrArg Int32.toInt c_116
              have c_118 : M104.2.1 77 68 = (1 : Int32) := (F_n F99 (show ¬ (77 = 77 ∧ (68 = 59 ∨ 68 = 66) ∨ 112 ≤ 77 ∧ 77 ≤ 114 ∧ 40 ≤ 68 ∨ 77 = 116) by decide) (W_e W89))
              have t_119 : (M104.2.1 77 68).toInt = (1 : Int32).toInt := congrArg Int32.toInt c_118
              have c_120 : M104.2.1 77 69 = v32 := (F_n F99 (show ¬ (77 = 77 ∧ (69 = 59 ∨ 69 = 66) ∨ 112 ≤ 77 ∧ 77 ≤ 114 ∧ 40 ≤ 69 ∨ 77 = 116) by decide) (W_n W89 (by decide) (F_n F80 (show ¬ (77 < 0) by decide) (F_n F70 (show ¬ (77 < 0) by decide) (F_n F51 (show ¬ (77 = 77 ∧ 7 ≤ 69 ∧ 69 ≤ 10) by decide) (W_e W34))))))
              have t_121 : (M104.2.1 77 69).toInt = v32.toInt := congrArg Int32.toInt c_120
              have s_123 := Wx_f (M := M) (M1 := M104) ((M.2.1 77 65).toInt).toNat (fun i z => (F_n F99 (show ¬ (115 = 77 ∧ (i = 59 ∨ i = 66) ∨ 112 ≤ 115 ∧ 115 ≤ 114 ∧ 40 ≤ i ∨ 115 = 116) by omega) (W_n W89 (by omega) (F_n F80 (show ¬ (115 < 0) by decide) (F_n F70 (show ¬ (115 < 0) by decide) (F_n F51 (show ¬ (115 = 77 ∧ 7 ≤ i ∧ i ≤ 10) by omega) (W_n W34 (by omega) rfl)))))))
              have j_122 : QK M104 := QK_i (by unfold QK_c; rw [show ((M104.2.1 77 65).toInt).toNat = ((M.2.1 77 65).toInt).toNat by omega]; refine ⟨by omega, by omega, by omega, by omega⟩) (fun i z => by rw [(F_n F99 (show ¬ (115 = 77 ∧ (i = 59 ∨ i = 66) ∨ 112 ≤ 115 ∧ 115 ≤ 114 ∧ 40 ≤ i ∨ 115 = 116) by omega) (W_n W89 (by omega) (F_n F80 (show ¬ (115 < 0) by decide) (F_n F70 (show ¬ (115 < 0) by decide) (F_n F51 (show ¬ (115 = 77 ∧ 7 ≤ i ∧ i ≤ 10) by omega) (W_n W34 (by omega) rfl))))))]; exact q2.2.1 i (by omega)) p_103
              have j_124 := (RS_f (fun a i z => F_n F99 (show ¬ (a = 77 ∧ (i = 59 ∨ i = 66) ∨ 112 ≤ a ∧ a ≤ 114 ∧ 40 ≤ i ∨ a = 116) by omega) rfl) (RS_f (fun a i z => W_n W89 (by /-r77-/ omega) rfl) (RS_f (fun a i z => F_n F80 (show ¬ (a < 0) by omega) rfl) (RS_f (fun a i z => F_n F70 (show ¬ (a < 0) by omega) rfl) p_56.1))))
              have c_125 : M104.2.1 77 10 = (M57.2.1 77 10) := (F_n F99 (show ¬ (77 = 77 ∧ (10 = 59 ∨ 10 = 66) ∨ 112 ≤ 77 ∧ 77 ≤ 114 ∧ 40 ≤ 10 ∨ 77 = 116) by decide) (W_n W89 (by decide) (F_n F80 (show ¬ (77 < 0) by decide) (F_n F70 (show ¬ (77 < 0) by decide) rfl))))
              have t_126 : (M104.2.1 77 10).toInt = (M57.2.1 77 10).toInt := congrArg Int32.toInt c_125
              exact h (1 : Int32) M104 hG100 F105 (by decide) (by decide) (by omega) (by omega) (by omega) (by omega) (fun _ => j_122) (fun _ => by rw [show ((M104.2.1 77 65).toInt).toNat = ((M.2.1 77 65).toInt).toNat by omega]; omega) (fun _ => j_124) (fun _ => ((q_nm (by omega) (by omega) (by omega) (by omega)).trans (qn_w (by omega) (by omega))).trans (q_w (by omega) (by omega) (by omega) (by omega))) (fun z => absurd z (by decide))
            · refine to_an (pc := 183) rw_225_183 rfl (to_in (pc := 184) rw_225_184 rfl (s_pI (pc := 185) rw_225_185 hG81 rfl (fun M128 W127 => ?_)))
              have hG129 := g_w hG81 W127 (A := (M.2.1 77 10).toInt) rfl (lo := 0) (hi := 500) rfl rfl (by omega) (by decide)
              have F130 := FR.w F86 W127 (show 77 = 77 ∧ (10 = 4 ∨ 10 = 5 ∨ 7 ≤ 10 ∧ 10 ≤ 10) ∨ 77 = 77 ∧ (10 = 59 ∨ 65 ≤ 10 ∧ 10 ≤ 69) ∨ 112 ≤ 77 ∧ 77 ≤ 114 ∧ 40 ≤ 10 ∨ 77 = 115 ∨ 77 = 116 by decide)
              refine to_an (pc := 188) rw_225_188 rfl (to_c (pc := 189) rw_225_189 (x := (4 : Int32)) rfl rfl (s_v (pc := 190) rw_225_190 (dp0 hd (by decide)) (ls0 := [.ref 77, .int (4 : Int32)]) rfl (Nat.le_of_ble_eq_true rfl) (Nat.le_of_ble_eq_true rfl) rfl (to_rc rfl rfl rfl (g_o hG129 rfl)) rfl (to_an (pc := 0) rw_152_0 rfl (to_in (pc := 1) rw_152_1 rfl (s_pI (pc := 2) rw_152_2 hG129 rfl (fun M132 W131 => ?_))))))
              have hG133 := g_wf hG129 W131 rfl rfl (by decide)
              have F134 := FR.w F130 W131 (show 77 = 77 ∧ (4 = 4 ∨ 4 = 5 ∨ 7 ≤ 4 ∧ 4 ≤ 10) ∨ 77 = 77 ∧ (4 = 59 ∨ 65 ≤ 4 ∧ 4 ≤ 69) ∨ 112 ≤ 77 ∧ 77 ≤ 114 ∧ 40 ≤ 4 ∨ 77 = 115 ∨ 77 = 116 by decide)
              refine to_an (pc := 5) rw_152_5 rfl (to_an (pc := 6) rw_152_6 rfl ?_)
              have c_135 : M132.2.1 77 10 = (M.2.1 77 10) := (W_n W131 (by decide) (W_e W127))
              refine tt_gI (pc := 7) rw_152_7 (g_o hG133 rfl) (v := (M.2.1 77 10)) c_135 (s_pI (pc := 10) rw_152_10 hG133 rfl (fun M137 W136 => ?_))
              have hG138 := g_wf hG133 W136 rfl rfl (by decide)
              have F139 := FR.w F134 W136 (show 77 = 77 ∧ (5 = 4 ∨ 5 = 5 ∨ 7 ≤ 5 ∧ 5 ≤ 10) ∨ 77 = 77 ∧ (5 = 59 ∨ 65 ≤ 5 ∧ 5 ≤ 69) ∨ 112 ≤ 77 ∧ 77 ≤ 114 ∧ 40 ≤ 5 ∨ 77 = 115 ∨ 77 = 116 by decide)
              refine to_c (pc := 13) rw_152_13 (x := (0 : Int32)) rfl rfl (s_r1 (pc := 14) rw_152_14 (A := 0) rfl (by decide) (s_r1 (pc := 193) rw_225_193 (A := 0) rfl (by decide) ?_))
              have k_140 : (0 : Int32).toInt = 0 := rfl
              have c_141 : M137.2.1 77 7 = (M57.2.1 77 7) := (W_n W136 (by decide) (W_n W131 (by decide) (W_n W127 (by decide) (F_n F80 (show ¬ (77 < 0) by decide) (F_n F70 (show ¬ (77 < 0) by decide) rfl)))))
              have t_142 : (M137.2.1 77 7).toInt = (M57.2.1 77 7).toInt := congrArg Int32.toInt c_141
              have c_143 : M137.2.1 77 6 = (M.2.1 77 6) := (W_n W136 (by decide) (W_n W131 (by decide) (W_n W127 (by decide) (F_n F80 (show ¬ (77 < 0) by decide) (F_n F70 (show ¬ (77 < 0) by decide) c_60)))))
              have t_144 : (M137.2.1 77 6).toInt = (M.2.1 77 6).toInt := congrArg Int32.toInt c_143
              have c_145 : M137.2.1 77 8 = (M57.2.1 77 8) := (W_n W136 (by decide) (W_n W131 (by decide) (W_n W127 (by decide) (F_n F80 (show ¬ (77 < 0) by decide) (F_n F70 (show ¬ (77 < 0) by decide) rfl)))))
              have t_146 : (M137.2.1 77 8).toInt = (M57.2.1 77 8).toInt := congrArg Int32.toInt c_145
              have c_147 : M137.2.1 77 4 = (4 : Int32) := (W_n W136 (by decide) (W_e W131))
              have k_148 : (4 : Int32).toInt = 4 := rfl
              have t_149 : (M137.2.1 77 4).toInt = (4 : Int32).toInt := congrArg Int32.toInt c_147
              have c_150 : M137.2.1 77 5 = (M.2.1 77 10) := (W_e W136)
              have t_151 : (M137.2.1 77 5).toInt = (M.2.1 77 10).toInt := congrArg Int32.toInt c_150
              have c_152 : M137.2.1 77 67 = (M.2.1 77 67) := (W_n W136 (by decide) (W_n W131 (by decide) (W_n W127 (by decide) (F_n F80 (show ¬ (77 < 0) by decide) (F_n F70 (show ¬ (77 < 0) by decide) (F_n F51 (show ¬ (77 = 77 ∧ 7 ≤ 67 ∧ 67 ≤ 10) by decide) (W_n W34 (by decide) rfl)))))))
              have t_153 : (M137.2.1 77 67).toInt = (M.2.1 77 67).toInt := congrArg Int32.toInt c_152
              have c_154 : M137.2.1 77 69 = v32 := (W_n W136 (by decide) (W_n W131 (by decide) (W_n W127 (by decide) (F_n F80 (show ¬ (77 < 0) by decide) (F_n F70 (show ¬ (77 < 0) by decide) (F_n F51 (show ¬ (77 = 77 ∧ 7 ≤ 69 ∧ 69 ≤ 10) by decide) (W_e W34)))))))
              have t_155 : (M137.2.1 77 69).toInt = v32.toInt := congrArg Int32.toInt c_154
              exact h (0 : Int32) M137 hG138 F139 (by decide) (by decide) (by omega) (by omega) (by omega) (by omega) (fun z => absurd z (by omega)) (fun z => absurd z (by decide)) (fun z => absurd z (by decide)) (fun z => absurd z (by decide)) (fun _ => by first | exact inl_e (by omega) (by omega) ((q_nm (by omega) (by omega) (by omega) (by omega)).trans (qn_wx (by omega) (by omega))) | exact inl_e (by omega) (by omega) ((q_nm (by omega) (by omega) (by omega) (by omega)).trans (qn_vx (by omega) (by omega))))
          · refine to_an (pc := 8) rw_159_8 rfl (tt_gI (pc := 9) rw_159_9 (g_o hG52 rfl) (v := (M57.2.1 77 9)) rfl (to_in (pc := 12) rw_159_12 rfl (b_cne (pc := 13) rw_159_13 (A := (M57.2.1 77 9).toInt) (B := 61) rfl rfl (fun h156 => ?_) (fun h156 => ?_))))
            · refine to_c (pc := 20) rw_159_20 (x := (0 : Int32)) rfl rfl (s_r1 (pc := 21) rw_159_21 (A := 0) rfl (by decide) (to_isn (pc := 147) rw_225_147 (ls2 := [.ref 77, .int (M.2.1 77 9), .int (M.2.1 77 10), .int (0 : Int32), .null, .null]) rfl rfl ?_))
              have z_157 : ¬ (x_kind t nn (x_ns t nn a) = 4 ∧ x_val t nn (x_ns t nn a) = 61) := by omega
              clear c_65
              refine to_an (pc := 148) rw_225_148 rfl (to_in (pc := 149) rw_225_149 rfl (s_v (pc := 150) rw_225_150 (dp0 hd (by decide)) (ls0 := [.ref 77, .int (M.2.1 77 9), .null]) rfl (Nat.le_of_ble_eq_true rfl) (Nat.le_of_ble_eq_true rfl) rfl (to_rc rfl rfl rfl (g_o hG52 rfl)) rfl ?_))
              have j_158 := (PLk_f (fun a i z => F_n F51 (show ¬ (a = 77 ∧ 7 ≤ i ∧ i ≤ 10) by omega) rfl) (PLk_f (fun a i z => W_n W34 (by /-r77-/ omega) rfl) q11))
              refine E_175 hX (dp1 hd (by decide)) hG52 j_158 (n := (M.2.1 77 9)) (sg := sg) (fun r159 M165 hG161 F160 p_162 p_163 p_164 => ?_)
              have F166 := FR.c F58 F160 (fun a i z => show a = 77 ∧ (i = 4 ∨ i = 5 ∨ 7 ≤ i ∧ i ≤ 10) ∨ a = 77 ∧ (i = 59 ∨ 65 ≤ i ∧ i ≤ 69) ∨ 112 ≤ a ∧ a ≤ 114 ∧ 40 ≤ i ∨ a = 115 ∨ a = 116 by have z : a < 0 := z; omega)
              have z_167 := x_fn_v (s := sg) (r := 1) (v := (M.2.1 77 9).toInt) (w := x_val t nn a)
              refine to_is (pc := 153) rw_225_153 (ls2 := [.ref 77, .int (M.2.1 77 9), .int (M.2.1 77 10), .int (0 : Int32), .int r159, .null]) rfl rfl (to_an (pc := 155) rw_225_155 rfl (to_in (pc := 156) rw_225_156 rfl (s_v (pc := 157) rw_225_157 (dp0 hd (by decide)) (ls0 := [.ref 77, .int (M.2.1 77 9), .null]) rfl (Nat.le_of_ble_eq_true rfl) (Nat.le_of_ble_eq_true rfl) rfl (to_rc rfl rfl rfl (g_o hG161 rfl)) rfl ?_)))
              have j_168 := (PLk_f (fun a i z => F_n F160 (show ¬ (a < 0) by omega) rfl) j_158)
              refine E_176 hX (dp1 hd (by decide)) hG161 j_168 (n := (M.2.1 77 9)) (sg := sg) (fun r169 M175 hG171 F170 p_172 p_173 p_174 => ?_)
              have F176 := FR.c F166 F170 (fun a i z => show a = 77 ∧ (i = 4 ∨ i = 5 ∨ 7 ≤ i ∧ i ≤ 10) ∨ a = 77 ∧ (i = 59 ∨ 65 ≤ i ∧ i ≤ 69) ∨ 112 ≤ a ∧ a ≤ 114 ∧ 40 ≤ i ∨ a = 115 ∨ a = 116 by have z : a < 0 := z; omega)
              have z_177 := x_fn_v (s := sg) (r := 6) (v := (M.2.1 77 9).toInt) (w := x_val t nn a)
              refine to_is (pc := 160) rw_225_160 (ls2 := [.ref 77, .int (M.2.1 77 9), .int (M.2.1 77 10), .int (0 : Int32), .int r159, .int r169]) rfl rfl (to_in (pc := 162) rw_225_162 rfl (b_ieq_t (pc := 163) rw_225_163 (A := 0) rfl (by decide) (to_i (pc := 178) rw_225_178 rfl (b_ige (pc := 180) rw_225_180 (A := r169.toInt) rfl (fun h178 => ?_) (fun h178 => ?_)))))
              · refine to_an (pc := 194) rw_225_194 rfl (to_c (pc := 195) rw_225_195 (x := (1 : Int32)) rfl rfl (s_pI (pc := 196) rw_225_196 hG171 rfl (fun M180 W179 => ?_)))
                have hG181 := g_w hG171 W179 (A := 1) rfl (lo := 0) (hi := 1) rfl rfl (by omega) (by decide)
                have F182 := FR.w F176 W179 (show 77 = 77 ∧ (68 = 4 ∨ 68 = 5 ∨ 7 ≤ 68 ∧ 68 ≤ 10) ∨ 77 = 77 ∧ (68 = 59 ∨ 65 ≤ 68 ∧ 68 ≤ 69) ∨ 112 ≤ 77 ∧ 77 ≤ 114 ∧ 40 ≤ 68 ∨ 77 = 115 ∨ 77 = 116 by decide)
                refine to_in (pc := 199) rw_225_199 rfl (b_ine_f (pc := 200) rw_225_200 (A := 0) rfl (by decide) (to_an (pc := 203) rw_225_203 rfl (to_c (pc := 204) rw_225_204 (x := (1 : Int32)) rfl rfl (to_i (pc := 205) rw_225_205 rfl (to_c (pc := 207) rw_225_207 (x := (0 : Int32)) rfl rfl (s_v (pc := 208) rw_225_208 (dp0 hd (by decide)) (ls0 := [.ref 77, .int (1 : Int32), .int r169, .int (0 : Int32)]) rfl (Nat.le_of_ble_eq_true rfl) (Nat.le_of_ble_eq_true rfl) rfl (to_rc rfl rfl rfl (g_o hG181 rfl)) rfl ?_))))))
                have k_183 : (1 : Int32).toInt = 1 := rfl
                have k_184 : (0 : Int32).toInt = 0 := rfl
                have c_185 : M180.2.1 77 59 = (M.2.1 77 59) := (W_n W179 (by decide) (F_n F170 (show ¬ (77 < 0) by decide) (F_n F160 (show ¬ (77 < 0) by decide) (F_n F51 (show ¬ (77 = 77 ∧ 7 ≤ 59 ∧ 59 ≤ 10) by decide) (W_n W34 (by decide) rfl)))))
                have t_186 : (M180.2.1 77 59).toInt = (M.2.1 77 59).toInt := congrArg Int32.toInt c_185
                have c_187 : M180.2.1 77 66 = (M.2.1 77 66) := (W_n W179 (by decide) (F_n F170 (show ¬ (77 < 0) by decide) (F_n F160 (show ¬ (77 < 0) by decide) (F_n F51 (show ¬ (77 = 77 ∧ 7 ≤ 66 ∧ 66 ≤ 10) by decide) (W_n W34 (by decide) rfl)))))
                have t_188 : (M180.2.1 77 66).toInt = (M.2.1 77 66).toInt := congrArg Int32.toInt c_187
                refine C_221 hX (dp1 hd (by decide)) hG181 (by omega) (by omega) (by omega) (by omega) (by omega) (by omega) (by rw [(W_n W179 (by omega) (F_n F170 (show ¬ (77 < 0) by decide) (F_n F160 (show ¬ (77 < 0) by decide) (F_n F51 (show ¬ (77 = 77 ∧ 7 ≤ 59 ∧ 59 ≤ 10) by decide) (W_n W34 (by omega) rfl)))))]; exact KN_f (fun a i z => (W_n W179 (by omega) (F_n F170 (show ¬ (a < 0) by omega) (F_n F160 (show ¬ (a < 0) by omega) (F_n F51 (show ¬ (a = 77 ∧ 7 ≤ i ∧ i ≤ 10) by omega) (W_n W34 (by omega) rfl)))))) q2.2.2) (by omega) (by omega) (by omega) (by omega) (k := (1 : Int32)) (p := r169) (o := (0 : Int32)) (fun M194 hG190 F189 p_191 p_192 p_193 => ?_)
                have F195 := FR.c F182 F189 (fun a i z => show a = 77 ∧ (i = 4 ∨ i = 5 ∨ 7 ≤ i ∧ i ≤ 10) ∨ a = 77 ∧ (i = 59 ∨ 65 ≤ i ∧ i ≤ 69) ∨ 112 ≤ a ∧ a ≤ 114 ∧ 40 ≤ i ∨ a = 115 ∨ a = 116 by have z : a = 77 ∧ (i = 59 ∨ i = 66) ∨ 112 ≤ a ∧ a ≤ 114 ∧ 40 ≤ i ∨ a = 116 := z; omega)
                have b_196 := g_b hG190 (a := 77) (i := 59) (lo := 0) (hi := 40) rfl rfl
                have b_197 := g_b hG190 (a := 77) (i := 66) (lo := 0) (hi := 40) rfl rfl
                refine to_c (pc := 211) rw_225_211 (x := (1 : Int32)) rfl rfl (s_r1 (pc := 212) rw_225_212 (A := 1) rfl (by decide) ?_)
                have c_198 : M194.2.1 77 7 = (M57.2.1 77 7) := (F_n F189 (show ¬ (77 = 77 ∧ (7 = 59 ∨ 7 = 66) ∨ 112 ≤ 77 ∧ 77 ≤ 114 ∧ 40 ≤ 7 ∨ 77 = 116) by decide) (W_n W179 (by decide) (F_n F170 (show ¬ (77 < 0) by decide) (F_n F160 (show ¬ (77 < 0) by decide) rfl))))
                have t_199 : (M194.2.1 77 7).toInt = (M57.2.1 77 7).toInt := congrArg Int32.toInt c_198
                have c_200 : M194.2.1 77 6 = (M.2.1 77 6) := (F_n F189 (show ¬ (77 = 77 ∧ (6 = 59 ∨ 6 = 66) ∨ 112 ≤ 77 ∧ 77 ≤ 114 ∧ 40 ≤ 6 ∨ 77 = 116) by decide) (W_n W179 (by decide) (F_n F170 (show ¬ (77 < 0) by decide) (F_n F160 (show ¬ (77 < 0) by decide) c_60))))
                have t_201 : (M194.2.1 77 6).toInt = (M.2.1 77 6).toInt := congrArg Int32.toInt c_200
                have c_202 : M194.2.1 77 8 = (M57.2.1 77 8) := (F_n F189 (show ¬ (77 = 77 ∧ (8 = 59 ∨ 8 = 66) ∨ 112 ≤ 77 ∧ 77 ≤ 114 ∧ 40 ≤ 8 ∨ 77 = 116) by decide) (W_n W179 (by decide) (F_n F170 (show ¬ (77 < 0) by decide) (F_n F160 (show ¬ (77 < 0) by decide) rfl))))
                have t_203 : (M194.2.1 77 8).toInt = (M57.2.1 77 8).toInt := congrArg Int32.toInt c_202
                have c_204 : M194.2.1 77 65 = (M.2.1 77 65) := (F_n F189 (show ¬ (77 = 77 ∧ (65 = 59 ∨ 65 = 66) ∨ 112 ≤ 77 ∧ 77 ≤ 114 ∧ 40 ≤ 65 ∨ 77 = 116) by decide) (W_n W179 (by decide) (F_n F170 (show ¬ (77 < 0) by decide) (F_n F160 (show ¬ (77 < 0) by decide) (F_n F51 (show ¬ (77 = 77 ∧ 7 ≤ 65 ∧ 65 ≤ 10) by decide) (W_n W34 (by decide) rfl))))))
                have t_205 : (M194.2.1 77 65).toInt = (M.2.1 77 65).toInt := congrArg Int32.toInt c_204
                have c_206 : M194.2.1 77 67 = (M.2.1 77 67) := (F_n F189 (show ¬ (77 = 77 ∧ (67 = 59 ∨ 67 = 66) ∨ 112 ≤ 77 ∧ 77 ≤ 114 ∧ 40 ≤ 67 ∨ 77 = 116) by decide) (W_n W179 (by decide) (F_n F170 (show ¬ (77 < 0) by decide) (F_n F160 (show ¬ (77 < 0) by decide) (F_n F51 (show ¬ (77 = 77 ∧ 7 ≤ 67 ∧ 67 ≤ 10) by decide) (W_n W34 (by decide) rfl))))))
                have t_207 : (M194.2.1 77 67).toInt = (M.2.1 77 67).toInt := congrArg Int32.toInt c_206
                have c_208 : M194.2.1 77 68 = (1 : Int32) := (F_n F189 (show ¬ (77 = 77 ∧ (68 = 59 ∨ 68 = 66) ∨ 112 ≤ 77 ∧ 77 ≤ 114 ∧ 40 ≤ 68 ∨ 77 = 116) by decide) (W_e W179))
                have t_209 : (M194.2.1 77 68).toInt = (1 : Int32).toInt := congrArg Int32.toInt c_208
                have c_210 : M194.2.1 77 69 = v32 := (F_n F189 (show ¬ (77 = 77 ∧ (69 = 59 ∨ 69 = 66) ∨ 112 ≤ 77 ∧ 77 ≤ 114 ∧ 40 ≤ 69 ∨ 77 = 116) by decide) (W_n W179 (by decide) (F_n F170 (show ¬ (77 < 0) by decide) (F_n F160 (show ¬ (77 < 0) by decide) (F_n F51 (show ¬ (77 = 77 ∧ 7 ≤ 69 ∧ 69 ≤ 10) by decide) (W_e W34))))))
                have t_211 : (M194.2.1 77 69).toInt = v32.toInt := congrArg Int32.toInt c_210
                have s_213 := Wx_f (M := M) (M1 := M194) ((M.2.1 77 65).toInt).toNat (fun i z => (F_n F189 (show ¬ (115 = 77 ∧ (i = 59 ∨ i = 66) ∨ 112 ≤ 115 ∧ 115 ≤ 114 ∧ 40 ≤ i ∨ 115 = 116) by omega) (W_n W179 (by omega) (F_n F170 (show ¬ (115 < 0) by decide) (F_n F160 (show ¬ (115 < 0) by decide) (F_n F51 (show ¬ (115 = 77 ∧ 7 ≤ i ∧ i ≤ 10) by omega) (W_n W34 (by omega) rfl)))))))
                have j_212 : QK M194 := QK_i (by unfold QK_c; rw [show ((M194.2.1 77 65).toInt).toNat = ((M.2.1 77 65).toInt).toNat by omega]; refine ⟨by omega, by omega, by omega, by omega⟩) (fun i z => by rw [(F_n F189 (show ¬ (115 = 77 ∧ (i = 59 ∨ i = 66) ∨ 112 ≤ 115 ∧ 115 ≤ 114 ∧ 40 ≤ i ∨ 115 = 116) by omega) (W_n W179 (by omega) (F_n F170 (show ¬ (115 < 0) by decide) (F_n F160 (show ¬ (115 < 0) by decide) (F_n F51 (show ¬ (115 = 77 ∧ 7 ≤ i ∧ i ≤ 10) by omega) (W_n W34 (by omega) rfl))))))]; exact q2.2.1 i (by omega)) p_193
                have j_214 := (RS_f (fun a i z => F_n F189 (show ¬ (a = 77 ∧ (i = 59 ∨ i = 66) ∨ 112 ≤ a ∧ a ≤ 114 ∧ 40 ≤ i ∨ a = 116) by omega) rfl) (RS_f (fun a i z => W_n W179 (by /-r77-/ omega) rfl) (RS_f (fun a i z => F_n F170 (show ¬ (a < 0) by omega) rfl) (RS_f (fun a i z => F_n F160 (show ¬ (a < 0) by omega) rfl) p_56.1))))
                have c_215 : M194.2.1 77 10 = (M57.2.1 77 10) := (F_n F189 (show ¬ (77 = 77 ∧ (10 = 59 ∨ 10 = 66) ∨ 112 ≤ 77 ∧ 77 ≤ 114 ∧ 40 ≤ 10 ∨ 77 = 116) by decide) (W_n W179 (by decide) (F_n F170 (show ¬ (77 < 0) by decide) (F_n F160 (show ¬ (77 < 0) by decide) rfl))))
                have t_216 : (M194.2.1 77 10).toInt = (M57.2.1 77 10).toInt := congrArg Int32.toInt c_215
                exact h (1 : Int32) M194 hG190 F195 (by decide) (by decide) (by omega) (by omega) (by omega) (by omega) (fun _ => j_212) (fun _ => by rw [show ((M194.2.1 77 65).toInt).toNat = ((M.2.1 77 65).toInt).toNat by omega]; omega) (fun _ => j_214) (fun _ => ((q_nm (by omega) (by omega) (by omega) (by omega)).trans (qn_w (by omega) (by omega))).trans (q_w (by omega) (by omega) (by omega) (by omega))) (fun z => absurd z (by decide))
              · refine to_an (pc := 183) rw_225_183 rfl (to_in (pc := 184) rw_225_184 rfl (s_pI (pc := 185) rw_225_185 hG171 rfl (fun M218 W217 => ?_)))
                have hG219 := g_w hG171 W217 (A := (M.2.1 77 10).toInt) rfl (lo := 0) (hi := 500) rfl rfl (by omega) (by decide)
                have F220 := FR.w F176 W217 (show 77 = 77 ∧ (10 = 4 ∨ 10 = 5 ∨ 7 ≤ 10 ∧ 10 ≤ 10) ∨ 77 = 77 ∧ (10 = 59 ∨ 65 ≤ 10 ∧ 10 ≤ 69) ∨ 112 ≤ 77 ∧ 77 ≤ 114 ∧ 40 ≤ 10 ∨ 77 = 115 ∨ 77 = 116 by decide)
                refine to_an (pc := 188) rw_225_188 rfl (to_c (pc := 189) rw_225_189 (x := (4 : Int32)) rfl rfl (s_v (pc := 190) rw_225_190 (dp0 hd (by decide)) (ls0 := [.ref 77, .int (4 : Int32)]) rfl (Nat.le_of_ble_eq_true rfl) (Nat.le_of_ble_eq_true rfl) rfl (to_rc rfl rfl rfl (g_o hG219 rfl)) rfl (to_an (pc := 0) rw_152_0 rfl (to_in (pc := 1) rw_152_1 rfl (s_pI (pc := 2) rw_152_2 hG219 rfl (fun M222 W221 => ?_))))))
                have hG223 := g_wf hG219 W221 rfl rfl (by decide)
                have F224 := FR.w F220 W221 (show 77 = 77 ∧ (4 = 4 ∨ 4 = 5 ∨ 7 ≤ 4 ∧ 4 ≤ 10) ∨ 77 = 77 ∧ (4 = 59 ∨ 65 ≤ 4 ∧ 4 ≤ 69) ∨ 112 ≤ 77 ∧ 77 ≤ 114 ∧ 40 ≤ 4 ∨ 77 = 115 ∨ 77 = 116 by decide)
                refine to_an (pc := 5) rw_152_5 rfl (to_an (pc := 6) rw_152_6 rfl ?_)
                have c_225 : M222.2.1 77 10 = (M.2.1 77 10) := (W_n W221 (by decide) (W_e W217))
                refine tt_gI (pc := 7) rw_152_7 (g_o hG223 rfl) (v := (M.2.1 77 10)) c_225 (s_pI (pc := 10) rw_152_10 hG223 rfl (fun M227 W226 => ?_))
                have hG228 := g_wf hG223 W226 rfl rfl (by decide)
                have F229 := FR.w F224 W226 (show 77 = 77 ∧ (5 = 4 ∨ 5 = 5 ∨ 7 ≤ 5 ∧ 5 ≤ 10) ∨ 77 = 77 ∧ (5 = 59 ∨ 65 ≤ 5 ∧ 5 ≤ 69) ∨ 112 ≤ 77 ∧ 77 ≤ 114 ∧ 40 ≤ 5 ∨ 77 = 115 ∨ 77 = 116 by decide)
                refine to_c (pc := 13) rw_152_13 (x := (0 : Int32)) rfl rfl (s_r1 (pc := 14) rw_152_14 (A := 0) rfl (by decide) (s_r1 (pc := 193) rw_225_193 (A := 0) rfl (by decide) ?_))
                have k_230 : (0 : Int32).toInt = 0 := rfl
                have c_231 : M227.2.1 77 7 = (M57.2.1 77 7) := (W_n W226 (by decide) (W_n W221 (by decide) (W_n W217 (by decide) (F_n F170 (show ¬ (77 < 0) by decide) (F_n F160 (show ¬ (77 < 0) by decide) rfl)))))
                have t_232 : (M227.2.1 77 7).toInt = (M57.2.1 77 7).toInt := congrArg Int32.toInt c_231
                have c_233 : M227.2.1 77 6 = (M.2.1 77 6) := (W_n W226 (by decide) (W_n W221 (by decide) (W_n W217 (by decide) (F_n F170 (show ¬ (77 < 0) by decide) (F_n F160 (show ¬ (77 < 0) by decide) c_60)))))
                have t_234 : (M227.2.1 77 6).toInt = (M.2.1 77 6).toInt := congrArg Int32.toInt c_233
                have c_235 : M227.2.1 77 8 = (M57.2.1 77 8) := (W_n W226 (by decide) (W_n W221 (by decide) (W_n W217 (by decide) (F_n F170 (show ¬ (77 < 0) by decide) (F_n F160 (show ¬ (77 < 0) by decide) rfl)))))
                have t_236 : (M227.2.1 77 8).toInt = (M57.2.1 77 8).toInt := congrArg Int32.toInt c_235
                have c_237 : M227.2.1 77 4 = (4 : Int32) := (W_n W226 (by decide) (W_e W221))
                have k_238 : (4 : Int32).toInt = 4 := rfl
                have t_239 : (M227.2.1 77 4).toInt = (4 : Int32).toInt := congrArg Int32.toInt c_237
                have c_240 : M227.2.1 77 5 = (M.2.1 77 10) := (W_e W226)
                have t_241 : (M227.2.1 77 5).toInt = (M.2.1 77 10).toInt := congrArg Int32.toInt c_240
                have c_242 : M227.2.1 77 67 = (M.2.1 77 67) := (W_n W226 (by decide) (W_n W221 (by decide) (W_n W217 (by decide) (F_n F170 (show ¬ (77 < 0) by decide) (F_n F160 (show ¬ (77 < 0) by decide) (F_n F51 (show ¬ (77 = 77 ∧ 7 ≤ 67 ∧ 67 ≤ 10) by decide) (W_n W34 (by decide) rfl)))))))
                have t_243 : (M227.2.1 77 67).toInt = (M.2.1 77 67).toInt := congrArg Int32.toInt c_242
                have c_244 : M227.2.1 77 69 = v32 := (W_n W226 (by decide) (W_n W221 (by decide) (W_n W217 (by decide) (F_n F170 (show ¬ (77 < 0) by decide) (F_n F160 (show ¬ (77 < 0) by decide) (F_n F51 (show ¬ (77 = 77 ∧ 7 ≤ 69 ∧ 69 ≤ 10) by decide) (W_e W34)))))))
                have t_245 : (M227.2.1 77 69).toInt = v32.toInt := congrArg Int32.toInt c_244
                exact h (0 : Int32) M227 hG228 F229 (by decide) (by decide) (by omega) (by omega) (by omega) (by omega) (fun z => absurd z (by omega)) (fun z => absurd z (by decide)) (fun z => absurd z (by decide)) (fun z => absurd z (by decide)) (fun _ => by first | exact inl_e (by omega) (by omega) ((q_nm (by omega) (by omega) (by omega) (by omega)).trans (qn_wx (by omega) (by omega))) | exact inl_e (by omega) (by omega) ((q_nm (by omega) (by omega) (by omega) (by omega)).trans (qn_vx (by omega) (by omega))))
            · refine to_c (pc := 16) rw_159_16 (x := (1 : Int32)) rfl rfl (to_go (pc := 17) rw_159_17 (s_r1 (pc := 21) rw_159_21 (A := 1) rfl (by decide) (to_isn (pc := 147) rw_225_147 (ls2 := [.ref 77, .int (M.2.1 77 9), .int (M.2.1 77 10), .int (1 : Int32), .null, .null]) rfl rfl ?_)))
              have z_246 : x_kind t nn (x_ns t nn a) = 4 ∧ x_val t nn (x_ns t nn a) = 61 := by omega
              clear c_65
              refine to_an (pc := 148) rw_225_148 rfl (to_in (pc := 149) rw_225_149 rfl (s_v (pc := 150) rw_225_150 (dp0 hd (by decide)) (ls0 := [.ref 77, .int (M.2.1 77 9), .null]) rfl (Nat.le_of_ble_eq_true rfl) (Nat.le_of_ble_eq_true rfl) rfl (to_rc rfl rfl rfl (g_o hG52 rfl)) rfl ?_))
              have j_247 := (PLk_f (fun a i z => F_n F51 (show ¬ (a = 77 ∧ 7 ≤ i ∧ i ≤ 10) by omega) rfl) (PLk_f (fun a i z => W_n W34 (by /-r77-/ omega) rfl) q11))
              refine E_175 hX (dp1 hd (by decide)) hG52 j_247 (n := (M.2.1 77 9)) (sg := sg) (fun r248 M254 hG250 F249 p_251 p_252 p_253 => ?_)
              have F255 := FR.c F58 F249 (fun a i z => show a = 77 ∧ (i = 4 ∨ i = 5 ∨ 7 ≤ i ∧ i ≤ 10) ∨ a = 77 ∧ (i = 59 ∨ 65 ≤ i ∧ i ≤ 69) ∨ 112 ≤ a ∧ a ≤ 114 ∧ 40 ≤ i ∨ a = 115 ∨ a = 116 by have z : a < 0 := z; omega)
              have z_256 := x_fn_v (s := sg) (r := 1) (v := (M.2.1 77 9).toInt) (w := x_val t nn a)
              refine to_is (pc := 153) rw_225_153 (ls2 := [.ref 77, .int (M.2.1 77 9), .int (M.2.1 77 10), .int (1 : Int32), .int r248, .null]) rfl rfl (to_an (pc := 155) rw_225_155 rfl (to_in (pc := 156) rw_225_156 rfl (s_v (pc := 157) rw_225_157 (dp0 hd (by decide)) (ls0 := [.ref 77, .int (M.2.1 77 9), .null]) rfl (Nat.le_of_ble_eq_true rfl) (Nat.le_of_ble_eq_true rfl) rfl (to_rc rfl rfl rfl (g_o hG250 rfl)) rfl ?_)))
              have j_257 := (PLk_f (fun a i z => F_n F249 (show ¬ (a < 0) by omega) rfl) j_247)
              refine E_176 hX (dp1 hd (by decide)) hG250 j_257 (n := (M.2.1 77 9)) (sg := sg) (fun r258 M264 hG260 F259 p_261 p_262 p_263 => ?_)
              have F265 := FR.c F255 F259 (fun a i z => show a = 77 ∧ (i = 4 ∨ i = 5 ∨ 7 ≤ i ∧ i ≤ 10) ∨ a = 77 ∧ (i = 59 ∨ 65 ≤ i ∧ i ≤ 69) ∨ 112 ≤ a ∧ a ≤ 114 ∧ 40 ≤ i ∨ a = 115 ∨ a = 116 by have z : a < 0 := z; omega)
              have z_266 := x_fn_v (s := sg) (r := 6) (v := (M.2.1 77 9).toInt) (w := x_val t nn a)
              refine to_is (pc := 160) rw_225_160 (ls2 := [.ref 77, .int (M.2.1 77 9), .int (M.2.1 77 10), .int (1 : Int32), .int r248, .int r258]) rfl rfl (to_in (pc := 162) rw_225_162 rfl (b_ieq_f (pc := 163) rw_225_163 (A := 1) rfl (by decide) (to_an (pc := 166) rw_225_166 rfl (to_i (pc := 167) rw_225_167 rfl (s_v (pc := 169) rw_225_169 (dp0 hd (by decide)) (ls0 := [.ref 77, .int r248]) rfl (Nat.le_of_ble_eq_true rfl) (Nat.le_of_ble_eq_true rfl) rfl (to_rc rfl rfl rfl (g_o hG260 rfl)) rfl (to_an (pc := 0) rw_179_0 rfl (to_in (pc := 1) rw_179_1 rfl (s_v (pc := 2) rw_179_2 (dp1 hd (by decide)) (ls0 := [.ref 77, .int r248]) rfl (Nat.le_of_ble_eq_true rfl) (Nat.le_of_ble_eq_true rfl) rfl (to_rc rfl rfl rfl (g_o hG260 rfl)) rfl (to_in (pc := 0) rw_178_0 rfl (b_ilt (pc := 1) rw_178_1 (A := r248.toInt) rfl (fun h267 => ?_) (fun h267 => ?_)))))))))))
              · refine to_c (pc := 16) rw_178_16 (x := (0 : Int32)) rfl rfl (s_r1 (pc := 17) rw_178_17 (A := 0) rfl (by decide) (b_ieq_t (pc := 5) rw_179_5 (A := 0) rfl (by decide) (to_c (pc := 22) rw_179_22 (x := (0 : Int32)) rfl rfl (s_r1 (pc := 23) rw_179_23 (A := 0) rfl (by decide) (b_ine_f (pc := 172) rw_225_172 (A := 0) rfl (by decide) (to_go (pc := 175) rw_225_175 (to_an (pc := 183) rw_225_183 rfl (to_in (pc := 184) rw_225_184 rfl (s_pI (pc := 185) rw_225_185 hG260 rfl (fun M269 W268 => ?_))))))))))
                have hG270 := g_w hG260 W268 (A := (M.2.1 77 10).toInt) rfl (lo := 0) (hi := 500) rfl rfl (by omega) (by decide)
                have F271 := FR.w F265 W268 (show 77 = 77 ∧ (10 = 4 ∨ 10 = 5 ∨ 7 ≤ 10 ∧ 10 ≤ 10) ∨ 77 = 77 ∧ (10 = 59 ∨ 65 ≤ 10 ∧ 10 ≤ 69) ∨ 112 ≤ 77 ∧ 77 ≤ 114 ∧ 40 ≤ 10 ∨ 77 = 115 ∨ 77 = 116 by decide)
                refine to_an (pc := 188) rw_225_188 rfl (to_c (pc := 189) rw_225_189 (x := (4 : Int32)) rfl rfl (s_v (pc := 190) rw_225_190 (dp0 hd (by decide)) (ls0 := [.ref 77, .int (4 : Int32)]) rfl (Nat.le_of_ble_eq_true rfl) (Nat.le_of_ble_eq_true rfl) rfl (to_rc rfl rfl rfl (g_o hG270 rfl)) rfl (to_an (pc := 0) rw_152_0 rfl (to_in (pc := 1) rw_152_1 rfl (s_pI (pc := 2) rw_152_2 hG270 rfl (fun M273 W272 => ?_))))))
                have hG274 := g_wf hG270 W272 rfl rfl (by decide)
                have F275 := FR.w F271 W272 (show 77 = 77 ∧ (4 = 4 ∨ 4 = 5 ∨ 7 ≤ 4 ∧ 4 ≤ 10) ∨ 77 = 77 ∧ (4 = 59 ∨ 65 ≤ 4 ∧ 4 ≤ 69) ∨ 112 ≤ 77 ∧ 77 ≤ 114 ∧ 40 ≤ 4 ∨ 77 = 115 ∨ 77 = 116 by decide)
                refine to_an (pc := 5) rw_152_5 rfl (to_an (pc := 6) rw_152_6 rfl ?_)
                have c_276 : M273.2.1 77 10 = (M.2.1 77 10) := (W_n W272 (by decide) (W_e W268))
                refine tt_gI (pc := 7) rw_152_7 (g_o hG274 rfl) (v := (M.2.1 77 10)) c_276 (s_pI (pc := 10) rw_152_10 hG274 rfl (fun M278 W277 => ?_))
                have hG279 := g_wf hG274 W277 rfl rfl (by decide)
                have F280 := FR.w F275 W277 (show 77 = 77 ∧ (5 = 4 ∨ 5 = 5 ∨ 7 ≤ 5 ∧ 5 ≤ 10) ∨ 77 = 77 ∧ (5 = 59 ∨ 65 ≤ 5 ∧ 5 ≤ 69) ∨ 112 ≤ 77 ∧ 77 ≤ 114 ∧ 40 ≤ 5 ∨ 77 = 115 ∨ 77 = 116 by decide)
                refine to_c (pc := 13) rw_152_13 (x := (0 : Int32)) rfl rfl (s_r1 (pc := 14) rw_152_14 (A := 0) rfl (by decide) (s_r1 (pc := 193) rw_225_193 (A := 0) rfl (by decide) ?_))
                have k_281 : (0 : Int32).toInt = 0 := rfl
                have c_282 : M278.2.1 77 7 = (M57.2.1 77 7) := (W_n W277 (by decide) (W_n W272 (by decide) (W_n W268 (by decide) (F_n F259 (show ¬ (77 < 0) by decide) (F_n F249 (show ¬ (77 < 0) by decide) rfl)))))
                have t_283 : (M278.2.1 77 7).toInt = (M57.2.1 77 7).toInt := congrArg Int32.toInt c_282
                have c_284 : M278.2.1 77 6 = (M.2.1 77 6) := (W_n W277 (by decide) (W_n W272 (by decide) (W_n W268 (by decide) (F_n F259 (show ¬ (77 < 0) by decide) (F_n F249 (show ¬ (77 < 0) by decide) c_60)))))
                have t_285 : (M278.2.1 77 6).toInt = (M.2.1 77 6).toInt := congrArg Int32.toInt c_284
                have c_286 : M278.2.1 77 8 = (M57.2.1 77 8) := (W_n W277 (by decide) (W_n W272 (by decide) (W_n W268 (by decide) (F_n F259 (show ¬ (77 < 0) by decide) (F_n F249 (show ¬ (77 < 0) by decide) rfl)))))
                have t_287 : (M278.2.1 77 8).toInt = (M57.2.1 77 8).toInt := congrArg Int32.toInt c_286
                have c_288 : M278.2.1 77 4 = (4 : Int32) := (W_n W277 (by decide) (W_e W272))
                have k_289 : (4 : Int32).toInt = 4 := rfl
                have t_290 : (M278.2.1 77 4).toInt = (4 : Int32).toInt := congrArg Int32.toInt c_288
                have c_291 : M278.2.1 77 5 = (M.2.1 77 10) := (W_e W277)
                have t_292 : (M278.2.1 77 5).toInt = (M.2.1 77 10).toInt := congrArg Int32.toInt c_291
                have c_293 : M278.2.1 77 67 = (M.2.1 77 67) := (W_n W277 (by decide) (W_n W272 (by decide) (W_n W268 (by decide) (F_n F259 (show ¬ (77 < 0) by decide) (F_n F249 (show ¬ (77 < 0) by decide) (F_n F51 (show ¬ (77 = 77 ∧ 7 ≤ 67 ∧ 67 ≤ 10) by decide) (W_n W34 (by decide) rfl)))))))
                have t_294 : (M278.2.1 77 67).toInt = (M.2.1 77 67).toInt := congrArg Int32.toInt c_293
                have c_295 : M278.2.1 77 69 = v32 := (W_n W277 (by decide) (W_n W272 (by decide) (W_n W268 (by decide) (F_n F259 (show ¬ (77 < 0) by decide) (F_n F249 (show ¬ (77 < 0) by decide) (F_n F51 (show ¬ (77 = 77 ∧ 7 ≤ 69 ∧ 69 ≤ 10) by decide) (W_e W34)))))))
                have t_296 : (M278.2.1 77 69).toInt = v32.toInt := congrArg Int32.toInt c_295
                exact h (0 : Int32) M278 hG279 F280 (by decide) (by decide) (by omega) (by omega) (by omega) (by omega) (fun z => absurd z (by omega)) (fun z => absurd z (by decide)) (fun z => absurd z (by decide)) (fun z => absurd z (by decide)) (fun _ => by first | exact inl_e (by omega) (by omega) ((q_nm (by omega) (by omega) (by omega) (by omega)).trans (qn_wx (by omega) (by omega))) | exact inl_e (by omega) (by omega) ((q_nm (by omega) (by omega) (by omega) (by omega)).trans (qn_vx (by omega) (by omega))))
              · refine to_in (pc := 4) rw_178_4 rfl (to_an (pc := 5) rw_178_5 rfl ?_)
                have c_297 : M264.2.1 77 12 = (M.2.1 77 12) := (F_n F259 (show ¬ (77 < 0) by decide) (F_n F249 (show ¬ (77 < 0) by decide) (F_n F51 (show ¬ (77 = 77 ∧ 7 ≤ 12 ∧ 12 ≤ 10) by decide) (W_n W34 (by decide) rfl))))
                refine tt_gI (pc := 6) rw_178_6 (g_o hG260 rfl) (v := (M.2.1 77 12)) c_297 (b_cge (pc := 9) rw_178_9 (A := r248.toInt) (B := (M.2.1 77 12).toInt) rfl rfl (fun h298 => ?_) (fun h298 => ?_))
                · refine to_c (pc := 16) rw_178_16 (x := (0 : Int32)) rfl rfl (s_r1 (pc := 17) rw_178_17 (A := 0) rfl (by decide) (b_ieq_t (pc := 5) rw_179_5 (A := 0) rfl (by decide) (to_c (pc := 22) rw_179_22 (x := (0 : Int32)) rfl rfl (s_r1 (pc := 23) rw_179_23 (A := 0) rfl (by decide) (b_ine_f (pc := 172) rw_225_172 (A := 0) rfl (by decide) (to_go (pc := 175) rw_225_175 (to_an (pc := 183) rw_225_183 rfl (to_in (pc := 184) rw_225_184 rfl (s_pI (pc := 185) rw_225_185 hG260 rfl (fun M300 W299 => ?_))))))))))
                  have hG301 := g_w hG260 W299 (A := (M.2.1 77 10).toInt) rfl (lo := 0) (hi := 500) rfl rfl (by omega) (by decide)
                  have F302 := FR.w F265 W299 (show 77 = 77 ∧ (10 = 4 ∨ 10 = 5 ∨ 7 ≤ 10 ∧ 10 ≤ 10) ∨ 77 = 77 ∧ (10 = 59 ∨ 65 ≤ 10 ∧ 10 ≤ 69) ∨ 112 ≤ 77 ∧ 77 ≤ 114 ∧ 40 ≤ 10 ∨ 77 = 115 ∨ 77 = 116 by decide)
                  refine to_an (pc := 188) rw_225_188 rfl (to_c (pc := 189) rw_225_189 (x := (4 : Int32)) rfl rfl (s_v (pc := 190) rw_225_190 (dp0 hd (by decide)) (ls0 := [.ref 77, .int (4 : Int32)]) rfl (Nat.le_of_ble_eq_true rfl) (Nat.le_of_ble_eq_true rfl) rfl (to_rc rfl rfl rfl (g_o hG301 rfl)) rfl (to_an (pc := 0) rw_152_0 rfl (to_in (pc := 1) rw_152_1 rfl (s_pI (pc := 2) rw_152_2 hG301 rfl (fun M304 W303 => ?_))))))
                  have hG305 := g_wf hG301 W303 rfl rfl (by decide)
                  have F306 := FR.w F302 W303 (show 77 = 77 ∧ (4 = 4 ∨ 4 = 5 ∨ 7 ≤ 4 ∧ 4 ≤ 10) ∨ 77 = 77 ∧ (4 = 59 ∨ 65 ≤ 4 ∧ 4 ≤ 69) ∨ 112 ≤ 77 ∧ 77 ≤ 114 ∧ 40 ≤ 4 ∨ 77 = 115 ∨ 77 = 116 by decide)
                  refine to_an (pc := 5) rw_152_5 rfl (to_an (pc := 6) rw_152_6 rfl ?_)
                  have c_307 : M304.2.1 77 10 = (M.2.1 77 10) := (W_n W303 (by decide) (W_e W299))
                  refine tt_gI (pc := 7) rw_152_7 (g_o hG305 rfl) (v := (M.2.1 77 10)) c_307 (s_pI (pc := 10) rw_152_10 hG305 rfl (fun M309 W308 => ?_))
                  have hG310 := g_wf hG305 W308 rfl rfl (by decide)
                  have F311 := FR.w F306 W308 (show 77 = 77 ∧ (5 = 4 ∨ 5 = 5 ∨ 7 ≤ 5 ∧ 5 ≤ 10) ∨ 77 = 77 ∧ (5 = 59 ∨ 65 ≤ 5 ∧ 5 ≤ 69) ∨ 112 ≤ 77 ∧ 77 ≤ 114 ∧ 40 ≤ 5 ∨ 77 = 115 ∨ 77 = 116 by decide)
                  refine to_c (pc := 13) rw_152_13 (x := (0 : Int32)) rfl rfl (s_r1 (pc := 14) rw_152_14 (A := 0) rfl (by decide) (s_r1 (pc := 193) rw_225_193 (A := 0) rfl (by decide) ?_))
                  have k_312 : (0 : Int32).toInt = 0 := rfl
                  have c_313 : M309.2.1 77 7 = (M57.2.1 77 7) := (W_n W308 (by decide) (W_n W303 (by decide) (W_n W299 (by decide) (F_n F259 (show ¬ (77 < 0) by decide) (F_n F249 (show ¬ (77 < 0) by decide) rfl)))))
                  have t_314 : (M309.2.1 77 7).toInt = (M57.2.1 77 7).toInt := congrArg Int32.toInt c_313
                  have c_315 : M309.2.1 77 6 = (M.2.1 77 6) := (W_n W308 (by decide) (W_n W303 (by decide) (W_n W299 (by decide) (F_n F259 (show ¬ (77 < 0) by decide) (F_n F249 (show ¬ (77 < 0) by decide) c_60)))))
                  have t_316 : (M309.2.1 77 6).toInt = (M.2.1 77 6).toInt := congrArg Int32.toInt c_315
                  have c_317 : M309.2.1 77 8 = (M57.2.1 77 8) := (W_n W308 (by decide) (W_n W303 (by decide) (W_n W299 (by decide) (F_n F259 (show ¬ (77 < 0) by decide) (F_n F249 (show ¬ (77 < 0) by decide) rfl)))))
                  have t_318 : (M309.2.1 77 8).toInt = (M57.2.1 77 8).toInt := congrArg Int32.toInt c_317
                  have c_319 : M309.2.1 77 4 = (4 : Int32) := (W_n W308 (by decide) (W_e W303))
                  have k_320 : (4 : Int32).toInt = 4 := rfl
                  have t_321 : (M309.2.1 77 4).toInt = (4 : Int32).toInt := congrArg Int32.toInt c_319
                  have c_322 : M309.2.1 77 5 = (M.2.1 77 10) := (W_e W308)
                  have t_323 : (M309.2.1 77 5).toInt = (M.2.1 77 10).toInt := congrArg Int32.toInt c_322
                  have c_324 : M309.2.1 77 67 = (M.2.1 77 67) := (W_n W308 (by decide) (W_n W303 (by decide) (W_n W299 (by decide) (F_n F259 (show ¬ (77 < 0) by decide) (F_n F249 (show ¬ (77 < 0) by decide) (F_n F51 (show ¬ (77 = 77 ∧ 7 ≤ 67 ∧ 67 ≤ 10) by decide) (W_n W34 (by decide) rfl)))))))
                  have t_325 : (M309.2.1 77 67).toInt = (M.2.1 77 67).toInt := congrArg Int32.toInt c_324
                  have c_326 : M309.2.1 77 69 = v32 := (W_n W308 (by decide) (W_n W303 (by decide) (W_n W299 (by decide) (F_n F259 (show ¬ (77 < 0) by decide) (F_n F249 (show ¬ (77 < 0) by decide) (F_n F51 (show ¬ (77 = 77 ∧ 7 ≤ 69 ∧ 69 ≤ 10) by decide) (W_e W34)))))))
                  have t_327 : (M309.2.1 77 69).toInt = v32.toInt := congrArg Int32.toInt c_326
                  exact h (0 : Int32) M309 hG310 F311 (by decide) (by decide) (by omega) (by omega) (by omega) (by omega) (fun z => absurd z (by omega)) (fun z => absurd z (by decide)) (fun z => absurd z (by decide)) (fun z => absurd z (by decide)) (fun _ => by first | exact inl_e (by omega) (by omega) ((q_nm (by omega) (by omega) (by omega) (by omega)).trans (qn_wx (by omega) (by omega))) | exact inl_e (by omega) (by omega) ((q_nm (by omega) (by omega) (by omega) (by omega)).trans (qn_vx (by omega) (by omega))))
                · refine to_c (pc := 12) rw_178_12 (x := (1 : Int32)) rfl rfl (to_go (pc := 13) rw_178_13 (s_r1 (pc := 17) rw_178_17 (A := 1) rfl (by decide) (b_ieq_f (pc := 5) rw_179_5 (A := 1) rfl (by decide) (to_an (pc := 8) rw_179_8 rfl (s_gR (pc := 9) rw_179_9 hG260 rfl (v := 81) rfl (to_in (pc := 12) rw_179_12 rfl (s_ial (pc := 13) rw_179_13 hG260 rfl (n := 16) rfl rfl (A := r248.toInt) rfl (by omega) (by omega) (lo := 0) (hi := 3) rfl rfl (fun v328 w_329 _ _ => ?_))))))))
                  have t_330 := congrArg Int32.toInt w_329
                  have j_332 := (FA_f (fun a i z => F_n F259 (show ¬ (a < 0) by omega) rfl) (FA_f (fun a i z => F_n F249 (show ¬ (a < 0) by omega) rfl) (FA_f (fun a i z => F_n F51 (show ¬ (a = 77 ∧ 7 ≤ i ∧ i ≤ 10) by omega) rfl) (FA_f (fun a i z => W_n W34 (by /-r77-/ omega) rfl) q3))))
                  have j_331 := FA_u j_332 (r248.toInt).toNat
                  have t_333 : (M264.2.1 81 (r248.toInt).toNat).toInt = (M.2.1 81 (r248.toInt).toNat).toInt := congrArg Int32.toInt (F_n F259 (show ¬ (81 < 0) by decide) (F_n F249 (show ¬ (81 < 0) by decide) (F_n F51 (show ¬ (81 = 77 ∧ 7 ≤ ((r248.toInt).toNat) ∧ ((r248.toInt).toNat) ≤ 10) by omega) (W_n W34 (by omega) rfl))))
                  have t_334 : (M264.2.1 84 (r248.toInt).toNat).toInt = (M.2.1 84 (r248.toInt).toNat).toInt := congrArg Int32.toInt (F_n F259 (show ¬ (84 < 0) by decide) (F_n F249 (show ¬ (84 < 0) by decide) (F_n F51 (show ¬ (84 = 77 ∧ 7 ≤ ((r248.toInt).toNat) ∧ ((r248.toInt).toNat) ≤ 10) by omega) (W_n W34 (by omega) rfl))))
                  have j_335 := FA_u q3 (r248.toInt).toNat
                  have j_336 := (PLk_f (fun a i z => F_n F259 (show ¬ (a < 0) by omega) rfl) j_257)
                  have z_337 := PLk_r j_336 2 81 rfl (by decide) (by decide) (k := r248.toInt) (by omega) (by omega) w_329
                  have z_338 := x_row_v (s := sg) (r := 2) (x := r248.toInt) (y := x_fn sg 1 (x_val t nn a)) (by omega)
                  refine to_c (pc := 14) rw_179_14 (x := (3 : Int32)) rfl rfl (b_ceq (pc := 15) rw_179_15 (A := v328.toInt) (B := 3) rfl rfl (fun h339 => ?_) (fun h339 => ?_))
                  · refine to_c (pc := 22) rw_179_22 (x := (0 : Int32)) rfl rfl (s_r1 (pc := 23) rw_179_23 (A := 0) rfl (by decide) (b_ine_f (pc := 172) rw_225_172 (A := 0) rfl (by decide) (to_go (pc := 175) rw_225_175 (to_an (pc := 183) rw_225_183 rfl (to_in (pc := 184) rw_225_184 rfl (s_pI (pc := 185) rw_225_185 hG260 rfl (fun M341 W340 => ?_)))))))
                    have hG342 := g_w hG260 W340 (A := (M.2.1 77 10).toInt) rfl (lo := 0) (hi := 500) rfl rfl (by omega) (by decide)
                    have F343 := FR.w F265 W340 (show 77 = 77 ∧ (10 = 4 ∨ 10 = 5 ∨ 7 ≤ 10 ∧ 10 ≤ 10) ∨ 77 = 77 ∧ (10 = 59 ∨ 65 ≤ 10 ∧ 10 ≤ 69) ∨ 112 ≤ 77 ∧ 77 ≤ 114 ∧ 40 ≤ 10 ∨ 77 = 115 ∨ 77 = 116 by decide)
                    refine to_an (pc := 188) rw_225_188 rfl (to_c (pc := 189) rw_225_189 (x := (4 : Int32)) rfl rfl (s_v (pc := 190) rw_225_190 (dp0 hd (by decide)) (ls0 := [.ref 77, .int (4 : Int32)]) rfl (Nat.le_of_ble_eq_true rfl) (Nat.le_of_ble_eq_true rfl) rfl (to_rc rfl rfl rfl (g_o hG342 rfl)) rfl (to_an (pc := 0) rw_152_0 rfl (to_in (pc := 1) rw_152_1 rfl (s_pI (pc := 2) rw_152_2 hG342 rfl (fun M345 W344 => ?_))))))
                    have hG346 := g_wf hG342 W344 rfl rfl (by decide)
                    have F347 := FR.w F343 W344 (show 77 = 77 ∧ (4 = 4 ∨ 4 = 5 ∨ 7 ≤ 4 ∧ 4 ≤ 10) ∨ 77 = 77 ∧ (4 = 59 ∨ 65 ≤ 4 ∧ 4 ≤ 69) ∨ 112 ≤ 77 ∧ 77 ≤ 114 ∧ 40 ≤ 4 ∨ 77 = 115 ∨ 77 = 116 by decide)
                    refine to_an (pc := 5) rw_152_5 rfl (to_an (pc := 6) rw_152_6 rfl ?_)
                    have c_348 : M345.2.1 77 10 = (M.2.1 77 10) := (W_n W344 (by decide) (W_e W340))
                    refine tt_gI (pc := 7) rw_152_7 (g_o hG346 rfl) (v := (M.2.1 77 10)) c_348 (s_pI (pc := 10) rw_152_10 hG346 rfl (fun M350 W349 => ?_))
                    have hG351 := g_wf hG346 W349 rfl rfl (by decide)
                    have F352 := FR.w F347 W349 (show 77 = 77 ∧ (5 = 4 ∨ 5 = 5 ∨ 7 ≤ 5 ∧ 5 ≤ 10) ∨ 77 = 77 ∧ (5 = 59 ∨ 65 ≤ 5 ∧ 5 ≤ 69) ∨ 112 ≤ 77 ∧ 77 ≤ 114 ∧ 40 ≤ 5 ∨ 77 = 115 ∨ 77 = 116 by decide)
                    refine to_c (pc := 13) rw_152_13 (x := (0 : Int32)) rfl rfl (s_r1 (pc := 14) rw_152_14 (A := 0) rfl (by decide) (s_r1 (pc := 193) rw_225_193 (A := 0) rfl (by decide) ?_))
                    have k_353 : (0 : Int32).toInt = 0 := rfl
                    have c_354 : M350.2.1 77 7 = (M57.2.1 77 7) := (W_n W349 (by decide) (W_n W344 (by decide) (W_n W340 (by decide) (F_n F259 (show ¬ (77 < 0) by decide) (F_n F249 (show ¬ (77 < 0) by decide) rfl)))))
                    have t_355 : (M350.2.1 77 7).toInt = (M57.2.1 77 7).toInt := congrArg Int32.toInt c_354
                    have c_356 : M350.2.1 77 6 = (M.2.1 77 6) := (W_n W349 (by decide) (W_n W344 (by decide) (W_n W340 (by decide) (F_n F259 (show ¬ (77 < 0) by decide) (F_n F249 (show ¬ (77 < 0) by decide) c_60)))))
                    have t_357 : (M350.2.1 77 6).toInt = (M.2.1 77 6).toInt := congrArg Int32.toInt c_356
                    have c_358 : M350.2.1 77 8 = (M57.2.1 77 8) := (W_n W349 (by decide) (W_n W344 (by decide) (W_n W340 (by decide) (F_n F259 (show ¬ (77 < 0) by decide) (F_n F249 (show ¬ (77 < 0) by decide) rfl)))))
                    have t_359 : (M350.2.1 77 8).toInt = (M57.2.1 77 8).toInt := congrArg Int32.toInt c_358
                    have c_360 : M350.2.1 77 4 = (4 : Int32) := (W_n W349 (by decide) (W_e W344))
                    have k_361 : (4 : Int32).toInt = 4 := rfl
                    have t_362 : (M350.2.1 77 4).toInt = (4 : Int32).toInt := congrArg Int32.toInt c_360
                    have c_363 : M350.2.1 77 5 = (M.2.1 77 10) := (W_e W349)
                    have t_364 : (M350.2.1 77 5).toInt = (M.2.1 77 10).toInt := congrArg Int32.toInt c_363
                    have c_365 : M350.2.1 77 67 = (M.2.1 77 67) := (W_n W349 (by decide) (W_n W344 (by decide) (W_n W340 (by decide) (F_n F259 (show ¬ (77 < 0) by decide) (F_n F249 (show ¬ (77 < 0) by decide) (F_n F51 (show ¬ (77 = 77 ∧ 7 ≤ 67 ∧ 67 ≤ 10) by decide) (W_n W34 (by decide) rfl)))))))
                    have t_366 : (M350.2.1 77 67).toInt = (M.2.1 77 67).toInt := congrArg Int32.toInt c_365
                    have c_367 : M350.2.1 77 69 = v32 := (W_n W349 (by decide) (W_n W344 (by decide) (W_n W340 (by decide) (F_n F259 (show ¬ (77 < 0) by decide) (F_n F249 (show ¬ (77 < 0) by decide) (F_n F51 (show ¬ (77 = 77 ∧ 7 ≤ 69 ∧ 69 ≤ 10) by decide) (W_e W34)))))))
                    have t_368 : (M350.2.1 77 69).toInt = v32.toInt := congrArg Int32.toInt c_367
                    exact h (0 : Int32) M350 hG351 F352 (by decide) (by decide) (by omega) (by omega) (by omega) (by omega) (fun z => absurd z (by omega)) (fun z => absurd z (by decide)) (fun z => absurd z (by decide)) (fun z => absurd z (by decide)) (fun _ => by first | exact inl_e (by omega) (by omega) ((q_nm (by omega) (by omega) (by omega) (by omega)).trans (qn_wx (by omega) (by omega))) | exact inl_e (by omega) (by omega) ((q_nm (by omega) (by omega) (by omega) (by omega)).trans (qn_vx (by omega) (by omega))))
                  · refine to_c (pc := 18) rw_179_18 (x := (1 : Int32)) rfl rfl (to_go (pc := 19) rw_179_19 (s_r1 (pc := 23) rw_179_23 (A := 1) rfl (by decide) (b_ine_t (pc := 172) rw_225_172 (A := 1) rfl (by decide) (to_an (pc := 194) rw_225_194 rfl (to_c (pc := 195) rw_225_195 (x := (1 : Int32)) rfl rfl (s_pI (pc := 196) rw_225_196 hG260 rfl (fun M370 W369 => ?_)))))))
                    have hG371 := g_w hG260 W369 (A := 1) rfl (lo := 0) (hi := 1) rfl rfl (by omega) (by decide)
                    have F372 := FR.w F265 W369 (show 77 = 77 ∧ (68 = 4 ∨ 68 = 5 ∨ 7 ≤ 68 ∧ 68 ≤ 10) ∨ 77 = 77 ∧ (68 = 59 ∨ 65 ≤ 68 ∧ 68 ≤ 69) ∨ 112 ≤ 77 ∧ 77 ≤ 114 ∧ 40 ≤ 68 ∨ 77 = 115 ∨ 77 = 116 by decide)
                    refine to_in (pc := 199) rw_225_199 rfl (b_ine_t (pc := 200) rw_225_200 (A := 1) rfl (by decide) (to_an (pc := 213) rw_225_213 rfl (s_v (pc := 214) rw_225_214 (dp0 hd (by decide)) (ls0 := [.ref 77]) rfl (Nat.le_of_ble_eq_true rfl) (Nat.le_of_ble_eq_true rfl) rfl (to_rc rfl rfl rfl (g_o hG371 rfl)) rfl ?_)))
                    have c_373 : M370.2.1 77 7 = (M57.2.1 77 7) := (W_n W369 (by decide) (F_n F259 (show ¬ (77 < 0) by decide) (F_n F249 (show ¬ (77 < 0) by decide) rfl)))
                    have t_374 : (M370.2.1 77 7).toInt = (M57.2.1 77 7).toInt := congrArg Int32.toInt c_373
                    have c_375 : M370.2.1 77 6 = (M.2.1 77 6) := (W_n W369 (by decide) (F_n F259 (show ¬ (77 < 0) by decide) (F_n F249 (show ¬ (77 < 0) by decide) c_60)))
                    have t_376 : (M370.2.1 77 6).toInt = (M.2.1 77 6).toInt := congrArg Int32.toInt c_375
                    have c_377 : M370.2.1 77 10 = (M57.2.1 77 10) := (W_n W369 (by decide) (F_n F259 (show ¬ (77 < 0) by decide) (F_n F249 (show ¬ (77 < 0) by decide) rfl)))
                    have t_378 : (M370.2.1 77 10).toInt = (M57.2.1 77 10).toInt := congrArg Int32.toInt c_377
                    have j_379 := (RS_f (fun a i z => W_n W369 (by /-r77-/ omega) rfl) (RS_f (fun a i z => F_n F259 (show ¬ (a < 0) by omega) rfl) (RS_f (fun a i z => F_n F249 (show ¬ (a < 0) by omega) rfl) p_56.1)))
                    have z_380 := RS_b j_379 (a := (x_ns t nn a)) (by omega)
                    have j_381 := (TR_f (fun a i z => W_n W369 (by /-r77-/ omega) rfl) (TR_f (fun a i z => F_n F259 (show ¬ (a < 0) by omega) rfl) (TR_f (fun a i z => F_n F249 (show ¬ (a < 0) by omega) rfl) (TR_f (fun a i z => F_n F51 (show ¬ (a = 77 ∧ 7 ≤ i ∧ i ≤ 10) by omega) rfl) j_49))))
                    have j_382 := (W9_f (fun a i z => W_n W369 (by /-r77-/ omega) rfl) (W9_f (fun a i z => F_n F259 (show ¬ (a < 0) by omega) rfl) (W9_f (fun a i z => F_n F249 (show ¬ (a < 0) by omega) rfl) (W9_f (fun a i z => F_n F51 (show ¬ (a = 77 ∧ 7 ≤ i ∧ i ≤ 10) by omega) rfl) j_50))))
                    refine E_156 hX (dp1 hd (by decide)) hG371 (by omega) (by omega) (by omega) (by omega) j_381 j_382  (fun M389 hG384 F383 p_385 p_386 p_387 p_388 => ?_)
                    have F390 := FR.c F372 F383 (fun a i z => show a = 77 ∧ (i = 4 ∨ i = 5 ∨ 7 ≤ i ∧ i ≤ 10) ∨ a = 77 ∧ (i = 59 ∨ 65 ≤ i ∧ i ≤ 69) ∨ 112 ≤ a ∧ a ≤ 114 ∧ 40 ≤ i ∨ a = 115 ∨ a = 116 by have z : a = 77 ∧ 7 ≤ i ∧ i ≤ 10 := z; omega)
                    have b_391 := g_b hG384 (a := 77) (i := 7) (lo := 0) (hi := 500) rfl rfl
                    have c_392 : M389.2.1 77 6 = (M.2.1 77 6) := (F_n F383 (show ¬ (77 = 77 ∧ 7 ≤ 6 ∧ 6 ≤ 10) by decide) c_375)
                    have t_393 : (M389.2.1 77 6).toInt = (M.2.1 77 6).toInt := congrArg Int32.toInt c_392
                    have b_394 := g_b hG384 (a := 77) (i := 8) (lo := 0) (hi := 5) rfl rfl
                    have b_395 := g_b hG384 (a := 77) (i := 10) (lo := 0) (hi := 500) rfl rfl
                    have z_396 := RS_s p_388.2 (a := (x_ns t nn a)) (by omega)
                    have c_397 := RS_u p_388.1 (a := (x_ns t nn (x_ns t nn a))) (by omega)
                    unfold x_R at c_397
                    refine to_an (pc := 217) rw_225_217 rfl (to_c (pc := 218) rw_225_218 (x := (0 : Int32)) rfl rfl (to_an (pc := 219) rw_225_219 rfl (s_gR (pc := 220) rw_225_220 hG384 rfl (v := 84) rfl (to_i (pc := 223) rw_225_223 rfl (s_ial (pc := 225) rw_225_225 hG384 rfl (n := 16) rfl rfl (A := r248.toInt) rfl (by omega) (by omega) (lo := 0) (hi := 24) rfl rfl (fun v398 w_399 _ _ => ?_))))))
                    have t_400 := congrArg Int32.toInt w_399
                    have j_402 := (FA_f (fun a i z => F_n F383 (show ¬ (a = 77 ∧ 7 ≤ i ∧ i ≤ 10) by omega) rfl) (FA_f (fun a i z => W_n W369 (by /-r77-/ omega) rfl) j_332))
                    have j_401 := FA_u j_402 (r248.toInt).toNat
                    have t_403 : (M389.2.1 81 (r248.toInt).toNat).toInt = (M.2.1 81 (r248.toInt).toNat).toInt := congrArg Int32.toInt (F_n F383 (show ¬ (81 = 77 ∧ 7 ≤ ((r248.toInt).toNat) ∧ ((r248.toInt).toNat) ≤ 10) by omega) (W_n W369 (by omega) (F_n F259 (show ¬ (81 < 0) by decide) (F_n F249 (show ¬ (81 < 0) by decide) (F_n F51 (show ¬ (81 = 77 ∧ 7 ≤ ((r248.toInt).toNat) ∧ ((r248.toInt).toNat) ≤ 10) by omega) (W_n W34 (by omega) rfl))))))
                    have t_404 : (M389.2.1 84 (r248.toInt).toNat).toInt = (M.2.1 84 (r248.toInt).toNat).toInt := congrArg Int32.toInt (F_n F383 (show ¬ (84 = 77 ∧ 7 ≤ ((r248.toInt).toNat) ∧ ((r248.toInt).toNat) ≤ 10) by omega) (W_n W369 (by omega) (F_n F259 (show ¬ (84 < 0) by decide) (F_n F249 (show ¬ (84 < 0) by decide) (F_n F51 (show ¬ (84 = 77 ∧ 7 ≤ ((r248.toInt).toNat) ∧ ((r248.toInt).toNat) ≤ 10) by omega) (W_n W34 (by omega) rfl))))))
                    have j_405 := (PLk_f (fun a i z => F_n F383 (show ¬ (a = 77 ∧ 7 ≤ i ∧ i ≤ 10) by omega) rfl) (PLk_f (fun a i z => W_n W369 (by /-r77-/ omega) rfl) j_336))
                    have z_406 := PLk_r j_405 5 84 rfl (by decide) (by decide) (k := r248.toInt) (by omega) (by omega) w_399
                    have z_407 := x_row_v (s := sg) (r := 5) (x := r248.toInt) (y := x_fn sg 1 (x_val t nn a)) (by omega)
                    refine to_c (pc := 226) rw_225_226 (x := (1 : Int32)) rfl rfl (s_sub (pc := 227) rw_225_227 (A := v398.toInt) (B := 1) rfl rfl (by omega) (fun v408 e409 => s_v (pc := 228) rw_225_228 (dp0 hd (by decide)) (ls0 := [.ref 77, .int (0 : Int32), .int v408]) rfl (Nat.le_of_ble_eq_true rfl) (Nat.le_of_ble_eq_true rfl) rfl (to_rc rfl rfl rfl (g_o hG384 rfl)) rfl (to_an (pc := 0) rw_162_0 rfl (tt_gI (pc := 1) rw_162_1 (g_o hG384 rfl) (v := (M389.2.1 77 8)) rfl (to_c (pc := 4) rw_162_4 (x := (3 : Int32)) rfl rfl (b_ceq (pc := 5) rw_162_5 (A := (M389.2.1 77 8).toInt) (B := 3) rfl rfl (fun h410 => ?_) (fun h410 => ?_)))))))
                    · refine to_an (pc := 14) rw_162_14 rfl (tt_gI (pc := 15) rw_162_15 (g_o hG384 rfl) (v := (M389.2.1 77 9)) rfl (to_in (pc := 18) rw_162_18 rfl (b_clt (pc := 19) rw_162_19 (A := (M389.2.1 77 9).toInt) (B := 0) rfl rfl (fun h411 => ?_) (fun h411 => ?_))))
                      · refine to_an (pc := 30) rw_162_30 rfl (to_c (pc := 31) rw_162_31 (x := (2 : Int32)) rfl rfl (s_v (pc := 32) rw_162_32 (dp1 hd (by decide)) (ls0 := [.ref 77, .int (2 : Int32)]) rfl (Nat.le_of_ble_eq_true rfl) (Nat.le_of_ble_eq_true rfl) rfl (to_rc rfl rfl rfl (g_o hG384 rfl)) rfl (to_an (pc := 0) rw_152_0 rfl (to_in (pc := 1) rw_152_1 rfl (s_pI (pc := 2) rw_152_2 hG384 rfl (fun M413 W412 => ?_))))))
                        have hG414 := g_wf hG384 W412 rfl rfl (by decide)
                        have F415 := FR.w F390 W412 (show 77 = 77 ∧ (4 = 4 ∨ 4 = 5 ∨ 7 ≤ 4 ∧ 4 ≤ 10) ∨ 77 = 77 ∧ (4 = 59 ∨ 65 ≤ 4 ∧ 4 ≤ 69) ∨ 112 ≤ 77 ∧ 77 ≤ 114 ∧ 40 ≤ 4 ∨ 77 = 115 ∨ 77 = 116 by decide)
                        refine to_an (pc := 5) rw_152_5 rfl (to_an (pc := 6) rw_152_6 rfl ?_)
                        have c_416 : M413.2.1 77 10 = (M389.2.1 77 10) := (W_n W412 (by decide) rfl)
                        refine tt_gI (pc := 7) rw_152_7 (g_o hG414 rfl) (v := (M389.2.1 77 10)) c_416 (s_pI (pc := 10) rw_152_10 hG414 rfl (fun M418 W417 => ?_))
                        have hG419 := g_wf hG414 W417 rfl rfl (by decide)
                        have F420 := FR.w F415 W417 (show 77 = 77 ∧ (5 = 4 ∨ 5 = 5 ∨ 7 ≤ 5 ∧ 5 ≤ 10) ∨ 77 = 77 ∧ (5 = 59 ∨ 65 ≤ 5 ∧ 5 ≤ 69) ∨ 112 ≤ 77 ∧ 77 ≤ 114 ∧ 40 ≤ 5 ∨ 77 = 115 ∨ 77 = 116 by decide)
                        refine to_c (pc := 13) rw_152_13 (x := (0 : Int32)) rfl rfl (s_r1 (pc := 14) rw_152_14 (A := 0) rfl (by decide) (b_ieq_t (pc := 35) rw_162_35 (A := 0) rfl (by decide) (to_c (pc := 42) rw_162_42 (x := (0 : Int32)) rfl rfl (s_r1 (pc := 43) rw_162_43 (A := 0) rfl (by decide) (b_ine_f (pc := 231) rw_225_231 (A := 0) rfl (by decide) (to_c (pc := 234) rw_225_234 (x := (0 : Int32)) rfl rfl (s_r1 (pc := 235) rw_225_235 (A := 0) rfl (by decide) ?_)))))))
                        have k_421 : (0 : Int32).toInt = 0 := rfl
                        have c_422 : M418.2.1 77 7 = (M389.2.1 77 7) := (W_n W417 (by decide) (W_n W412 (by decide) rfl))
                        have t_423 : (M418.2.1 77 7).toInt = (M389.2.1 77 7).toInt := congrArg Int32.toInt c_422
                        have c_424 : M418.2.1 77 6 = (M.2.1 77 6) := (W_n W417 (by decide) (W_n W412 (by decide) c_392))
                        have t_425 : (M418.2.1 77 6).toInt = (M.2.1 77 6).toInt := congrArg Int32.toInt c_424
                        have c_426 : M418.2.1 77 8 = (M389.2.1 77 8) := (W_n W417 (by decide) (W_n W412 (by decide) rfl))
                        have t_427 : (M418.2.1 77 8).toInt = (M389.2.1 77 8).toInt := congrArg Int32.toInt c_426
                        have c_428 : M418.2.1 77 4 = (2 : Int32) := (W_n W417 (by decide) (W_e W412))
                        have k_429 : (2 : Int32).toInt = 2 := rfl
                        have t_430 : (M418.2.1 77 4).toInt = (2 : Int32).toInt := congrArg Int32.toInt c_428
                        have c_431 : M418.2.1 77 5 = (M389.2.1 77 10) := (W_e W417)
                        have t_432 : (M418.2.1 77 5).toInt = (M389.2.1 77 10).toInt := congrArg Int32.toInt c_431
                        have c_433 : M418.2.1 77 67 = (M.2.1 77 67) := (W_n W417 (by decide) (W_n W412 (by decide) (F_n F383 (show ¬ (77 = 77 ∧ 7 ≤ 67 ∧ 67 ≤ 10) by decide) (W_n W369 (by decide) (F_n F259 (show ¬ (77 < 0) by decide) (F_n F249 (show ¬ (77 < 0) by decide) (F_n F51 (show ¬ (77 = 77 ∧ 7 ≤ 67 ∧ 67 ≤ 10) by decide) (W_n W34 (by decide) rfl))))))))
                        have t_434 : (M418.2.1 77 67).toInt = (M.2.1 77 67).toInt := congrArg Int32.toInt c_433
                        have c_435 : M418.2.1 77 69 = v32 := (W_n W417 (by decide) (W_n W412 (by decide) (F_n F383 (show ¬ (77 = 77 ∧ 7 ≤ 69 ∧ 69 ≤ 10) by decide) (W_n W369 (by decide) (F_n F259 (show ¬ (77 < 0) by decide) (F_n F249 (show ¬ (77 < 0) by decide) (F_n F51 (show ¬ (77 = 77 ∧ 7 ≤ 69 ∧ 69 ≤ 10) by decide) (W_e W34))))))))
                        have t_436 : (M418.2.1 77 69).toInt = v32.toInt := congrArg Int32.toInt c_435
                        exact h (0 : Int32) M418 hG419 F420 (by decide) (by decide) (by omega) (by omega) (by omega) (by omega) (fun z => absurd z (by omega)) (fun z => absurd z (by decide)) (fun z => absurd z (by decide)) (fun z => absurd z (by decide)) (fun _ => by first | exact inl_e (by omega) (by omega) ((q_nm (by omega) (by omega) (by omega) (by omega)).trans (qn_v1 (by omega) (by omega) (by omega))) | exact inl_e (by omega) (by omega) ((q_nm (by omega) (by omega) (by omega) (by omega)).trans (qn_v2 (by omega) (by omega) (by omega) (by omega))))
                      · refine to_an (pc := 22) rw_162_22 rfl (tt_gI (pc := 23) rw_162_23 (g_o hG384 rfl) (v := (M389.2.1 77 9)) rfl (to_in (pc := 26) rw_162_26 rfl (b_cle (pc := 27) rw_162_27 (A := (M389.2.1 77 9).toInt) (B := v408.toInt) rfl rfl (fun h437 => ?_) (fun h437 => ?_))))
                        · refine to_c (pc := 38) rw_162_38 (x := (1 : Int32)) rfl rfl (to_go (pc := 39) rw_162_39 (s_r1 (pc := 43) rw_162_43 (A := 1) rfl (by decide) (b_ine_t (pc := 231) rw_225_231 (A := 1) rfl (by decide) (to_an (pc := 236) rw_225_236 rfl (to_c (pc := 237) rw_225_237 (x := (0 : Int32)) rfl rfl (to_i (pc := 238) rw_225_238 rfl (to_an (pc := 240) rw_225_240 rfl (tt_gI (pc := 241) rw_225_241 (g_o hG384 rfl) (v := (M389.2.1 77 9)) rfl (s_v (pc := 244) rw_225_244 (dp0 hd (by decide)) (ls0 := [.ref 77, .int (0 : Int32), .int r248, .int (M389.2.1 77 9)]) rfl (Nat.le_of_ble_eq_true rfl) (Nat.le_of_ble_eq_true rfl) rfl (to_rc rfl rfl rfl (g_o hG384 rfl)) rfl ?_)))))))))
                          have k_438 : (0 : Int32).toInt = 0 := rfl
                          have c_439 : M389.2.1 77 59 = (M.2.1 77 59) := (F_n F383 (show ¬ (77 = 77 ∧ 7 ≤ 59 ∧ 59 ≤ 10) by decide) (W_n W369 (by decide) (F_n F259 (show ¬ (77 < 0) by decide) (F_n F249 (show ¬ (77 < 0) by decide) (F_n F51 (show ¬ (77 = 77 ∧ 7 ≤ 59 ∧ 59 ≤ 10) by decide) (W_n W34 (by decide) rfl))))))
                          have t_440 : (M389.2.1 77 59).toInt = (M.2.1 77 59).toInt := congrArg Int32.toInt c_439
                          have c_441 : M389.2.1 77 66 = (M.2.1 77 66) := (F_n F383 (show ¬ (77 = 77 ∧ 7 ≤ 66 ∧ 66 ≤ 10) by decide) (W_n W369 (by decide) (F_n F259 (show ¬ (77 < 0) by decide) (F_n F249 (show ¬ (77 < 0) by decide) (F_n F51 (show ¬ (77 = 77 ∧ 7 ≤ 66 ∧ 66 ≤ 10) by decide) (W_n W34 (by decide) rfl))))))
                          have t_442 : (M389.2.1 77 66).toInt = (M.2.1 77 66).toInt := congrArg Int32.toInt c_441
                          have t_443 : (M389.2.1 81 (r248.toInt).toNat).toInt = (M.2.1 81 (r248.toInt).toNat).toInt := congrArg Int32.toInt (F_n F383 (show ¬ (81 = 77 ∧ 7 ≤ ((r248.toInt).toNat) ∧ ((r248.toInt).toNat) ≤ 10) by omega) (W_n W369 (by omega) (F_n F259 (show ¬ (81 < 0) by decide) (F_n F249 (show ¬ (81 < 0) by decide) (F_n F51 (show ¬ (81 = 77 ∧ 7 ≤ ((r248.toInt).toNat) ∧ ((r248.toInt).toNat) ≤ 10) by omega) (W_n W34 (by omega) rfl))))))
                          refine C_221 hX (dp1 hd (by decide)) hG384 (by omega) (by omega) (by omega) (by omega) (by omega) (by omega) (by rw [(F_n F383 (show ¬ (77 = 77 ∧ 7 ≤ 59 ∧ 59 ≤ 10) by decide) (W_n W369 (by omega) (F_n F259 (show ¬ (77 < 0) by decide) (F_n F249 (show ¬ (77 < 0) by decide) (F_n F51 (show ¬ (77 = 77 ∧ 7 ≤ 59 ∧ 59 ≤ 10) by decide) (W_n W34 (by omega) rfl))))))]; exact KN_f (fun a i z => (F_n F383 (show ¬ (a = 77 ∧ 7 ≤ i ∧ i ≤ 10) by omega) (W_n W369 (by omega) (F_n F259 (show ¬ (a < 0) by omega) (F_n F249 (show ¬ (a < 0) by omega) (F_n F51 (show ¬ (a = 77 ∧ 7 ≤ i ∧ i ≤ 10) by omega) (W_n W34 (by omega) rfl))))))) q2.2.2) (by omega) (by omega) (by omega) (by omega) (k := (0 : Int32)) (p := r248) (o := (M389.2.1 77 9)) (fun M449 hG445 F444 p_446 p_447 p_448 => ?_)
                          have F450 := FR.c F390 F444 (fun a i z => show a = 77 ∧ (i = 4 ∨ i = 5 ∨ 7 ≤ i ∧ i ≤ 10) ∨ a = 77 ∧ (i = 59 ∨ 65 ≤ i ∧ i ≤ 69) ∨ 112 ≤ a ∧ a ≤ 114 ∧ 40 ≤ i ∨ a = 115 ∨ a = 116 by have z : a = 77 ∧ (i = 59 ∨ i = 66) ∨ 112 ≤ a ∧ a ≤ 114 ∧ 40 ≤ i ∨ a = 116 := z; omega)
                          have b_451 := g_b hG445 (a := 77) (i := 59) (lo := 0) (hi := 40) rfl rfl
                          have b_452 := g_b hG445 (a := 77) (i := 66) (lo := 0) (hi := 40) rfl rfl
                          refine to_an (pc := 247) rw_225_247 rfl (s_v (pc := 248) rw_225_248 (dp0 hd (by decide)) (ls0 := [.ref 77]) rfl (Nat.le_of_ble_eq_true rfl) (Nat.le_of_ble_eq_true rfl) rfl (to_rc rfl rfl rfl (g_o hG445 rfl)) rfl ?_)
                          have c_453 : M449.2.1 77 7 = (M389.2.1 77 7) := (F_n F444 (show ¬ (77 = 77 ∧ (7 = 59 ∨ 7 = 66) ∨ 112 ≤ 77 ∧ 77 ≤ 114 ∧ 40 ≤ 7 ∨ 77 = 116) by decide) rfl)
                          have t_454 : (M449.2.1 77 7).toInt = (M389.2.1 77 7).toInt := congrArg Int32.toInt c_453
                          have c_455 : M449.2.1 77 6 = (M.2.1 77 6) := (F_n F444 (show ¬ (77 = 77 ∧ (6 = 59 ∨ 6 = 66) ∨ 112 ≤ 77 ∧ 77 ≤ 114 ∧ 40 ≤ 6 ∨ 77 = 116) by decide) c_392)
                          have t_456 : (M449.2.1 77 6).toInt = (M.2.1 77 6).toInt := congrArg Int32.toInt c_455
                          have c_457 : M449.2.1 77 10 = (M389.2.1 77 10) := (F_n F444 (show ¬ (77 = 77 ∧ (10 = 59 ∨ 10 = 66) ∨ 112 ≤ 77 ∧ 77 ≤ 114 ∧ 40 ≤ 10 ∨ 77 = 116) by decide) rfl)
                          have t_458 : (M449.2.1 77 10).toInt = (M389.2.1 77 10).toInt := congrArg Int32.toInt c_457
                          have j_459 := (RS_f (fun a i z => F_n F444 (show ¬ (a = 77 ∧ (i = 59 ∨ i = 66) ∨ 112 ≤ a ∧ a ≤ 114 ∧ 40 ≤ i ∨ a = 116) by omega) rfl) p_388.1)
                          have z_460 := RS_b j_459 (a := (x_ns t nn (x_ns t nn a))) (by omega)
                          have j_461 := (TR_f (fun a i z => F_n F444 (show ¬ (a = 77 ∧ (i = 59 ∨ i = 66) ∨ 112 ≤ a ∧ a ≤ 114 ∧ 40 ≤ i ∨ a = 116) by omega) rfl) (TR_f (fun a i z => F_n F383 (show ¬ (a = 77 ∧ 7 ≤ i ∧ i ≤ 10) by omega) rfl) j_381))
                          have j_462 := (W9_f (fun a i z => F_n F444 (show ¬ (a = 77 ∧ (i = 59 ∨ i = 66) ∨ 112 ≤ a ∧ a ≤ 114 ∧ 40 ≤ i ∨ a = 116) by omega) rfl) (W9_f (fun a i z => F_n F383 (show ¬ (a = 77 ∧ 7 ≤ i ∧ i ≤ 10) by omega) rfl) j_382))
                          refine E_156 hX (dp1 hd (by decide)) hG445 (by omega) (by omega) (by omega) (by omega) j_461 j_462  (fun M469 hG464 F463 p_465 p_466 p_467 p_468 => ?_)
                          have F470 := FR.c F450 F463 (fun a i z => show a = 77 ∧ (i = 4 ∨ i = 5 ∨ 7 ≤ i ∧ i ≤ 10) ∨ a = 77 ∧ (i = 59 ∨ 65 ≤ i ∧ i ≤ 69) ∨ 112 ≤ a ∧ a ≤ 114 ∧ 40 ≤ i ∨ a = 115 ∨ a = 116 by have z : a = 77 ∧ 7 ≤ i ∧ i ≤ 10 := z; omega)
                          have b_471 := g_b hG464 (a := 77) (i := 7) (lo := 0) (hi := 500) rfl rfl
                          have c_472 : M469.2.1 77 6 = (M.2.1 77 6) := (F_n F463 (show ¬ (77 = 77 ∧ 7 ≤ 6 ∧ 6 ≤ 10) by decide) c_455)
                          have t_473 : (M469.2.1 77 6).toInt = (M.2.1 77 6).toInt := congrArg Int32.toInt c_472
                          have b_474 := g_b hG464 (a := 77) (i := 8) (lo := 0) (hi := 5) rfl rfl
                          have b_475 := g_b hG464 (a := 77) (i := 10) (lo := 0) (hi := 500) rfl rfl
                          have z_476 := RS_s p_468.2 (a := (x_ns t nn (x_ns t nn a))) (by omega)
                          refine to_c (pc := 251) rw_225_251 (x := (1 : Int32)) rfl rfl (s_r1 (pc := 252) rw_225_252 (A := 1) rfl (by decide) ?_)
                          have k_477 : (1 : Int32).toInt = 1 := rfl
                          have c_478 : M469.2.1 77 59 = (M449.2.1 77 59) := (F_n F463 (show ¬ (77 = 77 ∧ 7 ≤ 59 ∧ 59 ≤ 10) by decide) rfl)
                          have t_479 : (M469.2.1 77 59).toInt = (M449.2.1 77 59).toInt := congrArg Int32.toInt c_478
                          have c_480 : M469.2.1 77 65 = (M.2.1 77 65) := (F_n F463 (show ¬ (77 = 77 ∧ 7 ≤ 65 ∧ 65 ≤ 10) by decide) (F_n F444 (show ¬ (77 = 77 ∧ (65 = 59 ∨ 65 = 66) ∨ 112 ≤ 77 ∧ 77 ≤ 114 ∧ 40 ≤ 65 ∨ 77 = 116) by decide) (F_n F383 (show ¬ (77 = 77 ∧ 7 ≤ 65 ∧ 65 ≤ 10) by decide) (W_n W369 (by decide) (F_n F259 (show ¬ (77 < 0) by decide) (F_n F249 (show ¬ (77 < 0) by decide) (F_n F51 (show ¬ (77 = 77 ∧ 7 ≤ 65 ∧ 65 ≤ 10) by decide) (W_n W34 (by decide) rfl))))))))
                          have t_481 : (M469.2.1 77 65).toInt = (M.2.1 77 65).toInt := congrArg Int32.toInt c_480
                          have c_482 : M469.2.1 77 66 = (M449.2.1 77 66) := (F_n F463 (show ¬ (77 = 77 ∧ 7 ≤ 66 ∧ 66 ≤ 10) by decide) rfl)
                          have t_483 : (M469.2.1 77 66).toInt = (M449.2.1 77 66).toInt := congrArg Int32.toInt c_482
                          have c_484 : M469.2.1 77 67 = (M.2.1 77 67) := (F_n F463 (show ¬ (77 = 77 ∧ 7 ≤ 67 ∧ 67 ≤ 10) by decide) (F_n F444 (show ¬ (77 = 77 ∧ (67 = 59 ∨ 67 = 66) ∨ 112 ≤ 77 ∧ 77 ≤ 114 ∧ 40 ≤ 67 ∨ 77 = 116) by decide) (F_n F383 (show ¬ (77 = 77 ∧ 7 ≤ 67 ∧ 67 ≤ 10) by decide) (W_n W369 (by decide) (F_n F259 (show ¬ (77 < 0) by decide) (F_n F249 (show ¬ (77 < 0) by decide) (F_n F51 (show ¬ (77 = 77 ∧ 7 ≤ 67 ∧ 67 ≤ 10) by decide) (W_n W34 (by decide) rfl))))))))
                          have t_485 : (M469.2.1 77 67).toInt = (M.2.1 77 67).toInt := congrArg Int32.toInt c_484
                          have c_486 : M469.2.1 77 68 = (1 : Int32) := (F_n F463 (show ¬ (77 = 77 ∧ 7 ≤ 68 ∧ 68 ≤ 10) by decide) (F_n F444 (show ¬ (77 = 77 ∧ (68 = 59 ∨ 68 = 66) ∨ 112 ≤ 77 ∧ 77 ≤ 114 ∧ 40 ≤ 68 ∨ 77 = 116) by decide) (F_n F383 (show ¬ (77 = 77 ∧ 7 ≤ 68 ∧ 68 ≤ 10) by decide) (W_e W369))))
                          have t_487 : (M469.2.1 77 68).toInt = (1 : Int32).toInt := congrArg Int32.toInt c_486
                          have c_488 : M469.2.1 77 69 = v32 := (F_n F463 (show ¬ (77 = 77 ∧ 7 ≤ 69 ∧ 69 ≤ 10) by decide) (F_n F444 (show ¬ (77 = 77 ∧ (69 = 59 ∨ 69 = 66) ∨ 112 ≤ 77 ∧ 77 ≤ 114 ∧ 40 ≤ 69 ∨ 77 = 116) by decide) (F_n F383 (show ¬ (77 = 77 ∧ 7 ≤ 69 ∧ 69 ≤ 10) by decide) (W_n W369 (by decide) (F_n F259 (show ¬ (77 < 0) by decide) (F_n F249 (show ¬ (77 < 0) by decide) (F_n F51 (show ¬ (77 = 77 ∧ 7 ≤ 69 ∧ 69 ≤ 10) by decide) (W_e W34))))))))
                          have t_489 : (M469.2.1 77 69).toInt = v32.toInt := congrArg Int32.toInt c_488
                          have s_491 := Wx_f (M := M) (M1 := M469) ((M.2.1 77 65).toInt).toNat (fun i z => (F_n F463 (show ¬ (115 = 77 ∧ 7 ≤ i ∧ i ≤ 10) by omega) (F_n F444 (show ¬ (115 = 77 ∧ (i = 59 ∨ i = 66) ∨ 112 ≤ 115 ∧ 115 ≤ 114 ∧ 40 ≤ i ∨ 115 = 116) by omega) (F_n F383 (show ¬ (115 = 77 ∧ 7 ≤ i ∧ i ≤ 10) by omega) (W_n W369 (by omega) (F_n F259 (show ¬ (115 < 0) by decide) (F_n F249 (show ¬ (115 < 0) by decide) (F_n F51 (show ¬ (115 = 77 ∧ 7 ≤ i ∧ i ≤ 10) by omega) (W_n W34 (by omega) rfl)))))))))
                          have j_490 : QK M469 := QK_i (by unfold QK_c; rw [show ((M469.2.1 77 65).toInt).toNat = ((M.2.1 77 65).toInt).toNat by omega]; refine ⟨by omega, by omega, by omega, by omega⟩) (fun i z => by rw [(F_n F463 (show ¬ (115 = 77 ∧ 7 ≤ i ∧ i ≤ 10) by omega) (F_n F444 (show ¬ (115 = 77 ∧ (i = 59 ∨ i = 66) ∨ 112 ≤ 115 ∧ 115 ≤ 114 ∧ 40 ≤ i ∨ 115 = 116) by omega) (F_n F383 (show ¬ (115 = 77 ∧ 7 ≤ i ∧ i ≤ 10) by omega) (W_n W369 (by omega) (F_n F259 (show ¬ (115 < 0) by decide) (F_n F249 (show ¬ (115 < 0) by decide) (F_n F51 (show ¬ (115 = 77 ∧ 7 ≤ i ∧ i ≤ 10) by omega) (W_n W34 (by omega) rfl))))))))]; exact q2.2.1 i (by omega)) (by rw [(F_n F463 (show ¬ (77 = 77 ∧ 7 ≤ 59 ∧ 59 ≤ 10) by decide) rfl)]; exact KN_f (fun a i z => (F_n F463 (show ¬ (a = 77 ∧ 7 ≤ i ∧ i ≤ 10) by omega) rfl)) p_448)
                          exact h (1 : Int32) M469 hG464 F470 (by decide) (by decide) (by omega) (by omega) (by omega) (by omega) (fun _ => j_490) (fun _ => by rw [show ((M469.2.1 77 65).toInt).toNat = ((M.2.1 77 65).toInt).toNat by omega]; omega) (fun _ => p_468.1) (fun _ => ((q_nm (by omega) (by omega) (by omega) (by omega)).trans (qn_v (by omega) (by omega) (by omega) (by omega))).trans (q_w (by omega) (by omega) (by omega) (by omega))) (fun z => absurd z (by decide))
                        · refine to_an (pc := 30) rw_162_30 rfl (to_c (pc := 31) rw_162_31 (x := (2 : Int32)) rfl rfl (s_v (pc := 32) rw_162_32 (dp1 hd (by decide)) (ls0 := [.ref 77, .int (2 : Int32)]) rfl (Nat.le_of_ble_eq_true rfl) (Nat.le_of_ble_eq_true rfl) rfl (to_rc rfl rfl rfl (g_o hG384 rfl)) rfl (to_an (pc := 0) rw_152_0 rfl (to_in (pc := 1) rw_152_1 rfl (s_pI (pc := 2) rw_152_2 hG384 rfl (fun M493 W492 => ?_))))))
                          have hG494 := g_wf hG384 W492 rfl rfl (by decide)
                          have F495 := FR.w F390 W492 (show 77 = 77 ∧ (4 = 4 ∨ 4 = 5 ∨ 7 ≤ 4 ∧ 4 ≤ 10) ∨ 77 = 77 ∧ (4 = 59 ∨ 65 ≤ 4 ∧ 4 ≤ 69) ∨ 112 ≤ 77 ∧ 77 ≤ 114 ∧ 40 ≤ 4 ∨ 77 = 115 ∨ 77 = 116 by decide)
                          refine to_an (pc := 5) rw_152_5 rfl (to_an (pc := 6) rw_152_6 rfl ?_)
                          have c_496 : M493.2.1 77 10 = (M389.2.1 77 10) := (W_n W492 (by decide) rfl)
                          refine tt_gI (pc := 7) rw_152_7 (g_o hG494 rfl) (v := (M389.2.1 77 10)) c_496 (s_pI (pc := 10) rw_152_10 hG494 rfl (fun M498 W497 => ?_))
                          have hG499 := g_wf hG494 W497 rfl rfl (by decide)
                          have F500 := FR.w F495 W497 (show 77 = 77 ∧ (5 = 4 ∨ 5 = 5 ∨ 7 ≤ 5 ∧ 5 ≤ 10) ∨ 77 = 77 ∧ (5 = 59 ∨ 65 ≤ 5 ∧ 5 ≤ 69) ∨ 112 ≤ 77 ∧ 77 ≤ 114 ∧ 40 ≤ 5 ∨ 77 = 115 ∨ 77 = 116 by decide)
                          refine to_c (pc := 13) rw_152_13 (x := (0 : Int32)) rfl rfl (s_r1 (pc := 14) rw_152_14 (A := 0) rfl (by decide) (b_ieq_t (pc := 35) rw_162_35 (A := 0) rfl (by decide) (to_c (pc := 42) rw_162_42 (x := (0 : Int32)) rfl rfl (s_r1 (pc := 43) rw_162_43 (A := 0) rfl (by decide) (b_ine_f (pc := 231) rw_225_231 (A := 0) rfl (by decide) (to_c (pc := 234) rw_225_234 (x := (0 : Int32)) rfl rfl (s_r1 (pc := 235) rw_225_235 (A := 0) rfl (by decide) ?_)))))))
                          have k_501 : (0 : Int32).toInt = 0 := rfl
                          have c_502 : M498.2.1 77 7 = (M389.2.1 77 7) := (W_n W497 (by decide) (W_n W492 (by decide) rfl))
                          have t_503 : (M498.2.1 77 7).toInt = (M389.2.1 77 7).toInt := congrArg Int32.toInt c_502
                          have c_504 : M498.2.1 77 6 = (M.2.1 77 6) := (W_n W497 (by decide) (W_n W492 (by decide) c_392))
                          have t_505 : (M498.2.1 77 6).toInt = (M.2.1 77 6).toInt := congrArg Int32.toInt c_504
                          have c_506 : M498.2.1 77 8 = (M389.2.1 77 8) := (W_n W497 (by decide) (W_n W492 (by decide) rfl))
                          have t_507 : (M498.2.1 77 8).toInt = (M389.2.1 77 8).toInt := congrArg Int32.toInt c_506
                          have c_508 : M498.2.1 77 4 = (2 : Int32) := (W_n W497 (by decide) (W_e W492))
                          have k_509 : (2 : Int32).toInt = 2 := rfl
                          have t_510 : (M498.2.1 77 4).toInt = (2 : Int32).toInt := congrArg Int32.toInt c_508
                          have c_511 : M498.2.1 77 5 = (M389.2.1 77 10) := (W_e W497)
                          have t_512 : (M498.2.1 77 5).toInt = (M389.2.1 77 10).toInt := congrArg Int32.toInt c_511
                          have c_513 : M498.2.1 77 67 = (M.2.1 77 67) := (W_n W497 (by decide) (W_n W492 (by decide) (F_n F383 (show ¬ (77 = 77 ∧ 7 ≤ 67 ∧ 67 ≤ 10) by decide) (W_n W369 (by decide) (F_n F259 (show ¬ (77 < 0) by decide) (F_n F249 (show ¬ (77 < 0) by decide) (F_n F51 (show ¬ (77 = 77 ∧ 7 ≤ 67 ∧ 67 ≤ 10) by decide) (W_n W34 (by decide) rfl))))))))
                          have t_514 : (M498.2.1 77 67).toInt = (M.2.1 77 67).toInt := congrArg Int32.toInt c_513
                          have c_515 : M498.2.1 77 69 = v32 := (W_n W497 (by decide) (W_n W492 (by decide) (F_n F383 (show ¬ (77 = 77 ∧ 7 ≤ 69 ∧ 69 ≤ 10) by decide) (W_n W369 (by decide) (F_n F259 (show ¬ (77 < 0) by decide) (F_n F249 (show ¬ (77 < 0) by decide) (F_n F51 (show ¬ (77 = 77 ∧ 7 ≤ 69 ∧ 69 ≤ 10) by decide) (W_e W34))))))))
                          have t_516 : (M498.2.1 77 69).toInt = v32.toInt := congrArg Int32.toInt c_515
                          exact h (0 : Int32) M498 hG499 F500 (by decide) (by decide) (by omega) (by omega) (by omega) (by omega) (fun z => absurd z (by omega)) (fun z => absurd z (by decide)) (fun z => absurd z (by decide)) (fun z => absurd z (by decide)) (fun _ => by first | exact inl_e (by omega) (by omega) ((q_nm (by omega) (by omega) (by omega) (by omega)).trans (qn_v1 (by omega) (by omega) (by omega))) | exact inl_e (by omega) (by omega) ((q_nm (by omega) (by omega) (by omega) (by omega)).trans (qn_v2 (by omega) (by omega) (by omega) (by omega))))
                    · refine to_an (pc := 8) rw_162_8 rfl (to_c (pc := 9) rw_162_9 (x := (1 : Int32)) rfl rfl (s_v (pc := 10) rw_162_10 (dp1 hd (by decide)) (ls0 := [.ref 77, .int (1 : Int32)]) rfl (Nat.le_of_ble_eq_true rfl) (Nat.le_of_ble_eq_true rfl) rfl (to_rc rfl rfl rfl (g_o hG384 rfl)) rfl (to_an (pc := 0) rw_152_0 rfl (to_in (pc := 1) rw_152_1 rfl (s_pI (pc := 2) rw_152_2 hG384 rfl (fun M518 W517 => ?_))))))
                      have hG519 := g_wf hG384 W517 rfl rfl (by decide)
                      have F520 := FR.w F390 W517 (show 77 = 77 ∧ (4 = 4 ∨ 4 = 5 ∨ 7 ≤ 4 ∧ 4 ≤ 10) ∨ 77 = 77 ∧ (4 = 59 ∨ 65 ≤ 4 ∧ 4 ≤ 69) ∨ 112 ≤ 77 ∧ 77 ≤ 114 ∧ 40 ≤ 4 ∨ 77 = 115 ∨ 77 = 116 by decide)
                      refine to_an (pc := 5) rw_152_5 rfl (to_an (pc := 6) rw_152_6 rfl ?_)
                      have c_521 : M518.2.1 77 10 = (M389.2.1 77 10) := (W_n W517 (by decide) rfl)
                      refine tt_gI (pc := 7) rw_152_7 (g_o hG519 rfl) (v := (M389.2.1 77 10)) c_521 (s_pI (pc := 10) rw_152_10 hG519 rfl (fun M523 W522 => ?_))
                      have hG524 := g_wf hG519 W522 rfl rfl (by decide)
                      have F525 := FR.w F520 W522 (show 77 = 77 ∧ (5 = 4 ∨ 5 = 5 ∨ 7 ≤ 5 ∧ 5 ≤ 10) ∨ 77 = 77 ∧ (5 = 59 ∨ 65 ≤ 5 ∧ 5 ≤ 69) ∨ 112 ≤ 77 ∧ 77 ≤ 114 ∧ 40 ≤ 5 ∨ 77 = 115 ∨ 77 = 116 by decide)
                      refine to_c (pc := 13) rw_152_13 (x := (0 : Int32)) rfl rfl (s_r1 (pc := 14) rw_152_14 (A := 0) rfl (by decide) (s_r1 (pc := 13) rw_162_13 (A := 0) rfl (by decide) (b_ine_f (pc := 231) rw_225_231 (A := 0) rfl (by decide) (to_c (pc := 234) rw_225_234 (x := (0 : Int32)) rfl rfl (s_r1 (pc := 235) rw_225_235 (A := 0) rfl (by decide) ?_)))))
                      have k_526 : (0 : Int32).toInt = 0 := rfl
                      have c_527 : M523.2.1 77 7 = (M389.2.1 77 7) := (W_n W522 (by decide) (W_n W517 (by decide) rfl))
                      have t_528 : (M523.2.1 77 7).toInt = (M389.2.1 77 7).toInt := congrArg Int32.toInt c_527
                      have c_529 : M523.2.1 77 6 = (M.2.1 77 6) := (W_n W522 (by decide) (W_n W517 (by decide) c_392))
                      have t_530 : (M523.2.1 77 6).toInt = (M.2.1 77 6).toInt := congrArg Int32.toInt c_529
                      have c_531 : M523.2.1 77 8 = (M389.2.1 77 8) := (W_n W522 (by decide) (W_n W517 (by decide) rfl))
                      have t_532 : (M523.2.1 77 8).toInt = (M389.2.1 77 8).toInt := congrArg Int32.toInt c_531
                      have c_533 : M523.2.1 77 4 = (1 : Int32) := (W_n W522 (by decide) (W_e W517))
                      have k_534 : (1 : Int32).toInt = 1 := rfl
                      have t_535 : (M523.2.1 77 4).toInt = (1 : Int32).toInt := congrArg Int32.toInt c_533
                      have c_536 : M523.2.1 77 5 = (M389.2.1 77 10) := (W_e W522)
                      have t_537 : (M523.2.1 77 5).toInt = (M389.2.1 77 10).toInt := congrArg Int32.toInt c_536
                      have c_538 : M523.2.1 77 67 = (M.2.1 77 67) := (W_n W522 (by decide) (W_n W517 (by decide) (F_n F383 (show ¬ (77 = 77 ∧ 7 ≤ 67 ∧ 67 ≤ 10) by decide) (W_n W369 (by decide) (F_n F259 (show ¬ (77 < 0) by decide) (F_n F249 (show ¬ (77 < 0) by decide) (F_n F51 (show ¬ (77 = 77 ∧ 7 ≤ 67 ∧ 67 ≤ 10) by decide) (W_n W34 (by decide) rfl))))))))
                      have t_539 : (M523.2.1 77 67).toInt = (M.2.1 77 67).toInt := congrArg Int32.toInt c_538
                      have c_540 : M523.2.1 77 69 = v32 := (W_n W522 (by decide) (W_n W517 (by decide) (F_n F383 (show ¬ (77 = 77 ∧ 7 ≤ 69 ∧ 69 ≤ 10) by decide) (W_n W369 (by decide) (F_n F259 (show ¬ (77 < 0) by decide) (F_n F249 (show ¬ (77 < 0) by decide) (F_n F51 (show ¬ (77 = 77 ∧ 7 ≤ 69 ∧ 69 ≤ 10) by decide) (W_e W34))))))))
                      have t_541 : (M523.2.1 77 69).toInt = v32.toInt := congrArg Int32.toInt c_540
                      exact h (0 : Int32) M523 hG524 F525 (by decide) (by decide) (by omega) (by omega) (by omega) (by omega) (fun z => absurd z (by omega)) (fun z => absurd z (by decide)) (fun z => absurd z (by decide)) (fun z => absurd z (by decide)) (fun _ => by first | exact inl_e (by omega) (by omega) ((q_nm (by omega) (by omega) (by omega) (by omega)).trans (qn_v1 (by omega) (by omega) (by omega))) | exact inl_e (by omega) (by omega) ((q_nm (by omega) (by omega) (by omega) (by omega)).trans (qn_v2 (by omega) (by omega) (by omega) (by omega))))
        · refine to_an (pc := 9) rw_224_9 rfl (to_c (pc := 10) rw_224_10 (x := (2 : Int32)) rfl rfl (s_v (pc := 11) rw_224_11 (dp1 hd (by decide)) (ls0 := [.ref 77, .int (2 : Int32)]) rfl (Nat.le_of_ble_eq_true rfl) (Nat.le_of_ble_eq_true rfl) rfl (to_rc rfl rfl rfl (g_o hG rfl)) rfl (to_an (pc := 0) rw_152_0 rfl (to_in (pc := 1) rw_152_1 rfl (s_pI (pc := 2) rw_152_2 hG rfl (fun M543 W542 => ?_))))))
          have hG544 := g_wf hG W542 rfl rfl (by decide)
          have F545 := FR.w F0 W542 (show 77 = 77 ∧ (4 = 4 ∨ 4 = 5 ∨ 7 ≤ 4 ∧ 4 ≤ 10) ∨ 77 = 77 ∧ (4 = 59 ∨ 65 ≤ 4 ∧ 4 ≤ 69) ∨ 112 ≤ 77 ∧ 77 ≤ 114 ∧ 40 ≤ 4 ∨ 77 = 115 ∨ 77 = 116 by decide)
          refine to_an (pc := 5) rw_152_5 rfl (to_an (pc := 6) rw_152_6 rfl ?_)
          have c_546 : M543.2.1 77 10 = (M.2.1 77 10) := (W_n W542 (by decide) rfl)
          refine tt_gI (pc := 7) rw_152_7 (g_o hG544 rfl) (v := (M.2.1 77 10)) c_546 (s_pI (pc := 10) rw_152_10 hG544 rfl (fun M548 W547 => ?_))
          have hG549 := g_wf hG544 W547 rfl rfl (by decide)
          have F550 := FR.w F545 W547 (show 77 = 77 ∧ (5 = 4 ∨ 5 = 5 ∨ 7 ≤ 5 ∧ 5 ≤ 10) ∨ 77 = 77 ∧ (5 = 59 ∨ 65 ≤ 5 ∧ 5 ≤ 69) ∨ 112 ≤ 77 ∧ 77 ≤ 114 ∧ 40 ≤ 5 ∨ 77 = 115 ∨ 77 = 116 by decide)
          refine to_c (pc := 13) rw_152_13 (x := (0 : Int32)) rfl rfl (s_r1 (pc := 14) rw_152_14 (A := 0) rfl (by decide) (s_r1 (pc := 14) rw_224_14 (A := 0) rfl (by decide) (b_ine_f (pc := 122) rw_225_122 (A := 0) rfl (by decide) (to_c (pc := 125) rw_225_125 (x := (0 : Int32)) rfl rfl (s_r1 (pc := 126) rw_225_126 (A := 0) rfl (by decide) ?_)))))
          have k_551 : (0 : Int32).toInt = 0 := rfl
          have c_552 : M548.2.1 77 7 = (M.2.1 77 7) := (W_n W547 (by decide) (W_n W542 (by decide) rfl))
          have t_553 : (M548.2.1 77 7).toInt = (M.2.1 77 7).toInt := congrArg Int32.toInt c_552
          have c_554 : M548.2.1 77 6 = (M.2.1 77 6) := (W_n W547 (by decide) (W_n W542 (by decide) rfl))
          have t_555 : (M548.2.1 77 6).toInt = (M.2.1 77 6).toInt := congrArg Int32.toInt c_554
          have c_556 : M548.2.1 77 8 = (M.2.1 77 8) := (W_n W547 (by decide) (W_n W542 (by decide) rfl))
          have t_557 : (M548.2.1 77 8).toInt = (M.2.1 77 8).toInt := congrArg Int32.toInt c_556
          have c_558 : M548.2.1 77 4 = (2 : Int32) := (W_n W547 (by decide) (W_e W542))
          have k_559 : (2 : Int32).toInt = 2 := rfl
          have t_560 : (M548.2.1 77 4).toInt = (2 : Int32).toInt := congrArg Int32.toInt c_558
          have c_561 : M548.2.1 77 5 = (M.2.1 77 10) := (W_e W547)
          have t_562 : (M548.2.1 77 5).toInt = (M.2.1 77 10).toInt := congrArg Int32.toInt c_561
          have c_563 : M548.2.1 77 67 = (M.2.1 77 67) := (W_n W547 (by decide) (W_n W542 (by decide) rfl))
          have t_564 : (M548.2.1 77 67).toInt = (M.2.1 77 67).toInt := congrArg Int32.toInt c_563
          have c_565 : M548.2.1 77 69 = (M.2.1 77 69) := (W_n W547 (by decide) (W_n W542 (by decide) rfl))
          have t_566 : (M548.2.1 77 69).toInt = (M.2.1 77 69).toInt := congrArg Int32.toInt c_565
          exact h (0 : Int32) M548 hG549 F550 (by decide) (by decide) (by omega) (by omega) (by omega) (by omega) (fun z => absurd z (by omega)) (fun z => absurd z (by decide)) (fun z => absurd z (by decide)) (fun z => absurd z (by decide)) (fun _ => by first | exact inl_e (by omega) (by omega) (q_lpx (by omega) (by omega) (by omega) (by omega)) | exact inl_e (by omega) (by omega) (q_nox (by omega) (by omega) (by omega) (by omega)) | exact inl_e (by omega) (by omega) (q_nmx (by omega) (by omega) (by omega) (by omega)) | exact inl_e (by omega) (by omega) (q_0x (by omega) (by omega) (by omega) (by omega) (by omega)))
      · refine to_an (pc := 112) rw_225_112 rfl (to_c (pc := 113) rw_225_113 (x := (1 : Int32)) rfl rfl (s_v (pc := 114) rw_225_114 (dp0 hd (by decide)) (ls0 := [.ref 77, .int (1 : Int32)]) rfl (Nat.le_of_ble_eq_true rfl) (Nat.le_of_ble_eq_true rfl) rfl (to_rc rfl rfl rfl (g_o hG rfl)) rfl (to_an (pc := 0) rw_152_0 rfl (to_in (pc := 1) rw_152_1 rfl (s_pI (pc := 2) rw_152_2 hG rfl (fun M568 W567 => ?_))))))
        have hG569 := g_wf hG W567 rfl rfl (by decide)
        have F570 := FR.w F0 W567 (show 77 = 77 ∧ (4 = 4 ∨ 4 = 5 ∨ 7 ≤ 4 ∧ 4 ≤ 10) ∨ 77 = 77 ∧ (4 = 59 ∨ 65 ≤ 4 ∧ 4 ≤ 69) ∨ 112 ≤ 77 ∧ 77 ≤ 114 ∧ 40 ≤ 4 ∨ 77 = 115 ∨ 77 = 116 by decide)
        refine to_an (pc := 5) rw_152_5 rfl (to_an (pc := 6) rw_152_6 rfl ?_)
        have c_571 : M568.2.1 77 10 = (M.2.1 77 10) := (W_n W567 (by decide) rfl)
        refine tt_gI (pc := 7) rw_152_7 (g_o hG569 rfl) (v := (M.2.1 77 10)) c_571 (s_pI (pc := 10) rw_152_10 hG569 rfl (fun M573 W572 => ?_))
        have hG574 := g_wf hG569 W572 rfl rfl (by decide)
        have F575 := FR.w F570 W572 (show 77 = 77 ∧ (5 = 4 ∨ 5 = 5 ∨ 7 ≤ 5 ∧ 5 ≤ 10) ∨ 77 = 77 ∧ (5 = 59 ∨ 65 ≤ 5 ∧ 5 ≤ 69) ∨ 112 ≤ 77 ∧ 77 ≤ 114 ∧ 40 ≤ 5 ∨ 77 = 115 ∨ 77 = 116 by decide)
        refine to_c (pc := 13) rw_152_13 (x := (0 : Int32)) rfl rfl (s_r1 (pc := 14) rw_152_14 (A := 0) rfl (by decide) (s_r1 (pc := 117) rw_225_117 (A := 0) rfl (by decide) ?_))
        have k_576 : (0 : Int32).toInt = 0 := rfl
        have c_577 : M573.2.1 77 7 = (M.2.1 77 7) := (W_n W572 (by decide) (W_n W567 (by decide) rfl))
        have t_578 : (M573.2.1 77 7).toInt = (M.2.1 77 7).toInt := congrArg Int32.toInt c_577
        have c_579 : M573.2.1 77 6 = (M.2.1 77 6) := (W_n W572 (by decide) (W_n W567 (by decide) rfl))
        have t_580 : (M573.2.1 77 6).toInt = (M.2.1 77 6).toInt := congrArg Int32.toInt c_579
        have c_581 : M573.2.1 77 8 = (M.2.1 77 8) := (W_n W572 (by decide) (W_n W567 (by decide) rfl))
        have t_582 : (M573.2.1 77 8).toInt = (M.2.1 77 8).toInt := congrArg Int32.toInt c_581
        have c_583 : M573.2.1 77 4 = (1 : Int32) := (W_n W572 (by decide) (W_e W567))
        have k_584 : (1 : Int32).toInt = 1 := rfl
        have t_585 : (M573.2.1 77 4).toInt = (1 : Int32).toInt := congrArg Int32.toInt c_583
        have c_586 : M573.2.1 77 5 = (M.2.1 77 10) := (W_e W572)
        have t_587 : (M573.2.1 77 5).toInt = (M.2.1 77 10).toInt := congrArg Int32.toInt c_586
        have c_588 : M573.2.1 77 67 = (M.2.1 77 67) := (W_n W572 (by decide) (W_n W567 (by decide) rfl))
        have t_589 : (M573.2.1 77 67).toInt = (M.2.1 77 67).toInt := congrArg Int32.toInt c_588
        have c_590 : M573.2.1 77 69 = (M.2.1 77 69) := (W_n W572 (by decide) (W_n W567 (by decide) rfl))
        have t_591 : (M573.2.1 77 69).toInt = (M.2.1 77 69).toInt := congrArg Int32.toInt c_590
        exact h (0 : Int32) M573 hG574 F575 (by decide) (by decide) (by omega) (by omega) (by omega) (by omega) (fun z => absurd z (by omega)) (fun z => absurd z (by decide)) (fun z => absurd z (by decide)) (fun z => absurd z (by decide)) (fun _ => by first | exact inl_e (by omega) (by omega) (q_lpx (by omega) (by omega) (by omega) (by omega)) | exact inl_e (by omega) (by omega) (q_nox (by omega) (by omega) (by omega) (by omega)) | exact inl_e (by omega) (by omega) (q_nmx (by omega) (by omega) (by omega) (by omega)) | exact inl_e (by omega) (by omega) (q_0x (by omega) (by omega) (by omega) (by omega) (by omega)))
    · refine to_an (pc := 8) rw_158_8 rfl (tt_gI (pc := 9) rw_158_9 (g_o hG rfl) (v := (M.2.1 77 9)) rfl (to_in (pc := 12) rw_158_12 rfl (b_cne (pc := 13) rw_158_13 (A := (M.2.1 77 9).toInt) (B := 14) rfl rfl (fun h592 => ?_) (fun h592 => ?_))))
      · refine to_c (pc := 20) rw_158_20 (x := (0 : Int32)) rfl rfl (s_r1 (pc := 21) rw_158_21 (A := 0) rfl (by decide) (b_ieq_t (pc := 66) rw_225_66 (A := 0) rfl (by decide) (to_an (pc := 104) rw_225_104 rfl (tt_gI (pc := 105) rw_225_105 (g_o hG rfl) (v := (M.2.1 77 8)) rfl (to_c (pc := 108) rw_225_108 (x := (2 : Int32)) rfl rfl (b_ceq_f (pc := 109) rw_225_109 (A := (M.2.1 77 8).toInt) (B := 2) rfl rfl (by omega) (to_an (pc := 112) rw_225_112 rfl (to_c (pc := 113) rw_225_113 (x := (1 : Int32)) rfl rfl (s_v (pc := 114) rw_225_114 (dp0 hd (by decide)) (ls0 := [.ref 77, .int (1 : Int32)]) rfl (Nat.le_of_ble_eq_true rfl) (Nat.le_of_ble_eq_true rfl) rfl (to_rc rfl rfl rfl (g_o hG rfl)) rfl (to_an (pc := 0) rw_152_0 rfl (to_in (pc := 1) rw_152_1 rfl ?_)))))))))))
        refine s_pI (pc := 2) rw_152_2 hG rfl (fun M594 W593 => ?_)
        have hG595 := g_wf hG W593 rfl rfl (by decide)
        have F596 := FR.w F0 W593 (show 77 = 77 ∧ (4 = 4 ∨ 4 = 5 ∨ 7 ≤ 4 ∧ 4 ≤ 10) ∨ 77 = 77 ∧ (4 = 59 ∨ 65 ≤ 4 ∧ 4 ≤ 69) ∨ 112 ≤ 77 ∧ 77 ≤ 114 ∧ 40 ≤ 4 ∨ 77 = 115 ∨ 77 = 116 by decide)
        refine to_an (pc := 5) rw_152_5 rfl (to_an (pc := 6) rw_152_6 rfl ?_)
        have c_597 : M594.2.1 77 10 = (M.2.1 77 10) := (W_n W593 (by decide) rfl)
        refine tt_gI (pc := 7) rw_152_7 (g_o hG595 rfl) (v := (M.2.1 77 10)) c_597 (s_pI (pc := 10) rw_152_10 hG595 rfl (fun M599 W598 => ?_))
        have hG600 := g_wf hG595 W598 rfl rfl (by decide)
        have F601 := FR.w F596 W598 (show 77 = 77 ∧ (5 = 4 ∨ 5 = 5 ∨ 7 ≤ 5 ∧ 5 ≤ 10) ∨ 77 = 77 ∧ (5 = 59 ∨ 65 ≤ 5 ∧ 5 ≤ 69) ∨ 112 ≤ 77 ∧ 77 ≤ 114 ∧ 40 ≤ 5 ∨ 77 = 115 ∨ 77 = 116 by decide)
        refine to_c (pc := 13) rw_152_13 (x := (0 : Int32)) rfl rfl (s_r1 (pc := 14) rw_152_14 (A := 0) rfl (by decide) (s_r1 (pc := 117) rw_225_117 (A := 0) rfl (by decide) ?_))
        have k_602 : (0 : Int32).toInt = 0 := rfl
        have c_603 : M599.2.1 77 7 = (M.2.1 77 7) := (W_n W598 (by decide) (W_n W593 (by decide) rfl))
        have t_604 : (M599.2.1 77 7).toInt = (M.2.1 77 7).toInt := congrArg Int32.toInt c_603
        have c_605 : M599.2.1 77 6 = (M.2.1 77 6) := (W_n W598 (by decide) (W_n W593 (by decide) rfl))
        have t_606 : (M599.2.1 77 6).toInt = (M.2.1 77 6).toInt := congrArg Int32.toInt c_605
        have c_607 : M599.2.1 77 8 = (M.2.1 77 8) := (W_n W598 (by decide) (W_n W593 (by decide) rfl))
        have t_608 : (M599.2.1 77 8).toInt = (M.2.1 77 8).toInt := congrArg Int32.toInt c_607
        have c_609 : M599.2.1 77 4 = (1 : Int32) := (W_n W598 (by decide) (W_e W593))
        have k_610 : (1 : Int32).toInt = 1 := rfl
        have t_611 : (M599.2.1 77 4).toInt = (1 : Int32).toInt := congrArg Int32.toInt c_609
        have c_612 : M599.2.1 77 5 = (M.2.1 77 10) := (W_e W598)
        have t_613 : (M599.2.1 77 5).toInt = (M.2.1 77 10).toInt := congrArg Int32.toInt c_612
        have c_614 : M599.2.1 77 67 = (M.2.1 77 67) := (W_n W598 (by decide) (W_n W593 (by decide) rfl))
        have t_615 : (M599.2.1 77 67).toInt = (M.2.1 77 67).toInt := congrArg Int32.toInt c_614
        have c_616 : M599.2.1 77 69 = (M.2.1 77 69) := (W_n W598 (by decide) (W_n W593 (by decide) rfl))
        have t_617 : (M599.2.1 77 69).toInt = (M.2.1 77 69).toInt := congrArg Int32.toInt c_616
        exact h (0 : Int32) M599 hG600 F601 (by decide) (by decide) (by omega) (by omega) (by omega) (by omega) (fun z => absurd z (by omega)) (fun z => absurd z (by decide)) (fun z => absurd z (by decide)) (fun z => absurd z (by decide)) (fun _ => by first | exact inl_e (by omega) (by omega) (q_lpx (by omega) (by omega) (by omega) (by omega)) | exact inl_e (by omega) (by omega) (q_nox (by omega) (by omega) (by omega) (by omega)) | exact inl_e (by omega) (by omega) (q_nmx (by omega) (by omega) (by omega) (by omega)) | exact inl_e (by omega) (by omega) (q_0x (by omega) (by omega) (by omega) (by omega) (by omega)))
      · refine to_c (pc := 16) rw_158_16 (x := (1 : Int32)) rfl rfl (to_go (pc := 17) rw_158_17 (s_r1 (pc := 21) rw_158_21 (A := 1) rfl (by decide) (b_ieq_f (pc := 66) rw_225_66 (A := 1) rfl (by decide) (to_an (pc := 69) rw_225_69 rfl (s_v (pc := 70) rw_225_70 (dp0 hd (by decide)) (ls0 := [.ref 77]) rfl (Nat.le_of_ble_eq_true rfl) (Nat.le_of_ble_eq_true rfl) rfl (to_rc rfl rfl rfl (g_o hG rfl)) rfl (to_an (pc := 0) rw_224_0 rfl (tt_gI (pc := 1) rw_224_1 (g_o hG rfl) (v := (M.2.1 77 69)) rfl (to_c (pc := 4) rw_224_4 (x := (40 : Int32)) rfl rfl (b_cne (pc := 6) rw_224_6 (A := (M.2.1 77 69).toInt) (B := 40) rfl rfl (fun h618 => ?_) (fun h618 => ?_))))))))))
        · refine to_an (pc := 15) rw_224_15 rfl (to_dupr (pc := 16) rw_224_16 (tt_gI (pc := 17) rw_224_17 (g_o hG rfl) (v := (M.2.1 77 69)) rfl (to_c (pc := 20) rw_224_20 (x := (1 : Int32)) rfl rfl (s_add (pc := 21) rw_224_21 (A := (M.2.1 77 69).toInt) (B := 1) rfl rfl (by omega) (fun v619 e620 => s_pI (pc := 22) rw_224_22 hG rfl (fun M622 W621 => ?_))))))
          have hG623 := g_w hG W621 (A := v619.toInt) rfl (lo := 0) (hi := 40) rfl rfl (by omega) (by decide)
          have F624 := FR.w F0 W621 (show 77 = 77 ∧ (69 = 4 ∨ 69 = 5 ∨ 7 ≤ 69 ∧ 69 ≤ 10) ∨ 77 = 77 ∧ (69 = 59 ∨ 65 ≤ 69 ∧ 69 ≤ 69) ∨ 112 ≤ 77 ∧ 77 ≤ 114 ∧ 40 ≤ 69 ∨ 77 = 115 ∨ 77 = 116 by decide)
          refine to_c (pc := 25) rw_224_25 (x := (1 : Int32)) rfl rfl (s_r1 (pc := 26) rw_224_26 (A := 1) rfl (by decide) (b_ine_t (pc := 73) rw_225_73 (A := 1) rfl (by decide) (to_an (pc := 78) rw_225_78 rfl (s_gR (pc := 79) rw_225_79 hG623 rfl (v := 115) rfl (to_an (pc := 82) rw_225_82 rfl ?_)))))
          have c_625 : M622.2.1 77 65 = (M.2.1 77 65) := (W_n W621 (by decide) rfl)
          refine tt_gI (pc := 83) rw_225_83 (g_o hG623 rfl) (v := (M.2.1 77 65)) c_625 (to_c (pc := 86) rw_225_86 (x := (2 : Int32)) rfl rfl (s_ias (pc := 87) rw_225_87 hG623 rfl (n := 64) rfl (A := (M.2.1 77 65).toInt) rfl (by omega) (by omega) (fun M627 W626 => ?_)))
          have hG628 := g_w hG623 W626 (A := 2) rfl (lo := 0) (hi := 4) rfl rfl (by omega) (by decide)
          have F629 := FR.w F624 W626 (show 115 = 77 ∧ (((M.2.1 77 65).toInt).toNat = 4 ∨ ((M.2.1 77 65).toInt).toNat = 5 ∨ 7 ≤ ((M.2.1 77 65).toInt).toNat ∧ ((M.2.1 77 65).toInt).toNat ≤ 10) ∨ 115 = 77 ∧ (((M.2.1 77 65).toInt).toNat = 59 ∨ 65 ≤ ((M.2.1 77 65).toInt).toNat ∧ ((M.2.1 77 65).toInt).toNat ≤ 69) ∨ 112 ≤ 115 ∧ 115 ≤ 114 ∧ 40 ≤ ((M.2.1 77 65).toInt).toNat ∨ 115 = 115 ∨ 115 = 116 by omega)
          refine to_an (pc := 88) rw_225_88 rfl (to_dupr (pc := 89) rw_225_89 ?_)
          have c_630 : M627.2.1 77 65 = (M.2.1 77 65) := (W_n W626 (fun z => absurd z.1 (by decide)) c_625)
          refine tt_gI (pc := 90) rw_225_90 (g_o hG628 rfl) (v := (M.2.1 77 65)) c_630 (to_c (pc := 93) rw_225_93 (x := (1 : Int32)) rfl rfl (s_add (pc := 94) rw_225_94 (A := (M.2.1 77 65).toInt) (B := 1) rfl rfl (by omega) (fun v631 e632 => s_pI (pc := 95) rw_225_95 hG628 rfl (fun M634 W633 => ?_))))
          have hG635 := g_w hG628 W633 (A := v631.toInt) rfl (lo := 0) (hi := 48) rfl rfl (by omega) (by decide)
          have F636 := FR.w F629 W633 (show 77 = 77 ∧ (65 = 4 ∨ 65 = 5 ∨ 7 ≤ 65 ∧ 65 ≤ 10) ∨ 77 = 77 ∧ (65 = 59 ∨ 65 ≤ 65 ∧ 65 ≤ 69) ∨ 112 ≤ 77 ∧ 77 ≤ 114 ∧ 40 ≤ 65 ∨ 77 = 115 ∨ 77 = 116 by decide)
          refine to_an (pc := 98) rw_225_98 rfl (s_v (pc := 99) rw_225_99 (dp0 hd (by decide)) (ls0 := [.ref 77]) rfl (Nat.le_of_ble_eq_true rfl) (Nat.le_of_ble_eq_true rfl) rfl (to_rc rfl rfl rfl (g_o hG635 rfl)) rfl ?_)
          have c_637 : M634.2.1 77 7 = (M.2.1 77 7) := (W_n W633 (by decide) (W_n W626 (fun z => absurd z.1 (by decide)) (W_n W621 (by decide) rfl)))
          have t_638 : (M634.2.1 77 7).toInt = (M.2.1 77 7).toInt := congrArg Int32.toInt c_637
          have c_639 : M634.2.1 77 6 = (M.2.1 77 6) := (W_n W633 (by decide) (W_n W626 (fun z => absurd z.1 (by decide)) (W_n W621 (by decide) rfl)))
          have t_640 : (M634.2.1 77 6).toInt = (M.2.1 77 6).toInt := congrArg Int32.toInt c_639
          have c_641 : M634.2.1 77 10 = (M.2.1 77 10) := (W_n W633 (by decide) (W_n W626 (fun z => absurd z.1 (by decide)) (W_n W621 (by decide) rfl)))
          have t_642 : (M634.2.1 77 10).toInt = (M.2.1 77 10).toInt := congrArg Int32.toInt c_641
          have j_643 := (RS_f (fun a i z => W_n W633 (by /-r77-/ omega) rfl) (RS_f (fun a i z => W_n W626 (by /-r115-/ omega) rfl) (RS_f (fun a i z => W_n W621 (by /-r77-/ omega) rfl) q5)))
          have z_644 := RS_b j_643 (a := a) (by omega)
          have j_645 := (TR_f (fun a i z => W_n W633 (by /-r77-/ omega) rfl) (TR_f (fun a i z => W_n W626 (by /-r115-/ omega) rfl) (TR_f (fun a i z => W_n W621 (by /-r77-/ omega) rfl) q9)))
          have j_646 := (W9_f (fun a i z => W_n W633 (by /-r77-/ omega) rfl) (W9_f (fun a i z => W_n W626 (by /-r115-/ omega) rfl) (W9_f (fun a i z => W_n W621 (by /-r77-/ omega) rfl) q10)))
          refine E_156 hX (dp1 hd (by decide)) hG635 (by omega) (by omega) (by omega) (by omega) j_645 j_646  (fun M653 hG648 F647 p_649 p_650 p_651 p_652 => ?_)
          have F654 := FR.c F636 F647 (fun a i z => show a = 77 ∧ (i = 4 ∨ i = 5 ∨ 7 ≤ i ∧ i ≤ 10) ∨ a = 77 ∧ (i = 59 ∨ 65 ≤ i ∧ i ≤ 69) ∨ 112 ≤ a ∧ a ≤ 114 ∧ 40 ≤ i ∨ a = 115 ∨ a = 116 by have z : a = 77 ∧ 7 ≤ i ∧ i ≤ 10 := z; omega)
          have b_655 := g_b hG648 (a := 77) (i := 7) (lo := 0) (hi := 500) rfl rfl
          have c_656 : M653.2.1 77 6 = (M.2.1 77 6) := (F_n F647 (show ¬ (77 = 77 ∧ 7 ≤ 6 ∧ 6 ≤ 10) by decide) c_639)
          have t_657 : (M653.2.1 77 6).toInt = (M.2.1 77 6).toInt := congrArg Int32.toInt c_656
          have b_658 := g_b hG648 (a := 77) (i := 8) (lo := 0) (hi := 5) rfl rfl
          have b_659 := g_b hG648 (a := 77) (i := 10) (lo := 0) (hi := 500) rfl rfl
          have z_660 := RS_s p_652.2 (a := a) (by omega)
          refine to_c (pc := 102) rw_225_102 (x := (1 : Int32)) rfl rfl (s_r1 (pc := 103) rw_225_103 (A := 1) rfl (by decide) ?_)
          have k_661 : (1 : Int32).toInt = 1 := rfl
          have c_662 : M653.2.1 77 59 = (M.2.1 77 59) := (F_n F647 (show ¬ (77 = 77 ∧ 7 ≤ 59 ∧ 59 ≤ 10) by decide) (W_n W633 (by decide) (W_n W626 (fun z => absurd z.1 (by decide)) (W_n W621 (by decide) rfl))))
          have t_663 : (M653.2.1 77 59).toInt = (M.2.1 77 59).toInt := congrArg Int32.toInt c_662
          have c_664 : M653.2.1 77 65 = v631 := (F_n F647 (show ¬ (77 = 77 ∧ 7 ≤ 65 ∧ 65 ≤ 10) by decide) (W_e W633))
          have t_665 : (M653.2.1 77 65).toInt = v631.toInt := congrArg Int32.toInt c_664
          have c_666 : M653.2.1 77 66 = (M.2.1 77 66) := (F_n F647 (show ¬ (77 = 77 ∧ 7 ≤ 66 ∧ 66 ≤ 10) by decide) (W_n W633 (by decide) (W_n W626 (fun z => absurd z.1 (by decide)) (W_n W621 (by decide) rfl))))
          have t_667 : (M653.2.1 77 66).toInt = (M.2.1 77 66).toInt := congrArg Int32.toInt c_666
          have c_668 : M653.2.1 77 67 = (M.2.1 77 67) := (F_n F647 (show ¬ (77 = 77 ∧ 7 ≤ 67 ∧ 67 ≤ 10) by decide) (W_n W633 (by decide) (W_n W626 (fun z => absurd z.1 (by decide)) (W_n W621 (by decide) rfl))))
          have t_669 : (M653.2.1 77 67).toInt = (M.2.1 77 67).toInt := congrArg Int32.toInt c_668
          have c_670 : M653.2.1 77 68 = (M.2.1 77 68) := (F_n F647 (show ¬ (77 = 77 ∧ 7 ≤ 68 ∧ 68 ≤ 10) by decide) (W_n W633 (by decide) (W_n W626 (fun z => absurd z.1 (by decide)) (W_n W621 (by decide) rfl))))
          have t_671 : (M653.2.1 77 68).toInt = (M.2.1 77 68).toInt := congrArg Int32.toInt c_670
          have c_672 : M653.2.1 77 69 = v619 := (F_n F647 (show ¬ (77 = 77 ∧ 7 ≤ 69 ∧ 69 ≤ 10) by decide) (W_n W633 (by decide) (W_n W626 (fun z => absurd z.1 (by decide)) (W_e W621))))
          have t_673 : (M653.2.1 77 69).toInt = v619.toInt := congrArg Int32.toInt c_672
          have k_675 : (2 : Int32).toInt = 2 := rfl
          have s_676 := Wx_f (M := M) (M1 := M653) ((M.2.1 77 65).toInt).toNat (fun i z => (F_n F647 (show ¬ (115 = 77 ∧ 7 ≤ i ∧ i ≤ 10) by omega) (W_n W633 (by omega) (W_n W626 (by omega) (W_n W621 (by omega) rfl)))))
          have s_677 : (M653.2.1 115 ((M.2.1 77 65).toInt).toNat).toInt = (2 : Int32).toInt := by rw [show ((M.2.1 77 65).toInt).toNat = ((M.2.1 77 65).toInt).toNat by omega]; exact congrArg Int32.toInt (F_n F647 (show ¬ (115 = 77 ∧ 7 ≤ (((M.2.1 77 65).toInt).toNat) ∧ (((M.2.1 77 65).toInt).toNat) ≤ 10) by omega) (W_n W633 (by omega) (W_e W626)))
          have s_678 := Wx_s M653 ((M.2.1 77 65).toInt).toNat
          have j_674 : QK M653 := QK_i (by unfold QK_c; rw [show ((M653.2.1 77 65).toInt).toNat = ((M.2.1 77 65).toInt).toNat + 1 by omega]; refine ⟨by omega, by omega, by omega, by omega⟩) (fun i z => by
              by_cases ei : i = ((M.2.1 77 65).toInt).toNat
              · rw [ei]; omega
              · rw [(F_n F647 (show ¬ (115 = 77 ∧ 7 ≤ i ∧ i ≤ 10) by omega) (W_n W633 (by omega) (W_n W626 (by omega) (W_n W621 (by omega) rfl))))]; exact q2.2.1 i (by omega)) (by rw [(F_n F647 (show ¬ (77 = 77 ∧ 7 ≤ 59 ∧ 59 ≤ 10) by decide) (W_n W633 (by omega) (W_n W626 (by omega) (W_n W621 (by omega) rfl))))]; exact KN_f (fun a i z => (F_n F647 (show ¬ (a = 77 ∧ 7 ≤ i ∧ i ≤ 10) by omega) (W_n W633 (by omega) (W_n W626 (by omega) (W_n W621 (by omega) rfl))))) q2.2.2)
          exact h (1 : Int32) M653 hG648 F654 (by decide) (by decide) (by omega) (by omega) (by omega) (by omega) (fun _ => j_674) (fun _ => by rw [show ((M653.2.1 77 65).toInt).toNat = ((M.2.1 77 65).toInt).toNat + 1 by omega]; omega) (fun _ => p_652.1) (fun _ => (q_no (by omega) (by omega) (by omega) (by omega)).trans (q_w (by omega) (by omega) (by omega) (by omega))) (fun z => absurd z (by decide))
        · refine to_an (pc := 9) rw_224_9 rfl (to_c (pc := 10) rw_224_10 (x := (2 : Int32)) rfl rfl (s_v (pc := 11) rw_224_11 (dp1 hd (by decide)) (ls0 := [.ref 77, .int (2 : Int32)]) rfl (Nat.le_of_ble_eq_true rfl) (Nat.le_of_ble_eq_true rfl) rfl (to_rc rfl rfl rfl (g_o hG rfl)) rfl (to_an (pc := 0) rw_152_0 rfl (to_in (pc := 1) rw_152_1 rfl (s_pI (pc := 2) rw_152_2 hG rfl (fun M680 W679 => ?_))))))
          have hG681 := g_wf hG W679 rfl rfl (by decide)
          have F682 := FR.w F0 W679 (show 77 = 77 ∧ (4 = 4 ∨ 4 = 5 ∨ 7 ≤ 4 ∧ 4 ≤ 10) ∨ 77 = 77 ∧ (4 = 59 ∨ 65 ≤ 4 ∧ 4 ≤ 69) ∨ 112 ≤ 77 ∧ 77 ≤ 114 ∧ 40 ≤ 4 ∨ 77 = 115 ∨ 77 = 116 by decide)
          refine to_an (pc := 5) rw_152_5 rfl (to_an (pc := 6) rw_152_6 rfl ?_)
          have c_683 : M680.2.1 77 10 = (M.2.1 77 10) := (W_n W679 (by decide) rfl)
          refine tt_gI (pc := 7) rw_152_7 (g_o hG681 rfl) (v := (M.2.1 77 10)) c_683 (s_pI (pc := 10) rw_152_10 hG681 rfl (fun M685 W684 => ?_))
          have hG686 := g_wf hG681 W684 rfl rfl (by decide)
          have F687 := FR.w F682 W684 (show 77 = 77 ∧ (5 = 4 ∨ 5 = 5 ∨ 7 ≤ 5 ∧ 5 ≤ 10) ∨ 77 = 77 ∧ (5 = 59 ∨ 65 ≤ 5 ∧ 5 ≤ 69) ∨ 112 ≤ 77 ∧ 77 ≤ 114 ∧ 40 ≤ 5 ∨ 77 = 115 ∨ 77 = 116 by decide)
          refine to_c (pc := 13) rw_152_13 (x := (0 : Int32)) rfl rfl (s_r1 (pc := 14) rw_152_14 (A := 0) rfl (by decide) (s_r1 (pc := 14) rw_224_14 (A := 0) rfl (by decide) (b_ine_f (pc := 73) rw_225_73 (A := 0) rfl (by decide) (to_c (pc := 76) rw_225_76 (x := (0 : Int32)) rfl rfl (s_r1 (pc := 77) rw_225_77 (A := 0) rfl (by decide) ?_)))))
          have k_688 : (0 : Int32).toInt = 0 := rfl
          have c_689 : M685.2.1 77 7 = (M.2.1 77 7) := (W_n W684 (by decide) (W_n W679 (by decide) rfl))
          have t_690 : (M685.2.1 77 7).toInt = (M.2.1 77 7).toInt := congrArg Int32.toInt c_689
          have c_691 : M685.2.1 77 6 = (M.2.1 77 6) := (W_n W684 (by decide) (W_n W679 (by decide) rfl))
          have t_692 : (M685.2.1 77 6).toInt = (M.2.1 77 6).toInt := congrArg Int32.toInt c_691
          have c_693 : M685.2.1 77 8 = (M.2.1 77 8) := (W_n W684 (by decide) (W_n W679 (by decide) rfl))
          have t_694 : (M685.2.1 77 8).toInt = (M.2.1 77 8).toInt := congrArg Int32.toInt c_693
          have c_695 : M685.2.1 77 4 = (2 : Int32) := (W_n W684 (by decide) (W_e W679))
          have k_696 : (2 : Int32).toInt = 2 := rfl
          have t_697 : (M685.2.1 77 4).toInt = (2 : Int32).toInt := congrArg Int32.toInt c_695
          have c_698 : M685.2.1 77 5 = (M.2.1 77 10) := (W_e W684)
          have t_699 : (M685.2.1 77 5).toInt = (M.2.1 77 10).toInt := congrArg Int32.toInt c_698
          have c_700 : M685.2.1 77 67 = (M.2.1 77 67) := (W_n W684 (by decide) (W_n W679 (by decide) rfl))
          have t_701 : (M685.2.1 77 67).toInt = (M.2.1 77 67).toInt := congrArg Int32.toInt c_700
          have c_702 : M685.2.1 77 69 = (M.2.1 77 69) := (W_n W684 (by decide) (W_n W679 (by decide) rfl))
          have t_703 : (M685.2.1 77 69).toInt = (M.2.1 77 69).toInt := congrArg Int32.toInt c_702
          exact h (0 : Int32) M685 hG686 F687 (by decide) (by decide) (by omega) (by omega) (by omega) (by omega) (fun z => absurd z (by omega)) (fun z => absurd z (by decide)) (fun z => absurd z (by decide)) (fun z => absurd z (by decide)) (fun _ => by first | exact inl_e (by omega) (by omega) (q_lpx (by omega) (by omega) (by omega) (by omega)) | exact inl_e (by omega) (by omega) (q_nox (by omega) (by omega) (by omega) (by omega)) | exact inl_e (by omega) (by omega) (q_nmx (by omega) (by omega) (by omega) (by omega)) | exact inl_e (by omega) (by omega) (q_0x (by omega) (by omega) (by omega) (by omega) (by omega)))
  · refine to_an (pc := 8) rw_159_8 rfl (tt_gI (pc := 9) rw_159_9 (g_o hG rfl) (v := (M.2.1 77 9)) rfl (to_in (pc := 12) rw_159_12 rfl (b_cne (pc := 13) rw_159_13 (A := (M.2.1 77 9).toInt) (B := 40) rfl rfl (fun h704 => ?_) (fun h704 => ?_))))
    · refine to_c (pc := 20) rw_159_20 (x := (0 : Int32)) rfl rfl (s_r1 (pc := 21) rw_159_21 (A := 0) rfl (by decide) (b_ieq_t (pc := 6) rw_225_6 (A := 0) rfl (by decide) (to_an (pc := 60) rw_225_60 rfl (to_c (pc := 61) rw_225_61 (x := (14 : Int32)) rfl rfl (s_v (pc := 63) rw_225_63 (dp0 hd (by decide)) (ls0 := [.ref 77, .int (14 : Int32)]) rfl (Nat.le_of_ble_eq_true rfl) (Nat.le_of_ble_eq_true rfl) rfl (to_rc rfl rfl rfl (g_o hG rfl)) rfl (to_an (pc := 0) rw_158_0 rfl (tt_gI (pc := 1) rw_158_1 (g_o hG rfl) (v := (M.2.1 77 8)) rfl (to_c (pc := 4) rw_158_4 (x := (1 : Int32)) rfl rfl (b_cne_t (pc := 5) rw_158_5 (A := (M.2.1 77 8).toInt) (B := 1) rfl rfl (by omega) (to_c (pc := 20) rw_158_20 (x := (0 : Int32)) rfl rfl (s_r1 (pc := 21) rw_158_21 (A := 0) rfl (by decide) ?_)))))))))))
      refine b_ieq_t (pc := 66) rw_225_66 (A := 0) rfl (by decide) (to_an (pc := 104) rw_225_104 rfl (tt_gI (pc := 105) rw_225_105 (g_o hG rfl) (v := (M.2.1 77 8)) rfl (to_c (pc := 108) rw_225_108 (x := (2 : Int32)) rfl rfl (b_ceq_f (pc := 109) rw_225_109 (A := (M.2.1 77 8).toInt) (B := 2) rfl rfl (by omega) (to_an (pc := 112) rw_225_112 rfl (to_c (pc := 113) rw_225_113 (x := (1 : Int32)) rfl rfl (s_v (pc := 114) rw_225_114 (dp0 hd (by decide)) (ls0 := [.ref 77, .int (1 : Int32)]) rfl (Nat.le_of_ble_eq_true rfl) (Nat.le_of_ble_eq_true rfl) rfl (to_rc rfl rfl rfl (g_o hG rfl)) rfl (to_an (pc := 0) rw_152_0 rfl (to_in (pc := 1) rw_152_1 rfl (s_pI (pc := 2) rw_152_2 hG rfl (fun M706 W705 => ?_)))))))))))
      have hG707 := g_wf hG W705 rfl rfl (by decide)
      have F708 := FR.w F0 W705 (show 77 = 77 ∧ (4 = 4 ∨ 4 = 5 ∨ 7 ≤ 4 ∧ 4 ≤ 10) ∨ 77 = 77 ∧ (4 = 59 ∨ 65 ≤ 4 ∧ 4 ≤ 69) ∨ 112 ≤ 77 ∧ 77 ≤ 114 ∧ 40 ≤ 4 ∨ 77 = 115 ∨ 77 = 116 by decide)
      refine to_an (pc := 5) rw_152_5 rfl (to_an (pc := 6) rw_152_6 rfl ?_)
      have c_709 : M706.2.1 77 10 = (M.2.1 77 10) := (W_n W705 (by decide) rfl)
      refine tt_gI (pc := 7) rw_152_7 (g_o hG707 rfl) (v := (M.2.1 77 10)) c_709 (s_pI (pc := 10) rw_152_10 hG707 rfl (fun M711 W710 => ?_))
      have hG712 := g_wf hG707 W710 rfl rfl (by decide)
      have F713 := FR.w F708 W710 (show 77 = 77 ∧ (5 = 4 ∨ 5 = 5 ∨ 7 ≤ 5 ∧ 5 ≤ 10) ∨ 77 = 77 ∧ (5 = 59 ∨ 65 ≤ 5 ∧ 5 ≤ 69) ∨ 112 ≤ 77 ∧ 77 ≤ 114 ∧ 40 ≤ 5 ∨ 77 = 115 ∨ 77 = 116 by decide)
      refine to_c (pc := 13) rw_152_13 (x := (0 : Int32)) rfl rfl (s_r1 (pc := 14) rw_152_14 (A := 0) rfl (by decide) (s_r1 (pc := 117) rw_225_117 (A := 0) rfl (by decide) ?_))
      have k_714 : (0 : Int32).toInt = 0 := rfl
      have c_715 : M711.2.1 77 7 = (M.2.1 77 7) := (W_n W710 (by decide) (W_n W705 (by decide) rfl))
      have t_716 : (M711.2.1 77 7).toInt = (M.2.1 77 7).toInt := congrArg Int32.toInt c_715
      have c_717 : M711.2.1 77 6 = (M.2.1 77 6) := (W_n W710 (by decide) (W_n W705 (by decide) rfl))
      have t_718 : (M711.2.1 77 6).toInt = (M.2.1 77 6).toInt := congrArg Int32.toInt c_717
      have c_719 : M711.2.1 77 8 = (M.2.1 77 8) := (W_n W710 (by decide) (W_n W705 (by decide) rfl))
      have t_720 : (M711.2.1 77 8).toInt = (M.2.1 77 8).toInt := congrArg Int32.toInt c_719
      have c_721 : M711.2.1 77 4 = (1 : Int32) := (W_n W710 (by decide) (W_e W705))
      have k_722 : (1 : Int32).toInt = 1 := rfl
      have t_723 : (M711.2.1 77 4).toInt = (1 : Int32).toInt := congrArg Int32.toInt c_721
      have c_724 : M711.2.1 77 5 = (M.2.1 77 10) := (W_e W710)
      have t_725 : (M711.2.1 77 5).toInt = (M.2.1 77 10).toInt := congrArg Int32.toInt c_724
      have c_726 : M711.2.1 77 67 = (M.2.1 77 67) := (W_n W710 (by decide) (W_n W705 (by decide) rfl))
      have t_727 : (M711.2.1 77 67).toInt = (M.2.1 77 67).toInt := congrArg Int32.toInt c_726
      have c_728 : M711.2.1 77 69 = (M.2.1 77 69) := (W_n W710 (by decide) (W_n W705 (by decide) rfl))
      have t_729 : (M711.2.1 77 69).toInt = (M.2.1 77 69).toInt := congrArg Int32.toInt c_728
      exact h (0 : Int32) M711 hG712 F713 (by decide) (by decide) (by omega) (by omega) (by omega) (by omega) (fun z => absurd z (by omega)) (fun z => absurd z (by decide)) (fun z => absurd z (by decide)) (fun z => absurd z (by decide)) (fun _ => by first | exact inl_e (by omega) (by omega) (q_lpx (by omega) (by omega) (by omega) (by omega)) | exact inl_e (by omega) (by omega) (q_nox (by omega) (by omega) (by omega) (by omega)) | exact inl_e (by omega) (by omega) (q_nmx (by omega) (by omega) (by omega) (by omega)) | exact inl_e (by omega) (by omega) (q_0x (by omega) (by omega) (by omega) (by omega) (by omega)))
    · refine to_c (pc := 16) rw_159_16 (x := (1 : Int32)) rfl rfl (to_go (pc := 17) rw_159_17 (s_r1 (pc := 21) rw_159_21 (A := 1) rfl (by decide) (b_ieq_f (pc := 6) rw_225_6 (A := 1) rfl (by decide) (to_an (pc := 9) rw_225_9 rfl (tt_gI (pc := 10) rw_225_10 (g_o hG rfl) (v := (M.2.1 77 67)) rfl (to_c (pc := 13) rw_225_13 (x := (8 : Int32)) rfl rfl (b_cne (pc := 15) rw_225_15 (A := (M.2.1 77 67).toInt) (B := 8) rfl rfl (fun h730 => ?_) (fun h730 => ?_))))))))
      · refine to_an (pc := 24) rw_225_24 rfl (to_dupr (pc := 25) rw_225_25 (tt_gI (pc := 26) rw_225_26 (g_o hG rfl) (v := (M.2.1 77 67)) rfl (to_c (pc := 29) rw_225_29 (x := (1 : Int32)) rfl rfl (s_add (pc := 30) rw_225_30 (A := (M.2.1 77 67).toInt) (B := 1) rfl rfl (by omega) (fun v731 e732 => s_pI (pc := 31) rw_225_31 hG rfl (fun M734 W733 => ?_))))))
        have hG735 := g_w hG W733 (A := v731.toInt) rfl (lo := 0) (hi := 8) rfl rfl (by omega) (by decide)
        have F736 := FR.w F0 W733 (show 77 = 77 ∧ (67 = 4 ∨ 67 = 5 ∨ 7 ≤ 67 ∧ 67 ≤ 10) ∨ 77 = 77 ∧ (67 = 59 ∨ 65 ≤ 67 ∧ 67 ≤ 69) ∨ 112 ≤ 77 ∧ 77 ≤ 114 ∧ 40 ≤ 67 ∨ 77 = 115 ∨ 77 = 116 by decide)
        refine to_an (pc := 34) rw_225_34 rfl (s_gR (pc := 35) rw_225_35 hG735 rfl (v := 115) rfl (to_an (pc := 38) rw_225_38 rfl ?_))
        have c_737 : M734.2.1 77 65 = (M.2.1 77 65) := (W_n W733 (by decide) rfl)
        refine tt_gI (pc := 39) rw_225_39 (g_o hG735 rfl) (v := (M.2.1 77 65)) c_737 (to_c (pc := 42) rw_225_42 (x := (0 : Int32)) rfl rfl (s_ias (pc := 43) rw_225_43 hG735 rfl (n := 64) rfl (A := (M.2.1 77 65).toInt) rfl (by omega) (by omega) (fun M739 W738 => ?_)))
        have hG740 := g_w hG735 W738 (A := 0) rfl (lo := 0) (hi := 4) rfl rfl (by omega) (by decide)
        have F741 := FR.w F736 W738 (show 115 = 77 ∧ (((M.2.1 77 65).toInt).toNat = 4 ∨ ((M.2.1 77 65).toInt).toNat = 5 ∨ 7 ≤ ((M.2.1 77 65).toInt).toNat ∧ ((M.2.1 77 65).toInt).toNat ≤ 10) ∨ 115 = 77 ∧ (((M.2.1 77 65).toInt).toNat = 59 ∨ 65 ≤ ((M.2.1 77 65).toInt).toNat ∧ ((M.2.1 77 65).toInt).toNat ≤ 69) ∨ 112 ≤ 115 ∧ 115 ≤ 114 ∧ 40 ≤ ((M.2.1 77 65).toInt).toNat ∨ 115 = 115 ∨ 115 = 116 by omega)
        refine to_an (pc := 44) rw_225_44 rfl (to_dupr (pc := 45) rw_225_45 ?_)
        have c_742 : M739.2.1 77 65 = (M.2.1 77 65) := (W_n W738 (fun z => absurd z.1 (by decide)) c_737)
        refine tt_gI (pc := 46) rw_225_46 (g_o hG740 rfl) (v := (M.2.1 77 65)) c_742 (to_c (pc := 49) rw_225_49 (x := (1 : Int32)) rfl rfl (s_add (pc := 50) rw_225_50 (A := (M.2.1 77 65).toInt) (B := 1) rfl rfl (by omega) (fun v743 e744 => s_pI (pc := 51) rw_225_51 hG740 rfl (fun M746 W745 => ?_))))
        have hG747 := g_w hG740 W745 (A := v743.toInt) rfl (lo := 0) (hi := 48) rfl rfl (by omega) (by decide)
        have F748 := FR.w F741 W745 (show 77 = 77 ∧ (65 = 4 ∨ 65 = 5 ∨ 7 ≤ 65 ∧ 65 ≤ 10) ∨ 77 = 77 ∧ (65 = 59 ∨ 65 ≤ 65 ∧ 65 ≤ 69) ∨ 112 ≤ 77 ∧ 77 ≤ 114 ∧ 40 ≤ 65 ∨ 77 = 115 ∨ 77 = 116 by decide)
        refine to_an (pc := 54) rw_225_54 rfl (s_v (pc := 55) rw_225_55 (dp0 hd (by decide)) (ls0 := [.ref 77]) rfl (Nat.le_of_ble_eq_true rfl) (Nat.le_of_ble_eq_true rfl) rfl (to_rc rfl rfl rfl (g_o hG747 rfl)) rfl ?_)
        have c_749 : M746.2.1 77 7 = (M.2.1 77 7) := (W_n W745 (by decide) (W_n W738 (fun z => absurd z.1 (by decide)) (W_n W733 (by decide) rfl)))
        have t_750 : (M746.2.1 77 7).toInt = (M.2.1 77 7).toInt := congrArg Int32.toInt c_749
        have c_751 : M746.2.1 77 6 = (M.2.1 77 6) := (W_n W745 (by decide) (W_n W738 (fun z => absurd z.1 (by decide)) (W_n W733 (by decide) rfl)))
        have t_752 : (M746.2.1 77 6).toInt = (M.2.1 77 6).toInt := congrArg Int32.toInt c_751
        have c_753 : M746.2.1 77 10 = (M.2.1 77 10) := (W_n W745 (by decide) (W_n W738 (fun z => absurd z.1 (by decide)) (W_n W733 (by decide) rfl)))
        have t_754 : (M746.2.1 77 10).toInt = (M.2.1 77 10).toInt := congrArg Int32.toInt c_753
        have j_755 := (RS_f (fun a i z => W_n W745 (by /-r77-/ omega) rfl) (RS_f (fun a i z => W_n W738 (by /-r115-/ omega) rfl) (RS_f (fun a i z => W_n W733 (by /-r77-/ omega) rfl) q5)))
        have z_756 := RS_b j_755 (a := a) (by omega)
        have j_757 := (TR_f (fun a i z => W_n W745 (by /-r77-/ omega) rfl) (TR_f (fun a i z => W_n W738 (by /-r115-/ omega) rfl) (TR_f (fun a i z => W_n W733 (by /-r77-/ omega) rfl) q9)))
        have j_758 := (W9_f (fun a i z => W_n W745 (by /-r77-/ omega) rfl) (W9_f (fun a i z => W_n W738 (by /-r115-/ omega) rfl) (W9_f (fun a i z => W_n W733 (by /-r77-/ omega) rfl) q10)))
        refine E_156 hX (dp1 hd (by decide)) hG747 (by omega) (by omega) (by omega) (by omega) j_757 j_758  (fun M765 hG760 F759 p_761 p_762 p_763 p_764 => ?_)
        have F766 := FR.c F748 F759 (fun a i z => show a = 77 ∧ (i = 4 ∨ i = 5 ∨ 7 ≤ i ∧ i ≤ 10) ∨ a = 77 ∧ (i = 59 ∨ 65 ≤ i ∧ i ≤ 69) ∨ 112 ≤ a ∧ a ≤ 114 ∧ 40 ≤ i ∨ a = 115 ∨ a = 116 by have z : a = 77 ∧ 7 ≤ i ∧ i ≤ 10 := z; omega)
        have b_767 := g_b hG760 (a := 77) (i := 7) (lo := 0) (hi := 500) rfl rfl
        have c_768 : M765.2.1 77 6 = (M.2.1 77 6) := (F_n F759 (show ¬ (77 = 77 ∧ 7 ≤ 6 ∧ 6 ≤ 10) by decide) c_751)
        have t_769 : (M765.2.1 77 6).toInt = (M.2.1 77 6).toInt := congrArg Int32.toInt c_768
        have b_770 := g_b hG760 (a := 77) (i := 8) (lo := 0) (hi := 5) rfl rfl
        have b_771 := g_b hG760 (a := 77) (i := 10) (lo := 0) (hi := 500) rfl rfl
        have z_772 := RS_s p_764.2 (a := a) (by omega)
        refine to_c (pc := 58) rw_225_58 (x := (1 : Int32)) rfl rfl (s_r1 (pc := 59) rw_225_59 (A := 1) rfl (by decide) ?_)
        have k_773 : (1 : Int32).toInt = 1 := rfl
        have c_774 : M765.2.1 77 59 = (M.2.1 77 59) := (F_n F759 (show ¬ (77 = 77 ∧ 7 ≤ 59 ∧ 59 ≤ 10) by decide) (W_n W745 (by decide) (W_n W738 (fun z => absurd z.1 (by decide)) (W_n W733 (by decide) rfl))))
        have t_775 : (M765.2.1 77 59).toInt = (M.2.1 77 59).toInt := congrArg Int32.toInt c_774
        have c_776 : M765.2.1 77 65 = v743 := (F_n F759 (show ¬ (77 = 77 ∧ 7 ≤ 65 ∧ 65 ≤ 10) by decide) (W_e W745))
        have t_777 : (M765.2.1 77 65).toInt = v743.toInt := congrArg Int32.toInt c_776
        have c_778 : M765.2.1 77 66 = (M.2.1 77 66) := (F_n F759 (show ¬ (77 = 77 ∧ 7 ≤ 66 ∧ 66 ≤ 10) by decide) (W_n W745 (by decide) (W_n W738 (fun z => absurd z.1 (by decide)) (W_n W733 (by decide) rfl))))
        have t_779 : (M765.2.1 77 66).toInt = (M.2.1 77 66).toInt := congrArg Int32.toInt c_778
        have c_780 : M765.2.1 77 67 = v731 := (F_n F759 (show ¬ (77 = 77 ∧ 7 ≤ 67 ∧ 67 ≤ 10) by decide) (W_n W745 (by decide) (W_n W738 (fun z => absurd z.1 (by decide)) (W_e W733))))
        have t_781 : (M765.2.1 77 67).toInt = v731.toInt := congrArg Int32.toInt c_780
        have c_782 : M765.2.1 77 68 = (M.2.1 77 68) := (F_n F759 (show ¬ (77 = 77 ∧ 7 ≤ 68 ∧ 68 ≤ 10) by decide) (W_n W745 (by decide) (W_n W738 (fun z => absurd z.1 (by decide)) (W_n W733 (by decide) rfl))))
        have t_783 : (M765.2.1 77 68).toInt = (M.2.1 77 68).toInt := congrArg Int32.toInt c_782
        have c_784 : M765.2.1 77 69 = (M.2.1 77 69) := (F_n F759 (show ¬ (77 = 77 ∧ 7 ≤ 69 ∧ 69 ≤ 10) by decide) (W_n W745 (by decide) (W_n W738 (fun z => absurd z.1 (by decide)) (W_n W733 (by decide) rfl))))
        have t_785 : (M765.2.1 77 69).toInt = (M.2.1 77 69).toInt := congrArg Int32.toInt c_784
        have k_787 : (0 : Int32).toInt = 0 := rfl
        have s_788 := Wx_f (M := M) (M1 := M765) ((M.2.1 77 65).toInt).toNat (fun i z => (F_n F759 (show ¬ (115 = 77 ∧ 7 ≤ i ∧ i ≤ 10) by omega) (W_n W745 (by omega) (W_n W738 (by omega) (W_n W733 (by omega) rfl)))))
        have s_789 : (M765.2.1 115 ((M.2.1 77 65).toInt).toNat).toInt = (0 : Int32).toInt := by rw [show ((M.2.1 77 65).toInt).toNat = ((M.2.1 77 65).toInt).toNat by omega]; exact congrArg Int32.toInt (F_n F759 (show ¬ (115 = 77 ∧ 7 ≤ (((M.2.1 77 65).toInt).toNat) ∧ (((M.2.1 77 65).toInt).toNat) ≤ 10) by omega) (W_n W745 (by omega) (W_e W738)))
        have s_790 := Wx_s M765 ((M.2.1 77 65).toInt).toNat
        have j_786 : QK M765 := QK_i (by unfold QK_c; rw [show ((M765.2.1 77 65).toInt).toNat = ((M.2.1 77 65).toInt).toNat + 1 by omega]; refine ⟨by omega, by omega, by omega, by omega⟩) (fun i z => by
            by_cases ei : i = ((M.2.1 77 65).toInt).toNat
            · rw [ei]; omega
            · rw [(F_n F759 (show ¬ (115 = 77 ∧ 7 ≤ i ∧ i ≤ 10) by omega) (W_n W745 (by omega) (W_n W738 (by omega) (W_n W733 (by omega) rfl))))]; exact q2.2.1 i (by omega)) (by rw [(F_n F759 (show ¬ (77 = 77 ∧ 7 ≤ 59 ∧ 59 ≤ 10) by decide) (W_n W745 (by omega) (W_n W738 (by omega) (W_n W733 (by omega) rfl))))]; exact KN_f (fun a i z => (F_n F759 (show ¬ (a = 77 ∧ 7 ≤ i ∧ i ≤ 10) by omega) (W_n W745 (by omega) (W_n W738 (by omega) (W_n W733 (by omega) rfl))))) q2.2.2)
        exact h (1 : Int32) M765 hG760 F766 (by decide) (by decide) (by omega) (by omega) (by omega) (by omega) (fun _ => j_786) (fun _ => by rw [show ((M765.2.1 77 65).toInt).toNat = ((M.2.1 77 65).toInt).toNat + 1 by omega]; omega) (fun _ => p_764.1) (fun _ => (q_lp (by omega) (by omega) (by omega) (by omega)).trans (q_w (by omega) (by omega) (by omega) (by omega))) (fun z => absurd z (by decide))
      · refine to_an (pc := 18) rw_225_18 rfl (to_c (pc := 19) rw_225_19 (x := (2 : Int32)) rfl rfl (s_v (pc := 20) rw_225_20 (dp0 hd (by decide)) (ls0 := [.ref 77, .int (2 : Int32)]) rfl (Nat.le_of_ble_eq_true rfl) (Nat.le_of_ble_eq_true rfl) rfl (to_rc rfl rfl rfl (g_o hG rfl)) rfl (to_an (pc := 0) rw_152_0 rfl (to_in (pc := 1) rw_152_1 rfl (s_pI (pc := 2) rw_152_2 hG rfl (fun M792 W791 => ?_))))))
        have hG793 := g_wf hG W791 rfl rfl (by decide)
        have F794 := FR.w F0 W791 (show 77 = 77 ∧ (4 = 4 ∨ 4 = 5 ∨ 7 ≤ 4 ∧ 4 ≤ 10) ∨ 77 = 77 ∧ (4 = 59 ∨ 65 ≤ 4 ∧ 4 ≤ 69) ∨ 112 ≤ 77 ∧ 77 ≤ 114 ∧ 40 ≤ 4 ∨ 77 = 115 ∨ 77 = 116 by decide)
        refine to_an (pc := 5) rw_152_5 rfl (to_an (pc := 6) rw_152_6 rfl ?_)
        have c_795 : M792.2.1 77 10 = (M.2.1 77 10) := (W_n W791 (by decide) rfl)
        refine tt_gI (pc := 7) rw_152_7 (g_o hG793 rfl) (v := (M.2.1 77 10)) c_795 (s_pI (pc := 10) rw_152_10 hG793 rfl (fun M797 W796 => ?_))
        have hG798 := g_wf hG793 W796 rfl rfl (by decide)
        have F799 := FR.w F794 W796 (show 77 = 77 ∧ (5 = 4 ∨ 5 = 5 ∨ 7 ≤ 5 ∧ 5 ≤ 10) ∨ 77 = 77 ∧ (5 = 59 ∨ 65 ≤ 5 ∧ 5 ≤ 69) ∨ 112 ≤ 77 ∧ 77 ≤ 114 ∧ 40 ≤ 5 ∨ 77 = 115 ∨ 77 = 116 by decide)
        refine to_c (pc := 13) rw_152_13 (x := (0 : Int32)) rfl rfl (s_r1 (pc := 14) rw_152_14 (A := 0) rfl (by decide) (s_r1 (pc := 23) rw_225_23 (A := 0) rfl (by decide) ?_))
        have k_800 : (0 : Int32).toInt = 0 := rfl
        have c_801 : M797.2.1 77 7 = (M.2.1 77 7) := (W_n W796 (by decide) (W_n W791 (by decide) rfl))
        have t_802 : (M797.2.1 77 7).toInt = (M.2.1 77 7).toInt := congrArg Int32.toInt c_801
        have c_803 : M797.2.1 77 6 = (M.2.1 77 6) := (W_n W796 (by decide) (W_n W791 (by decide) rfl))
        have t_804 : (M797.2.1 77 6).toInt = (M.2.1 77 6).toInt := congrArg Int32.toInt c_803
        have c_805 : M797.2.1 77 8 = (M.2.1 77 8) := (W_n W796 (by decide) (W_n W791 (by decide) rfl))
        have t_806 : (M797.2.1 77 8).toInt = (M.2.1 77 8).toInt := congrArg Int32.toInt c_805
        have c_807 : M797.2.1 77 4 = (2 : Int32) := (W_n W796 (by decide) (W_e W791))
        have k_808 : (2 : Int32).toInt = 2 := rfl
        have t_809 : (M797.2.1 77 4).toInt = (2 : Int32).toInt := congrArg Int32.toInt c_807
        have c_810 : M797.2.1 77 5 = (M.2.1 77 10) := (W_e W796)
        have t_811 : (M797.2.1 77 5).toInt = (M.2.1 77 10).toInt := congrArg Int32.toInt c_810
        have c_812 : M797.2.1 77 67 = (M.2.1 77 67) := (W_n W796 (by decide) (W_n W791 (by decide) rfl))
        have t_813 : (M797.2.1 77 67).toInt = (M.2.1 77 67).toInt := congrArg Int32.toInt c_812
        have c_814 : M797.2.1 77 69 = (M.2.1 77 69) := (W_n W796 (by decide) (W_n W791 (by decide) rfl))
        have t_815 : (M797.2.1 77 69).toInt = (M.2.1 77 69).toInt := congrArg Int32.toInt c_814
        exact h (0 : Int32) M797 hG798 F799 (by decide) (by decide) (by omega) (by omega) (by omega) (by omega) (fun z => absurd z (by omega)) (fun z => absurd z (by decide)) (fun z => absurd z (by decide)) (fun z => absurd z (by decide)) (fun _ => by first | exact inl_e (by omega) (by omega) (q_lpx (by omega) (by omega) (by omega) (by omega)) | exact inl_e (by omega) (by omega) (q_nox (by omega) (by omega) (by omega) (by omega)) | exact inl_e (by omega) (by omega) (q_nmx (by omega) (by omega) (by omega) (by omega)) | exact inl_e (by omega) (by omega) (q_0x (by omega) (by omega) (by omega) (by omega) (by omega)))
set_option maxRecDepth 4000 in
set_option maxHeartbeats 0 in
theorem E_226 {X : mm_X} {d : Nat} {M : mm_M} {Q : Option Value → mm_M → Prop} {t : Nat → Int} {nn : Int} {a : Int} {sg : x_S} (hX : g_X X) (hd : 2 ≤ d) (hG : g_G M) (q1 : (M.2.1 77 7).toInt ≤ (M.2.1 77 6).toInt) (q2 : QK M) (q3 : (M.2.1 77 68).toInt = 1) (q4 : RS M t nn) (q5 : (M.2.1 77 10).toInt = a) (q6 : 0 ≤ nn) (q7 : nn ≤ 500) (q8 : TR M t nn) (q9 : W9 M) (q10 : PLk M sg) (q11 : (M.2.1 77 59).toInt + Wo M ((M.2.1 77 65).toInt).toNat = (M.2.1 77 69).toInt) (q12 : ¬ (x_kind t nn a = 0 ∧ (M.2.1 77 67).toInt = 0)) (h : ∀ (r : Int32) (M1 : mm_M), g_G M1 → FR md_qr M M1 → (0 ≤ r.toInt) → (r.toInt ≤ 1) → ((M1.2.1 77 7).toInt ≤ (M1.2.1 77 6).toInt) → ((M.2.1 77 7).toInt ≤ (M1.2.1 77 7).toInt) → (r.toInt = 1 → (M1.2.1 77 8).toInt = 0 ∨ (M.2.1 77 7).toInt < (M1.2.1 77 7).toInt) → (r.toInt = 1 → ¬ (M.2.1 77 8).toInt = 0) → ((r.toInt = 1 → QK M1)) → ((r.toInt = 1 → (M1.2.1 77 59).toInt + Wo M1 ((M1.2.1 77 65).toInt).toNat = (M1.2.1 77 69).toInt)) → ((r.toInt = 1 → RS M1 t nn)) → ((r.toInt = 1 → x_qq t nn sg 1 (M.2.1 77 67).toInt (M.2.1 77 69).toInt a = x_qq t nn sg (M1.2.1 77 68).toInt (M1.2.1 77 67).toInt (M1.2.1 77 69).toInt (M1.2.1 77 10).toInt)) → ((r.toInt = 0 → x_qq t nn sg 1 (M.2.1 77 67).toInt (M.2.1 77 69).toInt a = Sum.inl ((M1.2.1 77 4).toInt, (M1.2.1 77 5).toInt))) → Q (some (.int r)) M1) : mm_T X d 225 0 [.ref 77, .null] [] M Q := by
  have F0 : FR md_qr M M := FR.rf
  have b_1 := g_b hG (a := 77) (i := 7) (lo := 0) (hi := 500) rfl rfl
  have b_2 := g_b hG (a := 77) (i := 6) (lo := 0) (hi := 500) rfl rfl
  have b_3 := g_b hG (a := 77) (i := 68) (lo := 0) (hi := 1) rfl rfl
  have b_4 := g_b hG (a := 77) (i := 10) (lo := 0) (hi := 500) rfl rfl
  have b_5 := g_b hG (a := 77) (i := 67) (lo := 0) (hi := 8) rfl rfl
  have b_6 := g_b hG (a := 77) (i := 59) (lo := 0) (hi := 40) rfl rfl
  have b_7 := g_b hG (a := 77) (i := 65) (lo := 0) (hi := 48) rfl rfl
  have b_8 := g_b hG (a := 77) (i := 66) (lo := 0) (hi := 40) rfl rfl
  have b_9 := g_b hG (a := 77) (i := 69) (lo := 0) (hi := 40) rfl rfl
  have s_10 := QK_e q2
  have s_11 := Wx_b M ((M.2.1 77 65).toInt).toNat
  have b_12 := g_b hG (a := 77) (i := 8) (lo := 0) (hi := 5) rfl rfl
  have c_13 := RS_u q4 (a := a) (by omega)
  unfold x_R at c_13
  have z_14 := q10.2.1
  have z_15 := q10.2.2.1
  have z_16 := q10.2.2.2.1
  have z_17 := q10.1
  have z_18 := z_17.1
  have z_19 := z_17.2.1
  have z_20 := z_17.2.2.1
  have z_21 := z_17.2.2.2.1
  have z_22 := z_17.2.2.2.2.1
  have z_23 := z_17.2.2.2.2.2.1
  have b_24 := g_b hG (a := 77) (i := 11) (lo := 10) (hi := 60) rfl rfl
  have b_25 := g_b hG (a := 77) (i := 12) (lo := 0) (hi := 8) rfl rfl
  have b_26 := g_b hG (a := 77) (i := 13) (lo := 0) (hi := 12) rfl rfl
  have z_27 := RS_b q4 (a := a) (by omega)
  refine to_an (pc := 0) rw_226_0 rfl (to_c (pc := 1) rw_226_1 (x := (12 : Int32)) rfl rfl (s_v (pc := 3) rw_226_3 (dp0 hd (by decide)) (ls0 := [.ref 77, .int (12 : Int32)]) rfl (Nat.le_of_ble_eq_true rfl) (Nat.le_of_ble_eq_true rfl) rfl (to_rc rfl rfl rfl (g_o hG rfl)) rfl (to_an (pc := 0) rw_158_0 rfl (tt_gI (pc := 1) rw_158_1 (g_o hG rfl) (v := (M.2.1 77 8)) rfl (to_c (pc := 4) rw_158_4 (x := (1 : Int32)) rfl rfl (b_cne (pc := 5) rw_158_5 (A := (M.2.1 77 8).toInt) (B := 1) rfl rfl (fun h28 => ?_) (fun h28 => ?_)))))))
  · refine to_c (pc := 20) rw_158_20 (x := (0 : Int32)) rfl rfl (s_r1 (pc := 21) rw_158_21 (A := 0) rfl (by decide) (b_ine_f (pc := 6) rw_226_6 (A := 0) rfl (by decide) (to_an (pc := 9) rw_226_9 rfl (to_c (pc := 10) rw_226_10 (x := (13 : Int32)) rfl rfl (s_v (pc := 12) rw_226_12 (dp0 hd (by decide)) (ls0 := [.ref 77, .int (13 : Int32)]) rfl (Nat.le_of_ble_eq_true rfl) (Nat.le_of_ble_eq_true rfl) rfl (to_rc rfl rfl rfl (g_o hG rfl)) rfl (to_an (pc := 0) rw_158_0 rfl (tt_gI (pc := 1) rw_158_1 (g_o hG rfl) (v := (M.2.1 77 8)) rfl (to_c (pc := 4) rw_158_4 (x := (1 : Int32)) rfl rfl (b_cne (pc := 5) rw_158_5 (A := (M.2.1 77 8).toInt) (B := 1) rfl rfl (fun h29 => ?_) (fun h29 => ?_))))))))))
    · refine to_c (pc := 20) rw_158_20 (x := (0 : Int32)) rfl rfl (s_r1 (pc := 21) rw_158_21 (A := 0) rfl (by decide) (b_ieq_t (pc := 15) rw_226_15 (A := 0) rfl (by decide) (to_an (pc := 82) rw_226_82 rfl (to_c (pc := 83) rw_226_83 (x := (41 : Int32)) rfl rfl (s_v (pc := 85) rw_226_85 (dp0 hd (by decide)) (ls0 := [.ref 77, .int (41 : Int32)]) rfl (Nat.le_of_ble_eq_true rfl) (Nat.le_of_ble_eq_true rfl) rfl (to_rc rfl rfl rfl (g_o hG rfl)) rfl (to_an (pc := 0) rw_159_0 rfl (tt_gI (pc := 1) rw_159_1 (g_o hG rfl) (v := (M.2.1 77 8)) rfl (to_c (pc := 4) rw_159_4 (x := (4 : Int32)) rfl rfl (b_cne (pc := 5) rw_159_5 (A := (M.2.1 77 8).toInt) (B := 4) rfl rfl (fun h30 => ?_) (fun h30 => ?_))))))))))
      · refine to_c (pc := 20) rw_159_20 (x := (0 : Int32)) rfl rfl (s_r1 (pc := 21) rw_159_21 (A := 0) rfl (by decide) (b_ieq_t (pc := 88) rw_226_88 (A := 0) rfl (by decide) (to_an (pc := 98) rw_226_98 rfl (to_c (pc := 99) rw_226_99 (x := (1 : Int32)) rfl rfl (s_v (pc := 100) rw_226_100 (dp0 hd (by decide)) (ls0 := [.ref 77, .int (1 : Int32)]) rfl (Nat.le_of_ble_eq_true rfl) (Nat.le_of_ble_eq_true rfl) rfl (to_rc rfl rfl rfl (g_o hG rfl)) rfl (to_an (pc := 0) rw_152_0 rfl (to_in (pc := 1) rw_152_1 rfl (s_pI (pc := 2) rw_152_2 hG rfl (fun M32 W31 => ?_)))))))))
        have hG33 := g_wf hG W31 rfl rfl (by decide)
        have F34 := FR.w F0 W31 (show 77 = 77 ∧ (4 = 4 ∨ 4 = 5 ∨ 7 ≤ 4 ∧ 4 ≤ 10) ∨ 77 = 77 ∧ (4 = 59 ∨ 65 ≤ 4 ∧ 4 ≤ 69) ∨ 112 ≤ 77 ∧ 77 ≤ 114 ∧ 40 ≤ 4 ∨ 77 = 115 ∨ 77 = 116 by decide)
        refine to_an (pc := 5) rw_152_5 rfl (to_an (pc := 6) rw_152_6 rfl ?_)
        have c_35 : M32.2.1 77 10 = (M.2.1 77 10) := (W_n W31 (by decide) rfl)
        refine tt_gI (pc := 7) rw_152_7 (g_o hG33 rfl) (v := (M.2.1 77 10)) c_35 (s_pI (pc := 10) rw_152_10 hG33 rfl (fun M37 W36 => ?_))
        have hG38 := g_wf hG33 W36 rfl rfl (by decide)
        have F39 := FR.w F34 W36 (show 77 = 77 ∧ (5 = 4 ∨ 5 = 5 ∨ 7 ≤ 5 ∧ 5 ≤ 10) ∨ 77 = 77 ∧ (5 = 59 ∨ 65 ≤ 5 ∧ 5 ≤ 69) ∨ 112 ≤ 77 ∧ 77 ≤ 114 ∧ 40 ≤ 5 ∨ 77 = 115 ∨ 77 = 116 by decide)
        refine to_c (pc := 13) rw_152_13 (x := (0 : Int32)) rfl rfl (s_r1 (pc := 14) rw_152_14 (A := 0) rfl (by decide) (s_r1 (pc := 103) rw_226_103 (A := 0) rfl (by decide) ?_))
        have k_40 : (0 : Int32).toInt = 0 := rfl
        have c_41 : M37.2.1 77 7 = (M.2.1 77 7) := (W_n W36 (by decide) (W_n W31 (by decide) rfl))
        have t_42 : (M37.2.1 77 7).toInt = (M.2.1 77 7).toInt := congrArg Int32.toInt c_41
        have c_43 : M37.2.1 77 6 = (M.2.1 77 6) := (W_n W36 (by decide) (W_n W31 (by decide) rfl))
        have t_44 : (M37.2.1 77 6).toInt = (M.2.1 77 6).toInt := congrArg Int32.toInt c_43
        have c_45 : M37.2.1 77 8 = (M.2.1 77 8) := (W_n W36 (by decide) (W_n W31 (by decide) rfl))
        have t_46 : (M37.2.1 77 8).toInt = (M.2.1 77 8).toInt := congrArg Int32.toInt c_45
        have c_47 : M37.2.1 77 4 = (1 : Int32) := (W_n W36 (by decide) (W_e W31))
        have k_48 : (1 : Int32).toInt = 1 := rfl
        have t_49 : (M37.2.1 77 4).toInt = (1 : Int32).toInt := congrArg Int32.toInt c_47
        have c_50 : M37.2.1 77 5 = (M.2.1 77 10) := (W_e W36)
        have t_51 : (M37.2.1 77 5).toInt = (M.2.1 77 10).toInt := congrArg Int32.toInt c_50
        have c_52 : M37.2.1 77 67 = (M.2.1 77 67) := (W_n W36 (by decide) (W_n W31 (by decide) rfl))
        have t_53 : (M37.2.1 77 67).toInt = (M.2.1 77 67).toInt := congrArg Int32.toInt c_52
        have c_54 : M37.2.1 77 69 = (M.2.1 77 69) := (W_n W36 (by decide) (W_n W31 (by decide) rfl))
        have t_55 : (M37.2.1 77 69).toInt = (M.2.1 77 69).toInt := congrArg Int32.toInt c_54
        exact h (0 : Int32) M37 hG38 F39 (by decide) (by decide) (by omega) (by omega) (by omega) (by omega) (fun z => absurd z (by omega)) (fun z => absurd z (by decide)) (fun z => absurd z (by decide)) (fun z => absurd z (by decide)) (fun _ => by first | exact inl_e (by omega) (by omega) (q_aox (by omega) (by omega) (by omega) (by omega) (by omega)) | exact inl_e (by omega) (by omega) (q_1x (by omega) (by omega) (by omega) (by omega) (by omega)))
      · refine to_an (pc := 8) rw_159_8 rfl (tt_gI (pc := 9) rw_159_9 (g_o hG rfl) (v := (M.2.1 77 9)) rfl (to_in (pc := 12) rw_159_12 rfl (b_cne (pc := 13) rw_159_13 (A := (M.2.1 77 9).toInt) (B := 41) rfl rfl (fun h56 => ?_) (fun h56 => ?_))))
        · refine to_c (pc := 20) rw_159_20 (x := (0 : Int32)) rfl rfl (s_r1 (pc := 21) rw_159_21 (A := 0) rfl (by decide) (b_ieq_t (pc := 88) rw_226_88 (A := 0) rfl (by decide) (to_an (pc := 98) rw_226_98 rfl (to_c (pc := 99) rw_226_99 (x := (1 : Int32)) rfl rfl (s_v (pc := 100) rw_226_100 (dp0 hd (by decide)) (ls0 := [.ref 77, .int (1 : Int32)]) rfl (Nat.le_of_ble_eq_true rfl) (Nat.le_of_ble_eq_true rfl) rfl (to_rc rfl rfl rfl (g_o hG rfl)) rfl (to_an (pc := 0) rw_152_0 rfl (to_in (pc := 1) rw_152_1 rfl (s_pI (pc := 2) rw_152_2 hG rfl (fun M58 W57 => ?_)))))))))
          have hG59 := g_wf hG W57 rfl rfl (by decide)
          have F60 := FR.w F0 W57 (show 77 = 77 ∧ (4 = 4 ∨ 4 = 5 ∨ 7 ≤ 4 ∧ 4 ≤ 10) ∨ 77 = 77 ∧ (4 = 59 ∨ 65 ≤ 4 ∧ 4 ≤ 69) ∨ 112 ≤ 77 ∧ 77 ≤ 114 ∧ 40 ≤ 4 ∨ 77 = 115 ∨ 77 = 116 by decide)
          refine to_an (pc := 5) rw_152_5 rfl (to_an (pc := 6) rw_152_6 rfl ?_)
          have c_61 : M58.2.1 77 10 = (M.2.1 77 10) := (W_n W57 (by decide) rfl)
          refine tt_gI (pc := 7) rw_152_7 (g_o hG59 rfl) (v := (M.2.1 77 10)) c_61 (s_pI (pc := 10) rw_152_10 hG59 rfl (fun M63 W62 => ?_))
          have hG64 := g_wf hG59 W62 rfl rfl (by decide)
          have F65 := FR.w F60 W62 (show 77 = 77 ∧ (5 = 4 ∨ 5 = 5 ∨ 7 ≤ 5 ∧ 5 ≤ 10) ∨ 77 = 77 ∧ (5 = 59 ∨ 65 ≤ 5 ∧ 5 ≤ 69) ∨ 112 ≤ 77 ∧ 77 ≤ 114 ∧ 40 ≤ 5 ∨ 77 = 115 ∨ 77 = 116 by decide)
          refine to_c (pc := 13) rw_152_13 (x := (0 : Int32)) rfl rfl (s_r1 (pc := 14) rw_152_14 (A := 0) rfl (by decide) (s_r1 (pc := 103) rw_226_103 (A := 0) rfl (by decide) ?_))
          have k_66 : (0 : Int32).toInt = 0 := rfl
          have c_67 : M63.2.1 77 7 = (M.2.1 77 7) := (W_n W62 (by decide) (W_n W57 (by decide) rfl))
          have t_68 : (M63.2.1 77 7).toInt = (M.2.1 77 7).toInt := congrArg Int32.toInt c_67
          have c_69 : M63.2.1 77 6 = (M.2.1 77 6) := (W_n W62 (by decide) (W_n W57 (by decide) rfl))
          have t_70 : (M63.2.1 77 6).toInt = (M.2.1 77 6).toInt := congrArg Int32.toInt c_69
          have c_71 : M63.2.1 77 8 = (M.2.1 77 8) := (W_n W62 (by decide) (W_n W57 (by decide) rfl))
          have t_72 : (M63.2.1 77 8).toInt = (M.2.1 77 8).toInt := congrArg Int32.toInt c_71
          have c_73 : M63.2.1 77 4 = (1 : Int32) := (W_n W62 (by decide) (W_e W57))
          have k_74 : (1 : Int32).toInt = 1 := rfl
          have t_75 : (M63.2.1 77 4).toInt = (1 : Int32).toInt := congrArg Int32.toInt c_73
          have c_76 : M63.2.1 77 5 = (M.2.1 77 10) := (W_e W62)
          have t_77 : (M63.2.1 77 5).toInt = (M.2.1 77 10).toInt := congrArg Int32.toInt c_76
          have c_78 : M63.2.1 77 67 = (M.2.1 77 67) := (W_n W62 (by decide) (W_n W57 (by decide) rfl))
          have t_79 : (M63.2.1 77 67).toInt = (M.2.1 77 67).toInt := congrArg Int32.toInt c_78
          have c_80 : M63.2.1 77 69 = (M.2.1 77 69) := (W_n W62 (by decide) (W_n W57 (by decide) rfl))
          have t_81 : (M63.2.1 77 69).toInt = (M.2.1 77 69).toInt := congrArg Int32.toInt c_80
          exact h (0 : Int32) M63 hG64 F65 (by decide) (by decide) (by omega) (by omega) (by omega) (by omega) (fun z => absurd z (by omega)) (fun z => absurd z (by decide)) (fun z => absurd z (by decide)) (fun z => absurd z (by decide)) (fun _ => by first | exact inl_e (by omega) (by omega) (q_aox (by omega) (by omega) (by omega) (by omega) (by omega)) | exact inl_e (by omega) (by omega) (q_1x (by omega) (by omega) (by omega) (by omega) (by omega)))
        · refine to_c (pc := 16) rw_159_16 (x := (1 : Int32)) rfl rfl (to_go (pc := 17) rw_159_17 (s_r1 (pc := 21) rw_159_21 (A := 1) rfl (by decide) (b_ieq_f (pc := 88) rw_226_88 (A := 1) rfl (by decide) (to_an (pc := 91) rw_226_91 rfl (tt_gI (pc := 92) rw_226_92 (g_o hG rfl) (v := (M.2.1 77 67)) rfl (b_ine (pc := 95) rw_226_95 (A := (M.2.1 77 67).toInt) rfl (fun h82 => ?_) (fun h82 => ?_)))))))
          · refine to_an (pc := 104) rw_226_104 rfl (to_c (pc := 105) rw_226_105 (x := (1 : Int32)) rfl rfl (s_v (pc := 106) rw_226_106 (dp0 hd (by decide)) (ls0 := [.ref 77, .int (1 : Int32), .null, .null, .null]) rfl (Nat.le_of_ble_eq_true rfl) (Nat.le_of_ble_eq_true rfl) rfl (to_rc rfl rfl rfl (g_o hG rfl)) rfl ?_))
            have k_83 : (1 : Int32).toInt = 1 := rfl
            refine C_223 hX (dp1 hd (by decide)) hG (by omega) (by omega) (by omega) q2 (l := (1 : Int32)) (fun M90 hG86 F85 p_87 p_88 p_89 => ?_)
            have F91 := FR.c F0 F85 (fun a i z => show a = 77 ∧ (i = 4 ∨ i = 5 ∨ 7 ≤ i ∧ i ≤ 10) ∨ a = 77 ∧ (i = 59 ∨ 65 ≤ i ∧ i ≤ 69) ∨ 112 ≤ a ∧ a ≤ 114 ∧ 40 ≤ i ∨ a = 115 ∨ a = 116 by have z : a = 77 ∧ (i = 59 ∨ i = 65 ∨ i = 66) ∨ 112 ≤ a ∧ a ≤ 114 ∧ 40 ≤ i ∨ a = 116 := z; omega)
            have s_92 := p_88
            have b_93 := g_b hG86 (a := 77) (i := 59) (lo := 0) (hi := 40) rfl rfl
            have b_94 := g_b hG86 (a := 77) (i := 65) (lo := 0) (hi := 48) rfl rfl
            have b_95 := g_b hG86 (a := 77) (i := 66) (lo := 0) (hi := 40) rfl rfl
            have c_96 : M90.2.1 77 67 = (M.2.1 77 67) := (F_n F85 (show ¬ (77 = 77 ∧ (67 = 59 ∨ 67 = 65 ∨ 67 = 66) ∨ 112 ≤ 77 ∧ 77 ≤ 114 ∧ 40 ≤ 67 ∨ 77 = 116) by decide) rfl)
            have t_97 : (M90.2.1 77 67).toInt = (M.2.1 77 67).toInt := congrArg Int32.toInt c_96
            have c_98 : M90.2.1 77 68 = (M.2.1 77 68) := (F_n F85 (show ¬ (77 = 77 ∧ (68 = 59 ∨ 68 = 65 ∨ 68 = 66) ∨ 112 ≤ 77 ∧ 77 ≤ 114 ∧ 40 ≤ 68 ∨ 77 = 116) by decide) rfl)
            have t_99 : (M90.2.1 77 68).toInt = (M.2.1 77 68).toInt := congrArg Int32.toInt c_98
            have c_100 : M90.2.1 77 69 = (M.2.1 77 69) := (F_n F85 (show ¬ (77 = 77 ∧ (69 = 59 ∨ 69 = 65 ∨ 69 = 66) ∨ 112 ≤ 77 ∧ 77 ≤ 114 ∧ 40 ≤ 69 ∨ 77 = 116) by decide) rfl)
            have t_101 : (M90.2.1 77 69).toInt = (M.2.1 77 69).toInt := congrArg Int32.toInt c_100
            have s_102 := QK_e p_87
            have s_103 := Wx_b M90 ((M90.2.1 77 65).toInt).toNat
            have s_t := p_89 rfl
            have s_n := p_87.2.1 (((M90.2.1 77 65).toInt).toNat - 1)
            have s_s := Wx_s M90 (((M90.2.1 77 65).toInt).toNat - 1)
            have s_p : 1 ≤ (M90.2.1 77 65).toInt := by omega
            rw [show ((M90.2.1 77 65).toInt).toNat - 1 + 1 = ((M90.2.1 77 65).toInt).toNat by omega] at s_s
            have s_n := s_n (by omega)
            have s_z : (M90.2.1 115 (((M90.2.1 77 65).toInt).toNat - 1)).toInt = 0 := by omega
            have s_s := s_s.1 s_z
            refine to_an (pc := 109) rw_226_109 rfl (to_dupr (pc := 110) rw_226_110 (tt_gI (pc := 111) rw_226_111 (g_o hG86 rfl) (v := (M90.2.1 77 65)) rfl (to_c (pc := 114) rw_226_114 (x := (1 : Int32)) rfl rfl (s_sub (pc := 115) rw_226_115 (A := (M90.2.1 77 65).toInt) (B := 1) rfl rfl (by omega) (fun v104 e105 => s_pI (pc := 116) rw_226_116 hG86 rfl (fun M107 W106 => ?_))))))
            have hG108 := g_w hG86 W106 (A := v104.toInt) rfl (lo := 0) (hi := 48) rfl rfl (by omega) (by decide)
            have F109 := FR.w F91 W106 (show 77 = 77 ∧ (65 = 4 ∨ 65 = 5 ∨ 7 ≤ 65 ∧ 65 ≤ 10) ∨ 77 = 77 ∧ (65 = 59 ∨ 65 ≤ 65 ∧ 65 ≤ 69) ∨ 112 ≤ 77 ∧ 77 ≤ 114 ∧ 40 ≤ 65 ∨ 77 = 115 ∨ 77 = 116 by decide)
            refine to_an (pc := 119) rw_226_119 rfl (to_dupr (pc := 120) rw_226_120 ?_)
            have c_110 : M107.2.1 77 67 = (M.2.1 77 67) := (W_n W106 (by decide) c_96)
            refine tt_gI (pc := 121) rw_226_121 (g_o hG108 rfl) (v := (M.2.1 77 67)) c_110 (to_c (pc := 124) rw_226_124 (x := (1 : Int32)) rfl rfl (s_sub (pc := 125) rw_226_125 (A := (M.2.1 77 67).toInt) (B := 1) rfl rfl (by omega) (fun v111 e112 => s_pI (pc := 126) rw_226_126 hG108 rfl (fun M114 W113 => ?_))))
            have hG115 := g_w hG108 W113 (A := v111.toInt) rfl (lo := 0) (hi := 8) rfl rfl (by omega) (by decide)
            have F116 := FR.w F109 W113 (show 77 = 77 ∧ (67 = 4 ∨ 67 = 5 ∨ 7 ≤ 67 ∧ 67 ≤ 10) ∨ 77 = 77 ∧ (67 = 59 ∨ 65 ≤ 67 ∧ 67 ≤ 69) ∨ 112 ≤ 77 ∧ 77 ≤ 114 ∧ 40 ≤ 67 ∨ 77 = 115 ∨ 77 = 116 by decide)
            refine to_an (pc := 129) rw_226_129 rfl (s_v (pc := 130) rw_226_130 (dp0 hd (by decide)) (ls0 := [.ref 77]) rfl (Nat.le_of_ble_eq_true rfl) (Nat.le_of_ble_eq_true rfl) rfl (to_rc rfl rfl rfl (g_o hG115 rfl)) rfl ?_)
            have c_117 : M114.2.1 77 7 = (M.2.1 77 7) := (W_n W113 (by decide) (W_n W106 (by decide) (F_n F85 (show ¬ (77 = 77 ∧ (7 = 59 ∨ 7 = 65 ∨ 7 = 66) ∨ 112 ≤ 77 ∧ 77 ≤ 114 ∧ 40 ≤ 7 ∨ 77 = 116) by decide) rfl)))
            have t_118 : (M114.2.1 77 7).toInt = (M.2.1 77 7).toInt := congrArg Int32.toInt c_117
            have c_119 : M114.2.1 77 6 = (M.2.1 77 6) := (W_n W113 (by decide) (W_n W106 (by decide) (F_n F85 (show ¬ (77 = 77 ∧ (6 = 59 ∨ 6 = 65 ∨ 6 = 66) ∨ 112 ≤ 77 ∧ 77 ≤ 114 ∧ 40 ≤ 6 ∨ 77 = 116) by decide) rfl)))
            have t_120 : (M114.2.1 77 6).toInt = (M.2.1 77 6).toInt := congrArg Int32.toInt c_119
            have c_121 : M114.2.1 77 10 = (M.2.1 77 10) := (W_n W113 (by decide) (W_n W106 (by decide) (F_n F85 (show ¬ (77 = 77 ∧ (10 = 59 ∨ 10 = 65 ∨ 10 = 66) ∨ 112 ≤ 77 ∧ 77 ≤ 114 ∧ 40 ≤ 10 ∨ 77 = 116) by decide) rfl)))
            have t_122 : (M114.2.1 77 10).toInt = (M.2.1 77 10).toInt := congrArg Int32.toInt c_121
            have j_123 := (RS_f (fun a i z => W_n W113 (by /-r77-/ omega) rfl) (RS_f (fun a i z => W_n W106 (by /-r77-/ omega) rfl) (RS_f (fun a i z => F_n F85 (show ¬ (a = 77 ∧ (i = 59 ∨ i = 65 ∨ i = 66) ∨ 112 ≤ a ∧ a ≤ 114 ∧ 40 ≤ i ∨ a = 116) by omega) rfl) q4)))
            have z_124 := RS_b j_123 (a := a) (by omega)
            have j_125 := (TR_f (fun a i z => W_n W113 (by /-r77-/ omega) rfl) (TR_f (fun a i z => W_n W106 (by /-r77-/ omega) rfl) (TR_f (fun a i z => F_n F85 (show ¬ (a = 77 ∧ (i = 59 ∨ i = 65 ∨ i = 66) ∨ 112 ≤ a ∧ a ≤ 114 ∧ 40 ≤ i ∨ a = 116) by omega) rfl) q8)))
            have j_126 := (W9_f (fun a i z => W_n W113 (by /-r77-/ omega) rfl) (W9_f (fun a i z => W_n W106 (by /-r77-/ omega) rfl) (W9_f (fun a i z => F_n F85 (show ¬ (a = 77 ∧ (i = 59 ∨ i = 65 ∨ i = 66) ∨ 112 ≤ a ∧ a ≤ 114 ∧ 40 ≤ i ∨ a = 116) by omega) rfl) q9)))
            refine E_156 hX (dp1 hd (by decide)) hG115 (by omega) (by omega) (by omega) (by omega) j_125 j_126  (fun M133 hG128 F127 p_129 p_130 p_131 p_132 => ?_)
            have F134 := FR.c F116 F127 (fun a i z => show a = 77 ∧ (i = 4 ∨ i = 5 ∨ 7 ≤ i ∧ i ≤ 10) ∨ a = 77 ∧ (i = 59 ∨ 65 ≤ i ∧ i ≤ 69) ∨ 112 ≤ a ∧ a ≤ 114 ∧ 40 ≤ i ∨ a = 115 ∨ a = 116 by have z : a = 77 ∧ 7 ≤ i ∧ i ≤ 10 := z; omega)
            have b_135 := g_b hG128 (a := 77) (i := 7) (lo := 0) (hi := 500) rfl rfl
            have c_136 : M133.2.1 77 6 = (M.2.1 77 6) := (F_n F127 (show ¬ (77 = 77 ∧ 7 ≤ 6 ∧ 6 ≤ 10) by decide) c_119)
            have t_137 : (M133.2.1 77 6).toInt = (M.2.1 77 6).toInt := congrArg Int32.toInt c_136
            have b_138 := g_b hG128 (a := 77) (i := 8) (lo := 0) (hi := 5) rfl rfl
            have b_139 := g_b hG128 (a := 77) (i := 10) (lo := 0) (hi := 500) rfl rfl
            have z_140 := RS_s p_132.2 (a := a) (by omega)
            refine to_c (pc := 133) rw_226_133 (x := (1 : Int32)) rfl rfl (s_r1 (pc := 134) rw_226_134 (A := 1) rfl (by decide) ?_)
            have c_141 : M133.2.1 77 59 = (M90.2.1 77 59) := (F_n F127 (show ¬ (77 = 77 ∧ 7 ≤ 59 ∧ 59 ≤ 10) by decide) (W_n W113 (by decide) (W_n W106 (by decide) rfl)))
            have t_142 : (M133.2.1 77 59).toInt = (M90.2.1 77 59).toInt := congrArg Int32.toInt c_141
            have c_143 : M133.2.1 77 65 = v104 := (F_n F127 (show ¬ (77 = 77 ∧ 7 ≤ 65 ∧ 65 ≤ 10) by decide) (W_n W113 (by decide) (W_e W106)))
            have t_144 : (M133.2.1 77 65).toInt = v104.toInt := congrArg Int32.toInt c_143
            have c_145 : M133.2.1 77 66 = (M90.2.1 77 66) := (F_n F127 (show ¬ (77 = 77 ∧ 7 ≤ 66 ∧ 66 ≤ 10) by decide) (W_n W113 (by decide) (W_n W106 (by decide) rfl)))
            have t_146 : (M133.2.1 77 66).toInt = (M90.2.1 77 66).toInt := congrArg Int32.toInt c_145
            have c_147 : M133.2.1 77 67 = v111 := (F_n F127 (show ¬ (77 = 77 ∧ 7 ≤ 67 ∧ 67 ≤ 10) by decide) (W_e W113))
            have t_148 : (M133.2.1 77 67).toInt = v111.toInt := congrArg Int32.toInt c_147
            have c_149 : M133.2.1 77 68 = (M.2.1 77 68) := (F_n F127 (show ¬ (77 = 77 ∧ 7 ≤ 68 ∧ 68 ≤ 10) by decide) (W_n W113 (by decide) (W_n W106 (by decide) c_98)))
            have t_150 : (M133.2.1 77 68).toInt = (M.2.1 77 68).toInt := congrArg Int32.toInt c_149
            have c_151 : M133.2.1 77 69 = (M.2.1 77 69) := (F_n F127 (show ¬ (77 = 77 ∧ 7 ≤ 69 ∧ 69 ≤ 10) by decide) (W_n W113 (by decide) (W_n W106 (by decide) c_100)))
            have t_152 : (M133.2.1 77 69).toInt = (M.2.1 77 69).toInt := congrArg Int32.toInt c_151
            have s_154 := Wx_f (M := M90) (M1 := M133) (((M90.2.1 77 65).toInt).toNat - 1) (fun i z => (F_n F127 (show ¬ (115 = 77 ∧ 7 ≤ i ∧ i ≤ 10) by omega) (W_n W113 (by omega) (W_n W106 (by omega) rfl))))
            have j_153 : QK M133 := QK_i (by unfold QK_c; rw [show ((M133.2.1 77 65).toInt).toNat = ((M90.2.1 77 65).toInt).toNat - 1 by omega]; refine ⟨by omega, by omega, by omega, by omega⟩) (fun i z => by rw [(F_n F127 (show ¬ (115 = 77 ∧ 7 ≤ i ∧ i ≤ 10) by omega) (W_n W113 (by omega) (W_n W106 (by omega) rfl)))]; exact p_87.2.1 i (by omega)) (by rw [(F_n F127 (show ¬ (77 = 77 ∧ 7 ≤ 59 ∧ 59 ≤ 10) by decide) (W_n W113 (by omega) (W_n W106 (by omega) rfl)))]; exact KN_f (fun a i z => (F_n F127 (show ¬ (a = 77 ∧ 7 ≤ i ∧ i ≤ 10) by omega) (W_n W113 (by omega) (W_n W106 (by omega) rfl)))) p_87.2.2)
            exact h (1 : Int32) M133 hG128 F134 (by decide) (by decide) (by omega) (by omega) (by omega) (by omega) (fun _ => j_153) (fun _ => by rw [show ((M133.2.1 77 65).toInt).toNat = ((M90.2.1 77 65).toInt).toNat - 1 by omega]; omega) (fun _ => p_132.1) (fun _ => (q_rp (by omega) (by omega) (by omega) (by omega)).trans (q_w (by omega) (by omega) (by omega) (by omega))) (fun z => absurd z (by decide))
          · refine to_an (pc := 98) rw_226_98 rfl (to_c (pc := 99) rw_226_99 (x := (1 : Int32)) rfl rfl (s_v (pc := 100) rw_226_100 (dp0 hd (by decide)) (ls0 := [.ref 77, .int (1 : Int32)]) rfl (Nat.le_of_ble_eq_true rfl) (Nat.le_of_ble_eq_true rfl) rfl (to_rc rfl rfl rfl (g_o hG rfl)) rfl (to_an (pc := 0) rw_152_0 rfl (to_in (pc := 1) rw_152_1 rfl (s_pI (pc := 2) rw_152_2 hG rfl (fun M156 W155 => ?_))))))
            have hG157 := g_wf hG W155 rfl rfl (by decide)
            have F158 := FR.w F0 W155 (show 77 = 77 ∧ (4 = 4 ∨ 4 = 5 ∨ 7 ≤ 4 ∧ 4 ≤ 10) ∨ 77 = 77 ∧ (4 = 59 ∨ 65 ≤ 4 ∧ 4 ≤ 69) ∨ 112 ≤ 77 ∧ 77 ≤ 114 ∧ 40 ≤ 4 ∨ 77 = 115 ∨ 77 = 116 by decide)
            refine to_an (pc := 5) rw_152_5 rfl (to_an (pc := 6) rw_152_6 rfl ?_)
            have c_159 : M156.2.1 77 10 = (M.2.1 77 10) := (W_n W155 (by decide) rfl)
            refine tt_gI (pc := 7) rw_152_7 (g_o hG157 rfl) (v := (M.2.1 77 10)) c_159 (s_pI (pc := 10) rw_152_10 hG157 rfl (fun M161 W160 => ?_))
            have hG162 := g_wf hG157 W160 rfl rfl (by decide)
            have F163 := FR.w F158 W160 (show 77 = 77 ∧ (5 = 4 ∨ 5 = 5 ∨ 7 ≤ 5 ∧ 5 ≤ 10) ∨ 77 = 77 ∧ (5 = 59 ∨ 65 ≤ 5 ∧ 5 ≤ 69) ∨ 112 ≤ 77 ∧ 77 ≤ 114 ∧ 40 ≤ 5 ∨ 77 = 115 ∨ 77 = 116 by decide)
            refine to_c (pc := 13) rw_152_13 (x := (0 : Int32)) rfl rfl (s_r1 (pc := 14) rw_152_14 (A := 0) rfl (by decide) (s_r1 (pc := 103) rw_226_103 (A := 0) rfl (by decide) ?_))
            have k_164 : (0 : Int32).toInt = 0 := rfl
            have c_165 : M161.2.1 77 7 = (M.2.1 77 7) := (W_n W160 (by decide) (W_n W155 (by decide) rfl))
            have t_166 : (M161.2.1 77 7).toInt = (M.2.1 77 7).toInt := congrArg Int32.toInt c_165
            have c_167 : M161.2.1 77 6 = (M.2.1 77 6) := (W_n W160 (by decide) (W_n W155 (by decide) rfl))
            have t_168 : (M161.2.1 77 6).toInt = (M.2.1 77 6).toInt := congrArg Int32.toInt c_167
            have c_169 : M161.2.1 77 8 = (M.2.1 77 8) := (W_n W160 (by decide) (W_n W155 (by decide) rfl))
            have t_170 : (M161.2.1 77 8).toInt = (M.2.1 77 8).toInt := congrArg Int32.toInt c_169
            have c_171 : M161.2.1 77 4 = (1 : Int32) := (W_n W160 (by decide) (W_e W155))
            have k_172 : (1 : Int32).toInt = 1 := rfl
            have t_173 : (M161.2.1 77 4).toInt = (1 : Int32).toInt := congrArg Int32.toInt c_171
            have c_174 : M161.2.1 77 5 = (M.2.1 77 10) := (W_e W160)
            have t_175 : (M161.2.1 77 5).toInt = (M.2.1 77 10).toInt := congrArg Int32.toInt c_174
            have c_176 : M161.2.1 77 67 = (M.2.1 77 67) := (W_n W160 (by decide) (W_n W155 (by decide) rfl))
            have t_177 : (M161.2.1 77 67).toInt = (M.2.1 77 67).toInt := congrArg Int32.toInt c_176
            have c_178 : M161.2.1 77 69 = (M.2.1 77 69) := (W_n W160 (by decide) (W_n W155 (by decide) rfl))
            have t_179 : (M161.2.1 77 69).toInt = (M.2.1 77 69).toInt := congrArg Int32.toInt c_178
            exact h (0 : Int32) M161 hG162 F163 (by decide) (by decide) (by omega) (by omega) (by omega) (by omega) (fun z => absurd z (by omega)) (fun z => absurd z (by decide)) (fun z => absurd z (by decide)) (fun z => absurd z (by decide)) (fun _ => by first | exact inl_e (by omega) (by omega) (q_aox (by omega) (by omega) (by omega) (by omega) (by omega)) | exact inl_e (by omega) (by omega) (q_1x (by omega) (by omega) (by omega) (by omega) (by omega)))
    · refine to_an (pc := 8) rw_158_8 rfl (tt_gI (pc := 9) rw_158_9 (g_o hG rfl) (v := (M.2.1 77 9)) rfl (to_in (pc := 12) rw_158_12 rfl (b_cne (pc := 13) rw_158_13 (A := (M.2.1 77 9).toInt) (B := 13) rfl rfl (fun h180 => ?_) (fun h180 => ?_))))
      · refine to_c (pc := 20) rw_158_20 (x := (0 : Int32)) rfl rfl (s_r1 (pc := 21) rw_158_21 (A := 0) rfl (by decide) (b_ieq_t (pc := 15) rw_226_15 (A := 0) rfl (by decide) (to_an (pc := 82) rw_226_82 rfl (to_c (pc := 83) rw_226_83 (x := (41 : Int32)) rfl rfl (s_v (pc := 85) rw_226_85 (dp0 hd (by decide)) (ls0 := [.ref 77, .int (41 : Int32)]) rfl (Nat.le_of_ble_eq_true rfl) (Nat.le_of_ble_eq_true rfl) rfl (to_rc rfl rfl rfl (g_o hG rfl)) rfl (to_an (pc := 0) rw_159_0 rfl (tt_gI (pc := 1) rw_159_1 (g_o hG rfl) (v := (M.2.1 77 8)) rfl (to_c (pc := 4) rw_159_4 (x := (4 : Int32)) rfl rfl (b_cne_t (pc := 5) rw_159_5 (A := (M.2.1 77 8).toInt) (B := 4) rfl rfl (by omega) (to_c (pc := 20) rw_159_20 (x := (0 : Int32)) rfl rfl (s_r1 (pc := 21) rw_159_21 (A := 0) rfl (by decide) ?_)))))))))))
        refine b_ieq_t (pc := 88) rw_226_88 (A := 0) rfl (by decide) (to_an (pc := 98) rw_226_98 rfl (to_c (pc := 99) rw_226_99 (x := (1 : Int32)) rfl rfl (s_v (pc := 100) rw_226_100 (dp0 hd (by decide)) (ls0 := [.ref 77, .int (1 : Int32)]) rfl (Nat.le_of_ble_eq_true rfl) (Nat.le_of_ble_eq_true rfl) rfl (to_rc rfl rfl rfl (g_o hG rfl)) rfl (to_an (pc := 0) rw_152_0 rfl (to_in (pc := 1) rw_152_1 rfl (s_pI (pc := 2) rw_152_2 hG rfl (fun M182 W181 => ?_)))))))
        have hG183 := g_wf hG W181 rfl rfl (by decide)
        have F184 := FR.w F0 W181 (show 77 = 77 ∧ (4 = 4 ∨ 4 = 5 ∨ 7 ≤ 4 ∧ 4 ≤ 10) ∨ 77 = 77 ∧ (4 = 59 ∨ 65 ≤ 4 ∧ 4 ≤ 69) ∨ 112 ≤ 77 ∧ 77 ≤ 114 ∧ 40 ≤ 4 ∨ 77 = 115 ∨ 77 = 116 by decide)
        refine to_an (pc := 5) rw_152_5 rfl (to_an (pc := 6) rw_152_6 rfl ?_)
        have c_185 : M182.2.1 77 10 = (M.2.1 77 10) := (W_n W181 (by decide) rfl)
        refine tt_gI (pc := 7) rw_152_7 (g_o hG183 rfl) (v := (M.2.1 77 10)) c_185 (s_pI (pc := 10) rw_152_10 hG183 rfl (fun M187 W186 => ?_))
        have hG188 := g_wf hG183 W186 rfl rfl (by decide)
        have F189 := FR.w F184 W186 (show 77 = 77 ∧ (5 = 4 ∨ 5 = 5 ∨ 7 ≤ 5 ∧ 5 ≤ 10) ∨ 77 = 77 ∧ (5 = 59 ∨ 65 ≤ 5 ∧ 5 ≤ 69) ∨ 112 ≤ 77 ∧ 77 ≤ 114 ∧ 40 ≤ 5 ∨ 77 = 115 ∨ 77 = 116 by decide)
        refine to_c (pc := 13) rw_152_13 (x := (0 : Int32)) rfl rfl (s_r1 (pc := 14) rw_152_14 (A := 0) rfl (by decide) (s_r1 (pc := 103) rw_226_103 (A := 0) rfl (by decide) ?_))
        have k_190 : (0 : Int32).toInt = 0 := rfl
        have c_191 : M187.2.1 77 7 = (M.2.1 77 7) := (W_n W186 (by decide) (W_n W181 (by decide) rfl))
        have t_192 : (M187.2.1 77 7).toInt = (M.2.1 77 7).toInt := congrArg Int32.toInt c_191
        have c_193 : M187.2.1 77 6 = (M.2.1 77 6) := (W_n W186 (by decide) (W_n W181 (by decide) rfl))
        have t_194 : (M187.2.1 77 6).toInt = (M.2.1 77 6).toInt := congrArg Int32.toInt c_193
        have c_195 : M187.2.1 77 8 = (M.2.1 77 8) := (W_n W186 (by decide) (W_n W181 (by decide) rfl))
        have t_196 : (M187.2.1 77 8).toInt = (M.2.1 77 8).toInt := congrArg Int32.toInt c_195
        have c_197 : M187.2.1 77 4 = (1 : Int32) := (W_n W186 (by decide) (W_e W181))
        have k_198 : (1 : Int32).toInt = 1 := rfl
        have t_199 : (M187.2.1 77 4).toInt = (1 : Int32).toInt := congrArg Int32.toInt c_197
        have c_200 : M187.2.1 77 5 = (M.2.1 77 10) := (W_e W186)
        have t_201 : (M187.2.1 77 5).toInt = (M.2.1 77 10).toInt := congrArg Int32.toInt c_200
        have c_202 : M187.2.1 77 67 = (M.2.1 77 67) := (W_n W186 (by decide) (W_n W181 (by decide) rfl))
        have t_203 : (M187.2.1 77 67).toInt = (M.2.1 77 67).toInt := congrArg Int32.toInt c_202
        have c_204 : M187.2.1 77 69 = (M.2.1 77 69) := (W_n W186 (by decide) (W_n W181 (by decide) rfl))
        have t_205 : (M187.2.1 77 69).toInt = (M.2.1 77 69).toInt := congrArg Int32.toInt c_204
        exact h (0 : Int32) M187 hG188 F189 (by decide) (by decide) (by omega) (by omega) (by omega) (by omega) (fun z => absurd z (by omega)) (fun z => absurd z (by decide)) (fun z => absurd z (by decide)) (fun z => absurd z (by decide)) (fun _ => by first | exact inl_e (by omega) (by omega) (q_aox (by omega) (by omega) (by omega) (by omega) (by omega)) | exact inl_e (by omega) (by omega) (q_1x (by omega) (by omega) (by omega) (by omega) (by omega)))
      · refine to_c (pc := 16) rw_158_16 (x := (1 : Int32)) rfl rfl (to_go (pc := 17) rw_158_17 (s_r1 (pc := 21) rw_158_21 (A := 1) rfl (by decide) (b_ieq_f (pc := 15) rw_226_15 (A := 1) rfl (by decide) (to_an (pc := 18) rw_226_18 rfl (tt_gI (pc := 19) rw_226_19 (g_o hG rfl) (v := (M.2.1 77 9)) rfl (to_c (pc := 22) rw_226_22 (x := (12 : Int32)) rfl rfl (b_cne_t (pc := 24) rw_226_24 (A := (M.2.1 77 9).toInt) (B := 12) rfl rfl (by omega) (to_c (pc := 31) rw_226_31 (x := (4 : Int32)) rfl rfl (to_isn (pc := 32) rw_226_32 (ls2 := [.ref 77, .int (4 : Int32)]) rfl rfl (to_an (pc := 33) rw_226_33 rfl (s_v (pc := 34) rw_226_34 (dp0 hd (by decide)) (ls0 := [.ref 77]) rfl (Nat.le_of_ble_eq_true rfl) (Nat.le_of_ble_eq_true rfl) rfl (to_rc rfl rfl rfl (g_o hG rfl)) rfl ?_)))))))))))
        refine to_an (pc := 0) rw_224_0 rfl (tt_gI (pc := 1) rw_224_1 (g_o hG rfl) (v := (M.2.1 77 69)) rfl (to_c (pc := 4) rw_224_4 (x := (40 : Int32)) rfl rfl (b_cne (pc := 6) rw_224_6 (A := (M.2.1 77 69).toInt) (B := 40) rfl rfl (fun h206 => ?_) (fun h206 => ?_))))
        · refine to_an (pc := 15) rw_224_15 rfl (to_dupr (pc := 16) rw_224_16 (tt_gI (pc := 17) rw_224_17 (g_o hG rfl) (v := (M.2.1 77 69)) rfl (to_c (pc := 20) rw_224_20 (x := (1 : Int32)) rfl rfl (s_add (pc := 21) rw_224_21 (A := (M.2.1 77 69).toInt) (B := 1) rfl rfl (by omega) (fun v207 e208 => s_pI (pc := 22) rw_224_22 hG rfl (fun M210 W209 => ?_))))))
          have hG211 := g_w hG W209 (A := v207.toInt) rfl (lo := 0) (hi := 40) rfl rfl (by omega) (by decide)
          have F212 := FR.w F0 W209 (show 77 = 77 ∧ (69 = 4 ∨ 69 = 5 ∨ 7 ≤ 69 ∧ 69 ≤ 10) ∨ 77 = 77 ∧ (69 = 59 ∨ 65 ≤ 69 ∧ 69 ≤ 69) ∨ 112 ≤ 77 ∧ 77 ≤ 114 ∧ 40 ≤ 69 ∨ 77 = 115 ∨ 77 = 116 by decide)
          refine to_c (pc := 25) rw_224_25 (x := (1 : Int32)) rfl rfl (s_r1 (pc := 26) rw_224_26 (A := 1) rfl (by decide) (b_ine_t (pc := 37) rw_226_37 (A := 1) rfl (by decide) (to_an (pc := 42) rw_226_42 rfl (to_an (pc := 43) rw_226_43 rfl (to_in (pc := 44) rw_226_44 rfl (s_v (pc := 45) rw_226_45 (dp0 hd (by decide)) (ls0 := [.ref 77, .int (4 : Int32)]) rfl (Nat.le_of_ble_eq_true rfl) (Nat.le_of_ble_eq_true rfl) rfl (to_rc rfl rfl rfl (g_o hG211 rfl)) rfl (to_in (pc := 0) rw_220_0 rfl (to_c (pc := 1) rw_220_1 (x := (2 : Int32)) rfl rfl (b_cne_t (pc := 2) rw_220_2 (A := 4) (B := 2) rfl rfl (by decide) (to_in (pc := 9) rw_220_9 rfl (to_c (pc := 10) rw_220_10 (x := (3 : Int32)) rfl rfl ?_)))))))))))
          refine b_cne_t (pc := 11) rw_220_11 (A := 4) (B := 3) rfl rfl (by decide) (to_in (pc := 18) rw_220_18 rfl (to_c (pc := 19) rw_220_19 (x := (4 : Int32)) rfl rfl (b_cne_f (pc := 20) rw_220_20 (A := 4) (B := 4) rfl rfl (by decide) (to_c (pc := 23) rw_220_23 (x := (1 : Int32)) rfl rfl (to_go (pc := 24) rw_220_24 (to_r0 (pc := 28) rw_220_28 (s_v (pc := 48) rw_226_48 (dp0 hd (by decide)) (ls0 := [.ref 77, .int (1 : Int32), .null, .null, .null]) rfl (Nat.le_of_ble_eq_true rfl) (Nat.le_of_ble_eq_true rfl) rfl (to_rc rfl rfl rfl (g_o hG211 rfl)) rfl ?_)))))))
          have k_213 : (1 : Int32).toInt = 1 := rfl
          have c_214 : M210.2.1 77 59 = (M.2.1 77 59) := (W_n W209 (by decide) rfl)
          have t_215 : (M210.2.1 77 59).toInt = (M.2.1 77 59).toInt := congrArg Int32.toInt c_214
          have c_216 : M210.2.1 77 65 = (M.2.1 77 65) := (W_n W209 (by decide) rfl)
          have t_217 : (M210.2.1 77 65).toInt = (M.2.1 77 65).toInt := congrArg Int32.toInt c_216
          have c_218 : M210.2.1 77 66 = (M.2.1 77 66) := (W_n W209 (by decide) rfl)
          have t_219 : (M210.2.1 77 66).toInt = (M.2.1 77 66).toInt := congrArg Int32.toInt c_218
          have c_220 : M210.2.1 77 67 = (M.2.1 77 67) := (W_n W209 (by decide) rfl)
          have t_221 : (M210.2.1 77 67).toInt = (M.2.1 77 67).toInt := congrArg Int32.toInt c_220
          have c_222 : M210.2.1 77 68 = (M.2.1 77 68) := (W_n W209 (by decide) rfl)
          have t_223 : (M210.2.1 77 68).toInt = (M.2.1 77 68).toInt := congrArg Int32.toInt c_222
          have c_224 : M210.2.1 77 69 = v207 := (W_e W209)
          have t_225 : (M210.2.1 77 69).toInt = v207.toInt := congrArg Int32.toInt c_224
          have s_227 := Wx_f (M := M) (M1 := M210) ((M.2.1 77 65).toInt).toNat (fun i z => (W_n W209 (by omega) rfl))
          have j_226 : QK M210 := QK_i (by unfold QK_c; rw [show ((M210.2.1 77 65).toInt).toNat = ((M.2.1 77 65).toInt).toNat by omega]; refine ⟨by omega, by omega, by omega, by omega⟩) (fun i z => by rw [(W_n W209 (by omega) rfl)]; exact q2.2.1 i (by omega)) (by rw [(W_n W209 (by omega) rfl)]; exact KN_f (fun a i z => (W_n W209 (by omega) rfl)) q2.2.2)
          refine C_223 hX (dp1 hd (by decide)) hG211 (by omega) (by omega) (by omega) j_226 (l := (1 : Int32)) (fun M233 hG229 F228 p_230 p_231 p_232 => ?_)
          have F234 := FR.c F212 F228 (fun a i z => show a = 77 ∧ (i = 4 ∨ i = 5 ∨ 7 ≤ i ∧ i ≤ 10) ∨ a = 77 ∧ (i = 59 ∨ 65 ≤ i ∧ i ≤ 69) ∨ 112 ≤ a ∧ a ≤ 114 ∧ 40 ≤ i ∨ a = 115 ∨ a = 116 by have z : a = 77 ∧ (i = 59 ∨ i = 65 ∨ i = 66) ∨ 112 ≤ a ∧ a ≤ 114 ∧ 40 ≤ i ∨ a = 116 := z; omega)
          have s_235 := p_231
          have s_236 : Wo M210 ((M210.2.1 77 65).toInt).toNat = Wo M ((M.2.1 77 65).toInt).toNat := by rw [show (M210.2.1 77 65) = (M.2.1 77 65) from (W_n W209 (by omega) rfl)]; exact (Wx_f (M := M) (M1 := M210) _ (fun i z => (W_n W209 (by omega) rfl))).1
          have b_237 := g_b hG229 (a := 77) (i := 59) (lo := 0) (hi := 40) rfl rfl
          have b_238 := g_b hG229 (a := 77) (i := 65) (lo := 0) (hi := 48) rfl rfl
          have b_239 := g_b hG229 (a := 77) (i := 66) (lo := 0) (hi := 40) rfl rfl
          have c_240 : M233.2.1 77 67 = (M.2.1 77 67) := (F_n F228 (show ¬ (77 = 77 ∧ (67 = 59 ∨ 67 = 65 ∨ 67 = 66) ∨ 112 ≤ 77 ∧ 77 ≤ 114 ∧ 40 ≤ 67 ∨ 77 = 116) by decide) c_220)
          have t_241 : (M233.2.1 77 67).toInt = (M.2.1 77 67).toInt := congrArg Int32.toInt c_240
          have c_242 : M233.2.1 77 68 = (M.2.1 77 68) := (F_n F228 (show ¬ (77 = 77 ∧ (68 = 59 ∨ 68 = 65 ∨ 68 = 66) ∨ 112 ≤ 77 ∧ 77 ≤ 114 ∧ 40 ≤ 68 ∨ 77 = 116) by decide) c_222)
          have t_243 : (M233.2.1 77 68).toInt = (M.2.1 77 68).toInt := congrArg Int32.toInt c_242
          have c_244 : M233.2.1 77 69 = v207 := (F_n F228 (show ¬ (77 = 77 ∧ (69 = 59 ∨ 69 = 65 ∨ 69 = 66) ∨ 112 ≤ 77 ∧ 77 ≤ 114 ∧ 40 ≤ 69 ∨ 77 = 116) by decide) c_224)
          have t_245 : (M233.2.1 77 69).toInt = v207.toInt := congrArg Int32.toInt c_244
          have s_246 := QK_e p_230
          have s_247 := Wx_b M233 ((M233.2.1 77 65).toInt).toNat
          refine to_an (pc := 51) rw_226_51 rfl (s_gR (pc := 52) rw_226_52 hG229 rfl (v := 115) rfl (to_an (pc := 55) rw_226_55 rfl (tt_gI (pc := 56) rw_226_56 (g_o hG229 rfl) (v := (M233.2.1 77 65)) rfl (to_in (pc := 59) rw_226_59 rfl (s_ias (pc := 60) rw_226_60 hG229 rfl (n := 64) rfl (A := (M233.2.1 77 65).toInt) rfl (by omega) (by omega) (fun M249 W248 => ?_))))))
          have hG250 := g_w hG229 W248 (A := 4) rfl (lo := 0) (hi := 4) rfl rfl (by omega) (by decide)
          have F251 := FR.w F234 W248 (show 115 = 77 ∧ (((M233.2.1 77 65).toInt).toNat = 4 ∨ ((M233.2.1 77 65).toInt).toNat = 5 ∨ 7 ≤ ((M233.2.1 77 65).toInt).toNat ∧ ((M233.2.1 77 65).toInt).toNat ≤ 10) ∨ 115 = 77 ∧ (((M233.2.1 77 65).toInt).toNat = 59 ∨ 65 ≤ ((M233.2.1 77 65).toInt).toNat ∧ ((M233.2.1 77 65).toInt).toNat ≤ 69) ∨ 112 ≤ 115 ∧ 115 ≤ 114 ∧ 40 ≤ ((M233.2.1 77 65).toInt).toNat ∨ 115 = 115 ∨ 115 = 116 by omega)
          refine to_an (pc := 61) rw_226_61 rfl (to_dupr (pc := 62) rw_226_62 ?_)
          have c_252 : M249.2.1 77 65 = (M233.2.1 77 65) := (W_n W248 (fun z => absurd z.1 (by decide)) rfl)
          refine tt_gI (pc := 63) rw_226_63 (g_o hG250 rfl) (v := (M233.2.1 77 65)) c_252 (to_c (pc := 66) rw_226_66 (x := (1 : Int32)) rfl rfl (s_add (pc := 67) rw_226_67 (A := (M233.2.1 77 65).toInt) (B := 1) rfl rfl (by omega) (fun v253 e254 => s_pI (pc := 68) rw_226_68 hG250 rfl (fun M256 W255 => ?_))))
          have hG257 := g_w hG250 W255 (A := v253.toInt) rfl (lo := 0) (hi := 48) rfl rfl (by omega) (by decide)
          have F258 := FR.w F251 W255 (show 77 = 77 ∧ (65 = 4 ∨ 65 = 5 ∨ 7 ≤ 65 ∧ 65 ≤ 10) ∨ 77 = 77 ∧ (65 = 59 ∨ 65 ≤ 65 ∧ 65 ≤ 69) ∨ 112 ≤ 77 ∧ 77 ≤ 114 ∧ 40 ≤ 65 ∨ 77 = 115 ∨ 77 = 116 by decide)
          refine to_an (pc := 71) rw_226_71 rfl (to_c (pc := 72) rw_226_72 (x := (0 : Int32)) rfl rfl (s_pI (pc := 73) rw_226_73 hG257 rfl (fun M260 W259 => ?_)))
          have hG261 := g_w hG257 W259 (A := 0) rfl (lo := 0) (hi := 1) rfl rfl (by omega) (by decide)
          have F262 := FR.w F258 W259 (show 77 = 77 ∧ (68 = 4 ∨ 68 = 5 ∨ 7 ≤ 68 ∧ 68 ≤ 10) ∨ 77 = 77 ∧ (68 = 59 ∨ 65 ≤ 68 ∧ 68 ≤ 69) ∨ 112 ≤ 77 ∧ 77 ≤ 114 ∧ 40 ≤ 68 ∨ 77 = 115 ∨ 77 = 116 by decide)
          refine to_an (pc := 76) rw_226_76 rfl (s_v (pc := 77) rw_226_77 (dp0 hd (by decide)) (ls0 := [.ref 77]) rfl (Nat.le_of_ble_eq_true rfl) (Nat.le_of_ble_eq_true rfl) rfl (to_rc rfl rfl rfl (g_o hG261 rfl)) rfl ?_)
          have c_263 : M260.2.1 77 7 = (M.2.1 77 7) := (W_n W259 (by decide) (W_n W255 (by decide) (W_n W248 (fun z => absurd z.1 (by decide)) (F_n F228 (show ¬ (77 = 77 ∧ (7 = 59 ∨ 7 = 65 ∨ 7 = 66) ∨ 112 ≤ 77 ∧ 77 ≤ 114 ∧ 40 ≤ 7 ∨ 77 = 116) by decide) (W_n W209 (by decide) rfl)))))
          have t_264 : (M260.2.1 77 7).toInt = (M.2.1 77 7).toInt := congrArg Int32.toInt c_263
          have c_265 : M260.2.1 77 6 = (M.2.1 77 6) := (W_n W259 (by decide) (W_n W255 (by decide) (W_n W248 (fun z => absurd z.1 (by decide)) (F_n F228 (show ¬ (77 = 77 ∧ (6 = 59 ∨ 6 = 65 ∨ 6 = 66) ∨ 112 ≤ 77 ∧ 77 ≤ 114 ∧ 40 ≤ 6 ∨ 77 = 116) by decide) (W_n W209 (by decide) rfl)))))
          have t_266 : (M260.2.1 77 6).toInt = (M.2.1 77 6).toInt := congrArg Int32.toInt c_265
          have c_267 : M260.2.1 77 10 = (M.2.1 77 10) := (W_n W259 (by decide) (W_n W255 (by decide) (W_n W248 (fun z => absurd z.1 (by decide)) (F_n F228 (show ¬ (77 = 77 ∧ (10 = 59 ∨ 10 = 65 ∨ 10 = 66) ∨ 112 ≤ 77 ∧ 77 ≤ 114 ∧ 40 ≤ 10 ∨ 77 = 116) by decide) (W_n W209 (by decide) rfl)))))
          have t_268 : (M260.2.1 77 10).toInt = (M.2.1 77 10).toInt := congrArg Int32.toInt c_267
          have j_269 := (RS_f (fun a i z => W_n W259 (by /-r77-/ omega) rfl) (RS_f (fun a i z => W_n W255 (by /-r77-/ omega) rfl) (RS_f (fun a i z => W_n W248 (by /-r115-/ omega) rfl) (RS_f (fun a i z => F_n F228 (show ¬ (a = 77 ∧ (i = 59 ∨ i = 65 ∨ i = 66) ∨ 112 ≤ a ∧ a ≤ 114 ∧ 40 ≤ i ∨ a = 116) by omega) rfl) (RS_f (fun a i z => W_n W209 (by /-r77-/ omega) rfl) q4)))))
          have z_270 := RS_b j_269 (a := a) (by omega)
          have j_271 := (TR_f (fun a i z => W_n W259 (by /-r77-/ omega) rfl) (TR_f (fun a i z => W_n W255 (by /-r77-/ omega) rfl) (TR_f (fun a i z => W_n W248 (by /-r115-/ omega) rfl) (TR_f (fun a i z => F_n F228 (show ¬ (a = 77 ∧ (i = 59 ∨ i = 65 ∨ i = 66) ∨ 112 ≤ a ∧ a ≤ 114 ∧ 40 ≤ i ∨ a = 116) by omega) rfl) (TR_f (fun a i z => W_n W209 (by /-r77-/ omega) rfl) q8)))))
          have j_272 := (W9_f (fun a i z => W_n W259 (by /-r77-/ omega) rfl) (W9_f (fun a i z => W_n W255 (by /-r77-/ omega) rfl) (W9_f (fun a i z => W_n W248 (by /-r115-/ omega) rfl) (W9_f (fun a i z => F_n F228 (show ¬ (a = 77 ∧ (i = 59 ∨ i = 65 ∨ i = 66) ∨ 112 ≤ a ∧ a ≤ 114 ∧ 40 ≤ i ∨ a = 116) by omega) rfl) (W9_f (fun a i z => W_n W209 (by /-r77-/ omega) rfl) q9)))))
          refine E_156 hX (dp1 hd (by decide)) hG261 (by omega) (by omega) (by omega) (by omega) j_271 j_272  (fun M279 hG274 F273 p_275 p_276 p_277 p_278 => ?_)
          have F280 := FR.c F262 F273 (fun a i z => show a = 77 ∧ (i = 4 ∨ i = 5 ∨ 7 ≤ i ∧ i ≤ 10) ∨ a = 77 ∧ (i = 59 ∨ 65 ≤ i ∧ i ≤ 69) ∨ 112 ≤ a ∧ a ≤ 114 ∧ 40 ≤ i ∨ a = 115 ∨ a = 116 by have z : a = 77 ∧ 7 ≤ i ∧ i ≤ 10 := z; omega)
          have b_281 := g_b hG274 (a := 77) (i := 7) (lo := 0) (hi := 500) rfl rfl
          have c_282 : M279.2.1 77 6 = (M.2.1 77 6) := (F_n F273 (show ¬ (77 = 77 ∧ 7 ≤ 6 ∧ 6 ≤ 10) by decide) c_265)
          have t_283 : (M279.2.1 77 6).toInt = (M.2.1 77 6).toInt := congrArg Int32.toInt c_282
          have b_284 := g_b hG274 (a := 77) (i := 8) (lo := 0) (hi := 5) rfl rfl
          have b_285 := g_b hG274 (a := 77) (i := 10) (lo := 0) (hi := 500) rfl rfl
          have z_286 := RS_s p_278.2 (a := a) (by omega)
          refine to_c (pc := 80) rw_226_80 (x := (1 : Int32)) rfl rfl (s_r1 (pc := 81) rw_226_81 (A := 1) rfl (by decide) ?_)
          have c_287 : M279.2.1 77 59 = (M233.2.1 77 59) := (F_n F273 (show ¬ (77 = 77 ∧ 7 ≤ 59 ∧ 59 ≤ 10) by decide) (W_n W259 (by decide) (W_n W255 (by decide) (W_n W248 (fun z => absurd z.1 (by decide)) rfl))))
          have t_288 : (M279.2.1 77 59).toInt = (M233.2.1 77 59).toInt := congrArg Int32.toInt c_287
          have c_289 : M279.2.1 77 65 = v253 := (F_n F273 (show ¬ (77 = 77 ∧ 7 ≤ 65 ∧ 65 ≤ 10) by decide) (W_n W259 (by decide) (W_e W255)))
          have t_290 : (M279.2.1 77 65).toInt = v253.toInt := congrArg Int32.toInt c_289
          have c_291 : M279.2.1 77 66 = (M233.2.1 77 66) := (F_n F273 (show ¬ (77 = 77 ∧ 7 ≤ 66 ∧ 66 ≤ 10) by decide) (W_n W259 (by decide) (W_n W255 (by decide) (W_n W248 (fun z => absurd z.1 (by decide)) rfl))))
          have t_292 : (M279.2.1 77 66).toInt = (M233.2.1 77 66).toInt := congrArg Int32.toInt c_291
          have c_293 : M279.2.1 77 67 = (M.2.1 77 67) := (F_n F273 (show ¬ (77 = 77 ∧ 7 ≤ 67 ∧ 67 ≤ 10) by decide) (W_n W259 (by decide) (W_n W255 (by decide) (W_n W248 (fun z => absurd z.1 (by decide)) c_240))))
          have t_294 : (M279.2.1 77 67).toInt = (M.2.1 77 67).toInt := congrArg Int32.toInt c_293
          have c_295 : M279.2.1 77 68 = (0 : Int32) := (F_n F273 (show ¬ (77 = 77 ∧ 7 ≤ 68 ∧ 68 ≤ 10) by decide) (W_e W259))
          have k_296 : (0 : Int32).toInt = 0 := rfl
          have t_297 : (M279.2.1 77 68).toInt = (0 : Int32).toInt := congrArg Int32.toInt c_295
          have c_298 : M279.2.1 77 69 = v207 := (F_n F273 (show ¬ (77 = 77 ∧ 7 ≤ 69 ∧ 69 ≤ 10) by decide) (W_n W259 (by decide) (W_n W255 (by decide) (W_n W248 (fun z => absurd z.1 (by decide)) c_244))))
          have t_299 : (M279.2.1 77 69).toInt = v207.toInt := congrArg Int32.toInt c_298
          have k_301 : (4 : Int32).toInt = 4 := rfl
          have s_302 := Wx_f (M := M233) (M1 := M279) ((M233.2.1 77 65).toInt).toNat (fun i z => (F_n F273 (show ¬ (115 = 77 ∧ 7 ≤ i ∧ i ≤ 10) by omega) (W_n W259 (by omega) (W_n W255 (by omega) (W_n W248 (by omega) rfl)))))
          have s_303 : (M279.2.1 115 ((M233.2.1 77 65).toInt).toNat).toInt = (4 : Int32).toInt := by rw [show ((M233.2.1 77 65).toInt).toNat = ((M233.2.1 77 65).toInt).toNat by omega]; exact congrArg Int32.toInt (F_n F273 (show ¬ (115 = 77 ∧ 7 ≤ (((M233.2.1 77 65).toInt).toNat) ∧ (((M233.2.1 77 65).toInt).toNat) ≤ 10) by omega) (W_n W259 (by omega) (W_n W255 (by omega) (W_e W248))))
          have s_304 := Wx_s M279 ((M233.2.1 77 65).toInt).toNat
          have j_300 : QK M279 := QK_i (by unfold QK_c; rw [show ((M279.2.1 77 65).toInt).toNat = ((M233.2.1 77 65).toInt).toNat + 1 by omega]; refine ⟨by omega, by omega, by omega, by omega⟩) (fun i z => by
              by_cases ei : i = ((M233.2.1 77 65).toInt).toNat
              · rw [ei]; omega
              · rw [(F_n F273 (show ¬ (115 = 77 ∧ 7 ≤ i ∧ i ≤ 10) by omega) (W_n W259 (by omega) (W_n W255 (by omega) (W_n W248 (by omega) rfl))))]; exact p_230.2.1 i (by omega)) (by rw [(F_n F273 (show ¬ (77 = 77 ∧ 7 ≤ 59 ∧ 59 ≤ 10) by decide) (W_n W259 (by omega) (W_n W255 (by omega) (W_n W248 (by omega) rfl))))]; exact KN_f (fun a i z => (F_n F273 (show ¬ (a = 77 ∧ 7 ≤ i ∧ i ≤ 10) by omega) (W_n W259 (by omega) (W_n W255 (by omega) (W_n W248 (by omega) rfl))))) p_230.2.2)
          exact h (1 : Int32) M279 hG274 F280 (by decide) (by decide) (by omega) (by omega) (by omega) (by omega) (fun _ => j_300) (fun _ => by rw [show ((M279.2.1 77 65).toInt).toNat = ((M233.2.1 77 65).toInt).toNat + 1 by omega]; omega) (fun _ => p_278.1) (fun _ => (q_ao (by omega) (by omega) (by omega) (by omega) (by omega)).trans (q_w (by omega) (by omega) (by omega) (by omega))) (fun z => absurd z (by decide))
        · refine to_an (pc := 9) rw_224_9 rfl (to_c (pc := 10) rw_224_10 (x := (2 : Int32)) rfl rfl (s_v (pc := 11) rw_224_11 (dp1 hd (by decide)) (ls0 := [.ref 77, .int (2 : Int32)]) rfl (Nat.le_of_ble_eq_true rfl) (Nat.le_of_ble_eq_true rfl) rfl (to_rc rfl rfl rfl (g_o hG rfl)) rfl (to_an (pc := 0) rw_152_0 rfl (to_in (pc := 1) rw_152_1 rfl (s_pI (pc := 2) rw_152_2 hG rfl (fun M306 W305 => ?_))))))
          have hG307 := g_wf hG W305 rfl rfl (by decide)
          have F308 := FR.w F0 W305 (show 77 = 77 ∧ (4 = 4 ∨ 4 = 5 ∨ 7 ≤ 4 ∧ 4 ≤ 10) ∨ 77 = 77 ∧ (4 = 59 ∨ 65 ≤ 4 ∧ 4 ≤ 69) ∨ 112 ≤ 77 ∧ 77 ≤ 114 ∧ 40 ≤ 4 ∨ 77 = 115 ∨ 77 = 116 by decide)
          refine to_an (pc := 5) rw_152_5 rfl (to_an (pc := 6) rw_152_6 rfl ?_)
          have c_309 : M306.2.1 77 10 = (M.2.1 77 10) := (W_n W305 (by decide) rfl)
          refine tt_gI (pc := 7) rw_152_7 (g_o hG307 rfl) (v := (M.2.1 77 10)) c_309 (s_pI (pc := 10) rw_152_10 hG307 rfl (fun M311 W310 => ?_))
          have hG312 := g_wf hG307 W310 rfl rfl (by decide)
          have F313 := FR.w F308 W310 (show 77 = 77 ∧ (5 = 4 ∨ 5 = 5 ∨ 7 ≤ 5 ∧ 5 ≤ 10) ∨ 77 = 77 ∧ (5 = 59 ∨ 65 ≤ 5 ∧ 5 ≤ 69) ∨ 112 ≤ 77 ∧ 77 ≤ 114 ∧ 40 ≤ 5 ∨ 77 = 115 ∨ 77 = 116 by decide)
          refine to_c (pc := 13) rw_152_13 (x := (0 : Int32)) rfl rfl (s_r1 (pc := 14) rw_152_14 (A := 0) rfl (by decide) (s_r1 (pc := 14) rw_224_14 (A := 0) rfl (by decide) (b_ine_f (pc := 37) rw_226_37 (A := 0) rfl (by decide) (to_c (pc := 40) rw_226_40 (x := (0 : Int32)) rfl rfl (s_r1 (pc := 41) rw_226_41 (A := 0) rfl (by decide) ?_)))))
          have k_314 : (0 : Int32).toInt = 0 := rfl
          have c_315 : M311.2.1 77 7 = (M.2.1 77 7) := (W_n W310 (by decide) (W_n W305 (by decide) rfl))
          have t_316 : (M311.2.1 77 7).toInt = (M.2.1 77 7).toInt := congrArg Int32.toInt c_315
          have c_317 : M311.2.1 77 6 = (M.2.1 77 6) := (W_n W310 (by decide) (W_n W305 (by decide) rfl))
          have t_318 : (M311.2.1 77 6).toInt = (M.2.1 77 6).toInt := congrArg Int32.toInt c_317
          have c_319 : M311.2.1 77 8 = (M.2.1 77 8) := (W_n W310 (by decide) (W_n W305 (by decide) rfl))
          have t_320 : (M311.2.1 77 8).toInt = (M.2.1 77 8).toInt := congrArg Int32.toInt c_319
          have c_321 : M311.2.1 77 4 = (2 : Int32) := (W_n W310 (by decide) (W_e W305))
          have k_322 : (2 : Int32).toInt = 2 := rfl
          have t_323 : (M311.2.1 77 4).toInt = (2 : Int32).toInt := congrArg Int32.toInt c_321
          have c_324 : M311.2.1 77 5 = (M.2.1 77 10) := (W_e W310)
          have t_325 : (M311.2.1 77 5).toInt = (M.2.1 77 10).toInt := congrArg Int32.toInt c_324
          have c_326 : M311.2.1 77 67 = (M.2.1 77 67) := (W_n W310 (by decide) (W_n W305 (by decide) rfl))
          have t_327 : (M311.2.1 77 67).toInt = (M.2.1 77 67).toInt := congrArg Int32.toInt c_326
          have c_328 : M311.2.1 77 69 = (M.2.1 77 69) := (W_n W310 (by decide) (W_n W305 (by decide) rfl))
          have t_329 : (M311.2.1 77 69).toInt = (M.2.1 77 69).toInt := congrArg Int32.toInt c_328
          exact h (0 : Int32) M311 hG312 F313 (by decide) (by decide) (by omega) (by omega) (by omega) (by omega) (fun z => absurd z (by omega)) (fun z => absurd z (by decide)) (fun z => absurd z (by decide)) (fun z => absurd z (by decide)) (fun _ => by first | exact inl_e (by omega) (by omega) (q_aox (by omega) (by omega) (by omega) (by omega) (by omega)) | exact inl_e (by omega) (by omega) (q_1x (by omega) (by omega) (by omega) (by omega) (by omega)))
  · refine to_an (pc := 8) rw_158_8 rfl (tt_gI (pc := 9) rw_158_9 (g_o hG rfl) (v := (M.2.1 77 9)) rfl (to_in (pc := 12) rw_158_12 rfl (b_cne (pc := 13) rw_158_13 (A := (M.2.1 77 9).toInt) (B := 12) rfl rfl (fun h330 => ?_) (fun h330 => ?_))))
    · refine to_c (pc := 20) rw_158_20 (x := (0 : Int32)) rfl rfl (s_r1 (pc := 21) rw_158_21 (A := 0) rfl (by decide) (b_ine_f (pc := 6) rw_226_6 (A := 0) rfl (by decide) (to_an (pc := 9) rw_226_9 rfl (to_c (pc := 10) rw_226_10 (x := (13 : Int32)) rfl rfl (s_v (pc := 12) rw_226_12 (dp0 hd (by decide)) (ls0 := [.ref 77, .int (13 : Int32)]) rfl (Nat.le_of_ble_eq_true rfl) (Nat.le_of_ble_eq_true rfl) rfl (to_rc rfl rfl rfl (g_o hG rfl)) rfl (to_an (pc := 0) rw_158_0 rfl (tt_gI (pc := 1) rw_158_1 (g_o hG rfl) (v := (M.2.1 77 8)) rfl (to_c (pc := 4) rw_158_4 (x := (1 : Int32)) rfl rfl (b_cne_f (pc := 5) rw_158_5 (A := (M.2.1 77 8).toInt) (B := 1) rfl rfl (by omega) (to_an (pc := 8) rw_158_8 rfl (tt_gI (pc := 9) rw_158_9 (g_o hG rfl) (v := (M.2.1 77 9)) rfl ?_)))))))))))
      refine to_in (pc := 12) rw_158_12 rfl (b_cne (pc := 13) rw_158_13 (A := (M.2.1 77 9).toInt) (B := 13) rfl rfl (fun h331 => ?_) (fun h331 => ?_))
      · refine to_c (pc := 20) rw_158_20 (x := (0 : Int32)) rfl rfl (s_r1 (pc := 21) rw_158_21 (A := 0) rfl (by decide) (b_ieq_t (pc := 15) rw_226_15 (A := 0) rfl (by decide) (to_an (pc := 82) rw_226_82 rfl (to_c (pc := 83) rw_226_83 (x := (41 : Int32)) rfl rfl (s_v (pc := 85) rw_226_85 (dp0 hd (by decide)) (ls0 := [.ref 77, .int (41 : Int32)]) rfl (Nat.le_of_ble_eq_true rfl) (Nat.le_of_ble_eq_true rfl) rfl (to_rc rfl rfl rfl (g_o hG rfl)) rfl (to_an (pc := 0) rw_159_0 rfl (tt_gI (pc := 1) rw_159_1 (g_o hG rfl) (v := (M.2.1 77 8)) rfl (to_c (pc := 4) rw_159_4 (x := (4 : Int32)) rfl rfl (b_cne_t (pc := 5) rw_159_5 (A := (M.2.1 77 8).toInt) (B := 4) rfl rfl (by omega) (to_c (pc := 20) rw_159_20 (x := (0 : Int32)) rfl rfl (s_r1 (pc := 21) rw_159_21 (A := 0) rfl (by decide) ?_)))))))))))
        refine b_ieq_t (pc := 88) rw_226_88 (A := 0) rfl (by decide) (to_an (pc := 98) rw_226_98 rfl (to_c (pc := 99) rw_226_99 (x := (1 : Int32)) rfl rfl (s_v (pc := 100) rw_226_100 (dp0 hd (by decide)) (ls0 := [.ref 77, .int (1 : Int32)]) rfl (Nat.le_of_ble_eq_true rfl) (Nat.le_of_ble_eq_true rfl) rfl (to_rc rfl rfl rfl (g_o hG rfl)) rfl (to_an (pc := 0) rw_152_0 rfl (to_in (pc := 1) rw_152_1 rfl (s_pI (pc := 2) rw_152_2 hG rfl (fun M333 W332 => ?_)))))))
        have hG334 := g_wf hG W332 rfl rfl (by decide)
        have F335 := FR.w F0 W332 (show 77 = 77 ∧ (4 = 4 ∨ 4 = 5 ∨ 7 ≤ 4 ∧ 4 ≤ 10) ∨ 77 = 77 ∧ (4 = 59 ∨ 65 ≤ 4 ∧ 4 ≤ 69) ∨ 112 ≤ 77 ∧ 77 ≤ 114 ∧ 40 ≤ 4 ∨ 77 = 115 ∨ 77 = 116 by decide)
        refine to_an (pc := 5) rw_152_5 rfl (to_an (pc := 6) rw_152_6 rfl ?_)
        have c_336 : M333.2.1 77 10 = (M.2.1 77 10) := (W_n W332 (by decide) rfl)
        refine tt_gI (pc := 7) rw_152_7 (g_o hG334 rfl) (v := (M.2.1 77 10)) c_336 (s_pI (pc := 10) rw_152_10 hG334 rfl (fun M338 W337 => ?_))
        have hG339 := g_wf hG334 W337 rfl rfl (by decide)
        have F340 := FR.w F335 W337 (show 77 = 77 ∧ (5 = 4 ∨ 5 = 5 ∨ 7 ≤ 5 ∧ 5 ≤ 10) ∨ 77 = 77 ∧ (5 = 59 ∨ 65 ≤ 5 ∧ 5 ≤ 69) ∨ 112 ≤ 77 ∧ 77 ≤ 114 ∧ 40 ≤ 5 ∨ 77 = 115 ∨ 77 = 116 by decide)
        refine to_c (pc := 13) rw_152_13 (x := (0 : Int32)) rfl rfl (s_r1 (pc := 14) rw_152_14 (A := 0) rfl (by decide) (s_r1 (pc := 103) rw_226_103 (A := 0) rfl (by decide) ?_))
        have k_341 : (0 : Int32).toInt = 0 := rfl
        have c_342 : M338.2.1 77 7 = (M.2.1 77 7) := (W_n W337 (by decide) (W_n W332 (by decide) rfl))
        have t_343 : (M338.2.1 77 7).toInt = (M.2.1 77 7).toInt := congrArg Int32.toInt c_342
        have c_344 : M338.2.1 77 6 = (M.2.1 77 6) := (W_n W337 (by decide) (W_n W332 (by decide) rfl))
        have t_345 : (M338.2.1 77 6).toInt = (M.2.1 77 6).toInt := congrArg Int32.toInt c_344
        have c_346 : M338.2.1 77 8 = (M.2.1 77 8) := (W_n W337 (by decide) (W_n W332 (by decide) rfl))
        have t_347 : (M338.2.1 77 8).toInt = (M.2.1 77 8).toInt := congrArg Int32.toInt c_346
        have c_348 : M338.2.1 77 4 = (1 : Int32) := (W_n W337 (by decide) (W_e W332))
        have k_349 : (1 : Int32).toInt = 1 := rfl
        have t_350 : (M338.2.1 77 4).toInt = (1 : Int32).toInt := congrArg Int32.toInt c_348
        have c_351 : M338.2.1 77 5 = (M.2.1 77 10) := (W_e W337)
        have t_352 : (M338.2.1 77 5).toInt = (M.2.1 77 10).toInt := congrArg Int32.toInt c_351
        have c_353 : M338.2.1 77 67 = (M.2.1 77 67) := (W_n W337 (by decide) (W_n W332 (by decide) rfl))
        have t_354 : (M338.2.1 77 67).toInt = (M.2.1 77 67).toInt := congrArg Int32.toInt c_353
        have c_355 : M338.2.1 77 69 = (M.2.1 77 69) := (W_n W337 (by decide) (W_n W332 (by decide) rfl))
        have t_356 : (M338.2.1 77 69).toInt = (M.2.1 77 69).toInt := congrArg Int32.toInt c_355
        exact h (0 : Int32) M338 hG339 F340 (by decide) (by decide) (by omega) (by omega) (by omega) (by omega) (fun z => absurd z (by omega)) (fun z => absurd z (by decide)) (fun z => absurd z (by decide)) (fun z => absurd z (by decide)) (fun _ => by first | exact inl_e (by omega) (by omega) (q_aox (by omega) (by omega) (by omega) (by omega) (by omega)) | exact inl_e (by omega) (by omega) (q_1x (by omega) (by omega) (by omega) (by omega) (by omega)))
      · refine to_c (pc := 16) rw_158_16 (x := (1 : Int32)) rfl rfl (to_go (pc := 17) rw_158_17 (s_r1 (pc := 21) rw_158_21 (A := 1) rfl (by decide) (b_ieq_f (pc := 15) rw_226_15 (A := 1) rfl (by decide) (to_an (pc := 18) rw_226_18 rfl (tt_gI (pc := 19) rw_226_19 (g_o hG rfl) (v := (M.2.1 77 9)) rfl (to_c (pc := 22) rw_226_22 (x := (12 : Int32)) rfl rfl (b_cne_t (pc := 24) rw_226_24 (A := (M.2.1 77 9).toInt) (B := 12) rfl rfl (by omega) (to_c (pc := 31) rw_226_31 (x := (4 : Int32)) rfl rfl (to_isn (pc := 32) rw_226_32 (ls2 := [.ref 77, .int (4 : Int32)]) rfl rfl (to_an (pc := 33) rw_226_33 rfl (s_v (pc := 34) rw_226_34 (dp0 hd (by decide)) (ls0 := [.ref 77]) rfl (Nat.le_of_ble_eq_true rfl) (Nat.le_of_ble_eq_true rfl) rfl (to_rc rfl rfl rfl (g_o hG rfl)) rfl ?_)))))))))))
        refine to_an (pc := 0) rw_224_0 rfl (tt_gI (pc := 1) rw_224_1 (g_o hG rfl) (v := (M.2.1 77 69)) rfl (to_c (pc := 4) rw_224_4 (x := (40 : Int32)) rfl rfl (b_cne (pc := 6) rw_224_6 (A := (M.2.1 77 69).toInt) (B := 40) rfl rfl (fun h357 => ?_) (fun h357 => ?_))))
        · refine to_an (pc := 15) rw_224_15 rfl (to_dupr (pc := 16) rw_224_16 (tt_gI (pc := 17) rw_224_17 (g_o hG rfl) (v := (M.2.1 77 69)) rfl (to_c (pc := 20) rw_224_20 (x := (1 : Int32)) rfl rfl (s_add (pc := 21) rw_224_21 (A := (M.2.1 77 69).toInt) (B := 1) rfl rfl (by omega) (fun v358 e359 => s_pI (pc := 22) rw_224_22 hG rfl (fun M361 W360 => ?_))))))
          have hG362 := g_w hG W360 (A := v358.toInt) rfl (lo := 0) (hi := 40) rfl rfl (by omega) (by decide)
          have F363 := FR.w F0 W360 (show 77 = 77 ∧ (69 = 4 ∨ 69 = 5 ∨ 7 ≤ 69 ∧ 69 ≤ 10) ∨ 77 = 77 ∧ (69 = 59 ∨ 65 ≤ 69 ∧ 69 ≤ 69) ∨ 112 ≤ 77 ∧ 77 ≤ 114 ∧ 40 ≤ 69 ∨ 77 = 115 ∨ 77 = 116 by decide)
          refine to_c (pc := 25) rw_224_25 (x := (1 : Int32)) rfl rfl (s_r1 (pc := 26) rw_224_26 (A := 1) rfl (by decide) (b_ine_t (pc := 37) rw_226_37 (A := 1) rfl (by decide) (to_an (pc := 42) rw_226_42 rfl (to_an (pc := 43) rw_226_43 rfl (to_in (pc := 44) rw_226_44 rfl (s_v (pc := 45) rw_226_45 (dp0 hd (by decide)) (ls0 := [.ref 77, .int (4 : Int32)]) rfl (Nat.le_of_ble_eq_true rfl) (Nat.le_of_ble_eq_true rfl) rfl (to_rc rfl rfl rfl (g_o hG362 rfl)) rfl (to_in (pc := 0) rw_220_0 rfl (to_c (pc := 1) rw_220_1 (x := (2 : Int32)) rfl rfl (b_cne_t (pc := 2) rw_220_2 (A := 4) (B := 2) rfl rfl (by decide) (to_in (pc := 9) rw_220_9 rfl (to_c (pc := 10) rw_220_10 (x := (3 : Int32)) rfl rfl ?_)))))))))))
          refine b_cne_t (pc := 11) rw_220_11 (A := 4) (B := 3) rfl rfl (by decide) (to_in (pc := 18) rw_220_18 rfl (to_c (pc := 19) rw_220_19 (x := (4 : Int32)) rfl rfl (b_cne_f (pc := 20) rw_220_20 (A := 4) (B := 4) rfl rfl (by decide) (to_c (pc := 23) rw_220_23 (x := (1 : Int32)) rfl rfl (to_go (pc := 24) rw_220_24 (to_r0 (pc := 28) rw_220_28 (s_v (pc := 48) rw_226_48 (dp0 hd (by decide)) (ls0 := [.ref 77, .int (1 : Int32), .null, .null, .null]) rfl (Nat.le_of_ble_eq_true rfl) (Nat.le_of_ble_eq_true rfl) rfl (to_rc rfl rfl rfl (g_o hG362 rfl)) rfl ?_)))))))
          have k_364 : (1 : Int32).toInt = 1 := rfl
          have c_365 : M361.2.1 77 59 = (M.2.1 77 59) := (W_n W360 (by decide) rfl)
          have t_366 : (M361.2.1 77 59).toInt = (M.2.1 77 59).toInt := congrArg Int32.toInt c_365
          have c_367 : M361.2.1 77 65 = (M.2.1 77 65) := (W_n W360 (by decide) rfl)
          have t_368 : (M361.2.1 77 65).toInt = (M.2.1 77 65).toInt := congrArg Int32.toInt c_367
          have c_369 : M361.2.1 77 66 = (M.2.1 77 66) := (W_n W360 (by decide) rfl)
          have t_370 : (M361.2.1 77 66).toInt = (M.2.1 77 66).toInt := congrArg Int32.toInt c_369
          have c_371 : M361.2.1 77 67 = (M.2.1 77 67) := (W_n W360 (by decide) rfl)
          have t_372 : (M361.2.1 77 67).toInt = (M.2.1 77 67).toInt := congrArg Int32.toInt c_371
          have c_373 : M361.2.1 77 68 = (M.2.1 77 68) := (W_n W360 (by decide) rfl)
          have t_374 : (M361.2.1 77 68).toInt = (M.2.1 77 68).toInt := congrArg Int32.toInt c_373
          have c_375 : M361.2.1 77 69 = v358 := (W_e W360)
          have t_376 : (M361.2.1 77 69).toInt = v358.toInt := congrArg Int32.toInt c_375
          have s_378 := Wx_f (M := M) (M1 := M361) ((M.2.1 77 65).toInt).toNat (fun i z => (W_n W360 (by omega) rfl))
          have j_377 : QK M361 := QK_i (by unfold QK_c; rw [show ((M361.2.1 77 65).toInt).toNat = ((M.2.1 77 65).toInt).toNat by omega]; refine ⟨by omega, by omega, by omega, by omega⟩) (fun i z => by rw [(W_n W360 (by omega) rfl)]; exact q2.2.1 i (by omega)) (by rw [(W_n W360 (by omega) rfl)]; exact KN_f (fun a i z => (W_n W360 (by omega) rfl)) q2.2.2)
          refine C_223 hX (dp1 hd (by decide)) hG362 (by omega) (by omega) (by omega) j_377 (l := (1 : Int32)) (fun M384 hG380 F379 p_381 p_382 p_383 => ?_)
          have F385 := FR.c F363 F379 (fun a i z => show a = 77 ∧ (i = 4 ∨ i = 5 ∨ 7 ≤ i ∧ i ≤ 10) ∨ a = 77 ∧ (i = 59 ∨ 65 ≤ i ∧ i ≤ 69) ∨ 112 ≤ a ∧ a ≤ 114 ∧ 40 ≤ i ∨ a = 115 ∨ a = 116 by have z : a = 77 ∧ (i = 59 ∨ i = 65 ∨ i = 66) ∨ 112 ≤ a ∧ a ≤ 114 ∧ 40 ≤ i ∨ a = 116 := z; omega)
          have s_386 := p_382
          have s_387 : Wo M361 ((M361.2.1 77 65).toInt).toNat = Wo M ((M.2.1 77 65).toInt).toNat := by rw [show (M361.2.1 77 65) = (M.2.1 77 65) from (W_n W360 (by omega) rfl)]; exact (Wx_f (M := M) (M1 := M361) _ (fun i z => (W_n W360 (by omega) rfl))).1
          have b_388 := g_b hG380 (a := 77) (i := 59) (lo := 0) (hi := 40) rfl rfl
          have b_389 := g_b hG380 (a := 77) (i := 65) (lo := 0) (hi := 48) rfl rfl
          have b_390 := g_b hG380 (a := 77) (i := 66) (lo := 0) (hi := 40) rfl rfl
          have c_391 : M384.2.1 77 67 = (M.2.1 77 67) := (F_n F379 (show ¬ (77 = 77 ∧ (67 = 59 ∨ 67 = 65 ∨ 67 = 66) ∨ 112 ≤ 77 ∧ 77 ≤ 114 ∧ 40 ≤ 67 ∨ 77 = 116) by decide) c_371)
          have t_392 : (M384.2.1 77 67).toInt = (M.2.1 77 67).toInt := congrArg Int32.toInt c_391
          have c_393 : M384.2.1 77 68 = (M.2.1 77 68) := (F_n F379 (show ¬ (77 = 77 ∧ (68 = 59 ∨ 68 = 65 ∨ 68 = 66) ∨ 112 ≤ 77 ∧ 77 ≤ 114 ∧ 40 ≤ 68 ∨ 77 = 116) by decide) c_373)
          have t_394 : (M384.2.1 77 68).toInt = (M.2.1 77 68).toInt := congrArg Int32.toInt c_393
          have c_395 : M384.2.1 77 69 = v358 := (F_n F379 (show ¬ (77 = 77 ∧ (69 = 59 ∨ 69 = 65 ∨ 69 = 66) ∨ 112 ≤ 77 ∧ 77 ≤ 114 ∧ 40 ≤ 69 ∨ 77 = 116) by decide) c_375)
          have t_396 : (M384.2.1 77 69).toInt = v358.toInt := congrArg Int32.toInt c_395
          have s_397 := QK_e p_381
          have s_398 := Wx_b M384 ((M384.2.1 77 65).toInt).toNat
          refine to_an (pc := 51) rw_226_51 rfl (s_gR (pc := 52) rw_226_52 hG380 rfl (v := 115) rfl (to_an (pc := 55) rw_226_55 rfl (tt_gI (pc := 56) rw_226_56 (g_o hG380 rfl) (v := (M384.2.1 77 65)) rfl (to_in (pc := 59) rw_226_59 rfl (s_ias (pc := 60) rw_226_60 hG380 rfl (n := 64) rfl (A := (M384.2.1 77 65).toInt) rfl (by omega) (by omega) (fun M400 W399 => ?_))))))
          have hG401 := g_w hG380 W399 (A := 4) rfl (lo := 0) (hi := 4) rfl rfl (by omega) (by decide)
          have F402 := FR.w F385 W399 (show 115 = 77 ∧ (((M384.2.1 77 65).toInt).toNat = 4 ∨ ((M384.2.1 77 65).toInt).toNat = 5 ∨ 7 ≤ ((M384.2.1 77 65).toInt).toNat ∧ ((M384.2.1 77 65).toInt).toNat ≤ 10) ∨ 115 = 77 ∧ (((M384.2.1 77 65).toInt).toNat = 59 ∨ 65 ≤ ((M384.2.1 77 65).toInt).toNat ∧ ((M384.2.1 77 65).toInt).toNat ≤ 69) ∨ 112 ≤ 115 ∧ 115 ≤ 114 ∧ 40 ≤ ((M384.2.1 77 65).toInt).toNat ∨ 115 = 115 ∨ 115 = 116 by omega)
          refine to_an (pc := 61) rw_226_61 rfl (to_dupr (pc := 62) rw_226_62 ?_)
          have c_403 : M400.2.1 77 65 = (M384.2.1 77 65) := (W_n W399 (fun z => absurd z.1 (by decide)) rfl)
          refine tt_gI (pc := 63) rw_226_63 (g_o hG401 rfl) (v := (M384.2.1 77 65)) c_403 (to_c (pc := 66) rw_226_66 (x := (1 : Int32)) rfl rfl (s_add (pc := 67) rw_226_67 (A := (M384.2.1 77 65).toInt) (B := 1) rfl rfl (by omega) (fun v404 e405 => s_pI (pc := 68) rw_226_68 hG401 rfl (fun M407 W406 => ?_))))
          have hG408 := g_w hG401 W406 (A := v404.toInt) rfl (lo := 0) (hi := 48) rfl rfl (by omega) (by decide)
          have F409 := FR.w F402 W406 (show 77 = 77 ∧ (65 = 4 ∨ 65 = 5 ∨ 7 ≤ 65 ∧ 65 ≤ 10) ∨ 77 = 77 ∧ (65 = 59 ∨ 65 ≤ 65 ∧ 65 ≤ 69) ∨ 112 ≤ 77 ∧ 77 ≤ 114 ∧ 40 ≤ 65 ∨ 77 = 115 ∨ 77 = 116 by decide)
          refine to_an (pc := 71) rw_226_71 rfl (to_c (pc := 72) rw_226_72 (x := (0 : Int32)) rfl rfl (s_pI (pc := 73) rw_226_73 hG408 rfl (fun M411 W410 => ?_)))
          have hG412 := g_w hG408 W410 (A := 0) rfl (lo := 0) (hi := 1) rfl rfl (by omega) (by decide)
          have F413 := FR.w F409 W410 (show 77 = 77 ∧ (68 = 4 ∨ 68 = 5 ∨ 7 ≤ 68 ∧ 68 ≤ 10) ∨ 77 = 77 ∧ (68 = 59 ∨ 65 ≤ 68 ∧ 68 ≤ 69) ∨ 112 ≤ 77 ∧ 77 ≤ 114 ∧ 40 ≤ 68 ∨ 77 = 115 ∨ 77 = 116 by decide)
          refine to_an (pc := 76) rw_226_76 rfl (s_v (pc := 77) rw_226_77 (dp0 hd (by decide)) (ls0 := [.ref 77]) rfl (Nat.le_of_ble_eq_true rfl) (Nat.le_of_ble_eq_true rfl) rfl (to_rc rfl rfl rfl (g_o hG412 rfl)) rfl ?_)
          have c_414 : M411.2.1 77 7 = (M.2.1 77 7) := (W_n W410 (by decide) (W_n W406 (by decide) (W_n W399 (fun z => absurd z.1 (by decide)) (F_n F379 (show ¬ (77 = 77 ∧ (7 = 59 ∨ 7 = 65 ∨ 7 = 66) ∨ 112 ≤ 77 ∧ 77 ≤ 114 ∧ 40 ≤ 7 ∨ 77 = 116) by decide) (W_n W360 (by decide) rfl)))))
          have t_415 : (M411.2.1 77 7).toInt = (M.2.1 77 7).toInt := congrArg Int32.toInt c_414
          have c_416 : M411.2.1 77 6 = (M.2.1 77 6) := (W_n W410 (by decide) (W_n W406 (by decide) (W_n W399 (fun z => absurd z.1 (by decide)) (F_n F379 (show ¬ (77 = 77 ∧ (6 = 59 ∨ 6 = 65 ∨ 6 = 66) ∨ 112 ≤ 77 ∧ 77 ≤ 114 ∧ 40 ≤ 6 ∨ 77 = 116) by decide) (W_n W360 (by decide) rfl)))))
          have t_417 : (M411.2.1 77 6).toInt = (M.2.1 77 6).toInt := congrArg Int32.toInt c_416
          have c_418 : M411.2.1 77 10 = (M.2.1 77 10) := (W_n W410 (by decide) (W_n W406 (by decide) (W_n W399 (fun z => absurd z.1 (by decide)) (F_n F379 (show ¬ (77 = 77 ∧ (10 = 59 ∨ 10 = 65 ∨ 10 = 66) ∨ 112 ≤ 77 ∧ 77 ≤ 114 ∧ 40 ≤ 10 ∨ 77 = 116) by decide) (W_n W360 (by decide) rfl)))))
          have t_419 : (M411.2.1 77 10).toInt = (M.2.1 77 10).toInt := congrArg Int32.toInt c_418
          have j_420 := (RS_f (fun a i z => W_n W410 (by /-r77-/ omega) rfl) (RS_f (fun a i z => W_n W406 (by /-r77-/ omega) rfl) (RS_f (fun a i z => W_n W399 (by /-r115-/ omega) rfl) (RS_f (fun a i z => F_n F379 (show ¬ (a = 77 ∧ (i = 59 ∨ i = 65 ∨ i = 66) ∨ 112 ≤ a ∧ a ≤ 114 ∧ 40 ≤ i ∨ a = 116) by omega) rfl) (RS_f (fun a i z => W_n W360 (by /-r77-/ omega) rfl) q4)))))
          have z_421 := RS_b j_420 (a := a) (by omega)
          have j_422 := (TR_f (fun a i z => W_n W410 (by /-r77-/ omega) rfl) (TR_f (fun a i z => W_n W406 (by /-r77-/ omega) rfl) (TR_f (fun a i z => W_n W399 (by /-r115-/ omega) rfl) (TR_f (fun a i z => F_n F379 (show ¬ (a = 77 ∧ (i = 59 ∨ i = 65 ∨ i = 66) ∨ 112 ≤ a ∧ a ≤ 114 ∧ 40 ≤ i ∨ a = 116) by omega) rfl) (TR_f (fun a i z => W_n W360 (by /-r77-/ omega) rfl) q8)))))
          have j_423 := (W9_f (fun a i z => W_n W410 (by /-r77-/ omega) rfl) (W9_f (fun a i z => W_n W406 (by /-r77-/ omega) rfl) (W9_f (fun a i z => W_n W399 (by /-r115-/ omega) rfl) (W9_f (fun a i z => F_n F379 (show ¬ (a = 77 ∧ (i = 59 ∨ i = 65 ∨ i = 66) ∨ 112 ≤ a ∧ a ≤ 114 ∧ 40 ≤ i ∨ a = 116) by omega) rfl) (W9_f (fun a i z => W_n W360 (by /-r77-/ omega) rfl) q9)))))
          refine E_156 hX (dp1 hd (by decide)) hG412 (by omega) (by omega) (by omega) (by omega) j_422 j_423  (fun M430 hG425 F424 p_426 p_427 p_428 p_429 => ?_)
          have F431 := FR.c F413 F424 (fun a i z => show a = 77 ∧ (i = 4 ∨ i = 5 ∨ 7 ≤ i ∧ i ≤ 10) ∨ a = 77 ∧ (i = 59 ∨ 65 ≤ i ∧ i ≤ 69) ∨ 112 ≤ a ∧ a ≤ 114 ∧ 40 ≤ i ∨ a = 115 ∨ a = 116 by have z : a = 77 ∧ 7 ≤ i ∧ i ≤ 10 := z; omega)
          have b_432 := g_b hG425 (a := 77) (i := 7) (lo := 0) (hi := 500) rfl rfl
          have c_433 : M430.2.1 77 6 = (M.2.1 77 6) := (F_n F424 (show ¬ (77 = 77 ∧ 7 ≤ 6 ∧ 6 ≤ 10) by decide) c_416)
          have t_434 : (M430.2.1 77 6).toInt = (M.2.1 77 6).toInt := congrArg Int32.toInt c_433
          have b_435 := g_b hG425 (a := 77) (i := 8) (lo := 0) (hi := 5) rfl rfl
          have b_436 := g_b hG425 (a := 77) (i := 10) (lo := 0) (hi := 500) rfl rfl
          have z_437 := RS_s p_429.2 (a := a) (by omega)
          refine to_c (pc := 80) rw_226_80 (x := (1 : Int32)) rfl rfl (s_r1 (pc := 81) rw_226_81 (A := 1) rfl (by decide) ?_)
          have c_438 : M430.2.1 77 59 = (M384.2.1 77 59) := (F_n F424 (show ¬ (77 = 77 ∧ 7 ≤ 59 ∧ 59 ≤ 10) by decide) (W_n W410 (by decide) (W_n W406 (by decide) (W_n W399 (fun z => absurd z.1 (by decide)) rfl))))
          have t_439 : (M430.2.1 77 59).toInt = (M384.2.1 77 59).toInt := congrArg Int32.toInt c_438
          have c_440 : M430.2.1 77 65 = v404 := (F_n F424 (show ¬ (77 = 77 ∧ 7 ≤ 65 ∧ 65 ≤ 10) by decide) (W_n W410 (by decide) (W_e W406)))
          have t_441 : (M430.2.1 77 65).toInt = v404.toInt := congrArg Int32.toInt c_440
          have c_442 : M430.2.1 77 66 = (M384.2.1 77 66) := (F_n F424 (show ¬ (77 = 77 ∧ 7 ≤ 66 ∧ 66 ≤ 10) by decide) (W_n W410 (by decide) (W_n W406 (by decide) (W_n W399 (fun z => absurd z.1 (by decide)) rfl))))
          have t_443 : (M430.2.1 77 66).toInt = (M384.2.1 77 66).toInt := congrArg Int32.toInt c_442
          have c_444 : M430.2.1 77 67 = (M.2.1 77 67) := (F_n F424 (show ¬ (77 = 77 ∧ 7 ≤ 67 ∧ 67 ≤ 10) by decide) (W_n W410 (by decide) (W_n W406 (by decide) (W_n W399 (fun z => absurd z.1 (by decide)) c_391))))
          have t_445 : (M430.2.1 77 67).toInt = (M.2.1 77 67).toInt := congrArg Int32.toInt c_444
          have c_446 : M430.2.1 77 68 = (0 : Int32) := (F_n F424 (show ¬ (77 = 77 ∧ 7 ≤ 68 ∧ 68 ≤ 10) by decide) (W_e W410))
          have k_447 : (0 : Int32).toInt = 0 := rfl
          have t_448 : (M430.2.1 77 68).toInt = (0 : Int32).toInt := congrArg Int32.toInt c_446
          have c_449 : M430.2.1 77 69 = v358 := (F_n F424 (show ¬ (77 = 77 ∧ 7 ≤ 69 ∧ 69 ≤ 10) by decide) (W_n W410 (by decide) (W_n W406 (by decide) (W_n W399 (fun z => absurd z.1 (by decide)) c_395))))
          have t_450 : (M430.2.1 77 69).toInt = v358.toInt := congrArg Int32.toInt c_449
          have k_452 : (4 : Int32).toInt = 4 := rfl
          have s_453 := Wx_f (M := M384) (M1 := M430) ((M384.2.1 77 65).toInt).toNat (fun i z => (F_n F424 (show ¬ (115 = 77 ∧ 7 ≤ i ∧ i ≤ 10) by omega) (W_n W410 (by omega) (W_n W406 (by omega) (W_n W399 (by omega) rfl)))))
          have s_454 : (M430.2.1 115 ((M384.2.1 77 65).toInt).toNat).toInt = (4 : Int32).toInt := by rw [show ((M384.2.1 77 65).toInt).toNat = ((M384.2.1 77 65).toInt).toNat by omega]; exact congrArg Int32.toInt (F_n F424 (show ¬ (115 = 77 ∧ 7 ≤ (((M384.2.1 77 65).toInt).toNat) ∧ (((M384.2.1 77 65).toInt).toNat) ≤ 10) by omega) (W_n W410 (by omega) (W_n W406 (by omega) (W_e W399))))
          have s_455 := Wx_s M430 ((M384.2.1 77 65).toInt).toNat
          have j_451 : QK M430 := QK_i (by unfold QK_c; rw [show ((M430.2.1 77 65).toInt).toNat = ((M384.2.1 77 65).toInt).toNat + 1 by omega]; refine ⟨by omega, by omega, by omega, by omega⟩) (fun i z => by
              by_cases ei : i = ((M384.2.1 77 65).toInt).toNat
              · rw [ei]; omega
              · rw [(F_n F424 (show ¬ (115 = 77 ∧ 7 ≤ i ∧ i ≤ 10) by omega) (W_n W410 (by omega) (W_n W406 (by omega) (W_n W399 (by omega) rfl))))]; exact p_381.2.1 i (by omega)) (by rw [(F_n F424 (show ¬ (77 = 77 ∧ 7 ≤ 59 ∧ 59 ≤ 10) by decide) (W_n W410 (by omega) (W_n W406 (by omega) (W_n W399 (by omega) rfl))))]; exact KN_f (fun a i z => (F_n F424 (show ¬ (a = 77 ∧ 7 ≤ i ∧ i ≤ 10) by omega) (W_n W410 (by omega) (W_n W406 (by omega) (W_n W399 (by omega) rfl))))) p_381.2.2)
          exact h (1 : Int32) M430 hG425 F431 (by decide) (by decide) (by omega) (by omega) (by omega) (by omega) (fun _ => j_451) (fun _ => by rw [show ((M430.2.1 77 65).toInt).toNat = ((M384.2.1 77 65).toInt).toNat + 1 by omega]; omega) (fun _ => p_429.1) (fun _ => (q_ao (by omega) (by omega) (by omega) (by omega) (by omega)).trans (q_w (by omega) (by omega) (by omega) (by omega))) (fun z => absurd z (by decide))
        · refine to_an (pc := 9) rw_224_9 rfl (to_c (pc := 10) rw_224_10 (x := (2 : Int32)) rfl rfl (s_v (pc := 11) rw_224_11 (dp1 hd (by decide)) (ls0 := [.ref 77, .int (2 : Int32)]) rfl (Nat.le_of_ble_eq_true rfl) (Nat.le_of_ble_eq_true rfl) rfl (to_rc rfl rfl rfl (g_o hG rfl)) rfl (to_an (pc := 0) rw_152_0 rfl (to_in (pc := 1) rw_152_1 rfl (s_pI (pc := 2) rw_152_2 hG rfl (fun M457 W456 => ?_))))))
          have hG458 := g_wf hG W456 rfl rfl (by decide)
          have F459 := FR.w F0 W456 (show 77 = 77 ∧ (4 = 4 ∨ 4 = 5 ∨ 7 ≤ 4 ∧ 4 ≤ 10) ∨ 77 = 77 ∧ (4 = 59 ∨ 65 ≤ 4 ∧ 4 ≤ 69) ∨ 112 ≤ 77 ∧ 77 ≤ 114 ∧ 40 ≤ 4 ∨ 77 = 115 ∨ 77 = 116 by decide)
          refine to_an (pc := 5) rw_152_5 rfl (to_an (pc := 6) rw_152_6 rfl ?_)
          have c_460 : M457.2.1 77 10 = (M.2.1 77 10) := (W_n W456 (by decide) rfl)
          refine tt_gI (pc := 7) rw_152_7 (g_o hG458 rfl) (v := (M.2.1 77 10)) c_460 (s_pI (pc := 10) rw_152_10 hG458 rfl (fun M462 W461 => ?_))
          have hG463 := g_wf hG458 W461 rfl rfl (by decide)
          have F464 := FR.w F459 W461 (show 77 = 77 ∧ (5 = 4 ∨ 5 = 5 ∨ 7 ≤ 5 ∧ 5 ≤ 10) ∨ 77 = 77 ∧ (5 = 59 ∨ 65 ≤ 5 ∧ 5 ≤ 69) ∨ 112 ≤ 77 ∧ 77 ≤ 114 ∧ 40 ≤ 5 ∨ 77 = 115 ∨ 77 = 116 by decide)
          refine to_c (pc := 13) rw_152_13 (x := (0 : Int32)) rfl rfl (s_r1 (pc := 14) rw_152_14 (A := 0) rfl (by decide) (s_r1 (pc := 14) rw_224_14 (A := 0) rfl (by decide) (b_ine_f (pc := 37) rw_226_37 (A := 0) rfl (by decide) (to_c (pc := 40) rw_226_40 (x := (0 : Int32)) rfl rfl (s_r1 (pc := 41) rw_226_41 (A := 0) rfl (by decide) ?_)))))
          have k_465 : (0 : Int32).toInt = 0 := rfl
          have c_466 : M462.2.1 77 7 = (M.2.1 77 7) := (W_n W461 (by decide) (W_n W456 (by decide) rfl))
          have t_467 : (M462.2.1 77 7).toInt = (M.2.1 77 7).toInt := congrArg Int32.toInt c_466
          have c_468 : M462.2.1 77 6 = (M.2.1 77 6) := (W_n W461 (by decide) (W_n W456 (by decide) rfl))
          have t_469 : (M462.2.1 77 6).toInt = (M.2.1 77 6).toInt := congrArg Int32.toInt c_468
          have c_470 : M462.2.1 77 8 = (M.2.1 77 8) := (W_n W461 (by decide) (W_n W456 (by decide) rfl))
          have t_471 : (M462.2.1 77 8).toInt = (M.2.1 77 8).toInt := congrArg Int32.toInt c_470
          have c_472 : M462.2.1 77 4 = (2 : Int32) := (W_n W461 (by decide) (W_e W456))
          have k_473 : (2 : Int32).toInt = 2 := rfl
          have t_474 : (M462.2.1 77 4).toInt = (2 : Int32).toInt := congrArg Int32.toInt c_472
          have c_475 : M462.2.1 77 5 = (M.2.1 77 10) := (W_e W461)
          have t_476 : (M462.2.1 77 5).toInt = (M.2.1 77 10).toInt := congrArg Int32.toInt c_475
          have c_477 : M462.2.1 77 67 = (M.2.1 77 67) := (W_n W461 (by decide) (W_n W456 (by decide) rfl))
          have t_478 : (M462.2.1 77 67).toInt = (M.2.1 77 67).toInt := congrArg Int32.toInt c_477
          have c_479 : M462.2.1 77 69 = (M.2.1 77 69) := (W_n W461 (by decide) (W_n W456 (by decide) rfl))
          have t_480 : (M462.2.1 77 69).toInt = (M.2.1 77 69).toInt := congrArg Int32.toInt c_479
          exact h (0 : Int32) M462 hG463 F464 (by decide) (by decide) (by omega) (by omega) (by omega) (by omega) (fun z => absurd z (by omega)) (fun z => absurd z (by decide)) (fun z => absurd z (by decide)) (fun z => absurd z (by decide)) (fun _ => by first | exact inl_e (by omega) (by omega) (q_aox (by omega) (by omega) (by omega) (by omega) (by omega)) | exact inl_e (by omega) (by omega) (q_1x (by omega) (by omega) (by omega) (by omega) (by omega)))
    · refine to_c (pc := 16) rw_158_16 (x := (1 : Int32)) rfl rfl (to_go (pc := 17) rw_158_17 (s_r1 (pc := 21) rw_158_21 (A := 1) rfl (by decide) (b_ine_t (pc := 6) rw_226_6 (A := 1) rfl (by decide) (to_an (pc := 18) rw_226_18 rfl (tt_gI (pc := 19) rw_226_19 (g_o hG rfl) (v := (M.2.1 77 9)) rfl (to_c (pc := 22) rw_226_22 (x := (12 : Int32)) rfl rfl (b_cne_f (pc := 24) rw_226_24 (A := (M.2.1 77 9).toInt) (B := 12) rfl rfl (by omega) (to_c (pc := 27) rw_226_27 (x := (3 : Int32)) rfl rfl (to_go (pc := 28) rw_226_28 (to_isn (pc := 32) rw_226_32 (ls2 := [.ref 77, .int (3 : Int32)]) rfl rfl (to_an (pc := 33) rw_226_33 rfl ?_)))))))))))
      refine s_v (pc := 34) rw_226_34 (dp0 hd (by decide)) (ls0 := [.ref 77]) rfl (Nat.le_of_ble_eq_true rfl) (Nat.le_of_ble_eq_true rfl) rfl (to_rc rfl rfl rfl (g_o hG rfl)) rfl (to_an (pc := 0) rw_224_0 rfl (tt_gI (pc := 1) rw_224_1 (g_o hG rfl) (v := (M.2.1 77 69)) rfl (to_c (pc := 4) rw_224_4 (x := (40 : Int32)) rfl rfl (b_cne (pc := 6) rw_224_6 (A := (M.2.1 77 69).toInt) (B := 40) rfl rfl (fun h481 => ?_) (fun h481 => ?_)))))
      · refine to_an (pc := 15) rw_224_15 rfl (to_dupr (pc := 16) rw_224_16 (tt_gI (pc := 17) rw_224_17 (g_o hG rfl) (v := (M.2.1 77 69)) rfl (to_c (pc := 20) rw_224_20 (x := (1 : Int32)) rfl rfl (s_add (pc := 21) rw_224_21 (A := (M.2.1 77 69).toInt) (B := 1) rfl rfl (by omega) (fun v482 e483 => s_pI (pc := 22) rw_224_22 hG rfl (fun M485 W484 => ?_))))))
        have hG486 := g_w hG W484 (A := v482.toInt) rfl (lo := 0) (hi := 40) rfl rfl (by omega) (by decide)
        have F487 := FR.w F0 W484 (show 77 = 77 ∧ (69 = 4 ∨ 69 = 5 ∨ 7 ≤ 69 ∧ 69 ≤ 10) ∨ 77 = 77 ∧ (69 = 59 ∨ 65 ≤ 69 ∧ 69 ≤ 69) ∨ 112 ≤ 77 ∧ 77 ≤ 114 ∧ 40 ≤ 69 ∨ 77 = 115 ∨ 77 = 116 by decide)
        refine to_c (pc := 25) rw_224_25 (x := (1 : Int32)) rfl rfl (s_r1 (pc := 26) rw_224_26 (A := 1) rfl (by decide) (b_ine_t (pc := 37) rw_226_37 (A := 1) rfl (by decide) (to_an (pc := 42) rw_226_42 rfl (to_an (pc := 43) rw_226_43 rfl (to_in (pc := 44) rw_226_44 rfl (s_v (pc := 45) rw_226_45 (dp0 hd (by decide)) (ls0 := [.ref 77, .int (3 : Int32)]) rfl (Nat.le_of_ble_eq_true rfl) (Nat.le_of_ble_eq_true rfl) rfl (to_rc rfl rfl rfl (g_o hG486 rfl)) rfl (to_in (pc := 0) rw_220_0 rfl (to_c (pc := 1) rw_220_1 (x := (2 : Int32)) rfl rfl (b_cne_t (pc := 2) rw_220_2 (A := 3) (B := 2) rfl rfl (by decide) (to_in (pc := 9) rw_220_9 rfl (to_c (pc := 10) rw_220_10 (x := (3 : Int32)) rfl rfl ?_)))))))))))
        refine b_cne_f (pc := 11) rw_220_11 (A := 3) (B := 3) rfl rfl (by decide) (to_c (pc := 14) rw_220_14 (x := (2 : Int32)) rfl rfl (to_go (pc := 15) rw_220_15 (to_r0 (pc := 28) rw_220_28 (s_v (pc := 48) rw_226_48 (dp0 hd (by decide)) (ls0 := [.ref 77, .int (2 : Int32), .null, .null, .null]) rfl (Nat.le_of_ble_eq_true rfl) (Nat.le_of_ble_eq_true rfl) rfl (to_rc rfl rfl rfl (g_o hG486 rfl)) rfl ?_))))
        have k_488 : (2 : Int32).toInt = 2 := rfl
        have c_489 : M485.2.1 77 59 = (M.2.1 77 59) := (W_n W484 (by decide) rfl)
        have t_490 : (M485.2.1 77 59).toInt = (M.2.1 77 59).toInt := congrArg Int32.toInt c_489
        have c_491 : M485.2.1 77 65 = (M.2.1 77 65) := (W_n W484 (by decide) rfl)
        have t_492 : (M485.2.1 77 65).toInt = (M.2.1 77 65).toInt := congrArg Int32.toInt c_491
        have c_493 : M485.2.1 77 66 = (M.2.1 77 66) := (W_n W484 (by decide) rfl)
        have t_494 : (M485.2.1 77 66).toInt = (M.2.1 77 66).toInt := congrArg Int32.toInt c_493
        have c_495 : M485.2.1 77 67 = (M.2.1 77 67) := (W_n W484 (by decide) rfl)
        have t_496 : (M485.2.1 77 67).toInt = (M.2.1 77 67).toInt := congrArg Int32.toInt c_495
        have c_497 : M485.2.1 77 68 = (M.2.1 77 68) := (W_n W484 (by decide) rfl)
        have t_498 : (M485.2.1 77 68).toInt = (M.2.1 77 68).toInt := congrArg Int32.toInt c_497
        have c_499 : M485.2.1 77 69 = v482 := (W_e W484)
        have t_500 : (M485.2.1 77 69).toInt = v482.toInt := congrArg Int32.toInt c_499
        have s_502 := Wx_f (M := M) (M1 := M485) ((M.2.1 77 65).toInt).toNat (fun i z => (W_n W484 (by omega) rfl))
        have j_501 : QK M485 := QK_i (by unfold QK_c; rw [show ((M485.2.1 77 65).toInt).toNat = ((M.2.1 77 65).toInt).toNat by omega]; refine ⟨by omega, by omega, by omega, by omega⟩) (fun i z => by rw [(W_n W484 (by omega) rfl)]; exact q2.2.1 i (by omega)) (by rw [(W_n W484 (by omega) rfl)]; exact KN_f (fun a i z => (W_n W484 (by omega) rfl)) q2.2.2)
        refine C_223 hX (dp1 hd (by decide)) hG486 (by omega) (by omega) (by omega) j_501 (l := (2 : Int32)) (fun M508 hG504 F503 p_505 p_506 p_507 => ?_)
        have F509 := FR.c F487 F503 (fun a i z => show a = 77 ∧ (i = 4 ∨ i = 5 ∨ 7 ≤ i ∧ i ≤ 10) ∨ a = 77 ∧ (i = 59 ∨ 65 ≤ i ∧ i ≤ 69) ∨ 112 ≤ a ∧ a ≤ 114 ∧ 40 ≤ i ∨ a = 115 ∨ a = 116 by have z : a = 77 ∧ (i = 59 ∨ i = 65 ∨ i = 66) ∨ 112 ≤ a ∧ a ≤ 114 ∧ 40 ≤ i ∨ a = 116 := z; omega)
        have s_510 := p_506
        have s_511 : Wo M485 ((M485.2.1 77 65).toInt).toNat = Wo M ((M.2.1 77 65).toInt).toNat := by rw [show (M485.2.1 77 65) = (M.2.1 77 65) from (W_n W484 (by omega) rfl)]; exact (Wx_f (M := M) (M1 := M485) _ (fun i z => (W_n W484 (by omega) rfl))).1
        have b_512 := g_b hG504 (a := 77) (i := 59) (lo := 0) (hi := 40) rfl rfl
        have b_513 := g_b hG504 (a := 77) (i := 65) (lo := 0) (hi := 48) rfl rfl
        have b_514 := g_b hG504 (a := 77) (i := 66) (lo := 0) (hi := 40) rfl rfl
        have c_515 : M508.2.1 77 67 = (M.2.1 77 67) := (F_n F503 (show ¬ (77 = 77 ∧ (67 = 59 ∨ 67 = 65 ∨ 67 = 66) ∨ 112 ≤ 77 ∧ 77 ≤ 114 ∧ 40 ≤ 67 ∨ 77 = 116) by decide) c_495)
        have t_516 : (M508.2.1 77 67).toInt = (M.2.1 77 67).toInt := congrArg Int32.toInt c_515
        have c_517 : M508.2.1 77 68 = (M.2.1 77 68) := (F_n F503 (show ¬ (77 = 77 ∧ (68 = 59 ∨ 68 = 65 ∨ 68 = 66) ∨ 112 ≤ 77 ∧ 77 ≤ 114 ∧ 40 ≤ 68 ∨ 77 = 116) by decide) c_497)
        have t_518 : (M508.2.1 77 68).toInt = (M.2.1 77 68).toInt := congrArg Int32.toInt c_517
        have c_519 : M508.2.1 77 69 = v482 := (F_n F503 (show ¬ (77 = 77 ∧ (69 = 59 ∨ 69 = 65 ∨ 69 = 66) ∨ 112 ≤ 77 ∧ 77 ≤ 114 ∧ 40 ≤ 69 ∨ 77 = 116) by decide) c_499)
        have t_520 : (M508.2.1 77 69).toInt = v482.toInt := congrArg Int32.toInt c_519
        have s_521 := QK_e p_505
        have s_522 := Wx_b M508 ((M508.2.1 77 65).toInt).toNat
        refine to_an (pc := 51) rw_226_51 rfl (s_gR (pc := 52) rw_226_52 hG504 rfl (v := 115) rfl (to_an (pc := 55) rw_226_55 rfl (tt_gI (pc := 56) rw_226_56 (g_o hG504 rfl) (v := (M508.2.1 77 65)) rfl (to_in (pc := 59) rw_226_59 rfl (s_ias (pc := 60) rw_226_60 hG504 rfl (n := 64) rfl (A := (M508.2.1 77 65).toInt) rfl (by omega) (by omega) (fun M524 W523 => ?_))))))
        have hG525 := g_w hG504 W523 (A := 3) rfl (lo := 0) (hi := 4) rfl rfl (by omega) (by decide)
        have F526 := FR.w F509 W523 (show 115 = 77 ∧ (((M508.2.1 77 65).toInt).toNat = 4 ∨ ((M508.2.1 77 65).toInt).toNat = 5 ∨ 7 ≤ ((M508.2.1 77 65).toInt).toNat ∧ ((M508.2.1 77 65).toInt).toNat ≤ 10) ∨ 115 = 77 ∧ (((M508.2.1 77 65).toInt).toNat = 59 ∨ 65 ≤ ((M508.2.1 77 65).toInt).toNat ∧ ((M508.2.1 77 65).toInt).toNat ≤ 69) ∨ 112 ≤ 115 ∧ 115 ≤ 114 ∧ 40 ≤ ((M508.2.1 77 65).toInt).toNat ∨ 115 = 115 ∨ 115 = 116 by omega)
        refine to_an (pc := 61) rw_226_61 rfl (to_dupr (pc := 62) rw_226_62 ?_)
        have c_527 : M524.2.1 77 65 = (M508.2.1 77 65) := (W_n W523 (fun z => absurd z.1 (by decide)) rfl)
        refine tt_gI (pc := 63) rw_226_63 (g_o hG525 rfl) (v := (M508.2.1 77 65)) c_527 (to_c (pc := 66) rw_226_66 (x := (1 : Int32)) rfl rfl (s_add (pc := 67) rw_226_67 (A := (M508.2.1 77 65).toInt) (B := 1) rfl rfl (by omega) (fun v528 e529 => s_pI (pc := 68) rw_226_68 hG525 rfl (fun M531 W530 => ?_))))
        have hG532 := g_w hG525 W530 (A := v528.toInt) rfl (lo := 0) (hi := 48) rfl rfl (by omega) (by decide)
        have F533 := FR.w F526 W530 (show 77 = 77 ∧ (65 = 4 ∨ 65 = 5 ∨ 7 ≤ 65 ∧ 65 ≤ 10) ∨ 77 = 77 ∧ (65 = 59 ∨ 65 ≤ 65 ∧ 65 ≤ 69) ∨ 112 ≤ 77 ∧ 77 ≤ 114 ∧ 40 ≤ 65 ∨ 77 = 115 ∨ 77 = 116 by decide)
        refine to_an (pc := 71) rw_226_71 rfl (to_c (pc := 72) rw_226_72 (x := (0 : Int32)) rfl rfl (s_pI (pc := 73) rw_226_73 hG532 rfl (fun M535 W534 => ?_)))
        have hG536 := g_w hG532 W534 (A := 0) rfl (lo := 0) (hi := 1) rfl rfl (by omega) (by decide)
        have F537 := FR.w F533 W534 (show 77 = 77 ∧ (68 = 4 ∨ 68 = 5 ∨ 7 ≤ 68 ∧ 68 ≤ 10) ∨ 77 = 77 ∧ (68 = 59 ∨ 65 ≤ 68 ∧ 68 ≤ 69) ∨ 112 ≤ 77 ∧ 77 ≤ 114 ∧ 40 ≤ 68 ∨ 77 = 115 ∨ 77 = 116 by decide)
        refine to_an (pc := 76) rw_226_76 rfl (s_v (pc := 77) rw_226_77 (dp0 hd (by decide)) (ls0 := [.ref 77]) rfl (Nat.le_of_ble_eq_true rfl) (Nat.le_of_ble_eq_true rfl) rfl (to_rc rfl rfl rfl (g_o hG536 rfl)) rfl ?_)
        have c_538 : M535.2.1 77 7 = (M.2.1 77 7) := (W_n W534 (by decide) (W_n W530 (by decide) (W_n W523 (fun z => absurd z.1 (by decide)) (F_n F503 (show ¬ (77 = 77 ∧ (7 = 59 ∨ 7 = 65 ∨ 7 = 66) ∨ 112 ≤ 77 ∧ 77 ≤ 114 ∧ 40 ≤ 7 ∨ 77 = 116) by decide) (W_n W484 (by decide) rfl)))))
        have t_539 : (M535.2.1 77 7).toInt = (M.2.1 77 7).toInt := congrArg Int32.toInt c_538
        have c_540 : M535.2.1 77 6 = (M.2.1 77 6) := (W_n W534 (by decide) (W_n W530 (by decide) (W_n W523 (fun z => absurd z.1 (by decide)) (F_n F503 (show ¬ (77 = 77 ∧ (6 = 59 ∨ 6 = 65 ∨ 6 = 66) ∨ 112 ≤ 77 ∧ 77 ≤ 114 ∧ 40 ≤ 6 ∨ 77 = 116) by decide) (W_n W484 (by decide) rfl)))))
        have t_541 : (M535.2.1 77 6).toInt = (M.2.1 77 6).toInt := congrArg Int32.toInt c_540
        have c_542 : M535.2.1 77 10 = (M.2.1 77 10) := (W_n W534 (by decide) (W_n W530 (by decide) (W_n W523 (fun z => absurd z.1 (by decide)) (F_n F503 (show ¬ (77 = 77 ∧ (10 = 59 ∨ 10 = 65 ∨ 10 = 66) ∨ 112 ≤ 77 ∧ 77 ≤ 114 ∧ 40 ≤ 10 ∨ 77 = 116) by decide) (W_n W484 (by decide) rfl)))))
        have t_543 : (M535.2.1 77 10).toInt = (M.2.1 77 10).toInt := congrArg Int32.toInt c_542
        have j_544 := (RS_f (fun a i z => W_n W534 (by /-r77-/ omega) rfl) (RS_f (fun a i z => W_n W530 (by /-r77-/ omega) rfl) (RS_f (fun a i z => W_n W523 (by /-r115-/ omega) rfl) (RS_f (fun a i z => F_n F503 (show ¬ (a = 77 ∧ (i = 59 ∨ i = 65 ∨ i = 66) ∨ 112 ≤ a ∧ a ≤ 114 ∧ 40 ≤ i ∨ a = 116) by omega) rfl) (RS_f (fun a i z => W_n W484 (by /-r77-/ omega) rfl) q4)))))
        have z_545 := RS_b j_544 (a := a) (by omega)
        have j_546 := (TR_f (fun a i z => W_n W534 (by /-r77-/ omega) rfl) (TR_f (fun a i z => W_n W530 (by /-r77-/ omega) rfl) (TR_f (fun a i z => W_n W523 (by /-r115-/ omega) rfl) (TR_f (fun a i z => F_n F503 (show ¬ (a = 77 ∧ (i = 59 ∨ i = 65 ∨ i = 66) ∨ 112 ≤ a ∧ a ≤ 114 ∧ 40 ≤ i ∨ a = 116) by omega) rfl) (TR_f (fun a i z => W_n W484 (by /-r77-/ omega) rfl) q8)))))
        have j_547 := (W9_f (fun a i z => W_n W534 (by /-r77-/ omega) rfl) (W9_f (fun a i z => W_n W530 (by /-r77-/ omega) rfl) (W9_f (fun a i z => W_n W523 (by /-r115-/ omega) rfl) (W9_f (fun a i z => F_n F503 (show ¬ (a = 77 ∧ (i = 59 ∨ i = 65 ∨ i = 66) ∨ 112 ≤ a ∧ a ≤ 114 ∧ 40 ≤ i ∨ a = 116) by omega) rfl) (W9_f (fun a i z => W_n W484 (by /-r77-/ omega) rfl) q9)))))
        refine E_156 hX (dp1 hd (by decide)) hG536 (by omega) (by omega) (by omega) (by omega) j_546 j_547  (fun M554 hG549 F548 p_550 p_551 p_552 p_553 => ?_)
        have F555 := FR.c F537 F548 (fun a i z => show a = 77 ∧ (i = 4 ∨ i = 5 ∨ 7 ≤ i ∧ i ≤ 10) ∨ a = 77 ∧ (i = 59 ∨ 65 ≤ i ∧ i ≤ 69) ∨ 112 ≤ a ∧ a ≤ 114 ∧ 40 ≤ i ∨ a = 115 ∨ a = 116 by have z : a = 77 ∧ 7 ≤ i ∧ i ≤ 10 := z; omega)
        have b_556 := g_b hG549 (a := 77) (i := 7) (lo := 0) (hi := 500) rfl rfl
        have c_557 : M554.2.1 77 6 = (M.2.1 77 6) := (F_n F548 (show ¬ (77 = 77 ∧ 7 ≤ 6 ∧ 6 ≤ 10) by decide) c_540)
        have t_558 : (M554.2.1 77 6).toInt = (M.2.1 77 6).toInt := congrArg Int32.toInt c_557
        have b_559 := g_b hG549 (a := 77) (i := 8) (lo := 0) (hi := 5) rfl rfl
        have b_560 := g_b hG549 (a := 77) (i := 10) (lo := 0) (hi := 500) rfl rfl
        have z_561 := RS_s p_553.2 (a := a) (by omega)
        refine to_c (pc := 80) rw_226_80 (x := (1 : Int32)) rfl rfl (s_r1 (pc := 81) rw_226_81 (A := 1) rfl (by decide) ?_)
        have k_562 : (1 : Int32).toInt = 1 := rfl
        have c_563 : M554.2.1 77 59 = (M508.2.1 77 59) := (F_n F548 (show ¬ (77 = 77 ∧ 7 ≤ 59 ∧ 59 ≤ 10) by decide) (W_n W534 (by decide) (W_n W530 (by decide) (W_n W523 (fun z => absurd z.1 (by decide)) rfl))))
        have t_564 : (M554.2.1 77 59).toInt = (M508.2.1 77 59).toInt := congrArg Int32.toInt c_563
        have c_565 : M554.2.1 77 65 = v528 := (F_n F548 (show ¬ (77 = 77 ∧ 7 ≤ 65 ∧ 65 ≤ 10) by decide) (W_n W534 (by decide) (W_e W530)))
        have t_566 : (M554.2.1 77 65).toInt = v528.toInt := congrArg Int32.toInt c_565
        have c_567 : M554.2.1 77 66 = (M508.2.1 77 66) := (F_n F548 (show ¬ (77 = 77 ∧ 7 ≤ 66 ∧ 66 ≤ 10) by decide) (W_n W534 (by decide) (W_n W530 (by decide) (W_n W523 (fun z => absurd z.1 (by decide)) rfl))))
        have t_568 : (M554.2.1 77 66).toInt = (M508.2.1 77 66).toInt := congrArg Int32.toInt c_567
        have c_569 : M554.2.1 77 67 = (M.2.1 77 67) := (F_n F548 (show ¬ (77 = 77 ∧ 7 ≤ 67 ∧ 67 ≤ 10) by decide) (W_n W534 (by decide) (W_n W530 (by decide) (W_n W523 (fun z => absurd z.1 (by decide)) c_515))))
        have t_570 : (M554.2.1 77 67).toInt = (M.2.1 77 67).toInt := congrArg Int32.toInt c_569
        have c_571 : M554.2.1 77 68 = (0 : Int32) := (F_n F548 (show ¬ (77 = 77 ∧ 7 ≤ 68 ∧ 68 ≤ 10) by decide) (W_e W534))
        have k_572 : (0 : Int32).toInt = 0 := rfl
        have t_573 : (M554.2.1 77 68).toInt = (0 : Int32).toInt := congrArg Int32.toInt c_571
        have c_574 : M554.2.1 77 69 = v482 := (F_n F548 (show ¬ (77 = 77 ∧ 7 ≤ 69 ∧ 69 ≤ 10) by decide) (W_n W534 (by decide) (W_n W530 (by decide) (W_n W523 (fun z => absurd z.1 (by decide)) c_519))))
        have t_575 : (M554.2.1 77 69).toInt = v482.toInt := congrArg Int32.toInt c_574
        have k_577 : (3 : Int32).toInt = 3 := rfl
        have s_578 := Wx_f (M := M508) (M1 := M554) ((M508.2.1 77 65).toInt).toNat (fun i z => (F_n F548 (show ¬ (115 = 77 ∧ 7 ≤ i ∧ i ≤ 10) by omega) (W_n W534 (by omega) (W_n W530 (by omega) (W_n W523 (by omega) rfl)))))
        have s_579 : (M554.2.1 115 ((M508.2.1 77 65).toInt).toNat).toInt = (3 : Int32).toInt := by rw [show ((M508.2.1 77 65).toInt).toNat = ((M508.2.1 77 65).toInt).toNat by omega]; exact congrArg Int32.toInt (F_n F548 (show ¬ (115 = 77 ∧ 7 ≤ (((M508.2.1 77 65).toInt).toNat) ∧ (((M508.2.1 77 65).toInt).toNat) ≤ 10) by omega) (W_n W534 (by omega) (W_n W530 (by omega) (W_e W523))))
        have s_580 := Wx_s M554 ((M508.2.1 77 65).toInt).toNat
        have j_576 : QK M554 := QK_i (by unfold QK_c; rw [show ((M554.2.1 77 65).toInt).toNat = ((M508.2.1 77 65).toInt).toNat + 1 by omega]; refine ⟨by omega, by omega, by omega, by omega⟩) (fun i z => by
            by_cases ei : i = ((M508.2.1 77 65).toInt).toNat
            · rw [ei]; omega
            · rw [(F_n F548 (show ¬ (115 = 77 ∧ 7 ≤ i ∧ i ≤ 10) by omega) (W_n W534 (by omega) (W_n W530 (by omega) (W_n W523 (by omega) rfl))))]; exact p_505.2.1 i (by omega)) (by rw [(F_n F548 (show ¬ (77 = 77 ∧ 7 ≤ 59 ∧ 59 ≤ 10) by decide) (W_n W534 (by omega) (W_n W530 (by omega) (W_n W523 (by omega) rfl))))]; exact KN_f (fun a i z => (F_n F548 (show ¬ (a = 77 ∧ 7 ≤ i ∧ i ≤ 10) by omega) (W_n W534 (by omega) (W_n W530 (by omega) (W_n W523 (by omega) rfl))))) p_505.2.2)
        exact h (1 : Int32) M554 hG549 F555 (by decide) (by decide) (by omega) (by omega) (by omega) (by omega) (fun _ => j_576) (fun _ => by rw [show ((M554.2.1 77 65).toInt).toNat = ((M508.2.1 77 65).toInt).toNat + 1 by omega]; omega) (fun _ => p_553.1) (fun _ => (q_ao (by omega) (by omega) (by omega) (by omega) (by omega)).trans (q_w (by omega) (by omega) (by omega) (by omega))) (fun z => absurd z (by decide))
      · refine to_an (pc := 9) rw_224_9 rfl (to_c (pc := 10) rw_224_10 (x := (2 : Int32)) rfl rfl (s_v (pc := 11) rw_224_11 (dp1 hd (by decide)) (ls0 := [.ref 77, .int (2 : Int32)]) rfl (Nat.le_of_ble_eq_true rfl) (Nat.le_of_ble_eq_true rfl) rfl (to_rc rfl rfl rfl (g_o hG rfl)) rfl (to_an (pc := 0) rw_152_0 rfl (to_in (pc := 1) rw_152_1 rfl (s_pI (pc := 2) rw_152_2 hG rfl (fun M582 W581 => ?_))))))
        have hG583 := g_wf hG W581 rfl rfl (by decide)
        have F584 := FR.w F0 W581 (show 77 = 77 ∧ (4 = 4 ∨ 4 = 5 ∨ 7 ≤ 4 ∧ 4 ≤ 10) ∨ 77 = 77 ∧ (4 = 59 ∨ 65 ≤ 4 ∧ 4 ≤ 69) ∨ 112 ≤ 77 ∧ 77 ≤ 114 ∧ 40 ≤ 4 ∨ 77 = 115 ∨ 77 = 116 by decide)
        refine to_an (pc := 5) rw_152_5 rfl (to_an (pc := 6) rw_152_6 rfl ?_)
        have c_585 : M582.2.1 77 10 = (M.2.1 77 10) := (W_n W581 (by decide) rfl)
        refine tt_gI (pc := 7) rw_152_7 (g_o hG583 rfl) (v := (M.2.1 77 10)) c_585 (s_pI (pc := 10) rw_152_10 hG583 rfl (fun M587 W586 => ?_))
        have hG588 := g_wf hG583 W586 rfl rfl (by decide)
        have F589 := FR.w F584 W586 (show 77 = 77 ∧ (5 = 4 ∨ 5 = 5 ∨ 7 ≤ 5 ∧ 5 ≤ 10) ∨ 77 = 77 ∧ (5 = 59 ∨ 65 ≤ 5 ∧ 5 ≤ 69) ∨ 112 ≤ 77 ∧ 77 ≤ 114 ∧ 40 ≤ 5 ∨ 77 = 115 ∨ 77 = 116 by decide)
        refine to_c (pc := 13) rw_152_13 (x := (0 : Int32)) rfl rfl (s_r1 (pc := 14) rw_152_14 (A := 0) rfl (by decide) (s_r1 (pc := 14) rw_224_14 (A := 0) rfl (by decide) (b_ine_f (pc := 37) rw_226_37 (A := 0) rfl (by decide) (to_c (pc := 40) rw_226_40 (x := (0 : Int32)) rfl rfl (s_r1 (pc := 41) rw_226_41 (A := 0) rfl (by decide) ?_)))))
        have k_590 : (0 : Int32).toInt = 0 := rfl
        have c_591 : M587.2.1 77 7 = (M.2.1 77 7) := (W_n W586 (by decide) (W_n W581 (by decide) rfl))
        have t_592 : (M587.2.1 77 7).toInt = (M.2.1 77 7).toInt := congrArg Int32.toInt c_591
        have c_593 : M587.2.1 77 6 = (M.2.1 77 6) := (W_n W586 (by decide) (W_n W581 (by decide) rfl))
        have t_594 : (M587.2.1 77 6).toInt = (M.2.1 77 6).toInt := congrArg Int32.toInt c_593
        have c_595 : M587.2.1 77 8 = (M.2.1 77 8) := (W_n W586 (by decide) (W_n W581 (by decide) rfl))
        have t_596 : (M587.2.1 77 8).toInt = (M.2.1 77 8).toInt := congrArg Int32.toInt c_595
        have c_597 : M587.2.1 77 4 = (2 : Int32) := (W_n W586 (by decide) (W_e W581))
        have k_598 : (2 : Int32).toInt = 2 := rfl
        have t_599 : (M587.2.1 77 4).toInt = (2 : Int32).toInt := congrArg Int32.toInt c_597
        have c_600 : M587.2.1 77 5 = (M.2.1 77 10) := (W_e W586)
        have t_601 : (M587.2.1 77 5).toInt = (M.2.1 77 10).toInt := congrArg Int32.toInt c_600
        have c_602 : M587.2.1 77 67 = (M.2.1 77 67) := (W_n W586 (by decide) (W_n W581 (by decide) rfl))
        have t_603 : (M587.2.1 77 67).toInt = (M.2.1 77 67).toInt := congrArg Int32.toInt c_602
        have c_604 : M587.2.1 77 69 = (M.2.1 77 69) := (W_n W586 (by decide) (W_n W581 (by decide) rfl))
        have t_605 : (M587.2.1 77 69).toInt = (M.2.1 77 69).toInt := congrArg Int32.toInt c_604
        exact h (0 : Int32) M587 hG588 F589 (by decide) (by decide) (by omega) (by omega) (by omega) (by omega) (fun z => absurd z (by omega)) (fun z => absurd z (by decide)) (fun z => absurd z (by decide)) (fun z => absurd z (by decide)) (fun _ => by first | exact inl_e (by omega) (by omega) (q_aox (by omega) (by omega) (by omega) (by omega) (by omega)) | exact inl_e (by omega) (by omega) (q_1x (by omega) (by omega) (by omega) (by omega) (by omega)))
