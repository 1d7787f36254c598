theorem tg_305 {M M1 : mm_M} (F : FR (fun a i : Nat => a = 77 ∧ 7 ≤ i ∧ i ≤ 10) M M1) : ∀ a i : Nat, (a = 77 ∧ 11 ≤ i ∧ i ≤ 13 ∨ 80 ≤ a ∧ a ≤ 84 ∧ i < 8 ∨ 85 ≤ a ∧ a ≤ 86 ∧ i < 12) → M1.2.1 a i = M.2.1 a i := fun a i z => F_n F (show ¬ (a = 77 ∧ 7 ≤ i ∧ i ≤ 10) by omega) rfl
theorem tg_306 {M M1 : mm_M} (F : FR (fun a i : Nat => a = 77 ∧ (i = 59 ∨ i = 66) ∨ 112 ≤ a ∧ a ≤ 114 ∧ 40 ≤ i ∨ a = 116) M M1) : ∀ a i : Nat, (a = 77 ∧ 6 ≤ i ∧ i ≤ 10) → M1.2.1 a i = M.2.1 a i := fun a i z => F_n F (show ¬ (a = 77 ∧ (i = 59 ∨ i = 66) ∨ 112 ≤ a ∧ a ≤ 114 ∧ 40 ≤ i ∨ a = 116) by omega) rfl
theorem tg_307 {M M1 : mm_M} (F : FR (fun a i : Nat => a = 77 ∧ (i = 59 ∨ i = 66) ∨ 112 ≤ a ∧ a ≤ 114 ∧ 40 ≤ i ∨ a = 116) M M1) : ∀ a i : Nat, a = 78 → M1.2.1 a i = M.2.1 a i := fun a i z => F_n F (show ¬ (a = 77 ∧ (i = 59 ∨ i = 66) ∨ 112 ≤ a ∧ a ≤ 114 ∧ 40 ≤ i ∨ a = 116) by omega) rfl
theorem tg_308 {M M1 : mm_M} (F : FR (fun a i : Nat => a = 77 ∧ (i = 59 ∨ i = 66) ∨ 112 ≤ a ∧ a ≤ 114 ∧ 40 ≤ i ∨ a = 116) M M1) : ∀ a i : Nat, a = 79 → M1.2.1 a i = M.2.1 a i := fun a i z => F_n F (show ¬ (a = 77 ∧ (i = 59 ∨ i = 66) ∨ 112 ≤ a ∧ a ≤ 114 ∧ 40 ≤ i ∨ a = 116) by omega) rfl
set_option maxRecDepth 4000 in
set_option maxHeartbeats 0 in
theorem E_225 {X : mm_X} {d : Nat} {M : mm_M} {Q : Option Value → mm_M → Prop} {t : Nat → Int} {nn : Int} {a : Int} {sg : x_S} (hX : g_X X) (hd : 2 ≤ d) (hG : g_G M) (q1 : (M.2.1 77 7).toInt ≤ (M.2.1 77 6).toInt) (q2 : QK M) (q3 : FA M) (q4 : (M.2.1 77 68).toInt = 0) (q5 : RS M t nn) (q6 : (M.2.1 77 10).toInt = a) (q7 : 0 ≤ nn) (q8 : nn ≤ 500) (q9 : TR M t nn) (q10 : W9 M) (q11 : PLk M sg) (q12 : (M.2.1 77 59).toInt + Wo M ((M.2.1 77 65).toInt).toNat = (M.2.1 77 69).toInt) (h : ∀ (r : Int32) (M1 : mm_M), g_G M1 → FR md_qr M M1 → (0 ≤ r.toInt) → (r.toInt ≤ 1) → ((M1.2.1 77 7).toInt ≤ (M1.2.1 77 6).toInt) → ((M.2.1 77 7).toInt ≤ (M1.2.1 77 7).toInt) → (r.toInt = 1 → (M1.2.1 77 8).toInt = 0 ∨ (M.2.1 77 7).toInt < (M1.2.1 77 7).toInt) → (r.toInt = 1 → ¬ (M.2.1 77 8).toInt = 0) → ((r.toInt = 1 → QK M1)) → ((r.toInt = 1 → (M1.2.1 77 59).toInt + Wo M1 ((M1.2.1 77 65).toInt).toNat = (M1.2.1 77 69).toInt)) → ((r.toInt = 1 → RS M1 t nn)) → ((r.toInt = 1 → x_qq t nn sg 0 (M.2.1 77 67).toInt (M.2.1 77 69).toInt a = x_qq t nn sg (M1.2.1 77 68).toInt (M1.2.1 77 67).toInt (M1.2.1 77 69).toInt (M1.2.1 77 10).toInt)) → ((r.toInt = 0 → x_qq t nn sg 0 (M.2.1 77 67).toInt (M.2.1 77 69).toInt a = Sum.inl ((M1.2.1 77 4).toInt, (M1.2.1 77 5).toInt))) → Q (some (.int r)) M1) : mm_T X d 224 0 [.ref 77, .null, .null, .null, .null, .null] [] M Q := by
  have F0 : FR md_qr M M := FR.rf
  have b_1 := g_b hG (a := 77) (i := 7) (lo := 0) (hi := 500) rfl rfl
  have b_2 := g_b hG (a := 77) (i := 6) (lo := 0) (hi := 500) rfl rfl
  have b_3 := g_b hG (a := 77) (i := 68) (lo := 0) (hi := 1) rfl rfl
  have b_4 := g_b hG (a := 77) (i := 10) (lo := 0) (hi := 500) rfl rfl
  have b_5 := g_b hG (a := 77) (i := 59) (lo := 0) (hi := 40) rfl rfl
  have b_6 := g_b hG (a := 77) (i := 65) (lo := 0) (hi := 48) rfl rfl
  have b_7 := g_b hG (a := 77) (i := 66) (lo := 0) (hi := 40) rfl rfl
  have b_8 := g_b hG (a := 77) (i := 67) (lo := 0) (hi := 8) rfl rfl
  have b_9 := g_b hG (a := 77) (i := 69) (lo := 0) (hi := 40) rfl rfl
  have s_10 := QK_e q2
  have s_11 := Wx_b M ((M.2.1 77 65).toInt).toNat
  have b_12 := g_b hG (a := 77) (i := 8) (lo := 0) (hi := 5) rfl rfl
  have z_13 := RS_k q5 (a := a) (by omega)
  have z_14 := q11.2.1
  have z_15 := q11.2.2.1
  have z_16 := q11.2.2.2.1
  have z_17 := q11.1
  have z_18 := z_17.1
  have z_19 := z_17.2.1
  have z_20 := z_17.2.2.1
  have z_21 := z_17.2.2.2.1
  have z_22 := z_17.2.2.2.2.1
  have z_23 := z_17.2.2.2.2.2.1
  have b_24 := g_b hG (a := 77) (i := 11) (lo := 10) (hi := 60) rfl rfl
  have b_25 := g_b hG (a := 77) (i := 12) (lo := 0) (hi := 8) rfl rfl
  have b_26 := g_b hG (a := 77) (i := 13) (lo := 0) (hi := 12) rfl rfl
  have z_27 := RS_b q5 (a := a) (by omega)
  refine to_an (pc := 0) rw_225_0 rfl (to_c (pc := 1) rw_225_1 (x := (40 : Int32)) rfl rfl (s_v (pc := 3) rw_225_3 (dp0 hd (by decide)) (ls0 := [.ref 77, .int (40 : Int32)]) rfl (Nat.le_of_ble_eq_true rfl) (Nat.le_of_ble_eq_true rfl) rfl (to_rc rfl rfl rfl (g_o hG rfl)) rfl (to_an (pc := 0) rw_159_0 rfl (tt_gI (pc := 1) rw_159_1 (g_o hG rfl) (v := (M.2.1 77 8)) rfl (to_c (pc := 4) rw_159_4 (x := (4 : Int32)) rfl rfl (b_cne (pc := 5) rw_159_5 (A := (M.2.1 77 8).toInt) (B := 4) rfl rfl (fun h28 => ?_) (fun h28 => ?_)))))))
  · refine to_c (pc := 20) rw_159_20 (x := (0 : Int32)) rfl rfl (s_r1 (pc := 21) rw_159_21 (A := 0) rfl (by decide) (b_ieq_t (pc := 6) rw_225_6 (A := 0) rfl (by decide) (to_an (pc := 60) rw_225_60 rfl (to_c (pc := 61) rw_225_61 (x := (14 : Int32)) rfl rfl (s_v (pc := 63) rw_225_63 (dp0 hd (by decide)) (ls0 := [.ref 77, .int (14 : Int32)]) rfl (Nat.le_of_ble_eq_true rfl) (Nat.le_of_ble_eq_true rfl) rfl (to_rc rfl rfl rfl (g_o hG rfl)) rfl (to_an (pc := 0) rw_158_0 rfl (tt_gI (pc := 1) rw_158_1 (g_o hG rfl) (v := (M.2.1 77 8)) rfl (to_c (pc := 4) rw_158_4 (x := (1 : Int32)) rfl rfl (b_cne (pc := 5) rw_158_5 (A := (M.2.1 77 8).toInt) (B := 1) rfl rfl (fun h29 => ?_) (fun h29 => ?_))))))))))
    · refine to_c (pc := 20) rw_158_20 (x := (0 : Int32)) rfl rfl (s_r1 (pc := 21) rw_158_21 (A := 0) rfl (by decide) (b_ieq_t (pc := 66) rw_225_66 (A := 0) rfl (by decide) (to_an (pc := 104) rw_225_104 rfl (tt_gI (pc := 105) rw_225_105 (g_o hG rfl) (v := (M.2.1 77 8)) rfl (to_c (pc := 108) rw_225_108 (x := (2 : Int32)) rfl rfl (b_ceq (pc := 109) rw_225_109 (A := (M.2.1 77 8).toInt) (B := 2) rfl rfl (fun h30 => ?_) (fun h30 => ?_)))))))
      · have z_31 := RS_2 q5 (a := a) (by omega) (by omega)
        have z_32 := x_fn_b (s := sg) (v := x_val t nn a) q11.1
        refine to_an (pc := 118) rw_225_118 rfl (s_v (pc := 119) rw_225_119 (dp0 hd (by decide)) (ls0 := [.ref 77]) rfl (Nat.le_of_ble_eq_true rfl) (Nat.le_of_ble_eq_true rfl) rfl (to_rc rfl rfl rfl (g_o hG rfl)) rfl (to_an (pc := 0) rw_224_0 rfl (tt_gI (pc := 1) rw_224_1 (g_o hG rfl) (v := (M.2.1 77 69)) rfl (to_c (pc := 4) rw_224_4 (x := (40 : Int32)) rfl rfl (b_cne (pc := 6) rw_224_6 (A := (M.2.1 77 69).toInt) (B := 40) rfl rfl (fun h33 => ?_) (fun h33 => ?_))))))
        · refine to_an (pc := 15) rw_224_15 rfl (to_dupr (pc := 16) rw_224_16 (tt_gI (pc := 17) rw_224_17 (g_o hG rfl) (v := (M.2.1 77 69)) rfl (to_c (pc := 20) rw_224_20 (x := (1 : Int32)) rfl rfl (s_add (pc := 21) rw_224_21 (A := (M.2.1 77 69).toInt) (B := 1) rfl rfl (by omega) (fun v34 e35 => s_pI (pc := 22) rw_224_22 hG rfl (fun M37 W36 => ?_))))))
          have hG38 := g_w hG W36 (A := v34.toInt) rfl (lo := 0) (hi := 40) rfl rfl (by omega) (by decide)
          have F39 := FR.w F0 W36 (show 77 = 77 ∧ (69 = 4 ∨ 69 = 5 ∨ 7 ≤ 69 ∧ 69 ≤ 10) ∨ 77 = 77 ∧ (69 = 59 ∨ 65 ≤ 69 ∧ 69 ≤ 69) ∨ 112 ≤ 77 ∧ 77 ≤ 114 ∧ 40 ≤ 69 ∨ 77 = 115 ∨ 77 = 116 by decide)
          refine to_c (pc := 25) rw_224_25 (x := (1 : Int32)) rfl rfl (s_r1 (pc := 26) rw_224_26 (A := 1) rfl (by decide) (b_ine_t (pc := 122) rw_225_122 (A := 1) rfl (by decide) (to_an (pc := 127) rw_225_127 rfl ?_)))
          have c_40 : M37.2.1 77 9 = (M.2.1 77 9) := (W_n W36 (by decide) rfl)
          refine tt_gI (pc := 128) rw_225_128 (g_o hG38 rfl) (v := (M.2.1 77 9)) c_40 (to_isn (pc := 131) rw_225_131 (ls2 := [.ref 77, .int (M.2.1 77 9), .null, .null, .null, .null]) rfl rfl (to_an (pc := 132) rw_225_132 rfl ?_))
          have c_41 : M37.2.1 77 10 = (M.2.1 77 10) := (W_n W36 (by decide) rfl)
          refine tt_gI (pc := 133) rw_225_133 (g_o hG38 rfl) (v := (M.2.1 77 10)) c_41 (to_isn (pc := 136) rw_225_136 (ls2 := [.ref 77, .int (M.2.1 77 9), .int (M.2.1 77 10), .null, .null, .null]) rfl rfl (to_an (pc := 137) rw_225_137 rfl (s_v (pc := 138) rw_225_138 (dp0 hd (by decide)) (ls0 := [.ref 77]) rfl (Nat.le_of_ble_eq_true rfl) (Nat.le_of_ble_eq_true rfl) rfl (to_rc rfl rfl rfl (g_o hG38 rfl)) rfl ?_)))
          have c_42 : M37.2.1 77 7 = (M.2.1 77 7) := (W_n W36 (by decide) rfl)
          have t_43 : (M37.2.1 77 7).toInt = (M.2.1 77 7).toInt := congrArg Int32.toInt c_42
          have c_44 : M37.2.1 77 6 = (M.2.1 77 6) := (W_n W36 (by decide) rfl)
          have t_45 : (M37.2.1 77 6).toInt = (M.2.1 77 6).toInt := congrArg Int32.toInt c_44
          have t_46 : (M37.2.1 77 10).toInt = (M.2.1 77 10).toInt := congrArg Int32.toInt c_41
          have j_47 := (RS_f (fun a i z => W_n W36 (by omega) rfl) q5)
          have z_48 := RS_b j_47 (a := a) (by omega)
          have j_49 := (TR_f (fun a i z => W_n W36 (tg_9 a i _ z) rfl) q9)
          have j_50 := (W9_f (fun a i z => W_n W36 (tg_10 a i _ z) rfl) q10)
          refine E_156 hX (dp1 hd (by decide)) hG38 (by omega) (by omega) (by omega) (by omega) j_49 j_50  (fun M57 hG52 F51 p_53 p_54 p_55 p_56 => ?_)
          have F58 := FR.c F39 F51 tg_258
          have b_59 := g_b hG52 (a := 77) (i := 7) (lo := 0) (hi := 500) rfl rfl
          have c_60 : M57.2.1 77 6 = (M.2.1 77 6) := (F_n F51 (show ¬ (77 = 77 ∧ 7 ≤ 6 ∧ 6 ≤ 10) by decide) c_44)
          have t_61 : (M57.2.1 77 6).toInt = (M.2.1 77 6).toInt := congrArg Int32.toInt c_60
          have b_62 := g_b hG52 (a := 77) (i := 8) (lo := 0) (hi := 5) rfl rfl
          have b_63 := g_b hG52 (a := 77) (i := 10) (lo := 0) (hi := 500) rfl rfl
          have z_64 := RS_s p_56.2 (a := a) (by omega)
          have z_65 := RS_k p_56.1 (a := (x_ns t nn a)) (by omega)
          refine to_an (pc := 141) rw_225_141 rfl (to_c (pc := 142) rw_225_142 (x := (61 : Int32)) rfl rfl (s_v (pc := 144) rw_225_144 (dp0 hd (by decide)) (ls0 := [.ref 77, .int (61 : Int32)]) rfl (Nat.le_of_ble_eq_true rfl) (Nat.le_of_ble_eq_true rfl) rfl (to_rc rfl rfl rfl (g_o hG52 rfl)) rfl (to_an (pc := 0) rw_159_0 rfl (tt_gI (pc := 1) rw_159_1 (g_o hG52 rfl) (v := (M57.2.1 77 8)) rfl (to_c (pc := 4) rw_159_4 (x := (4 : Int32)) rfl rfl (b_cne (pc := 5) rw_159_5 (A := (M57.2.1 77 8).toInt) (B := 4) rfl rfl (fun h66 => ?_) (fun h66 => ?_)))))))
          · refine to_c (pc := 20) rw_159_20 (x := (0 : Int32)) rfl rfl (s_r1 (pc := 21) rw_159_21 (A := 0) rfl (by decide) (to_isn (pc := 147) rw_225_147 (ls2 := [.ref 77, .int (M.2.1 77 9), .int (M.2.1 77 10), .int (0 : Int32), .null, .null]) rfl rfl (to_an (pc := 148) rw_225_148 rfl (to_in (pc := 149) rw_225_149 rfl (s_v (pc := 150) rw_225_150 (dp0 hd (by decide)) (ls0 := [.ref 77, .int (M.2.1 77 9), .null]) rfl (Nat.le_of_ble_eq_true rfl) (Nat.le_of_ble_eq_true rfl) rfl (to_rc rfl rfl rfl (g_o hG52 rfl)) rfl ?_)))))
            have j_67 := (PLk_f (tg_305 F51) (PLk_f (fun a i z => W_n W36 (by omega) rfl) q11))
            refine E_175 hX (dp1 hd (by decide)) hG52 j_67 (n := (M.2.1 77 9)) (sg := sg) (fun r68 M74 hG70 F69 p_71 p_72 p_73 => ?_)
            have F75 := FR.c F58 F69 tg_259
            have z_76 := x_fn_v (s := sg) (r := 1) (v := (M.2.1 77 9).toInt) (w := x_val t nn a) (by omega)
            refine to_is (pc := 153) rw_225_153 (ls2 := [.ref 77, .int (M.2.1 77 9), .int (M.2.1 77 10), .int (0 : Int32), .int r68, .null]) rfl rfl (to_an (pc := 155) rw_225_155 rfl (to_in (pc := 156) rw_225_156 rfl (s_v (pc := 157) rw_225_157 (dp0 hd (by decide)) (ls0 := [.ref 77, .int (M.2.1 77 9), .null]) rfl (Nat.le_of_ble_eq_true rfl) (Nat.le_of_ble_eq_true rfl) rfl (to_rc rfl rfl rfl (g_o hG70 rfl)) rfl ?_)))
            have j_77 := (PLk_f (tg_72 F69) j_67)
            refine E_176 hX (dp1 hd (by decide)) hG70 j_77 (n := (M.2.1 77 9)) (sg := sg) (fun r78 M84 hG80 F79 p_81 p_82 p_83 => ?_)
            have F85 := FR.c F75 F79 tg_259
            have z_86 := x_fn_v (s := sg) (r := 6) (v := (M.2.1 77 9).toInt) (w := x_val t nn a) (by omega)
            refine to_is (pc := 160) rw_225_160 (ls2 := [.ref 77, .int (M.2.1 77 9), .int (M.2.1 77 10), .int (0 : Int32), .int r68, .int r78]) rfl rfl (to_in (pc := 162) rw_225_162 rfl (b_ieq_t (pc := 163) rw_225_163 (A := 0) rfl (by decide) (to_i (pc := 178) rw_225_178 rfl (b_ige (pc := 180) rw_225_180 (A := r78.toInt) rfl (fun h87 => ?_) (fun h87 => ?_)))))
            · refine to_an (pc := 194) rw_225_194 rfl (to_c (pc := 195) rw_225_195 (x := (1 : Int32)) rfl rfl (s_pI (pc := 196) rw_225_196 hG80 rfl (fun M89 W88 => ?_)))
              have hG90 := g_w hG80 W88 (A := 1) rfl (lo := 0) (hi := 1) rfl rfl (by omega) (by decide)
              have F91 := FR.w F85 W88 (show 77 = 77 ∧ (68 = 4 ∨ 68 = 5 ∨ 7 ≤ 68 ∧ 68 ≤ 10) ∨ 77 = 77 ∧ (68 = 59 ∨ 65 ≤ 68 ∧ 68 ≤ 69) ∨ 112 ≤ 77 ∧ 77 ≤ 114 ∧ 40 ≤ 68 ∨ 77 = 115 ∨ 77 = 116 by decide)
              refine to_in (pc := 199) rw_225_199 rfl (b_ine_f (pc := 200) rw_225_200 (A := 0) rfl (by decide) (to_an (pc := 203) rw_225_203 rfl (to_c (pc := 204) rw_225_204 (x := (1 : Int32)) rfl rfl (to_i (pc := 205) rw_225_205 rfl (to_c (pc := 207) rw_225_207 (x := (0 : Int32)) rfl rfl (s_v (pc := 208) rw_225_208 (dp0 hd (by decide)) (ls0 := [.ref 77, .int (1 : Int32), .int r78, .int (0 : Int32)]) rfl (Nat.le_of_ble_eq_true rfl) (Nat.le_of_ble_eq_true rfl) rfl (to_rc rfl rfl rfl (g_o hG90 rfl)) rfl ?_))))))
              have k_92 : (1 : Int32).toInt = 1 := rfl
              have k_93 : (0 : Int32).toInt = 0 := rfl
              have c_94 : M89.2.1 77 59 = (M.2.1 77 59) := (W_n W88 (by decide) (F_n F79 (show ¬ (77 < 0) by decide) (F_n F69 (show ¬ (77 < 0) by decide) (F_n F51 (show ¬ (77 = 77 ∧ 7 ≤ 59 ∧ 59 ≤ 10) by decide) (W_n W36 (by decide) rfl)))))
              have t_95 : (M89.2.1 77 59).toInt = (M.2.1 77 59).toInt := congrArg Int32.toInt c_94
              have c_96 : M89.2.1 77 66 = (M.2.1 77 66) := (W_n W88 (by decide) (F_n F79 (show ¬ (77 < 0) by decide) (F_n F69 (show ¬ (77 < 0) by decide) (F_n F51 (show ¬ (77 = 77 ∧ 7 ≤ 66 ∧ 66 ≤ 10) by decide) (W_n W36 (by decide) rfl)))))
              have t_97 : (M89.2.1 77 66).toInt = (M.2.1 77 66).toInt := congrArg Int32.toInt c_96
              refine C_221 hX (dp1 hd (by decide)) hG90 (by omega) (by omega) (by omega) (by omega) (by omega) (by omega) (by rw [(W_n W88 (by omega) (F_n F79 (show ¬ (77 < 0) by decide) (F_n F69 (show ¬ (77 < 0) by decide) (F_n F51 (show ¬ (77 = 77 ∧ 7 ≤ 59 ∧ 59 ≤ 10) by decide) (W_n W36 (by omega) rfl)))))]; exact KN_f (fun a i z => (W_n W88 (by omega) (F_n F79 (show ¬ (a < 0) by omega) (F_n F69 (show ¬ (a < 0) by omega) (F_n F51 (show ¬ (a = 77 ∧ 7 ≤ i ∧ i ≤ 10) by omega) (W_n W36 (by omega) rfl)))))) q2.2.2) (by omega) (by omega) (by omega) (by omega) (k := (1 : Int32)) (p := r78) (o := (0 : Int32)) (fun M103 hG99 F98 p_100 p_101 p_102 => ?_)
              have F104 := FR.c F91 F98 tg_260
              have b_105 := g_b hG99 (a := 77) (i := 59) (lo := 0) (hi := 40) rfl rfl
              have b_106 := g_b hG99 (a := 77) (i := 66) (lo := 0) (hi := 40) rfl rfl
              refine to_c (pc := 211) rw_225_211 (x := (1 : Int32)) rfl rfl (s_r1 (pc := 212) rw_225_212 (A := 1) rfl (by decide) ?_)
              have c_107 : M103.2.1 77 7 = (M57.2.1 77 7) := (F_n F98 (show ¬ (77 = 77 ∧ (7 = 59 ∨ 7 = 66) ∨ 112 ≤ 77 ∧ 77 ≤ 114 ∧ 40 ≤ 7 ∨ 77 = 116) by decide) (W_n W88 (by decide) (F_n F79 (show ¬ (77 < 0) by decide) (F_n F69 (show ¬ (77 < 0) by decide) rfl))))
              have t_108 : (M103.2.1 77 7).toInt = (M57.2.1 77 7).toInt := congrArg Int32.toInt c_107
              have c_109 : M103.2.1 77 6 = (M.2.1 77 6) := (F_n F98 (show ¬ (77 = 77 ∧ (6 = 59 ∨ 6 = 66) ∨ 112 ≤ 77 ∧ 77 ≤ 114 ∧ 40 ≤ 6 ∨ 77 = 116) by decide) (W_n W88 (by decide) (F_n F79 (show ¬ (77 < 0) by decide) (F_n F69 (show ¬ (77 < 0) by decide) c_60))))
              have t_110 : (M103.2.1 77 6).toInt = (M.2.1 77 6).toInt := congrArg Int32.toInt c_109
              have c_111 : M103.2.1 77 8 = (M57.2.1 77 8) := (F_n F98 (show ¬ (77 = 77 ∧ (8 = 59 ∨ 8 = 66) ∨ 112 ≤ 77 ∧ 77 ≤ 114 ∧ 40 ≤ 8 ∨ 77 = 116) by decide) (W_n W88 (by decide) (F_n F79 (show ¬ (77 < 0) by decide) (F_n F69 (show ¬ (77 < 0) by decide) rfl))))
              have t_112 : (M103.2.1 77 8).toInt = (M57.2.1 77 8).toInt := congrArg Int32.toInt c_111
              have c_113 : M103.2.1 77 65 = (M.2.1 77 65) := (F_n F98 (show ¬ (77 = 77 ∧ (65 = 59 ∨ 65 = 66) ∨ 112 ≤ 77 ∧ 77 ≤ 114 ∧ 40 ≤ 65 ∨ 77 = 116) by decide) (W_n W88 (by decide) (F_n F79 (show ¬ (77 < 0) by decide) (F_n F69 (show ¬ (77 < 0) by decide) (F_n F51 (show ¬ (77 = 77 ∧ 7 ≤ 65 ∧ 65 ≤ 10) by decide) (W_n W36 (by decide) rfl))))))
              have t_114 : (M103.2.1 77 65).toInt = (M.2.1 77 65).toInt := congrArg Int32.toInt c_113
              have c_115 : M103.2.1 77 67 = (M.2.1 77 67) := (F_n F98 (show ¬ (77 = 77 ∧ (67 = 59 ∨ 67 = 66) ∨ 112 ≤ 77 ∧ 77 ≤ 114 ∧ 40 ≤ 67 ∨ 77 = 116) by decide) (W_n W88 (by decide) (F_n F79 (show ¬ (77 < 0) by decide) (F_n F69 (show ¬ (77 < 0) by decide) (F_n F51 (show ¬ (77 = 77 ∧ 7 ≤ 67 ∧ 67 ≤ 10) by decide) (W_n W36 (by decide) rfl))))))
              have t_116 : (M103.2.1 77 67).toInt = (M.2.1 77 67).toInt := congrArg Int32.toInt c_115
              have c_117 : M103.2.1 77 68 = (1 : Int32) := (F_n F98 (show ¬ (77 = 77 ∧ (68 = 59 ∨ 68 = 66) ∨ 112 ≤ 77 ∧ 77 ≤ 114 ∧ 40 ≤ 68 ∨ 77 = 116) by decide) (W_e W88))
              have t_118 : (M103.2.1 77 68).toInt = (1 : Int32).toInt := congrArg Int32.toInt c_117
              have c_119 : M103.2.1 77 69 = v34 := (F_n F98 (show ¬ (77 = 77 ∧ (69 = 59 ∨ 69 = 66) ∨ 112 ≤ 77 ∧ 77 ≤ 114 ∧ 40 ≤ 69 ∨ 77 = 116) by decide) (W_n W88 (by decide) (F_n F79 (show ¬ (77 < 0) by decide) (F_n F69 (show ¬ (77 < 0) by decide) (F_n F51 (show ¬ (77 = 77 ∧ 7 ≤ 69 ∧ 69 ≤ 10) by decide) (W_e W36))))))
              have t_120 : (M103.2.1 77 69).toInt = v34.toInt := congrArg Int32.toInt c_119
              have s_122 := Wx_f (M := M) (M1 := M103) ((M.2.1 77 65).toInt).toNat (fun i z => (F_n F98 (show ¬ (115 = 77 ∧ (i = 59 ∨ i = 66) ∨ 112 ≤ 115 ∧ 115 ≤ 114 ∧ 40 ≤ i ∨ 115 = 116) by omega) (W_n W88 (by omega) (F_n F79 (show ¬ (115 < 0) by decide) (F_n F69 (show ¬ (115 < 0) by decide) (F_n F51 (show ¬ (115 = 77 ∧ 7 ≤ i ∧ i ≤ 10) by omega) (W_n W36 (by omega) rfl)))))))
              have j_121 : QK M103 := QK_i (by unfold QK_c; rw [show ((M103.2.1 77 65).toInt).toNat = ((M.2.1 77 65).toInt).toNat by omega]; refine ⟨by omega, by omega, by omega, by omega⟩) (fun i z => by rw [(F_n F98 (show ¬ (115 = 77 ∧ (i = 59 ∨ i = 66) ∨ 112 ≤ 115 ∧ 115 ≤ 114 ∧ 40 ≤ i ∨ 115 = 116) by omega) (W_n W88 (by omega) (F_n F79 (show ¬ (115 < 0) by decide) (F_n F69 (show ¬ (115 < 0) by decide) (F_n F51 (show ¬ (115 = 77 ∧ 7 ≤ i ∧ i ≤ 10) by omega) (W_n W36 (by omega) rfl))))))]; exact q2.2.1 i (by omega)) p_102
              have j_123 := (RS_f (tg_306 F98) (RS_f (fun a i z => W_n W88 (by omega) rfl) (RS_f (tg_24 F79) (RS_f (tg_24 F69) p_56.1))))
              have c_124 : M103.2.1 77 10 = (M57.2.1 77 10) := (F_n F98 (show ¬ (77 = 77 ∧ (10 = 59 ∨ 10 = 66) ∨ 112 ≤ 77 ∧ 77 ≤ 114 ∧ 40 ≤ 10 ∨ 77 = 116) by decide) (W_n W88 (by decide) (F_n F79 (show ¬ (77 < 0) by decide) (F_n F69 (show ¬ (77 < 0) by decide) rfl))))
              have t_125 : (M103.2.1 77 10).toInt = (M57.2.1 77 10).toInt := congrArg Int32.toInt c_124
              exact h (1 : Int32) M103 hG99 F104 (by decide) (by decide) (by omega) (by omega) (by omega) (by omega) (fun _ => j_121) (fun _ => by rw [show ((M103.2.1 77 65).toInt).toNat = ((M.2.1 77 65).toInt).toNat by omega]; omega) (fun _ => j_123) (fun _ => ((q_nm (by omega) (by omega) (by omega) (by omega)).trans (qn_w (by omega) (by omega))).trans (q_w (by omega) (by omega) (by omega) (by omega))) (fun z => absurd z (by decide))
            · refine to_an (pc := 183) rw_225_183 rfl (to_in (pc := 184) rw_225_184 rfl (s_pI (pc := 185) rw_225_185 hG80 rfl (fun M127 W126 => ?_)))
              have hG128 := g_w hG80 W126 (A := (M.2.1 77 10).toInt) rfl (lo := 0) (hi := 500) rfl rfl (by omega) (by decide)
              have F129 := FR.w F85 W126 (show 77 = 77 ∧ (10 = 4 ∨ 10 = 5 ∨ 7 ≤ 10 ∧ 10 ≤ 10) ∨ 77 = 77 ∧ (10 = 59 ∨ 65 ≤ 10 ∧ 10 ≤ 69) ∨ 112 ≤ 77 ∧ 77 ≤ 114 ∧ 40 ≤ 10 ∨ 77 = 115 ∨ 77 = 116 by decide)
              refine to_an (pc := 188) rw_225_188 rfl (to_c (pc := 189) rw_225_189 (x := (4 : Int32)) rfl rfl (s_v (pc := 190) rw_225_190 (dp0 hd (by decide)) (ls0 := [.ref 77, .int (4 : Int32)]) rfl (Nat.le_of_ble_eq_true rfl) (Nat.le_of_ble_eq_true rfl) rfl (to_rc rfl rfl rfl (g_o hG128 rfl)) rfl (to_an (pc := 0) rw_152_0 rfl (to_in (pc := 1) rw_152_1 rfl (s_pI (pc := 2) rw_152_2 hG128 rfl (fun M131 W130 => ?_))))))
              have hG132 := g_wf hG128 W130 rfl rfl (by decide)
              have F133 := FR.w F129 W130 (show 77 = 77 ∧ (4 = 4 ∨ 4 = 5 ∨ 7 ≤ 4 ∧ 4 ≤ 10) ∨ 77 = 77 ∧ (4 = 59 ∨ 65 ≤ 4 ∧ 4 ≤ 69) ∨ 112 ≤ 77 ∧ 77 ≤ 114 ∧ 40 ≤ 4 ∨ 77 = 115 ∨ 77 = 116 by decide)
              refine to_an (pc := 5) rw_152_5 rfl (to_an (pc := 6) rw_152_6 rfl ?_)
              have c_134 : M131.2.1 77 10 = (M.2.1 77 10) := (W_n W130 (by decide) (W_e W126))
              refine tt_gI (pc := 7) rw_152_7 (g_o hG132 rfl) (v := (M.2.1 77 10)) c_134 (s_pI (pc := 10) rw_152_10 hG132 rfl (fun M136 W135 => ?_))
              have hG137 := g_wf hG132 W135 rfl rfl (by decide)
              have F138 := FR.w F133 W135 (show 77 = 77 ∧ (5 = 4 ∨ 5 = 5 ∨ 7 ≤ 5 ∧ 5 ≤ 10) ∨ 77 = 77 ∧ (5 = 59 ∨ 65 ≤ 5 ∧ 5 ≤ 69) ∨ 112 ≤ 77 ∧ 77 ≤ 114 ∧ 40 ≤ 5 ∨ 77 = 115 ∨ 77 = 116 by decide)
              refine to_c (pc := 13) rw_152_13 (x := (0 : Int32)) rfl rfl (s_r1 (pc := 14) rw_152_14 (A := 0) rfl (by decide) (s_r1 (pc := 193) rw_225_193 (A := 0) rfl (by decide) ?_))
              have k_139 : (0 : Int32).toInt = 0 := rfl
              have c_140 : M136.2.1 77 7 = (M57.2.1 77 7) := (W_n W135 (by decide) (W_n W130 (by decide) (W_n W126 (by decide) (F_n F79 (show ¬ (77 < 0) by decide) (F_n F69 (show ¬ (77 < 0) by decide) rfl)))))
              have t_141 : (M136.2.1 77 7).toInt = (M57.2.1 77 7).toInt := congrArg Int32.toInt c_140
              have c_142 : M136.2.1 77 6 = (M.2.1 77 6) := (W_n W135 (by decide) (W_n W130 (by decide) (W_n W126 (by decide) (F_n F79 (show ¬ (77 < 0) by decide) (F_n F69 (show ¬ (77 < 0) by decide) c_60)))))
              have t_143 : (M136.2.1 77 6).toInt = (M.2.1 77 6).toInt := congrArg Int32.toInt c_142
              have c_144 : M136.2.1 77 8 = (M57.2.1 77 8) := (W_n W135 (by decide) (W_n W130 (by decide) (W_n W126 (by decide) (F_n F79 (show ¬ (77 < 0) by decide) (F_n F69 (show ¬ (77 < 0) by decide) rfl)))))
              have t_145 : (M136.2.1 77 8).toInt = (M57.2.1 77 8).toInt := congrArg Int32.toInt c_144
              have c_146 : M136.2.1 77 4 = (4 : Int32) := (W_n W135 (by decide) (W_e W130))
              have k_147 : (4 : Int32).toInt = 4 := rfl
              have t_148 : (M136.2.1 77 4).toInt = (4 : Int32).toInt := congrArg Int32.toInt c_146
              have c_149 : M136.2.1 77 5 = (M.2.1 77 10) := (W_e W135)
              have t_150 : (M136.2.1 77 5).toInt = (M.2.1 77 10).toInt := congrArg Int32.toInt c_149
              have c_151 : M136.2.1 77 67 = (M.2.1 77 67) := (W_n W135 (by decide) (W_n W130 (by decide) (W_n W126 (by decide) (F_n F79 (show ¬ (77 < 0) by decide) (F_n F69 (show ¬ (77 < 0) by decide) (F_n F51 (show ¬ (77 = 77 ∧ 7 ≤ 67 ∧ 67 ≤ 10) by decide) (W_n W36 (by decide) rfl)))))))
              have t_152 : (M136.2.1 77 67).toInt = (M.2.1 77 67).toInt := congrArg Int32.toInt c_151
              have c_153 : M136.2.1 77 69 = v34 := (W_n W135 (by decide) (W_n W130 (by decide) (W_n W126 (by decide) (F_n F79 (show ¬ (77 < 0) by decide) (F_n F69 (show ¬ (77 < 0) by decide) (F_n F51 (show ¬ (77 = 77 ∧ 7 ≤ 69 ∧ 69 ≤ 10) by decide) (W_e W36)))))))
              have t_154 : (M136.2.1 77 69).toInt = v34.toInt := congrArg Int32.toInt c_153
              exact h (0 : Int32) M136 hG137 F138 (by decide) (by decide) (by omega) (by omega) (by omega) (by omega) (fun z => absurd z (by omega)) (fun z => absurd z (by decide)) (fun z => absurd z (by decide)) (fun z => absurd z (by decide)) (fun _ => inl_e (by omega) (by omega) ((q_nm (by omega) (by omega) (by omega) (by omega)).trans (qn_wx (by omega) (by omega))))
          · refine to_an (pc := 8) rw_159_8 rfl (tt_gI (pc := 9) rw_159_9 (g_o hG52 rfl) (v := (M57.2.1 77 9)) rfl (to_in (pc := 12) rw_159_12 rfl (b_cne (pc := 13) rw_159_13 (A := (M57.2.1 77 9).toInt) (B := 61) rfl rfl (fun h155 => ?_) (fun h155 => ?_))))
            · refine to_c (pc := 20) rw_159_20 (x := (0 : Int32)) rfl rfl (s_r1 (pc := 21) rw_159_21 (A := 0) rfl (by decide) (to_isn (pc := 147) rw_225_147 (ls2 := [.ref 77, .int (M.2.1 77 9), .int (M.2.1 77 10), .int (0 : Int32), .null, .null]) rfl rfl ?_))
              have z_156 := RS_4 p_56.1 (a := (x_ns t nn a)) (by omega) (by omega)
              refine to_an (pc := 148) rw_225_148 rfl (to_in (pc := 149) rw_225_149 rfl (s_v (pc := 150) rw_225_150 (dp0 hd (by decide)) (ls0 := [.ref 77, .int (M.2.1 77 9), .null]) rfl (Nat.le_of_ble_eq_true rfl) (Nat.le_of_ble_eq_true rfl) rfl (to_rc rfl rfl rfl (g_o hG52 rfl)) rfl ?_))
              have j_157 := (PLk_f (tg_305 F51) (PLk_f (fun a i z => W_n W36 (by omega) rfl) q11))
              refine E_175 hX (dp1 hd (by decide)) hG52 j_157 (n := (M.2.1 77 9)) (sg := sg) (fun r158 M164 hG160 F159 p_161 p_162 p_163 => ?_)
              have F165 := FR.c F58 F159 tg_259
              have z_166 := x_fn_v (s := sg) (r := 1) (v := (M.2.1 77 9).toInt) (w := x_val t nn a) (by omega)
              refine to_is (pc := 153) rw_225_153 (ls2 := [.ref 77, .int (M.2.1 77 9), .int (M.2.1 77 10), .int (0 : Int32), .int r158, .null]) rfl rfl (to_an (pc := 155) rw_225_155 rfl (to_in (pc := 156) rw_225_156 rfl (s_v (pc := 157) rw_225_157 (dp0 hd (by decide)) (ls0 := [.ref 77, .int (M.2.1 77 9), .null]) rfl (Nat.le_of_ble_eq_true rfl) (Nat.le_of_ble_eq_true rfl) rfl (to_rc rfl rfl rfl (g_o hG160 rfl)) rfl ?_)))
              have j_167 := (PLk_f (tg_72 F159) j_157)
              refine E_176 hX (dp1 hd (by decide)) hG160 j_167 (n := (M.2.1 77 9)) (sg := sg) (fun r168 M174 hG170 F169 p_171 p_172 p_173 => ?_)
              have F175 := FR.c F165 F169 tg_259
              have z_176 := x_fn_v (s := sg) (r := 6) (v := (M.2.1 77 9).toInt) (w := x_val t nn a) (by omega)
              refine to_is (pc := 160) rw_225_160 (ls2 := [.ref 77, .int (M.2.1 77 9), .int (M.2.1 77 10), .int (0 : Int32), .int r158, .int r168]) rfl rfl (to_in (pc := 162) rw_225_162 rfl (b_ieq_t (pc := 163) rw_225_163 (A := 0) rfl (by decide) (to_i (pc := 178) rw_225_178 rfl (b_ige (pc := 180) rw_225_180 (A := r168.toInt) rfl (fun h177 => ?_) (fun h177 => ?_)))))
              · refine to_an (pc := 194) rw_225_194 rfl (to_c (pc := 195) rw_225_195 (x := (1 : Int32)) rfl rfl (s_pI (pc := 196) rw_225_196 hG170 rfl (fun M179 W178 => ?_)))
                have hG180 := g_w hG170 W178 (A := 1) rfl (lo := 0) (hi := 1) rfl rfl (by omega) (by decide)
                have F181 := FR.w F175 W178 (show 77 = 77 ∧ (68 = 4 ∨ 68 = 5 ∨ 7 ≤ 68 ∧ 68 ≤ 10) ∨ 77 = 77 ∧ (68 = 59 ∨ 65 ≤ 68 ∧ 68 ≤ 69) ∨ 112 ≤ 77 ∧ 77 ≤ 114 ∧ 40 ≤ 68 ∨ 77 = 115 ∨ 77 = 116 by decide)
                refine to_in (pc := 199) rw_225_199 rfl (b_ine_f (pc := 200) rw_225_200 (A := 0) rfl (by decide) (to_an (pc := 203) rw_225_203 rfl (to_c (pc := 204) rw_225_204 (x := (1 : Int32)) rfl rfl (to_i (pc := 205) rw_225_205 rfl (to_c (pc := 207) rw_225_207 (x := (0 : Int32)) rfl rfl (s_v (pc := 208) rw_225_208 (dp0 hd (by decide)) (ls0 := [.ref 77, .int (1 : Int32), .int r168, .int (0 : Int32)]) rfl (Nat.le_of_ble_eq_true rfl) (Nat.le_of_ble_eq_true rfl) rfl (to_rc rfl rfl rfl (g_o hG180 rfl)) rfl ?_))))))
                have k_182 : (1 : Int32).toInt = 1 := rfl
                have k_183 : (0 : Int32).toInt = 0 := rfl
                have c_184 : M179.2.1 77 59 = (M.2.1 77 59) := (W_n W178 (by decide) (F_n F169 (show ¬ (77 < 0) by decide) (F_n F159 (show ¬ (77 < 0) by decide) (F_n F51 (show ¬ (77 = 77 ∧ 7 ≤ 59 ∧ 59 ≤ 10) by decide) (W_n W36 (by decide) rfl)))))
                have t_185 : (M179.2.1 77 59).toInt = (M.2.1 77 59).toInt := congrArg Int32.toInt c_184
                have c_186 : M179.2.1 77 66 = (M.2.1 77 66) := (W_n W178 (by decide) (F_n F169 (show ¬ (77 < 0) by decide) (F_n F159 (show ¬ (77 < 0) by decide) (F_n F51 (show ¬ (77 = 77 ∧ 7 ≤ 66 ∧ 66 ≤ 10) by decide) (W_n W36 (by decide) rfl)))))
                have t_187 : (M179.2.1 77 66).toInt = (M.2.1 77 66).toInt := congrArg Int32.toInt c_186
                refine C_221 hX (dp1 hd (by decide)) hG180 (by omega) (by omega) (by omega) (by omega) (by omega) (by omega) (by rw [(W_n W178 (by omega) (F_n F169 (show ¬ (77 < 0) by decide) (F_n F159 (show ¬ (77 < 0) by decide) (F_n F51 (show ¬ (77 = 77 ∧ 7 ≤ 59 ∧ 59 ≤ 10) by decide) (W_n W36 (by omega) rfl)))))]; exact KN_f (fun a i z => (W_n W178 (by omega) (F_n F169 (show ¬ (a < 0) by omega) (F_n F159 (show ¬ (a < 0) by omega) (F_n F51 (show ¬ (a = 77 ∧ 7 ≤ i ∧ i ≤ 10) by omega) (W_n W36 (by omega) rfl)))))) q2.2.2) (by omega) (by omega) (by omega) (by omega) (k := (1 : Int32)) (p := r168) (o := (0 : Int32)) (fun M193 hG189 F188 p_190 p_191 p_192 => ?_)
                have F194 := FR.c F181 F188 tg_260
                have b_195 := g_b hG189 (a := 77) (i := 59) (lo := 0) (hi := 40) rfl rfl
                have b_196 := g_b hG189 (a := 77) (i := 66) (lo := 0) (hi := 40) rfl rfl
                refine to_c (pc := 211) rw_225_211 (x := (1 : Int32)) rfl rfl (s_r1 (pc := 212) rw_225_212 (A := 1) rfl (by decide) ?_)
                have c_197 : M193.2.1 77 7 = (M57.2.1 77 7) := (F_n F188 (show ¬ (77 = 77 ∧ (7 = 59 ∨ 7 = 66) ∨ 112 ≤ 77 ∧ 77 ≤ 114 ∧ 40 ≤ 7 ∨ 77 = 116) by decide) (W_n W178 (by decide) (F_n F169 (show ¬ (77 < 0) by decide) (F_n F159 (show ¬ (77 < 0) by decide) rfl))))
                have t_198 : (M193.2.1 77 7).toInt = (M57.2.1 77 7).toInt := congrArg Int32.toInt c_197
                have c_199 : M193.2.1 77 6 = (M.2.1 77 6) := (F_n F188 (show ¬ (77 = 77 ∧ (6 = 59 ∨ 6 = 66) ∨ 112 ≤ 77 ∧ 77 ≤ 114 ∧ 40 ≤ 6 ∨ 77 = 116) by decide) (W_n W178 (by decide) (F_n F169 (show ¬ (77 < 0) by decide) (F_n F159 (show ¬ (77 < 0) by decide) c_60))))
                have t_200 : (M193.2.1 77 6).toInt = (M.2.1 77 6).toInt := congrArg Int32.toInt c_199
                have c_201 : M193.2.1 77 8 = (M57.2.1 77 8) := (F_n F188 (show ¬ (77 = 77 ∧ (8 = 59 ∨ 8 = 66) ∨ 112 ≤ 77 ∧ 77 ≤ 114 ∧ 40 ≤ 8 ∨ 77 = 116) by decide) (W_n W178 (by decide) (F_n F169 (show ¬ (77 < 0) by decide) (F_n F159 (show ¬ (77 < 0) by decide) rfl))))
                have t_202 : (M193.2.1 77 8).toInt = (M57.2.1 77 8).toInt := congrArg Int32.toInt c_201
                have c_203 : M193.2.1 77 65 = (M.2.1 77 65) := (F_n F188 (show ¬ (77 = 77 ∧ (65 = 59 ∨ 65 = 66) ∨ 112 ≤ 77 ∧ 77 ≤ 114 ∧ 40 ≤ 65 ∨ 77 = 116) by decide) (W_n W178 (by decide) (F_n F169 (show ¬ (77 < 0) by decide) (F_n F159 (show ¬ (77 < 0) by decide) (F_n F51 (show ¬ (77 = 77 ∧ 7 ≤ 65 ∧ 65 ≤ 10) by decide) (W_n W36 (by decide) rfl))))))
                have t_204 : (M193.2.1 77 65).toInt = (M.2.1 77 65).toInt := congrArg Int32.toInt c_203
                have c_205 : M193.2.1 77 67 = (M.2.1 77 67) := (F_n F188 (show ¬ (77 = 77 ∧ (67 = 59 ∨ 67 = 66) ∨ 112 ≤ 77 ∧ 77 ≤ 114 ∧ 40 ≤ 67 ∨ 77 = 116) by decide) (W_n W178 (by decide) (F_n F169 (show ¬ (77 < 0) by decide) (F_n F159 (show ¬ (77 < 0) by decide) (F_n F51 (show ¬ (77 = 77 ∧ 7 ≤ 67 ∧ 67 ≤ 10) by decide) (W_n W36 (by decide) rfl))))))
                have t_206 : (M193.2.1 77 67).toInt = (M.2.1 77 67).toInt := congrArg Int32.toInt c_205
                have c_207 : M193.2.1 77 68 = (1 : Int32) := (F_n F188 (show ¬ (77 = 77 ∧ (68 = 59 ∨ 68 = 66) ∨ 112 ≤ 77 ∧ 77 ≤ 114 ∧ 40 ≤ 68 ∨ 77 = 116) by decide) (W_e W178))
                have t_208 : (M193.2.1 77 68).toInt = (1 : Int32).toInt := congrArg Int32.toInt c_207
                have c_209 : M193.2.1 77 69 = v34 := (F_n F188 (show ¬ (77 = 77 ∧ (69 = 59 ∨ 69 = 66) ∨ 112 ≤ 77 ∧ 77 ≤ 114 ∧ 40 ≤ 69 ∨ 77 = 116) by decide) (W_n W178 (by decide) (F_n F169 (show ¬ (77 < 0) by decide) (F_n F159 (show ¬ (77 < 0) by decide) (F_n F51 (show ¬ (77 = 77 ∧ 7 ≤ 69 ∧ 69 ≤ 10) by decide) (W_e W36))))))
                have t_210 : (M193.2.1 77 69).toInt = v34.toInt := congrArg Int32.toInt c_209
                have s_212 := Wx_f (M := M) (M1 := M193) ((M.2.1 77 65).toInt).toNat (fun i z => (F_n F188 (show ¬ (115 = 77 ∧ (i = 59 ∨ i = 66) ∨ 112 ≤ 115 ∧ 115 ≤ 114 ∧ 40 ≤ i ∨ 115 = 116) by omega) (W_n W178 (by omega) (F_n F169 (show ¬ (115 < 0) by decide) (F_n F159 (show ¬ (115 < 0) by decide) (F_n F51 (show ¬ (115 = 77 ∧ 7 ≤ i ∧ i ≤ 10) by omega) (W_n W36 (by omega) rfl)))))))
                have j_211 : QK M193 := QK_i (by unfold QK_c; rw [show ((M193.2.1 77 65).toInt).toNat = ((M.2.1 77 65).toInt).toNat by omega]; refine ⟨by omega, by omega, by omega, by omega⟩) (fun i z => by rw [(F_n F188 (show ¬ (115 = 77 ∧ (i = 59 ∨ i = 66) ∨ 112 ≤ 115 ∧ 115 ≤ 114 ∧ 40 ≤ i ∨ 115 = 116) by omega) (W_n W178 (by omega) (F_n F169 (show ¬ (115 < 0) by decide) (F_n F159 (show ¬ (115 < 0) by decide) (F_n F51 (show ¬ (115 = 77 ∧ 7 ≤ i ∧ i ≤ 10) by omega) (W_n W36 (by omega) rfl))))))]; exact q2.2.1 i (by omega)) p_192
                have j_213 := (RS_f (tg_306 F188) (RS_f (fun a i z => W_n W178 (by omega) rfl) (RS_f (tg_24 F169) (RS_f (tg_24 F159) p_56.1))))
                have c_214 : M193.2.1 77 10 = (M57.2.1 77 10) := (F_n F188 (show ¬ (77 = 77 ∧ (10 = 59 ∨ 10 = 66) ∨ 112 ≤ 77 ∧ 77 ≤ 114 ∧ 40 ≤ 10 ∨ 77 = 116) by decide) (W_n W178 (by decide) (F_n F169 (show ¬ (77 < 0) by decide) (F_n F159 (show ¬ (77 < 0) by decide) rfl))))
                have t_215 : (M193.2.1 77 10).toInt = (M57.2.1 77 10).toInt := congrArg Int32.toInt c_214
                exact h (1 : Int32) M193 hG189 F194 (by decide) (by decide) (by omega) (by omega) (by omega) (by omega) (fun _ => j_211) (fun _ => by rw [show ((M193.2.1 77 65).toInt).toNat = ((M.2.1 77 65).toInt).toNat by omega]; omega) (fun _ => j_213) (fun _ => ((q_nm (by omega) (by omega) (by omega) (by omega)).trans (qn_w (by omega) (by omega))).trans (q_w (by omega) (by omega) (by omega) (by omega))) (fun z => absurd z (by decide))
              · refine to_an (pc := 183) rw_225_183 rfl (to_in (pc := 184) rw_225_184 rfl (s_pI (pc := 185) rw_225_185 hG170 rfl (fun M217 W216 => ?_)))
                have hG218 := g_w hG170 W216 (A := (M.2.1 77 10).toInt) rfl (lo := 0) (hi := 500) rfl rfl (by omega) (by decide)
                have F219 := FR.w F175 W216 (show 77 = 77 ∧ (10 = 4 ∨ 10 = 5 ∨ 7 ≤ 10 ∧ 10 ≤ 10) ∨ 77 = 77 ∧ (10 = 59 ∨ 65 ≤ 10 ∧ 10 ≤ 69) ∨ 112 ≤ 77 ∧ 77 ≤ 114 ∧ 40 ≤ 10 ∨ 77 = 115 ∨ 77 = 116 by decide)
                refine to_an (pc := 188) rw_225_188 rfl (to_c (pc := 189) rw_225_189 (x := (4 : Int32)) rfl rfl (s_v (pc := 190) rw_225_190 (dp0 hd (by decide)) (ls0 := [.ref 77, .int (4 : Int32)]) rfl (Nat.le_of_ble_eq_true rfl) (Nat.le_of_ble_eq_true rfl) rfl (to_rc rfl rfl rfl (g_o hG218 rfl)) rfl (to_an (pc := 0) rw_152_0 rfl (to_in (pc := 1) rw_152_1 rfl (s_pI (pc := 2) rw_152_2 hG218 rfl (fun M221 W220 => ?_))))))
                have hG222 := g_wf hG218 W220 rfl rfl (by decide)
                have F223 := FR.w F219 W220 (show 77 = 77 ∧ (4 = 4 ∨ 4 = 5 ∨ 7 ≤ 4 ∧ 4 ≤ 10) ∨ 77 = 77 ∧ (4 = 59 ∨ 65 ≤ 4 ∧ 4 ≤ 69) ∨ 112 ≤ 77 ∧ 77 ≤ 114 ∧ 40 ≤ 4 ∨ 77 = 115 ∨ 77 = 116 by decide)
                refine to_an (pc := 5) rw_152_5 rfl (to_an (pc := 6) rw_152_6 rfl ?_)
                have c_224 : M221.2.1 77 10 = (M.2.1 77 10) := (W_n W220 (by decide) (W_e W216))
                refine tt_gI (pc := 7) rw_152_7 (g_o hG222 rfl) (v := (M.2.1 77 10)) c_224 (s_pI (pc := 10) rw_152_10 hG222 rfl (fun M226 W225 => ?_))
                have hG227 := g_wf hG222 W225 rfl rfl (by decide)
                have F228 := FR.w F223 W225 (show 77 = 77 ∧ (5 = 4 ∨ 5 = 5 ∨ 7 ≤ 5 ∧ 5 ≤ 10) ∨ 77 = 77 ∧ (5 = 59 ∨ 65 ≤ 5 ∧ 5 ≤ 69) ∨ 112 ≤ 77 ∧ 77 ≤ 114 ∧ 40 ≤ 5 ∨ 77 = 115 ∨ 77 = 116 by decide)
                refine to_c (pc := 13) rw_152_13 (x := (0 : Int32)) rfl rfl (s_r1 (pc := 14) rw_152_14 (A := 0) rfl (by decide) (s_r1 (pc := 193) rw_225_193 (A := 0) rfl (by decide) ?_))
                have k_229 : (0 : Int32).toInt = 0 := rfl
                have c_230 : M226.2.1 77 7 = (M57.2.1 77 7) := (W_n W225 (by decide) (W_n W220 (by decide) (W_n W216 (by decide) (F_n F169 (show ¬ (77 < 0) by decide) (F_n F159 (show ¬ (77 < 0) by decide) rfl)))))
                have t_231 : (M226.2.1 77 7).toInt = (M57.2.1 77 7).toInt := congrArg Int32.toInt c_230
                have c_232 : M226.2.1 77 6 = (M.2.1 77 6) := (W_n W225 (by decide) (W_n W220 (by decide) (W_n W216 (by decide) (F_n F169 (show ¬ (77 < 0) by decide) (F_n F159 (show ¬ (77 < 0) by decide) c_60)))))
                have t_233 : (M226.2.1 77 6).toInt = (M.2.1 77 6).toInt := congrArg Int32.toInt c_232
                have c_234 : M226.2.1 77 8 = (M57.2.1 77 8) := (W_n W225 (by decide) (W_n W220 (by decide) (W_n W216 (by decide) (F_n F169 (show ¬ (77 < 0) by decide) (F_n F159 (show ¬ (77 < 0) by decide) rfl)))))
                have t_235 : (M226.2.1 77 8).toInt = (M57.2.1 77 8).toInt := congrArg Int32.toInt c_234
                have c_236 : M226.2.1 77 4 = (4 : Int32) := (W_n W225 (by decide) (W_e W220))
                have k_237 : (4 : Int32).toInt = 4 := rfl
                have t_238 : (M226.2.1 77 4).toInt = (4 : Int32).toInt := congrArg Int32.toInt c_236
                have c_239 : M226.2.1 77 5 = (M.2.1 77 10) := (W_e W225)
                have t_240 : (M226.2.1 77 5).toInt = (M.2.1 77 10).toInt := congrArg Int32.toInt c_239
                have c_241 : M226.2.1 77 67 = (M.2.1 77 67) := (W_n W225 (by decide) (W_n W220 (by decide) (W_n W216 (by decide) (F_n F169 (show ¬ (77 < 0) by decide) (F_n F159 (show ¬ (77 < 0) by decide) (F_n F51 (show ¬ (77 = 77 ∧ 7 ≤ 67 ∧ 67 ≤ 10) by decide) (W_n W36 (by decide) rfl)))))))
                have t_242 : (M226.2.1 77 67).toInt = (M.2.1 77 67).toInt := congrArg Int32.toInt c_241
                have c_243 : M226.2.1 77 69 = v34 := (W_n W225 (by decide) (W_n W220 (by decide) (W_n W216 (by decide) (F_n F169 (show ¬ (77 < 0) by decide) (F_n F159 (show ¬ (77 < 0) by decide) (F_n F51 (show ¬ (77 = 77 ∧ 7 ≤ 69 ∧ 69 ≤ 10) by decide) (W_e W36)))))))
                have t_244 : (M226.2.1 77 69).toInt = v34.toInt := congrArg Int32.toInt c_243
                exact h (0 : Int32) M226 hG227 F228 (by decide) (by decide) (by omega) (by omega) (by omega) (by omega) (fun z => absurd z (by omega)) (fun z => absurd z (by decide)) (fun z => absurd z (by decide)) (fun z => absurd z (by decide)) (fun _ => inl_e (by omega) (by omega) ((q_nm (by omega) (by omega) (by omega) (by omega)).trans (qn_wx (by omega) (by omega))))
            · refine to_c (pc := 16) rw_159_16 (x := (1 : Int32)) rfl rfl (to_go (pc := 17) rw_159_17 (s_r1 (pc := 21) rw_159_21 (A := 1) rfl (by decide) (to_isn (pc := 147) rw_225_147 (ls2 := [.ref 77, .int (M.2.1 77 9), .int (M.2.1 77 10), .int (1 : Int32), .null, .null]) rfl rfl ?_)))
              have z_245 := RS_4 p_56.1 (a := (x_ns t nn a)) (by omega) (by omega)
              refine to_an (pc := 148) rw_225_148 rfl (to_in (pc := 149) rw_225_149 rfl (s_v (pc := 150) rw_225_150 (dp0 hd (by decide)) (ls0 := [.ref 77, .int (M.2.1 77 9), .null]) rfl (Nat.le_of_ble_eq_true rfl) (Nat.le_of_ble_eq_true rfl) rfl (to_rc rfl rfl rfl (g_o hG52 rfl)) rfl ?_))
              have j_246 := (PLk_f (tg_305 F51) (PLk_f (fun a i z => W_n W36 (by omega) rfl) q11))
              refine E_175 hX (dp1 hd (by decide)) hG52 j_246 (n := (M.2.1 77 9)) (sg := sg) (fun r247 M253 hG249 F248 p_250 p_251 p_252 => ?_)
              have F254 := FR.c F58 F248 tg_259
              have z_255 := x_fn_v (s := sg) (r := 1) (v := (M.2.1 77 9).toInt) (w := x_val t nn a) (by omega)
              refine to_is (pc := 153) rw_225_153 (ls2 := [.ref 77, .int (M.2.1 77 9), .int (M.2.1 77 10), .int (1 : Int32), .int r247, .null]) rfl rfl (to_an (pc := 155) rw_225_155 rfl (to_in (pc := 156) rw_225_156 rfl (s_v (pc := 157) rw_225_157 (dp0 hd (by decide)) (ls0 := [.ref 77, .int (M.2.1 77 9), .null]) rfl (Nat.le_of_ble_eq_true rfl) (Nat.le_of_ble_eq_true rfl) rfl (to_rc rfl rfl rfl (g_o hG249 rfl)) rfl ?_)))
              have j_256 := (PLk_f (tg_72 F248) j_246)
              refine E_176 hX (dp1 hd (by decide)) hG249 j_256 (n := (M.2.1 77 9)) (sg := sg) (fun r257 M263 hG259 F258 p_260 p_261 p_262 => ?_)
              have F264 := FR.c F254 F258 tg_259
              have z_265 := x_fn_v (s := sg) (r := 6) (v := (M.2.1 77 9).toInt) (w := x_val t nn a) (by omega)
              refine to_is (pc := 160) rw_225_160 (ls2 := [.ref 77, .int (M.2.1 77 9), .int (M.2.1 77 10), .int (1 : Int32), .int r247, .int r257]) rfl rfl (to_in (pc := 162) rw_225_162 rfl (b_ieq_f (pc := 163) rw_225_163 (A := 1) rfl (by decide) (to_an (pc := 166) rw_225_166 rfl (to_i (pc := 167) rw_225_167 rfl (s_v (pc := 169) rw_225_169 (dp0 hd (by decide)) (ls0 := [.ref 77, .int r247]) rfl (Nat.le_of_ble_eq_true rfl) (Nat.le_of_ble_eq_true rfl) rfl (to_rc rfl rfl rfl (g_o hG259 rfl)) rfl (to_an (pc := 0) rw_179_0 rfl (to_in (pc := 1) rw_179_1 rfl (s_v (pc := 2) rw_179_2 (dp1 hd (by decide)) (ls0 := [.ref 77, .int r247]) rfl (Nat.le_of_ble_eq_true rfl) (Nat.le_of_ble_eq_true rfl) rfl (to_rc rfl rfl rfl (g_o hG259 rfl)) rfl (to_in (pc := 0) rw_178_0 rfl (b_ilt (pc := 1) rw_178_1 (A := r247.toInt) rfl (fun h266 => ?_) (fun h266 => ?_)))))))))))
              · refine to_c (pc := 16) rw_178_16 (x := (0 : Int32)) rfl rfl (s_r1 (pc := 17) rw_178_17 (A := 0) rfl (by decide) (b_ieq_t (pc := 5) rw_179_5 (A := 0) rfl (by decide) (to_c (pc := 22) rw_179_22 (x := (0 : Int32)) rfl rfl (s_r1 (pc := 23) rw_179_23 (A := 0) rfl (by decide) (b_ine_f (pc := 172) rw_225_172 (A := 0) rfl (by decide) (to_go (pc := 175) rw_225_175 (to_an (pc := 183) rw_225_183 rfl (to_in (pc := 184) rw_225_184 rfl (s_pI (pc := 185) rw_225_185 hG259 rfl (fun M268 W267 => ?_))))))))))
                have hG269 := g_w hG259 W267 (A := (M.2.1 77 10).toInt) rfl (lo := 0) (hi := 500) rfl rfl (by omega) (by decide)
                have F270 := FR.w F264 W267 (show 77 = 77 ∧ (10 = 4 ∨ 10 = 5 ∨ 7 ≤ 10 ∧ 10 ≤ 10) ∨ 77 = 77 ∧ (10 = 59 ∨ 65 ≤ 10 ∧ 10 ≤ 69) ∨ 112 ≤ 77 ∧ 77 ≤ 114 ∧ 40 ≤ 10 ∨ 77 = 115 ∨ 77 = 116 by decide)
                refine to_an (pc := 188) rw_225_188 rfl (to_c (pc := 189) rw_225_189 (x := (4 : Int32)) rfl rfl (s_v (pc := 190) rw_225_190 (dp0 hd (by decide)) (ls0 := [.ref 77, .int (4 : Int32)]) rfl (Nat.le_of_ble_eq_true rfl) (Nat.le_of_ble_eq_true rfl) rfl (to_rc rfl rfl rfl (g_o hG269 rfl)) rfl (to_an (pc := 0) rw_152_0 rfl (to_in (pc := 1) rw_152_1 rfl (s_pI (pc := 2) rw_152_2 hG269 rfl (fun M272 W271 => ?_))))))
                have hG273 := g_wf hG269 W271 rfl rfl (by decide)
                have F274 := FR.w F270 W271 (show 77 = 77 ∧ (4 = 4 ∨ 4 = 5 ∨ 7 ≤ 4 ∧ 4 ≤ 10) ∨ 77 = 77 ∧ (4 = 59 ∨ 65 ≤ 4 ∧ 4 ≤ 69) ∨ 112 ≤ 77 ∧ 77 ≤ 114 ∧ 40 ≤ 4 ∨ 77 = 115 ∨ 77 = 116 by decide)
                refine to_an (pc := 5) rw_152_5 rfl (to_an (pc := 6) rw_152_6 rfl ?_)
                have c_275 : M272.2.1 77 10 = (M.2.1 77 10) := (W_n W271 (by decide) (W_e W267))
                refine tt_gI (pc := 7) rw_152_7 (g_o hG273 rfl) (v := (M.2.1 77 10)) c_275 (s_pI (pc := 10) rw_152_10 hG273 rfl (fun M277 W276 => ?_))
                have hG278 := g_wf hG273 W276 rfl rfl (by decide)
                have F279 := FR.w F274 W276 (show 77 = 77 ∧ (5 = 4 ∨ 5 = 5 ∨ 7 ≤ 5 ∧ 5 ≤ 10) ∨ 77 = 77 ∧ (5 = 59 ∨ 65 ≤ 5 ∧ 5 ≤ 69) ∨ 112 ≤ 77 ∧ 77 ≤ 114 ∧ 40 ≤ 5 ∨ 77 = 115 ∨ 77 = 116 by decide)
                refine to_c (pc := 13) rw_152_13 (x := (0 : Int32)) rfl rfl (s_r1 (pc := 14) rw_152_14 (A := 0) rfl (by decide) (s_r1 (pc := 193) rw_225_193 (A := 0) rfl (by decide) ?_))
                have k_280 : (0 : Int32).toInt = 0 := rfl
                have c_281 : M277.2.1 77 7 = (M57.2.1 77 7) := (W_n W276 (by decide) (W_n W271 (by decide) (W_n W267 (by decide) (F_n F258 (show ¬ (77 < 0) by decide) (F_n F248 (show ¬ (77 < 0) by decide) rfl)))))
                have t_282 : (M277.2.1 77 7).toInt = (M57.2.1 77 7).toInt := congrArg Int32.toInt c_281
                have c_283 : M277.2.1 77 6 = (M.2.1 77 6) := (W_n W276 (by decide) (W_n W271 (by decide) (W_n W267 (by decide) (F_n F258 (show ¬ (77 < 0) by decide) (F_n F248 (show ¬ (77 < 0) by decide) c_60)))))
                have t_284 : (M277.2.1 77 6).toInt = (M.2.1 77 6).toInt := congrArg Int32.toInt c_283
                have c_285 : M277.2.1 77 8 = (M57.2.1 77 8) := (W_n W276 (by decide) (W_n W271 (by decide) (W_n W267 (by decide) (F_n F258 (show ¬ (77 < 0) by decide) (F_n F248 (show ¬ (77 < 0) by decide) rfl)))))
                have t_286 : (M277.2.1 77 8).toInt = (M57.2.1 77 8).toInt := congrArg Int32.toInt c_285
                have c_287 : M277.2.1 77 4 = (4 : Int32) := (W_n W276 (by decide) (W_e W271))
                have k_288 : (4 : Int32).toInt = 4 := rfl
                have t_289 : (M277.2.1 77 4).toInt = (4 : Int32).toInt := congrArg Int32.toInt c_287
                have c_290 : M277.2.1 77 5 = (M.2.1 77 10) := (W_e W276)
                have t_291 : (M277.2.1 77 5).toInt = (M.2.1 77 10).toInt := congrArg Int32.toInt c_290
                have c_292 : M277.2.1 77 67 = (M.2.1 77 67) := (W_n W276 (by decide) (W_n W271 (by decide) (W_n W267 (by decide) (F_n F258 (show ¬ (77 < 0) by decide) (F_n F248 (show ¬ (77 < 0) by decide) (F_n F51 (show ¬ (77 = 77 ∧ 7 ≤ 67 ∧ 67 ≤ 10) by decide) (W_n W36 (by decide) rfl)))))))
                have t_293 : (M277.2.1 77 67).toInt = (M.2.1 77 67).toInt := congrArg Int32.toInt c_292
                have c_294 : M277.2.1 77 69 = v34 := (W_n W276 (by decide) (W_n W271 (by decide) (W_n W267 (by decide) (F_n F258 (show ¬ (77 < 0) by decide) (F_n F248 (show ¬ (77 < 0) by decide) (F_n F51 (show ¬ (77 = 77 ∧ 7 ≤ 69 ∧ 69 ≤ 10) by decide) (W_e W36)))))))
                have t_295 : (M277.2.1 77 69).toInt = v34.toInt := congrArg Int32.toInt c_294
                exact h (0 : Int32) M277 hG278 F279 (by decide) (by decide) (by omega) (by omega) (by omega) (by omega) (fun z => absurd z (by omega)) (fun z => absurd z (by decide)) (fun z => absurd z (by decide)) (fun z => absurd z (by decide)) (fun _ => inl_e (by omega) (by omega) ((q_nm (by omega) (by omega) (by omega) (by omega)).trans (qn_vx (by omega) (by omega))))
              · refine to_in (pc := 4) rw_178_4 rfl (to_an (pc := 5) rw_178_5 rfl ?_)
                have c_296 : M263.2.1 77 12 = (M.2.1 77 12) := (F_n F258 (show ¬ (77 < 0) by decide) (F_n F248 (show ¬ (77 < 0) by decide) (F_n F51 (show ¬ (77 = 77 ∧ 7 ≤ 12 ∧ 12 ≤ 10) by decide) (W_n W36 (by decide) rfl))))
                refine tt_gI (pc := 6) rw_178_6 (g_o hG259 rfl) (v := (M.2.1 77 12)) c_296 (b_cge (pc := 9) rw_178_9 (A := r247.toInt) (B := (M.2.1 77 12).toInt) rfl rfl (fun h297 => ?_) (fun h297 => ?_))
                · refine to_c (pc := 16) rw_178_16 (x := (0 : Int32)) rfl rfl (s_r1 (pc := 17) rw_178_17 (A := 0) rfl (by decide) (b_ieq_t (pc := 5) rw_179_5 (A := 0) rfl (by decide) (to_c (pc := 22) rw_179_22 (x := (0 : Int32)) rfl rfl (s_r1 (pc := 23) rw_179_23 (A := 0) rfl (by decide) (b_ine_f (pc := 172) rw_225_172 (A := 0) rfl (by decide) (to_go (pc := 175) rw_225_175 (to_an (pc := 183) rw_225_183 rfl (to_in (pc := 184) rw_225_184 rfl (s_pI (pc := 185) rw_225_185 hG259 rfl (fun M299 W298 => ?_))))))))))
                  have hG300 := g_w hG259 W298 (A := (M.2.1 77 10).toInt) rfl (lo := 0) (hi := 500) rfl rfl (by omega) (by decide)
                  have F301 := FR.w F264 W298 (show 77 = 77 ∧ (10 = 4 ∨ 10 = 5 ∨ 7 ≤ 10 ∧ 10 ≤ 10) ∨ 77 = 77 ∧ (10 = 59 ∨ 65 ≤ 10 ∧ 10 ≤ 69) ∨ 112 ≤ 77 ∧ 77 ≤ 114 ∧ 40 ≤ 10 ∨ 77 = 115 ∨ 77 = 116 by decide)
                  refine to_an (pc := 188) rw_225_188 rfl (to_c (pc := 189) rw_225_189 (x := (4 : Int32)) rfl rfl (s_v (pc := 190) rw_225_190 (dp0 hd (by decide)) (ls0 := [.ref 77, .int (4 : Int32)]) rfl (Nat.le_of_ble_eq_true rfl) (Nat.le_of_ble_eq_true rfl) rfl (to_rc rfl rfl rfl (g_o hG300 rfl)) rfl (to_an (pc := 0) rw_152_0 rfl (to_in (pc := 1) rw_152_1 rfl (s_pI (pc := 2) rw_152_2 hG300 rfl (fun M303 W302 => ?_))))))
                  have hG304 := g_wf hG300 W302 rfl rfl (by decide)
                  have F305 := FR.w F301 W302 (show 77 = 77 ∧ (4 = 4 ∨ 4 = 5 ∨ 7 ≤ 4 ∧ 4 ≤ 10) ∨ 77 = 77 ∧ (4 = 59 ∨ 65 ≤ 4 ∧ 4 ≤ 69) ∨ 112 ≤ 77 ∧ 77 ≤ 114 ∧ 40 ≤ 4 ∨ 77 = 115 ∨ 77 = 116 by decide)
                  refine to_an (pc := 5) rw_152_5 rfl (to_an (pc := 6) rw_152_6 rfl ?_)
                  have c_306 : M303.2.1 77 10 = (M.2.1 77 10) := (W_n W302 (by decide) (W_e W298))
                  refine tt_gI (pc := 7) rw_152_7 (g_o hG304 rfl) (v := (M.2.1 77 10)) c_306 (s_pI (pc := 10) rw_152_10 hG304 rfl (fun M308 W307 => ?_))
                  have hG309 := g_wf hG304 W307 rfl rfl (by decide)
                  have F310 := FR.w F305 W307 (show 77 = 77 ∧ (5 = 4 ∨ 5 = 5 ∨ 7 ≤ 5 ∧ 5 ≤ 10) ∨ 77 = 77 ∧ (5 = 59 ∨ 65 ≤ 5 ∧ 5 ≤ 69) ∨ 112 ≤ 77 ∧ 77 ≤ 114 ∧ 40 ≤ 5 ∨ 77 = 115 ∨ 77 = 116 by decide)
                  refine to_c (pc := 13) rw_152_13 (x := (0 : Int32)) rfl rfl (s_r1 (pc := 14) rw_152_14 (A := 0) rfl (by decide) (s_r1 (pc := 193) rw_225_193 (A := 0) rfl (by decide) ?_))
                  have k_311 : (0 : Int32).toInt = 0 := rfl
                  have c_312 : M308.2.1 77 7 = (M57.2.1 77 7) := (W_n W307 (by decide) (W_n W302 (by decide) (W_n W298 (by decide) (F_n F258 (show ¬ (77 < 0) by decide) (F_n F248 (show ¬ (77 < 0) by decide) rfl)))))
                  have t_313 : (M308.2.1 77 7).toInt = (M57.2.1 77 7).toInt := congrArg Int32.toInt c_312
                  have c_314 : M308.2.1 77 6 = (M.2.1 77 6) := (W_n W307 (by decide) (W_n W302 (by decide) (W_n W298 (by decide) (F_n F258 (show ¬ (77 < 0) by decide) (F_n F248 (show ¬ (77 < 0) by decide) c_60)))))
                  have t_315 : (M308.2.1 77 6).toInt = (M.2.1 77 6).toInt := congrArg Int32.toInt c_314
                  have c_316 : M308.2.1 77 8 = (M57.2.1 77 8) := (W_n W307 (by decide) (W_n W302 (by decide) (W_n W298 (by decide) (F_n F258 (show ¬ (77 < 0) by decide) (F_n F248 (show ¬ (77 < 0) by decide) rfl)))))
                  have t_317 : (M308.2.1 77 8).toInt = (M57.2.1 77 8).toInt := congrArg Int32.toInt c_316
                  have c_318 : M308.2.1 77 4 = (4 : Int32) := (W_n W307 (by decide) (W_e W302))
                  have k_319 : (4 : Int32).toInt = 4 := rfl
                  have t_320 : (M308.2.1 77 4).toInt = (4 : Int32).toInt := congrArg Int32.toInt c_318
                  have c_321 : M308.2.1 77 5 = (M.2.1 77 10) := (W_e W307)
                  have t_322 : (M308.2.1 77 5).toInt = (M.2.1 77 10).toInt := congrArg Int32.toInt c_321
                  have c_323 : M308.2.1 77 67 = (M.2.1 77 67) := (W_n W307 (by decide) (W_n W302 (by decide) (W_n W298 (by decide) (F_n F258 (show ¬ (77 < 0) by decide) (F_n F248 (show ¬ (77 < 0) by decide) (F_n F51 (show ¬ (77 = 77 ∧ 7 ≤ 67 ∧ 67 ≤ 10) by decide) (W_n W36 (by decide) rfl)))))))
                  have t_324 : (M308.2.1 77 67).toInt = (M.2.1 77 67).toInt := congrArg Int32.toInt c_323
                  have c_325 : M308.2.1 77 69 = v34 := (W_n W307 (by decide) (W_n W302 (by decide) (W_n W298 (by decide) (F_n F258 (show ¬ (77 < 0) by decide) (F_n F248 (show ¬ (77 < 0) by decide) (F_n F51 (show ¬ (77 = 77 ∧ 7 ≤ 69 ∧ 69 ≤ 10) by decide) (W_e W36)))))))
                  have t_326 : (M308.2.1 77 69).toInt = v34.toInt := congrArg Int32.toInt c_325
                  exact h (0 : Int32) M308 hG309 F310 (by decide) (by decide) (by omega) (by omega) (by omega) (by omega) (fun z => absurd z (by omega)) (fun z => absurd z (by decide)) (fun z => absurd z (by decide)) (fun z => absurd z (by decide)) (fun _ => inl_e (by omega) (by omega) ((q_nm (by omega) (by omega) (by omega) (by omega)).trans (qn_vx (by omega) (by omega))))
                · refine to_c (pc := 12) rw_178_12 (x := (1 : Int32)) rfl rfl (to_go (pc := 13) rw_178_13 (s_r1 (pc := 17) rw_178_17 (A := 1) rfl (by decide) (b_ieq_f (pc := 5) rw_179_5 (A := 1) rfl (by decide) (to_an (pc := 8) rw_179_8 rfl (s_gR (pc := 9) rw_179_9 hG259 rfl (v := 81) rfl (to_in (pc := 12) rw_179_12 rfl (s_ial (pc := 13) rw_179_13 hG259 rfl (n := 16) rfl rfl (A := r247.toInt) rfl (by omega) (by omega) (lo := 0) (hi := 3) rfl rfl (fun v327 w_328 _ _ => ?_))))))))
                  have t_329 := congrArg Int32.toInt w_328
                  have j_331 := (FA_f (tg_188 F258) (FA_f (tg_188 F248) (FA_f (tg_190 F51) (FA_f (fun a i z => W_n W36 (tg_65 a i _ z) rfl) q3))))
                  have j_330 := FA_u j_331 (r247.toInt).toNat
                  have t_332 : (M263.2.1 81 (r247.toInt).toNat).toInt = (M.2.1 81 (r247.toInt).toNat).toInt := congrArg Int32.toInt (F_n F258 (show ¬ (81 < 0) by decide) (F_n F248 (show ¬ (81 < 0) by decide) (F_n F51 (show ¬ (81 = 77 ∧ 7 ≤ ((r247.toInt).toNat) ∧ ((r247.toInt).toNat) ≤ 10) by omega) (W_n W36 (by omega) rfl))))
                  have t_333 : (M263.2.1 84 (r247.toInt).toNat).toInt = (M.2.1 84 (r247.toInt).toNat).toInt := congrArg Int32.toInt (F_n F258 (show ¬ (84 < 0) by decide) (F_n F248 (show ¬ (84 < 0) by decide) (F_n F51 (show ¬ (84 = 77 ∧ 7 ≤ ((r247.toInt).toNat) ∧ ((r247.toInt).toNat) ≤ 10) by omega) (W_n W36 (by omega) rfl))))
                  have j_334 := FA_u q3 (r247.toInt).toNat
                  have j_335 := (PLk_f (tg_72 F258) j_256)
                  have z_336 := PLk_r j_335 2 81 rfl (by decide) (by decide) (k := r247.toInt) (by omega) (by omega) w_328
                  have z_337 := x_row_v (s := sg) (r := 2) (x := r247.toInt) (y := x_fn sg 1 (x_val t nn a)) (by omega)
                  refine to_c (pc := 14) rw_179_14 (x := (3 : Int32)) rfl rfl (b_ceq (pc := 15) rw_179_15 (A := v327.toInt) (B := 3) rfl rfl (fun h338 => ?_) (fun h338 => ?_))
                  · refine to_c (pc := 22) rw_179_22 (x := (0 : Int32)) rfl rfl (s_r1 (pc := 23) rw_179_23 (A := 0) rfl (by decide) (b_ine_f (pc := 172) rw_225_172 (A := 0) rfl (by decide) (to_go (pc := 175) rw_225_175 (to_an (pc := 183) rw_225_183 rfl (to_in (pc := 184) rw_225_184 rfl (s_pI (pc := 185) rw_225_185 hG259 rfl (fun M340 W339 => ?_)))))))
                    have hG341 := g_w hG259 W339 (A := (M.2.1 77 10).toInt) rfl (lo := 0) (hi := 500) rfl rfl (by omega) (by decide)
                    have F342 := FR.w F264 W339 (show 77 = 77 ∧ (10 = 4 ∨ 10 = 5 ∨ 7 ≤ 10 ∧ 10 ≤ 10) ∨ 77 = 77 ∧ (10 = 59 ∨ 65 ≤ 10 ∧ 10 ≤ 69) ∨ 112 ≤ 77 ∧ 77 ≤ 114 ∧ 40 ≤ 10 ∨ 77 = 115 ∨ 77 = 116 by decide)
                    refine to_an (pc := 188) rw_225_188 rfl (to_c (pc := 189) rw_225_189 (x := (4 : Int32)) rfl rfl (s_v (pc := 190) rw_225_190 (dp0 hd (by decide)) (ls0 := [.ref 77, .int (4 : Int32)]) rfl (Nat.le_of_ble_eq_true rfl) (Nat.le_of_ble_eq_true rfl) rfl (to_rc rfl rfl rfl (g_o hG341 rfl)) rfl (to_an (pc := 0) rw_152_0 rfl (to_in (pc := 1) rw_152_1 rfl (s_pI (pc := 2) rw_152_2 hG341 rfl (fun M344 W343 => ?_))))))
                    have hG345 := g_wf hG341 W343 rfl rfl (by decide)
                    have F346 := FR.w F342 W343 (show 77 = 77 ∧ (4 = 4 ∨ 4 = 5 ∨ 7 ≤ 4 ∧ 4 ≤ 10) ∨ 77 = 77 ∧ (4 = 59 ∨ 65 ≤ 4 ∧ 4 ≤ 69) ∨ 112 ≤ 77 ∧ 77 ≤ 114 ∧ 40 ≤ 4 ∨ 77 = 115 ∨ 77 = 116 by decide)
                    refine to_an (pc := 5) rw_152_5 rfl (to_an (pc := 6) rw_152_6 rfl ?_)
                    have c_347 : M344.2.1 77 10 = (M.2.1 77 10) := (W_n W343 (by decide) (W_e W339))
                    refine tt_gI (pc := 7) rw_152_7 (g_o hG345 rfl) (v := (M.2.1 77 10)) c_347 (s_pI (pc := 10) rw_152_10 hG345 rfl (fun M349 W348 => ?_))
                    have hG350 := g_wf hG345 W348 rfl rfl (by decide)
                    have F351 := FR.w F346 W348 (show 77 = 77 ∧ (5 = 4 ∨ 5 = 5 ∨ 7 ≤ 5 ∧ 5 ≤ 10) ∨ 77 = 77 ∧ (5 = 59 ∨ 65 ≤ 5 ∧ 5 ≤ 69) ∨ 112 ≤ 77 ∧ 77 ≤ 114 ∧ 40 ≤ 5 ∨ 77 = 115 ∨ 77 = 116 by decide)
                    refine to_c (pc := 13) rw_152_13 (x := (0 : Int32)) rfl rfl (s_r1 (pc := 14) rw_152_14 (A := 0) rfl (by decide) (s_r1 (pc := 193) rw_225_193 (A := 0) rfl (by decide) ?_))
                    have k_352 : (0 : Int32).toInt = 0 := rfl
                    have c_353 : M349.2.1 77 7 = (M57.2.1 77 7) := (W_n W348 (by decide) (W_n W343 (by decide) (W_n W339 (by decide) (F_n F258 (show ¬ (77 < 0) by decide) (F_n F248 (show ¬ (77 < 0) by decide) rfl)))))
                    have t_354 : (M349.2.1 77 7).toInt = (M57.2.1 77 7).toInt := congrArg Int32.toInt c_353
                    have c_355 : M349.2.1 77 6 = (M.2.1 77 6) := (W_n W348 (by decide) (W_n W343 (by decide) (W_n W339 (by decide) (F_n F258 (show ¬ (77 < 0) by decide) (F_n F248 (show ¬ (77 < 0) by decide) c_60)))))
                    have t_356 : (M349.2.1 77 6).toInt = (M.2.1 77 6).toInt := congrArg Int32.toInt c_355
                    have c_357 : M349.2.1 77 8 = (M57.2.1 77 8) := (W_n W348 (by decide) (W_n W343 (by decide) (W_n W339 (by decide) (F_n F258 (show ¬ (77 < 0) by decide) (F_n F248 (show ¬ (77 < 0) by decide) rfl)))))
                    have t_358 : (M349.2.1 77 8).toInt = (M57.2.1 77 8).toInt := congrArg Int32.toInt c_357
                    have c_359 : M349.2.1 77 4 = (4 : Int32) := (W_n W348 (by decide) (W_e W343))
                    have k_360 : (4 : Int32).toInt = 4 := rfl
                    have t_361 : (M349.2.1 77 4).toInt = (4 : Int32).toInt := congrArg Int32.toInt c_359
                    have c_362 : M349.2.1 77 5 = (M.2.1 77 10) := (W_e W348)
                    have t_363 : (M349.2.1 77 5).toInt = (M.2.1 77 10).toInt := congrArg Int32.toInt c_362
                    have c_364 : M349.2.1 77 67 = (M.2.1 77 67) := (W_n W348 (by decide) (W_n W343 (by decide) (W_n W339 (by decide) (F_n F258 (show ¬ (77 < 0) by decide) (F_n F248 (show ¬ (77 < 0) by decide) (F_n F51 (show ¬ (77 = 77 ∧ 7 ≤ 67 ∧ 67 ≤ 10) by decide) (W_n W36 (by decide) rfl)))))))
                    have t_365 : (M349.2.1 77 67).toInt = (M.2.1 77 67).toInt := congrArg Int32.toInt c_364
                    have c_366 : M349.2.1 77 69 = v34 := (W_n W348 (by decide) (W_n W343 (by decide) (W_n W339 (by decide) (F_n F258 (show ¬ (77 < 0) by decide) (F_n F248 (show ¬ (77 < 0) by decide) (F_n F51 (show ¬ (77 = 77 ∧ 7 ≤ 69 ∧ 69 ≤ 10) by decide) (W_e W36)))))))
                    have t_367 : (M349.2.1 77 69).toInt = v34.toInt := congrArg Int32.toInt c_366
                    exact h (0 : Int32) M349 hG350 F351 (by decide) (by decide) (by omega) (by omega) (by omega) (by omega) (fun z => absurd z (by omega)) (fun z => absurd z (by decide)) (fun z => absurd z (by decide)) (fun z => absurd z (by decide)) (fun _ => inl_e (by omega) (by omega) ((q_nm (by omega) (by omega) (by omega) (by omega)).trans (qn_vx (by omega) (by omega))))
                  · refine to_c (pc := 18) rw_179_18 (x := (1 : Int32)) rfl rfl (to_go (pc := 19) rw_179_19 (s_r1 (pc := 23) rw_179_23 (A := 1) rfl (by decide) (b_ine_t (pc := 172) rw_225_172 (A := 1) rfl (by decide) (to_an (pc := 194) rw_225_194 rfl (to_c (pc := 195) rw_225_195 (x := (1 : Int32)) rfl rfl (s_pI (pc := 196) rw_225_196 hG259 rfl (fun M369 W368 => ?_)))))))
                    have hG370 := g_w hG259 W368 (A := 1) rfl (lo := 0) (hi := 1) rfl rfl (by omega) (by decide)
                    have F371 := FR.w F264 W368 (show 77 = 77 ∧ (68 = 4 ∨ 68 = 5 ∨ 7 ≤ 68 ∧ 68 ≤ 10) ∨ 77 = 77 ∧ (68 = 59 ∨ 65 ≤ 68 ∧ 68 ≤ 69) ∨ 112 ≤ 77 ∧ 77 ≤ 114 ∧ 40 ≤ 68 ∨ 77 = 115 ∨ 77 = 116 by decide)
                    refine to_in (pc := 199) rw_225_199 rfl (b_ine_t (pc := 200) rw_225_200 (A := 1) rfl (by decide) (to_an (pc := 213) rw_225_213 rfl (s_v (pc := 214) rw_225_214 (dp0 hd (by decide)) (ls0 := [.ref 77]) rfl (Nat.le_of_ble_eq_true rfl) (Nat.le_of_ble_eq_true rfl) rfl (to_rc rfl rfl rfl (g_o hG370 rfl)) rfl ?_)))
                    have c_372 : M369.2.1 77 7 = (M57.2.1 77 7) := (W_n W368 (by decide) (F_n F258 (show ¬ (77 < 0) by decide) (F_n F248 (show ¬ (77 < 0) by decide) rfl)))
                    have t_373 : (M369.2.1 77 7).toInt = (M57.2.1 77 7).toInt := congrArg Int32.toInt c_372
                    have c_374 : M369.2.1 77 6 = (M.2.1 77 6) := (W_n W368 (by decide) (F_n F258 (show ¬ (77 < 0) by decide) (F_n F248 (show ¬ (77 < 0) by decide) c_60)))
                    have t_375 : (M369.2.1 77 6).toInt = (M.2.1 77 6).toInt := congrArg Int32.toInt c_374
                    have c_376 : M369.2.1 77 10 = (M57.2.1 77 10) := (W_n W368 (by decide) (F_n F258 (show ¬ (77 < 0) by decide) (F_n F248 (show ¬ (77 < 0) by decide) rfl)))
                    have t_377 : (M369.2.1 77 10).toInt = (M57.2.1 77 10).toInt := congrArg Int32.toInt c_376
                    have j_378 := (RS_f (fun a i z => W_n W368 (by omega) rfl) (RS_f (tg_24 F258) (RS_f (tg_24 F248) p_56.1)))
                    have z_379 := RS_b j_378 (a := (x_ns t nn a)) (by omega)
                    have j_380 := (TR_f (fun a i z => W_n W368 (tg_9 a i _ z) rfl) (TR_f (tg_6 F258) (TR_f (tg_6 F248) (TR_f (tg_21 F51) j_49))))
                    have j_381 := (W9_f (fun a i z => W_n W368 (tg_10 a i _ z) rfl) (W9_f (tg_25 F258) (W9_f (tg_25 F248) (W9_f (tg_23 F51) j_50))))
                    refine E_156 hX (dp1 hd (by decide)) hG370 (by omega) (by omega) (by omega) (by omega) j_380 j_381  (fun M388 hG383 F382 p_384 p_385 p_386 p_387 => ?_)
                    have F389 := FR.c F371 F382 tg_258
                    have b_390 := g_b hG383 (a := 77) (i := 7) (lo := 0) (hi := 500) rfl rfl
                    have c_391 : M388.2.1 77 6 = (M.2.1 77 6) := (F_n F382 (show ¬ (77 = 77 ∧ 7 ≤ 6 ∧ 6 ≤ 10) by decide) c_374)
                    have t_392 : (M388.2.1 77 6).toInt = (M.2.1 77 6).toInt := congrArg Int32.toInt c_391
                    have b_393 := g_b hG383 (a := 77) (i := 8) (lo := 0) (hi := 5) rfl rfl
                    have b_394 := g_b hG383 (a := 77) (i := 10) (lo := 0) (hi := 500) rfl rfl
                    have z_395 := RS_s p_387.2 (a := (x_ns t nn a)) (by omega)
                    have z_396 := RS_k p_387.1 (a := (x_ns t nn (x_ns t nn a))) (by omega)
                    refine to_an (pc := 217) rw_225_217 rfl (to_c (pc := 218) rw_225_218 (x := (0 : Int32)) rfl rfl (to_an (pc := 219) rw_225_219 rfl (s_gR (pc := 220) rw_225_220 hG383 rfl (v := 84) rfl (to_i (pc := 223) rw_225_223 rfl (s_ial (pc := 225) rw_225_225 hG383 rfl (n := 16) rfl rfl (A := r247.toInt) rfl (by omega) (by omega) (lo := 0) (hi := 24) rfl rfl (fun v397 w_398 _ _ => ?_))))))
                    have t_399 := congrArg Int32.toInt w_398
                    have j_401 := (FA_f (tg_190 F382) (FA_f (fun a i z => W_n W368 (tg_65 a i _ z) rfl) j_331))
                    have j_400 := FA_u j_401 (r247.toInt).toNat
                    have t_402 : (M388.2.1 81 (r247.toInt).toNat).toInt = (M.2.1 81 (r247.toInt).toNat).toInt := congrArg Int32.toInt (F_n F382 (show ¬ (81 = 77 ∧ 7 ≤ ((r247.toInt).toNat) ∧ ((r247.toInt).toNat) ≤ 10) by omega) (W_n W368 (by omega) (F_n F258 (show ¬ (81 < 0) by decide) (F_n F248 (show ¬ (81 < 0) by decide) (F_n F51 (show ¬ (81 = 77 ∧ 7 ≤ ((r247.toInt).toNat) ∧ ((r247.toInt).toNat) ≤ 10) by omega) (W_n W36 (by omega) rfl))))))
                    have t_403 : (M388.2.1 84 (r247.toInt).toNat).toInt = (M.2.1 84 (r247.toInt).toNat).toInt := congrArg Int32.toInt (F_n F382 (show ¬ (84 = 77 ∧ 7 ≤ ((r247.toInt).toNat) ∧ ((r247.toInt).toNat) ≤ 10) by omega) (W_n W368 (by omega) (F_n F258 (show ¬ (84 < 0) by decide) (F_n F248 (show ¬ (84 < 0) by decide) (F_n F51 (show ¬ (84 = 77 ∧ 7 ≤ ((r247.toInt).toNat) ∧ ((r247.toInt).toNat) ≤ 10) by omega) (W_n W36 (by omega) rfl))))))
                    have j_404 := (PLk_f (tg_305 F382) (PLk_f (fun a i z => W_n W368 (by omega) rfl) j_335))
                    have z_405 := PLk_r j_404 5 84 rfl (by decide) (by decide) (k := r247.toInt) (by omega) (by omega) w_398
                    have z_406 := x_row_v (s := sg) (r := 5) (x := r247.toInt) (y := x_fn sg 1 (x_val t nn a)) (by omega)
                    refine to_c (pc := 226) rw_225_226 (x := (1 : Int32)) rfl rfl (s_sub (pc := 227) rw_225_227 (A := v397.toInt) (B := 1) rfl rfl (by omega) (fun v407 e408 => s_v (pc := 228) rw_225_228 (dp0 hd (by decide)) (ls0 := [.ref 77, .int (0 : Int32), .int v407]) rfl (Nat.le_of_ble_eq_true rfl) (Nat.le_of_ble_eq_true rfl) rfl (to_rc rfl rfl rfl (g_o hG383 rfl)) rfl (to_an (pc := 0) rw_162_0 rfl (tt_gI (pc := 1) rw_162_1 (g_o hG383 rfl) (v := (M388.2.1 77 8)) rfl (to_c (pc := 4) rw_162_4 (x := (3 : Int32)) rfl rfl (b_ceq (pc := 5) rw_162_5 (A := (M388.2.1 77 8).toInt) (B := 3) rfl rfl (fun h409 => ?_) (fun h409 => ?_)))))))
                    · refine to_an (pc := 14) rw_162_14 rfl (tt_gI (pc := 15) rw_162_15 (g_o hG383 rfl) (v := (M388.2.1 77 9)) rfl (to_in (pc := 18) rw_162_18 rfl (b_clt (pc := 19) rw_162_19 (A := (M388.2.1 77 9).toInt) (B := 0) rfl rfl (fun h410 => ?_) (fun h410 => ?_))))
                      · refine to_an (pc := 30) rw_162_30 rfl (to_c (pc := 31) rw_162_31 (x := (2 : Int32)) rfl rfl (s_v (pc := 32) rw_162_32 (dp1 hd (by decide)) (ls0 := [.ref 77, .int (2 : Int32)]) rfl (Nat.le_of_ble_eq_true rfl) (Nat.le_of_ble_eq_true rfl) rfl (to_rc rfl rfl rfl (g_o hG383 rfl)) rfl (to_an (pc := 0) rw_152_0 rfl (to_in (pc := 1) rw_152_1 rfl (s_pI (pc := 2) rw_152_2 hG383 rfl (fun M412 W411 => ?_))))))
                        have hG413 := g_wf hG383 W411 rfl rfl (by decide)
                        have F414 := FR.w F389 W411 (show 77 = 77 ∧ (4 = 4 ∨ 4 = 5 ∨ 7 ≤ 4 ∧ 4 ≤ 10) ∨ 77 = 77 ∧ (4 = 59 ∨ 65 ≤ 4 ∧ 4 ≤ 69) ∨ 112 ≤ 77 ∧ 77 ≤ 114 ∧ 40 ≤ 4 ∨ 77 = 115 ∨ 77 = 116 by decide)
                        refine to_an (pc := 5) rw_152_5 rfl (to_an (pc := 6) rw_152_6 rfl ?_)
                        have c_415 : M412.2.1 77 10 = (M388.2.1 77 10) := (W_n W411 (by decide) rfl)
                        refine tt_gI (pc := 7) rw_152_7 (g_o hG413 rfl) (v := (M388.2.1 77 10)) c_415 (s_pI (pc := 10) rw_152_10 hG413 rfl (fun M417 W416 => ?_))
                        have hG418 := g_wf hG413 W416 rfl rfl (by decide)
                        have F419 := FR.w F414 W416 (show 77 = 77 ∧ (5 = 4 ∨ 5 = 5 ∨ 7 ≤ 5 ∧ 5 ≤ 10) ∨ 77 = 77 ∧ (5 = 59 ∨ 65 ≤ 5 ∧ 5 ≤ 69) ∨ 112 ≤ 77 ∧ 77 ≤ 114 ∧ 40 ≤ 5 ∨ 77 = 115 ∨ 77 = 116 by decide)
                        refine to_c (pc := 13) rw_152_13 (x := (0 : Int32)) rfl rfl (s_r1 (pc := 14) rw_152_14 (A := 0) rfl (by decide) (b_ieq_t (pc := 35) rw_162_35 (A := 0) rfl (by decide) (to_c (pc := 42) rw_162_42 (x := (0 : Int32)) rfl rfl (s_r1 (pc := 43) rw_162_43 (A := 0) rfl (by decide) (b_ine_f (pc := 231) rw_225_231 (A := 0) rfl (by decide) ?_)))))
                        have c_420 : M417.2.1 77 4 = (2 : Int32) := (W_n W416 (by decide) (W_e W411))
                        have z_421 := RS_3x p_387.1 (a := (x_ns t nn (x_ns t nn a))) (m := v397.toInt - 1) (by omega) (by omega) (by omega) (by omega)
                        refine to_c (pc := 234) rw_225_234 (x := (0 : Int32)) rfl rfl (s_r1 (pc := 235) rw_225_235 (A := 0) rfl (by decide) ?_)
                        have k_422 : (0 : Int32).toInt = 0 := rfl
                        have c_423 : M417.2.1 77 7 = (M388.2.1 77 7) := (W_n W416 (by decide) (W_n W411 (by decide) rfl))
                        have t_424 : (M417.2.1 77 7).toInt = (M388.2.1 77 7).toInt := congrArg Int32.toInt c_423
                        have c_425 : M417.2.1 77 6 = (M.2.1 77 6) := (W_n W416 (by decide) (W_n W411 (by decide) c_391))
                        have t_426 : (M417.2.1 77 6).toInt = (M.2.1 77 6).toInt := congrArg Int32.toInt c_425
                        have c_427 : M417.2.1 77 8 = (M388.2.1 77 8) := (W_n W416 (by decide) (W_n W411 (by decide) rfl))
                        have t_428 : (M417.2.1 77 8).toInt = (M388.2.1 77 8).toInt := congrArg Int32.toInt c_427
                        have k_429 : (2 : Int32).toInt = 2 := rfl
                        have t_430 : (M417.2.1 77 4).toInt = (2 : Int32).toInt := congrArg Int32.toInt c_420
                        have c_431 : M417.2.1 77 5 = (M388.2.1 77 10) := (W_e W416)
                        have t_432 : (M417.2.1 77 5).toInt = (M388.2.1 77 10).toInt := congrArg Int32.toInt c_431
                        have c_433 : M417.2.1 77 67 = (M.2.1 77 67) := (W_n W416 (by decide) (W_n W411 (by decide) (F_n F382 (show ¬ (77 = 77 ∧ 7 ≤ 67 ∧ 67 ≤ 10) by decide) (W_n W368 (by decide) (F_n F258 (show ¬ (77 < 0) by decide) (F_n F248 (show ¬ (77 < 0) by decide) (F_n F51 (show ¬ (77 = 77 ∧ 7 ≤ 67 ∧ 67 ≤ 10) by decide) (W_n W36 (by decide) rfl))))))))
                        have t_434 : (M417.2.1 77 67).toInt = (M.2.1 77 67).toInt := congrArg Int32.toInt c_433
                        have c_435 : M417.2.1 77 69 = v34 := (W_n W416 (by decide) (W_n W411 (by decide) (F_n F382 (show ¬ (77 = 77 ∧ 7 ≤ 69 ∧ 69 ≤ 10) by decide) (W_n W368 (by decide) (F_n F258 (show ¬ (77 < 0) by decide) (F_n F248 (show ¬ (77 < 0) by decide) (F_n F51 (show ¬ (77 = 77 ∧ 7 ≤ 69 ∧ 69 ≤ 10) by decide) (W_e W36))))))))
                        have t_436 : (M417.2.1 77 69).toInt = v34.toInt := congrArg Int32.toInt c_435
                        exact h (0 : Int32) M417 hG418 F419 (by decide) (by decide) (by omega) (by omega) (by omega) (by omega) (fun z => absurd z (by omega)) (fun z => absurd z (by decide)) (fun z => absurd z (by decide)) (fun z => absurd z (by decide)) (fun _ => inl_e (by omega) (by omega) ((q_nm (by omega) (by omega) (by omega) (by omega)).trans (qn_v2 (by omega) (by omega) (by omega) (by omega))))
                      · refine to_an (pc := 22) rw_162_22 rfl (tt_gI (pc := 23) rw_162_23 (g_o hG383 rfl) (v := (M388.2.1 77 9)) rfl (to_in (pc := 26) rw_162_26 rfl (b_cle (pc := 27) rw_162_27 (A := (M388.2.1 77 9).toInt) (B := v407.toInt) rfl rfl (fun h437 => ?_) (fun h437 => ?_))))
                        · refine to_c (pc := 38) rw_162_38 (x := (1 : Int32)) rfl rfl (to_go (pc := 39) rw_162_39 (s_r1 (pc := 43) rw_162_43 (A := 1) rfl (by decide) (b_ine_t (pc := 231) rw_225_231 (A := 1) rfl (by decide) ?_)))
                          have z_438 := RS_3 p_387.1 (a := (x_ns t nn (x_ns t nn a))) (by omega) (by omega) (by omega)
                          refine to_an (pc := 236) rw_225_236 rfl (to_c (pc := 237) rw_225_237 (x := (0 : Int32)) rfl rfl (to_i (pc := 238) rw_225_238 rfl (to_an (pc := 240) rw_225_240 rfl (tt_gI (pc := 241) rw_225_241 (g_o hG383 rfl) (v := (M388.2.1 77 9)) rfl (s_v (pc := 244) rw_225_244 (dp0 hd (by decide)) (ls0 := [.ref 77, .int (0 : Int32), .int r247, .int (M388.2.1 77 9)]) rfl (Nat.le_of_ble_eq_true rfl) (Nat.le_of_ble_eq_true rfl) rfl (to_rc rfl rfl rfl (g_o hG383 rfl)) rfl ?_)))))
                          have k_439 : (0 : Int32).toInt = 0 := rfl
                          have c_440 : M388.2.1 77 59 = (M.2.1 77 59) := (F_n F382 (show ¬ (77 = 77 ∧ 7 ≤ 59 ∧ 59 ≤ 10) by decide) (W_n W368 (by decide) (F_n F258 (show ¬ (77 < 0) by decide) (F_n F248 (show ¬ (77 < 0) by decide) (F_n F51 (show ¬ (77 = 77 ∧ 7 ≤ 59 ∧ 59 ≤ 10) by decide) (W_n W36 (by decide) rfl))))))
                          have t_441 : (M388.2.1 77 59).toInt = (M.2.1 77 59).toInt := congrArg Int32.toInt c_440
                          have c_442 : M388.2.1 77 66 = (M.2.1 77 66) := (F_n F382 (show ¬ (77 = 77 ∧ 7 ≤ 66 ∧ 66 ≤ 10) by decide) (W_n W368 (by decide) (F_n F258 (show ¬ (77 < 0) by decide) (F_n F248 (show ¬ (77 < 0) by decide) (F_n F51 (show ¬ (77 = 77 ∧ 7 ≤ 66 ∧ 66 ≤ 10) by decide) (W_n W36 (by decide) rfl))))))
                          have t_443 : (M388.2.1 77 66).toInt = (M.2.1 77 66).toInt := congrArg Int32.toInt c_442
                          have t_444 : (M388.2.1 81 (r247.toInt).toNat).toInt = (M.2.1 81 (r247.toInt).toNat).toInt := congrArg Int32.toInt (F_n F382 (show ¬ (81 = 77 ∧ 7 ≤ ((r247.toInt).toNat) ∧ ((r247.toInt).toNat) ≤ 10) by omega) (W_n W368 (by omega) (F_n F258 (show ¬ (81 < 0) by decide) (F_n F248 (show ¬ (81 < 0) by decide) (F_n F51 (show ¬ (81 = 77 ∧ 7 ≤ ((r247.toInt).toNat) ∧ ((r247.toInt).toNat) ≤ 10) by omega) (W_n W36 (by omega) rfl))))))
                          refine C_221 hX (dp1 hd (by decide)) hG383 (by omega) (by omega) (by omega) (by omega) (by omega) (by omega) (by rw [(F_n F382 (show ¬ (77 = 77 ∧ 7 ≤ 59 ∧ 59 ≤ 10) by decide) (W_n W368 (by omega) (F_n F258 (show ¬ (77 < 0) by decide) (F_n F248 (show ¬ (77 < 0) by decide) (F_n F51 (show ¬ (77 = 77 ∧ 7 ≤ 59 ∧ 59 ≤ 10) by decide) (W_n W36 (by omega) rfl))))))]; exact KN_f (fun a i z => (F_n F382 (show ¬ (a = 77 ∧ 7 ≤ i ∧ i ≤ 10) by omega) (W_n W368 (by omega) (F_n F258 (show ¬ (a < 0) by omega) (F_n F248 (show ¬ (a < 0) by omega) (F_n F51 (show ¬ (a = 77 ∧ 7 ≤ i ∧ i ≤ 10) by omega) (W_n W36 (by omega) rfl))))))) q2.2.2) (by omega) (by omega) (by omega) (by omega) (k := (0 : Int32)) (p := r247) (o := (M388.2.1 77 9)) (fun M450 hG446 F445 p_447 p_448 p_449 => ?_)
                          have F451 := FR.c F389 F445 tg_260
                          have b_452 := g_b hG446 (a := 77) (i := 59) (lo := 0) (hi := 40) rfl rfl
                          have b_453 := g_b hG446 (a := 77) (i := 66) (lo := 0) (hi := 40) rfl rfl
                          refine to_an (pc := 247) rw_225_247 rfl (s_v (pc := 248) rw_225_248 (dp0 hd (by decide)) (ls0 := [.ref 77]) rfl (Nat.le_of_ble_eq_true rfl) (Nat.le_of_ble_eq_true rfl) rfl (to_rc rfl rfl rfl (g_o hG446 rfl)) rfl ?_)
                          have c_454 : M450.2.1 77 7 = (M388.2.1 77 7) := (F_n F445 (show ¬ (77 = 77 ∧ (7 = 59 ∨ 7 = 66) ∨ 112 ≤ 77 ∧ 77 ≤ 114 ∧ 40 ≤ 7 ∨ 77 = 116) by decide) rfl)
                          have t_455 : (M450.2.1 77 7).toInt = (M388.2.1 77 7).toInt := congrArg Int32.toInt c_454
                          have c_456 : M450.2.1 77 6 = (M.2.1 77 6) := (F_n F445 (show ¬ (77 = 77 ∧ (6 = 59 ∨ 6 = 66) ∨ 112 ≤ 77 ∧ 77 ≤ 114 ∧ 40 ≤ 6 ∨ 77 = 116) by decide) c_391)
                          have t_457 : (M450.2.1 77 6).toInt = (M.2.1 77 6).toInt := congrArg Int32.toInt c_456
                          have c_458 : M450.2.1 77 10 = (M388.2.1 77 10) := (F_n F445 (show ¬ (77 = 77 ∧ (10 = 59 ∨ 10 = 66) ∨ 112 ≤ 77 ∧ 77 ≤ 114 ∧ 40 ≤ 10 ∨ 77 = 116) by decide) rfl)
                          have t_459 : (M450.2.1 77 10).toInt = (M388.2.1 77 10).toInt := congrArg Int32.toInt c_458
                          have j_460 := (RS_f (tg_306 F445) p_387.1)
                          have z_461 := RS_b j_460 (a := (x_ns t nn (x_ns t nn a))) (by omega)
                          have j_462 := (TR_f (tg_307 F445) (TR_f (tg_21 F382) j_380))
                          have j_463 := (W9_f (tg_308 F445) (W9_f (tg_23 F382) j_381))
                          refine E_156 hX (dp1 hd (by decide)) hG446 (by omega) (by omega) (by omega) (by omega) j_462 j_463  (fun M470 hG465 F464 p_466 p_467 p_468 p_469 => ?_)
                          have F471 := FR.c F451 F464 tg_258
                          have b_472 := g_b hG465 (a := 77) (i := 7) (lo := 0) (hi := 500) rfl rfl
                          have c_473 : M470.2.1 77 6 = (M.2.1 77 6) := (F_n F464 (show ¬ (77 = 77 ∧ 7 ≤ 6 ∧ 6 ≤ 10) by decide) c_456)
                          have t_474 : (M470.2.1 77 6).toInt = (M.2.1 77 6).toInt := congrArg Int32.toInt c_473
                          have b_475 := g_b hG465 (a := 77) (i := 8) (lo := 0) (hi := 5) rfl rfl
                          have b_476 := g_b hG465 (a := 77) (i := 10) (lo := 0) (hi := 500) rfl rfl
                          have z_477 := RS_s p_469.2 (a := (x_ns t nn (x_ns t nn a))) (by omega)
                          refine to_c (pc := 251) rw_225_251 (x := (1 : Int32)) rfl rfl (s_r1 (pc := 252) rw_225_252 (A := 1) rfl (by decide) ?_)
                          have k_478 : (1 : Int32).toInt = 1 := rfl
                          have c_479 : M470.2.1 77 59 = (M450.2.1 77 59) := (F_n F464 (show ¬ (77 = 77 ∧ 7 ≤ 59 ∧ 59 ≤ 10) by decide) rfl)
                          have t_480 : (M470.2.1 77 59).toInt = (M450.2.1 77 59).toInt := congrArg Int32.toInt c_479
                          have c_481 : M470.2.1 77 65 = (M.2.1 77 65) := (F_n F464 (show ¬ (77 = 77 ∧ 7 ≤ 65 ∧ 65 ≤ 10) by decide) (F_n F445 (show ¬ (77 = 77 ∧ (65 = 59 ∨ 65 = 66) ∨ 112 ≤ 77 ∧ 77 ≤ 114 ∧ 40 ≤ 65 ∨ 77 = 116) by decide) (F_n F382 (show ¬ (77 = 77 ∧ 7 ≤ 65 ∧ 65 ≤ 10) by decide) (W_n W368 (by decide) (F_n F258 (show ¬ (77 < 0) by decide) (F_n F248 (show ¬ (77 < 0) by decide) (F_n F51 (show ¬ (77 = 77 ∧ 7 ≤ 65 ∧ 65 ≤ 10) by decide) (W_n W36 (by decide) rfl))))))))
                          have t_482 : (M470.2.1 77 65).toInt = (M.2.1 77 65).toInt := congrArg Int32.toInt c_481
                          have c_483 : M470.2.1 77 66 = (M450.2.1 77 66) := (F_n F464 (show ¬ (77 = 77 ∧ 7 ≤ 66 ∧ 66 ≤ 10) by decide) rfl)
                          have t_484 : (M470.2.1 77 66).toInt = (M450.2.1 77 66).toInt := congrArg Int32.toInt c_483
                          have c_485 : M470.2.1 77 67 = (M.2.1 77 67) := (F_n F464 (show ¬ (77 = 77 ∧ 7 ≤ 67 ∧ 67 ≤ 10) by decide) (F_n F445 (show ¬ (77 = 77 ∧ (67 = 59 ∨ 67 = 66) ∨ 112 ≤ 77 ∧ 77 ≤ 114 ∧ 40 ≤ 67 ∨ 77 = 116) by decide) (F_n F382 (show ¬ (77 = 77 ∧ 7 ≤ 67 ∧ 67 ≤ 10) by decide) (W_n W368 (by decide) (F_n F258 (show ¬ (77 < 0) by decide) (F_n F248 (show ¬ (77 < 0) by decide) (F_n F51 (show ¬ (77 = 77 ∧ 7 ≤ 67 ∧ 67 ≤ 10) by decide) (W_n W36 (by decide) rfl))))))))
                          have t_486 : (M470.2.1 77 67).toInt = (M.2.1 77 67).toInt := congrArg Int32.toInt c_485
                          have c_487 : M470.2.1 77 68 = (1 : Int32) := (F_n F464 (show ¬ (77 = 77 ∧ 7 ≤ 68 ∧ 68 ≤ 10) by decide) (F_n F445 (show ¬ (77 = 77 ∧ (68 = 59 ∨ 68 = 66) ∨ 112 ≤ 77 ∧ 77 ≤ 114 ∧ 40 ≤ 68 ∨ 77 = 116) by decide) (F_n F382 (show ¬ (77 = 77 ∧ 7 ≤ 68 ∧ 68 ≤ 10) by decide) (W_e W368))))
                          have t_488 : (M470.2.1 77 68).toInt = (1 : Int32).toInt := congrArg Int32.toInt c_487
                          have c_489 : M470.2.1 77 69 = v34 := (F_n F464 (show ¬ (77 = 77 ∧ 7 ≤ 69 ∧ 69 ≤ 10) by decide) (F_n F445 (show ¬ (77 = 77 ∧ (69 = 59 ∨ 69 = 66) ∨ 112 ≤ 77 ∧ 77 ≤ 114 ∧ 40 ≤ 69 ∨ 77 = 116) by decide) (F_n F382 (show ¬ (77 = 77 ∧ 7 ≤ 69 ∧ 69 ≤ 10) by decide) (W_n W368 (by decide) (F_n F258 (show ¬ (77 < 0) by decide) (F_n F248 (show ¬ (77 < 0) by decide) (F_n F51 (show ¬ (77 = 77 ∧ 7 ≤ 69 ∧ 69 ≤ 10) by decide) (W_e W36))))))))
                          have t_490 : (M470.2.1 77 69).toInt = v34.toInt := congrArg Int32.toInt c_489
                          have s_492 := Wx_f (M := M) (M1 := M470) ((M.2.1 77 65).toInt).toNat (fun i z => (F_n F464 (show ¬ (115 = 77 ∧ 7 ≤ i ∧ i ≤ 10) by omega) (F_n F445 (show ¬ (115 = 77 ∧ (i = 59 ∨ i = 66) ∨ 112 ≤ 115 ∧ 115 ≤ 114 ∧ 40 ≤ i ∨ 115 = 116) by omega) (F_n F382 (show ¬ (115 = 77 ∧ 7 ≤ i ∧ i ≤ 10) by omega) (W_n W368 (by omega) (F_n F258 (show ¬ (115 < 0) by decide) (F_n F248 (show ¬ (115 < 0) by decide) (F_n F51 (show ¬ (115 = 77 ∧ 7 ≤ i ∧ i ≤ 10) by omega) (W_n W36 (by omega) rfl)))))))))
                          have j_491 : QK M470 := QK_i (by unfold QK_c; rw [show ((M470.2.1 77 65).toInt).toNat = ((M.2.1 77 65).toInt).toNat by omega]; refine ⟨by omega, by omega, by omega, by omega⟩) (fun i z => by rw [(F_n F464 (show ¬ (115 = 77 ∧ 7 ≤ i ∧ i ≤ 10) by omega) (F_n F445 (show ¬ (115 = 77 ∧ (i = 59 ∨ i = 66) ∨ 112 ≤ 115 ∧ 115 ≤ 114 ∧ 40 ≤ i ∨ 115 = 116) by omega) (F_n F382 (show ¬ (115 = 77 ∧ 7 ≤ i ∧ i ≤ 10) by omega) (W_n W368 (by omega) (F_n F258 (show ¬ (115 < 0) by decide) (F_n F248 (show ¬ (115 < 0) by decide) (F_n F51 (show ¬ (115 = 77 ∧ 7 ≤ i ∧ i ≤ 10) by omega) (W_n W36 (by omega) rfl))))))))]; exact q2.2.1 i (by omega)) (by rw [(F_n F464 (show ¬ (77 = 77 ∧ 7 ≤ 59 ∧ 59 ≤ 10) by decide) rfl)]; exact KN_f (fun a i z => (F_n F464 (show ¬ (a = 77 ∧ 7 ≤ i ∧ i ≤ 10) by omega) rfl)) p_449)
                          exact h (1 : Int32) M470 hG465 F471 (by decide) (by decide) (by omega) (by omega) (by omega) (by omega) (fun _ => j_491) (fun _ => by rw [show ((M470.2.1 77 65).toInt).toNat = ((M.2.1 77 65).toInt).toNat by omega]; omega) (fun _ => p_469.1) (fun _ => ((q_nm (by omega) (by omega) (by omega) (by omega)).trans (qn_v (by omega) (by omega) (by omega) (by omega))).trans (q_w (by omega) (by omega) (by omega) (by omega))) (fun z => absurd z (by decide))
                        · refine to_an (pc := 30) rw_162_30 rfl (to_c (pc := 31) rw_162_31 (x := (2 : Int32)) rfl rfl (s_v (pc := 32) rw_162_32 (dp1 hd (by decide)) (ls0 := [.ref 77, .int (2 : Int32)]) rfl (Nat.le_of_ble_eq_true rfl) (Nat.le_of_ble_eq_true rfl) rfl (to_rc rfl rfl rfl (g_o hG383 rfl)) rfl (to_an (pc := 0) rw_152_0 rfl (to_in (pc := 1) rw_152_1 rfl (s_pI (pc := 2) rw_152_2 hG383 rfl (fun M494 W493 => ?_))))))
                          have hG495 := g_wf hG383 W493 rfl rfl (by decide)
                          have F496 := FR.w F389 W493 (show 77 = 77 ∧ (4 = 4 ∨ 4 = 5 ∨ 7 ≤ 4 ∧ 4 ≤ 10) ∨ 77 = 77 ∧ (4 = 59 ∨ 65 ≤ 4 ∧ 4 ≤ 69) ∨ 112 ≤ 77 ∧ 77 ≤ 114 ∧ 40 ≤ 4 ∨ 77 = 115 ∨ 77 = 116 by decide)
                          refine to_an (pc := 5) rw_152_5 rfl (to_an (pc := 6) rw_152_6 rfl ?_)
                          have c_497 : M494.2.1 77 10 = (M388.2.1 77 10) := (W_n W493 (by decide) rfl)
                          refine tt_gI (pc := 7) rw_152_7 (g_o hG495 rfl) (v := (M388.2.1 77 10)) c_497 (s_pI (pc := 10) rw_152_10 hG495 rfl (fun M499 W498 => ?_))
                          have hG500 := g_wf hG495 W498 rfl rfl (by decide)
                          have F501 := FR.w F496 W498 (show 77 = 77 ∧ (5 = 4 ∨ 5 = 5 ∨ 7 ≤ 5 ∧ 5 ≤ 10) ∨ 77 = 77 ∧ (5 = 59 ∨ 65 ≤ 5 ∧ 5 ≤ 69) ∨ 112 ≤ 77 ∧ 77 ≤ 114 ∧ 40 ≤ 5 ∨ 77 = 115 ∨ 77 = 116 by decide)
                          refine to_c (pc := 13) rw_152_13 (x := (0 : Int32)) rfl rfl (s_r1 (pc := 14) rw_152_14 (A := 0) rfl (by decide) (b_ieq_t (pc := 35) rw_162_35 (A := 0) rfl (by decide) (to_c (pc := 42) rw_162_42 (x := (0 : Int32)) rfl rfl (s_r1 (pc := 43) rw_162_43 (A := 0) rfl (by decide) (b_ine_f (pc := 231) rw_225_231 (A := 0) rfl (by decide) ?_)))))
                          have c_502 : M499.2.1 77 4 = (2 : Int32) := (W_n W498 (by decide) (W_e W493))
                          have z_503 := RS_3x p_387.1 (a := (x_ns t nn (x_ns t nn a))) (m := v397.toInt - 1) (by omega) (by omega) (by omega) (by omega)
                          refine to_c (pc := 234) rw_225_234 (x := (0 : Int32)) rfl rfl (s_r1 (pc := 235) rw_225_235 (A := 0) rfl (by decide) ?_)
                          have k_504 : (0 : Int32).toInt = 0 := rfl
                          have c_505 : M499.2.1 77 7 = (M388.2.1 77 7) := (W_n W498 (by decide) (W_n W493 (by decide) rfl))
                          have t_506 : (M499.2.1 77 7).toInt = (M388.2.1 77 7).toInt := congrArg Int32.toInt c_505
                          have c_507 : M499.2.1 77 6 = (M.2.1 77 6) := (W_n W498 (by decide) (W_n W493 (by decide) c_391))
                          have t_508 : (M499.2.1 77 6).toInt = (M.2.1 77 6).toInt := congrArg Int32.toInt c_507
                          have c_509 : M499.2.1 77 8 = (M388.2.1 77 8) := (W_n W498 (by decide) (W_n W493 (by decide) rfl))
                          have t_510 : (M499.2.1 77 8).toInt = (M388.2.1 77 8).toInt := congrArg Int32.toInt c_509
                          have k_511 : (2 : Int32).toInt = 2 := rfl
                          have t_512 : (M499.2.1 77 4).toInt = (2 : Int32).toInt := congrArg Int32.toInt c_502
                          have c_513 : M499.2.1 77 5 = (M388.2.1 77 10) := (W_e W498)
                          have t_514 : (M499.2.1 77 5).toInt = (M388.2.1 77 10).toInt := congrArg Int32.toInt c_513
                          have c_515 : M499.2.1 77 67 = (M.2.1 77 67) := (W_n W498 (by decide) (W_n W493 (by decide) (F_n F382 (show ¬ (77 = 77 ∧ 7 ≤ 67 ∧ 67 ≤ 10) by decide) (W_n W368 (by decide) (F_n F258 (show ¬ (77 < 0) by decide) (F_n F248 (show ¬ (77 < 0) by decide) (F_n F51 (show ¬ (77 = 77 ∧ 7 ≤ 67 ∧ 67 ≤ 10) by decide) (W_n W36 (by decide) rfl))))))))
                          have t_516 : (M499.2.1 77 67).toInt = (M.2.1 77 67).toInt := congrArg Int32.toInt c_515
                          have c_517 : M499.2.1 77 69 = v34 := (W_n W498 (by decide) (W_n W493 (by decide) (F_n F382 (show ¬ (77 = 77 ∧ 7 ≤ 69 ∧ 69 ≤ 10) by decide) (W_n W368 (by decide) (F_n F258 (show ¬ (77 < 0) by decide) (F_n F248 (show ¬ (77 < 0) by decide) (F_n F51 (show ¬ (77 = 77 ∧ 7 ≤ 69 ∧ 69 ≤ 10) by decide) (W_e W36))))))))
                          have t_518 : (M499.2.1 77 69).toInt = v34.toInt := congrArg Int32.toInt c_517
                          exact h (0 : Int32) M499 hG500 F501 (by decide) (by decide) (by omega) (by omega) (by omega) (by omega) (fun z => absurd z (by omega)) (fun z => absurd z (by decide)) (fun z => absurd z (by decide)) (fun z => absurd z (by decide)) (fun _ => inl_e (by omega) (by omega) ((q_nm (by omega) (by omega) (by omega) (by omega)).trans (qn_v2 (by omega) (by omega) (by omega) (by omega))))
                    · refine to_an (pc := 8) rw_162_8 rfl (to_c (pc := 9) rw_162_9 (x := (1 : Int32)) rfl rfl (s_v (pc := 10) rw_162_10 (dp1 hd (by decide)) (ls0 := [.ref 77, .int (1 : Int32)]) rfl (Nat.le_of_ble_eq_true rfl) (Nat.le_of_ble_eq_true rfl) rfl (to_rc rfl rfl rfl (g_o hG383 rfl)) rfl (to_an (pc := 0) rw_152_0 rfl (to_in (pc := 1) rw_152_1 rfl (s_pI (pc := 2) rw_152_2 hG383 rfl (fun M520 W519 => ?_))))))
                      have hG521 := g_wf hG383 W519 rfl rfl (by decide)
                      have F522 := FR.w F389 W519 (show 77 = 77 ∧ (4 = 4 ∨ 4 = 5 ∨ 7 ≤ 4 ∧ 4 ≤ 10) ∨ 77 = 77 ∧ (4 = 59 ∨ 65 ≤ 4 ∧ 4 ≤ 69) ∨ 112 ≤ 77 ∧ 77 ≤ 114 ∧ 40 ≤ 4 ∨ 77 = 115 ∨ 77 = 116 by decide)
                      refine to_an (pc := 5) rw_152_5 rfl (to_an (pc := 6) rw_152_6 rfl ?_)
                      have c_523 : M520.2.1 77 10 = (M388.2.1 77 10) := (W_n W519 (by decide) rfl)
                      refine tt_gI (pc := 7) rw_152_7 (g_o hG521 rfl) (v := (M388.2.1 77 10)) c_523 (s_pI (pc := 10) rw_152_10 hG521 rfl (fun M525 W524 => ?_))
                      have hG526 := g_wf hG521 W524 rfl rfl (by decide)
                      have F527 := FR.w F522 W524 (show 77 = 77 ∧ (5 = 4 ∨ 5 = 5 ∨ 7 ≤ 5 ∧ 5 ≤ 10) ∨ 77 = 77 ∧ (5 = 59 ∨ 65 ≤ 5 ∧ 5 ≤ 69) ∨ 112 ≤ 77 ∧ 77 ≤ 114 ∧ 40 ≤ 5 ∨ 77 = 115 ∨ 77 = 116 by decide)
                      refine to_c (pc := 13) rw_152_13 (x := (0 : Int32)) rfl rfl (s_r1 (pc := 14) rw_152_14 (A := 0) rfl (by decide) (s_r1 (pc := 13) rw_162_13 (A := 0) rfl (by decide) (b_ine_f (pc := 231) rw_225_231 (A := 0) rfl (by decide) ?_)))
                      have c_528 : M525.2.1 77 4 = (1 : Int32) := (W_n W524 (by decide) (W_e W519))
                      refine to_c (pc := 234) rw_225_234 (x := (0 : Int32)) rfl rfl (s_r1 (pc := 235) rw_225_235 (A := 0) rfl (by decide) ?_)
                      have k_529 : (0 : Int32).toInt = 0 := rfl
                      have c_530 : M525.2.1 77 7 = (M388.2.1 77 7) := (W_n W524 (by decide) (W_n W519 (by decide) rfl))
                      have t_531 : (M525.2.1 77 7).toInt = (M388.2.1 77 7).toInt := congrArg Int32.toInt c_530
                      have c_532 : M525.2.1 77 6 = (M.2.1 77 6) := (W_n W524 (by decide) (W_n W519 (by decide) c_391))
                      have t_533 : (M525.2.1 77 6).toInt = (M.2.1 77 6).toInt := congrArg Int32.toInt c_532
                      have c_534 : M525.2.1 77 8 = (M388.2.1 77 8) := (W_n W524 (by decide) (W_n W519 (by decide) rfl))
                      have t_535 : (M525.2.1 77 8).toInt = (M388.2.1 77 8).toInt := congrArg Int32.toInt c_534
                      have k_536 : (1 : Int32).toInt = 1 := rfl
                      have t_537 : (M525.2.1 77 4).toInt = (1 : Int32).toInt := congrArg Int32.toInt c_528
                      have c_538 : M525.2.1 77 5 = (M388.2.1 77 10) := (W_e W524)
                      have t_539 : (M525.2.1 77 5).toInt = (M388.2.1 77 10).toInt := congrArg Int32.toInt c_538
                      have c_540 : M525.2.1 77 67 = (M.2.1 77 67) := (W_n W524 (by decide) (W_n W519 (by decide) (F_n F382 (show ¬ (77 = 77 ∧ 7 ≤ 67 ∧ 67 ≤ 10) by decide) (W_n W368 (by decide) (F_n F258 (show ¬ (77 < 0) by decide) (F_n F248 (show ¬ (77 < 0) by decide) (F_n F51 (show ¬ (77 = 77 ∧ 7 ≤ 67 ∧ 67 ≤ 10) by decide) (W_n W36 (by decide) rfl))))))))
                      have t_541 : (M525.2.1 77 67).toInt = (M.2.1 77 67).toInt := congrArg Int32.toInt c_540
                      have c_542 : M525.2.1 77 69 = v34 := (W_n W524 (by decide) (W_n W519 (by decide) (F_n F382 (show ¬ (77 = 77 ∧ 7 ≤ 69 ∧ 69 ≤ 10) by decide) (W_n W368 (by decide) (F_n F258 (show ¬ (77 < 0) by decide) (F_n F248 (show ¬ (77 < 0) by decide) (F_n F51 (show ¬ (77 = 77 ∧ 7 ≤ 69 ∧ 69 ≤ 10) by decide) (W_e W36))))))))
                      have t_543 : (M525.2.1 77 69).toInt = v34.toInt := congrArg Int32.toInt c_542
                      exact h (0 : Int32) M525 hG526 F527 (by decide) (by decide) (by omega) (by omega) (by omega) (by omega) (fun z => absurd z (by omega)) (fun z => absurd z (by decide)) (fun z => absurd z (by decide)) (fun z => absurd z (by decide)) (fun _ => inl_e (by omega) (by omega) ((q_nm (by omega) (by omega) (by omega) (by omega)).trans (qn_v1 (by omega) (by omega) (by omega))))
        · refine to_an (pc := 9) rw_224_9 rfl (to_c (pc := 10) rw_224_10 (x := (2 : Int32)) rfl rfl (s_v (pc := 11) rw_224_11 (dp1 hd (by decide)) (ls0 := [.ref 77, .int (2 : Int32)]) rfl (Nat.le_of_ble_eq_true rfl) (Nat.le_of_ble_eq_true rfl) rfl (to_rc rfl rfl rfl (g_o hG rfl)) rfl (to_an (pc := 0) rw_152_0 rfl (to_in (pc := 1) rw_152_1 rfl (s_pI (pc := 2) rw_152_2 hG rfl (fun M545 W544 => ?_))))))
          have hG546 := g_wf hG W544 rfl rfl (by decide)
          have F547 := FR.w F0 W544 (show 77 = 77 ∧ (4 = 4 ∨ 4 = 5 ∨ 7 ≤ 4 ∧ 4 ≤ 10) ∨ 77 = 77 ∧ (4 = 59 ∨ 65 ≤ 4 ∧ 4 ≤ 69) ∨ 112 ≤ 77 ∧ 77 ≤ 114 ∧ 40 ≤ 4 ∨ 77 = 115 ∨ 77 = 116 by decide)
          refine to_an (pc := 5) rw_152_5 rfl (to_an (pc := 6) rw_152_6 rfl ?_)
          have c_548 : M545.2.1 77 10 = (M.2.1 77 10) := (W_n W544 (by decide) rfl)
          refine tt_gI (pc := 7) rw_152_7 (g_o hG546 rfl) (v := (M.2.1 77 10)) c_548 (s_pI (pc := 10) rw_152_10 hG546 rfl (fun M550 W549 => ?_))
          have hG551 := g_wf hG546 W549 rfl rfl (by decide)
          have F552 := FR.w F547 W549 (show 77 = 77 ∧ (5 = 4 ∨ 5 = 5 ∨ 7 ≤ 5 ∧ 5 ≤ 10) ∨ 77 = 77 ∧ (5 = 59 ∨ 65 ≤ 5 ∧ 5 ≤ 69) ∨ 112 ≤ 77 ∧ 77 ≤ 114 ∧ 40 ≤ 5 ∨ 77 = 115 ∨ 77 = 116 by decide)
          refine to_c (pc := 13) rw_152_13 (x := (0 : Int32)) rfl rfl (s_r1 (pc := 14) rw_152_14 (A := 0) rfl (by decide) (s_r1 (pc := 14) rw_224_14 (A := 0) rfl (by decide) (b_ine_f (pc := 122) rw_225_122 (A := 0) rfl (by decide) (to_c (pc := 125) rw_225_125 (x := (0 : Int32)) rfl rfl (s_r1 (pc := 126) rw_225_126 (A := 0) rfl (by decide) ?_)))))
          have k_553 : (0 : Int32).toInt = 0 := rfl
          have c_554 : M550.2.1 77 7 = (M.2.1 77 7) := (W_n W549 (by decide) (W_n W544 (by decide) rfl))
          have t_555 : (M550.2.1 77 7).toInt = (M.2.1 77 7).toInt := congrArg Int32.toInt c_554
          have c_556 : M550.2.1 77 6 = (M.2.1 77 6) := (W_n W549 (by decide) (W_n W544 (by decide) rfl))
          have t_557 : (M550.2.1 77 6).toInt = (M.2.1 77 6).toInt := congrArg Int32.toInt c_556
          have c_558 : M550.2.1 77 8 = (M.2.1 77 8) := (W_n W549 (by decide) (W_n W544 (by decide) rfl))
          have t_559 : (M550.2.1 77 8).toInt = (M.2.1 77 8).toInt := congrArg Int32.toInt c_558
          have c_560 : M550.2.1 77 4 = (2 : Int32) := (W_n W549 (by decide) (W_e W544))
          have k_561 : (2 : Int32).toInt = 2 := rfl
          have t_562 : (M550.2.1 77 4).toInt = (2 : Int32).toInt := congrArg Int32.toInt c_560
          have c_563 : M550.2.1 77 5 = (M.2.1 77 10) := (W_e W549)
          have t_564 : (M550.2.1 77 5).toInt = (M.2.1 77 10).toInt := congrArg Int32.toInt c_563
          have c_565 : M550.2.1 77 67 = (M.2.1 77 67) := (W_n W549 (by decide) (W_n W544 (by decide) rfl))
          have t_566 : (M550.2.1 77 67).toInt = (M.2.1 77 67).toInt := congrArg Int32.toInt c_565
          have c_567 : M550.2.1 77 69 = (M.2.1 77 69) := (W_n W549 (by decide) (W_n W544 (by decide) rfl))
          have t_568 : (M550.2.1 77 69).toInt = (M.2.1 77 69).toInt := congrArg Int32.toInt c_567
          exact h (0 : Int32) M550 hG551 F552 (by decide) (by decide) (by omega) (by omega) (by omega) (by omega) (fun z => absurd z (by omega)) (fun z => absurd z (by decide)) (fun z => absurd z (by decide)) (fun z => absurd z (by decide)) (fun _ => inl_e (by omega) (by omega) (q_nmx (by omega) (by omega) (by omega) (by omega)))
      · refine to_an (pc := 112) rw_225_112 rfl (to_c (pc := 113) rw_225_113 (x := (1 : Int32)) rfl rfl (s_v (pc := 114) rw_225_114 (dp0 hd (by decide)) (ls0 := [.ref 77, .int (1 : Int32)]) rfl (Nat.le_of_ble_eq_true rfl) (Nat.le_of_ble_eq_true rfl) rfl (to_rc rfl rfl rfl (g_o hG rfl)) rfl (to_an (pc := 0) rw_152_0 rfl (to_in (pc := 1) rw_152_1 rfl (s_pI (pc := 2) rw_152_2 hG rfl (fun M570 W569 => ?_))))))
        have hG571 := g_wf hG W569 rfl rfl (by decide)
        have F572 := FR.w F0 W569 (show 77 = 77 ∧ (4 = 4 ∨ 4 = 5 ∨ 7 ≤ 4 ∧ 4 ≤ 10) ∨ 77 = 77 ∧ (4 = 59 ∨ 65 ≤ 4 ∧ 4 ≤ 69) ∨ 112 ≤ 77 ∧ 77 ≤ 114 ∧ 40 ≤ 4 ∨ 77 = 115 ∨ 77 = 116 by decide)
        refine to_an (pc := 5) rw_152_5 rfl (to_an (pc := 6) rw_152_6 rfl ?_)
        have c_573 : M570.2.1 77 10 = (M.2.1 77 10) := (W_n W569 (by decide) rfl)
        refine tt_gI (pc := 7) rw_152_7 (g_o hG571 rfl) (v := (M.2.1 77 10)) c_573 (s_pI (pc := 10) rw_152_10 hG571 rfl (fun M575 W574 => ?_))
        have hG576 := g_wf hG571 W574 rfl rfl (by decide)
        have F577 := FR.w F572 W574 (show 77 = 77 ∧ (5 = 4 ∨ 5 = 5 ∨ 7 ≤ 5 ∧ 5 ≤ 10) ∨ 77 = 77 ∧ (5 = 59 ∨ 65 ≤ 5 ∧ 5 ≤ 69) ∨ 112 ≤ 77 ∧ 77 ≤ 114 ∧ 40 ≤ 5 ∨ 77 = 115 ∨ 77 = 116 by decide)
        refine to_c (pc := 13) rw_152_13 (x := (0 : Int32)) rfl rfl (s_r1 (pc := 14) rw_152_14 (A := 0) rfl (by decide) (s_r1 (pc := 117) rw_225_117 (A := 0) rfl (by decide) ?_))
        have k_578 : (0 : Int32).toInt = 0 := rfl
        have c_579 : M575.2.1 77 7 = (M.2.1 77 7) := (W_n W574 (by decide) (W_n W569 (by decide) rfl))
        have t_580 : (M575.2.1 77 7).toInt = (M.2.1 77 7).toInt := congrArg Int32.toInt c_579
        have c_581 : M575.2.1 77 6 = (M.2.1 77 6) := (W_n W574 (by decide) (W_n W569 (by decide) rfl))
        have t_582 : (M575.2.1 77 6).toInt = (M.2.1 77 6).toInt := congrArg Int32.toInt c_581
        have c_583 : M575.2.1 77 8 = (M.2.1 77 8) := (W_n W574 (by decide) (W_n W569 (by decide) rfl))
        have t_584 : (M575.2.1 77 8).toInt = (M.2.1 77 8).toInt := congrArg Int32.toInt c_583
        have c_585 : M575.2.1 77 4 = (1 : Int32) := (W_n W574 (by decide) (W_e W569))
        have k_586 : (1 : Int32).toInt = 1 := rfl
        have t_587 : (M575.2.1 77 4).toInt = (1 : Int32).toInt := congrArg Int32.toInt c_585
        have c_588 : M575.2.1 77 5 = (M.2.1 77 10) := (W_e W574)
        have t_589 : (M575.2.1 77 5).toInt = (M.2.1 77 10).toInt := congrArg Int32.toInt c_588
        have c_590 : M575.2.1 77 67 = (M.2.1 77 67) := (W_n W574 (by decide) (W_n W569 (by decide) rfl))
        have t_591 : (M575.2.1 77 67).toInt = (M.2.1 77 67).toInt := congrArg Int32.toInt c_590
        have c_592 : M575.2.1 77 69 = (M.2.1 77 69) := (W_n W574 (by decide) (W_n W569 (by decide) rfl))
        have t_593 : (M575.2.1 77 69).toInt = (M.2.1 77 69).toInt := congrArg Int32.toInt c_592
        exact h (0 : Int32) M575 hG576 F577 (by decide) (by decide) (by omega) (by omega) (by omega) (by omega) (fun z => absurd z (by omega)) (fun z => absurd z (by decide)) (fun z => absurd z (by decide)) (fun z => absurd z (by decide)) (fun _ => inl_e (by omega) (by omega) (q_0x (by omega) (by omega) (by omega) (by omega) (by omega)))
    · refine to_an (pc := 8) rw_158_8 rfl (tt_gI (pc := 9) rw_158_9 (g_o hG rfl) (v := (M.2.1 77 9)) rfl (to_in (pc := 12) rw_158_12 rfl (b_cne (pc := 13) rw_158_13 (A := (M.2.1 77 9).toInt) (B := 14) rfl rfl (fun h594 => ?_) (fun h594 => ?_))))
      · refine to_c (pc := 20) rw_158_20 (x := (0 : Int32)) rfl rfl (s_r1 (pc := 21) rw_158_21 (A := 0) rfl (by decide) (b_ieq_t (pc := 66) rw_225_66 (A := 0) rfl (by decide) ?_))
        have z_595 := RS_1 q5 (a := a) (by omega) (by omega)
        refine to_an (pc := 104) rw_225_104 rfl (tt_gI (pc := 105) rw_225_105 (g_o hG rfl) (v := (M.2.1 77 8)) rfl (to_c (pc := 108) rw_225_108 (x := (2 : Int32)) rfl rfl (b_ceq_f (pc := 109) rw_225_109 (A := (M.2.1 77 8).toInt) (B := 2) rfl rfl (by omega) (to_an (pc := 112) rw_225_112 rfl (to_c (pc := 113) rw_225_113 (x := (1 : Int32)) rfl rfl (s_v (pc := 114) rw_225_114 (dp0 hd (by decide)) (ls0 := [.ref 77, .int (1 : Int32)]) rfl (Nat.le_of_ble_eq_true rfl) (Nat.le_of_ble_eq_true rfl) rfl (to_rc rfl rfl rfl (g_o hG rfl)) rfl (to_an (pc := 0) rw_152_0 rfl (to_in (pc := 1) rw_152_1 rfl (s_pI (pc := 2) rw_152_2 hG rfl (fun M597 W596 => ?_))))))))))
        have hG598 := g_wf hG W596 rfl rfl (by decide)
        have F599 := FR.w F0 W596 (show 77 = 77 ∧ (4 = 4 ∨ 4 = 5 ∨ 7 ≤ 4 ∧ 4 ≤ 10) ∨ 77 = 77 ∧ (4 = 59 ∨ 65 ≤ 4 ∧ 4 ≤ 69) ∨ 112 ≤ 77 ∧ 77 ≤ 114 ∧ 40 ≤ 4 ∨ 77 = 115 ∨ 77 = 116 by decide)
        refine to_an (pc := 5) rw_152_5 rfl (to_an (pc := 6) rw_152_6 rfl ?_)
        have c_600 : M597.2.1 77 10 = (M.2.1 77 10) := (W_n W596 (by decide) rfl)
        refine tt_gI (pc := 7) rw_152_7 (g_o hG598 rfl) (v := (M.2.1 77 10)) c_600 (s_pI (pc := 10) rw_152_10 hG598 rfl (fun M602 W601 => ?_))
        have hG603 := g_wf hG598 W601 rfl rfl (by decide)
        have F604 := FR.w F599 W601 (show 77 = 77 ∧ (5 = 4 ∨ 5 = 5 ∨ 7 ≤ 5 ∧ 5 ≤ 10) ∨ 77 = 77 ∧ (5 = 59 ∨ 65 ≤ 5 ∧ 5 ≤ 69) ∨ 112 ≤ 77 ∧ 77 ≤ 114 ∧ 40 ≤ 5 ∨ 77 = 115 ∨ 77 = 116 by decide)
        refine to_c (pc := 13) rw_152_13 (x := (0 : Int32)) rfl rfl (s_r1 (pc := 14) rw_152_14 (A := 0) rfl (by decide) (s_r1 (pc := 117) rw_225_117 (A := 0) rfl (by decide) ?_))
        have k_605 : (0 : Int32).toInt = 0 := rfl
        have c_606 : M602.2.1 77 7 = (M.2.1 77 7) := (W_n W601 (by decide) (W_n W596 (by decide) rfl))
        have t_607 : (M602.2.1 77 7).toInt = (M.2.1 77 7).toInt := congrArg Int32.toInt c_606
        have c_608 : M602.2.1 77 6 = (M.2.1 77 6) := (W_n W601 (by decide) (W_n W596 (by decide) rfl))
        have t_609 : (M602.2.1 77 6).toInt = (M.2.1 77 6).toInt := congrArg Int32.toInt c_608
        have c_610 : M602.2.1 77 8 = (M.2.1 77 8) := (W_n W601 (by decide) (W_n W596 (by decide) rfl))
        have t_611 : (M602.2.1 77 8).toInt = (M.2.1 77 8).toInt := congrArg Int32.toInt c_610
        have c_612 : M602.2.1 77 4 = (1 : Int32) := (W_n W601 (by decide) (W_e W596))
        have k_613 : (1 : Int32).toInt = 1 := rfl
        have t_614 : (M602.2.1 77 4).toInt = (1 : Int32).toInt := congrArg Int32.toInt c_612
        have c_615 : M602.2.1 77 5 = (M.2.1 77 10) := (W_e W601)
        have t_616 : (M602.2.1 77 5).toInt = (M.2.1 77 10).toInt := congrArg Int32.toInt c_615
        have c_617 : M602.2.1 77 67 = (M.2.1 77 67) := (W_n W601 (by decide) (W_n W596 (by decide) rfl))
        have t_618 : (M602.2.1 77 67).toInt = (M.2.1 77 67).toInt := congrArg Int32.toInt c_617
        have c_619 : M602.2.1 77 69 = (M.2.1 77 69) := (W_n W601 (by decide) (W_n W596 (by decide) rfl))
        have t_620 : (M602.2.1 77 69).toInt = (M.2.1 77 69).toInt := congrArg Int32.toInt c_619
        exact h (0 : Int32) M602 hG603 F604 (by decide) (by decide) (by omega) (by omega) (by omega) (by omega) (fun z => absurd z (by omega)) (fun z => absurd z (by decide)) (fun z => absurd z (by decide)) (fun z => absurd z (by decide)) (fun _ => inl_e (by omega) (by omega) (q_0x (by omega) (by omega) (by omega) (by omega) (by omega)))
      · refine to_c (pc := 16) rw_158_16 (x := (1 : Int32)) rfl rfl (to_go (pc := 17) rw_158_17 (s_r1 (pc := 21) rw_158_21 (A := 1) rfl (by decide) (b_ieq_f (pc := 66) rw_225_66 (A := 1) rfl (by decide) ?_)))
        have z_621 := RS_1 q5 (a := a) (by omega) (by omega)
        refine to_an (pc := 69) rw_225_69 rfl (s_v (pc := 70) rw_225_70 (dp0 hd (by decide)) (ls0 := [.ref 77]) rfl (Nat.le_of_ble_eq_true rfl) (Nat.le_of_ble_eq_true rfl) rfl (to_rc rfl rfl rfl (g_o hG rfl)) rfl (to_an (pc := 0) rw_224_0 rfl (tt_gI (pc := 1) rw_224_1 (g_o hG rfl) (v := (M.2.1 77 69)) rfl (to_c (pc := 4) rw_224_4 (x := (40 : Int32)) rfl rfl (b_cne (pc := 6) rw_224_6 (A := (M.2.1 77 69).toInt) (B := 40) rfl rfl (fun h622 => ?_) (fun h622 => ?_))))))
        · refine to_an (pc := 15) rw_224_15 rfl (to_dupr (pc := 16) rw_224_16 (tt_gI (pc := 17) rw_224_17 (g_o hG rfl) (v := (M.2.1 77 69)) rfl (to_c (pc := 20) rw_224_20 (x := (1 : Int32)) rfl rfl (s_add (pc := 21) rw_224_21 (A := (M.2.1 77 69).toInt) (B := 1) rfl rfl (by omega) (fun v623 e624 => s_pI (pc := 22) rw_224_22 hG rfl (fun M626 W625 => ?_))))))
          have hG627 := g_w hG W625 (A := v623.toInt) rfl (lo := 0) (hi := 40) rfl rfl (by omega) (by decide)
          have F628 := FR.w F0 W625 (show 77 = 77 ∧ (69 = 4 ∨ 69 = 5 ∨ 7 ≤ 69 ∧ 69 ≤ 10) ∨ 77 = 77 ∧ (69 = 59 ∨ 65 ≤ 69 ∧ 69 ≤ 69) ∨ 112 ≤ 77 ∧ 77 ≤ 114 ∧ 40 ≤ 69 ∨ 77 = 115 ∨ 77 = 116 by decide)
          refine to_c (pc := 25) rw_224_25 (x := (1 : Int32)) rfl rfl (s_r1 (pc := 26) rw_224_26 (A := 1) rfl (by decide) (b_ine_t (pc := 73) rw_225_73 (A := 1) rfl (by decide) (to_an (pc := 78) rw_225_78 rfl (s_gR (pc := 79) rw_225_79 hG627 rfl (v := 115) rfl (to_an (pc := 82) rw_225_82 rfl ?_)))))
          have c_629 : M626.2.1 77 65 = (M.2.1 77 65) := (W_n W625 (by decide) rfl)
          refine tt_gI (pc := 83) rw_225_83 (g_o hG627 rfl) (v := (M.2.1 77 65)) c_629 (to_c (pc := 86) rw_225_86 (x := (2 : Int32)) rfl rfl (s_ias (pc := 87) rw_225_87 hG627 rfl (n := 64) rfl (A := (M.2.1 77 65).toInt) rfl (by omega) (by omega) (fun M631 W630 => ?_)))
          have hG632 := g_w hG627 W630 (A := 2) rfl (lo := 0) (hi := 4) rfl rfl (by omega) (by decide)
          have F633 := FR.w F628 W630 (show 115 = 77 ∧ (((M.2.1 77 65).toInt).toNat = 4 ∨ ((M.2.1 77 65).toInt).toNat = 5 ∨ 7 ≤ ((M.2.1 77 65).toInt).toNat ∧ ((M.2.1 77 65).toInt).toNat ≤ 10) ∨ 115 = 77 ∧ (((M.2.1 77 65).toInt).toNat = 59 ∨ 65 ≤ ((M.2.1 77 65).toInt).toNat ∧ ((M.2.1 77 65).toInt).toNat ≤ 69) ∨ 112 ≤ 115 ∧ 115 ≤ 114 ∧ 40 ≤ ((M.2.1 77 65).toInt).toNat ∨ 115 = 115 ∨ 115 = 116 by omega)
          refine to_an (pc := 88) rw_225_88 rfl (to_dupr (pc := 89) rw_225_89 ?_)
          have c_634 : M631.2.1 77 65 = (M.2.1 77 65) := (W_n W630 (fun z => absurd z.1 (by decide)) c_629)
          refine tt_gI (pc := 90) rw_225_90 (g_o hG632 rfl) (v := (M.2.1 77 65)) c_634 (to_c (pc := 93) rw_225_93 (x := (1 : Int32)) rfl rfl (s_add (pc := 94) rw_225_94 (A := (M.2.1 77 65).toInt) (B := 1) rfl rfl (by omega) (fun v635 e636 => s_pI (pc := 95) rw_225_95 hG632 rfl (fun M638 W637 => ?_))))
          have hG639 := g_w hG632 W637 (A := v635.toInt) rfl (lo := 0) (hi := 48) rfl rfl (by omega) (by decide)
          have F640 := FR.w F633 W637 (show 77 = 77 ∧ (65 = 4 ∨ 65 = 5 ∨ 7 ≤ 65 ∧ 65 ≤ 10) ∨ 77 = 77 ∧ (65 = 59 ∨ 65 ≤ 65 ∧ 65 ≤ 69) ∨ 112 ≤ 77 ∧ 77 ≤ 114 ∧ 40 ≤ 65 ∨ 77 = 115 ∨ 77 = 116 by decide)
          refine to_an (pc := 98) rw_225_98 rfl (s_v (pc := 99) rw_225_99 (dp0 hd (by decide)) (ls0 := [.ref 77]) rfl (Nat.le_of_ble_eq_true rfl) (Nat.le_of_ble_eq_true rfl) rfl (to_rc rfl rfl rfl (g_o hG639 rfl)) rfl ?_)
          have c_641 : M638.2.1 77 7 = (M.2.1 77 7) := (W_n W637 (by decide) (W_n W630 (fun z => absurd z.1 (by decide)) (W_n W625 (by decide) rfl)))
          have t_642 : (M638.2.1 77 7).toInt = (M.2.1 77 7).toInt := congrArg Int32.toInt c_641
          have c_643 : M638.2.1 77 6 = (M.2.1 77 6) := (W_n W637 (by decide) (W_n W630 (fun z => absurd z.1 (by decide)) (W_n W625 (by decide) rfl)))
          have t_644 : (M638.2.1 77 6).toInt = (M.2.1 77 6).toInt := congrArg Int32.toInt c_643
          have c_645 : M638.2.1 77 10 = (M.2.1 77 10) := (W_n W637 (by decide) (W_n W630 (fun z => absurd z.1 (by decide)) (W_n W625 (by decide) rfl)))
          have t_646 : (M638.2.1 77 10).toInt = (M.2.1 77 10).toInt := congrArg Int32.toInt c_645
          have j_647 := (RS_f (fun a i z => W_n W637 (by omega) rfl) (RS_f (fun a i z => W_n W630 (tg_302 a i _ z) rfl) (RS_f (fun a i z => W_n W625 (by omega) rfl) q5)))
          have z_648 := RS_b j_647 (a := a) (by omega)
          have j_649 := (TR_f (fun a i z => W_n W637 (tg_9 a i _ z) rfl) (TR_f (fun a i z => W_n W630 (tg_303 a i _ z) rfl) (TR_f (fun a i z => W_n W625 (tg_9 a i _ z) rfl) q9)))
          have j_650 := (W9_f (fun a i z => W_n W637 (tg_10 a i _ z) rfl) (W9_f (fun a i z => W_n W630 (tg_304 a i _ z) rfl) (W9_f (fun a i z => W_n W625 (tg_10 a i _ z) rfl) q10)))
          refine E_156 hX (dp1 hd (by decide)) hG639 (by omega) (by omega) (by omega) (by omega) j_649 j_650  (fun M657 hG652 F651 p_653 p_654 p_655 p_656 => ?_)
          have F658 := FR.c F640 F651 tg_258
          have b_659 := g_b hG652 (a := 77) (i := 7) (lo := 0) (hi := 500) rfl rfl
          have c_660 : M657.2.1 77 6 = (M.2.1 77 6) := (F_n F651 (show ¬ (77 = 77 ∧ 7 ≤ 6 ∧ 6 ≤ 10) by decide) c_643)
          have t_661 : (M657.2.1 77 6).toInt = (M.2.1 77 6).toInt := congrArg Int32.toInt c_660
          have b_662 := g_b hG652 (a := 77) (i := 8) (lo := 0) (hi := 5) rfl rfl
          have b_663 := g_b hG652 (a := 77) (i := 10) (lo := 0) (hi := 500) rfl rfl
          have z_664 := RS_s p_656.2 (a := a) (by omega)
          refine to_c (pc := 102) rw_225_102 (x := (1 : Int32)) rfl rfl (s_r1 (pc := 103) rw_225_103 (A := 1) rfl (by decide) ?_)
          have k_665 : (1 : Int32).toInt = 1 := rfl
          have c_666 : M657.2.1 77 59 = (M.2.1 77 59) := (F_n F651 (show ¬ (77 = 77 ∧ 7 ≤ 59 ∧ 59 ≤ 10) by decide) (W_n W637 (by decide) (W_n W630 (fun z => absurd z.1 (by decide)) (W_n W625 (by decide) rfl))))
          have t_667 : (M657.2.1 77 59).toInt = (M.2.1 77 59).toInt := congrArg Int32.toInt c_666
          have c_668 : M657.2.1 77 65 = v635 := (F_n F651 (show ¬ (77 = 77 ∧ 7 ≤ 65 ∧ 65 ≤ 10) by decide) (W_e W637))
          have t_669 : (M657.2.1 77 65).toInt = v635.toInt := congrArg Int32.toInt c_668
          have c_670 : M657.2.1 77 66 = (M.2.1 77 66) := (F_n F651 (show ¬ (77 = 77 ∧ 7 ≤ 66 ∧ 66 ≤ 10) by decide) (W_n W637 (by decide) (W_n W630 (fun z => absurd z.1 (by decide)) (W_n W625 (by decide) rfl))))
          have t_671 : (M657.2.1 77 66).toInt = (M.2.1 77 66).toInt := congrArg Int32.toInt c_670
          have c_672 : M657.2.1 77 67 = (M.2.1 77 67) := (F_n F651 (show ¬ (77 = 77 ∧ 7 ≤ 67 ∧ 67 ≤ 10) by decide) (W_n W637 (by decide) (W_n W630 (fun z => absurd z.1 (by decide)) (W_n W625 (by decide) rfl))))
          have t_673 : (M657.2.1 77 67).toInt = (M.2.1 77 67).toInt := congrArg Int32.toInt c_672
          have c_674 : M657.2.1 77 68 = (M.2.1 77 68) := (F_n F651 (show ¬ (77 = 77 ∧ 7 ≤ 68 ∧ 68 ≤ 10) by decide) (W_n W637 (by decide) (W_n W630 (fun z => absurd z.1 (by decide)) (W_n W625 (by decide) rfl))))
          have t_675 : (M657.2.1 77 68).toInt = (M.2.1 77 68).toInt := congrArg Int32.toInt c_674
          have c_676 : M657.2.1 77 69 = v623 := (F_n F651 (show ¬ (77 = 77 ∧ 7 ≤ 69 ∧ 69 ≤ 10) by decide) (W_n W637 (by decide) (W_n W630 (fun z => absurd z.1 (by decide)) (W_e W625))))
          have t_677 : (M657.2.1 77 69).toInt = v623.toInt := congrArg Int32.toInt c_676
          have k_679 : (2 : Int32).toInt = 2 := rfl
          have s_680 := Wx_f (M := M) (M1 := M657) ((M.2.1 77 65).toInt).toNat (fun i z => (F_n F651 (show ¬ (115 = 77 ∧ 7 ≤ i ∧ i ≤ 10) by omega) (W_n W637 (by omega) (W_n W630 (by omega) (W_n W625 (by omega) rfl)))))
          have s_681 : (M657.2.1 115 ((M.2.1 77 65).toInt).toNat).toInt = (2 : Int32).toInt := by rw [show ((M.2.1 77 65).toInt).toNat = ((M.2.1 77 65).toInt).toNat by omega]; exact congrArg Int32.toInt (F_n F651 (show ¬ (115 = 77 ∧ 7 ≤ (((M.2.1 77 65).toInt).toNat) ∧ (((M.2.1 77 65).toInt).toNat) ≤ 10) by omega) (W_n W637 (by omega) (W_e W630)))
          have s_682 := Wx_s M657 ((M.2.1 77 65).toInt).toNat
          have j_678 : QK M657 := QK_i (by unfold QK_c; rw [show ((M657.2.1 77 65).toInt).toNat = ((M.2.1 77 65).toInt).toNat + 1 by omega]; refine ⟨by omega, by omega, by omega, by omega⟩) (fun i z => by
              by_cases ei : i = ((M.2.1 77 65).toInt).toNat
              · rw [ei]; omega
              · rw [(F_n F651 (show ¬ (115 = 77 ∧ 7 ≤ i ∧ i ≤ 10) by omega) (W_n W637 (by omega) (W_n W630 (by omega) (W_n W625 (by omega) rfl))))]; exact q2.2.1 i (by omega)) (by rw [(F_n F651 (show ¬ (77 = 77 ∧ 7 ≤ 59 ∧ 59 ≤ 10) by decide) (W_n W637 (by omega) (W_n W630 (by omega) (W_n W625 (by omega) rfl))))]; exact KN_f (fun a i z => (F_n F651 (show ¬ (a = 77 ∧ 7 ≤ i ∧ i ≤ 10) by omega) (W_n W637 (by omega) (W_n W630 (by omega) (W_n W625 (by omega) rfl))))) q2.2.2)
          exact h (1 : Int32) M657 hG652 F658 (by decide) (by decide) (by omega) (by omega) (by omega) (by omega) (fun _ => j_678) (fun _ => by rw [show ((M657.2.1 77 65).toInt).toNat = ((M.2.1 77 65).toInt).toNat + 1 by omega]; omega) (fun _ => p_656.1) (fun _ => (q_no (by omega) (by omega) (by omega) (by omega)).trans (q_w (by omega) (by omega) (by omega) (by omega))) (fun z => absurd z (by decide))
        · refine to_an (pc := 9) rw_224_9 rfl (to_c (pc := 10) rw_224_10 (x := (2 : Int32)) rfl rfl (s_v (pc := 11) rw_224_11 (dp1 hd (by decide)) (ls0 := [.ref 77, .int (2 : Int32)]) rfl (Nat.le_of_ble_eq_true rfl) (Nat.le_of_ble_eq_true rfl) rfl (to_rc rfl rfl rfl (g_o hG rfl)) rfl (to_an (pc := 0) rw_152_0 rfl (to_in (pc := 1) rw_152_1 rfl (s_pI (pc := 2) rw_152_2 hG rfl (fun M684 W683 => ?_))))))
          have hG685 := g_wf hG W683 rfl rfl (by decide)
          have F686 := FR.w F0 W683 (show 77 = 77 ∧ (4 = 4 ∨ 4 = 5 ∨ 7 ≤ 4 ∧ 4 ≤ 10) ∨ 77 = 77 ∧ (4 = 59 ∨ 65 ≤ 4 ∧ 4 ≤ 69) ∨ 112 ≤ 77 ∧ 77 ≤ 114 ∧ 40 ≤ 4 ∨ 77 = 115 ∨ 77 = 116 by decide)
          refine to_an (pc := 5) rw_152_5 rfl (to_an (pc := 6) rw_152_6 rfl ?_)
          have c_687 : M684.2.1 77 10 = (M.2.1 77 10) := (W_n W683 (by decide) rfl)
          refine tt_gI (pc := 7) rw_152_7 (g_o hG685 rfl) (v := (M.2.1 77 10)) c_687 (s_pI (pc := 10) rw_152_10 hG685 rfl (fun M689 W688 => ?_))
          have hG690 := g_wf hG685 W688 rfl rfl (by decide)
          have F691 := FR.w F686 W688 (show 77 = 77 ∧ (5 = 4 ∨ 5 = 5 ∨ 7 ≤ 5 ∧ 5 ≤ 10) ∨ 77 = 77 ∧ (5 = 59 ∨ 65 ≤ 5 ∧ 5 ≤ 69) ∨ 112 ≤ 77 ∧ 77 ≤ 114 ∧ 40 ≤ 5 ∨ 77 = 115 ∨ 77 = 116 by decide)
          refine to_c (pc := 13) rw_152_13 (x := (0 : Int32)) rfl rfl (s_r1 (pc := 14) rw_152_14 (A := 0) rfl (by decide) (s_r1 (pc := 14) rw_224_14 (A := 0) rfl (by decide) (b_ine_f (pc := 73) rw_225_73 (A := 0) rfl (by decide) (to_c (pc := 76) rw_225_76 (x := (0 : Int32)) rfl rfl (s_r1 (pc := 77) rw_225_77 (A := 0) rfl (by decide) ?_)))))
          have k_692 : (0 : Int32).toInt = 0 := rfl
          have c_693 : M689.2.1 77 7 = (M.2.1 77 7) := (W_n W688 (by decide) (W_n W683 (by decide) rfl))
          have t_694 : (M689.2.1 77 7).toInt = (M.2.1 77 7).toInt := congrArg Int32.toInt c_693
          have c_695 : M689.2.1 77 6 = (M.2.1 77 6) := (W_n W688 (by decide) (W_n W683 (by decide) rfl))
          have t_696 : (M689.2.1 77 6).toInt = (M.2.1 77 6).toInt := congrArg Int32.toInt c_695
          have c_697 : M689.2.1 77 8 = (M.2.1 77 8) := (W_n W688 (by decide) (W_n W683 (by decide) rfl))
          have t_698 : (M689.2.1 77 8).toInt = (M.2.1 77 8).toInt := congrArg Int32.toInt c_697
          have c_699 : M689.2.1 77 4 = (2 : Int32) := (W_n W688 (by decide) (W_e W683))
          have k_700 : (2 : Int32).toInt = 2 := rfl
          have t_701 : (M689.2.1 77 4).toInt = (2 : Int32).toInt := congrArg Int32.toInt c_699
          have c_702 : M689.2.1 77 5 = (M.2.1 77 10) := (W_e W688)
          have t_703 : (M689.2.1 77 5).toInt = (M.2.1 77 10).toInt := congrArg Int32.toInt c_702
          have c_704 : M689.2.1 77 67 = (M.2.1 77 67) := (W_n W688 (by decide) (W_n W683 (by decide) rfl))
          have t_705 : (M689.2.1 77 67).toInt = (M.2.1 77 67).toInt := congrArg Int32.toInt c_704
          have c_706 : M689.2.1 77 69 = (M.2.1 77 69) := (W_n W688 (by decide) (W_n W683 (by decide) rfl))
          have t_707 : (M689.2.1 77 69).toInt = (M.2.1 77 69).toInt := congrArg Int32.toInt c_706
          exact h (0 : Int32) M689 hG690 F691 (by decide) (by decide) (by omega) (by omega) (by omega) (by omega) (fun z => absurd z (by omega)) (fun z => absurd z (by decide)) (fun z => absurd z (by decide)) (fun z => absurd z (by decide)) (fun _ => inl_e (by omega) (by omega) (q_nox (by omega) (by omega) (by omega) (by omega)))
  · refine to_an (pc := 8) rw_159_8 rfl (tt_gI (pc := 9) rw_159_9 (g_o hG rfl) (v := (M.2.1 77 9)) rfl (to_in (pc := 12) rw_159_12 rfl (b_cne (pc := 13) rw_159_13 (A := (M.2.1 77 9).toInt) (B := 40) rfl rfl (fun h708 => ?_) (fun h708 => ?_))))
    · refine to_c (pc := 20) rw_159_20 (x := (0 : Int32)) rfl rfl (s_r1 (pc := 21) rw_159_21 (A := 0) rfl (by decide) (b_ieq_t (pc := 6) rw_225_6 (A := 0) rfl (by decide) ?_))
      have z_709 := RS_4 q5 (a := a) (by omega) (by omega)
      refine to_an (pc := 60) rw_225_60 rfl (to_c (pc := 61) rw_225_61 (x := (14 : Int32)) rfl rfl (s_v (pc := 63) rw_225_63 (dp0 hd (by decide)) (ls0 := [.ref 77, .int (14 : Int32)]) rfl (Nat.le_of_ble_eq_true rfl) (Nat.le_of_ble_eq_true rfl) rfl (to_rc rfl rfl rfl (g_o hG rfl)) rfl (to_an (pc := 0) rw_158_0 rfl (tt_gI (pc := 1) rw_158_1 (g_o hG rfl) (v := (M.2.1 77 8)) rfl (to_c (pc := 4) rw_158_4 (x := (1 : Int32)) rfl rfl (b_cne_t (pc := 5) rw_158_5 (A := (M.2.1 77 8).toInt) (B := 1) rfl rfl (by omega) (to_c (pc := 20) rw_158_20 (x := (0 : Int32)) rfl rfl (s_r1 (pc := 21) rw_158_21 (A := 0) rfl (by decide) (b_ieq_t (pc := 66) rw_225_66 (A := 0) rfl (by decide) (to_an (pc := 104) rw_225_104 rfl (tt_gI (pc := 105) rw_225_105 (g_o hG rfl) (v := (M.2.1 77 8)) rfl ?_)))))))))))
      refine to_c (pc := 108) rw_225_108 (x := (2 : Int32)) rfl rfl (b_ceq_f (pc := 109) rw_225_109 (A := (M.2.1 77 8).toInt) (B := 2) rfl rfl (by omega) (to_an (pc := 112) rw_225_112 rfl (to_c (pc := 113) rw_225_113 (x := (1 : Int32)) rfl rfl (s_v (pc := 114) rw_225_114 (dp0 hd (by decide)) (ls0 := [.ref 77, .int (1 : Int32)]) rfl (Nat.le_of_ble_eq_true rfl) (Nat.le_of_ble_eq_true rfl) rfl (to_rc rfl rfl rfl (g_o hG rfl)) rfl (to_an (pc := 0) rw_152_0 rfl (to_in (pc := 1) rw_152_1 rfl (s_pI (pc := 2) rw_152_2 hG rfl (fun M711 W710 => ?_))))))))
      have hG712 := g_wf hG W710 rfl rfl (by decide)
      have F713 := FR.w F0 W710 (show 77 = 77 ∧ (4 = 4 ∨ 4 = 5 ∨ 7 ≤ 4 ∧ 4 ≤ 10) ∨ 77 = 77 ∧ (4 = 59 ∨ 65 ≤ 4 ∧ 4 ≤ 69) ∨ 112 ≤ 77 ∧ 77 ≤ 114 ∧ 40 ≤ 4 ∨ 77 = 115 ∨ 77 = 116 by decide)
      refine to_an (pc := 5) rw_152_5 rfl (to_an (pc := 6) rw_152_6 rfl ?_)
      have c_714 : M711.2.1 77 10 = (M.2.1 77 10) := (W_n W710 (by decide) rfl)
      refine tt_gI (pc := 7) rw_152_7 (g_o hG712 rfl) (v := (M.2.1 77 10)) c_714 (s_pI (pc := 10) rw_152_10 hG712 rfl (fun M716 W715 => ?_))
      have hG717 := g_wf hG712 W715 rfl rfl (by decide)
      have F718 := FR.w F713 W715 (show 77 = 77 ∧ (5 = 4 ∨ 5 = 5 ∨ 7 ≤ 5 ∧ 5 ≤ 10) ∨ 77 = 77 ∧ (5 = 59 ∨ 65 ≤ 5 ∧ 5 ≤ 69) ∨ 112 ≤ 77 ∧ 77 ≤ 114 ∧ 40 ≤ 5 ∨ 77 = 115 ∨ 77 = 116 by decide)
      refine to_c (pc := 13) rw_152_13 (x := (0 : Int32)) rfl rfl (s_r1 (pc := 14) rw_152_14 (A := 0) rfl (by decide) (s_r1 (pc := 117) rw_225_117 (A := 0) rfl (by decide) ?_))
      have k_719 : (0 : Int32).toInt = 0 := rfl
      have c_720 : M716.2.1 77 7 = (M.2.1 77 7) := (W_n W715 (by decide) (W_n W710 (by decide) rfl))
      have t_721 : (M716.2.1 77 7).toInt = (M.2.1 77 7).toInt := congrArg Int32.toInt c_720
      have c_722 : M716.2.1 77 6 = (M.2.1 77 6) := (W_n W715 (by decide) (W_n W710 (by decide) rfl))
      have t_723 : (M716.2.1 77 6).toInt = (M.2.1 77 6).toInt := congrArg Int32.toInt c_722
      have c_724 : M716.2.1 77 8 = (M.2.1 77 8) := (W_n W715 (by decide) (W_n W710 (by decide) rfl))
      have t_725 : (M716.2.1 77 8).toInt = (M.2.1 77 8).toInt := congrArg Int32.toInt c_724
      have c_726 : M716.2.1 77 4 = (1 : Int32) := (W_n W715 (by decide) (W_e W710))
      have k_727 : (1 : Int32).toInt = 1 := rfl
      have t_728 : (M716.2.1 77 4).toInt = (1 : Int32).toInt := congrArg Int32.toInt c_726
      have c_729 : M716.2.1 77 5 = (M.2.1 77 10) := (W_e W715)
      have t_730 : (M716.2.1 77 5).toInt = (M.2.1 77 10).toInt := congrArg Int32.toInt c_729
      have c_731 : M716.2.1 77 67 = (M.2.1 77 67) := (W_n W715 (by decide) (W_n W710 (by decide) rfl))
      have t_732 : (M716.2.1 77 67).toInt = (M.2.1 77 67).toInt := congrArg Int32.toInt c_731
      have c_733 : M716.2.1 77 69 = (M.2.1 77 69) := (W_n W715 (by decide) (W_n W710 (by decide) rfl))
      have t_734 : (M716.2.1 77 69).toInt = (M.2.1 77 69).toInt := congrArg Int32.toInt c_733
      exact h (0 : Int32) M716 hG717 F718 (by decide) (by decide) (by omega) (by omega) (by omega) (by omega) (fun z => absurd z (by omega)) (fun z => absurd z (by decide)) (fun z => absurd z (by decide)) (fun z => absurd z (by decide)) (fun _ => inl_e (by omega) (by omega) (q_0x (by omega) (by omega) (by omega) (by omega) (by omega)))
    · refine to_c (pc := 16) rw_159_16 (x := (1 : Int32)) rfl rfl (to_go (pc := 17) rw_159_17 (s_r1 (pc := 21) rw_159_21 (A := 1) rfl (by decide) (b_ieq_f (pc := 6) rw_225_6 (A := 1) rfl (by decide) ?_)))
      have z_735 := RS_4 q5 (a := a) (by omega) (by omega)
      refine to_an (pc := 9) rw_225_9 rfl (tt_gI (pc := 10) rw_225_10 (g_o hG rfl) (v := (M.2.1 77 67)) rfl (to_c (pc := 13) rw_225_13 (x := (8 : Int32)) rfl rfl (b_cne (pc := 15) rw_225_15 (A := (M.2.1 77 67).toInt) (B := 8) rfl rfl (fun h736 => ?_) (fun h736 => ?_))))
      · refine to_an (pc := 24) rw_225_24 rfl (to_dupr (pc := 25) rw_225_25 (tt_gI (pc := 26) rw_225_26 (g_o hG rfl) (v := (M.2.1 77 67)) rfl (to_c (pc := 29) rw_225_29 (x := (1 : Int32)) rfl rfl (s_add (pc := 30) rw_225_30 (A := (M.2.1 77 67).toInt) (B := 1) rfl rfl (by omega) (fun v737 e738 => s_pI (pc := 31) rw_225_31 hG rfl (fun M740 W739 => ?_))))))
        have hG741 := g_w hG W739 (A := v737.toInt) rfl (lo := 0) (hi := 8) rfl rfl (by omega) (by decide)
        have F742 := FR.w F0 W739 (show 77 = 77 ∧ (67 = 4 ∨ 67 = 5 ∨ 7 ≤ 67 ∧ 67 ≤ 10) ∨ 77 = 77 ∧ (67 = 59 ∨ 65 ≤ 67 ∧ 67 ≤ 69) ∨ 112 ≤ 77 ∧ 77 ≤ 114 ∧ 40 ≤ 67 ∨ 77 = 115 ∨ 77 = 116 by decide)
        refine to_an (pc := 34) rw_225_34 rfl (s_gR (pc := 35) rw_225_35 hG741 rfl (v := 115) rfl (to_an (pc := 38) rw_225_38 rfl ?_))
        have c_743 : M740.2.1 77 65 = (M.2.1 77 65) := (W_n W739 (by decide) rfl)
        refine tt_gI (pc := 39) rw_225_39 (g_o hG741 rfl) (v := (M.2.1 77 65)) c_743 (to_c (pc := 42) rw_225_42 (x := (0 : Int32)) rfl rfl (s_ias (pc := 43) rw_225_43 hG741 rfl (n := 64) rfl (A := (M.2.1 77 65).toInt) rfl (by omega) (by omega) (fun M745 W744 => ?_)))
        have hG746 := g_w hG741 W744 (A := 0) rfl (lo := 0) (hi := 4) rfl rfl (by omega) (by decide)
        have F747 := FR.w F742 W744 (show 115 = 77 ∧ (((M.2.1 77 65).toInt).toNat = 4 ∨ ((M.2.1 77 65).toInt).toNat = 5 ∨ 7 ≤ ((M.2.1 77 65).toInt).toNat ∧ ((M.2.1 77 65).toInt).toNat ≤ 10) ∨ 115 = 77 ∧ (((M.2.1 77 65).toInt).toNat = 59 ∨ 65 ≤ ((M.2.1 77 65).toInt).toNat ∧ ((M.2.1 77 65).toInt).toNat ≤ 69) ∨ 112 ≤ 115 ∧ 115 ≤ 114 ∧ 40 ≤ ((M.2.1 77 65).toInt).toNat ∨ 115 = 115 ∨ 115 = 116 by omega)
        refine to_an (pc := 44) rw_225_44 rfl (to_dupr (pc := 45) rw_225_45 ?_)
        have c_748 : M745.2.1 77 65 = (M.2.1 77 65) := (W_n W744 (fun z => absurd z.1 (by decide)) c_743)
        refine tt_gI (pc := 46) rw_225_46 (g_o hG746 rfl) (v := (M.2.1 77 65)) c_748 (to_c (pc := 49) rw_225_49 (x := (1 : Int32)) rfl rfl (s_add (pc := 50) rw_225_50 (A := (M.2.1 77 65).toInt) (B := 1) rfl rfl (by omega) (fun v749 e750 => s_pI (pc := 51) rw_225_51 hG746 rfl (fun M752 W751 => ?_))))
        have hG753 := g_w hG746 W751 (A := v749.toInt) rfl (lo := 0) (hi := 48) rfl rfl (by omega) (by decide)
        have F754 := FR.w F747 W751 (show 77 = 77 ∧ (65 = 4 ∨ 65 = 5 ∨ 7 ≤ 65 ∧ 65 ≤ 10) ∨ 77 = 77 ∧ (65 = 59 ∨ 65 ≤ 65 ∧ 65 ≤ 69) ∨ 112 ≤ 77 ∧ 77 ≤ 114 ∧ 40 ≤ 65 ∨ 77 = 115 ∨ 77 = 116 by decide)
        refine to_an (pc := 54) rw_225_54 rfl (s_v (pc := 55) rw_225_55 (dp0 hd (by decide)) (ls0 := [.ref 77]) rfl (Nat.le_of_ble_eq_true rfl) (Nat.le_of_ble_eq_true rfl) rfl (to_rc rfl rfl rfl (g_o hG753 rfl)) rfl ?_)
        have c_755 : M752.2.1 77 7 = (M.2.1 77 7) := (W_n W751 (by decide) (W_n W744 (fun z => absurd z.1 (by decide)) (W_n W739 (by decide) rfl)))
        have t_756 : (M752.2.1 77 7).toInt = (M.2.1 77 7).toInt := congrArg Int32.toInt c_755
        have c_757 : M752.2.1 77 6 = (M.2.1 77 6) := (W_n W751 (by decide) (W_n W744 (fun z => absurd z.1 (by decide)) (W_n W739 (by decide) rfl)))
        have t_758 : (M752.2.1 77 6).toInt = (M.2.1 77 6).toInt := congrArg Int32.toInt c_757
        have c_759 : M752.2.1 77 10 = (M.2.1 77 10) := (W_n W751 (by decide) (W_n W744 (fun z => absurd z.1 (by decide)) (W_n W739 (by decide) rfl)))
        have t_760 : (M752.2.1 77 10).toInt = (M.2.1 77 10).toInt := congrArg Int32.toInt c_759
        have j_761 := (RS_f (fun a i z => W_n W751 (by omega) rfl) (RS_f (fun a i z => W_n W744 (tg_302 a i _ z) rfl) (RS_f (fun a i z => W_n W739 (by omega) rfl) q5)))
        have z_762 := RS_b j_761 (a := a) (by omega)
        have j_763 := (TR_f (fun a i z => W_n W751 (tg_9 a i _ z) rfl) (TR_f (fun a i z => W_n W744 (tg_303 a i _ z) rfl) (TR_f (fun a i z => W_n W739 (tg_9 a i _ z) rfl) q9)))
        have j_764 := (W9_f (fun a i z => W_n W751 (tg_10 a i _ z) rfl) (W9_f (fun a i z => W_n W744 (tg_304 a i _ z) rfl) (W9_f (fun a i z => W_n W739 (tg_10 a i _ z) rfl) q10)))
        refine E_156 hX (dp1 hd (by decide)) hG753 (by omega) (by omega) (by omega) (by omega) j_763 j_764  (fun M771 hG766 F765 p_767 p_768 p_769 p_770 => ?_)
        have F772 := FR.c F754 F765 tg_258
        have b_773 := g_b hG766 (a := 77) (i := 7) (lo := 0) (hi := 500) rfl rfl
        have c_774 : M771.2.1 77 6 = (M.2.1 77 6) := (F_n F765 (show ¬ (77 = 77 ∧ 7 ≤ 6 ∧ 6 ≤ 10) by decide) c_757)
        have t_775 : (M771.2.1 77 6).toInt = (M.2.1 77 6).toInt := congrArg Int32.toInt c_774
        have b_776 := g_b hG766 (a := 77) (i := 8) (lo := 0) (hi := 5) rfl rfl
        have b_777 := g_b hG766 (a := 77) (i := 10) (lo := 0) (hi := 500) rfl rfl
        have z_778 := RS_s p_770.2 (a := a) (by omega)
        refine to_c (pc := 58) rw_225_58 (x := (1 : Int32)) rfl rfl (s_r1 (pc := 59) rw_225_59 (A := 1) rfl (by decide) ?_)
        have k_779 : (1 : Int32).toInt = 1 := rfl
        have c_780 : M771.2.1 77 59 = (M.2.1 77 59) := (F_n F765 (show ¬ (77 = 77 ∧ 7 ≤ 59 ∧ 59 ≤ 10) by decide) (W_n W751 (by decide) (W_n W744 (fun z => absurd z.1 (by decide)) (W_n W739 (by decide) rfl))))
        have t_781 : (M771.2.1 77 59).toInt = (M.2.1 77 59).toInt := congrArg Int32.toInt c_780
        have c_782 : M771.2.1 77 65 = v749 := (F_n F765 (show ¬ (77 = 77 ∧ 7 ≤ 65 ∧ 65 ≤ 10) by decide) (W_e W751))
        have t_783 : (M771.2.1 77 65).toInt = v749.toInt := congrArg Int32.toInt c_782
        have c_784 : M771.2.1 77 66 = (M.2.1 77 66) := (F_n F765 (show ¬ (77 = 77 ∧ 7 ≤ 66 ∧ 66 ≤ 10) by decide) (W_n W751 (by decide) (W_n W744 (fun z => absurd z.1 (by decide)) (W_n W739 (by decide) rfl))))
        have t_785 : (M771.2.1 77 66).toInt = (M.2.1 77 66).toInt := congrArg Int32.toInt c_784
        have c_786 : M771.2.1 77 67 = v737 := (F_n F765 (show ¬ (77 = 77 ∧ 7 ≤ 67 ∧ 67 ≤ 10) by decide) (W_n W751 (by decide) (W_n W744 (fun z => absurd z.1 (by decide)) (W_e W739))))
        have t_787 : (M771.2.1 77 67).toInt = v737.toInt := congrArg Int32.toInt c_786
        have c_788 : M771.2.1 77 68 = (M.2.1 77 68) := (F_n F765 (show ¬ (77 = 77 ∧ 7 ≤ 68 ∧ 68 ≤ 10) by decide) (W_n W751 (by decide) (W_n W744 (fun z => absurd z.1 (by decide)) (W_n W739 (by decide) rfl))))
        have t_789 : (M771.2.1 77 68).toInt = (M.2.1 77 68).toInt := congrArg Int32.toInt c_788
        have c_790 : M771.2.1 77 69 = (M.2.1 77 69) := (F_n F765 (show ¬ (77 = 77 ∧ 7 ≤ 69 ∧ 69 ≤ 10) by decide) (W_n W751 (by decide) (W_n W744 (fun z => absurd z.1 (by decide)) (W_n W739 (by decide) rfl))))
        have t_791 : (M771.2.1 77 69).toInt = (M.2.1 77 69).toInt := congrArg Int32.toInt c_790
        have k_793 : (0 : Int32).toInt = 0 := rfl
        have s_794 := Wx_f (M := M) (M1 := M771) ((M.2.1 77 65).toInt).toNat (fun i z => (F_n F765 (show ¬ (115 = 77 ∧ 7 ≤ i ∧ i ≤ 10) by omega) (W_n W751 (by omega) (W_n W744 (by omega) (W_n W739 (by omega) rfl)))))
        have s_795 : (M771.2.1 115 ((M.2.1 77 65).toInt).toNat).toInt = (0 : Int32).toInt := by rw [show ((M.2.1 77 65).toInt).toNat = ((M.2.1 77 65).toInt).toNat by omega]; exact congrArg Int32.toInt (F_n F765 (show ¬ (115 = 77 ∧ 7 ≤ (((M.2.1 77 65).toInt).toNat) ∧ (((M.2.1 77 65).toInt).toNat) ≤ 10) by omega) (W_n W751 (by omega) (W_e W744)))
        have s_796 := Wx_s M771 ((M.2.1 77 65).toInt).toNat
        have j_792 : QK M771 := QK_i (by unfold QK_c; rw [show ((M771.2.1 77 65).toInt).toNat = ((M.2.1 77 65).toInt).toNat + 1 by omega]; refine ⟨by omega, by omega, by omega, by omega⟩) (fun i z => by
            by_cases ei : i = ((M.2.1 77 65).toInt).toNat
            · rw [ei]; omega
            · rw [(F_n F765 (show ¬ (115 = 77 ∧ 7 ≤ i ∧ i ≤ 10) by omega) (W_n W751 (by omega) (W_n W744 (by omega) (W_n W739 (by omega) rfl))))]; exact q2.2.1 i (by omega)) (by rw [(F_n F765 (show ¬ (77 = 77 ∧ 7 ≤ 59 ∧ 59 ≤ 10) by decide) (W_n W751 (by omega) (W_n W744 (by omega) (W_n W739 (by omega) rfl))))]; exact KN_f (fun a i z => (F_n F765 (show ¬ (a = 77 ∧ 7 ≤ i ∧ i ≤ 10) by omega) (W_n W751 (by omega) (W_n W744 (by omega) (W_n W739 (by omega) rfl))))) q2.2.2)
        exact h (1 : Int32) M771 hG766 F772 (by decide) (by decide) (by omega) (by omega) (by omega) (by omega) (fun _ => j_792) (fun _ => by rw [show ((M771.2.1 77 65).toInt).toNat = ((M.2.1 77 65).toInt).toNat + 1 by omega]; omega) (fun _ => p_770.1) (fun _ => (q_lp (by omega) (by omega) (by omega) (by omega)).trans (q_w (by omega) (by omega) (by omega) (by omega))) (fun z => absurd z (by decide))
      · refine to_an (pc := 18) rw_225_18 rfl (to_c (pc := 19) rw_225_19 (x := (2 : Int32)) rfl rfl (s_v (pc := 20) rw_225_20 (dp0 hd (by decide)) (ls0 := [.ref 77, .int (2 : Int32)]) rfl (Nat.le_of_ble_eq_true rfl) (Nat.le_of_ble_eq_true rfl) rfl (to_rc rfl rfl rfl (g_o hG rfl)) rfl (to_an (pc := 0) rw_152_0 rfl (to_in (pc := 1) rw_152_1 rfl (s_pI (pc := 2) rw_152_2 hG rfl (fun M798 W797 => ?_))))))
        have hG799 := g_wf hG W797 rfl rfl (by decide)
        have F800 := FR.w F0 W797 (show 77 = 77 ∧ (4 = 4 ∨ 4 = 5 ∨ 7 ≤ 4 ∧ 4 ≤ 10) ∨ 77 = 77 ∧ (4 = 59 ∨ 65 ≤ 4 ∧ 4 ≤ 69) ∨ 112 ≤ 77 ∧ 77 ≤ 114 ∧ 40 ≤ 4 ∨ 77 = 115 ∨ 77 = 116 by decide)
        refine to_an (pc := 5) rw_152_5 rfl (to_an (pc := 6) rw_152_6 rfl ?_)
        have c_801 : M798.2.1 77 10 = (M.2.1 77 10) := (W_n W797 (by decide) rfl)
        refine tt_gI (pc := 7) rw_152_7 (g_o hG799 rfl) (v := (M.2.1 77 10)) c_801 (s_pI (pc := 10) rw_152_10 hG799 rfl (fun M803 W802 => ?_))
        have hG804 := g_wf hG799 W802 rfl rfl (by decide)
        have F805 := FR.w F800 W802 (show 77 = 77 ∧ (5 = 4 ∨ 5 = 5 ∨ 7 ≤ 5 ∧ 5 ≤ 10) ∨ 77 = 77 ∧ (5 = 59 ∨ 65 ≤ 5 ∧ 5 ≤ 69) ∨ 112 ≤ 77 ∧ 77 ≤ 114 ∧ 40 ≤ 5 ∨ 77 = 115 ∨ 77 = 116 by decide)
        refine to_c (pc := 13) rw_152_13 (x := (0 : Int32)) rfl rfl (s_r1 (pc := 14) rw_152_14 (A := 0) rfl (by decide) (s_r1 (pc := 23) rw_225_23 (A := 0) rfl (by decide) ?_))
        have k_806 : (0 : Int32).toInt = 0 := rfl
        have c_807 : M803.2.1 77 7 = (M.2.1 77 7) := (W_n W802 (by decide) (W_n W797 (by decide) rfl))
        have t_808 : (M803.2.1 77 7).toInt = (M.2.1 77 7).toInt := congrArg Int32.toInt c_807
        have c_809 : M803.2.1 77 6 = (M.2.1 77 6) := (W_n W802 (by decide) (W_n W797 (by decide) rfl))
        have t_810 : (M803.2.1 77 6).toInt = (M.2.1 77 6).toInt := congrArg Int32.toInt c_809
        have c_811 : M803.2.1 77 8 = (M.2.1 77 8) := (W_n W802 (by decide) (W_n W797 (by decide) rfl))
        have t_812 : (M803.2.1 77 8).toInt = (M.2.1 77 8).toInt := congrArg Int32.toInt c_811
        have c_813 : M803.2.1 77 4 = (2 : Int32) := (W_n W802 (by decide) (W_e W797))
        have k_814 : (2 : Int32).toInt = 2 := rfl
        have t_815 : (M803.2.1 77 4).toInt = (2 : Int32).toInt := congrArg Int32.toInt c_813
        have c_816 : M803.2.1 77 5 = (M.2.1 77 10) := (W_e W802)
        have t_817 : (M803.2.1 77 5).toInt = (M.2.1 77 10).toInt := congrArg Int32.toInt c_816
        have c_818 : M803.2.1 77 67 = (M.2.1 77 67) := (W_n W802 (by decide) (W_n W797 (by decide) rfl))
        have t_819 : (M803.2.1 77 67).toInt = (M.2.1 77 67).toInt := congrArg Int32.toInt c_818
        have c_820 : M803.2.1 77 69 = (M.2.1 77 69) := (W_n W802 (by decide) (W_n W797 (by decide) rfl))
        have t_821 : (M803.2.1 77 69).toInt = (M.2.1 77 69).toInt := congrArg Int32.toInt c_820
        exact h (0 : Int32) M803 hG804 F805 (by decide) (by decide) (by omega) (by omega) (by omega) (by omega) (fun z => absurd z (by omega)) (fun z => absurd z (by decide)) (fun z => absurd z (by decide)) (fun z => absurd z (by decide)) (fun _ => inl_e (by omega) (by omega) (q_lpx (by omega) (by omega) (by omega) (by omega)))
