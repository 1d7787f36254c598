theorem tg_462 {M M1 : mm_M} (F : FR (fun a i : Nat => a = 77 ∧ (i = 59 ∨ i = 66) ∨ 112 ≤ a ∧ a ≤ 114 ∧ 40 ≤ i ∨ a = 116) M M1) : ∀ a i : Nat, (a = 77 ∧ 6 ≤ i ∧ i ≤ 10) → M1.2.1 a i = M.2.1 a i := fun a i z => F_n F (show ¬ (a = 77 ∧ (i = 59 ∨ i = 66) ∨ 112 ≤ a ∧ a ≤ 114 ∧ 40 ≤ i ∨ a = 116) by omega) rfl
theorem tg_463 {M M1 : mm_M} (F : FR (fun a i : Nat => a = 77 ∧ (i = 59 ∨ i = 66) ∨ 112 ≤ a ∧ a ≤ 114 ∧ 40 ≤ i ∨ a = 116) M M1) : ∀ a i : Nat, a = 78 → M1.2.1 a i = M.2.1 a i := fun a i z => F_n F (show ¬ (a = 77 ∧ (i = 59 ∨ i = 66) ∨ 112 ≤ a ∧ a ≤ 114 ∧ 40 ≤ i ∨ a = 116) by omega) rfl
theorem tg_464 {M M1 : mm_M} (F : FR (fun a i : Nat => a = 77 ∧ (i = 59 ∨ i = 66) ∨ 112 ≤ a ∧ a ≤ 114 ∧ 40 ≤ i ∨ a = 116) M M1) : ∀ a i : Nat, a = 79 → M1.2.1 a i = M.2.1 a i := fun a i z => F_n F (show ¬ (a = 77 ∧ (i = 59 ∨ i = 66) ∨ 112 ≤ a ∧ a ≤ 114 ∧ 40 ≤ i ∨ a = 116) by omega) rfl
theorem tg_465 : ∀ a i : Nat, (a = 77 ∧ 11 ≤ i ∧ i ≤ 13 ∨ 80 ≤ a ∧ a ≤ 84 ∧ i < 8 ∨ 85 ≤ a ∧ a ≤ 86 ∧ i < 12) → ¬ (a = 77 ∧ i = 68) := fun a i z => by omega
set_option maxRecDepth 4000 in
set_option maxHeartbeats 0 in
theorem U_225_0 {X : mm_X} {d : Nat} {M : mm_M} {Q : Option Value → mm_M → Prop} {t : Nat → Int} {nn : Int} {a : Int} {sg : x_S} (hX : g_X X) (hd : 2 ≤ d) (q1 : (M.2.1 77 7).toInt ≤ (M.2.1 77 6).toInt) (q2 : QK M) (q3 : FA M) (q4 : (M.2.1 77 68).toInt = 0) (q5 : RS M t nn) (q6 : (M.2.1 77 10).toInt = a) (q7 : 0 ≤ nn) (q8 : nn ≤ 500) (q9 : TR M t nn) (q10 : W9 M) (q11 : PLk M sg) (q12 : (M.2.1 77 59).toInt + Wo M ((M.2.1 77 65).toInt).toNat = (M.2.1 77 69).toInt) (h : ∀ (r : Int32) (M1 : mm_M), g_G M1 → FR md_qr M M1 → (0 ≤ r.toInt) → (r.toInt ≤ 1) → ((M1.2.1 77 7).toInt ≤ (M1.2.1 77 6).toInt) → ((M.2.1 77 7).toInt ≤ (M1.2.1 77 7).toInt) → ((r.toInt = 1 → (M1.2.1 77 8).toInt = 0 ∨ (M.2.1 77 7).toInt < (M1.2.1 77 7).toInt)) → (r.toInt = 1 → ¬ (M.2.1 77 8).toInt = 0) → ((r.toInt = 1 → QK M1)) → ((r.toInt = 1 → (M1.2.1 77 59).toInt + Wo M1 ((M1.2.1 77 65).toInt).toNat = (M1.2.1 77 69).toInt)) → ((r.toInt = 1 → RS M1 t nn)) → ((r.toInt = 1 → x_qq t nn sg 0 (M.2.1 77 67).toInt (M.2.1 77 69).toInt a = x_qq t nn sg (M1.2.1 77 68).toInt (M1.2.1 77 67).toInt (M1.2.1 77 69).toInt (M1.2.1 77 10).toInt)) → ((r.toInt = 0 → x_qq t nn sg 0 (M.2.1 77 67).toInt (M.2.1 77 69).toInt a = Sum.inl ((M1.2.1 77 4).toInt, (M1.2.1 77 5).toInt))) → Q (some (.int r)) M1) : ∀ nn9 : Nat, (∀ (N : mm_M) (u1 : Value) (u2 : Value) (u3 : Value) (u4 : Value) (u5 : Value), g_G N → FR md_qr M N → ((N.2.1 77 59).toInt + Wo N ((N.2.1 77 65).toInt).toNat + 1 = (N.2.1 77 69).toInt) → (QK N) → ((N.2.1 77 7).toInt ≤ (N.2.1 77 6).toInt) → ((N.2.1 77 7).toInt = (M.2.1 77 7).toInt) → (FA N) → ((N.2.1 77 68).toInt = 0) → (RS N t nn) → ((N.2.1 77 10).toInt = a) → (TR N t nn) → (W9 N) → (PLk N sg) → ((N.2.1 77 69).toInt = (M.2.1 77 69).toInt + 1) → ((N.2.1 77 67).toInt = (M.2.1 77 67).toInt) → (¬ (M.2.1 77 69).toInt = 40) → ((N.2.1 77 8).toInt = 2) → ((M.2.1 77 8).toInt = 2) → (x_kind t nn a = 2) → (x_val t nn a = (N.2.1 77 9).toInt) → 0 < (nn9 : Int) → mm_T X d 224 127 [.ref 77, u1, u2, u3, u4, u5] [] N Q) := by
  intro nn9
  induction nn9 with
  | zero =>
    intro N u1 u2 u3 u4 u5 hG F0 g1 g2 g3 g4 g5 g6 g7 g8 g9 g10 g11 g12 g13 g14 g15 g16 g17 g18 hm
    have b_1 := g_b hG (a := 77) (i := 7) (lo := 0) (hi := 500) rfl rfl
    have b_2 := g_b hG (a := 77) (i := 6) (lo := 0) (hi := 500) rfl rfl
    have b_3 := g_b hG (a := 77) (i := 68) (lo := 0) (hi := 1) rfl rfl
    have b_4 := g_b hG (a := 77) (i := 10) (lo := 0) (hi := 500) rfl rfl
    have b_5 := g_b hG (a := 77) (i := 69) (lo := 0) (hi := 40) rfl rfl
    have b_6 := g_b hG (a := 77) (i := 67) (lo := 0) (hi := 8) rfl rfl
    have b_7 := g_b hG (a := 77) (i := 8) (lo := 0) (hi := 5) rfl rfl
    exfalso; omega
  | succ nn9 ih =>
    intro N u1 u2 u3 u4 u5 hG F0 g1 g2 g3 g4 g5 g6 g7 g8 g9 g10 g11 g12 g13 g14 g15 g16 g17 g18 hm
    have b_8 := g_b hG (a := 77) (i := 7) (lo := 0) (hi := 500) rfl rfl
    have b_9 := g_b hG (a := 77) (i := 6) (lo := 0) (hi := 500) rfl rfl
    have b_10 := g_b hG (a := 77) (i := 68) (lo := 0) (hi := 1) rfl rfl
    have b_11 := g_b hG (a := 77) (i := 10) (lo := 0) (hi := 500) rfl rfl
    have b_12 := g_b hG (a := 77) (i := 69) (lo := 0) (hi := 40) rfl rfl
    have b_13 := g_b hG (a := 77) (i := 67) (lo := 0) (hi := 8) rfl rfl
    have b_14 := g_b hG (a := 77) (i := 8) (lo := 0) (hi := 5) rfl rfl
    have b_15 := g_b hG (a := 77) (i := 59) (lo := 0) (hi := 40) rfl rfl
    have b_16 := g_b hG (a := 77) (i := 65) (lo := 0) (hi := 48) rfl rfl
    have b_17 := g_b hG (a := 77) (i := 66) (lo := 0) (hi := 40) rfl rfl
    have s_18 := QK_e g2
    have s_19 := Wx_b N ((N.2.1 77 65).toInt).toNat
    have z_20 := x_fn_b (s := sg) (v := x_val t nn a) g11.1
    have z_21 := g11.2.1
    have z_22 := g11.2.2.1
    have z_23 := g11.2.2.2.1
    have z_24 := g11.1
    have z_25 := z_24.1
    have z_26 := z_24.2.1
    have z_27 := z_24.2.2.1
    have z_28 := z_24.2.2.2.1
    have z_29 := z_24.2.2.2.2.1
    have z_30 := z_24.2.2.2.2.2.1
    have b_31 := g_b hG (a := 77) (i := 11) (lo := 10) (hi := 60) rfl rfl
    have b_32 := g_b hG (a := 77) (i := 12) (lo := 0) (hi := 8) rfl rfl
    have b_33 := g_b hG (a := 77) (i := 13) (lo := 0) (hi := 12) rfl rfl
    have z_34 := RS_b g7 (a := a) (by omega)
    refine to_an (pc := 127) rw_225_127 rfl (tt_gI (pc := 128) rw_225_128 (g_o hG rfl) (v := (N.2.1 77 9)) rfl (to_isn (pc := 131) rw_225_131 (ls2 := [.ref 77, .int (N.2.1 77 9), u2, u3, u4, u5]) rfl rfl (to_an (pc := 132) rw_225_132 rfl (tt_gI (pc := 133) rw_225_133 (g_o hG rfl) (v := (N.2.1 77 10)) rfl (to_isn (pc := 136) rw_225_136 (ls2 := [.ref 77, .int (N.2.1 77 9), .int (N.2.1 77 10), u3, u4, u5]) rfl rfl (to_an (pc := 137) rw_225_137 rfl (s_v (pc := 138) rw_225_138 (dp0 hd (by decide)) (ls0 := [.ref 77]) rfl (Nat.le_of_ble_eq_true rfl) (Nat.le_of_ble_eq_true rfl) rfl (to_rc rfl rfl rfl (g_o hG rfl)) rfl ?_)))))))
    have z_35 := RS_b g7 (a := a) (by omega)
    refine E_156 hX (dp1 hd (by decide)) hG (by omega) (by omega) (by omega) (by omega) g9 g10  (fun M42 hG37 F36 p_38 p_39 p_40 p_41 => ?_)
    have F43 := FR.c F0 F36 tg_389
    have b_44 := g_b hG37 (a := 77) (i := 7) (lo := 0) (hi := 500) rfl rfl
    have c_45 : M42.2.1 77 6 = (N.2.1 77 6) := (F_n F36 (show ¬ (77 = 77 ∧ 7 ≤ 6 ∧ 6 ≤ 10) by decide) rfl)
    have t_46 : (M42.2.1 77 6).toInt = (N.2.1 77 6).toInt := congrArg Int32.toInt c_45
    have b_47 := g_b hG37 (a := 77) (i := 8) (lo := 0) (hi := 5) rfl rfl
    have b_48 := g_b hG37 (a := 77) (i := 10) (lo := 0) (hi := 500) rfl rfl
    have z_49 := RS_s p_41.2 (a := a) (by omega)
    have z_50 := RS_k p_41.1 (a := (x_ns t nn a)) (by omega)
    refine to_an (pc := 141) rw_225_141 rfl (to_c (pc := 142) rw_225_142 (x := (61 : Int32)) rfl rfl (s_v (pc := 144) rw_225_144 (dp0 hd (by decide)) (ls0 := [.ref 77, .int (61 : Int32)]) rfl (Nat.le_of_ble_eq_true rfl) (Nat.le_of_ble_eq_true rfl) rfl (to_rc rfl rfl rfl (g_o hG37 rfl)) rfl (to_an (pc := 0) rw_159_0 rfl (tt_gI (pc := 1) rw_159_1 (g_o hG37 rfl) (v := (M42.2.1 77 8)) rfl (to_c (pc := 4) rw_159_4 (x := (4 : Int32)) rfl rfl (b_cne (pc := 5) rw_159_5 (A := (M42.2.1 77 8).toInt) (B := 4) rfl rfl (fun h51 => ?_) (fun h51 => ?_)))))))
    · refine to_c (pc := 20) rw_159_20 (x := (0 : Int32)) rfl rfl (s_r1 (pc := 21) rw_159_21 (A := 0) rfl (by decide) (to_isn (pc := 147) rw_225_147 (ls2 := [.ref 77, .int (N.2.1 77 9), .int (N.2.1 77 10), .int (0 : Int32), u4, u5]) rfl rfl ?_))
      have z_52 : ¬ (x_kind t nn (x_ns t nn a) = 4 ∧ x_val t nn (x_ns t nn a) = 61) := by omega
      refine to_an (pc := 148) rw_225_148 rfl (to_in (pc := 149) rw_225_149 rfl (s_v (pc := 150) rw_225_150 (dp0 hd (by decide)) (ls0 := [.ref 77, .int (N.2.1 77 9), .null]) rfl (Nat.le_of_ble_eq_true rfl) (Nat.le_of_ble_eq_true rfl) rfl (to_rc rfl rfl rfl (g_o hG37 rfl)) rfl ?_))
      have j_53 := (PLk_f (tg_156 F36) g11)
      refine E_175 hX (dp1 hd (by decide)) hG37 j_53 (n := (N.2.1 77 9)) (sg := sg) (fun r54 M60 hG56 F55 p_57 p_58 p_59 => ?_)
      have F61 := FR.c F43 F55 tg_390
      have z_62 := x_fn_v (s := sg) (r := 1) (v := (N.2.1 77 9).toInt) (w := x_val t nn a) (by omega)
      refine to_is (pc := 153) rw_225_153 (ls2 := [.ref 77, .int (N.2.1 77 9), .int (N.2.1 77 10), .int (0 : Int32), .int r54, u5]) rfl rfl (to_an (pc := 155) rw_225_155 rfl (to_in (pc := 156) rw_225_156 rfl (s_v (pc := 157) rw_225_157 (dp0 hd (by decide)) (ls0 := [.ref 77, .int (N.2.1 77 9), .null]) rfl (Nat.le_of_ble_eq_true rfl) (Nat.le_of_ble_eq_true rfl) rfl (to_rc rfl rfl rfl (g_o hG56 rfl)) rfl ?_)))
      have j_63 := (PLk_f (tg_101 F55) j_53)
      refine E_176 hX (dp1 hd (by decide)) hG56 j_63 (n := (N.2.1 77 9)) (sg := sg) (fun r64 M70 hG66 F65 p_67 p_68 p_69 => ?_)
      have F71 := FR.c F61 F65 tg_390
      have z_72 := x_fn_v (s := sg) (r := 6) (v := (N.2.1 77 9).toInt) (w := x_val t nn a) (by omega)
      refine to_is (pc := 160) rw_225_160 (ls2 := [.ref 77, .int (N.2.1 77 9), .int (N.2.1 77 10), .int (0 : Int32), .int r54, .int r64]) rfl rfl (to_in (pc := 162) rw_225_162 rfl (b_ieq_t (pc := 163) rw_225_163 (A := 0) rfl (by decide) (to_i (pc := 178) rw_225_178 rfl (b_ige (pc := 180) rw_225_180 (A := r64.toInt) rfl (fun h73 => ?_) (fun h73 => ?_)))))
      · refine to_an (pc := 194) rw_225_194 rfl (to_c (pc := 195) rw_225_195 (x := (1 : Int32)) rfl rfl (s_pI (pc := 196) rw_225_196 hG66 rfl (fun M75 W74 => ?_)))
        have hG76 := g_w hG66 W74 (A := 1) rfl (lo := 0) (hi := 1) rfl rfl (by omega) (by decide)
        have F77 := FR.w F71 W74 (show 77 = 77 ∧ (68 = 4 ∨ 68 = 5 ∨ 7 ≤ 68 ∧ 68 ≤ 10) ∨ 77 = 77 ∧ (68 = 59 ∨ 65 ≤ 68 ∧ 68 ≤ 69) ∨ 112 ≤ 77 ∧ 77 ≤ 114 ∧ 40 ≤ 68 ∨ 77 = 115 ∨ 77 = 116 by decide)
        refine to_in (pc := 199) rw_225_199 rfl (b_ine_f (pc := 200) rw_225_200 (A := 0) rfl (by decide) (to_an (pc := 203) rw_225_203 rfl (to_c (pc := 204) rw_225_204 (x := (1 : Int32)) rfl rfl (to_i (pc := 205) rw_225_205 rfl (to_c (pc := 207) rw_225_207 (x := (0 : Int32)) rfl rfl (s_v (pc := 208) rw_225_208 (dp0 hd (by decide)) (ls0 := [.ref 77, .int (1 : Int32), .int r64, .int (0 : Int32)]) rfl (Nat.le_of_ble_eq_true rfl) (Nat.le_of_ble_eq_true rfl) rfl (to_rc rfl rfl rfl (g_o hG76 rfl)) rfl ?_))))))
        have k_78 : (1 : Int32).toInt = 1 := rfl
        have k_79 : (0 : Int32).toInt = 0 := rfl
        have c_80 : M75.2.1 77 59 = (N.2.1 77 59) := (W_n W74 (by decide) (F_n F65 (show ¬ (77 < 0) by decide) (F_n F55 (show ¬ (77 < 0) by decide) (F_n F36 (show ¬ (77 = 77 ∧ 7 ≤ 59 ∧ 59 ≤ 10) by decide) rfl))))
        have t_81 : (M75.2.1 77 59).toInt = (N.2.1 77 59).toInt := congrArg Int32.toInt c_80
        have c_82 : M75.2.1 77 66 = (N.2.1 77 66) := (W_n W74 (by decide) (F_n F65 (show ¬ (77 < 0) by decide) (F_n F55 (show ¬ (77 < 0) by decide) (F_n F36 (show ¬ (77 = 77 ∧ 7 ≤ 66 ∧ 66 ≤ 10) by decide) rfl))))
        have t_83 : (M75.2.1 77 66).toInt = (N.2.1 77 66).toInt := congrArg Int32.toInt c_82
        refine C_221 hX (dp1 hd (by decide)) hG76 (by omega) (by omega) (by omega) (by omega) (by omega) (by omega) (by rw [(W_n W74 (by omega) (F_n F65 (show ¬ (77 < 0) by decide) (F_n F55 (show ¬ (77 < 0) by decide) (F_n F36 (show ¬ (77 = 77 ∧ 7 ≤ 59 ∧ 59 ≤ 10) by decide) rfl))))]; exact KN_f (fun a i z => (W_n W74 (by /-r77,68-/ omega) (F_n F65 (show ¬ (a < 0) by omega) (F_n F55 (show ¬ (a < 0) by omega) (F_n F36 (show ¬ (a = 77 ∧ 7 ≤ i ∧ i ≤ 10) by omega) rfl))))) g2.2.2) (by omega) (by omega) (by omega) (by omega) (k := (1 : Int32)) (p := r64) (o := (0 : Int32)) (fun M89 hG85 F84 p_86 p_87 p_88 => ?_)
        have F90 := FR.c F77 F84 tg_391
        have b_91 := g_b hG85 (a := 77) (i := 59) (lo := 0) (hi := 40) rfl rfl
        have b_92 := g_b hG85 (a := 77) (i := 66) (lo := 0) (hi := 40) rfl rfl
        refine to_c (pc := 211) rw_225_211 (x := (1 : Int32)) rfl rfl (s_r1 (pc := 212) rw_225_212 (A := 1) rfl (by decide) ?_)
        have c_93 : M89.2.1 77 7 = (M42.2.1 77 7) := (F_n F84 (show ¬ (77 = 77 ∧ (7 = 59 ∨ 7 = 66) ∨ 112 ≤ 77 ∧ 77 ≤ 114 ∧ 40 ≤ 7 ∨ 77 = 116) by decide) (W_n W74 (by decide) (F_n F65 (show ¬ (77 < 0) by decide) (F_n F55 (show ¬ (77 < 0) by decide) rfl))))
        have t_94 : (M89.2.1 77 7).toInt = (M42.2.1 77 7).toInt := congrArg Int32.toInt c_93
        have c_95 : M89.2.1 77 6 = (N.2.1 77 6) := (F_n F84 (show ¬ (77 = 77 ∧ (6 = 59 ∨ 6 = 66) ∨ 112 ≤ 77 ∧ 77 ≤ 114 ∧ 40 ≤ 6 ∨ 77 = 116) by decide) (W_n W74 (by decide) (F_n F65 (show ¬ (77 < 0) by decide) (F_n F55 (show ¬ (77 < 0) by decide) c_45))))
        have t_96 : (M89.2.1 77 6).toInt = (N.2.1 77 6).toInt := congrArg Int32.toInt c_95
        have c_97 : M89.2.1 77 8 = (M42.2.1 77 8) := (F_n F84 (show ¬ (77 = 77 ∧ (8 = 59 ∨ 8 = 66) ∨ 112 ≤ 77 ∧ 77 ≤ 114 ∧ 40 ≤ 8 ∨ 77 = 116) by decide) (W_n W74 (by decide) (F_n F65 (show ¬ (77 < 0) by decide) (F_n F55 (show ¬ (77 < 0) by decide) rfl))))
        have t_98 : (M89.2.1 77 8).toInt = (M42.2.1 77 8).toInt := congrArg Int32.toInt c_97
        have c_99 : M89.2.1 77 65 = (N.2.1 77 65) := (F_n F84 (show ¬ (77 = 77 ∧ (65 = 59 ∨ 65 = 66) ∨ 112 ≤ 77 ∧ 77 ≤ 114 ∧ 40 ≤ 65 ∨ 77 = 116) by decide) (W_n W74 (by decide) (F_n F65 (show ¬ (77 < 0) by decide) (F_n F55 (show ¬ (77 < 0) by decide) (F_n F36 (show ¬ (77 = 77 ∧ 7 ≤ 65 ∧ 65 ≤ 10) by decide) rfl)))))
        have t_100 : (M89.2.1 77 65).toInt = (N.2.1 77 65).toInt := congrArg Int32.toInt c_99
        have c_101 : M89.2.1 77 67 = (N.2.1 77 67) := (F_n F84 (show ¬ (77 = 77 ∧ (67 = 59 ∨ 67 = 66) ∨ 112 ≤ 77 ∧ 77 ≤ 114 ∧ 40 ≤ 67 ∨ 77 = 116) by decide) (W_n W74 (by decide) (F_n F65 (show ¬ (77 < 0) by decide) (F_n F55 (show ¬ (77 < 0) by decide) (F_n F36 (show ¬ (77 = 77 ∧ 7 ≤ 67 ∧ 67 ≤ 10) by decide) rfl)))))
        have t_102 : (M89.2.1 77 67).toInt = (N.2.1 77 67).toInt := congrArg Int32.toInt c_101
        have c_103 : M89.2.1 77 68 = (1 : Int32) := (F_n F84 (show ¬ (77 = 77 ∧ (68 = 59 ∨ 68 = 66) ∨ 112 ≤ 77 ∧ 77 ≤ 114 ∧ 40 ≤ 68 ∨ 77 = 116) by decide) (W_e W74))
        have t_104 : (M89.2.1 77 68).toInt = (1 : Int32).toInt := congrArg Int32.toInt c_103
        have c_105 : M89.2.1 77 69 = (N.2.1 77 69) := (F_n F84 (show ¬ (77 = 77 ∧ (69 = 59 ∨ 69 = 66) ∨ 112 ≤ 77 ∧ 77 ≤ 114 ∧ 40 ≤ 69 ∨ 77 = 116) by decide) (W_n W74 (by decide) (F_n F65 (show ¬ (77 < 0) by decide) (F_n F55 (show ¬ (77 < 0) by decide) (F_n F36 (show ¬ (77 = 77 ∧ 7 ≤ 69 ∧ 69 ≤ 10) by decide) rfl)))))
        have t_106 : (M89.2.1 77 69).toInt = (N.2.1 77 69).toInt := congrArg Int32.toInt c_105
        have s_108 := Wx_f (M := N) (M1 := M89) ((N.2.1 77 65).toInt).toNat (fun i z => (F_n F84 (show ¬ (115 = 77 ∧ (i = 59 ∨ i = 66) ∨ 112 ≤ 115 ∧ 115 ≤ 114 ∧ 40 ≤ i ∨ 115 = 116) by omega) (W_n W74 (by omega) (F_n F65 (show ¬ (115 < 0) by decide) (F_n F55 (show ¬ (115 < 0) by decide) (F_n F36 (show ¬ (115 = 77 ∧ 7 ≤ i ∧ i ≤ 10) by omega) rfl))))))
        have j_107 : QK M89 := QK_i (by unfold QK_c; rw [show ((M89.2.1 77 65).toInt).toNat = ((N.2.1 77 65).toInt).toNat by omega]; refine ⟨by omega, by omega, by omega, by omega⟩) (fun i z => by rw [(F_n F84 (show ¬ (115 = 77 ∧ (i = 59 ∨ i = 66) ∨ 112 ≤ 115 ∧ 115 ≤ 114 ∧ 40 ≤ i ∨ 115 = 116) by omega) (W_n W74 (by omega) (F_n F65 (show ¬ (115 < 0) by decide) (F_n F55 (show ¬ (115 < 0) by decide) (F_n F36 (show ¬ (115 = 77 ∧ 7 ≤ i ∧ i ≤ 10) by omega) rfl)))))]; exact g2.2.1 i (by omega)) p_88
        have j_109 := (RS_f (tg_462 F84) (RS_f (fun a i z => W_n W74 (tg_453 a i z) rfl) (RS_f (tg_45 F65) (RS_f (tg_45 F55) p_41.1))))
        have c_110 : M89.2.1 77 10 = (M42.2.1 77 10) := (F_n F84 (show ¬ (77 = 77 ∧ (10 = 59 ∨ 10 = 66) ∨ 112 ≤ 77 ∧ 77 ≤ 114 ∧ 40 ≤ 10 ∨ 77 = 116) by decide) (W_n W74 (by decide) (F_n F65 (show ¬ (77 < 0) by decide) (F_n F55 (show ¬ (77 < 0) by decide) rfl))))
        have t_111 : (M89.2.1 77 10).toInt = (M42.2.1 77 10).toInt := congrArg Int32.toInt c_110
        exact h (1 : Int32) M89 hG85 F90 (by decide) (by decide) (by omega) (by omega) (fun _ => Or.imp (fun z => by omega) (fun z => by omega) p_40) (by omega) (fun _ => j_107) (fun _ => by rw [show ((M89.2.1 77 65).toInt).toNat = ((N.2.1 77 65).toInt).toNat by omega]; omega) (fun _ => j_109) (fun _ => ((q_nm (by omega) (by omega) g17 g14).trans (qn_w z_52 (by omega))).trans (q_w (by omega) (by omega) (by omega) (by omega))) (fun z => absurd z (by decide))
      · refine to_an (pc := 183) rw_225_183 rfl (to_in (pc := 184) rw_225_184 rfl (s_pI (pc := 185) rw_225_185 hG66 rfl (fun M113 W112 => ?_)))
        have hG114 := g_w hG66 W112 (A := (N.2.1 77 10).toInt) rfl (lo := 0) (hi := 500) rfl rfl (by omega) (by decide)
        have F115 := FR.w F71 W112 (show 77 = 77 ∧ (10 = 4 ∨ 10 = 5 ∨ 7 ≤ 10 ∧ 10 ≤ 10) ∨ 77 = 77 ∧ (10 = 59 ∨ 65 ≤ 10 ∧ 10 ≤ 69) ∨ 112 ≤ 77 ∧ 77 ≤ 114 ∧ 40 ≤ 10 ∨ 77 = 115 ∨ 77 = 116 by decide)
        refine to_an (pc := 188) rw_225_188 rfl (to_c (pc := 189) rw_225_189 (x := (4 : Int32)) rfl rfl (s_v (pc := 190) rw_225_190 (dp0 hd (by decide)) (ls0 := [.ref 77, .int (4 : Int32)]) rfl (Nat.le_of_ble_eq_true rfl) (Nat.le_of_ble_eq_true rfl) rfl (to_rc rfl rfl rfl (g_o hG114 rfl)) rfl (to_an (pc := 0) rw_152_0 rfl (to_in (pc := 1) rw_152_1 rfl (s_pI (pc := 2) rw_152_2 hG114 rfl (fun M117 W116 => ?_))))))
        have hG118 := g_wf hG114 W116 rfl rfl (by decide)
        have F119 := FR.w F115 W116 (show 77 = 77 ∧ (4 = 4 ∨ 4 = 5 ∨ 7 ≤ 4 ∧ 4 ≤ 10) ∨ 77 = 77 ∧ (4 = 59 ∨ 65 ≤ 4 ∧ 4 ≤ 69) ∨ 112 ≤ 77 ∧ 77 ≤ 114 ∧ 40 ≤ 4 ∨ 77 = 115 ∨ 77 = 116 by decide)
        refine to_an (pc := 5) rw_152_5 rfl (to_an (pc := 6) rw_152_6 rfl ?_)
        have c_120 : M117.2.1 77 10 = (N.2.1 77 10) := (W_n W116 (by decide) (W_e W112))
        refine tt_gI (pc := 7) rw_152_7 (g_o hG118 rfl) (v := (N.2.1 77 10)) c_120 (s_pI (pc := 10) rw_152_10 hG118 rfl (fun M122 W121 => ?_))
        have hG123 := g_wf hG118 W121 rfl rfl (by decide)
        have F124 := FR.w F119 W121 (show 77 = 77 ∧ (5 = 4 ∨ 5 = 5 ∨ 7 ≤ 5 ∧ 5 ≤ 10) ∨ 77 = 77 ∧ (5 = 59 ∨ 65 ≤ 5 ∧ 5 ≤ 69) ∨ 112 ≤ 77 ∧ 77 ≤ 114 ∧ 40 ≤ 5 ∨ 77 = 115 ∨ 77 = 116 by decide)
        refine to_c (pc := 13) rw_152_13 (x := (0 : Int32)) rfl rfl (s_r1 (pc := 14) rw_152_14 (A := 0) rfl (by decide) (s_r1 (pc := 193) rw_225_193 (A := 0) rfl (by decide) ?_))
        have k_125 : (0 : Int32).toInt = 0 := rfl
        have c_126 : M122.2.1 77 7 = (M42.2.1 77 7) := (W_n W121 (by decide) (W_n W116 (by decide) (W_n W112 (by decide) (F_n F65 (show ¬ (77 < 0) by decide) (F_n F55 (show ¬ (77 < 0) by decide) rfl)))))
        have t_127 : (M122.2.1 77 7).toInt = (M42.2.1 77 7).toInt := congrArg Int32.toInt c_126
        have c_128 : M122.2.1 77 6 = (N.2.1 77 6) := (W_n W121 (by decide) (W_n W116 (by decide) (W_n W112 (by decide) (F_n F65 (show ¬ (77 < 0) by decide) (F_n F55 (show ¬ (77 < 0) by decide) c_45)))))
        have t_129 : (M122.2.1 77 6).toInt = (N.2.1 77 6).toInt := congrArg Int32.toInt c_128
        have c_130 : M122.2.1 77 4 = (4 : Int32) := (W_n W121 (by decide) (W_e W116))
        have k_131 : (4 : Int32).toInt = 4 := rfl
        have t_132 : (M122.2.1 77 4).toInt = (4 : Int32).toInt := congrArg Int32.toInt c_130
        have c_133 : M122.2.1 77 5 = (N.2.1 77 10) := (W_e W121)
        have t_134 : (M122.2.1 77 5).toInt = (N.2.1 77 10).toInt := congrArg Int32.toInt c_133
        have c_135 : M122.2.1 77 67 = (N.2.1 77 67) := (W_n W121 (by decide) (W_n W116 (by decide) (W_n W112 (by decide) (F_n F65 (show ¬ (77 < 0) by decide) (F_n F55 (show ¬ (77 < 0) by decide) (F_n F36 (show ¬ (77 = 77 ∧ 7 ≤ 67 ∧ 67 ≤ 10) by decide) rfl))))))
        have t_136 : (M122.2.1 77 67).toInt = (N.2.1 77 67).toInt := congrArg Int32.toInt c_135
        have c_137 : M122.2.1 77 69 = (N.2.1 77 69) := (W_n W121 (by decide) (W_n W116 (by decide) (W_n W112 (by decide) (F_n F65 (show ¬ (77 < 0) by decide) (F_n F55 (show ¬ (77 < 0) by decide) (F_n F36 (show ¬ (77 = 77 ∧ 7 ≤ 69 ∧ 69 ≤ 10) by decide) rfl))))))
        have t_138 : (M122.2.1 77 69).toInt = (N.2.1 77 69).toInt := congrArg Int32.toInt c_137
        exact h (0 : Int32) M122 hG123 F124 (by decide) (by decide) (by omega) (by omega) (fun z => absurd z (by decide)) (by omega) (fun z => absurd z (by omega)) (fun z => absurd z (by decide)) (fun z => absurd z (by decide)) (fun z => absurd z (by decide)) (fun _ => inl_e (by omega) (by omega) ((q_nm (by omega) (by omega) g17 g14).trans (qn_wx z_52 (by omega))))
    · refine to_an (pc := 8) rw_159_8 rfl (tt_gI (pc := 9) rw_159_9 (g_o hG37 rfl) (v := (M42.2.1 77 9)) rfl (to_in (pc := 12) rw_159_12 rfl (b_cne (pc := 13) rw_159_13 (A := (M42.2.1 77 9).toInt) (B := 61) rfl rfl (fun h139 => ?_) (fun h139 => ?_))))
      · refine to_c (pc := 20) rw_159_20 (x := (0 : Int32)) rfl rfl (s_r1 (pc := 21) rw_159_21 (A := 0) rfl (by decide) (to_isn (pc := 147) rw_225_147 (ls2 := [.ref 77, .int (N.2.1 77 9), .int (N.2.1 77 10), .int (0 : Int32), u4, u5]) rfl rfl ?_))
        have z_140 := RS_4 p_41.1 (a := (x_ns t nn a)) (by omega) (by omega)
        have z_141 : ¬ (x_kind t nn (x_ns t nn a) = 4 ∧ x_val t nn (x_ns t nn a) = 61) := by omega
        refine to_an (pc := 148) rw_225_148 rfl (to_in (pc := 149) rw_225_149 rfl (s_v (pc := 150) rw_225_150 (dp0 hd (by decide)) (ls0 := [.ref 77, .int (N.2.1 77 9), .null]) rfl (Nat.le_of_ble_eq_true rfl) (Nat.le_of_ble_eq_true rfl) rfl (to_rc rfl rfl rfl (g_o hG37 rfl)) rfl ?_))
        have j_142 := (PLk_f (tg_156 F36) g11)
        refine E_175 hX (dp1 hd (by decide)) hG37 j_142 (n := (N.2.1 77 9)) (sg := sg) (fun r143 M149 hG145 F144 p_146 p_147 p_148 => ?_)
        have F150 := FR.c F43 F144 tg_390
        have z_151 := x_fn_v (s := sg) (r := 1) (v := (N.2.1 77 9).toInt) (w := x_val t nn a) (by omega)
        refine to_is (pc := 153) rw_225_153 (ls2 := [.ref 77, .int (N.2.1 77 9), .int (N.2.1 77 10), .int (0 : Int32), .int r143, u5]) rfl rfl (to_an (pc := 155) rw_225_155 rfl (to_in (pc := 156) rw_225_156 rfl (s_v (pc := 157) rw_225_157 (dp0 hd (by decide)) (ls0 := [.ref 77, .int (N.2.1 77 9), .null]) rfl (Nat.le_of_ble_eq_true rfl) (Nat.le_of_ble_eq_true rfl) rfl (to_rc rfl rfl rfl (g_o hG145 rfl)) rfl ?_)))
        have j_152 := (PLk_f (tg_101 F144) j_142)
        refine E_176 hX (dp1 hd (by decide)) hG145 j_152 (n := (N.2.1 77 9)) (sg := sg) (fun r153 M159 hG155 F154 p_156 p_157 p_158 => ?_)
        have F160 := FR.c F150 F154 tg_390
        have z_161 := x_fn_v (s := sg) (r := 6) (v := (N.2.1 77 9).toInt) (w := x_val t nn a) (by omega)
        refine to_is (pc := 160) rw_225_160 (ls2 := [.ref 77, .int (N.2.1 77 9), .int (N.2.1 77 10), .int (0 : Int32), .int r143, .int r153]) rfl rfl (to_in (pc := 162) rw_225_162 rfl (b_ieq_t (pc := 163) rw_225_163 (A := 0) rfl (by decide) (to_i (pc := 178) rw_225_178 rfl (b_ige (pc := 180) rw_225_180 (A := r153.toInt) rfl (fun h162 => ?_) (fun h162 => ?_)))))
        · refine to_an (pc := 194) rw_225_194 rfl (to_c (pc := 195) rw_225_195 (x := (1 : Int32)) rfl rfl (s_pI (pc := 196) rw_225_196 hG155 rfl (fun M164 W163 => ?_)))
          have hG165 := g_w hG155 W163 (A := 1) rfl (lo := 0) (hi := 1) rfl rfl (by omega) (by decide)
          have F166 := FR.w F160 W163 (show 77 = 77 ∧ (68 = 4 ∨ 68 = 5 ∨ 7 ≤ 68 ∧ 68 ≤ 10) ∨ 77 = 77 ∧ (68 = 59 ∨ 65 ≤ 68 ∧ 68 ≤ 69) ∨ 112 ≤ 77 ∧ 77 ≤ 114 ∧ 40 ≤ 68 ∨ 77 = 115 ∨ 77 = 116 by decide)
          refine to_in (pc := 199) rw_225_199 rfl (b_ine_f (pc := 200) rw_225_200 (A := 0) rfl (by decide) (to_an (pc := 203) rw_225_203 rfl (to_c (pc := 204) rw_225_204 (x := (1 : Int32)) rfl rfl (to_i (pc := 205) rw_225_205 rfl (to_c (pc := 207) rw_225_207 (x := (0 : Int32)) rfl rfl (s_v (pc := 208) rw_225_208 (dp0 hd (by decide)) (ls0 := [.ref 77, .int (1 : Int32), .int r153, .int (0 : Int32)]) rfl (Nat.le_of_ble_eq_true rfl) (Nat.le_of_ble_eq_true rfl) rfl (to_rc rfl rfl rfl (g_o hG165 rfl)) rfl ?_))))))
          have k_167 : (1 : Int32).toInt = 1 := rfl
          have k_168 : (0 : Int32).toInt = 0 := rfl
          have c_169 : M164.2.1 77 59 = (N.2.1 77 59) := (W_n W163 (by decide) (F_n F154 (show ¬ (77 < 0) by decide) (F_n F144 (show ¬ (77 < 0) by decide) (F_n F36 (show ¬ (77 = 77 ∧ 7 ≤ 59 ∧ 59 ≤ 10) by decide) rfl))))
          have t_170 : (M164.2.1 77 59).toInt = (N.2.1 77 59).toInt := congrArg Int32.toInt c_169
          have c_171 : M164.2.1 77 66 = (N.2.1 77 66) := (W_n W163 (by decide) (F_n F154 (show ¬ (77 < 0) by decide) (F_n F144 (show ¬ (77 < 0) by decide) (F_n F36 (show ¬ (77 = 77 ∧ 7 ≤ 66 ∧ 66 ≤ 10) by decide) rfl))))
          have t_172 : (M164.2.1 77 66).toInt = (N.2.1 77 66).toInt := congrArg Int32.toInt c_171
          refine C_221 hX (dp1 hd (by decide)) hG165 (by omega) (by omega) (by omega) (by omega) (by omega) (by omega) (by rw [(W_n W163 (by omega) (F_n F154 (show ¬ (77 < 0) by decide) (F_n F144 (show ¬ (77 < 0) by decide) (F_n F36 (show ¬ (77 = 77 ∧ 7 ≤ 59 ∧ 59 ≤ 10) by decide) rfl))))]; exact KN_f (fun a i z => (W_n W163 (by /-r77,68-/ omega) (F_n F154 (show ¬ (a < 0) by omega) (F_n F144 (show ¬ (a < 0) by omega) (F_n F36 (show ¬ (a = 77 ∧ 7 ≤ i ∧ i ≤ 10) by omega) rfl))))) g2.2.2) (by omega) (by omega) (by omega) (by omega) (k := (1 : Int32)) (p := r153) (o := (0 : Int32)) (fun M178 hG174 F173 p_175 p_176 p_177 => ?_)
          have F179 := FR.c F166 F173 tg_391
          have b_180 := g_b hG174 (a := 77) (i := 59) (lo := 0) (hi := 40) rfl rfl
          have b_181 := g_b hG174 (a := 77) (i := 66) (lo := 0) (hi := 40) rfl rfl
          refine to_c (pc := 211) rw_225_211 (x := (1 : Int32)) rfl rfl (s_r1 (pc := 212) rw_225_212 (A := 1) rfl (by decide) ?_)
          have c_182 : M178.2.1 77 7 = (M42.2.1 77 7) := (F_n F173 (show ¬ (77 = 77 ∧ (7 = 59 ∨ 7 = 66) ∨ 112 ≤ 77 ∧ 77 ≤ 114 ∧ 40 ≤ 7 ∨ 77 = 116) by decide) (W_n W163 (by decide) (F_n F154 (show ¬ (77 < 0) by decide) (F_n F144 (show ¬ (77 < 0) by decide) rfl))))
          have t_183 : (M178.2.1 77 7).toInt = (M42.2.1 77 7).toInt := congrArg Int32.toInt c_182
          have c_184 : M178.2.1 77 6 = (N.2.1 77 6) := (F_n F173 (show ¬ (77 = 77 ∧ (6 = 59 ∨ 6 = 66) ∨ 112 ≤ 77 ∧ 77 ≤ 114 ∧ 40 ≤ 6 ∨ 77 = 116) by decide) (W_n W163 (by decide) (F_n F154 (show ¬ (77 < 0) by decide) (F_n F144 (show ¬ (77 < 0) by decide) c_45))))
          have t_185 : (M178.2.1 77 6).toInt = (N.2.1 77 6).toInt := congrArg Int32.toInt c_184
          have c_186 : M178.2.1 77 8 = (M42.2.1 77 8) := (F_n F173 (show ¬ (77 = 77 ∧ (8 = 59 ∨ 8 = 66) ∨ 112 ≤ 77 ∧ 77 ≤ 114 ∧ 40 ≤ 8 ∨ 77 = 116) by decide) (W_n W163 (by decide) (F_n F154 (show ¬ (77 < 0) by decide) (F_n F144 (show ¬ (77 < 0) by decide) rfl))))
          have t_187 : (M178.2.1 77 8).toInt = (M42.2.1 77 8).toInt := congrArg Int32.toInt c_186
          have c_188 : M178.2.1 77 65 = (N.2.1 77 65) := (F_n F173 (show ¬ (77 = 77 ∧ (65 = 59 ∨ 65 = 66) ∨ 112 ≤ 77 ∧ 77 ≤ 114 ∧ 40 ≤ 65 ∨ 77 = 116) by decide) (W_n W163 (by decide) (F_n F154 (show ¬ (77 < 0) by decide) (F_n F144 (show ¬ (77 < 0) by decide) (F_n F36 (show ¬ (77 = 77 ∧ 7 ≤ 65 ∧ 65 ≤ 10) by decide) rfl)))))
          have t_189 : (M178.2.1 77 65).toInt = (N.2.1 77 65).toInt := congrArg Int32.toInt c_188
          have c_190 : M178.2.1 77 67 = (N.2.1 77 67) := (F_n F173 (show ¬ (77 = 77 ∧ (67 = 59 ∨ 67 = 66) ∨ 112 ≤ 77 ∧ 77 ≤ 114 ∧ 40 ≤ 67 ∨ 77 = 116) by decide) (W_n W163 (by decide) (F_n F154 (show ¬ (77 < 0) by decide) (F_n F144 (show ¬ (77 < 0) by decide) (F_n F36 (show ¬ (77 = 77 ∧ 7 ≤ 67 ∧ 67 ≤ 10) by decide) rfl)))))
          have t_191 : (M178.2.1 77 67).toInt = (N.2.1 77 67).toInt := congrArg Int32.toInt c_190
          have c_192 : M178.2.1 77 68 = (1 : Int32) := (F_n F173 (show ¬ (77 = 77 ∧ (68 = 59 ∨ 68 = 66) ∨ 112 ≤ 77 ∧ 77 ≤ 114 ∧ 40 ≤ 68 ∨ 77 = 116) by decide) (W_e W163))
          have t_193 : (M178.2.1 77 68).toInt = (1 : Int32).toInt := congrArg Int32.toInt c_192
          have c_194 : M178.2.1 77 69 = (N.2.1 77 69) := (F_n F173 (show ¬ (77 = 77 ∧ (69 = 59 ∨ 69 = 66) ∨ 112 ≤ 77 ∧ 77 ≤ 114 ∧ 40 ≤ 69 ∨ 77 = 116) by decide) (W_n W163 (by decide) (F_n F154 (show ¬ (77 < 0) by decide) (F_n F144 (show ¬ (77 < 0) by decide) (F_n F36 (show ¬ (77 = 77 ∧ 7 ≤ 69 ∧ 69 ≤ 10) by decide) rfl)))))
          have t_195 : (M178.2.1 77 69).toInt = (N.2.1 77 69).toInt := congrArg Int32.toInt c_194
          have s_197 := Wx_f (M := N) (M1 := M178) ((N.2.1 77 65).toInt).toNat (fun i z => (F_n F173 (show ¬ (115 = 77 ∧ (i = 59 ∨ i = 66) ∨ 112 ≤ 115 ∧ 115 ≤ 114 ∧ 40 ≤ i ∨ 115 = 116) by omega) (W_n W163 (by omega) (F_n F154 (show ¬ (115 < 0) by decide) (F_n F144 (show ¬ (115 < 0) by decide) (F_n F36 (show ¬ (115 = 77 ∧ 7 ≤ i ∧ i ≤ 10) by omega) rfl))))))
          have j_196 : QK M178 := QK_i (by unfold QK_c; rw [show ((M178.2.1 77 65).toInt).toNat = ((N.2.1 77 65).toInt).toNat by omega]; refine ⟨by omega, by omega, by omega, by omega⟩) (fun i z => by rw [(F_n F173 (show ¬ (115 = 77 ∧ (i = 59 ∨ i = 66) ∨ 112 ≤ 115 ∧ 115 ≤ 114 ∧ 40 ≤ i ∨ 115 = 116) by omega) (W_n W163 (by omega) (F_n F154 (show ¬ (115 < 0) by decide) (F_n F144 (show ¬ (115 < 0) by decide) (F_n F36 (show ¬ (115 = 77 ∧ 7 ≤ i ∧ i ≤ 10) by omega) rfl)))))]; exact g2.2.1 i (by omega)) p_177
          have j_198 := (RS_f (tg_462 F173) (RS_f (fun a i z => W_n W163 (tg_453 a i z) rfl) (RS_f (tg_45 F154) (RS_f (tg_45 F144) p_41.1))))
          have c_199 : M178.2.1 77 10 = (M42.2.1 77 10) := (F_n F173 (show ¬ (77 = 77 ∧ (10 = 59 ∨ 10 = 66) ∨ 112 ≤ 77 ∧ 77 ≤ 114 ∧ 40 ≤ 10 ∨ 77 = 116) by decide) (W_n W163 (by decide) (F_n F154 (show ¬ (77 < 0) by decide) (F_n F144 (show ¬ (77 < 0) by decide) rfl))))
          have t_200 : (M178.2.1 77 10).toInt = (M42.2.1 77 10).toInt := congrArg Int32.toInt c_199
          exact h (1 : Int32) M178 hG174 F179 (by decide) (by decide) (by omega) (by omega) (fun _ => Or.imp (fun z => by omega) (fun z => by omega) p_40) (by omega) (fun _ => j_196) (fun _ => by rw [show ((M178.2.1 77 65).toInt).toNat = ((N.2.1 77 65).toInt).toNat by omega]; omega) (fun _ => j_198) (fun _ => ((q_nm (by omega) (by omega) g17 g14).trans (qn_w z_141 (by omega))).trans (q_w (by omega) (by omega) (by omega) (by omega))) (fun z => absurd z (by decide))
        · refine to_an (pc := 183) rw_225_183 rfl (to_in (pc := 184) rw_225_184 rfl (s_pI (pc := 185) rw_225_185 hG155 rfl (fun M202 W201 => ?_)))
          have hG203 := g_w hG155 W201 (A := (N.2.1 77 10).toInt) rfl (lo := 0) (hi := 500) rfl rfl (by omega) (by decide)
          have F204 := FR.w F160 W201 (show 77 = 77 ∧ (10 = 4 ∨ 10 = 5 ∨ 7 ≤ 10 ∧ 10 ≤ 10) ∨ 77 = 77 ∧ (10 = 59 ∨ 65 ≤ 10 ∧ 10 ≤ 69) ∨ 112 ≤ 77 ∧ 77 ≤ 114 ∧ 40 ≤ 10 ∨ 77 = 115 ∨ 77 = 116 by decide)
          refine to_an (pc := 188) rw_225_188 rfl (to_c (pc := 189) rw_225_189 (x := (4 : Int32)) rfl rfl (s_v (pc := 190) rw_225_190 (dp0 hd (by decide)) (ls0 := [.ref 77, .int (4 : Int32)]) rfl (Nat.le_of_ble_eq_true rfl) (Nat.le_of_ble_eq_true rfl) rfl (to_rc rfl rfl rfl (g_o hG203 rfl)) rfl (to_an (pc := 0) rw_152_0 rfl (to_in (pc := 1) rw_152_1 rfl (s_pI (pc := 2) rw_152_2 hG203 rfl (fun M206 W205 => ?_))))))
          have hG207 := g_wf hG203 W205 rfl rfl (by decide)
          have F208 := FR.w F204 W205 (show 77 = 77 ∧ (4 = 4 ∨ 4 = 5 ∨ 7 ≤ 4 ∧ 4 ≤ 10) ∨ 77 = 77 ∧ (4 = 59 ∨ 65 ≤ 4 ∧ 4 ≤ 69) ∨ 112 ≤ 77 ∧ 77 ≤ 114 ∧ 40 ≤ 4 ∨ 77 = 115 ∨ 77 = 116 by decide)
          refine to_an (pc := 5) rw_152_5 rfl (to_an (pc := 6) rw_152_6 rfl ?_)
          have c_209 : M206.2.1 77 10 = (N.2.1 77 10) := (W_n W205 (by decide) (W_e W201))
          refine tt_gI (pc := 7) rw_152_7 (g_o hG207 rfl) (v := (N.2.1 77 10)) c_209 (s_pI (pc := 10) rw_152_10 hG207 rfl (fun M211 W210 => ?_))
          have hG212 := g_wf hG207 W210 rfl rfl (by decide)
          have F213 := FR.w F208 W210 (show 77 = 77 ∧ (5 = 4 ∨ 5 = 5 ∨ 7 ≤ 5 ∧ 5 ≤ 10) ∨ 77 = 77 ∧ (5 = 59 ∨ 65 ≤ 5 ∧ 5 ≤ 69) ∨ 112 ≤ 77 ∧ 77 ≤ 114 ∧ 40 ≤ 5 ∨ 77 = 115 ∨ 77 = 116 by decide)
          refine to_c (pc := 13) rw_152_13 (x := (0 : Int32)) rfl rfl (s_r1 (pc := 14) rw_152_14 (A := 0) rfl (by decide) (s_r1 (pc := 193) rw_225_193 (A := 0) rfl (by decide) ?_))
          have k_214 : (0 : Int32).toInt = 0 := rfl
          have c_215 : M211.2.1 77 7 = (M42.2.1 77 7) := (W_n W210 (by decide) (W_n W205 (by decide) (W_n W201 (by decide) (F_n F154 (show ¬ (77 < 0) by decide) (F_n F144 (show ¬ (77 < 0) by decide) rfl)))))
          have t_216 : (M211.2.1 77 7).toInt = (M42.2.1 77 7).toInt := congrArg Int32.toInt c_215
          have c_217 : M211.2.1 77 6 = (N.2.1 77 6) := (W_n W210 (by decide) (W_n W205 (by decide) (W_n W201 (by decide) (F_n F154 (show ¬ (77 < 0) by decide) (F_n F144 (show ¬ (77 < 0) by decide) c_45)))))
          have t_218 : (M211.2.1 77 6).toInt = (N.2.1 77 6).toInt := congrArg Int32.toInt c_217
          have c_219 : M211.2.1 77 4 = (4 : Int32) := (W_n W210 (by decide) (W_e W205))
          have k_220 : (4 : Int32).toInt = 4 := rfl
          have t_221 : (M211.2.1 77 4).toInt = (4 : Int32).toInt := congrArg Int32.toInt c_219
          have c_222 : M211.2.1 77 5 = (N.2.1 77 10) := (W_e W210)
          have t_223 : (M211.2.1 77 5).toInt = (N.2.1 77 10).toInt := congrArg Int32.toInt c_222
          have c_224 : M211.2.1 77 67 = (N.2.1 77 67) := (W_n W210 (by decide) (W_n W205 (by decide) (W_n W201 (by decide) (F_n F154 (show ¬ (77 < 0) by decide) (F_n F144 (show ¬ (77 < 0) by decide) (F_n F36 (show ¬ (77 = 77 ∧ 7 ≤ 67 ∧ 67 ≤ 10) by decide) rfl))))))
          have t_225 : (M211.2.1 77 67).toInt = (N.2.1 77 67).toInt := congrArg Int32.toInt c_224
          have c_226 : M211.2.1 77 69 = (N.2.1 77 69) := (W_n W210 (by decide) (W_n W205 (by decide) (W_n W201 (by decide) (F_n F154 (show ¬ (77 < 0) by decide) (F_n F144 (show ¬ (77 < 0) by decide) (F_n F36 (show ¬ (77 = 77 ∧ 7 ≤ 69 ∧ 69 ≤ 10) by decide) rfl))))))
          have t_227 : (M211.2.1 77 69).toInt = (N.2.1 77 69).toInt := congrArg Int32.toInt c_226
          exact h (0 : Int32) M211 hG212 F213 (by decide) (by decide) (by omega) (by omega) (fun z => absurd z (by decide)) (by omega) (fun z => absurd z (by omega)) (fun z => absurd z (by decide)) (fun z => absurd z (by decide)) (fun z => absurd z (by decide)) (fun _ => inl_e (by omega) (by omega) ((q_nm (by omega) (by omega) g17 g14).trans (qn_wx z_141 (by omega))))
      · refine to_c (pc := 16) rw_159_16 (x := (1 : Int32)) rfl rfl (to_go (pc := 17) rw_159_17 (s_r1 (pc := 21) rw_159_21 (A := 1) rfl (by decide) (to_isn (pc := 147) rw_225_147 (ls2 := [.ref 77, .int (N.2.1 77 9), .int (N.2.1 77 10), .int (1 : Int32), u4, u5]) rfl rfl ?_)))
        have z_228 := RS_4 p_41.1 (a := (x_ns t nn a)) (by omega) (by omega)
        have z_229 : x_kind t nn (x_ns t nn a) = 4 ∧ x_val t nn (x_ns t nn a) = 61 := by omega
        refine to_an (pc := 148) rw_225_148 rfl (to_in (pc := 149) rw_225_149 rfl (s_v (pc := 150) rw_225_150 (dp0 hd (by decide)) (ls0 := [.ref 77, .int (N.2.1 77 9), .null]) rfl (Nat.le_of_ble_eq_true rfl) (Nat.le_of_ble_eq_true rfl) rfl (to_rc rfl rfl rfl (g_o hG37 rfl)) rfl ?_))
        have j_230 := (PLk_f (tg_156 F36) g11)
        refine E_175 hX (dp1 hd (by decide)) hG37 j_230 (n := (N.2.1 77 9)) (sg := sg) (fun r231 M237 hG233 F232 p_234 p_235 p_236 => ?_)
        have F238 := FR.c F43 F232 tg_390
        have z_239 := x_fn_v (s := sg) (r := 1) (v := (N.2.1 77 9).toInt) (w := x_val t nn a) (by omega)
        refine to_is (pc := 153) rw_225_153 (ls2 := [.ref 77, .int (N.2.1 77 9), .int (N.2.1 77 10), .int (1 : Int32), .int r231, u5]) rfl rfl (to_an (pc := 155) rw_225_155 rfl (to_in (pc := 156) rw_225_156 rfl (s_v (pc := 157) rw_225_157 (dp0 hd (by decide)) (ls0 := [.ref 77, .int (N.2.1 77 9), .null]) rfl (Nat.le_of_ble_eq_true rfl) (Nat.le_of_ble_eq_true rfl) rfl (to_rc rfl rfl rfl (g_o hG233 rfl)) rfl ?_)))
        have j_240 := (PLk_f (tg_101 F232) j_230)
        refine E_176 hX (dp1 hd (by decide)) hG233 j_240 (n := (N.2.1 77 9)) (sg := sg) (fun r241 M247 hG243 F242 p_244 p_245 p_246 => ?_)
        have F248 := FR.c F238 F242 tg_390
        have z_249 := x_fn_v (s := sg) (r := 6) (v := (N.2.1 77 9).toInt) (w := x_val t nn a) (by omega)
        refine to_is (pc := 160) rw_225_160 (ls2 := [.ref 77, .int (N.2.1 77 9), .int (N.2.1 77 10), .int (1 : Int32), .int r231, .int r241]) rfl rfl (to_in (pc := 162) rw_225_162 rfl (b_ieq_f (pc := 163) rw_225_163 (A := 1) rfl (by decide) (to_an (pc := 166) rw_225_166 rfl (to_i (pc := 167) rw_225_167 rfl (s_v (pc := 169) rw_225_169 (dp0 hd (by decide)) (ls0 := [.ref 77, .int r231]) rfl (Nat.le_of_ble_eq_true rfl) (Nat.le_of_ble_eq_true rfl) rfl (to_rc rfl rfl rfl (g_o hG243 rfl)) rfl (to_an (pc := 0) rw_179_0 rfl (to_in (pc := 1) rw_179_1 rfl (s_v (pc := 2) rw_179_2 (dp1 hd (by decide)) (ls0 := [.ref 77, .int r231]) rfl (Nat.le_of_ble_eq_true rfl) (Nat.le_of_ble_eq_true rfl) rfl (to_rc rfl rfl rfl (g_o hG243 rfl)) rfl (to_in (pc := 0) rw_178_0 rfl (b_ilt (pc := 1) rw_178_1 (A := r231.toInt) rfl (fun h250 => ?_) (fun h250 => ?_)))))))))))
        · refine to_c (pc := 16) rw_178_16 (x := (0 : Int32)) rfl rfl (s_r1 (pc := 17) rw_178_17 (A := 0) rfl (by decide) (b_ieq_t (pc := 5) rw_179_5 (A := 0) rfl (by decide) (to_c (pc := 22) rw_179_22 (x := (0 : Int32)) rfl rfl (s_r1 (pc := 23) rw_179_23 (A := 0) rfl (by decide) (b_ine_f (pc := 172) rw_225_172 (A := 0) rfl (by decide) (to_go (pc := 175) rw_225_175 ?_))))))
          have z_251 : ¬ (0 ≤ x_fn sg 1 (x_val t nn a) ∧ ¬ x_row sg 2 (x_fn sg 1 (x_val t nn a)) = 3) := by omega
          refine to_an (pc := 183) rw_225_183 rfl (to_in (pc := 184) rw_225_184 rfl (s_pI (pc := 185) rw_225_185 hG243 rfl (fun M253 W252 => ?_)))
          have hG254 := g_w hG243 W252 (A := (N.2.1 77 10).toInt) rfl (lo := 0) (hi := 500) rfl rfl (by omega) (by decide)
          have F255 := FR.w F248 W252 (show 77 = 77 ∧ (10 = 4 ∨ 10 = 5 ∨ 7 ≤ 10 ∧ 10 ≤ 10) ∨ 77 = 77 ∧ (10 = 59 ∨ 65 ≤ 10 ∧ 10 ≤ 69) ∨ 112 ≤ 77 ∧ 77 ≤ 114 ∧ 40 ≤ 10 ∨ 77 = 115 ∨ 77 = 116 by decide)
          refine to_an (pc := 188) rw_225_188 rfl (to_c (pc := 189) rw_225_189 (x := (4 : Int32)) rfl rfl (s_v (pc := 190) rw_225_190 (dp0 hd (by decide)) (ls0 := [.ref 77, .int (4 : Int32)]) rfl (Nat.le_of_ble_eq_true rfl) (Nat.le_of_ble_eq_true rfl) rfl (to_rc rfl rfl rfl (g_o hG254 rfl)) rfl (to_an (pc := 0) rw_152_0 rfl (to_in (pc := 1) rw_152_1 rfl (s_pI (pc := 2) rw_152_2 hG254 rfl (fun M257 W256 => ?_))))))
          have hG258 := g_wf hG254 W256 rfl rfl (by decide)
          have F259 := FR.w F255 W256 (show 77 = 77 ∧ (4 = 4 ∨ 4 = 5 ∨ 7 ≤ 4 ∧ 4 ≤ 10) ∨ 77 = 77 ∧ (4 = 59 ∨ 65 ≤ 4 ∧ 4 ≤ 69) ∨ 112 ≤ 77 ∧ 77 ≤ 114 ∧ 40 ≤ 4 ∨ 77 = 115 ∨ 77 = 116 by decide)
          refine to_an (pc := 5) rw_152_5 rfl (to_an (pc := 6) rw_152_6 rfl ?_)
          have c_260 : M257.2.1 77 10 = (N.2.1 77 10) := (W_n W256 (by decide) (W_e W252))
          refine tt_gI (pc := 7) rw_152_7 (g_o hG258 rfl) (v := (N.2.1 77 10)) c_260 (s_pI (pc := 10) rw_152_10 hG258 rfl (fun M262 W261 => ?_))
          have hG263 := g_wf hG258 W261 rfl rfl (by decide)
          have F264 := FR.w F259 W261 (show 77 = 77 ∧ (5 = 4 ∨ 5 = 5 ∨ 7 ≤ 5 ∧ 5 ≤ 10) ∨ 77 = 77 ∧ (5 = 59 ∨ 65 ≤ 5 ∧ 5 ≤ 69) ∨ 112 ≤ 77 ∧ 77 ≤ 114 ∧ 40 ≤ 5 ∨ 77 = 115 ∨ 77 = 116 by decide)
          refine to_c (pc := 13) rw_152_13 (x := (0 : Int32)) rfl rfl (s_r1 (pc := 14) rw_152_14 (A := 0) rfl (by decide) (s_r1 (pc := 193) rw_225_193 (A := 0) rfl (by decide) ?_))
          have k_265 : (0 : Int32).toInt = 0 := rfl
          have c_266 : M262.2.1 77 7 = (M42.2.1 77 7) := (W_n W261 (by decide) (W_n W256 (by decide) (W_n W252 (by decide) (F_n F242 (show ¬ (77 < 0) by decide) (F_n F232 (show ¬ (77 < 0) by decide) rfl)))))
          have t_267 : (M262.2.1 77 7).toInt = (M42.2.1 77 7).toInt := congrArg Int32.toInt c_266
          have c_268 : M262.2.1 77 6 = (N.2.1 77 6) := (W_n W261 (by decide) (W_n W256 (by decide) (W_n W252 (by decide) (F_n F242 (show ¬ (77 < 0) by decide) (F_n F232 (show ¬ (77 < 0) by decide) c_45)))))
          have t_269 : (M262.2.1 77 6).toInt = (N.2.1 77 6).toInt := congrArg Int32.toInt c_268
          have c_270 : M262.2.1 77 4 = (4 : Int32) := (W_n W261 (by decide) (W_e W256))
          have k_271 : (4 : Int32).toInt = 4 := rfl
          have t_272 : (M262.2.1 77 4).toInt = (4 : Int32).toInt := congrArg Int32.toInt c_270
          have c_273 : M262.2.1 77 5 = (N.2.1 77 10) := (W_e W261)
          have t_274 : (M262.2.1 77 5).toInt = (N.2.1 77 10).toInt := congrArg Int32.toInt c_273
          have c_275 : M262.2.1 77 67 = (N.2.1 77 67) := (W_n W261 (by decide) (W_n W256 (by decide) (W_n W252 (by decide) (F_n F242 (show ¬ (77 < 0) by decide) (F_n F232 (show ¬ (77 < 0) by decide) (F_n F36 (show ¬ (77 = 77 ∧ 7 ≤ 67 ∧ 67 ≤ 10) by decide) rfl))))))
          have t_276 : (M262.2.1 77 67).toInt = (N.2.1 77 67).toInt := congrArg Int32.toInt c_275
          have c_277 : M262.2.1 77 69 = (N.2.1 77 69) := (W_n W261 (by decide) (W_n W256 (by decide) (W_n W252 (by decide) (F_n F242 (show ¬ (77 < 0) by decide) (F_n F232 (show ¬ (77 < 0) by decide) (F_n F36 (show ¬ (77 = 77 ∧ 7 ≤ 69 ∧ 69 ≤ 10) by decide) rfl))))))
          have t_278 : (M262.2.1 77 69).toInt = (N.2.1 77 69).toInt := congrArg Int32.toInt c_277
          exact h (0 : Int32) M262 hG263 F264 (by decide) (by decide) (by omega) (by omega) (fun z => absurd z (by decide)) (by omega) (fun z => absurd z (by omega)) (fun z => absurd z (by decide)) (fun z => absurd z (by decide)) (fun z => absurd z (by decide)) (fun _ => inl_e (by omega) (by omega) ((q_nm (by omega) (by omega) g17 g14).trans (qn_vx z_229 z_251)))
        · refine to_in (pc := 4) rw_178_4 rfl (to_an (pc := 5) rw_178_5 rfl ?_)
          have c_279 : M247.2.1 77 12 = (N.2.1 77 12) := (F_n F242 (show ¬ (77 < 0) by decide) (F_n F232 (show ¬ (77 < 0) by decide) (F_n F36 (show ¬ (77 = 77 ∧ 7 ≤ 12 ∧ 12 ≤ 10) by decide) rfl)))
          refine tt_gI (pc := 6) rw_178_6 (g_o hG243 rfl) (v := (N.2.1 77 12)) c_279 (b_cge (pc := 9) rw_178_9 (A := r231.toInt) (B := (N.2.1 77 12).toInt) rfl rfl (fun h280 => ?_) (fun h280 => ?_))
          · refine to_c (pc := 16) rw_178_16 (x := (0 : Int32)) rfl rfl (s_r1 (pc := 17) rw_178_17 (A := 0) rfl (by decide) (b_ieq_t (pc := 5) rw_179_5 (A := 0) rfl (by decide) (to_c (pc := 22) rw_179_22 (x := (0 : Int32)) rfl rfl (s_r1 (pc := 23) rw_179_23 (A := 0) rfl (by decide) (b_ine_f (pc := 172) rw_225_172 (A := 0) rfl (by decide) (to_go (pc := 175) rw_225_175 ?_))))))
            have z_281 : ¬ (0 ≤ x_fn sg 1 (x_val t nn a) ∧ ¬ x_row sg 2 (x_fn sg 1 (x_val t nn a)) = 3) := by omega
            refine to_an (pc := 183) rw_225_183 rfl (to_in (pc := 184) rw_225_184 rfl (s_pI (pc := 185) rw_225_185 hG243 rfl (fun M283 W282 => ?_)))
            have hG284 := g_w hG243 W282 (A := (N.2.1 77 10).toInt) rfl (lo := 0) (hi := 500) rfl rfl (by omega) (by decide)
            have F285 := FR.w F248 W282 (show 77 = 77 ∧ (10 = 4 ∨ 10 = 5 ∨ 7 ≤ 10 ∧ 10 ≤ 10) ∨ 77 = 77 ∧ (10 = 59 ∨ 65 ≤ 10 ∧ 10 ≤ 69) ∨ 112 ≤ 77 ∧ 77 ≤ 114 ∧ 40 ≤ 10 ∨ 77 = 115 ∨ 77 = 116 by decide)
            refine to_an (pc := 188) rw_225_188 rfl (to_c (pc := 189) rw_225_189 (x := (4 : Int32)) rfl rfl (s_v (pc := 190) rw_225_190 (dp0 hd (by decide)) (ls0 := [.ref 77, .int (4 : Int32)]) rfl (Nat.le_of_ble_eq_true rfl) (Nat.le_of_ble_eq_true rfl) rfl (to_rc rfl rfl rfl (g_o hG284 rfl)) rfl (to_an (pc := 0) rw_152_0 rfl (to_in (pc := 1) rw_152_1 rfl (s_pI (pc := 2) rw_152_2 hG284 rfl (fun M287 W286 => ?_))))))
            have hG288 := g_wf hG284 W286 rfl rfl (by decide)
            have F289 := FR.w F285 W286 (show 77 = 77 ∧ (4 = 4 ∨ 4 = 5 ∨ 7 ≤ 4 ∧ 4 ≤ 10) ∨ 77 = 77 ∧ (4 = 59 ∨ 65 ≤ 4 ∧ 4 ≤ 69) ∨ 112 ≤ 77 ∧ 77 ≤ 114 ∧ 40 ≤ 4 ∨ 77 = 115 ∨ 77 = 116 by decide)
            refine to_an (pc := 5) rw_152_5 rfl (to_an (pc := 6) rw_152_6 rfl ?_)
            have c_290 : M287.2.1 77 10 = (N.2.1 77 10) := (W_n W286 (by decide) (W_e W282))
            refine tt_gI (pc := 7) rw_152_7 (g_o hG288 rfl) (v := (N.2.1 77 10)) c_290 (s_pI (pc := 10) rw_152_10 hG288 rfl (fun M292 W291 => ?_))
            have hG293 := g_wf hG288 W291 rfl rfl (by decide)
            have F294 := FR.w F289 W291 (show 77 = 77 ∧ (5 = 4 ∨ 5 = 5 ∨ 7 ≤ 5 ∧ 5 ≤ 10) ∨ 77 = 77 ∧ (5 = 59 ∨ 65 ≤ 5 ∧ 5 ≤ 69) ∨ 112 ≤ 77 ∧ 77 ≤ 114 ∧ 40 ≤ 5 ∨ 77 = 115 ∨ 77 = 116 by decide)
            refine to_c (pc := 13) rw_152_13 (x := (0 : Int32)) rfl rfl (s_r1 (pc := 14) rw_152_14 (A := 0) rfl (by decide) (s_r1 (pc := 193) rw_225_193 (A := 0) rfl (by decide) ?_))
            have k_295 : (0 : Int32).toInt = 0 := rfl
            have c_296 : M292.2.1 77 7 = (M42.2.1 77 7) := (W_n W291 (by decide) (W_n W286 (by decide) (W_n W282 (by decide) (F_n F242 (show ¬ (77 < 0) by decide) (F_n F232 (show ¬ (77 < 0) by decide) rfl)))))
            have t_297 : (M292.2.1 77 7).toInt = (M42.2.1 77 7).toInt := congrArg Int32.toInt c_296
            have c_298 : M292.2.1 77 6 = (N.2.1 77 6) := (W_n W291 (by decide) (W_n W286 (by decide) (W_n W282 (by decide) (F_n F242 (show ¬ (77 < 0) by decide) (F_n F232 (show ¬ (77 < 0) by decide) c_45)))))
            have t_299 : (M292.2.1 77 6).toInt = (N.2.1 77 6).toInt := congrArg Int32.toInt c_298
            have c_300 : M292.2.1 77 4 = (4 : Int32) := (W_n W291 (by decide) (W_e W286))
            have k_301 : (4 : Int32).toInt = 4 := rfl
            have t_302 : (M292.2.1 77 4).toInt = (4 : Int32).toInt := congrArg Int32.toInt c_300
            have c_303 : M292.2.1 77 5 = (N.2.1 77 10) := (W_e W291)
            have t_304 : (M292.2.1 77 5).toInt = (N.2.1 77 10).toInt := congrArg Int32.toInt c_303
            have c_305 : M292.2.1 77 67 = (N.2.1 77 67) := (W_n W291 (by decide) (W_n W286 (by decide) (W_n W282 (by decide) (F_n F242 (show ¬ (77 < 0) by decide) (F_n F232 (show ¬ (77 < 0) by decide) (F_n F36 (show ¬ (77 = 77 ∧ 7 ≤ 67 ∧ 67 ≤ 10) by decide) rfl))))))
            have t_306 : (M292.2.1 77 67).toInt = (N.2.1 77 67).toInt := congrArg Int32.toInt c_305
            have c_307 : M292.2.1 77 69 = (N.2.1 77 69) := (W_n W291 (by decide) (W_n W286 (by decide) (W_n W282 (by decide) (F_n F242 (show ¬ (77 < 0) by decide) (F_n F232 (show ¬ (77 < 0) by decide) (F_n F36 (show ¬ (77 = 77 ∧ 7 ≤ 69 ∧ 69 ≤ 10) by decide) rfl))))))
            have t_308 : (M292.2.1 77 69).toInt = (N.2.1 77 69).toInt := congrArg Int32.toInt c_307
            exact h (0 : Int32) M292 hG293 F294 (by decide) (by decide) (by omega) (by omega) (fun z => absurd z (by decide)) (by omega) (fun z => absurd z (by omega)) (fun z => absurd z (by decide)) (fun z => absurd z (by decide)) (fun z => absurd z (by decide)) (fun _ => inl_e (by omega) (by omega) ((q_nm (by omega) (by omega) g17 g14).trans (qn_vx z_229 z_281)))
          · refine to_c (pc := 12) rw_178_12 (x := (1 : Int32)) rfl rfl (to_go (pc := 13) rw_178_13 (s_r1 (pc := 17) rw_178_17 (A := 1) rfl (by decide) (b_ieq_f (pc := 5) rw_179_5 (A := 1) rfl (by decide) (to_an (pc := 8) rw_179_8 rfl (s_gR (pc := 9) rw_179_9 hG243 rfl (v := 81) rfl (to_in (pc := 12) rw_179_12 rfl (s_ial (pc := 13) rw_179_13 hG243 rfl (n := 16) rfl rfl (A := r231.toInt) rfl (by omega) (by omega) (lo := 0) (hi := 3) rfl rfl (fun v309 w_310 _ _ => ?_))))))))
            have t_311 := congrArg Int32.toInt w_310
            have j_313 := (FA_f (tg_307 F242) (FA_f (tg_307 F232) (FA_f (tg_309 F36) g5)))
            have j_312 := FA_u j_313 (r231.toInt).toNat
            have t_314 : (M247.2.1 81 (r231.toInt).toNat).toInt = (N.2.1 81 (r231.toInt).toNat).toInt := congrArg Int32.toInt (F_n F242 (show ¬ (81 < 0) by decide) (F_n F232 (show ¬ (81 < 0) by decide) (F_n F36 (show ¬ (81 = 77 ∧ 7 ≤ ((r231.toInt).toNat) ∧ ((r231.toInt).toNat) ≤ 10) by omega) rfl)))
            have t_315 : (M247.2.1 84 (r231.toInt).toNat).toInt = (N.2.1 84 (r231.toInt).toNat).toInt := congrArg Int32.toInt (F_n F242 (show ¬ (84 < 0) by decide) (F_n F232 (show ¬ (84 < 0) by decide) (F_n F36 (show ¬ (84 = 77 ∧ 7 ≤ ((r231.toInt).toNat) ∧ ((r231.toInt).toNat) ≤ 10) by omega) rfl)))
            have j_316 := FA_u q3 (r231.toInt).toNat
            have j_317 := (PLk_f (tg_101 F242) j_240)
            have z_318 := PLk_r j_317 2 81 rfl (by decide) (by decide) (k := r231.toInt) (by omega) (by omega) w_310
            have z_319 := x_row_v (s := sg) (r := 2) (x := r231.toInt) (y := x_fn sg 1 (x_val t nn a)) (by omega)
            refine to_c (pc := 14) rw_179_14 (x := (3 : Int32)) rfl rfl (b_ceq (pc := 15) rw_179_15 (A := v309.toInt) (B := 3) rfl rfl (fun h320 => ?_) (fun h320 => ?_))
            · refine to_c (pc := 22) rw_179_22 (x := (0 : Int32)) rfl rfl (s_r1 (pc := 23) rw_179_23 (A := 0) rfl (by decide) (b_ine_f (pc := 172) rw_225_172 (A := 0) rfl (by decide) (to_go (pc := 175) rw_225_175 ?_)))
              have z_321 : ¬ (0 ≤ x_fn sg 1 (x_val t nn a) ∧ ¬ x_row sg 2 (x_fn sg 1 (x_val t nn a)) = 3) := by omega
              refine to_an (pc := 183) rw_225_183 rfl (to_in (pc := 184) rw_225_184 rfl (s_pI (pc := 185) rw_225_185 hG243 rfl (fun M323 W322 => ?_)))
              have hG324 := g_w hG243 W322 (A := (N.2.1 77 10).toInt) rfl (lo := 0) (hi := 500) rfl rfl (by omega) (by decide)
              have F325 := FR.w F248 W322 (show 77 = 77 ∧ (10 = 4 ∨ 10 = 5 ∨ 7 ≤ 10 ∧ 10 ≤ 10) ∨ 77 = 77 ∧ (10 = 59 ∨ 65 ≤ 10 ∧ 10 ≤ 69) ∨ 112 ≤ 77 ∧ 77 ≤ 114 ∧ 40 ≤ 10 ∨ 77 = 115 ∨ 77 = 116 by decide)
              refine to_an (pc := 188) rw_225_188 rfl (to_c (pc := 189) rw_225_189 (x := (4 : Int32)) rfl rfl (s_v (pc := 190) rw_225_190 (dp0 hd (by decide)) (ls0 := [.ref 77, .int (4 : Int32)]) rfl (Nat.le_of_ble_eq_true rfl) (Nat.le_of_ble_eq_true rfl) rfl (to_rc rfl rfl rfl (g_o hG324 rfl)) rfl (to_an (pc := 0) rw_152_0 rfl (to_in (pc := 1) rw_152_1 rfl (s_pI (pc := 2) rw_152_2 hG324 rfl (fun M327 W326 => ?_))))))
              have hG328 := g_wf hG324 W326 rfl rfl (by decide)
              have F329 := FR.w F325 W326 (show 77 = 77 ∧ (4 = 4 ∨ 4 = 5 ∨ 7 ≤ 4 ∧ 4 ≤ 10) ∨ 77 = 77 ∧ (4 = 59 ∨ 65 ≤ 4 ∧ 4 ≤ 69) ∨ 112 ≤ 77 ∧ 77 ≤ 114 ∧ 40 ≤ 4 ∨ 77 = 115 ∨ 77 = 116 by decide)
              refine to_an (pc := 5) rw_152_5 rfl (to_an (pc := 6) rw_152_6 rfl ?_)
              have c_330 : M327.2.1 77 10 = (N.2.1 77 10) := (W_n W326 (by decide) (W_e W322))
              refine tt_gI (pc := 7) rw_152_7 (g_o hG328 rfl) (v := (N.2.1 77 10)) c_330 (s_pI (pc := 10) rw_152_10 hG328 rfl (fun M332 W331 => ?_))
              have hG333 := g_wf hG328 W331 rfl rfl (by decide)
              have F334 := FR.w F329 W331 (show 77 = 77 ∧ (5 = 4 ∨ 5 = 5 ∨ 7 ≤ 5 ∧ 5 ≤ 10) ∨ 77 = 77 ∧ (5 = 59 ∨ 65 ≤ 5 ∧ 5 ≤ 69) ∨ 112 ≤ 77 ∧ 77 ≤ 114 ∧ 40 ≤ 5 ∨ 77 = 115 ∨ 77 = 116 by decide)
              refine to_c (pc := 13) rw_152_13 (x := (0 : Int32)) rfl rfl (s_r1 (pc := 14) rw_152_14 (A := 0) rfl (by decide) (s_r1 (pc := 193) rw_225_193 (A := 0) rfl (by decide) ?_))
              have k_335 : (0 : Int32).toInt = 0 := rfl
              have c_336 : M332.2.1 77 7 = (M42.2.1 77 7) := (W_n W331 (by decide) (W_n W326 (by decide) (W_n W322 (by decide) (F_n F242 (show ¬ (77 < 0) by decide) (F_n F232 (show ¬ (77 < 0) by decide) rfl)))))
              have t_337 : (M332.2.1 77 7).toInt = (M42.2.1 77 7).toInt := congrArg Int32.toInt c_336
              have c_338 : M332.2.1 77 6 = (N.2.1 77 6) := (W_n W331 (by decide) (W_n W326 (by decide) (W_n W322 (by decide) (F_n F242 (show ¬ (77 < 0) by decide) (F_n F232 (show ¬ (77 < 0) by decide) c_45)))))
              have t_339 : (M332.2.1 77 6).toInt = (N.2.1 77 6).toInt := congrArg Int32.toInt c_338
              have c_340 : M332.2.1 77 4 = (4 : Int32) := (W_n W331 (by decide) (W_e W326))
              have k_341 : (4 : Int32).toInt = 4 := rfl
              have t_342 : (M332.2.1 77 4).toInt = (4 : Int32).toInt := congrArg Int32.toInt c_340
              have c_343 : M332.2.1 77 5 = (N.2.1 77 10) := (W_e W331)
              have t_344 : (M332.2.1 77 5).toInt = (N.2.1 77 10).toInt := congrArg Int32.toInt c_343
              have c_345 : M332.2.1 77 67 = (N.2.1 77 67) := (W_n W331 (by decide) (W_n W326 (by decide) (W_n W322 (by decide) (F_n F242 (show ¬ (77 < 0) by decide) (F_n F232 (show ¬ (77 < 0) by decide) (F_n F36 (show ¬ (77 = 77 ∧ 7 ≤ 67 ∧ 67 ≤ 10) by decide) rfl))))))
              have t_346 : (M332.2.1 77 67).toInt = (N.2.1 77 67).toInt := congrArg Int32.toInt c_345
              have c_347 : M332.2.1 77 69 = (N.2.1 77 69) := (W_n W331 (by decide) (W_n W326 (by decide) (W_n W322 (by decide) (F_n F242 (show ¬ (77 < 0) by decide) (F_n F232 (show ¬ (77 < 0) by decide) (F_n F36 (show ¬ (77 = 77 ∧ 7 ≤ 69 ∧ 69 ≤ 10) by decide) rfl))))))
              have t_348 : (M332.2.1 77 69).toInt = (N.2.1 77 69).toInt := congrArg Int32.toInt c_347
              exact h (0 : Int32) M332 hG333 F334 (by decide) (by decide) (by omega) (by omega) (fun z => absurd z (by decide)) (by omega) (fun z => absurd z (by omega)) (fun z => absurd z (by decide)) (fun z => absurd z (by decide)) (fun z => absurd z (by decide)) (fun _ => inl_e (by omega) (by omega) ((q_nm (by omega) (by omega) g17 g14).trans (qn_vx z_229 z_321)))
            · refine to_c (pc := 18) rw_179_18 (x := (1 : Int32)) rfl rfl (to_go (pc := 19) rw_179_19 (s_r1 (pc := 23) rw_179_23 (A := 1) rfl (by decide) (b_ine_t (pc := 172) rw_225_172 (A := 1) rfl (by decide) ?_)))
              have z_349 : 0 ≤ x_fn sg 1 (x_val t nn a) ∧ ¬ x_row sg 2 (x_fn sg 1 (x_val t nn a)) = 3 := by omega
              refine to_an (pc := 194) rw_225_194 rfl (to_c (pc := 195) rw_225_195 (x := (1 : Int32)) rfl rfl (s_pI (pc := 196) rw_225_196 hG243 rfl (fun M351 W350 => ?_)))
              have hG352 := g_w hG243 W350 (A := 1) rfl (lo := 0) (hi := 1) rfl rfl (by omega) (by decide)
              have F353 := FR.w F248 W350 (show 77 = 77 ∧ (68 = 4 ∨ 68 = 5 ∨ 7 ≤ 68 ∧ 68 ≤ 10) ∨ 77 = 77 ∧ (68 = 59 ∨ 65 ≤ 68 ∧ 68 ≤ 69) ∨ 112 ≤ 77 ∧ 77 ≤ 114 ∧ 40 ≤ 68 ∨ 77 = 115 ∨ 77 = 116 by decide)
              refine to_in (pc := 199) rw_225_199 rfl (b_ine_t (pc := 200) rw_225_200 (A := 1) rfl (by decide) (to_an (pc := 213) rw_225_213 rfl (s_v (pc := 214) rw_225_214 (dp0 hd (by decide)) (ls0 := [.ref 77]) rfl (Nat.le_of_ble_eq_true rfl) (Nat.le_of_ble_eq_true rfl) rfl (to_rc rfl rfl rfl (g_o hG352 rfl)) rfl ?_)))
              have c_354 : M351.2.1 77 7 = (M42.2.1 77 7) := (W_n W350 (by decide) (F_n F242 (show ¬ (77 < 0) by decide) (F_n F232 (show ¬ (77 < 0) by decide) rfl)))
              have t_355 : (M351.2.1 77 7).toInt = (M42.2.1 77 7).toInt := congrArg Int32.toInt c_354
              have c_356 : M351.2.1 77 6 = (N.2.1 77 6) := (W_n W350 (by decide) (F_n F242 (show ¬ (77 < 0) by decide) (F_n F232 (show ¬ (77 < 0) by decide) c_45)))
              have t_357 : (M351.2.1 77 6).toInt = (N.2.1 77 6).toInt := congrArg Int32.toInt c_356
              have c_358 : M351.2.1 77 10 = (M42.2.1 77 10) := (W_n W350 (by decide) (F_n F242 (show ¬ (77 < 0) by decide) (F_n F232 (show ¬ (77 < 0) by decide) rfl)))
              have t_359 : (M351.2.1 77 10).toInt = (M42.2.1 77 10).toInt := congrArg Int32.toInt c_358
              have j_360 := (RS_f (fun a i z => W_n W350 (tg_453 a i z) rfl) (RS_f (tg_45 F242) (RS_f (tg_45 F232) p_41.1)))
              have z_361 := RS_b j_360 (a := (x_ns t nn a)) (by omega)
              have j_362 := (TR_f (fun a i z => W_n W350 (tg_456 a i z) rfl) (TR_f (tg_9 F242) (TR_f (tg_9 F232) (TR_f (tg_42 F36) g9))))
              have j_363 := (W9_f (fun a i z => W_n W350 (tg_459 a i z) rfl) (W9_f (tg_46 F242) (W9_f (tg_46 F232) (W9_f (tg_44 F36) g10))))
              refine E_156 hX (dp1 hd (by decide)) hG352 (by omega) (by omega) (by omega) (by omega) j_362 j_363  (fun M370 hG365 F364 p_366 p_367 p_368 p_369 => ?_)
              have F371 := FR.c F353 F364 tg_389
              have b_372 := g_b hG365 (a := 77) (i := 7) (lo := 0) (hi := 500) rfl rfl
              have c_373 : M370.2.1 77 6 = (N.2.1 77 6) := (F_n F364 (show ¬ (77 = 77 ∧ 7 ≤ 6 ∧ 6 ≤ 10) by decide) c_356)
              have t_374 : (M370.2.1 77 6).toInt = (N.2.1 77 6).toInt := congrArg Int32.toInt c_373
              have b_375 := g_b hG365 (a := 77) (i := 8) (lo := 0) (hi := 5) rfl rfl
              have b_376 := g_b hG365 (a := 77) (i := 10) (lo := 0) (hi := 500) rfl rfl
              have z_377 := RS_s p_369.2 (a := (x_ns t nn a)) (by omega)
              have z_378 := RS_k p_369.1 (a := (x_ns t nn (x_ns t nn a))) (by omega)
              refine to_an (pc := 217) rw_225_217 rfl (to_c (pc := 218) rw_225_218 (x := (0 : Int32)) rfl rfl (to_an (pc := 219) rw_225_219 rfl (s_gR (pc := 220) rw_225_220 hG365 rfl (v := 84) rfl (to_i (pc := 223) rw_225_223 rfl (s_ial (pc := 225) rw_225_225 hG365 rfl (n := 16) rfl rfl (A := r231.toInt) rfl (by omega) (by omega) (lo := 0) (hi := 24) rfl rfl (fun v379 w_380 _ _ => ?_))))))
              have t_381 := congrArg Int32.toInt w_380
              have j_383 := (FA_f (tg_309 F364) (FA_f (fun a i z => W_n W350 (tg_393 a i z) rfl) j_313))
              have j_382 := FA_u j_383 (r231.toInt).toNat
              have t_384 : (M370.2.1 81 (r231.toInt).toNat).toInt = (N.2.1 81 (r231.toInt).toNat).toInt := congrArg Int32.toInt (F_n F364 (show ¬ (81 = 77 ∧ 7 ≤ ((r231.toInt).toNat) ∧ ((r231.toInt).toNat) ≤ 10) by omega) (W_n W350 (by omega) (F_n F242 (show ¬ (81 < 0) by decide) (F_n F232 (show ¬ (81 < 0) by decide) (F_n F36 (show ¬ (81 = 77 ∧ 7 ≤ ((r231.toInt).toNat) ∧ ((r231.toInt).toNat) ≤ 10) by omega) rfl)))))
              have t_385 : (M370.2.1 84 (r231.toInt).toNat).toInt = (N.2.1 84 (r231.toInt).toNat).toInt := congrArg Int32.toInt (F_n F364 (show ¬ (84 = 77 ∧ 7 ≤ ((r231.toInt).toNat) ∧ ((r231.toInt).toNat) ≤ 10) by omega) (W_n W350 (by omega) (F_n F242 (show ¬ (84 < 0) by decide) (F_n F232 (show ¬ (84 < 0) by decide) (F_n F36 (show ¬ (84 = 77 ∧ 7 ≤ ((r231.toInt).toNat) ∧ ((r231.toInt).toNat) ≤ 10) by omega) rfl)))))
              have j_386 := (PLk_f (tg_156 F364) (PLk_f (fun a i z => W_n W350 (tg_465 a i z) rfl) j_317))
              have z_387 := PLk_r j_386 5 84 rfl (by decide) (by decide) (k := r231.toInt) (by omega) (by omega) w_380
              have z_388 := x_row_v (s := sg) (r := 5) (x := r231.toInt) (y := x_fn sg 1 (x_val t nn a)) (by omega)
              refine to_c (pc := 226) rw_225_226 (x := (1 : Int32)) rfl rfl (s_sub (pc := 227) rw_225_227 (A := v379.toInt) (B := 1) rfl rfl (by omega) (fun v389 e390 => s_v (pc := 228) rw_225_228 (dp0 hd (by decide)) (ls0 := [.ref 77, .int (0 : Int32), .int v389]) rfl (Nat.le_of_ble_eq_true rfl) (Nat.le_of_ble_eq_true rfl) rfl (to_rc rfl rfl rfl (g_o hG365 rfl)) rfl (to_an (pc := 0) rw_162_0 rfl (tt_gI (pc := 1) rw_162_1 (g_o hG365 rfl) (v := (M370.2.1 77 8)) rfl (to_c (pc := 4) rw_162_4 (x := (3 : Int32)) rfl rfl (b_ceq (pc := 5) rw_162_5 (A := (M370.2.1 77 8).toInt) (B := 3) rfl rfl (fun h391 => ?_) (fun h391 => ?_)))))))
              · refine to_an (pc := 14) rw_162_14 rfl (tt_gI (pc := 15) rw_162_15 (g_o hG365 rfl) (v := (M370.2.1 77 9)) rfl (to_in (pc := 18) rw_162_18 rfl (b_clt (pc := 19) rw_162_19 (A := (M370.2.1 77 9).toInt) (B := 0) rfl rfl (fun h392 => ?_) (fun h392 => ?_))))
                · refine to_an (pc := 30) rw_162_30 rfl (to_c (pc := 31) rw_162_31 (x := (2 : Int32)) rfl rfl (s_v (pc := 32) rw_162_32 (dp1 hd (by decide)) (ls0 := [.ref 77, .int (2 : Int32)]) rfl (Nat.le_of_ble_eq_true rfl) (Nat.le_of_ble_eq_true rfl) rfl (to_rc rfl rfl rfl (g_o hG365 rfl)) rfl (to_an (pc := 0) rw_152_0 rfl (to_in (pc := 1) rw_152_1 rfl (s_pI (pc := 2) rw_152_2 hG365 rfl (fun M394 W393 => ?_))))))
                  have hG395 := g_wf hG365 W393 rfl rfl (by decide)
                  have F396 := FR.w F371 W393 (show 77 = 77 ∧ (4 = 4 ∨ 4 = 5 ∨ 7 ≤ 4 ∧ 4 ≤ 10) ∨ 77 = 77 ∧ (4 = 59 ∨ 65 ≤ 4 ∧ 4 ≤ 69) ∨ 112 ≤ 77 ∧ 77 ≤ 114 ∧ 40 ≤ 4 ∨ 77 = 115 ∨ 77 = 116 by decide)
                  refine to_an (pc := 5) rw_152_5 rfl (to_an (pc := 6) rw_152_6 rfl ?_)
                  have c_397 : M394.2.1 77 10 = (M370.2.1 77 10) := (W_n W393 (by decide) rfl)
                  refine tt_gI (pc := 7) rw_152_7 (g_o hG395 rfl) (v := (M370.2.1 77 10)) c_397 (s_pI (pc := 10) rw_152_10 hG395 rfl (fun M399 W398 => ?_))
                  have hG400 := g_wf hG395 W398 rfl rfl (by decide)
                  have F401 := FR.w F396 W398 (show 77 = 77 ∧ (5 = 4 ∨ 5 = 5 ∨ 7 ≤ 5 ∧ 5 ≤ 10) ∨ 77 = 77 ∧ (5 = 59 ∨ 65 ≤ 5 ∧ 5 ≤ 69) ∨ 112 ≤ 77 ∧ 77 ≤ 114 ∧ 40 ≤ 5 ∨ 77 = 115 ∨ 77 = 116 by decide)
                  refine to_c (pc := 13) rw_152_13 (x := (0 : Int32)) rfl rfl (s_r1 (pc := 14) rw_152_14 (A := 0) rfl (by decide) (b_ieq_t (pc := 35) rw_162_35 (A := 0) rfl (by decide) (to_c (pc := 42) rw_162_42 (x := (0 : Int32)) rfl rfl (s_r1 (pc := 43) rw_162_43 (A := 0) rfl (by decide) (b_ine_f (pc := 231) rw_225_231 (A := 0) rfl (by decide) ?_)))))
                  have c_402 : M399.2.1 77 4 = (2 : Int32) := (W_n W398 (by decide) (W_e W393))
                  have z_403 := RS_3x p_369.1 (a := (x_ns t nn (x_ns t nn a))) (m := v379.toInt - 1) (by omega) (by omega) (by omega) (by omega)
                  refine to_c (pc := 234) rw_225_234 (x := (0 : Int32)) rfl rfl (s_r1 (pc := 235) rw_225_235 (A := 0) rfl (by decide) ?_)
                  have k_404 : (0 : Int32).toInt = 0 := rfl
                  have c_405 : M399.2.1 77 7 = (M370.2.1 77 7) := (W_n W398 (by decide) (W_n W393 (by decide) rfl))
                  have t_406 : (M399.2.1 77 7).toInt = (M370.2.1 77 7).toInt := congrArg Int32.toInt c_405
                  have c_407 : M399.2.1 77 6 = (N.2.1 77 6) := (W_n W398 (by decide) (W_n W393 (by decide) c_373))
                  have t_408 : (M399.2.1 77 6).toInt = (N.2.1 77 6).toInt := congrArg Int32.toInt c_407
                  have k_409 : (2 : Int32).toInt = 2 := rfl
                  have t_410 : (M399.2.1 77 4).toInt = (2 : Int32).toInt := congrArg Int32.toInt c_402
                  have c_411 : M399.2.1 77 5 = (M370.2.1 77 10) := (W_e W398)
                  have t_412 : (M399.2.1 77 5).toInt = (M370.2.1 77 10).toInt := congrArg Int32.toInt c_411
                  have c_413 : M399.2.1 77 67 = (N.2.1 77 67) := (W_n W398 (by decide) (W_n W393 (by decide) (F_n F364 (show ¬ (77 = 77 ∧ 7 ≤ 67 ∧ 67 ≤ 10) by decide) (W_n W350 (by decide) (F_n F242 (show ¬ (77 < 0) by decide) (F_n F232 (show ¬ (77 < 0) by decide) (F_n F36 (show ¬ (77 = 77 ∧ 7 ≤ 67 ∧ 67 ≤ 10) by decide) rfl)))))))
                  have t_414 : (M399.2.1 77 67).toInt = (N.2.1 77 67).toInt := congrArg Int32.toInt c_413
                  have c_415 : M399.2.1 77 69 = (N.2.1 77 69) := (W_n W398 (by decide) (W_n W393 (by decide) (F_n F364 (show ¬ (77 = 77 ∧ 7 ≤ 69 ∧ 69 ≤ 10) by decide) (W_n W350 (by decide) (F_n F242 (show ¬ (77 < 0) by decide) (F_n F232 (show ¬ (77 < 0) by decide) (F_n F36 (show ¬ (77 = 77 ∧ 7 ≤ 69 ∧ 69 ≤ 10) by decide) rfl)))))))
                  have t_416 : (M399.2.1 77 69).toInt = (N.2.1 77 69).toInt := congrArg Int32.toInt c_415
                  exact h (0 : Int32) M399 hG400 F401 (by decide) (by decide) (by omega) (by omega) (fun z => absurd z (by decide)) (by omega) (fun z => absurd z (by omega)) (fun z => absurd z (by decide)) (fun z => absurd z (by decide)) (fun z => absurd z (by decide)) (fun _ => inl_e (by omega) (by omega) ((q_nm (by omega) (by omega) g17 g14).trans (qn_v2 z_229 z_349 (by omega) (by omega))))
                · refine to_an (pc := 22) rw_162_22 rfl (tt_gI (pc := 23) rw_162_23 (g_o hG365 rfl) (v := (M370.2.1 77 9)) rfl (to_in (pc := 26) rw_162_26 rfl (b_cle (pc := 27) rw_162_27 (A := (M370.2.1 77 9).toInt) (B := v389.toInt) rfl rfl (fun h417 => ?_) (fun h417 => ?_))))
                  · refine to_c (pc := 38) rw_162_38 (x := (1 : Int32)) rfl rfl (to_go (pc := 39) rw_162_39 (s_r1 (pc := 43) rw_162_43 (A := 1) rfl (by decide) (b_ine_t (pc := 231) rw_225_231 (A := 1) rfl (by decide) ?_)))
                    have z_418 := RS_3 p_369.1 (a := (x_ns t nn (x_ns t nn a))) (by omega) (by omega) (by omega)
                    refine to_an (pc := 236) rw_225_236 rfl (to_c (pc := 237) rw_225_237 (x := (0 : Int32)) rfl rfl (to_i (pc := 238) rw_225_238 rfl (to_an (pc := 240) rw_225_240 rfl (tt_gI (pc := 241) rw_225_241 (g_o hG365 rfl) (v := (M370.2.1 77 9)) rfl (s_v (pc := 244) rw_225_244 (dp0 hd (by decide)) (ls0 := [.ref 77, .int (0 : Int32), .int r231, .int (M370.2.1 77 9)]) rfl (Nat.le_of_ble_eq_true rfl) (Nat.le_of_ble_eq_true rfl) rfl (to_rc rfl rfl rfl (g_o hG365 rfl)) rfl ?_)))))
                    have k_419 : (0 : Int32).toInt = 0 := rfl
                    have c_420 : M370.2.1 77 59 = (N.2.1 77 59) := (F_n F364 (show ¬ (77 = 77 ∧ 7 ≤ 59 ∧ 59 ≤ 10) by decide) (W_n W350 (by decide) (F_n F242 (show ¬ (77 < 0) by decide) (F_n F232 (show ¬ (77 < 0) by decide) (F_n F36 (show ¬ (77 = 77 ∧ 7 ≤ 59 ∧ 59 ≤ 10) by decide) rfl)))))
                    have t_421 : (M370.2.1 77 59).toInt = (N.2.1 77 59).toInt := congrArg Int32.toInt c_420
                    have c_422 : M370.2.1 77 66 = (N.2.1 77 66) := (F_n F364 (show ¬ (77 = 77 ∧ 7 ≤ 66 ∧ 66 ≤ 10) by decide) (W_n W350 (by decide) (F_n F242 (show ¬ (77 < 0) by decide) (F_n F232 (show ¬ (77 < 0) by decide) (F_n F36 (show ¬ (77 = 77 ∧ 7 ≤ 66 ∧ 66 ≤ 10) by decide) rfl)))))
                    have t_423 : (M370.2.1 77 66).toInt = (N.2.1 77 66).toInt := congrArg Int32.toInt c_422
                    have t_424 : (M370.2.1 81 (r231.toInt).toNat).toInt = (N.2.1 81 (r231.toInt).toNat).toInt := congrArg Int32.toInt (F_n F364 (show ¬ (81 = 77 ∧ 7 ≤ ((r231.toInt).toNat) ∧ ((r231.toInt).toNat) ≤ 10) by omega) (W_n W350 (by omega) (F_n F242 (show ¬ (81 < 0) by decide) (F_n F232 (show ¬ (81 < 0) by decide) (F_n F36 (show ¬ (81 = 77 ∧ 7 ≤ ((r231.toInt).toNat) ∧ ((r231.toInt).toNat) ≤ 10) by omega) rfl)))))
                    refine C_221 hX (dp1 hd (by decide)) hG365 (by omega) (by omega) (by omega) (by omega) (by omega) (by omega) (by rw [(F_n F364 (show ¬ (77 = 77 ∧ 7 ≤ 59 ∧ 59 ≤ 10) by decide) (W_n W350 (by omega) (F_n F242 (show ¬ (77 < 0) by decide) (F_n F232 (show ¬ (77 < 0) by decide) (F_n F36 (show ¬ (77 = 77 ∧ 7 ≤ 59 ∧ 59 ≤ 10) by decide) rfl)))))]; exact KN_f (fun a i z => (F_n F364 (show ¬ (a = 77 ∧ 7 ≤ i ∧ i ≤ 10) by omega) (W_n W350 (by /-r77,68-/ omega) (F_n F242 (show ¬ (a < 0) by omega) (F_n F232 (show ¬ (a < 0) by omega) (F_n F36 (show ¬ (a = 77 ∧ 7 ≤ i ∧ i ≤ 10) by omega) rfl)))))) g2.2.2) (by omega) (by omega) (by omega) (by omega) (k := (0 : Int32)) (p := r231) (o := (M370.2.1 77 9)) (fun M430 hG426 F425 p_427 p_428 p_429 => ?_)
                    have F431 := FR.c F371 F425 tg_391
                    have b_432 := g_b hG426 (a := 77) (i := 59) (lo := 0) (hi := 40) rfl rfl
                    have b_433 := g_b hG426 (a := 77) (i := 66) (lo := 0) (hi := 40) rfl rfl
                    refine to_an (pc := 247) rw_225_247 rfl (s_v (pc := 248) rw_225_248 (dp0 hd (by decide)) (ls0 := [.ref 77]) rfl (Nat.le_of_ble_eq_true rfl) (Nat.le_of_ble_eq_true rfl) rfl (to_rc rfl rfl rfl (g_o hG426 rfl)) rfl ?_)
                    have c_434 : M430.2.1 77 7 = (M370.2.1 77 7) := (F_n F425 (show ¬ (77 = 77 ∧ (7 = 59 ∨ 7 = 66) ∨ 112 ≤ 77 ∧ 77 ≤ 114 ∧ 40 ≤ 7 ∨ 77 = 116) by decide) rfl)
                    have t_435 : (M430.2.1 77 7).toInt = (M370.2.1 77 7).toInt := congrArg Int32.toInt c_434
                    have c_436 : M430.2.1 77 6 = (N.2.1 77 6) := (F_n F425 (show ¬ (77 = 77 ∧ (6 = 59 ∨ 6 = 66) ∨ 112 ≤ 77 ∧ 77 ≤ 114 ∧ 40 ≤ 6 ∨ 77 = 116) by decide) c_373)
                    have t_437 : (M430.2.1 77 6).toInt = (N.2.1 77 6).toInt := congrArg Int32.toInt c_436
                    have c_438 : M430.2.1 77 10 = (M370.2.1 77 10) := (F_n F425 (show ¬ (77 = 77 ∧ (10 = 59 ∨ 10 = 66) ∨ 112 ≤ 77 ∧ 77 ≤ 114 ∧ 40 ≤ 10 ∨ 77 = 116) by decide) rfl)
                    have t_439 : (M430.2.1 77 10).toInt = (M370.2.1 77 10).toInt := congrArg Int32.toInt c_438
                    have j_440 := (RS_f (tg_462 F425) p_369.1)
                    have z_441 := RS_b j_440 (a := (x_ns t nn (x_ns t nn a))) (by omega)
                    have j_442 := (TR_f (tg_463 F425) (TR_f (tg_42 F364) j_362))
                    have j_443 := (W9_f (tg_464 F425) (W9_f (tg_44 F364) j_363))
                    refine E_156 hX (dp1 hd (by decide)) hG426 (by omega) (by omega) (by omega) (by omega) j_442 j_443  (fun M450 hG445 F444 p_446 p_447 p_448 p_449 => ?_)
                    have F451 := FR.c F431 F444 tg_389
                    have b_452 := g_b hG445 (a := 77) (i := 7) (lo := 0) (hi := 500) rfl rfl
                    have c_453 : M450.2.1 77 6 = (N.2.1 77 6) := (F_n F444 (show ¬ (77 = 77 ∧ 7 ≤ 6 ∧ 6 ≤ 10) by decide) c_436)
                    have t_454 : (M450.2.1 77 6).toInt = (N.2.1 77 6).toInt := congrArg Int32.toInt c_453
                    have b_455 := g_b hG445 (a := 77) (i := 8) (lo := 0) (hi := 5) rfl rfl
                    have b_456 := g_b hG445 (a := 77) (i := 10) (lo := 0) (hi := 500) rfl rfl
                    have z_457 := RS_s p_449.2 (a := (x_ns t nn (x_ns t nn a))) (by omega)
                    refine to_c (pc := 251) rw_225_251 (x := (1 : Int32)) rfl rfl (s_r1 (pc := 252) rw_225_252 (A := 1) rfl (by decide) ?_)
                    have k_458 : (1 : Int32).toInt = 1 := rfl
                    have c_459 : M450.2.1 77 59 = (M430.2.1 77 59) := (F_n F444 (show ¬ (77 = 77 ∧ 7 ≤ 59 ∧ 59 ≤ 10) by decide) rfl)
                    have t_460 : (M450.2.1 77 59).toInt = (M430.2.1 77 59).toInt := congrArg Int32.toInt c_459
                    have c_461 : M450.2.1 77 65 = (N.2.1 77 65) := (F_n F444 (show ¬ (77 = 77 ∧ 7 ≤ 65 ∧ 65 ≤ 10) by decide) (F_n F425 (show ¬ (77 = 77 ∧ (65 = 59 ∨ 65 = 66) ∨ 112 ≤ 77 ∧ 77 ≤ 114 ∧ 40 ≤ 65 ∨ 77 = 116) by decide) (F_n F364 (show ¬ (77 = 77 ∧ 7 ≤ 65 ∧ 65 ≤ 10) by decide) (W_n W350 (by decide) (F_n F242 (show ¬ (77 < 0) by decide) (F_n F232 (show ¬ (77 < 0) by decide) (F_n F36 (show ¬ (77 = 77 ∧ 7 ≤ 65 ∧ 65 ≤ 10) by decide) rfl)))))))
                    have t_462 : (M450.2.1 77 65).toInt = (N.2.1 77 65).toInt := congrArg Int32.toInt c_461
                    have c_463 : M450.2.1 77 66 = (M430.2.1 77 66) := (F_n F444 (show ¬ (77 = 77 ∧ 7 ≤ 66 ∧ 66 ≤ 10) by decide) rfl)
                    have t_464 : (M450.2.1 77 66).toInt = (M430.2.1 77 66).toInt := congrArg Int32.toInt c_463
                    have c_465 : M450.2.1 77 67 = (N.2.1 77 67) := (F_n F444 (show ¬ (77 = 77 ∧ 7 ≤ 67 ∧ 67 ≤ 10) by decide) (F_n F425 (show ¬ (77 = 77 ∧ (67 = 59 ∨ 67 = 66) ∨ 112 ≤ 77 ∧ 77 ≤ 114 ∧ 40 ≤ 67 ∨ 77 = 116) by decide) (F_n F364 (show ¬ (77 = 77 ∧ 7 ≤ 67 ∧ 67 ≤ 10) by decide) (W_n W350 (by decide) (F_n F242 (show ¬ (77 < 0) by decide) (F_n F232 (show ¬ (77 < 0) by decide) (F_n F36 (show ¬ (77 = 77 ∧ 7 ≤ 67 ∧ 67 ≤ 10) by decide) rfl)))))))
                    have t_466 : (M450.2.1 77 67).toInt = (N.2.1 77 67).toInt := congrArg Int32.toInt c_465
                    have c_467 : M450.2.1 77 68 = (1 : Int32) := (F_n F444 (show ¬ (77 = 77 ∧ 7 ≤ 68 ∧ 68 ≤ 10) by decide) (F_n F425 (show ¬ (77 = 77 ∧ (68 = 59 ∨ 68 = 66) ∨ 112 ≤ 77 ∧ 77 ≤ 114 ∧ 40 ≤ 68 ∨ 77 = 116) by decide) (F_n F364 (show ¬ (77 = 77 ∧ 7 ≤ 68 ∧ 68 ≤ 10) by decide) (W_e W350))))
                    have t_468 : (M450.2.1 77 68).toInt = (1 : Int32).toInt := congrArg Int32.toInt c_467
                    have c_469 : M450.2.1 77 69 = (N.2.1 77 69) := (F_n F444 (show ¬ (77 = 77 ∧ 7 ≤ 69 ∧ 69 ≤ 10) by decide) (F_n F425 (show ¬ (77 = 77 ∧ (69 = 59 ∨ 69 = 66) ∨ 112 ≤ 77 ∧ 77 ≤ 114 ∧ 40 ≤ 69 ∨ 77 = 116) by decide) (F_n F364 (show ¬ (77 = 77 ∧ 7 ≤ 69 ∧ 69 ≤ 10) by decide) (W_n W350 (by decide) (F_n F242 (show ¬ (77 < 0) by decide) (F_n F232 (show ¬ (77 < 0) by decide) (F_n F36 (show ¬ (77 = 77 ∧ 7 ≤ 69 ∧ 69 ≤ 10) by decide) rfl)))))))
                    have t_470 : (M450.2.1 77 69).toInt = (N.2.1 77 69).toInt := congrArg Int32.toInt c_469
                    have s_472 := Wx_f (M := N) (M1 := M450) ((N.2.1 77 65).toInt).toNat (fun i z => (F_n F444 (show ¬ (115 = 77 ∧ 7 ≤ i ∧ i ≤ 10) by omega) (F_n F425 (show ¬ (115 = 77 ∧ (i = 59 ∨ i = 66) ∨ 112 ≤ 115 ∧ 115 ≤ 114 ∧ 40 ≤ i ∨ 115 = 116) by omega) (F_n F364 (show ¬ (115 = 77 ∧ 7 ≤ i ∧ i ≤ 10) by omega) (W_n W350 (by omega) (F_n F242 (show ¬ (115 < 0) by decide) (F_n F232 (show ¬ (115 < 0) by decide) (F_n F36 (show ¬ (115 = 77 ∧ 7 ≤ i ∧ i ≤ 10) by omega) rfl))))))))
                    have j_471 : QK M450 := QK_i (by unfold QK_c; rw [show ((M450.2.1 77 65).toInt).toNat = ((N.2.1 77 65).toInt).toNat by omega]; refine ⟨by omega, by omega, by omega, by omega⟩) (fun i z => by rw [(F_n F444 (show ¬ (115 = 77 ∧ 7 ≤ i ∧ i ≤ 10) by omega) (F_n F425 (show ¬ (115 = 77 ∧ (i = 59 ∨ i = 66) ∨ 112 ≤ 115 ∧ 115 ≤ 114 ∧ 40 ≤ i ∨ 115 = 116) by omega) (F_n F364 (show ¬ (115 = 77 ∧ 7 ≤ i ∧ i ≤ 10) by omega) (W_n W350 (by omega) (F_n F242 (show ¬ (115 < 0) by decide) (F_n F232 (show ¬ (115 < 0) by decide) (F_n F36 (show ¬ (115 = 77 ∧ 7 ≤ i ∧ i ≤ 10) by omega) rfl)))))))]; exact g2.2.1 i (by omega)) (by rw [(F_n F444 (show ¬ (77 = 77 ∧ 7 ≤ 59 ∧ 59 ≤ 10) by decide) rfl)]; exact KN_f (fun a i z => (F_n F444 (show ¬ (a = 77 ∧ 7 ≤ i ∧ i ≤ 10) by omega) rfl)) p_429)
                    exact h (1 : Int32) M450 hG445 F451 (by decide) (by decide) (by omega) (by omega) (fun _ => Or.imp (fun z => by omega) (fun z => by omega) p_448) (by omega) (fun _ => j_471) (fun _ => by rw [show ((M450.2.1 77 65).toInt).toNat = ((N.2.1 77 65).toInt).toNat by omega]; omega) (fun _ => p_449.1) (fun _ => ((q_nm (by omega) (by omega) g17 g14).trans (qn_v z_229 z_349 (by omega) (by omega))).trans (q_w (by omega) (by omega) (by omega) (by omega))) (fun z => absurd z (by decide))
                  · refine to_an (pc := 30) rw_162_30 rfl (to_c (pc := 31) rw_162_31 (x := (2 : Int32)) rfl rfl (s_v (pc := 32) rw_162_32 (dp1 hd (by decide)) (ls0 := [.ref 77, .int (2 : Int32)]) rfl (Nat.le_of_ble_eq_true rfl) (Nat.le_of_ble_eq_true rfl) rfl (to_rc rfl rfl rfl (g_o hG365 rfl)) rfl (to_an (pc := 0) rw_152_0 rfl (to_in (pc := 1) rw_152_1 rfl (s_pI (pc := 2) rw_152_2 hG365 rfl (fun M474 W473 => ?_))))))
                    have hG475 := g_wf hG365 W473 rfl rfl (by decide)
                    have F476 := FR.w F371 W473 (show 77 = 77 ∧ (4 = 4 ∨ 4 = 5 ∨ 7 ≤ 4 ∧ 4 ≤ 10) ∨ 77 = 77 ∧ (4 = 59 ∨ 65 ≤ 4 ∧ 4 ≤ 69) ∨ 112 ≤ 77 ∧ 77 ≤ 114 ∧ 40 ≤ 4 ∨ 77 = 115 ∨ 77 = 116 by decide)
                    refine to_an (pc := 5) rw_152_5 rfl (to_an (pc := 6) rw_152_6 rfl ?_)
                    have c_477 : M474.2.1 77 10 = (M370.2.1 77 10) := (W_n W473 (by decide) rfl)
                    refine tt_gI (pc := 7) rw_152_7 (g_o hG475 rfl) (v := (M370.2.1 77 10)) c_477 (s_pI (pc := 10) rw_152_10 hG475 rfl (fun M479 W478 => ?_))
                    have hG480 := g_wf hG475 W478 rfl rfl (by decide)
                    have F481 := FR.w F476 W478 (show 77 = 77 ∧ (5 = 4 ∨ 5 = 5 ∨ 7 ≤ 5 ∧ 5 ≤ 10) ∨ 77 = 77 ∧ (5 = 59 ∨ 65 ≤ 5 ∧ 5 ≤ 69) ∨ 112 ≤ 77 ∧ 77 ≤ 114 ∧ 40 ≤ 5 ∨ 77 = 115 ∨ 77 = 116 by decide)
                    refine to_c (pc := 13) rw_152_13 (x := (0 : Int32)) rfl rfl (s_r1 (pc := 14) rw_152_14 (A := 0) rfl (by decide) (b_ieq_t (pc := 35) rw_162_35 (A := 0) rfl (by decide) (to_c (pc := 42) rw_162_42 (x := (0 : Int32)) rfl rfl (s_r1 (pc := 43) rw_162_43 (A := 0) rfl (by decide) (b_ine_f (pc := 231) rw_225_231 (A := 0) rfl (by decide) ?_)))))
                    have c_482 : M479.2.1 77 4 = (2 : Int32) := (W_n W478 (by decide) (W_e W473))
                    have z_483 := RS_3x p_369.1 (a := (x_ns t nn (x_ns t nn a))) (m := v379.toInt - 1) (by omega) (by omega) (by omega) (by omega)
                    refine to_c (pc := 234) rw_225_234 (x := (0 : Int32)) rfl rfl (s_r1 (pc := 235) rw_225_235 (A := 0) rfl (by decide) ?_)
                    have k_484 : (0 : Int32).toInt = 0 := rfl
                    have c_485 : M479.2.1 77 7 = (M370.2.1 77 7) := (W_n W478 (by decide) (W_n W473 (by decide) rfl))
                    have t_486 : (M479.2.1 77 7).toInt = (M370.2.1 77 7).toInt := congrArg Int32.toInt c_485
                    have c_487 : M479.2.1 77 6 = (N.2.1 77 6) := (W_n W478 (by decide) (W_n W473 (by decide) c_373))
                    have t_488 : (M479.2.1 77 6).toInt = (N.2.1 77 6).toInt := congrArg Int32.toInt c_487
                    have k_489 : (2 : Int32).toInt = 2 := rfl
                    have t_490 : (M479.2.1 77 4).toInt = (2 : Int32).toInt := congrArg Int32.toInt c_482
                    have c_491 : M479.2.1 77 5 = (M370.2.1 77 10) := (W_e W478)
                    have t_492 : (M479.2.1 77 5).toInt = (M370.2.1 77 10).toInt := congrArg Int32.toInt c_491
                    have c_493 : M479.2.1 77 67 = (N.2.1 77 67) := (W_n W478 (by decide) (W_n W473 (by decide) (F_n F364 (show ¬ (77 = 77 ∧ 7 ≤ 67 ∧ 67 ≤ 10) by decide) (W_n W350 (by decide) (F_n F242 (show ¬ (77 < 0) by decide) (F_n F232 (show ¬ (77 < 0) by decide) (F_n F36 (show ¬ (77 = 77 ∧ 7 ≤ 67 ∧ 67 ≤ 10) by decide) rfl)))))))
                    have t_494 : (M479.2.1 77 67).toInt = (N.2.1 77 67).toInt := congrArg Int32.toInt c_493
                    have c_495 : M479.2.1 77 69 = (N.2.1 77 69) := (W_n W478 (by decide) (W_n W473 (by decide) (F_n F364 (show ¬ (77 = 77 ∧ 7 ≤ 69 ∧ 69 ≤ 10) by decide) (W_n W350 (by decide) (F_n F242 (show ¬ (77 < 0) by decide) (F_n F232 (show ¬ (77 < 0) by decide) (F_n F36 (show ¬ (77 = 77 ∧ 7 ≤ 69 ∧ 69 ≤ 10) by decide) rfl)))))))
                    have t_496 : (M479.2.1 77 69).toInt = (N.2.1 77 69).toInt := congrArg Int32.toInt c_495
                    exact h (0 : Int32) M479 hG480 F481 (by decide) (by decide) (by omega) (by omega) (fun z => absurd z (by decide)) (by omega) (fun z => absurd z (by omega)) (fun z => absurd z (by decide)) (fun z => absurd z (by decide)) (fun z => absurd z (by decide)) (fun _ => inl_e (by omega) (by omega) ((q_nm (by omega) (by omega) g17 g14).trans (qn_v2 z_229 z_349 (by omega) (by omega))))
              · refine to_an (pc := 8) rw_162_8 rfl (to_c (pc := 9) rw_162_9 (x := (1 : Int32)) rfl rfl (s_v (pc := 10) rw_162_10 (dp1 hd (by decide)) (ls0 := [.ref 77, .int (1 : Int32)]) rfl (Nat.le_of_ble_eq_true rfl) (Nat.le_of_ble_eq_true rfl) rfl (to_rc rfl rfl rfl (g_o hG365 rfl)) rfl (to_an (pc := 0) rw_152_0 rfl (to_in (pc := 1) rw_152_1 rfl (s_pI (pc := 2) rw_152_2 hG365 rfl (fun M498 W497 => ?_))))))
                have hG499 := g_wf hG365 W497 rfl rfl (by decide)
                have F500 := FR.w F371 W497 (show 77 = 77 ∧ (4 = 4 ∨ 4 = 5 ∨ 7 ≤ 4 ∧ 4 ≤ 10) ∨ 77 = 77 ∧ (4 = 59 ∨ 65 ≤ 4 ∧ 4 ≤ 69) ∨ 112 ≤ 77 ∧ 77 ≤ 114 ∧ 40 ≤ 4 ∨ 77 = 115 ∨ 77 = 116 by decide)
                refine to_an (pc := 5) rw_152_5 rfl (to_an (pc := 6) rw_152_6 rfl ?_)
                have c_501 : M498.2.1 77 10 = (M370.2.1 77 10) := (W_n W497 (by decide) rfl)
                refine tt_gI (pc := 7) rw_152_7 (g_o hG499 rfl) (v := (M370.2.1 77 10)) c_501 (s_pI (pc := 10) rw_152_10 hG499 rfl (fun M503 W502 => ?_))
                have hG504 := g_wf hG499 W502 rfl rfl (by decide)
                have F505 := FR.w F500 W502 (show 77 = 77 ∧ (5 = 4 ∨ 5 = 5 ∨ 7 ≤ 5 ∧ 5 ≤ 10) ∨ 77 = 77 ∧ (5 = 59 ∨ 65 ≤ 5 ∧ 5 ≤ 69) ∨ 112 ≤ 77 ∧ 77 ≤ 114 ∧ 40 ≤ 5 ∨ 77 = 115 ∨ 77 = 116 by decide)
                refine to_c (pc := 13) rw_152_13 (x := (0 : Int32)) rfl rfl (s_r1 (pc := 14) rw_152_14 (A := 0) rfl (by decide) (s_r1 (pc := 13) rw_162_13 (A := 0) rfl (by decide) (b_ine_f (pc := 231) rw_225_231 (A := 0) rfl (by decide) ?_)))
                have c_506 : M503.2.1 77 4 = (1 : Int32) := (W_n W502 (by decide) (W_e W497))
                refine to_c (pc := 234) rw_225_234 (x := (0 : Int32)) rfl rfl (s_r1 (pc := 235) rw_225_235 (A := 0) rfl (by decide) ?_)
                have k_507 : (0 : Int32).toInt = 0 := rfl
                have c_508 : M503.2.1 77 7 = (M370.2.1 77 7) := (W_n W502 (by decide) (W_n W497 (by decide) rfl))
                have t_509 : (M503.2.1 77 7).toInt = (M370.2.1 77 7).toInt := congrArg Int32.toInt c_508
                have c_510 : M503.2.1 77 6 = (N.2.1 77 6) := (W_n W502 (by decide) (W_n W497 (by decide) c_373))
                have t_511 : (M503.2.1 77 6).toInt = (N.2.1 77 6).toInt := congrArg Int32.toInt c_510
                have k_512 : (1 : Int32).toInt = 1 := rfl
                have t_513 : (M503.2.1 77 4).toInt = (1 : Int32).toInt := congrArg Int32.toInt c_506
                have c_514 : M503.2.1 77 5 = (M370.2.1 77 10) := (W_e W502)
                have t_515 : (M503.2.1 77 5).toInt = (M370.2.1 77 10).toInt := congrArg Int32.toInt c_514
                have c_516 : M503.2.1 77 67 = (N.2.1 77 67) := (W_n W502 (by decide) (W_n W497 (by decide) (F_n F364 (show ¬ (77 = 77 ∧ 7 ≤ 67 ∧ 67 ≤ 10) by decide) (W_n W350 (by decide) (F_n F242 (show ¬ (77 < 0) by decide) (F_n F232 (show ¬ (77 < 0) by decide) (F_n F36 (show ¬ (77 = 77 ∧ 7 ≤ 67 ∧ 67 ≤ 10) by decide) rfl)))))))
                have t_517 : (M503.2.1 77 67).toInt = (N.2.1 77 67).toInt := congrArg Int32.toInt c_516
                have c_518 : M503.2.1 77 69 = (N.2.1 77 69) := (W_n W502 (by decide) (W_n W497 (by decide) (F_n F364 (show ¬ (77 = 77 ∧ 7 ≤ 69 ∧ 69 ≤ 10) by decide) (W_n W350 (by decide) (F_n F242 (show ¬ (77 < 0) by decide) (F_n F232 (show ¬ (77 < 0) by decide) (F_n F36 (show ¬ (77 = 77 ∧ 7 ≤ 69 ∧ 69 ≤ 10) by decide) rfl)))))))
                have t_519 : (M503.2.1 77 69).toInt = (N.2.1 77 69).toInt := congrArg Int32.toInt c_518
                exact h (0 : Int32) M503 hG504 F505 (by decide) (by decide) (by omega) (by omega) (fun z => absurd z (by decide)) (by omega) (fun z => absurd z (by omega)) (fun z => absurd z (by decide)) (fun z => absurd z (by decide)) (fun z => absurd z (by decide)) (fun _ => inl_e (by omega) (by omega) ((q_nm (by omega) (by omega) g17 g14).trans (qn_v1 z_229 z_349 (by omega))))
