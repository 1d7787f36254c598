theorem tg_162 {M M1 : mm_M} (F : FR (fun a i : Nat => a = 77 ∧ 7 ≤ i ∧ i ≤ 10) M M1) : ∀ a i : Nat, (a = 77 ∧ 11 ≤ i ∧ i ≤ 13 ∨ 80 ≤ a ∧ a ≤ 84 ∧ i < 8 ∨ 85 ≤ a ∧ a ≤ 86 ∧ i < 12) → M1.2.1 a i = M.2.1 a i := fun a i z => F_n F (show ¬ (a = 77 ∧ 7 ≤ i ∧ i ≤ 10) by omega) rfl
theorem tg_163 {M M1 : mm_M} (F : FR (fun a i : Nat => a = 77 ∧ (i = 59 ∨ i = 66) ∨ 112 ≤ a ∧ a ≤ 114 ∧ 40 ≤ i ∨ a = 116) M M1) : ∀ a i : Nat, (a = 77 ∧ 6 ≤ i ∧ i ≤ 10) → M1.2.1 a i = M.2.1 a i := fun a i z => F_n F (show ¬ (a = 77 ∧ (i = 59 ∨ i = 66) ∨ 112 ≤ a ∧ a ≤ 114 ∧ 40 ≤ i ∨ a = 116) by omega) rfl
theorem tg_164 {M M1 : mm_M} (F : FR (fun a i : Nat => a < 0) M M1) : ∀ a i : Nat, (81 ≤ a ∧ a ≤ 84) → M1.2.1 a i = M.2.1 a i := fun a i z => F_n F (show ¬ (a < 0) by omega) rfl
theorem tg_165 {M M1 : mm_M} (F : FR (fun a i : Nat => a = 77 ∧ 7 ≤ i ∧ i ≤ 10) M M1) : ∀ a i : Nat, (81 ≤ a ∧ a ≤ 84) → M1.2.1 a i = M.2.1 a i := fun a i z => F_n F (show ¬ (a = 77 ∧ 7 ≤ i ∧ i ≤ 10) by omega) rfl
theorem tg_166 {M M1 : mm_M} (F : FR (fun a i : Nat => a = 77 ∧ (i = 59 ∨ i = 66) ∨ 112 ≤ a ∧ a ≤ 114 ∧ 40 ≤ i ∨ a = 116) M M1) : ∀ a i : Nat, a = 78 → M1.2.1 a i = M.2.1 a i := fun a i z => F_n F (show ¬ (a = 77 ∧ (i = 59 ∨ i = 66) ∨ 112 ≤ a ∧ a ≤ 114 ∧ 40 ≤ i ∨ a = 116) by omega) rfl
theorem tg_167 {M M1 : mm_M} (F : FR (fun a i : Nat => a = 77 ∧ (i = 59 ∨ i = 66) ∨ 112 ≤ a ∧ a ≤ 114 ∧ 40 ≤ i ∨ a = 116) M M1) : ∀ a i : Nat, a = 79 → M1.2.1 a i = M.2.1 a i := fun a i z => F_n F (show ¬ (a = 77 ∧ (i = 59 ∨ i = 66) ∨ 112 ≤ a ∧ a ≤ 114 ∧ 40 ≤ i ∨ a = 116) by omega) rfl
theorem tg_168 : ∀ a i : Nat, (a < 0) → (a = 77 ∧ (i = 4 ∨ i = 5 ∨ 7 ≤ i ∧ i ≤ 10) ∨ a = 77 ∧ (i = 59 ∨ 65 ≤ i ∧ i ≤ 69) ∨ 112 ≤ a ∧ a ≤ 114 ∧ 40 ≤ i ∨ a = 115 ∨ a = 116) := fun a i z => by omega
theorem tg_169 : ∀ a i : Nat, (a = 77 ∧ (i = 59 ∨ i = 66) ∨ 112 ≤ a ∧ a ≤ 114 ∧ 40 ≤ i ∨ a = 116) → (a = 77 ∧ (i = 4 ∨ i = 5 ∨ 7 ≤ i ∧ i ≤ 10) ∨ a = 77 ∧ (i = 59 ∨ 65 ≤ i ∧ i ≤ 69) ∨ 112 ≤ a ∧ a ≤ 114 ∧ 40 ≤ i ∨ a = 115 ∨ a = 116) := fun a i z => by omega
theorem tg_170 : ∀ a i : Nat, (81 ≤ a ∧ a ≤ 84) → ¬ (a = 77 ∧ i = 68) := fun a i z => by omega
theorem tg_171 : ∀ a i : Nat, (a = 77 ∧ 11 ≤ i ∧ i ≤ 13 ∨ 80 ≤ a ∧ a ≤ 84 ∧ i < 8 ∨ 85 ≤ a ∧ a ≤ 86 ∧ i < 12) → ¬ (a = 77 ∧ i = 68) := fun a i z => by omega
theorem tg_172 : ∀ a i : Nat, (81 ≤ a ∧ a ≤ 84) → ¬ (a = 77 ∧ i = 69) := fun a i z => by omega
theorem tg_173 : ∀ a i : Nat, (a = 77 ∧ 11 ≤ i ∧ i ≤ 13 ∨ 80 ≤ a ∧ a ≤ 84 ∧ i < 8 ∨ 85 ≤ a ∧ a ≤ 86 ∧ i < 12) → ¬ (a = 77 ∧ i = 69) := fun a i z => by omega
set_option maxRecDepth 4000 in
set_option maxHeartbeats 0 in
theorem U_225_0 {X : mm_X} {d : Nat} {M : mm_M} {Q : Option Value → mm_M → Prop} {t : Nat → Int} {nn : Int} {a : Int} {sg : x_S} {Wl9 : List Int} {P9 : x_GP} (hX : g_X X) (hd : 2 ≤ d) (q1 : (M.2.1 77 7).toInt ≤ (M.2.1 77 6).toInt) (q2 : QK M) (q3 : FA M) (q4 : (M.2.1 77 68).toInt = 0) (q5 : RS M t nn) (q6 : (M.2.1 77 10).toInt = a) (q7 : 0 ≤ nn) (q8 : nn ≤ 500) (q9 : TR M t nn) (q10 : W9 M) (q11 : PLk M sg) (q12 : (M.2.1 77 59).toInt + Wo M ((M.2.1 77 65).toInt).toNat = (M.2.1 77 69).toInt) (q13 : GST M Wl9 P9) (h : ∀ (r : Int32) (M1 : mm_M), g_G M1 → FR md_qr M M1 → (0 ≤ r.toInt) → (r.toInt ≤ 1) → ((M1.2.1 77 7).toInt ≤ (M1.2.1 77 6).toInt) → ((M.2.1 77 7).toInt ≤ (M1.2.1 77 7).toInt) → ((r.toInt = 1 → (M1.2.1 77 8).toInt = 0 ∨ (M.2.1 77 7).toInt < (M1.2.1 77 7).toInt)) → (r.toInt = 1 → ¬ (M.2.1 77 8).toInt = 0) → ((r.toInt = 1 → QK M1)) → ((r.toInt = 1 → (M1.2.1 77 59).toInt + Wo M1 ((M1.2.1 77 65).toInt).toNat = (M1.2.1 77 69).toInt)) → ((r.toInt = 1 → RS M1 t nn)) → ((r.toInt = 1 → ∃ (W2 : List Int) (P2 : x_GP), GST M1 W2 P2 ∧ x_gg t nn sg 0 (M.2.1 77 67).toInt (M.2.1 77 69).toInt Wl9 P9 a = x_gg t nn sg (M1.2.1 77 68).toInt (M1.2.1 77 67).toInt (M1.2.1 77 69).toInt W2 P2 (M1.2.1 77 10).toInt)) → ((r.toInt = 0 → x_gg t nn sg 0 (M.2.1 77 67).toInt (M.2.1 77 69).toInt Wl9 P9 a = Sum.inl ((M1.2.1 77 4).toInt, (M1.2.1 77 5).toInt))) → Q (some (.int r)) M1) : ∀ nn9 : Nat, (∀ (N : mm_M) (u1 : Value) (u2 : Value) (u3 : Value) (u4 : Value) (u5 : Value), g_G N → FR md_qr M N → ((N.2.1 77 59).toInt + Wo N ((N.2.1 77 65).toInt).toNat + 1 = (N.2.1 77 69).toInt) → (QK N) → ((N.2.1 77 7).toInt ≤ (N.2.1 77 6).toInt) → ((N.2.1 77 7).toInt = (M.2.1 77 7).toInt) → (FA N) → ((N.2.1 77 68).toInt = 0) → (RS N t nn) → ((N.2.1 77 10).toInt = a) → (TR N t nn) → (W9 N) → (PLk N sg) → ((N.2.1 77 69).toInt = (M.2.1 77 69).toInt + 1) → ((N.2.1 77 67).toInt = (M.2.1 77 67).toInt) → (¬ (M.2.1 77 69).toInt = 40) → ((N.2.1 77 8).toInt = 2) → ((M.2.1 77 8).toInt = 2) → (x_kind t nn a = 2) → (x_val t nn a = (N.2.1 77 9).toInt) → (GST N Wl9 P9) → (0 : Int) < (nn9 : Int) → mm_T X d 224 127 [.ref 77, u1, u2, u3, u4, u5] [] N Q) := by
  intro nn9
  induction nn9 with
  | zero =>
    intro N u1 u2 u3 u4 u5 hG F0 g1 g2 g3 g4 g5 g6 g7 g8 g9 g10 g11 g12 g13 g14 g15 g16 g17 g18 g19 hm
    have b_1 := g_b hG (a := 77) (i := 7) (lo := 0) (hi := 500) rfl rfl
    have b_2 := g_b hG (a := 77) (i := 6) (lo := 0) (hi := 500) rfl rfl
    have b_3 := g_b hG (a := 77) (i := 68) (lo := 0) (hi := 1) rfl rfl
    have b_4 := g_b hG (a := 77) (i := 10) (lo := 0) (hi := 500) rfl rfl
    have b_5 := g_b hG (a := 77) (i := 69) (lo := 0) (hi := 40) rfl rfl
    have b_6 := g_b hG (a := 77) (i := 67) (lo := 0) (hi := 8) rfl rfl
    have b_7 := g_b hG (a := 77) (i := 8) (lo := 0) (hi := 5) rfl rfl
    exfalso; omega
  | succ nn9 ih =>
    intro N u1 u2 u3 u4 u5 hG F0 g1 g2 g3 g4 g5 g6 g7 g8 g9 g10 g11 g12 g13 g14 g15 g16 g17 g18 g19 hm
    have b_8 := g_b hG (a := 77) (i := 7) (lo := 0) (hi := 500) rfl rfl
    have b_9 := g_b hG (a := 77) (i := 6) (lo := 0) (hi := 500) rfl rfl
    have b_10 := g_b hG (a := 77) (i := 68) (lo := 0) (hi := 1) rfl rfl
    have b_11 := g_b hG (a := 77) (i := 10) (lo := 0) (hi := 500) rfl rfl
    have b_12 := g_b hG (a := 77) (i := 69) (lo := 0) (hi := 40) rfl rfl
    have b_13 := g_b hG (a := 77) (i := 67) (lo := 0) (hi := 8) rfl rfl
    have b_14 := g_b hG (a := 77) (i := 8) (lo := 0) (hi := 5) rfl rfl
    have b_15 := g_b hG (a := 77) (i := 59) (lo := 0) (hi := 40) rfl rfl
    have b_16 := g_b hG (a := 77) (i := 65) (lo := 0) (hi := 48) rfl rfl
    have b_17 := g_b hG (a := 77) (i := 66) (lo := 0) (hi := 40) rfl rfl
    have s_18 := QK_e g2
    have s_19 := Wx_b N ((N.2.1 77 65).toInt).toNat
    have z_20 := x_fn_b (s := sg) (v := x_val t nn a) g11.1
    have z_21 := g11.2.1
    have z_22 := g11.2.2.1
    have z_23 := g11.2.2.2.1
    have z_24 := g11.1
    have z_25 := z_24.1
    have z_26 := z_24.2.1
    have z_27 := z_24.2.2.1
    have z_28 := z_24.2.2.2.1
    have z_29 := z_24.2.2.2.2.1
    have z_30 := z_24.2.2.2.2.2.1
    have b_31 := g_b hG (a := 77) (i := 11) (lo := 10) (hi := 60) rfl rfl
    have b_32 := g_b hG (a := 77) (i := 12) (lo := 0) (hi := 8) rfl rfl
    have b_33 := g_b hG (a := 77) (i := 13) (lo := 0) (hi := 12) rfl rfl
    have z_34 := RS_b g7 (a := a) (by (first | (clear g14 z_20; omega) | omega))
    refine to_an (pc := 127) rw_225_127 rfl ?_
    refine tt_gI (pc := 128) rw_225_128 (g_o hG rfl) (v := (N.2.1 77 9)) rfl ?_
    refine to_isn (pc := 131) rw_225_131 (ls2 := [.ref 77, .int (N.2.1 77 9), u2, u3, u4, u5]) rfl rfl ?_
    refine to_an (pc := 132) rw_225_132 rfl ?_
    refine tt_gI (pc := 133) rw_225_133 (g_o hG rfl) (v := (N.2.1 77 10)) rfl ?_
    refine to_isn (pc := 136) rw_225_136 (ls2 := [.ref 77, .int (N.2.1 77 9), .int (N.2.1 77 10), u3, u4, u5]) rfl rfl ?_
    refine to_an (pc := 137) rw_225_137 rfl ?_
    refine s_v (pc := 138) rw_225_138 (dp0 hd (by decide)) (ls0 := [.ref 77]) rfl (Nat.le_of_ble_eq_true rfl) (Nat.le_of_ble_eq_true rfl) rfl (to_rc rfl rfl rfl (g_o hG rfl)) rfl ?_
    have z_35 := RS_b g7 (a := a) (by (first | (clear g14 z_20; omega) | omega))
    refine E_156 hX (dp1 hd (by decide)) hG (by (first | (clear g14 z_20; omega) | omega)) (by (first | (clear g14 z_20; omega) | omega)) (by (first | (clear g14 z_20; omega) | omega)) (by (first | (clear g14 z_20; omega) | omega)) g9 g10  (fun M42 hG37 F36 p_38 p_39 p_40 p_41 => ?_)
    have F43 := FR.c F0 F36 tg_146
    have b_44 := g_b hG37 (a := 77) (i := 7) (lo := 0) (hi := 500) rfl rfl
    have c_45 : M42.2.1 77 6 = (N.2.1 77 6) := (F_n F36 (show ¬ (77 = 77 ∧ 7 ≤ 6 ∧ 6 ≤ 10) by decide) rfl)
    have t_46 : (M42.2.1 77 6).toInt = (N.2.1 77 6).toInt := congrArg Int32.toInt c_45
    have b_47 := g_b hG37 (a := 77) (i := 8) (lo := 0) (hi := 5) rfl rfl
    have b_48 := g_b hG37 (a := 77) (i := 10) (lo := 0) (hi := 500) rfl rfl
    have z_49 := RS_s p_41.2 (a := a) (by (first | (clear g14 z_20 p_40; omega) | omega))
    have z_50 := RS_k p_41.1 (a := (x_ns t nn a)) (by (first | (clear g14 z_20 p_40; omega) | omega))
    refine to_an (pc := 141) rw_225_141 rfl ?_
    refine to_c (pc := 142) rw_225_142 (x := (61 : Int32)) rfl rfl ?_
    refine s_v (pc := 144) rw_225_144 (dp0 hd (by decide)) (ls0 := [.ref 77, .int (61 : Int32)]) rfl (Nat.le_of_ble_eq_true rfl) (Nat.le_of_ble_eq_true rfl) rfl (to_rc rfl rfl rfl (g_o hG37 rfl)) rfl ?_
    refine to_an (pc := 0) rw_159_0 rfl ?_
    refine tt_gI (pc := 1) rw_159_1 (g_o hG37 rfl) (v := (M42.2.1 77 8)) rfl ?_
    refine to_c (pc := 4) rw_159_4 (x := (4 : Int32)) rfl rfl ?_
    refine b_cne (pc := 5) rw_159_5 (A := (M42.2.1 77 8).toInt) (B := 4) rfl rfl (fun h51 => ?_) (fun h51 => ?_)
    · refine to_c (pc := 20) rw_159_20 (x := (0 : Int32)) rfl rfl ?_
      refine s_r1 (pc := 21) rw_159_21 (A := 0) rfl (by decide) ?_
      refine to_isn (pc := 147) rw_225_147 (ls2 := [.ref 77, .int (N.2.1 77 9), .int (N.2.1 77 10), .int (0 : Int32), u4, u5]) rfl rfl ?_
      have z_52 : ¬ (x_kind t nn (x_ns t nn a) = 4 ∧ x_val t nn (x_ns t nn a) = 61) := by (first | (clear g14 z_20 p_40 h51; omega) | (clear g14 z_20 p_40; omega) | omega)
      refine to_an (pc := 148) rw_225_148 rfl ?_
      refine to_in (pc := 149) rw_225_149 rfl ?_
      refine s_v (pc := 150) rw_225_150 (dp0 hd (by decide)) (ls0 := [.ref 77, .int (N.2.1 77 9), .null]) rfl (Nat.le_of_ble_eq_true rfl) (Nat.le_of_ble_eq_true rfl) rfl (to_rc rfl rfl rfl (g_o hG37 rfl)) rfl ?_
      have j_53 := (PLk_f (tg_162 F36) g11)
      refine E_175 hX (dp1 hd (by decide)) hG37 j_53 (n := (N.2.1 77 9)) (sg := sg) (fun r54 M60 hG56 F55 p_57 p_58 p_59 => ?_)
      have F61 := FR.c F43 F55 tg_168
      have z_62 := x_fn_v (s := sg) (r := 1) (v := (N.2.1 77 9).toInt) (w := x_val t nn a) (by (first | (clear g14 z_20 p_40 h51 z_52; omega) | (clear g14 z_20 p_40 z_52; omega) | omega))
      refine to_is (pc := 153) rw_225_153 (ls2 := [.ref 77, .int (N.2.1 77 9), .int (N.2.1 77 10), .int (0 : Int32), .int r54, u5]) rfl rfl ?_
      refine to_an (pc := 155) rw_225_155 rfl ?_
      refine to_in (pc := 156) rw_225_156 rfl ?_
      refine s_v (pc := 157) rw_225_157 (dp0 hd (by decide)) (ls0 := [.ref 77, .int (N.2.1 77 9), .null]) rfl (Nat.le_of_ble_eq_true rfl) (Nat.le_of_ble_eq_true rfl) rfl (to_rc rfl rfl rfl (g_o hG56 rfl)) rfl ?_
      have j_63 := (PLk_f (tg_101 F55) j_53)
      refine E_176 hX (dp1 hd (by decide)) hG56 j_63 (n := (N.2.1 77 9)) (sg := sg) (fun r64 M70 hG66 F65 p_67 p_68 p_69 => ?_)
      have F71 := FR.c F61 F65 tg_168
      have z_72 := x_fn_v (s := sg) (r := 6) (v := (N.2.1 77 9).toInt) (w := x_val t nn a) (by (first | (clear g14 z_20 p_40 h51 z_52; omega) | (clear g14 z_20 p_40 z_52; omega) | omega))
      refine to_is (pc := 160) rw_225_160 (ls2 := [.ref 77, .int (N.2.1 77 9), .int (N.2.1 77 10), .int (0 : Int32), .int r54, .int r64]) rfl rfl ?_
      refine to_in (pc := 162) rw_225_162 rfl ?_
      refine b_ieq_t (pc := 163) rw_225_163 (A := 0) rfl (by decide) ?_
      refine to_i (pc := 178) rw_225_178 rfl ?_
      refine b_ige (pc := 180) rw_225_180 (A := r64.toInt) rfl (fun h73 => ?_) (fun h73 => ?_)
      · refine to_an (pc := 194) rw_225_194 rfl ?_
        refine to_c (pc := 195) rw_225_195 (x := (1 : Int32)) rfl rfl ?_
        refine s_pI (pc := 196) rw_225_196 hG66 rfl (fun M75 W74 => ?_)
        have hG76 := g_w hG66 W74 (A := 1) rfl (lo := 0) (hi := 1) rfl rfl (by (first | (clear g14 z_20 p_40 h51 z_52; omega) | (clear g14 z_20 p_40 z_52; omega) | omega)) (by decide)
        have F77 := FR.w F71 W74 (show 77 = 77 ∧ (68 = 4 ∨ 68 = 5 ∨ 7 ≤ 68 ∧ 68 ≤ 10) ∨ 77 = 77 ∧ (68 = 59 ∨ 65 ≤ 68 ∧ 68 ≤ 69) ∨ 112 ≤ 77 ∧ 77 ≤ 114 ∧ 40 ≤ 68 ∨ 77 = 115 ∨ 77 = 116 by decide)
        refine to_in (pc := 199) rw_225_199 rfl ?_
        refine b_ine_f (pc := 200) rw_225_200 (A := 0) rfl (by decide) ?_
        refine to_an (pc := 203) rw_225_203 rfl ?_
        refine to_c (pc := 204) rw_225_204 (x := (1 : Int32)) rfl rfl ?_
        refine to_i (pc := 205) rw_225_205 rfl ?_
        refine to_c (pc := 207) rw_225_207 (x := (0 : Int32)) rfl rfl ?_
        refine s_v (pc := 208) rw_225_208 (dp0 hd (by decide)) (ls0 := [.ref 77, .int (1 : Int32), .int r64, .int (0 : Int32)]) rfl (Nat.le_of_ble_eq_true rfl) (Nat.le_of_ble_eq_true rfl) rfl (to_rc rfl rfl rfl (g_o hG76 rfl)) rfl ?_
        have k_78 : (1 : Int32).toInt = 1 := rfl
        have k_79 : (0 : Int32).toInt = 0 := rfl
        have c_80 : M75.2.1 77 59 = (N.2.1 77 59) := (W_n W74 (by decide) (F_n F65 (show ¬ (77 < 0) by decide) (F_n F55 (show ¬ (77 < 0) by decide) (F_n F36 (show ¬ (77 = 77 ∧ 7 ≤ 59 ∧ 59 ≤ 10) by decide) rfl))))
        have t_81 : (M75.2.1 77 59).toInt = (N.2.1 77 59).toInt := congrArg Int32.toInt c_80
        have c_82 : M75.2.1 77 66 = (N.2.1 77 66) := (W_n W74 (by decide) (F_n F65 (show ¬ (77 < 0) by decide) (F_n F55 (show ¬ (77 < 0) by decide) (F_n F36 (show ¬ (77 = 77 ∧ 7 ≤ 66 ∧ 66 ≤ 10) by decide) rfl))))
        have t_83 : (M75.2.1 77 66).toInt = (N.2.1 77 66).toInt := congrArg Int32.toInt c_82
        have z_84 := g19.2.2.2
        have z_85 := g19.2.1.1
        refine E_221 hX (dp1 hd (by decide)) hG76 (by (first | (clear g14 z_20 p_40 h51 z_52; omega) | (clear g14 z_20 p_40 z_52; omega) | omega)) (by (first | (clear g14 z_20 p_40 h51 z_52; omega) | (clear g14 z_20 p_40 z_52; omega) | omega)) (by (first | (clear g14 z_20 p_40 h51 z_52; omega) | (clear g14 z_20 p_40 z_52; omega) | omega)) (by (first | (clear g14 z_20 p_40 h51 z_52; omega) | (clear g14 z_20 p_40 z_52; omega) | omega)) (by (first | (clear g14 z_20 p_40 h51 z_52; omega) | (clear g14 z_20 p_40 z_52; omega) | omega)) (by (first | (clear g14 z_20 p_40 h51 z_52; omega) | (clear g14 z_20 p_40 z_52; omega) | omega)) (by rw [(W_n W74 (by (first | (clear g14 z_20 p_40 h51 z_52; omega) | (clear g14 z_20 p_40 z_52; omega) | omega)) (F_n F65 (show ¬ (77 < 0) by decide) (F_n F55 (show ¬ (77 < 0) by decide) (F_n F36 (show ¬ (77 = 77 ∧ 7 ≤ 59 ∧ 59 ≤ 10) by decide) rfl))))]; exact KN_f (fun a i z => (W_n W74 (by (first | (clear g14 z_20 p_40 h51 z_52; omega) | (clear g14 z_20 p_40 z_52; omega) | omega)) (F_n F65 (show ¬ (a < 0) by (first | (clear g14 z_20 p_40 h51 z_52; omega) | (clear g14 z_20 p_40 z_52; omega) | omega)) (F_n F55 (show ¬ (a < 0) by (first | (clear g14 z_20 p_40 h51 z_52; omega) | (clear g14 z_20 p_40 z_52; omega) | omega)) (F_n F36 (show ¬ (a = 77 ∧ 7 ≤ i ∧ i ≤ 10) by (first | (clear g14 z_20 p_40 h51 z_52; omega) | (clear g14 z_20 p_40 z_52; omega) | omega)) rfl))))) g2.2.2) (by (first | (clear g14 z_20 p_40 h51 z_52; omega) | (clear g14 z_20 p_40 z_52; omega) | omega)) (by (first | (clear g14 z_20 p_40 h51 z_52; omega) | (clear g14 z_20 p_40 z_52; omega) | omega)) (by (first | (clear g14 z_20 p_40 h51 z_52; omega) | (clear g14 z_20 p_40 z_52; omega) | omega)) (by (first | (clear g14 z_20 p_40 h51 z_52; omega) | (clear g14 z_20 p_40 z_52; omega) | omega)) (by (first | (clear g14 z_20 p_40 h51 z_52; omega) | (clear g14 z_20 p_40 z_52; omega) | omega)) (GST_f (fun a i z => (W_n W74 (by (first | (clear g14 z_20 p_40 h51 z_52; omega) | (clear g14 z_20 p_40 z_52; omega) | omega)) (F_n F65 (show ¬ (a < 0) by (first | (clear g14 z_20 p_40 h51 z_52; omega) | (clear g14 z_20 p_40 z_52; omega) | omega)) (F_n F55 (show ¬ (a < 0) by (first | (clear g14 z_20 p_40 h51 z_52; omega) | (clear g14 z_20 p_40 z_52; omega) | omega)) (F_n F36 (show ¬ (a = 77 ∧ 7 ≤ i ∧ i ≤ 10) by (first | (clear g14 z_20 p_40 h51 z_52; omega) | (clear g14 z_20 p_40 z_52; omega) | omega)) rfl))))) g19).2.1 (GST_f (fun a i z => (W_n W74 (by (first | (clear g14 z_20 p_40 h51 z_52; omega) | (clear g14 z_20 p_40 z_52; omega) | omega)) (F_n F65 (show ¬ (a < 0) by (first | (clear g14 z_20 p_40 h51 z_52; omega) | (clear g14 z_20 p_40 z_52; omega) | omega)) (F_n F55 (show ¬ (a < 0) by (first | (clear g14 z_20 p_40 h51 z_52; omega) | (clear g14 z_20 p_40 z_52; omega) | omega)) (F_n F36 (show ¬ (a = 77 ∧ 7 ≤ i ∧ i ≤ 10) by (first | (clear g14 z_20 p_40 h51 z_52; omega) | (clear g14 z_20 p_40 z_52; omega) | omega)) rfl))))) g19).2.2.1 ⟨fun _ => ⟨rfl, rfl⟩, fun z => by exfalso; omega, fun z => by exfalso; omega⟩ (k := (1 : Int32)) (p := r64) (o := (0 : Int32)) (P9 := P9) (H9 := (x_hd P9.1.1 P9.2.toNat)) (f9 := r64.toInt) (s9 := 0) (fun M93 hG87 F86 p_88 p_89 p_90 p_91 p_92 => ?_)
        have F94 := FR.c F77 F86 tg_169
        have b_95 := g_b hG87 (a := 77) (i := 59) (lo := 0) (hi := 40) rfl rfl
        have b_96 := g_b hG87 (a := 77) (i := 66) (lo := 0) (hi := 40) rfl rfl
        have c_97 : M93.2.1 77 65 = (N.2.1 77 65) := (F_n F86 (show ¬ (77 = 77 ∧ (65 = 59 ∨ 65 = 66) ∨ 112 ≤ 77 ∧ 77 ≤ 114 ∧ 40 ≤ 65 ∨ 77 = 116) by decide) (W_n W74 (by decide) (F_n F65 (show ¬ (77 < 0) by decide) (F_n F55 (show ¬ (77 < 0) by decide) (F_n F36 (show ¬ (77 = 77 ∧ 7 ≤ 65 ∧ 65 ≤ 10) by decide) rfl)))))
        have t_98 : (M93.2.1 77 65).toInt = (N.2.1 77 65).toInt := congrArg Int32.toInt c_97
        refine to_c (pc := 211) rw_225_211 (x := (1 : Int32)) rfl rfl ?_
        refine s_r1 (pc := 212) rw_225_212 (A := 1) rfl (by decide) ?_
        have c_99 : M93.2.1 77 7 = (M42.2.1 77 7) := (F_n F86 (show ¬ (77 = 77 ∧ (7 = 59 ∨ 7 = 66) ∨ 112 ≤ 77 ∧ 77 ≤ 114 ∧ 40 ≤ 7 ∨ 77 = 116) by decide) (W_n W74 (by decide) (F_n F65 (show ¬ (77 < 0) by decide) (F_n F55 (show ¬ (77 < 0) by decide) rfl))))
        have t_100 : (M93.2.1 77 7).toInt = (M42.2.1 77 7).toInt := congrArg Int32.toInt c_99
        have c_101 : M93.2.1 77 6 = (N.2.1 77 6) := (F_n F86 (show ¬ (77 = 77 ∧ (6 = 59 ∨ 6 = 66) ∨ 112 ≤ 77 ∧ 77 ≤ 114 ∧ 40 ≤ 6 ∨ 77 = 116) by decide) (W_n W74 (by decide) (F_n F65 (show ¬ (77 < 0) by decide) (F_n F55 (show ¬ (77 < 0) by decide) c_45))))
        have t_102 : (M93.2.1 77 6).toInt = (N.2.1 77 6).toInt := congrArg Int32.toInt c_101
        have c_103 : M93.2.1 77 8 = (M42.2.1 77 8) := (F_n F86 (show ¬ (77 = 77 ∧ (8 = 59 ∨ 8 = 66) ∨ 112 ≤ 77 ∧ 77 ≤ 114 ∧ 40 ≤ 8 ∨ 77 = 116) by decide) (W_n W74 (by decide) (F_n F65 (show ¬ (77 < 0) by decide) (F_n F55 (show ¬ (77 < 0) by decide) rfl))))
        have t_104 : (M93.2.1 77 8).toInt = (M42.2.1 77 8).toInt := congrArg Int32.toInt c_103
        have c_105 : M93.2.1 77 67 = (N.2.1 77 67) := (F_n F86 (show ¬ (77 = 77 ∧ (67 = 59 ∨ 67 = 66) ∨ 112 ≤ 77 ∧ 77 ≤ 114 ∧ 40 ≤ 67 ∨ 77 = 116) by decide) (W_n W74 (by decide) (F_n F65 (show ¬ (77 < 0) by decide) (F_n F55 (show ¬ (77 < 0) by decide) (F_n F36 (show ¬ (77 = 77 ∧ 7 ≤ 67 ∧ 67 ≤ 10) by decide) rfl)))))
        have t_106 : (M93.2.1 77 67).toInt = (N.2.1 77 67).toInt := congrArg Int32.toInt c_105
        have c_107 : M93.2.1 77 68 = (1 : Int32) := (F_n F86 (show ¬ (77 = 77 ∧ (68 = 59 ∨ 68 = 66) ∨ 112 ≤ 77 ∧ 77 ≤ 114 ∧ 40 ≤ 68 ∨ 77 = 116) by decide) (W_e W74))
        have t_108 : (M93.2.1 77 68).toInt = (1 : Int32).toInt := congrArg Int32.toInt c_107
        have c_109 : M93.2.1 77 69 = (N.2.1 77 69) := (F_n F86 (show ¬ (77 = 77 ∧ (69 = 59 ∨ 69 = 66) ∨ 112 ≤ 77 ∧ 77 ≤ 114 ∧ 40 ≤ 69 ∨ 77 = 116) by decide) (W_n W74 (by decide) (F_n F65 (show ¬ (77 < 0) by decide) (F_n F55 (show ¬ (77 < 0) by decide) (F_n F36 (show ¬ (77 = 77 ∧ 7 ≤ 69 ∧ 69 ≤ 10) by decide) rfl)))))
        have t_110 : (M93.2.1 77 69).toInt = (N.2.1 77 69).toInt := congrArg Int32.toInt c_109
        have s_112 := Wx_f (M := N) (M1 := M93) ((N.2.1 77 65).toInt).toNat (fun i z => (F_n F86 (show ¬ (115 = 77 ∧ (i = 59 ∨ i = 66) ∨ 112 ≤ 115 ∧ 115 ≤ 114 ∧ 40 ≤ i ∨ 115 = 116) by (first | (clear g14 z_20 p_40 h51 z_52; omega) | (clear g14 z_20 p_40 z_52; omega) | omega)) (W_n W74 (by (first | (clear g14 z_20 p_40 h51 z_52; omega) | (clear g14 z_20 p_40 z_52; omega) | omega)) (F_n F65 (show ¬ (115 < 0) by decide) (F_n F55 (show ¬ (115 < 0) by decide) (F_n F36 (show ¬ (115 = 77 ∧ 7 ≤ i ∧ i ≤ 10) by (first | (clear g14 z_20 p_40 h51 z_52; omega) | (clear g14 z_20 p_40 z_52; omega) | omega)) rfl))))))
        have j_111 : QK M93 := QK_i (by unfold QK_c; rw [show ((M93.2.1 77 65).toInt).toNat = ((N.2.1 77 65).toInt).toNat by (first | (clear g14 z_20 p_40 h51 z_52; omega) | (clear g14 z_20 p_40 z_52; omega) | omega)]; refine ⟨by (first | (clear g14 z_20 p_40 h51 z_52; omega) | (clear g14 z_20 p_40 z_52; omega) | omega), by (first | (clear g14 z_20 p_40 h51 z_52; omega) | (clear g14 z_20 p_40 z_52; omega) | omega), by (first | (clear g14 z_20 p_40 h51 z_52; omega) | (clear g14 z_20 p_40 z_52; omega) | omega), by (first | (clear g14 z_20 p_40 h51 z_52; omega) | (clear g14 z_20 p_40 z_52; omega) | omega)⟩) (fun i z => by rw [(F_n F86 (show ¬ (115 = 77 ∧ (i = 59 ∨ i = 66) ∨ 112 ≤ 115 ∧ 115 ≤ 114 ∧ 40 ≤ i ∨ 115 = 116) by (first | (clear g14 z_20 p_40 h51 z_52; omega) | (clear g14 z_20 p_40 z_52; omega) | omega)) (W_n W74 (by (first | (clear g14 z_20 p_40 h51 z_52; omega) | (clear g14 z_20 p_40 z_52; omega) | omega)) (F_n F65 (show ¬ (115 < 0) by decide) (F_n F55 (show ¬ (115 < 0) by decide) (F_n F36 (show ¬ (115 = 77 ∧ 7 ≤ i ∧ i ≤ 10) by (first | (clear g14 z_20 p_40 h51 z_52; omega) | (clear g14 z_20 p_40 z_52; omega) | omega)) rfl)))))]; exact g2.2.1 i (by (first | (clear g14 z_20 p_40 h51 z_52; omega) | (clear g14 z_20 p_40 z_52; omega) | omega))) p_90
        have j_113 := (RS_f (tg_163 F86) (RS_f (fun a i z => W_n W74 (tg_153 a i z) rfl) (RS_f (tg_45 F65) (RS_f (tg_45 F55) p_41.1))))
        have c_114 : M93.2.1 77 10 = (M42.2.1 77 10) := (F_n F86 (show ¬ (77 = 77 ∧ (10 = 59 ∨ 10 = 66) ∨ 112 ≤ 77 ∧ 77 ≤ 114 ∧ 40 ≤ 10 ∨ 77 = 116) by decide) (W_n W74 (by decide) (F_n F65 (show ¬ (77 < 0) by decide) (F_n F55 (show ¬ (77 < 0) by decide) rfl))))
        have t_115 : (M93.2.1 77 10).toInt = (M42.2.1 77 10).toInt := congrArg Int32.toInt c_114
        exact h (1 : Int32) M93 hG87 F94 (by decide) (by decide) (by (first | (clear g14 z_20 p_40 h51 z_52; omega) | (clear g14 z_20 p_40 z_52; omega) | omega)) (by (first | (clear g14 z_20 p_40 h51 z_52; omega) | (clear g14 z_20 p_40 z_52; omega) | omega)) (fun _ => Or.imp (fun z => by (first | (clear g14 z_20 p_40 h51 z_52; omega) | (clear g14 z_20 p_40 z_52; omega) | omega)) (fun z => by (first | (clear g14 z_20 p_40 h51 z_52; omega) | (clear g14 z_20 p_40 z_52; omega) | omega)) p_40) (by (first | (clear g14 z_20 p_40 h51 z_52; omega) | (clear g14 z_20 p_40 z_52; omega) | omega)) (fun _ => j_111) (fun _ => by rw [show ((M93.2.1 77 65).toInt).toNat = ((N.2.1 77 65).toInt).toNat by (first | (clear g14 z_20 p_40 h51 z_52; omega) | (clear g14 z_20 p_40 z_52; omega) | omega)]; (first | (clear g14 z_20 p_40 h51 z_52; omega) | (clear g14 z_20 p_40 z_52; omega) | omega)) (fun _ => j_113) (fun _ => ⟨Wl9, x_lw t nn sg P9 a, (GST_l (k2 := 1) (f2 := x_fn sg 6 (x_val t nn a)) (s2 := 0) g19 (by (first | (clear g14 z_20 p_40 h51 z_52; omega) | (clear g14 z_20 p_40 z_52; omega) | omega)) (WTR_f (M1 := M93) (fun i => (F_n F86 (show ¬ (115 = 77 ∧ (i = 59 ∨ i = 66) ∨ 112 ≤ 115 ∧ 115 ≤ 114 ∧ 40 ≤ i ∨ 115 = 116) by (first | (clear g14 z_20 p_40 h51 z_52; omega) | (clear g14 z_20 p_40 z_52; omega) | omega)) (W_n W74 (by (first | (clear g14 z_20 p_40 h51 z_52; omega) | (clear g14 z_20 p_40 z_52; omega) | omega)) (F_n F65 (show ¬ (115 < 0) by decide) (F_n F55 (show ¬ (115 < 0) by decide) (F_n F36 (show ¬ (115 = 77 ∧ 7 ≤ i ∧ i ≤ 10) by (first | (clear g14 z_20 p_40 h51 z_52; omega) | (clear g14 z_20 p_40 z_52; omega) | omega)) rfl)))))) (by (first | (clear g14 z_20 p_40 h51 z_52; omega) | (clear g14 z_20 p_40 z_52; omega) | omega)) g19.1) p_91 p_92 (by (first | (clear g14 z_20 p_40 h51 z_52; omega) | (clear g14 z_20 p_40 z_52; omega) | omega)) (by (first | (clear g14 z_20 p_40 h51 z_52; omega) | (clear g14 z_20 p_40 z_52; omega) | omega)) (by (first | (clear g14 z_20 p_40 h51 z_52; omega) | (clear g14 z_20 p_40 z_52; omega) | omega)) (by (first | (clear g14 z_20 p_40 h51 z_52; omega) | (clear g14 z_20 p_40 z_52; omega) | omega))), ((g_nm (by (first | (clear g14 z_20 p_40 h51 z_52; omega) | (clear g14 z_20 p_40 z_52; omega) | omega)) (by (first | (clear g14 z_20 p_40 h51 z_52; omega) | (clear g14 z_20 p_40 z_52; omega) | omega)) g17 g14).trans (hn_w z_52 (by (first | (clear g14 z_20 p_40 h51 z_52; omega) | (clear g14 z_20 p_40 z_52; omega) | omega)))).trans (g_v (by (first | (clear g14 z_20 p_40 h51 z_52; omega) | (clear g14 z_20 p_40 z_52; omega) | omega)) (by (first | (clear g14 z_20 p_40 h51 z_52; omega) | (clear g14 z_20 p_40 z_52; omega) | omega)) (by (first | (clear g14 z_20 p_40 h51 z_52; omega) | (clear g14 z_20 p_40 z_52; omega) | omega)) rfl (by (first | (clear g14 z_20 p_40 h51 z_52; omega) | (clear g14 z_20 p_40 z_52; omega) | omega)))⟩) (fun z => absurd z (by decide))
      · refine to_an (pc := 183) rw_225_183 rfl ?_
        refine to_in (pc := 184) rw_225_184 rfl ?_
        refine s_pI (pc := 185) rw_225_185 hG66 rfl (fun M117 W116 => ?_)
        have hG118 := g_w hG66 W116 (A := (N.2.1 77 10).toInt) rfl (lo := 0) (hi := 500) rfl rfl (by (first | (clear g14 z_20 p_40 h51 z_52; omega) | (clear g14 z_20 p_40 z_52; omega) | omega)) (by decide)
        have F119 := FR.w F71 W116 (show 77 = 77 ∧ (10 = 4 ∨ 10 = 5 ∨ 7 ≤ 10 ∧ 10 ≤ 10) ∨ 77 = 77 ∧ (10 = 59 ∨ 65 ≤ 10 ∧ 10 ≤ 69) ∨ 112 ≤ 77 ∧ 77 ≤ 114 ∧ 40 ≤ 10 ∨ 77 = 115 ∨ 77 = 116 by decide)
        refine to_an (pc := 188) rw_225_188 rfl ?_
        refine to_c (pc := 189) rw_225_189 (x := (4 : Int32)) rfl rfl ?_
        refine s_v (pc := 190) rw_225_190 (dp0 hd (by decide)) (ls0 := [.ref 77, .int (4 : Int32)]) rfl (Nat.le_of_ble_eq_true rfl) (Nat.le_of_ble_eq_true rfl) rfl (to_rc rfl rfl rfl (g_o hG118 rfl)) rfl ?_
        refine to_an (pc := 0) rw_152_0 rfl ?_
        refine to_in (pc := 1) rw_152_1 rfl ?_
        refine s_pI (pc := 2) rw_152_2 hG118 rfl (fun M121 W120 => ?_)
        have hG122 := g_wf hG118 W120 rfl rfl (by decide)
        have F123 := FR.w F119 W120 (show 77 = 77 ∧ (4 = 4 ∨ 4 = 5 ∨ 7 ≤ 4 ∧ 4 ≤ 10) ∨ 77 = 77 ∧ (4 = 59 ∨ 65 ≤ 4 ∧ 4 ≤ 69) ∨ 112 ≤ 77 ∧ 77 ≤ 114 ∧ 40 ≤ 4 ∨ 77 = 115 ∨ 77 = 116 by decide)
        refine to_an (pc := 5) rw_152_5 rfl ?_
        refine to_an (pc := 6) rw_152_6 rfl ?_
        have c_124 : M121.2.1 77 10 = (N.2.1 77 10) := (W_n W120 (by decide) (W_e W116))
        refine tt_gI (pc := 7) rw_152_7 (g_o hG122 rfl) (v := (N.2.1 77 10)) c_124 ?_
        refine s_pI (pc := 10) rw_152_10 hG122 rfl (fun M126 W125 => ?_)
        have hG127 := g_wf hG122 W125 rfl rfl (by decide)
        have F128 := FR.w F123 W125 (show 77 = 77 ∧ (5 = 4 ∨ 5 = 5 ∨ 7 ≤ 5 ∧ 5 ≤ 10) ∨ 77 = 77 ∧ (5 = 59 ∨ 65 ≤ 5 ∧ 5 ≤ 69) ∨ 112 ≤ 77 ∧ 77 ≤ 114 ∧ 40 ≤ 5 ∨ 77 = 115 ∨ 77 = 116 by decide)
        refine to_c (pc := 13) rw_152_13 (x := (0 : Int32)) rfl rfl ?_
        refine s_r1 (pc := 14) rw_152_14 (A := 0) rfl (by decide) ?_
        refine s_r1 (pc := 193) rw_225_193 (A := 0) rfl (by decide) ?_
        have k_129 : (0 : Int32).toInt = 0 := rfl
        have c_130 : M126.2.1 77 7 = (M42.2.1 77 7) := (W_n W125 (by decide) (W_n W120 (by decide) (W_n W116 (by decide) (F_n F65 (show ¬ (77 < 0) by decide) (F_n F55 (show ¬ (77 < 0) by decide) rfl)))))
        have t_131 : (M126.2.1 77 7).toInt = (M42.2.1 77 7).toInt := congrArg Int32.toInt c_130
        have c_132 : M126.2.1 77 6 = (N.2.1 77 6) := (W_n W125 (by decide) (W_n W120 (by decide) (W_n W116 (by decide) (F_n F65 (show ¬ (77 < 0) by decide) (F_n F55 (show ¬ (77 < 0) by decide) c_45)))))
        have t_133 : (M126.2.1 77 6).toInt = (N.2.1 77 6).toInt := congrArg Int32.toInt c_132
        have c_134 : M126.2.1 77 4 = (4 : Int32) := (W_n W125 (by decide) (W_e W120))
        have k_135 : (4 : Int32).toInt = 4 := rfl
        have t_136 : (M126.2.1 77 4).toInt = (4 : Int32).toInt := congrArg Int32.toInt c_134
        have c_137 : M126.2.1 77 5 = (N.2.1 77 10) := (W_e W125)
        have t_138 : (M126.2.1 77 5).toInt = (N.2.1 77 10).toInt := congrArg Int32.toInt c_137
        have c_139 : M126.2.1 77 67 = (N.2.1 77 67) := (W_n W125 (by decide) (W_n W120 (by decide) (W_n W116 (by decide) (F_n F65 (show ¬ (77 < 0) by decide) (F_n F55 (show ¬ (77 < 0) by decide) (F_n F36 (show ¬ (77 = 77 ∧ 7 ≤ 67 ∧ 67 ≤ 10) by decide) rfl))))))
        have t_140 : (M126.2.1 77 67).toInt = (N.2.1 77 67).toInt := congrArg Int32.toInt c_139
        have c_141 : M126.2.1 77 69 = (N.2.1 77 69) := (W_n W125 (by decide) (W_n W120 (by decide) (W_n W116 (by decide) (F_n F65 (show ¬ (77 < 0) by decide) (F_n F55 (show ¬ (77 < 0) by decide) (F_n F36 (show ¬ (77 = 77 ∧ 7 ≤ 69 ∧ 69 ≤ 10) by decide) rfl))))))
        have t_142 : (M126.2.1 77 69).toInt = (N.2.1 77 69).toInt := congrArg Int32.toInt c_141
        exact h (0 : Int32) M126 hG127 F128 (by decide) (by decide) (by (first | (clear g14 z_20 p_40 h51 z_52; omega) | (clear g14 z_20 p_40 z_52; omega) | omega)) (by (first | (clear g14 z_20 p_40 h51 z_52; omega) | (clear g14 z_20 p_40 z_52; omega) | omega)) (fun z => absurd z (by decide)) (by (first | (clear g14 z_20 p_40 h51 z_52; omega) | (clear g14 z_20 p_40 z_52; omega) | omega)) (fun z => absurd z (by (first | (clear g14 z_20 p_40 h51 z_52; omega) | (clear g14 z_20 p_40 z_52; omega) | omega))) (fun z => absurd z (by decide)) (fun z => absurd z (by decide)) (fun z => absurd z (by decide)) (fun _ => ginl (by (first | (clear g14 z_20 p_40 h51 z_52; omega) | (clear g14 z_20 p_40 z_52; omega) | omega)) (by (first | (clear g14 z_20 p_40 h51 z_52; omega) | (clear g14 z_20 p_40 z_52; omega) | omega)) ((g_nm (by (first | (clear g14 z_20 p_40 h51 z_52; omega) | (clear g14 z_20 p_40 z_52; omega) | omega)) (by (first | (clear g14 z_20 p_40 h51 z_52; omega) | (clear g14 z_20 p_40 z_52; omega) | omega)) g17 g14).trans (hn_wx z_52 (by (first | (clear g14 z_20 p_40 h51 z_52; omega) | (clear g14 z_20 p_40 z_52; omega) | omega)))))
    · refine to_an (pc := 8) rw_159_8 rfl ?_
      refine tt_gI (pc := 9) rw_159_9 (g_o hG37 rfl) (v := (M42.2.1 77 9)) rfl ?_
      refine to_in (pc := 12) rw_159_12 rfl ?_
      refine b_cne (pc := 13) rw_159_13 (A := (M42.2.1 77 9).toInt) (B := 61) rfl rfl (fun h143 => ?_) (fun h143 => ?_)
      · refine to_c (pc := 20) rw_159_20 (x := (0 : Int32)) rfl rfl ?_
        refine s_r1 (pc := 21) rw_159_21 (A := 0) rfl (by decide) ?_
        refine to_isn (pc := 147) rw_225_147 (ls2 := [.ref 77, .int (N.2.1 77 9), .int (N.2.1 77 10), .int (0 : Int32), u4, u5]) rfl rfl ?_
        have z_144 := RS_4 p_41.1 (a := (x_ns t nn a)) (by (first | (clear g14 z_20 p_40 h143; omega) | (clear g14 z_20 p_40; omega) | omega)) (by (first | (clear g14 z_20 p_40 h143; omega) | (clear g14 z_20 p_40; omega) | omega))
        have z_145 : ¬ (x_kind t nn (x_ns t nn a) = 4 ∧ x_val t nn (x_ns t nn a) = 61) := by (first | (clear g14 z_20 p_40 h143; omega) | (clear g14 z_20 p_40; omega) | omega)
        refine to_an (pc := 148) rw_225_148 rfl ?_
        refine to_in (pc := 149) rw_225_149 rfl ?_
        refine s_v (pc := 150) rw_225_150 (dp0 hd (by decide)) (ls0 := [.ref 77, .int (N.2.1 77 9), .null]) rfl (Nat.le_of_ble_eq_true rfl) (Nat.le_of_ble_eq_true rfl) rfl (to_rc rfl rfl rfl (g_o hG37 rfl)) rfl ?_
        have j_146 := (PLk_f (tg_162 F36) g11)
        refine E_175 hX (dp1 hd (by decide)) hG37 j_146 (n := (N.2.1 77 9)) (sg := sg) (fun r147 M153 hG149 F148 p_150 p_151 p_152 => ?_)
        have F154 := FR.c F43 F148 tg_168
        have z_155 := x_fn_v (s := sg) (r := 1) (v := (N.2.1 77 9).toInt) (w := x_val t nn a) (by (first | (clear g14 z_20 p_40 h143 z_145; omega) | (clear g14 z_20 p_40 z_145; omega) | omega))
        refine to_is (pc := 153) rw_225_153 (ls2 := [.ref 77, .int (N.2.1 77 9), .int (N.2.1 77 10), .int (0 : Int32), .int r147, u5]) rfl rfl ?_
        refine to_an (pc := 155) rw_225_155 rfl ?_
        refine to_in (pc := 156) rw_225_156 rfl ?_
        refine s_v (pc := 157) rw_225_157 (dp0 hd (by decide)) (ls0 := [.ref 77, .int (N.2.1 77 9), .null]) rfl (Nat.le_of_ble_eq_true rfl) (Nat.le_of_ble_eq_true rfl) rfl (to_rc rfl rfl rfl (g_o hG149 rfl)) rfl ?_
        have j_156 := (PLk_f (tg_101 F148) j_146)
        refine E_176 hX (dp1 hd (by decide)) hG149 j_156 (n := (N.2.1 77 9)) (sg := sg) (fun r157 M163 hG159 F158 p_160 p_161 p_162 => ?_)
        have F164 := FR.c F154 F158 tg_168
        have z_165 := x_fn_v (s := sg) (r := 6) (v := (N.2.1 77 9).toInt) (w := x_val t nn a) (by (first | (clear g14 z_20 p_40 h143 z_145; omega) | (clear g14 z_20 p_40 z_145; omega) | omega))
        refine to_is (pc := 160) rw_225_160 (ls2 := [.ref 77, .int (N.2.1 77 9), .int (N.2.1 77 10), .int (0 : Int32), .int r147, .int r157]) rfl rfl ?_
        refine to_in (pc := 162) rw_225_162 rfl ?_
        refine b_ieq_t (pc := 163) rw_225_163 (A := 0) rfl (by decide) ?_
        refine to_i (pc := 178) rw_225_178 rfl ?_
        refine b_ige (pc := 180) rw_225_180 (A := r157.toInt) rfl (fun h166 => ?_) (fun h166 => ?_)
        · refine to_an (pc := 194) rw_225_194 rfl ?_
          refine to_c (pc := 195) rw_225_195 (x := (1 : Int32)) rfl rfl ?_
          refine s_pI (pc := 196) rw_225_196 hG159 rfl (fun M168 W167 => ?_)
          have hG169 := g_w hG159 W167 (A := 1) rfl (lo := 0) (hi := 1) rfl rfl (by (first | (clear g14 z_20 p_40 h143 z_145; omega) | (clear g14 z_20 p_40 z_145; omega) | omega)) (by decide)
          have F170 := FR.w F164 W167 (show 77 = 77 ∧ (68 = 4 ∨ 68 = 5 ∨ 7 ≤ 68 ∧ 68 ≤ 10) ∨ 77 = 77 ∧ (68 = 59 ∨ 65 ≤ 68 ∧ 68 ≤ 69) ∨ 112 ≤ 77 ∧ 77 ≤ 114 ∧ 40 ≤ 68 ∨ 77 = 115 ∨ 77 = 116 by decide)
          refine to_in (pc := 199) rw_225_199 rfl ?_
          refine b_ine_f (pc := 200) rw_225_200 (A := 0) rfl (by decide) ?_
          refine to_an (pc := 203) rw_225_203 rfl ?_
          refine to_c (pc := 204) rw_225_204 (x := (1 : Int32)) rfl rfl ?_
          refine to_i (pc := 205) rw_225_205 rfl ?_
          refine to_c (pc := 207) rw_225_207 (x := (0 : Int32)) rfl rfl ?_
          refine s_v (pc := 208) rw_225_208 (dp0 hd (by decide)) (ls0 := [.ref 77, .int (1 : Int32), .int r157, .int (0 : Int32)]) rfl (Nat.le_of_ble_eq_true rfl) (Nat.le_of_ble_eq_true rfl) rfl (to_rc rfl rfl rfl (g_o hG169 rfl)) rfl ?_
          have k_171 : (1 : Int32).toInt = 1 := rfl
          have k_172 : (0 : Int32).toInt = 0 := rfl
          have c_173 : M168.2.1 77 59 = (N.2.1 77 59) := (W_n W167 (by decide) (F_n F158 (show ¬ (77 < 0) by decide) (F_n F148 (show ¬ (77 < 0) by decide) (F_n F36 (show ¬ (77 = 77 ∧ 7 ≤ 59 ∧ 59 ≤ 10) by decide) rfl))))
          have t_174 : (M168.2.1 77 59).toInt = (N.2.1 77 59).toInt := congrArg Int32.toInt c_173
          have c_175 : M168.2.1 77 66 = (N.2.1 77 66) := (W_n W167 (by decide) (F_n F158 (show ¬ (77 < 0) by decide) (F_n F148 (show ¬ (77 < 0) by decide) (F_n F36 (show ¬ (77 = 77 ∧ 7 ≤ 66 ∧ 66 ≤ 10) by decide) rfl))))
          have t_176 : (M168.2.1 77 66).toInt = (N.2.1 77 66).toInt := congrArg Int32.toInt c_175
          have z_177 := g19.2.2.2
          have z_178 := g19.2.1.1
          refine E_221 hX (dp1 hd (by decide)) hG169 (by (first | (clear g14 z_20 p_40 h143 z_145; omega) | (clear g14 z_20 p_40 z_145; omega) | omega)) (by (first | (clear g14 z_20 p_40 h143 z_145; omega) | (clear g14 z_20 p_40 z_145; omega) | omega)) (by (first | (clear g14 z_20 p_40 h143 z_145; omega) | (clear g14 z_20 p_40 z_145; omega) | omega)) (by (first | (clear g14 z_20 p_40 h143 z_145; omega) | (clear g14 z_20 p_40 z_145; omega) | omega)) (by (first | (clear g14 z_20 p_40 h143 z_145; omega) | (clear g14 z_20 p_40 z_145; omega) | omega)) (by (first | (clear g14 z_20 p_40 h143 z_145; omega) | (clear g14 z_20 p_40 z_145; omega) | omega)) (by rw [(W_n W167 (by (first | (clear g14 z_20 p_40 h143 z_145; omega) | (clear g14 z_20 p_40 z_145; omega) | omega)) (F_n F158 (show ¬ (77 < 0) by decide) (F_n F148 (show ¬ (77 < 0) by decide) (F_n F36 (show ¬ (77 = 77 ∧ 7 ≤ 59 ∧ 59 ≤ 10) by decide) rfl))))]; exact KN_f (fun a i z => (W_n W167 (by (first | (clear g14 z_20 p_40 h143 z_145; omega) | (clear g14 z_20 p_40 z_145; omega) | omega)) (F_n F158 (show ¬ (a < 0) by (first | (clear g14 z_20 p_40 h143 z_145; omega) | (clear g14 z_20 p_40 z_145; omega) | omega)) (F_n F148 (show ¬ (a < 0) by (first | (clear g14 z_20 p_40 h143 z_145; omega) | (clear g14 z_20 p_40 z_145; omega) | omega)) (F_n F36 (show ¬ (a = 77 ∧ 7 ≤ i ∧ i ≤ 10) by (first | (clear g14 z_20 p_40 h143 z_145; omega) | (clear g14 z_20 p_40 z_145; omega) | omega)) rfl))))) g2.2.2) (by (first | (clear g14 z_20 p_40 h143 z_145; omega) | (clear g14 z_20 p_40 z_145; omega) | omega)) (by (first | (clear g14 z_20 p_40 h143 z_145; omega) | (clear g14 z_20 p_40 z_145; omega) | omega)) (by (first | (clear g14 z_20 p_40 h143 z_145; omega) | (clear g14 z_20 p_40 z_145; omega) | omega)) (by (first | (clear g14 z_20 p_40 h143 z_145; omega) | (clear g14 z_20 p_40 z_145; omega) | omega)) (by (first | (clear g14 z_20 p_40 h143 z_145; omega) | (clear g14 z_20 p_40 z_145; omega) | omega)) (GST_f (fun a i z => (W_n W167 (by (first | (clear g14 z_20 p_40 h143 z_145; omega) | (clear g14 z_20 p_40 z_145; omega) | omega)) (F_n F158 (show ¬ (a < 0) by (first | (clear g14 z_20 p_40 h143 z_145; omega) | (clear g14 z_20 p_40 z_145; omega) | omega)) (F_n F148 (show ¬ (a < 0) by (first | (clear g14 z_20 p_40 h143 z_145; omega) | (clear g14 z_20 p_40 z_145; omega) | omega)) (F_n F36 (show ¬ (a = 77 ∧ 7 ≤ i ∧ i ≤ 10) by (first | (clear g14 z_20 p_40 h143 z_145; omega) | (clear g14 z_20 p_40 z_145; omega) | omega)) rfl))))) g19).2.1 (GST_f (fun a i z => (W_n W167 (by (first | (clear g14 z_20 p_40 h143 z_145; omega) | (clear g14 z_20 p_40 z_145; omega) | omega)) (F_n F158 (show ¬ (a < 0) by (first | (clear g14 z_20 p_40 h143 z_145; omega) | (clear g14 z_20 p_40 z_145; omega) | omega)) (F_n F148 (show ¬ (a < 0) by (first | (clear g14 z_20 p_40 h143 z_145; omega) | (clear g14 z_20 p_40 z_145; omega) | omega)) (F_n F36 (show ¬ (a = 77 ∧ 7 ≤ i ∧ i ≤ 10) by (first | (clear g14 z_20 p_40 h143 z_145; omega) | (clear g14 z_20 p_40 z_145; omega) | omega)) rfl))))) g19).2.2.1 ⟨fun _ => ⟨rfl, rfl⟩, fun z => by exfalso; omega, fun z => by exfalso; omega⟩ (k := (1 : Int32)) (p := r157) (o := (0 : Int32)) (P9 := P9) (H9 := (x_hd P9.1.1 P9.2.toNat)) (f9 := r157.toInt) (s9 := 0) (fun M186 hG180 F179 p_181 p_182 p_183 p_184 p_185 => ?_)
          have F187 := FR.c F170 F179 tg_169
          have b_188 := g_b hG180 (a := 77) (i := 59) (lo := 0) (hi := 40) rfl rfl
          have b_189 := g_b hG180 (a := 77) (i := 66) (lo := 0) (hi := 40) rfl rfl
          have c_190 : M186.2.1 77 65 = (N.2.1 77 65) := (F_n F179 (show ¬ (77 = 77 ∧ (65 = 59 ∨ 65 = 66) ∨ 112 ≤ 77 ∧ 77 ≤ 114 ∧ 40 ≤ 65 ∨ 77 = 116) by decide) (W_n W167 (by decide) (F_n F158 (show ¬ (77 < 0) by decide) (F_n F148 (show ¬ (77 < 0) by decide) (F_n F36 (show ¬ (77 = 77 ∧ 7 ≤ 65 ∧ 65 ≤ 10) by decide) rfl)))))
          have t_191 : (M186.2.1 77 65).toInt = (N.2.1 77 65).toInt := congrArg Int32.toInt c_190
          refine to_c (pc := 211) rw_225_211 (x := (1 : Int32)) rfl rfl ?_
          refine s_r1 (pc := 212) rw_225_212 (A := 1) rfl (by decide) ?_
          have c_192 : M186.2.1 77 7 = (M42.2.1 77 7) := (F_n F179 (show ¬ (77 = 77 ∧ (7 = 59 ∨ 7 = 66) ∨ 112 ≤ 77 ∧ 77 ≤ 114 ∧ 40 ≤ 7 ∨ 77 = 116) by decide) (W_n W167 (by decide) (F_n F158 (show ¬ (77 < 0) by decide) (F_n F148 (show ¬ (77 < 0) by decide) rfl))))
          have t_193 : (M186.2.1 77 7).toInt = (M42.2.1 77 7).toInt := congrArg Int32.toInt c_192
          have c_194 : M186.2.1 77 6 = (N.2.1 77 6) := (F_n F179 (show ¬ (77 = 77 ∧ (6 = 59 ∨ 6 = 66) ∨ 112 ≤ 77 ∧ 77 ≤ 114 ∧ 40 ≤ 6 ∨ 77 = 116) by decide) (W_n W167 (by decide) (F_n F158 (show ¬ (77 < 0) by decide) (F_n F148 (show ¬ (77 < 0) by decide) c_45))))
          have t_195 : (M186.2.1 77 6).toInt = (N.2.1 77 6).toInt := congrArg Int32.toInt c_194
          have c_196 : M186.2.1 77 8 = (M42.2.1 77 8) := (F_n F179 (show ¬ (77 = 77 ∧ (8 = 59 ∨ 8 = 66) ∨ 112 ≤ 77 ∧ 77 ≤ 114 ∧ 40 ≤ 8 ∨ 77 = 116) by decide) (W_n W167 (by decide) (F_n F158 (show ¬ (77 < 0) by decide) (F_n F148 (show ¬ (77 < 0) by decide) rfl))))
          have t_197 : (M186.2.1 77 8).toInt = (M42.2.1 77 8).toInt := congrArg Int32.toInt c_196
          have c_198 : M186.2.1 77 67 = (N.2.1 77 67) := (F_n F179 (show ¬ (77 = 77 ∧ (67 = 59 ∨ 67 = 66) ∨ 112 ≤ 77 ∧ 77 ≤ 114 ∧ 40 ≤ 67 ∨ 77 = 116) by decide) (W_n W167 (by decide) (F_n F158 (show ¬ (77 < 0) by decide) (F_n F148 (show ¬ (77 < 0) by decide) (F_n F36 (show ¬ (77 = 77 ∧ 7 ≤ 67 ∧ 67 ≤ 10) by decide) rfl)))))
          have t_199 : (M186.2.1 77 67).toInt = (N.2.1 77 67).toInt := congrArg Int32.toInt c_198
          have c_200 : M186.2.1 77 68 = (1 : Int32) := (F_n F179 (show ¬ (77 = 77 ∧ (68 = 59 ∨ 68 = 66) ∨ 112 ≤ 77 ∧ 77 ≤ 114 ∧ 40 ≤ 68 ∨ 77 = 116) by decide) (W_e W167))
          have t_201 : (M186.2.1 77 68).toInt = (1 : Int32).toInt := congrArg Int32.toInt c_200
          have c_202 : M186.2.1 77 69 = (N.2.1 77 69) := (F_n F179 (show ¬ (77 = 77 ∧ (69 = 59 ∨ 69 = 66) ∨ 112 ≤ 77 ∧ 77 ≤ 114 ∧ 40 ≤ 69 ∨ 77 = 116) by decide) (W_n W167 (by decide) (F_n F158 (show ¬ (77 < 0) by decide) (F_n F148 (show ¬ (77 < 0) by decide) (F_n F36 (show ¬ (77 = 77 ∧ 7 ≤ 69 ∧ 69 ≤ 10) by decide) rfl)))))
          have t_203 : (M186.2.1 77 69).toInt = (N.2.1 77 69).toInt := congrArg Int32.toInt c_202
          have s_205 := Wx_f (M := N) (M1 := M186) ((N.2.1 77 65).toInt).toNat (fun i z => (F_n F179 (show ¬ (115 = 77 ∧ (i = 59 ∨ i = 66) ∨ 112 ≤ 115 ∧ 115 ≤ 114 ∧ 40 ≤ i ∨ 115 = 116) by (first | (clear g14 z_20 p_40 h143 z_145; omega) | (clear g14 z_20 p_40 z_145; omega) | omega)) (W_n W167 (by (first | (clear g14 z_20 p_40 h143 z_145; omega) | (clear g14 z_20 p_40 z_145; omega) | omega)) (F_n F158 (show ¬ (115 < 0) by decide) (F_n F148 (show ¬ (115 < 0) by decide) (F_n F36 (show ¬ (115 = 77 ∧ 7 ≤ i ∧ i ≤ 10) by (first | (clear g14 z_20 p_40 h143 z_145; omega) | (clear g14 z_20 p_40 z_145; omega) | omega)) rfl))))))
          have j_204 : QK M186 := QK_i (by unfold QK_c; rw [show ((M186.2.1 77 65).toInt).toNat = ((N.2.1 77 65).toInt).toNat by (first | (clear g14 z_20 p_40 h143 z_145; omega) | (clear g14 z_20 p_40 z_145; omega) | omega)]; refine ⟨by (first | (clear g14 z_20 p_40 h143 z_145; omega) | (clear g14 z_20 p_40 z_145; omega) | omega), by (first | (clear g14 z_20 p_40 h143 z_145; omega) | (clear g14 z_20 p_40 z_145; omega) | omega), by (first | (clear g14 z_20 p_40 h143 z_145; omega) | (clear g14 z_20 p_40 z_145; omega) | omega), by (first | (clear g14 z_20 p_40 h143 z_145; omega) | (clear g14 z_20 p_40 z_145; omega) | omega)⟩) (fun i z => by rw [(F_n F179 (show ¬ (115 = 77 ∧ (i = 59 ∨ i = 66) ∨ 112 ≤ 115 ∧ 115 ≤ 114 ∧ 40 ≤ i ∨ 115 = 116) by (first | (clear g14 z_20 p_40 h143 z_145; omega) | (clear g14 z_20 p_40 z_145; omega) | omega)) (W_n W167 (by (first | (clear g14 z_20 p_40 h143 z_145; omega) | (clear g14 z_20 p_40 z_145; omega) | omega)) (F_n F158 (show ¬ (115 < 0) by decide) (F_n F148 (show ¬ (115 < 0) by decide) (F_n F36 (show ¬ (115 = 77 ∧ 7 ≤ i ∧ i ≤ 10) by (first | (clear g14 z_20 p_40 h143 z_145; omega) | (clear g14 z_20 p_40 z_145; omega) | omega)) rfl)))))]; exact g2.2.1 i (by (first | (clear g14 z_20 p_40 h143 z_145; omega) | (clear g14 z_20 p_40 z_145; omega) | omega))) p_183
          have j_206 := (RS_f (tg_163 F179) (RS_f (fun a i z => W_n W167 (tg_153 a i z) rfl) (RS_f (tg_45 F158) (RS_f (tg_45 F148) p_41.1))))
          have c_207 : M186.2.1 77 10 = (M42.2.1 77 10) := (F_n F179 (show ¬ (77 = 77 ∧ (10 = 59 ∨ 10 = 66) ∨ 112 ≤ 77 ∧ 77 ≤ 114 ∧ 40 ≤ 10 ∨ 77 = 116) by decide) (W_n W167 (by decide) (F_n F158 (show ¬ (77 < 0) by decide) (F_n F148 (show ¬ (77 < 0) by decide) rfl))))
          have t_208 : (M186.2.1 77 10).toInt = (M42.2.1 77 10).toInt := congrArg Int32.toInt c_207
          exact h (1 : Int32) M186 hG180 F187 (by decide) (by decide) (by (first | (clear g14 z_20 p_40 h143 z_145; omega) | (clear g14 z_20 p_40 z_145; omega) | omega)) (by (first | (clear g14 z_20 p_40 h143 z_145; omega) | (clear g14 z_20 p_40 z_145; omega) | omega)) (fun _ => Or.imp (fun z => by (first | (clear g14 z_20 p_40 h143 z_145; omega) | (clear g14 z_20 p_40 z_145; omega) | omega)) (fun z => by (first | (clear g14 z_20 p_40 h143 z_145; omega) | (clear g14 z_20 p_40 z_145; omega) | omega)) p_40) (by (first | (clear g14 z_20 p_40 h143 z_145; omega) | (clear g14 z_20 p_40 z_145; omega) | omega)) (fun _ => j_204) (fun _ => by rw [show ((M186.2.1 77 65).toInt).toNat = ((N.2.1 77 65).toInt).toNat by (first | (clear g14 z_20 p_40 h143 z_145; omega) | (clear g14 z_20 p_40 z_145; omega) | omega)]; (first | (clear g14 z_20 p_40 h143 z_145; omega) | (clear g14 z_20 p_40 z_145; omega) | omega)) (fun _ => j_206) (fun _ => ⟨Wl9, x_lw t nn sg P9 a, (GST_l (k2 := 1) (f2 := x_fn sg 6 (x_val t nn a)) (s2 := 0) g19 (by (first | (clear g14 z_20 p_40 h143 z_145; omega) | (clear g14 z_20 p_40 z_145; omega) | omega)) (WTR_f (M1 := M186) (fun i => (F_n F179 (show ¬ (115 = 77 ∧ (i = 59 ∨ i = 66) ∨ 112 ≤ 115 ∧ 115 ≤ 114 ∧ 40 ≤ i ∨ 115 = 116) by (first | (clear g14 z_20 p_40 h143 z_145; omega) | (clear g14 z_20 p_40 z_145; omega) | omega)) (W_n W167 (by (first | (clear g14 z_20 p_40 h143 z_145; omega) | (clear g14 z_20 p_40 z_145; omega) | omega)) (F_n F158 (show ¬ (115 < 0) by decide) (F_n F148 (show ¬ (115 < 0) by decide) (F_n F36 (show ¬ (115 = 77 ∧ 7 ≤ i ∧ i ≤ 10) by (first | (clear g14 z_20 p_40 h143 z_145; omega) | (clear g14 z_20 p_40 z_145; omega) | omega)) rfl)))))) (by (first | (clear g14 z_20 p_40 h143 z_145; omega) | (clear g14 z_20 p_40 z_145; omega) | omega)) g19.1) p_184 p_185 (by (first | (clear g14 z_20 p_40 h143 z_145; omega) | (clear g14 z_20 p_40 z_145; omega) | omega)) (by (first | (clear g14 z_20 p_40 h143 z_145; omega) | (clear g14 z_20 p_40 z_145; omega) | omega)) (by (first | (clear g14 z_20 p_40 h143 z_145; omega) | (clear g14 z_20 p_40 z_145; omega) | omega)) (by (first | (clear g14 z_20 p_40 h143 z_145; omega) | (clear g14 z_20 p_40 z_145; omega) | omega))), ((g_nm (by (first | (clear g14 z_20 p_40 h143 z_145; omega) | (clear g14 z_20 p_40 z_145; omega) | omega)) (by (first | (clear g14 z_20 p_40 h143 z_145; omega) | (clear g14 z_20 p_40 z_145; omega) | omega)) g17 g14).trans (hn_w z_145 (by (first | (clear g14 z_20 p_40 h143 z_145; omega) | (clear g14 z_20 p_40 z_145; omega) | omega)))).trans (g_v (by (first | (clear g14 z_20 p_40 h143 z_145; omega) | (clear g14 z_20 p_40 z_145; omega) | omega)) (by (first | (clear g14 z_20 p_40 h143 z_145; omega) | (clear g14 z_20 p_40 z_145; omega) | omega)) (by (first | (clear g14 z_20 p_40 h143 z_145; omega) | (clear g14 z_20 p_40 z_145; omega) | omega)) rfl (by (first | (clear g14 z_20 p_40 h143 z_145; omega) | (clear g14 z_20 p_40 z_145; omega) | omega)))⟩) (fun z => absurd z (by decide))
        · refine to_an (pc := 183) rw_225_183 rfl ?_
          refine to_in (pc := 184) rw_225_184 rfl ?_
          refine s_pI (pc := 185) rw_225_185 hG159 rfl (fun M210 W209 => ?_)
          have hG211 := g_w hG159 W209 (A := (N.2.1 77 10).toInt) rfl (lo := 0) (hi := 500) rfl rfl (by (first | (clear g14 z_20 p_40 h143 z_145; omega) | (clear g14 z_20 p_40 z_145; omega) | omega)) (by decide)
          have F212 := FR.w F164 W209 (show 77 = 77 ∧ (10 = 4 ∨ 10 = 5 ∨ 7 ≤ 10 ∧ 10 ≤ 10) ∨ 77 = 77 ∧ (10 = 59 ∨ 65 ≤ 10 ∧ 10 ≤ 69) ∨ 112 ≤ 77 ∧ 77 ≤ 114 ∧ 40 ≤ 10 ∨ 77 = 115 ∨ 77 = 116 by decide)
          refine to_an (pc := 188) rw_225_188 rfl ?_
          refine to_c (pc := 189) rw_225_189 (x := (4 : Int32)) rfl rfl ?_
          refine s_v (pc := 190) rw_225_190 (dp0 hd (by decide)) (ls0 := [.ref 77, .int (4 : Int32)]) rfl (Nat.le_of_ble_eq_true rfl) (Nat.le_of_ble_eq_true rfl) rfl (to_rc rfl rfl rfl (g_o hG211 rfl)) rfl ?_
          refine to_an (pc := 0) rw_152_0 rfl ?_
          refine to_in (pc := 1) rw_152_1 rfl ?_
          refine s_pI (pc := 2) rw_152_2 hG211 rfl (fun M214 W213 => ?_)
          have hG215 := g_wf hG211 W213 rfl rfl (by decide)
          have F216 := FR.w F212 W213 (show 77 = 77 ∧ (4 = 4 ∨ 4 = 5 ∨ 7 ≤ 4 ∧ 4 ≤ 10) ∨ 77 = 77 ∧ (4 = 59 ∨ 65 ≤ 4 ∧ 4 ≤ 69) ∨ 112 ≤ 77 ∧ 77 ≤ 114 ∧ 40 ≤ 4 ∨ 77 = 115 ∨ 77 = 116 by decide)
          refine to_an (pc := 5) rw_152_5 rfl ?_
          refine to_an (pc := 6) rw_152_6 rfl ?_
          have c_217 : M214.2.1 77 10 = (N.2.1 77 10) := (W_n W213 (by decide) (W_e W209))
          refine tt_gI (pc := 7) rw_152_7 (g_o hG215 rfl) (v := (N.2.1 77 10)) c_217 ?_
          refine s_pI (pc := 10) rw_152_10 hG215 rfl (fun M219 W218 => ?_)
          have hG220 := g_wf hG215 W218 rfl rfl (by decide)
          have F221 := FR.w F216 W218 (show 77 = 77 ∧ (5 = 4 ∨ 5 = 5 ∨ 7 ≤ 5 ∧ 5 ≤ 10) ∨ 77 = 77 ∧ (5 = 59 ∨ 65 ≤ 5 ∧ 5 ≤ 69) ∨ 112 ≤ 77 ∧ 77 ≤ 114 ∧ 40 ≤ 5 ∨ 77 = 115 ∨ 77 = 116 by decide)
          refine to_c (pc := 13) rw_152_13 (x := (0 : Int32)) rfl rfl ?_
          refine s_r1 (pc := 14) rw_152_14 (A := 0) rfl (by decide) ?_
          refine s_r1 (pc := 193) rw_225_193 (A := 0) rfl (by decide) ?_
          have k_222 : (0 : Int32).toInt = 0 := rfl
          have c_223 : M219.2.1 77 7 = (M42.2.1 77 7) := (W_n W218 (by decide) (W_n W213 (by decide) (W_n W209 (by decide) (F_n F158 (show ¬ (77 < 0) by decide) (F_n F148 (show ¬ (77 < 0) by decide) rfl)))))
          have t_224 : (M219.2.1 77 7).toInt = (M42.2.1 77 7).toInt := congrArg Int32.toInt c_223
          have c_225 : M219.2.1 77 6 = (N.2.1 77 6) := (W_n W218 (by decide) (W_n W213 (by decide) (W_n W209 (by decide) (F_n F158 (show ¬ (77 < 0) by decide) (F_n F148 (show ¬ (77 < 0) by decide) c_45)))))
          have t_226 : (M219.2.1 77 6).toInt = (N.2.1 77 6).toInt := congrArg Int32.toInt c_225
          have c_227 : M219.2.1 77 4 = (4 : Int32) := (W_n W218 (by decide) (W_e W213))
          have k_228 : (4 : Int32).toInt = 4 := rfl
          have t_229 : (M219.2.1 77 4).toInt = (4 : Int32).toInt := congrArg Int32.toInt c_227
          have c_230 : M219.2.1 77 5 = (N.2.1 77 10) := (W_e W218)
          have t_231 : (M219.2.1 77 5).toInt = (N.2.1 77 10).toInt := congrArg Int32.toInt c_230
          have c_232 : M219.2.1 77 67 = (N.2.1 77 67) := (W_n W218 (by decide) (W_n W213 (by decide) (W_n W209 (by decide) (F_n F158 (show ¬ (77 < 0) by decide) (F_n F148 (show ¬ (77 < 0) by decide) (F_n F36 (show ¬ (77 = 77 ∧ 7 ≤ 67 ∧ 67 ≤ 10) by decide) rfl))))))
          have t_233 : (M219.2.1 77 67).toInt = (N.2.1 77 67).toInt := congrArg Int32.toInt c_232
          have c_234 : M219.2.1 77 69 = (N.2.1 77 69) := (W_n W218 (by decide) (W_n W213 (by decide) (W_n W209 (by decide) (F_n F158 (show ¬ (77 < 0) by decide) (F_n F148 (show ¬ (77 < 0) by decide) (F_n F36 (show ¬ (77 = 77 ∧ 7 ≤ 69 ∧ 69 ≤ 10) by decide) rfl))))))
          have t_235 : (M219.2.1 77 69).toInt = (N.2.1 77 69).toInt := congrArg Int32.toInt c_234
          exact h (0 : Int32) M219 hG220 F221 (by decide) (by decide) (by (first | (clear g14 z_20 p_40 h143 z_145; omega) | (clear g14 z_20 p_40 z_145; omega) | omega)) (by (first | (clear g14 z_20 p_40 h143 z_145; omega) | (clear g14 z_20 p_40 z_145; omega) | omega)) (fun z => absurd z (by decide)) (by (first | (clear g14 z_20 p_40 h143 z_145; omega) | (clear g14 z_20 p_40 z_145; omega) | omega)) (fun z => absurd z (by (first | (clear g14 z_20 p_40 h143 z_145; omega) | (clear g14 z_20 p_40 z_145; omega) | omega))) (fun z => absurd z (by decide)) (fun z => absurd z (by decide)) (fun z => absurd z (by decide)) (fun _ => ginl (by (first | (clear g14 z_20 p_40 h143 z_145; omega) | (clear g14 z_20 p_40 z_145; omega) | omega)) (by (first | (clear g14 z_20 p_40 h143 z_145; omega) | (clear g14 z_20 p_40 z_145; omega) | omega)) ((g_nm (by (first | (clear g14 z_20 p_40 h143 z_145; omega) | (clear g14 z_20 p_40 z_145; omega) | omega)) (by (first | (clear g14 z_20 p_40 h143 z_145; omega) | (clear g14 z_20 p_40 z_145; omega) | omega)) g17 g14).trans (hn_wx z_145 (by (first | (clear g14 z_20 p_40 h143 z_145; omega) | (clear g14 z_20 p_40 z_145; omega) | omega)))))
      · refine to_c (pc := 16) rw_159_16 (x := (1 : Int32)) rfl rfl ?_
        refine to_go (pc := 17) rw_159_17 ?_
        refine s_r1 (pc := 21) rw_159_21 (A := 1) rfl (by decide) ?_
        refine to_isn (pc := 147) rw_225_147 (ls2 := [.ref 77, .int (N.2.1 77 9), .int (N.2.1 77 10), .int (1 : Int32), u4, u5]) rfl rfl ?_
        have z_236 := RS_4 p_41.1 (a := (x_ns t nn a)) (by (first | (clear g14 z_20 p_40; omega) | omega)) (by (first | (clear g14 z_20 p_40; omega) | omega))
        have z_237 : x_kind t nn (x_ns t nn a) = 4 ∧ x_val t nn (x_ns t nn a) = 61 := by (first | (clear g14 z_20 p_40; omega) | omega)
        refine to_an (pc := 148) rw_225_148 rfl ?_
        refine to_in (pc := 149) rw_225_149 rfl ?_
        refine s_v (pc := 150) rw_225_150 (dp0 hd (by decide)) (ls0 := [.ref 77, .int (N.2.1 77 9), .null]) rfl (Nat.le_of_ble_eq_true rfl) (Nat.le_of_ble_eq_true rfl) rfl (to_rc rfl rfl rfl (g_o hG37 rfl)) rfl ?_
        have j_238 := (PLk_f (tg_162 F36) g11)
        refine E_175 hX (dp1 hd (by decide)) hG37 j_238 (n := (N.2.1 77 9)) (sg := sg) (fun r239 M245 hG241 F240 p_242 p_243 p_244 => ?_)
        have F246 := FR.c F43 F240 tg_168
        have z_247 := x_fn_v (s := sg) (r := 1) (v := (N.2.1 77 9).toInt) (w := x_val t nn a) (by (first | (clear g14 z_20 p_40; omega) | omega))
        refine to_is (pc := 153) rw_225_153 (ls2 := [.ref 77, .int (N.2.1 77 9), .int (N.2.1 77 10), .int (1 : Int32), .int r239, u5]) rfl rfl ?_
        refine to_an (pc := 155) rw_225_155 rfl ?_
        refine to_in (pc := 156) rw_225_156 rfl ?_
        refine s_v (pc := 157) rw_225_157 (dp0 hd (by decide)) (ls0 := [.ref 77, .int (N.2.1 77 9), .null]) rfl (Nat.le_of_ble_eq_true rfl) (Nat.le_of_ble_eq_true rfl) rfl (to_rc rfl rfl rfl (g_o hG241 rfl)) rfl ?_
        have j_248 := (PLk_f (tg_101 F240) j_238)
        refine E_176 hX (dp1 hd (by decide)) hG241 j_248 (n := (N.2.1 77 9)) (sg := sg) (fun r249 M255 hG251 F250 p_252 p_253 p_254 => ?_)
        have F256 := FR.c F246 F250 tg_168
        have z_257 := x_fn_v (s := sg) (r := 6) (v := (N.2.1 77 9).toInt) (w := x_val t nn a) (by (first | (clear g14 z_20 p_40; omega) | omega))
        refine to_is (pc := 160) rw_225_160 (ls2 := [.ref 77, .int (N.2.1 77 9), .int (N.2.1 77 10), .int (1 : Int32), .int r239, .int r249]) rfl rfl ?_
        refine to_in (pc := 162) rw_225_162 rfl ?_
        refine b_ieq_f (pc := 163) rw_225_163 (A := 1) rfl (by decide) ?_
        refine to_an (pc := 166) rw_225_166 rfl ?_
        refine to_i (pc := 167) rw_225_167 rfl ?_
        refine s_v (pc := 169) rw_225_169 (dp0 hd (by decide)) (ls0 := [.ref 77, .int r239]) rfl (Nat.le_of_ble_eq_true rfl) (Nat.le_of_ble_eq_true rfl) rfl (to_rc rfl rfl rfl (g_o hG251 rfl)) rfl ?_
        refine to_an (pc := 0) rw_179_0 rfl ?_
        refine to_in (pc := 1) rw_179_1 rfl ?_
        refine s_v (pc := 2) rw_179_2 (dp1 hd (by decide)) (ls0 := [.ref 77, .int r239]) rfl (Nat.le_of_ble_eq_true rfl) (Nat.le_of_ble_eq_true rfl) rfl (to_rc rfl rfl rfl (g_o hG251 rfl)) rfl ?_
        refine to_in (pc := 0) rw_178_0 rfl ?_
        refine b_ilt (pc := 1) rw_178_1 (A := r239.toInt) rfl (fun h258 => ?_) (fun h258 => ?_)
        · refine to_c (pc := 16) rw_178_16 (x := (0 : Int32)) rfl rfl ?_
          refine s_r1 (pc := 17) rw_178_17 (A := 0) rfl (by decide) ?_
          refine b_ieq_t (pc := 5) rw_179_5 (A := 0) rfl (by decide) ?_
          refine to_c (pc := 22) rw_179_22 (x := (0 : Int32)) rfl rfl ?_
          refine s_r1 (pc := 23) rw_179_23 (A := 0) rfl (by decide) ?_
          refine b_ine_f (pc := 172) rw_225_172 (A := 0) rfl (by decide) ?_
          refine to_go (pc := 175) rw_225_175 ?_
          have z_259 : ¬ (0 ≤ x_fn sg 1 (x_val t nn a) ∧ ¬ x_row sg 2 (x_fn sg 1 (x_val t nn a)) = 3) := by (first | (clear g14 z_20 p_40; omega) | omega)
          refine to_an (pc := 183) rw_225_183 rfl ?_
          refine to_in (pc := 184) rw_225_184 rfl ?_
          refine s_pI (pc := 185) rw_225_185 hG251 rfl (fun M261 W260 => ?_)
          have hG262 := g_w hG251 W260 (A := (N.2.1 77 10).toInt) rfl (lo := 0) (hi := 500) rfl rfl (by (first | (clear g14 z_20 p_40 z_259; omega) | omega)) (by decide)
          have F263 := FR.w F256 W260 (show 77 = 77 ∧ (10 = 4 ∨ 10 = 5 ∨ 7 ≤ 10 ∧ 10 ≤ 10) ∨ 77 = 77 ∧ (10 = 59 ∨ 65 ≤ 10 ∧ 10 ≤ 69) ∨ 112 ≤ 77 ∧ 77 ≤ 114 ∧ 40 ≤ 10 ∨ 77 = 115 ∨ 77 = 116 by decide)
          refine to_an (pc := 188) rw_225_188 rfl ?_
          refine to_c (pc := 189) rw_225_189 (x := (4 : Int32)) rfl rfl ?_
          refine s_v (pc := 190) rw_225_190 (dp0 hd (by decide)) (ls0 := [.ref 77, .int (4 : Int32)]) rfl (Nat.le_of_ble_eq_true rfl) (Nat.le_of_ble_eq_true rfl) rfl (to_rc rfl rfl rfl (g_o hG262 rfl)) rfl ?_
          refine to_an (pc := 0) rw_152_0 rfl ?_
          refine to_in (pc := 1) rw_152_1 rfl ?_
          refine s_pI (pc := 2) rw_152_2 hG262 rfl (fun M265 W264 => ?_)
          have hG266 := g_wf hG262 W264 rfl rfl (by decide)
          have F267 := FR.w F263 W264 (show 77 = 77 ∧ (4 = 4 ∨ 4 = 5 ∨ 7 ≤ 4 ∧ 4 ≤ 10) ∨ 77 = 77 ∧ (4 = 59 ∨ 65 ≤ 4 ∧ 4 ≤ 69) ∨ 112 ≤ 77 ∧ 77 ≤ 114 ∧ 40 ≤ 4 ∨ 77 = 115 ∨ 77 = 116 by decide)
          refine to_an (pc := 5) rw_152_5 rfl ?_
          refine to_an (pc := 6) rw_152_6 rfl ?_
          have c_268 : M265.2.1 77 10 = (N.2.1 77 10) := (W_n W264 (by decide) (W_e W260))
          refine tt_gI (pc := 7) rw_152_7 (g_o hG266 rfl) (v := (N.2.1 77 10)) c_268 ?_
          refine s_pI (pc := 10) rw_152_10 hG266 rfl (fun M270 W269 => ?_)
          have hG271 := g_wf hG266 W269 rfl rfl (by decide)
          have F272 := FR.w F267 W269 (show 77 = 77 ∧ (5 = 4 ∨ 5 = 5 ∨ 7 ≤ 5 ∧ 5 ≤ 10) ∨ 77 = 77 ∧ (5 = 59 ∨ 65 ≤ 5 ∧ 5 ≤ 69) ∨ 112 ≤ 77 ∧ 77 ≤ 114 ∧ 40 ≤ 5 ∨ 77 = 115 ∨ 77 = 116 by decide)
          refine to_c (pc := 13) rw_152_13 (x := (0 : Int32)) rfl rfl ?_
          refine s_r1 (pc := 14) rw_152_14 (A := 0) rfl (by decide) ?_
          refine s_r1 (pc := 193) rw_225_193 (A := 0) rfl (by decide) ?_
          have k_273 : (0 : Int32).toInt = 0 := rfl
          have c_274 : M270.2.1 77 7 = (M42.2.1 77 7) := (W_n W269 (by decide) (W_n W264 (by decide) (W_n W260 (by decide) (F_n F250 (show ¬ (77 < 0) by decide) (F_n F240 (show ¬ (77 < 0) by decide) rfl)))))
          have t_275 : (M270.2.1 77 7).toInt = (M42.2.1 77 7).toInt := congrArg Int32.toInt c_274
          have c_276 : M270.2.1 77 6 = (N.2.1 77 6) := (W_n W269 (by decide) (W_n W264 (by decide) (W_n W260 (by decide) (F_n F250 (show ¬ (77 < 0) by decide) (F_n F240 (show ¬ (77 < 0) by decide) c_45)))))
          have t_277 : (M270.2.1 77 6).toInt = (N.2.1 77 6).toInt := congrArg Int32.toInt c_276
          have c_278 : M270.2.1 77 4 = (4 : Int32) := (W_n W269 (by decide) (W_e W264))
          have k_279 : (4 : Int32).toInt = 4 := rfl
          have t_280 : (M270.2.1 77 4).toInt = (4 : Int32).toInt := congrArg Int32.toInt c_278
          have c_281 : M270.2.1 77 5 = (N.2.1 77 10) := (W_e W269)
          have t_282 : (M270.2.1 77 5).toInt = (N.2.1 77 10).toInt := congrArg Int32.toInt c_281
          have c_283 : M270.2.1 77 67 = (N.2.1 77 67) := (W_n W269 (by decide) (W_n W264 (by decide) (W_n W260 (by decide) (F_n F250 (show ¬ (77 < 0) by decide) (F_n F240 (show ¬ (77 < 0) by decide) (F_n F36 (show ¬ (77 = 77 ∧ 7 ≤ 67 ∧ 67 ≤ 10) by decide) rfl))))))
          have t_284 : (M270.2.1 77 67).toInt = (N.2.1 77 67).toInt := congrArg Int32.toInt c_283
          have c_285 : M270.2.1 77 69 = (N.2.1 77 69) := (W_n W269 (by decide) (W_n W264 (by decide) (W_n W260 (by decide) (F_n F250 (show ¬ (77 < 0) by decide) (F_n F240 (show ¬ (77 < 0) by decide) (F_n F36 (show ¬ (77 = 77 ∧ 7 ≤ 69 ∧ 69 ≤ 10) by decide) rfl))))))
          have t_286 : (M270.2.1 77 69).toInt = (N.2.1 77 69).toInt := congrArg Int32.toInt c_285
          exact h (0 : Int32) M270 hG271 F272 (by decide) (by decide) (by (first | (clear g14 z_20 p_40 z_259; omega) | omega)) (by (first | (clear g14 z_20 p_40 z_259; omega) | omega)) (fun z => absurd z (by decide)) (by (first | (clear g14 z_20 p_40 z_259; omega) | omega)) (fun z => absurd z (by (first | (clear g14 z_20 p_40 z_259; omega) | omega))) (fun z => absurd z (by decide)) (fun z => absurd z (by decide)) (fun z => absurd z (by decide)) (fun _ => ginl (by (first | (clear g14 z_20 p_40 z_259; omega) | omega)) (by (first | (clear g14 z_20 p_40 z_259; omega) | omega)) ((g_nm (by (first | (clear g14 z_20 p_40 z_259; omega) | omega)) (by (first | (clear g14 z_20 p_40 z_259; omega) | omega)) g17 g14).trans (hn_vx z_237 z_259)))
        · refine to_in (pc := 4) rw_178_4 rfl ?_
          refine to_an (pc := 5) rw_178_5 rfl ?_
          have c_287 : M255.2.1 77 12 = (N.2.1 77 12) := (F_n F250 (show ¬ (77 < 0) by decide) (F_n F240 (show ¬ (77 < 0) by decide) (F_n F36 (show ¬ (77 = 77 ∧ 7 ≤ 12 ∧ 12 ≤ 10) by decide) rfl)))
          refine tt_gI (pc := 6) rw_178_6 (g_o hG251 rfl) (v := (N.2.1 77 12)) c_287 ?_
          refine b_cge (pc := 9) rw_178_9 (A := r239.toInt) (B := (N.2.1 77 12).toInt) rfl rfl (fun h288 => ?_) (fun h288 => ?_)
          · refine to_c (pc := 16) rw_178_16 (x := (0 : Int32)) rfl rfl ?_
            refine s_r1 (pc := 17) rw_178_17 (A := 0) rfl (by decide) ?_
            refine b_ieq_t (pc := 5) rw_179_5 (A := 0) rfl (by decide) ?_
            refine to_c (pc := 22) rw_179_22 (x := (0 : Int32)) rfl rfl ?_
            refine s_r1 (pc := 23) rw_179_23 (A := 0) rfl (by decide) ?_
            refine b_ine_f (pc := 172) rw_225_172 (A := 0) rfl (by decide) ?_
            refine to_go (pc := 175) rw_225_175 ?_
            have z_289 : ¬ (0 ≤ x_fn sg 1 (x_val t nn a) ∧ ¬ x_row sg 2 (x_fn sg 1 (x_val t nn a)) = 3) := by (first | (clear g14 z_20 p_40; omega) | omega)
            refine to_an (pc := 183) rw_225_183 rfl ?_
            refine to_in (pc := 184) rw_225_184 rfl ?_
            refine s_pI (pc := 185) rw_225_185 hG251 rfl (fun M291 W290 => ?_)
            have hG292 := g_w hG251 W290 (A := (N.2.1 77 10).toInt) rfl (lo := 0) (hi := 500) rfl rfl (by (first | (clear g14 z_20 p_40 z_289; omega) | omega)) (by decide)
            have F293 := FR.w F256 W290 (show 77 = 77 ∧ (10 = 4 ∨ 10 = 5 ∨ 7 ≤ 10 ∧ 10 ≤ 10) ∨ 77 = 77 ∧ (10 = 59 ∨ 65 ≤ 10 ∧ 10 ≤ 69) ∨ 112 ≤ 77 ∧ 77 ≤ 114 ∧ 40 ≤ 10 ∨ 77 = 115 ∨ 77 = 116 by decide)
            refine to_an (pc := 188) rw_225_188 rfl ?_
            refine to_c (pc := 189) rw_225_189 (x := (4 : Int32)) rfl rfl ?_
            refine s_v (pc := 190) rw_225_190 (dp0 hd (by decide)) (ls0 := [.ref 77, .int (4 : Int32)]) rfl (Nat.le_of_ble_eq_true rfl) (Nat.le_of_ble_eq_true rfl) rfl (to_rc rfl rfl rfl (g_o hG292 rfl)) rfl ?_
            refine to_an (pc := 0) rw_152_0 rfl ?_
            refine to_in (pc := 1) rw_152_1 rfl ?_
            refine s_pI (pc := 2) rw_152_2 hG292 rfl (fun M295 W294 => ?_)
            have hG296 := g_wf hG292 W294 rfl rfl (by decide)
            have F297 := FR.w F293 W294 (show 77 = 77 ∧ (4 = 4 ∨ 4 = 5 ∨ 7 ≤ 4 ∧ 4 ≤ 10) ∨ 77 = 77 ∧ (4 = 59 ∨ 65 ≤ 4 ∧ 4 ≤ 69) ∨ 112 ≤ 77 ∧ 77 ≤ 114 ∧ 40 ≤ 4 ∨ 77 = 115 ∨ 77 = 116 by decide)
            refine to_an (pc := 5) rw_152_5 rfl ?_
            refine to_an (pc := 6) rw_152_6 rfl ?_
            have c_298 : M295.2.1 77 10 = (N.2.1 77 10) := (W_n W294 (by decide) (W_e W290))
            refine tt_gI (pc := 7) rw_152_7 (g_o hG296 rfl) (v := (N.2.1 77 10)) c_298 ?_
            refine s_pI (pc := 10) rw_152_10 hG296 rfl (fun M300 W299 => ?_)
            have hG301 := g_wf hG296 W299 rfl rfl (by decide)
            have F302 := FR.w F297 W299 (show 77 = 77 ∧ (5 = 4 ∨ 5 = 5 ∨ 7 ≤ 5 ∧ 5 ≤ 10) ∨ 77 = 77 ∧ (5 = 59 ∨ 65 ≤ 5 ∧ 5 ≤ 69) ∨ 112 ≤ 77 ∧ 77 ≤ 114 ∧ 40 ≤ 5 ∨ 77 = 115 ∨ 77 = 116 by decide)
            refine to_c (pc := 13) rw_152_13 (x := (0 : Int32)) rfl rfl ?_
            refine s_r1 (pc := 14) rw_152_14 (A := 0) rfl (by decide) ?_
            refine s_r1 (pc := 193) rw_225_193 (A := 0) rfl (by decide) ?_
            have k_303 : (0 : Int32).toInt = 0 := rfl
            have c_304 : M300.2.1 77 7 = (M42.2.1 77 7) := (W_n W299 (by decide) (W_n W294 (by decide) (W_n W290 (by decide) (F_n F250 (show ¬ (77 < 0) by decide) (F_n F240 (show ¬ (77 < 0) by decide) rfl)))))
            have t_305 : (M300.2.1 77 7).toInt = (M42.2.1 77 7).toInt := congrArg Int32.toInt c_304
            have c_306 : M300.2.1 77 6 = (N.2.1 77 6) := (W_n W299 (by decide) (W_n W294 (by decide) (W_n W290 (by decide) (F_n F250 (show ¬ (77 < 0) by decide) (F_n F240 (show ¬ (77 < 0) by decide) c_45)))))
            have t_307 : (M300.2.1 77 6).toInt = (N.2.1 77 6).toInt := congrArg Int32.toInt c_306
            have c_308 : M300.2.1 77 4 = (4 : Int32) := (W_n W299 (by decide) (W_e W294))
            have k_309 : (4 : Int32).toInt = 4 := rfl
            have t_310 : (M300.2.1 77 4).toInt = (4 : Int32).toInt := congrArg Int32.toInt c_308
            have c_311 : M300.2.1 77 5 = (N.2.1 77 10) := (W_e W299)
            have t_312 : (M300.2.1 77 5).toInt = (N.2.1 77 10).toInt := congrArg Int32.toInt c_311
            have c_313 : M300.2.1 77 67 = (N.2.1 77 67) := (W_n W299 (by decide) (W_n W294 (by decide) (W_n W290 (by decide) (F_n F250 (show ¬ (77 < 0) by decide) (F_n F240 (show ¬ (77 < 0) by decide) (F_n F36 (show ¬ (77 = 77 ∧ 7 ≤ 67 ∧ 67 ≤ 10) by decide) rfl))))))
            have t_314 : (M300.2.1 77 67).toInt = (N.2.1 77 67).toInt := congrArg Int32.toInt c_313
            have c_315 : M300.2.1 77 69 = (N.2.1 77 69) := (W_n W299 (by decide) (W_n W294 (by decide) (W_n W290 (by decide) (F_n F250 (show ¬ (77 < 0) by decide) (F_n F240 (show ¬ (77 < 0) by decide) (F_n F36 (show ¬ (77 = 77 ∧ 7 ≤ 69 ∧ 69 ≤ 10) by decide) rfl))))))
            have t_316 : (M300.2.1 77 69).toInt = (N.2.1 77 69).toInt := congrArg Int32.toInt c_315
            exact h (0 : Int32) M300 hG301 F302 (by decide) (by decide) (by (first | (clear g14 z_20 p_40 z_289; omega) | omega)) (by (first | (clear g14 z_20 p_40 z_289; omega) | omega)) (fun z => absurd z (by decide)) (by (first | (clear g14 z_20 p_40 z_289; omega) | omega)) (fun z => absurd z (by (first | (clear g14 z_20 p_40 z_289; omega) | omega))) (fun z => absurd z (by decide)) (fun z => absurd z (by decide)) (fun z => absurd z (by decide)) (fun _ => ginl (by (first | (clear g14 z_20 p_40 z_289; omega) | omega)) (by (first | (clear g14 z_20 p_40 z_289; omega) | omega)) ((g_nm (by (first | (clear g14 z_20 p_40 z_289; omega) | omega)) (by (first | (clear g14 z_20 p_40 z_289; omega) | omega)) g17 g14).trans (hn_vx z_237 z_289)))
          · refine to_c (pc := 12) rw_178_12 (x := (1 : Int32)) rfl rfl ?_
            refine to_go (pc := 13) rw_178_13 ?_
            refine s_r1 (pc := 17) rw_178_17 (A := 1) rfl (by decide) ?_
            refine b_ieq_f (pc := 5) rw_179_5 (A := 1) rfl (by decide) ?_
            refine to_an (pc := 8) rw_179_8 rfl ?_
            refine s_gR (pc := 9) rw_179_9 hG251 rfl (v := 81) rfl ?_
            refine to_in (pc := 12) rw_179_12 rfl ?_
            refine s_ial (pc := 13) rw_179_13 hG251 rfl (n := 16) rfl rfl (A := r239.toInt) rfl (by (first | (clear g14 z_20 p_40; omega) | omega)) (by (first | (clear g14 z_20 p_40; omega) | omega)) (lo := 0) (hi := 3) rfl rfl (fun v317 w_318 _ _ => ?_)
            have t_319 := congrArg Int32.toInt w_318
            have j_321 := (FA_f (tg_164 F250) (FA_f (tg_164 F240) (FA_f (tg_165 F36) g5)))
            have j_320 := FA_u j_321 (r239.toInt).toNat
            have t_322 : (M255.2.1 81 (r239.toInt).toNat).toInt = (N.2.1 81 (r239.toInt).toNat).toInt := congrArg Int32.toInt (F_n F250 (show ¬ (81 < 0) by decide) (F_n F240 (show ¬ (81 < 0) by decide) (F_n F36 (show ¬ (81 = 77 ∧ 7 ≤ ((r239.toInt).toNat) ∧ ((r239.toInt).toNat) ≤ 10) by (first | (clear g14 z_20 p_40 j_320; omega) | (clear g14 z_20 p_40; omega) | omega)) rfl)))
            have t_323 : (M255.2.1 84 (r239.toInt).toNat).toInt = (N.2.1 84 (r239.toInt).toNat).toInt := congrArg Int32.toInt (F_n F250 (show ¬ (84 < 0) by decide) (F_n F240 (show ¬ (84 < 0) by decide) (F_n F36 (show ¬ (84 = 77 ∧ 7 ≤ ((r239.toInt).toNat) ∧ ((r239.toInt).toNat) ≤ 10) by (first | (clear g14 z_20 p_40 j_320; omega) | (clear g14 z_20 p_40; omega) | omega)) rfl)))
            have j_324 := FA_u q3 (r239.toInt).toNat
            have j_325 := (PLk_f (tg_101 F250) j_248)
            have z_326 := PLk_r j_325 2 81 rfl (by decide) (by decide) (k := r239.toInt) (by (first | (clear g14 z_20 p_40 j_320 j_324; omega) | (clear g14 z_20 p_40 j_320; omega) | omega)) (by (first | (clear g14 z_20 p_40 j_320 j_324; omega) | (clear g14 z_20 p_40 j_320; omega) | omega)) w_318
            have z_327 := x_row_v (s := sg) (r := 2) (x := r239.toInt) (y := x_fn sg 1 (x_val t nn a)) (by (first | (clear g14 z_20 p_40 j_320 j_324; omega) | (clear g14 z_20 p_40 j_320; omega) | omega))
            refine to_c (pc := 14) rw_179_14 (x := (3 : Int32)) rfl rfl ?_
            refine b_ceq (pc := 15) rw_179_15 (A := v317.toInt) (B := 3) rfl rfl (fun h328 => ?_) (fun h328 => ?_)
            · refine to_c (pc := 22) rw_179_22 (x := (0 : Int32)) rfl rfl ?_
              refine s_r1 (pc := 23) rw_179_23 (A := 0) rfl (by decide) ?_
              refine b_ine_f (pc := 172) rw_225_172 (A := 0) rfl (by decide) ?_
              refine to_go (pc := 175) rw_225_175 ?_
              have z_329 : ¬ (0 ≤ x_fn sg 1 (x_val t nn a) ∧ ¬ x_row sg 2 (x_fn sg 1 (x_val t nn a)) = 3) := by (first | (clear g14 z_20 p_40 j_320 j_324; omega) | (clear g14 z_20 p_40 j_320; omega) | omega)
              refine to_an (pc := 183) rw_225_183 rfl ?_
              refine to_in (pc := 184) rw_225_184 rfl ?_
              refine s_pI (pc := 185) rw_225_185 hG251 rfl (fun M331 W330 => ?_)
              have hG332 := g_w hG251 W330 (A := (N.2.1 77 10).toInt) rfl (lo := 0) (hi := 500) rfl rfl (by (first | (clear g14 z_20 p_40 j_320 j_324 z_329; omega) | (clear g14 z_20 p_40 j_320 z_329; omega) | omega)) (by decide)
              have F333 := FR.w F256 W330 (show 77 = 77 ∧ (10 = 4 ∨ 10 = 5 ∨ 7 ≤ 10 ∧ 10 ≤ 10) ∨ 77 = 77 ∧ (10 = 59 ∨ 65 ≤ 10 ∧ 10 ≤ 69) ∨ 112 ≤ 77 ∧ 77 ≤ 114 ∧ 40 ≤ 10 ∨ 77 = 115 ∨ 77 = 116 by decide)
              refine to_an (pc := 188) rw_225_188 rfl ?_
              refine to_c (pc := 189) rw_225_189 (x := (4 : Int32)) rfl rfl ?_
              refine s_v (pc := 190) rw_225_190 (dp0 hd (by decide)) (ls0 := [.ref 77, .int (4 : Int32)]) rfl (Nat.le_of_ble_eq_true rfl) (Nat.le_of_ble_eq_true rfl) rfl (to_rc rfl rfl rfl (g_o hG332 rfl)) rfl ?_
              refine to_an (pc := 0) rw_152_0 rfl ?_
              refine to_in (pc := 1) rw_152_1 rfl ?_
              refine s_pI (pc := 2) rw_152_2 hG332 rfl (fun M335 W334 => ?_)
              have hG336 := g_wf hG332 W334 rfl rfl (by decide)
              have F337 := FR.w F333 W334 (show 77 = 77 ∧ (4 = 4 ∨ 4 = 5 ∨ 7 ≤ 4 ∧ 4 ≤ 10) ∨ 77 = 77 ∧ (4 = 59 ∨ 65 ≤ 4 ∧ 4 ≤ 69) ∨ 112 ≤ 77 ∧ 77 ≤ 114 ∧ 40 ≤ 4 ∨ 77 = 115 ∨ 77 = 116 by decide)
              refine to_an (pc := 5) rw_152_5 rfl ?_
              refine to_an (pc := 6) rw_152_6 rfl ?_
              have c_338 : M335.2.1 77 10 = (N.2.1 77 10) := (W_n W334 (by decide) (W_e W330))
              refine tt_gI (pc := 7) rw_152_7 (g_o hG336 rfl) (v := (N.2.1 77 10)) c_338 ?_
              refine s_pI (pc := 10) rw_152_10 hG336 rfl (fun M340 W339 => ?_)
              have hG341 := g_wf hG336 W339 rfl rfl (by decide)
              have F342 := FR.w F337 W339 (show 77 = 77 ∧ (5 = 4 ∨ 5 = 5 ∨ 7 ≤ 5 ∧ 5 ≤ 10) ∨ 77 = 77 ∧ (5 = 59 ∨ 65 ≤ 5 ∧ 5 ≤ 69) ∨ 112 ≤ 77 ∧ 77 ≤ 114 ∧ 40 ≤ 5 ∨ 77 = 115 ∨ 77 = 116 by decide)
              refine to_c (pc := 13) rw_152_13 (x := (0 : Int32)) rfl rfl ?_
              refine s_r1 (pc := 14) rw_152_14 (A := 0) rfl (by decide) ?_
              refine s_r1 (pc := 193) rw_225_193 (A := 0) rfl (by decide) ?_
              have k_343 : (0 : Int32).toInt = 0 := rfl
              have c_344 : M340.2.1 77 7 = (M42.2.1 77 7) := (W_n W339 (by decide) (W_n W334 (by decide) (W_n W330 (by decide) (F_n F250 (show ¬ (77 < 0) by decide) (F_n F240 (show ¬ (77 < 0) by decide) rfl)))))
              have t_345 : (M340.2.1 77 7).toInt = (M42.2.1 77 7).toInt := congrArg Int32.toInt c_344
              have c_346 : M340.2.1 77 6 = (N.2.1 77 6) := (W_n W339 (by decide) (W_n W334 (by decide) (W_n W330 (by decide) (F_n F250 (show ¬ (77 < 0) by decide) (F_n F240 (show ¬ (77 < 0) by decide) c_45)))))
              have t_347 : (M340.2.1 77 6).toInt = (N.2.1 77 6).toInt := congrArg Int32.toInt c_346
              have c_348 : M340.2.1 77 4 = (4 : Int32) := (W_n W339 (by decide) (W_e W334))
              have k_349 : (4 : Int32).toInt = 4 := rfl
              have t_350 : (M340.2.1 77 4).toInt = (4 : Int32).toInt := congrArg Int32.toInt c_348
              have c_351 : M340.2.1 77 5 = (N.2.1 77 10) := (W_e W339)
              have t_352 : (M340.2.1 77 5).toInt = (N.2.1 77 10).toInt := congrArg Int32.toInt c_351
              have c_353 : M340.2.1 77 67 = (N.2.1 77 67) := (W_n W339 (by decide) (W_n W334 (by decide) (W_n W330 (by decide) (F_n F250 (show ¬ (77 < 0) by decide) (F_n F240 (show ¬ (77 < 0) by decide) (F_n F36 (show ¬ (77 = 77 ∧ 7 ≤ 67 ∧ 67 ≤ 10) by decide) rfl))))))
              have t_354 : (M340.2.1 77 67).toInt = (N.2.1 77 67).toInt := congrArg Int32.toInt c_353
              have c_355 : M340.2.1 77 69 = (N.2.1 77 69) := (W_n W339 (by decide) (W_n W334 (by decide) (W_n W330 (by decide) (F_n F250 (show ¬ (77 < 0) by decide) (F_n F240 (show ¬ (77 < 0) by decide) (F_n F36 (show ¬ (77 = 77 ∧ 7 ≤ 69 ∧ 69 ≤ 10) by decide) rfl))))))
              have t_356 : (M340.2.1 77 69).toInt = (N.2.1 77 69).toInt := congrArg Int32.toInt c_355
              exact h (0 : Int32) M340 hG341 F342 (by decide) (by decide) (by (first | (clear g14 z_20 p_40 j_320 j_324 z_329; omega) | (clear g14 z_20 p_40 j_320 z_329; omega) | omega)) (by (first | (clear g14 z_20 p_40 j_320 j_324 z_329; omega) | (clear g14 z_20 p_40 j_320 z_329; omega) | omega)) (fun z => absurd z (by decide)) (by (first | (clear g14 z_20 p_40 j_320 j_324 z_329; omega) | (clear g14 z_20 p_40 j_320 z_329; omega) | omega)) (fun z => absurd z (by (first | (clear g14 z_20 p_40 j_320 j_324 z_329; omega) | (clear g14 z_20 p_40 j_320 z_329; omega) | omega))) (fun z => absurd z (by decide)) (fun z => absurd z (by decide)) (fun z => absurd z (by decide)) (fun _ => ginl (by (first | (clear g14 z_20 p_40 j_320 j_324 z_329; omega) | (clear g14 z_20 p_40 j_320 z_329; omega) | omega)) (by (first | (clear g14 z_20 p_40 j_320 j_324 z_329; omega) | (clear g14 z_20 p_40 j_320 z_329; omega) | omega)) ((g_nm (by (first | (clear g14 z_20 p_40 j_320 j_324 z_329; omega) | (clear g14 z_20 p_40 j_320 z_329; omega) | omega)) (by (first | (clear g14 z_20 p_40 j_320 j_324 z_329; omega) | (clear g14 z_20 p_40 j_320 z_329; omega) | omega)) g17 g14).trans (hn_vx z_237 z_329)))
            · refine to_c (pc := 18) rw_179_18 (x := (1 : Int32)) rfl rfl ?_
              refine to_go (pc := 19) rw_179_19 ?_
              refine s_r1 (pc := 23) rw_179_23 (A := 1) rfl (by decide) ?_
              refine b_ine_t (pc := 172) rw_225_172 (A := 1) rfl (by decide) ?_
              have z_357 : 0 ≤ x_fn sg 1 (x_val t nn a) ∧ ¬ x_row sg 2 (x_fn sg 1 (x_val t nn a)) = 3 := by (first | (clear g14 z_20 p_40 j_320 j_324 h328; omega) | (clear g14 z_20 p_40 j_320; omega) | omega)
              refine to_an (pc := 194) rw_225_194 rfl ?_
              refine to_c (pc := 195) rw_225_195 (x := (1 : Int32)) rfl rfl ?_
              refine s_pI (pc := 196) rw_225_196 hG251 rfl (fun M359 W358 => ?_)
              have hG360 := g_w hG251 W358 (A := 1) rfl (lo := 0) (hi := 1) rfl rfl (by (first | (clear g14 z_20 p_40 j_320 j_324 h328 z_357; omega) | (clear g14 z_20 p_40 j_320 z_357; omega) | omega)) (by decide)
              have F361 := FR.w F256 W358 (show 77 = 77 ∧ (68 = 4 ∨ 68 = 5 ∨ 7 ≤ 68 ∧ 68 ≤ 10) ∨ 77 = 77 ∧ (68 = 59 ∨ 65 ≤ 68 ∧ 68 ≤ 69) ∨ 112 ≤ 77 ∧ 77 ≤ 114 ∧ 40 ≤ 68 ∨ 77 = 115 ∨ 77 = 116 by decide)
              refine to_in (pc := 199) rw_225_199 rfl ?_
              refine b_ine_t (pc := 200) rw_225_200 (A := 1) rfl (by decide) ?_
              refine to_an (pc := 213) rw_225_213 rfl ?_
              refine s_v (pc := 214) rw_225_214 (dp0 hd (by decide)) (ls0 := [.ref 77]) rfl (Nat.le_of_ble_eq_true rfl) (Nat.le_of_ble_eq_true rfl) rfl (to_rc rfl rfl rfl (g_o hG360 rfl)) rfl ?_
              have c_362 : M359.2.1 77 7 = (M42.2.1 77 7) := (W_n W358 (by decide) (F_n F250 (show ¬ (77 < 0) by decide) (F_n F240 (show ¬ (77 < 0) by decide) rfl)))
              have t_363 : (M359.2.1 77 7).toInt = (M42.2.1 77 7).toInt := congrArg Int32.toInt c_362
              have c_364 : M359.2.1 77 6 = (N.2.1 77 6) := (W_n W358 (by decide) (F_n F250 (show ¬ (77 < 0) by decide) (F_n F240 (show ¬ (77 < 0) by decide) c_45)))
              have t_365 : (M359.2.1 77 6).toInt = (N.2.1 77 6).toInt := congrArg Int32.toInt c_364
              have c_366 : M359.2.1 77 10 = (M42.2.1 77 10) := (W_n W358 (by decide) (F_n F250 (show ¬ (77 < 0) by decide) (F_n F240 (show ¬ (77 < 0) by decide) rfl)))
              have t_367 : (M359.2.1 77 10).toInt = (M42.2.1 77 10).toInt := congrArg Int32.toInt c_366
              have j_368 := (RS_f (fun a i z => W_n W358 (tg_153 a i z) rfl) (RS_f (tg_45 F250) (RS_f (tg_45 F240) p_41.1)))
              have z_369 := RS_b j_368 (a := (x_ns t nn a)) (by (first | (clear g14 z_20 p_40 j_320 j_324 h328 z_357; omega) | (clear g14 z_20 p_40 j_320 z_357; omega) | omega))
              have j_370 := (TR_f (fun a i z => W_n W358 (tg_156 a i z) rfl) (TR_f (tg_9 F250) (TR_f (tg_9 F240) (TR_f (tg_42 F36) g9))))
              have j_371 := (W9_f (fun a i z => W_n W358 (tg_159 a i z) rfl) (W9_f (tg_46 F250) (W9_f (tg_46 F240) (W9_f (tg_44 F36) g10))))
              refine E_156 hX (dp1 hd (by decide)) hG360 (by (first | (clear g14 z_20 p_40 j_320 j_324 h328 z_357; omega) | (clear g14 z_20 p_40 j_320 z_357; omega) | omega)) (by (first | (clear g14 z_20 p_40 j_320 j_324 h328 z_357; omega) | (clear g14 z_20 p_40 j_320 z_357; omega) | omega)) (by (first | (clear g14 z_20 p_40 j_320 j_324 h328 z_357; omega) | (clear g14 z_20 p_40 j_320 z_357; omega) | omega)) (by (first | (clear g14 z_20 p_40 j_320 j_324 h328 z_357; omega) | (clear g14 z_20 p_40 j_320 z_357; omega) | omega)) j_370 j_371  (fun M378 hG373 F372 p_374 p_375 p_376 p_377 => ?_)
              have F379 := FR.c F361 F372 tg_146
              have b_380 := g_b hG373 (a := 77) (i := 7) (lo := 0) (hi := 500) rfl rfl
              have c_381 : M378.2.1 77 6 = (N.2.1 77 6) := (F_n F372 (show ¬ (77 = 77 ∧ 7 ≤ 6 ∧ 6 ≤ 10) by decide) c_364)
              have t_382 : (M378.2.1 77 6).toInt = (N.2.1 77 6).toInt := congrArg Int32.toInt c_381
              have b_383 := g_b hG373 (a := 77) (i := 8) (lo := 0) (hi := 5) rfl rfl
              have b_384 := g_b hG373 (a := 77) (i := 10) (lo := 0) (hi := 500) rfl rfl
              have z_385 := RS_s p_377.2 (a := (x_ns t nn a)) (by (first | (clear g14 z_20 p_40 j_320 j_324 h328 z_357 p_376; omega) | (clear g14 z_20 p_40 j_320 z_357 p_376; omega) | omega))
              have z_386 := RS_k p_377.1 (a := (x_ns t nn (x_ns t nn a))) (by (first | (clear g14 z_20 p_40 j_320 j_324 h328 z_357 p_376; omega) | (clear g14 z_20 p_40 j_320 z_357 p_376; omega) | omega))
              refine to_an (pc := 217) rw_225_217 rfl ?_
              refine to_c (pc := 218) rw_225_218 (x := (0 : Int32)) rfl rfl ?_
              refine to_an (pc := 219) rw_225_219 rfl ?_
              refine s_gR (pc := 220) rw_225_220 hG373 rfl (v := 84) rfl ?_
              refine to_i (pc := 223) rw_225_223 rfl ?_
              refine s_ial (pc := 225) rw_225_225 hG373 rfl (n := 16) rfl rfl (A := r239.toInt) rfl (by (first | (clear g14 z_20 p_40 j_320 j_324 h328 z_357 p_376; omega) | (clear g14 z_20 p_40 j_320 z_357 p_376; omega) | omega)) (by (first | (clear g14 z_20 p_40 j_320 j_324 h328 z_357 p_376; omega) | (clear g14 z_20 p_40 j_320 z_357 p_376; omega) | omega)) (lo := 0) (hi := 24) rfl rfl (fun v387 w_388 _ _ => ?_)
              have t_389 := congrArg Int32.toInt w_388
              have j_391 := (FA_f (tg_165 F372) (FA_f (fun a i z => W_n W358 (tg_170 a i z) rfl) j_321))
              have j_390 := FA_u j_391 (r239.toInt).toNat
              have t_392 : (M378.2.1 81 (r239.toInt).toNat).toInt = (N.2.1 81 (r239.toInt).toNat).toInt := congrArg Int32.toInt (F_n F372 (show ¬ (81 = 77 ∧ 7 ≤ ((r239.toInt).toNat) ∧ ((r239.toInt).toNat) ≤ 10) by (first | (clear g14 z_20 p_40 j_320 j_324 h328 z_357 p_376 j_390; omega) | (clear g14 z_20 p_40 j_320 j_324 z_357 p_376; omega) | omega)) (W_n W358 (by (first | (clear g14 z_20 p_40 j_320 j_324 h328 z_357 p_376 j_390; omega) | (clear g14 z_20 p_40 j_320 j_324 z_357 p_376; omega) | omega)) (F_n F250 (show ¬ (81 < 0) by decide) (F_n F240 (show ¬ (81 < 0) by decide) (F_n F36 (show ¬ (81 = 77 ∧ 7 ≤ ((r239.toInt).toNat) ∧ ((r239.toInt).toNat) ≤ 10) by (first | (clear g14 z_20 p_40 j_320 j_324 h328 z_357 p_376 j_390; omega) | (clear g14 z_20 p_40 j_320 j_324 z_357 p_376; omega) | omega)) rfl)))))
              have t_393 : (M378.2.1 84 (r239.toInt).toNat).toInt = (N.2.1 84 (r239.toInt).toNat).toInt := congrArg Int32.toInt (F_n F372 (show ¬ (84 = 77 ∧ 7 ≤ ((r239.toInt).toNat) ∧ ((r239.toInt).toNat) ≤ 10) by (first | (clear g14 z_20 p_40 j_320 j_324 h328 z_357 p_376 j_390; omega) | (clear g14 z_20 p_40 j_320 j_324 z_357 p_376; omega) | omega)) (W_n W358 (by (first | (clear g14 z_20 p_40 j_320 j_324 h328 z_357 p_376 j_390; omega) | (clear g14 z_20 p_40 j_320 j_324 z_357 p_376; omega) | omega)) (F_n F250 (show ¬ (84 < 0) by decide) (F_n F240 (show ¬ (84 < 0) by decide) (F_n F36 (show ¬ (84 = 77 ∧ 7 ≤ ((r239.toInt).toNat) ∧ ((r239.toInt).toNat) ≤ 10) by (first | (clear g14 z_20 p_40 j_320 j_324 h328 z_357 p_376 j_390; omega) | (clear g14 z_20 p_40 j_320 j_324 z_357 p_376; omega) | omega)) rfl)))))
              have j_394 := (PLk_f (tg_162 F372) (PLk_f (fun a i z => W_n W358 (tg_171 a i z) rfl) j_325))
              have z_395 := PLk_r j_394 5 84 rfl (by decide) (by decide) (k := r239.toInt) (by (first | (clear g14 z_20 p_40 j_320 j_324 h328 z_357 p_376 j_390; omega) | (clear g14 z_20 p_40 j_320 j_324 z_357 p_376; omega) | omega)) (by (first | (clear g14 z_20 p_40 j_320 j_324 h328 z_357 p_376 j_390; omega) | (clear g14 z_20 p_40 j_320 j_324 z_357 p_376; omega) | omega)) w_388
              have z_396 := x_row_v (s := sg) (r := 5) (x := r239.toInt) (y := x_fn sg 1 (x_val t nn a)) (by (first | (clear g14 z_20 p_40 j_320 j_324 h328 z_357 p_376 j_390; omega) | (clear g14 z_20 p_40 j_320 j_324 z_357 p_376; omega) | omega))
              refine to_c (pc := 226) rw_225_226 (x := (1 : Int32)) rfl rfl ?_
              refine s_sub (pc := 227) rw_225_227 (A := v387.toInt) (B := 1) rfl rfl (by (first | (clear g14 z_20 p_40 j_320 j_324 h328 z_357 p_376 j_390; omega) | (clear g14 z_20 p_40 j_320 j_324 z_357 p_376; omega) | omega)) (fun v397 e398 => ?_)
              refine s_v (pc := 228) rw_225_228 (dp0 hd (by decide)) (ls0 := [.ref 77, .int (0 : Int32), .int v397]) rfl (Nat.le_of_ble_eq_true rfl) (Nat.le_of_ble_eq_true rfl) rfl (to_rc rfl rfl rfl (g_o hG373 rfl)) rfl ?_
              refine to_an (pc := 0) rw_162_0 rfl ?_
              refine tt_gI (pc := 1) rw_162_1 (g_o hG373 rfl) (v := (M378.2.1 77 8)) rfl ?_
              refine to_c (pc := 4) rw_162_4 (x := (3 : Int32)) rfl rfl ?_
              refine b_ceq (pc := 5) rw_162_5 (A := (M378.2.1 77 8).toInt) (B := 3) rfl rfl (fun h399 => ?_) (fun h399 => ?_)
              · refine to_an (pc := 14) rw_162_14 rfl ?_
                refine tt_gI (pc := 15) rw_162_15 (g_o hG373 rfl) (v := (M378.2.1 77 9)) rfl ?_
                refine to_in (pc := 18) rw_162_18 rfl ?_
                refine b_clt (pc := 19) rw_162_19 (A := (M378.2.1 77 9).toInt) (B := 0) rfl rfl (fun h400 => ?_) (fun h400 => ?_)
                · refine to_an (pc := 30) rw_162_30 rfl ?_
                  refine to_c (pc := 31) rw_162_31 (x := (2 : Int32)) rfl rfl ?_
                  refine s_v (pc := 32) rw_162_32 (dp1 hd (by decide)) (ls0 := [.ref 77, .int (2 : Int32)]) rfl (Nat.le_of_ble_eq_true rfl) (Nat.le_of_ble_eq_true rfl) rfl (to_rc rfl rfl rfl (g_o hG373 rfl)) rfl ?_
                  refine to_an (pc := 0) rw_152_0 rfl ?_
                  refine to_in (pc := 1) rw_152_1 rfl ?_
                  refine s_pI (pc := 2) rw_152_2 hG373 rfl (fun M402 W401 => ?_)
                  have hG403 := g_wf hG373 W401 rfl rfl (by decide)
                  have F404 := FR.w F379 W401 (show 77 = 77 ∧ (4 = 4 ∨ 4 = 5 ∨ 7 ≤ 4 ∧ 4 ≤ 10) ∨ 77 = 77 ∧ (4 = 59 ∨ 65 ≤ 4 ∧ 4 ≤ 69) ∨ 112 ≤ 77 ∧ 77 ≤ 114 ∧ 40 ≤ 4 ∨ 77 = 115 ∨ 77 = 116 by decide)
                  refine to_an (pc := 5) rw_152_5 rfl ?_
                  refine to_an (pc := 6) rw_152_6 rfl ?_
                  have c_405 : M402.2.1 77 10 = (M378.2.1 77 10) := (W_n W401 (by decide) rfl)
                  refine tt_gI (pc := 7) rw_152_7 (g_o hG403 rfl) (v := (M378.2.1 77 10)) c_405 ?_
                  refine s_pI (pc := 10) rw_152_10 hG403 rfl (fun M407 W406 => ?_)
                  have hG408 := g_wf hG403 W406 rfl rfl (by decide)
                  have F409 := FR.w F404 W406 (show 77 = 77 ∧ (5 = 4 ∨ 5 = 5 ∨ 7 ≤ 5 ∧ 5 ≤ 10) ∨ 77 = 77 ∧ (5 = 59 ∨ 65 ≤ 5 ∧ 5 ≤ 69) ∨ 112 ≤ 77 ∧ 77 ≤ 114 ∧ 40 ≤ 5 ∨ 77 = 115 ∨ 77 = 116 by decide)
                  refine to_c (pc := 13) rw_152_13 (x := (0 : Int32)) rfl rfl ?_
                  refine s_r1 (pc := 14) rw_152_14 (A := 0) rfl (by decide) ?_
                  refine b_ieq_t (pc := 35) rw_162_35 (A := 0) rfl (by decide) ?_
                  refine to_c (pc := 42) rw_162_42 (x := (0 : Int32)) rfl rfl ?_
                  refine s_r1 (pc := 43) rw_162_43 (A := 0) rfl (by decide) ?_
                  refine b_ine_f (pc := 231) rw_225_231 (A := 0) rfl (by decide) ?_
                  have c_410 : M407.2.1 77 4 = (2 : Int32) := (W_n W406 (by decide) (W_e W401))
                  have z_411 := RS_3x p_377.1 (a := (x_ns t nn (x_ns t nn a))) (m := v387.toInt - 1) (by (first | (clear g14 z_20 p_40 j_320 j_324 h328 z_357 p_376 j_390; omega) | (clear g14 z_20 p_40 j_320 j_324 z_357 p_376; omega) | omega)) (by (first | (clear g14 z_20 p_40 j_320 j_324 h328 z_357 p_376 j_390; omega) | (clear g14 z_20 p_40 j_320 j_324 z_357 p_376; omega) | omega)) (by (first | (clear g14 z_20 p_40 j_320 j_324 h328 z_357 p_376 j_390; omega) | (clear g14 z_20 p_40 j_320 j_324 z_357 p_376; omega) | omega)) (by (first | (clear g14 z_20 p_40 j_320 j_324 h328 z_357 p_376 j_390; omega) | (clear g14 z_20 p_40 j_320 j_324 z_357 p_376; omega) | omega))
                  refine to_c (pc := 234) rw_225_234 (x := (0 : Int32)) rfl rfl ?_
                  refine s_r1 (pc := 235) rw_225_235 (A := 0) rfl (by decide) ?_
                  have k_412 : (0 : Int32).toInt = 0 := rfl
                  have c_413 : M407.2.1 77 7 = (M378.2.1 77 7) := (W_n W406 (by decide) (W_n W401 (by decide) rfl))
                  have t_414 : (M407.2.1 77 7).toInt = (M378.2.1 77 7).toInt := congrArg Int32.toInt c_413
                  have c_415 : M407.2.1 77 6 = (N.2.1 77 6) := (W_n W406 (by decide) (W_n W401 (by decide) c_381))
                  have t_416 : (M407.2.1 77 6).toInt = (N.2.1 77 6).toInt := congrArg Int32.toInt c_415
                  have k_417 : (2 : Int32).toInt = 2 := rfl
                  have t_418 : (M407.2.1 77 4).toInt = (2 : Int32).toInt := congrArg Int32.toInt c_410
                  have c_419 : M407.2.1 77 5 = (M378.2.1 77 10) := (W_e W406)
                  have t_420 : (M407.2.1 77 5).toInt = (M378.2.1 77 10).toInt := congrArg Int32.toInt c_419
                  have c_421 : M407.2.1 77 67 = (N.2.1 77 67) := (W_n W406 (by decide) (W_n W401 (by decide) (F_n F372 (show ¬ (77 = 77 ∧ 7 ≤ 67 ∧ 67 ≤ 10) by decide) (W_n W358 (by decide) (F_n F250 (show ¬ (77 < 0) by decide) (F_n F240 (show ¬ (77 < 0) by decide) (F_n F36 (show ¬ (77 = 77 ∧ 7 ≤ 67 ∧ 67 ≤ 10) by decide) rfl)))))))
                  have t_422 : (M407.2.1 77 67).toInt = (N.2.1 77 67).toInt := congrArg Int32.toInt c_421
                  have c_423 : M407.2.1 77 69 = (N.2.1 77 69) := (W_n W406 (by decide) (W_n W401 (by decide) (F_n F372 (show ¬ (77 = 77 ∧ 7 ≤ 69 ∧ 69 ≤ 10) by decide) (W_n W358 (by decide) (F_n F250 (show ¬ (77 < 0) by decide) (F_n F240 (show ¬ (77 < 0) by decide) (F_n F36 (show ¬ (77 = 77 ∧ 7 ≤ 69 ∧ 69 ≤ 10) by decide) rfl)))))))
                  have t_424 : (M407.2.1 77 69).toInt = (N.2.1 77 69).toInt := congrArg Int32.toInt c_423
                  exact h (0 : Int32) M407 hG408 F409 (by decide) (by decide) (by (first | (clear g14 z_20 p_40 j_320 j_324 h328 z_357 p_376 j_390 z_411; omega) | (clear g14 z_20 p_40 j_320 j_324 z_357 p_376 z_411; omega) | omega)) (by (first | (clear g14 z_20 p_40 j_320 j_324 h328 z_357 p_376 j_390 z_411; omega) | (clear g14 z_20 p_40 j_320 j_324 z_357 p_376 z_411; omega) | omega)) (fun z => absurd z (by decide)) (by (first | (clear g14 z_20 p_40 j_320 j_324 h328 z_357 p_376 j_390 z_411; omega) | (clear g14 z_20 p_40 j_320 j_324 z_357 p_376 z_411; omega) | omega)) (fun z => absurd z (by (first | (clear g14 z_20 p_40 j_320 j_324 h328 z_357 p_376 j_390 z_411; omega) | (clear g14 z_20 p_40 j_320 j_324 z_357 p_376 z_411; omega) | omega))) (fun z => absurd z (by decide)) (fun z => absurd z (by decide)) (fun z => absurd z (by decide)) (fun _ => ginl (by (first | (clear g14 z_20 p_40 j_320 j_324 h328 z_357 p_376 j_390 z_411; omega) | (clear g14 z_20 p_40 j_320 j_324 z_357 p_376 z_411; omega) | omega)) (by (first | (clear g14 z_20 p_40 j_320 j_324 h328 z_357 p_376 j_390 z_411; omega) | (clear g14 z_20 p_40 j_320 j_324 z_357 p_376 z_411; omega) | omega)) ((g_nm (by (first | (clear g14 z_20 p_40 j_320 j_324 h328 z_357 p_376 j_390 z_411; omega) | (clear g14 z_20 p_40 j_320 j_324 z_357 p_376 z_411; omega) | omega)) (by (first | (clear g14 z_20 p_40 j_320 j_324 h328 z_357 p_376 j_390 z_411; omega) | (clear g14 z_20 p_40 j_320 j_324 z_357 p_376 z_411; omega) | omega)) g17 g14).trans (hn_v2 z_237 z_357 (by (first | (clear g14 z_20 p_40 j_320 j_324 h328 z_357 p_376 j_390 z_411; omega) | (clear g14 z_20 p_40 j_320 j_324 z_357 p_376 z_411; omega) | omega)) (by (first | (clear g14 z_20 p_40 j_320 j_324 h328 z_357 p_376 j_390 z_411; omega) | (clear g14 z_20 p_40 j_320 j_324 z_357 p_376 z_411; omega) | omega)))))
                · refine to_an (pc := 22) rw_162_22 rfl ?_
                  refine tt_gI (pc := 23) rw_162_23 (g_o hG373 rfl) (v := (M378.2.1 77 9)) rfl ?_
                  refine to_in (pc := 26) rw_162_26 rfl ?_
                  refine b_cle (pc := 27) rw_162_27 (A := (M378.2.1 77 9).toInt) (B := v397.toInt) rfl rfl (fun h425 => ?_) (fun h425 => ?_)
                  · refine to_c (pc := 38) rw_162_38 (x := (1 : Int32)) rfl rfl ?_
                    refine to_go (pc := 39) rw_162_39 ?_
                    refine s_r1 (pc := 43) rw_162_43 (A := 1) rfl (by decide) ?_
                    refine b_ine_t (pc := 231) rw_225_231 (A := 1) rfl (by decide) ?_
                    have z_426 := RS_3 p_377.1 (a := (x_ns t nn (x_ns t nn a))) (by (first | (clear g14 z_20 p_40 j_320 j_324 h328 z_357 p_376 j_390; omega) | (clear g14 z_20 p_40 j_320 j_324 z_357 p_376; omega) | omega)) (by (first | (clear g14 z_20 p_40 j_320 j_324 h328 z_357 p_376 j_390; omega) | (clear g14 z_20 p_40 j_320 j_324 z_357 p_376; omega) | omega)) (by (first | (clear g14 z_20 p_40 j_320 j_324 h328 z_357 p_376 j_390; omega) | (clear g14 z_20 p_40 j_320 j_324 z_357 p_376; omega) | omega))
                    refine to_an (pc := 236) rw_225_236 rfl ?_
                    refine to_c (pc := 237) rw_225_237 (x := (0 : Int32)) rfl rfl ?_
                    refine to_i (pc := 238) rw_225_238 rfl ?_
                    refine to_an (pc := 240) rw_225_240 rfl ?_
                    refine tt_gI (pc := 241) rw_225_241 (g_o hG373 rfl) (v := (M378.2.1 77 9)) rfl ?_
                    refine s_v (pc := 244) rw_225_244 (dp0 hd (by decide)) (ls0 := [.ref 77, .int (0 : Int32), .int r239, .int (M378.2.1 77 9)]) rfl (Nat.le_of_ble_eq_true rfl) (Nat.le_of_ble_eq_true rfl) rfl (to_rc rfl rfl rfl (g_o hG373 rfl)) rfl ?_
                    have k_427 : (0 : Int32).toInt = 0 := rfl
                    have c_428 : M378.2.1 77 59 = (N.2.1 77 59) := (F_n F372 (show ¬ (77 = 77 ∧ 7 ≤ 59 ∧ 59 ≤ 10) by decide) (W_n W358 (by decide) (F_n F250 (show ¬ (77 < 0) by decide) (F_n F240 (show ¬ (77 < 0) by decide) (F_n F36 (show ¬ (77 = 77 ∧ 7 ≤ 59 ∧ 59 ≤ 10) by decide) rfl)))))
                    have t_429 : (M378.2.1 77 59).toInt = (N.2.1 77 59).toInt := congrArg Int32.toInt c_428
                    have c_430 : M378.2.1 77 66 = (N.2.1 77 66) := (F_n F372 (show ¬ (77 = 77 ∧ 7 ≤ 66 ∧ 66 ≤ 10) by decide) (W_n W358 (by decide) (F_n F250 (show ¬ (77 < 0) by decide) (F_n F240 (show ¬ (77 < 0) by decide) (F_n F36 (show ¬ (77 = 77 ∧ 7 ≤ 66 ∧ 66 ≤ 10) by decide) rfl)))))
                    have t_431 : (M378.2.1 77 66).toInt = (N.2.1 77 66).toInt := congrArg Int32.toInt c_430
                    have z_432 := g19.2.2.2
                    have z_433 := g19.2.1.1
                    have t_434 : (M378.2.1 81 (r239.toInt).toNat).toInt = (N.2.1 81 (r239.toInt).toNat).toInt := congrArg Int32.toInt (F_n F372 (show ¬ (81 = 77 ∧ 7 ≤ ((r239.toInt).toNat) ∧ ((r239.toInt).toNat) ≤ 10) by (first | (clear g14 z_20 p_40 j_320 j_324 h328 z_357 p_376 j_390; omega) | (clear g14 z_20 p_40 j_320 j_324 z_357 p_376; omega) | omega)) (W_n W358 (by (first | (clear g14 z_20 p_40 j_320 j_324 h328 z_357 p_376 j_390; omega) | (clear g14 z_20 p_40 j_320 j_324 z_357 p_376; omega) | omega)) (F_n F250 (show ¬ (81 < 0) by decide) (F_n F240 (show ¬ (81 < 0) by decide) (F_n F36 (show ¬ (81 = 77 ∧ 7 ≤ ((r239.toInt).toNat) ∧ ((r239.toInt).toNat) ≤ 10) by (first | (clear g14 z_20 p_40 j_320 j_324 h328 z_357 p_376 j_390; omega) | (clear g14 z_20 p_40 j_320 j_324 z_357 p_376; omega) | omega)) rfl)))))
                    refine E_221 hX (dp1 hd (by decide)) hG373 (by (first | (clear g14 z_20 p_40 j_320 j_324 h328 z_357 p_376 j_390; omega) | (clear g14 z_20 p_40 j_320 j_324 z_357 p_376; omega) | omega)) (by (first | (clear g14 z_20 p_40 j_320 j_324 h328 z_357 p_376 j_390; omega) | (clear g14 z_20 p_40 j_320 j_324 z_357 p_376; omega) | omega)) (by (first | (clear g14 z_20 p_40 j_320 j_324 h328 z_357 p_376 j_390; omega) | (clear g14 z_20 p_40 j_320 j_324 z_357 p_376; omega) | omega)) (by (first | (clear g14 z_20 p_40 j_320 j_324 h328 z_357 p_376 j_390; omega) | (clear g14 z_20 p_40 j_320 j_324 z_357 p_376; omega) | omega)) (by (first | (clear g14 z_20 p_40 j_320 j_324 h328 z_357 p_376 j_390; omega) | (clear g14 z_20 p_40 j_320 j_324 z_357 p_376; omega) | omega)) (by (first | (clear g14 z_20 p_40 j_320 j_324 h328 z_357 p_376 j_390; omega) | (clear g14 z_20 p_40 j_320 j_324 z_357 p_376; omega) | omega)) (by rw [(F_n F372 (show ¬ (77 = 77 ∧ 7 ≤ 59 ∧ 59 ≤ 10) by decide) (W_n W358 (by (first | (clear g14 z_20 p_40 j_320 j_324 h328 z_357 p_376 j_390; omega) | (clear g14 z_20 p_40 j_320 j_324 z_357 p_376; omega) | omega)) (F_n F250 (show ¬ (77 < 0) by decide) (F_n F240 (show ¬ (77 < 0) by decide) (F_n F36 (show ¬ (77 = 77 ∧ 7 ≤ 59 ∧ 59 ≤ 10) by decide) rfl)))))]; exact KN_f (fun a i z => (F_n F372 (show ¬ (a = 77 ∧ 7 ≤ i ∧ i ≤ 10) by (first | (clear g14 z_20 p_40 j_320 j_324 h328 z_357 p_376 j_390; omega) | (clear g14 z_20 p_40 j_320 j_324 z_357 p_376; omega) | omega)) (W_n W358 (by (first | (clear g14 z_20 p_40 j_320 j_324 h328 z_357 p_376 j_390; omega) | (clear g14 z_20 p_40 j_320 j_324 z_357 p_376; omega) | omega)) (F_n F250 (show ¬ (a < 0) by (first | (clear g14 z_20 p_40 j_320 j_324 h328 z_357 p_376 j_390; omega) | (clear g14 z_20 p_40 j_320 j_324 z_357 p_376; omega) | omega)) (F_n F240 (show ¬ (a < 0) by (first | (clear g14 z_20 p_40 j_320 j_324 h328 z_357 p_376 j_390; omega) | (clear g14 z_20 p_40 j_320 j_324 z_357 p_376; omega) | omega)) (F_n F36 (show ¬ (a = 77 ∧ 7 ≤ i ∧ i ≤ 10) by (first | (clear g14 z_20 p_40 j_320 j_324 h328 z_357 p_376 j_390; omega) | (clear g14 z_20 p_40 j_320 j_324 z_357 p_376; omega) | omega)) rfl)))))) g2.2.2) (by (first | (clear g14 z_20 p_40 j_320 j_324 h328 z_357 p_376 j_390; omega) | (clear g14 z_20 p_40 j_320 j_324 z_357 p_376; omega) | omega)) (by (first | (clear g14 z_20 p_40 j_320 j_324 h328 z_357 p_376 j_390; omega) | (clear g14 z_20 p_40 j_320 j_324 z_357 p_376; omega) | omega)) (by (first | (clear g14 z_20 p_40 j_320 j_324 h328 z_357 p_376 j_390; omega) | (clear g14 z_20 p_40 j_320 j_324 z_357 p_376; omega) | omega)) (by (first | (clear g14 z_20 p_40 j_320 j_324 h328 z_357 p_376 j_390; omega) | (clear g14 z_20 p_40 j_320 j_324 z_357 p_376; omega) | omega)) (by (first | (clear g14 z_20 p_40 j_320 j_324 h328 z_357 p_376 j_390; omega) | (clear g14 z_20 p_40 j_320 j_324 z_357 p_376; omega) | omega)) (GST_f (fun a i z => (F_n F372 (show ¬ (a = 77 ∧ 7 ≤ i ∧ i ≤ 10) by (first | (clear g14 z_20 p_40 j_320 j_324 h328 z_357 p_376 j_390; omega) | (clear g14 z_20 p_40 j_320 j_324 z_357 p_376; omega) | omega)) (W_n W358 (by (first | (clear g14 z_20 p_40 j_320 j_324 h328 z_357 p_376 j_390; omega) | (clear g14 z_20 p_40 j_320 j_324 z_357 p_376; omega) | omega)) (F_n F250 (show ¬ (a < 0) by (first | (clear g14 z_20 p_40 j_320 j_324 h328 z_357 p_376 j_390; omega) | (clear g14 z_20 p_40 j_320 j_324 z_357 p_376; omega) | omega)) (F_n F240 (show ¬ (a < 0) by (first | (clear g14 z_20 p_40 j_320 j_324 h328 z_357 p_376 j_390; omega) | (clear g14 z_20 p_40 j_320 j_324 z_357 p_376; omega) | omega)) (F_n F36 (show ¬ (a = 77 ∧ 7 ≤ i ∧ i ≤ 10) by (first | (clear g14 z_20 p_40 j_320 j_324 h328 z_357 p_376 j_390; omega) | (clear g14 z_20 p_40 j_320 j_324 z_357 p_376; omega) | omega)) rfl)))))) g19).2.1 (GST_f (fun a i z => (F_n F372 (show ¬ (a = 77 ∧ 7 ≤ i ∧ i ≤ 10) by (first | (clear g14 z_20 p_40 j_320 j_324 h328 z_357 p_376 j_390; omega) | (clear g14 z_20 p_40 j_320 j_324 z_357 p_376; omega) | omega)) (W_n W358 (by (first | (clear g14 z_20 p_40 j_320 j_324 h328 z_357 p_376 j_390; omega) | (clear g14 z_20 p_40 j_320 j_324 z_357 p_376; omega) | omega)) (F_n F250 (show ¬ (a < 0) by (first | (clear g14 z_20 p_40 j_320 j_324 h328 z_357 p_376 j_390; omega) | (clear g14 z_20 p_40 j_320 j_324 z_357 p_376; omega) | omega)) (F_n F240 (show ¬ (a < 0) by (first | (clear g14 z_20 p_40 j_320 j_324 h328 z_357 p_376 j_390; omega) | (clear g14 z_20 p_40 j_320 j_324 z_357 p_376; omega) | omega)) (F_n F36 (show ¬ (a = 77 ∧ 7 ≤ i ∧ i ≤ 10) by (first | (clear g14 z_20 p_40 j_320 j_324 h328 z_357 p_376 j_390; omega) | (clear g14 z_20 p_40 j_320 j_324 z_357 p_376; omega) | omega)) rfl)))))) g19).2.2.1 ⟨fun _ => ⟨rfl, rfl⟩, fun z => by exfalso; omega, fun z => by exfalso; omega⟩ (k := (0 : Int32)) (p := r239) (o := (M378.2.1 77 9)) (P9 := P9) (H9 := (x_hd P9.1.1 P9.2.toNat)) (f9 := r239.toInt) (s9 := (M378.2.1 77 9).toInt) (fun M442 hG436 F435 p_437 p_438 p_439 p_440 p_441 => ?_)
                    have F443 := FR.c F379 F435 tg_169
                    have b_444 := g_b hG436 (a := 77) (i := 59) (lo := 0) (hi := 40) rfl rfl
                    have b_445 := g_b hG436 (a := 77) (i := 66) (lo := 0) (hi := 40) rfl rfl
                    have c_446 : M442.2.1 77 65 = (N.2.1 77 65) := (F_n F435 (show ¬ (77 = 77 ∧ (65 = 59 ∨ 65 = 66) ∨ 112 ≤ 77 ∧ 77 ≤ 114 ∧ 40 ≤ 65 ∨ 77 = 116) by decide) (F_n F372 (show ¬ (77 = 77 ∧ 7 ≤ 65 ∧ 65 ≤ 10) by decide) (W_n W358 (by decide) (F_n F250 (show ¬ (77 < 0) by decide) (F_n F240 (show ¬ (77 < 0) by decide) (F_n F36 (show ¬ (77 = 77 ∧ 7 ≤ 65 ∧ 65 ≤ 10) by decide) rfl))))))
                    have t_447 : (M442.2.1 77 65).toInt = (N.2.1 77 65).toInt := congrArg Int32.toInt c_446
                    refine to_an (pc := 247) rw_225_247 rfl ?_
                    refine s_v (pc := 248) rw_225_248 (dp0 hd (by decide)) (ls0 := [.ref 77]) rfl (Nat.le_of_ble_eq_true rfl) (Nat.le_of_ble_eq_true rfl) rfl (to_rc rfl rfl rfl (g_o hG436 rfl)) rfl ?_
                    have c_448 : M442.2.1 77 7 = (M378.2.1 77 7) := (F_n F435 (show ¬ (77 = 77 ∧ (7 = 59 ∨ 7 = 66) ∨ 112 ≤ 77 ∧ 77 ≤ 114 ∧ 40 ≤ 7 ∨ 77 = 116) by decide) rfl)
                    have t_449 : (M442.2.1 77 7).toInt = (M378.2.1 77 7).toInt := congrArg Int32.toInt c_448
                    have c_450 : M442.2.1 77 6 = (N.2.1 77 6) := (F_n F435 (show ¬ (77 = 77 ∧ (6 = 59 ∨ 6 = 66) ∨ 112 ≤ 77 ∧ 77 ≤ 114 ∧ 40 ≤ 6 ∨ 77 = 116) by decide) c_381)
                    have t_451 : (M442.2.1 77 6).toInt = (N.2.1 77 6).toInt := congrArg Int32.toInt c_450
                    have c_452 : M442.2.1 77 10 = (M378.2.1 77 10) := (F_n F435 (show ¬ (77 = 77 ∧ (10 = 59 ∨ 10 = 66) ∨ 112 ≤ 77 ∧ 77 ≤ 114 ∧ 40 ≤ 10 ∨ 77 = 116) by decide) rfl)
                    have t_453 : (M442.2.1 77 10).toInt = (M378.2.1 77 10).toInt := congrArg Int32.toInt c_452
                    have j_454 := (RS_f (tg_163 F435) p_377.1)
                    have z_455 := RS_b j_454 (a := (x_ns t nn (x_ns t nn a))) (by (first | (clear g14 z_20 p_40 j_320 j_324 h328 z_357 p_376 j_390; omega) | (clear g14 z_20 p_40 j_320 j_324 z_357 p_376; omega) | omega))
                    have j_456 := (TR_f (tg_166 F435) (TR_f (tg_42 F372) j_370))
                    have j_457 := (W9_f (tg_167 F435) (W9_f (tg_44 F372) j_371))
                    refine E_156 hX (dp1 hd (by decide)) hG436 (by (first | (clear g14 z_20 p_40 j_320 j_324 h328 z_357 p_376 j_390; omega) | (clear g14 z_20 p_40 j_320 j_324 z_357 p_376; omega) | omega)) (by (first | (clear g14 z_20 p_40 j_320 j_324 h328 z_357 p_376 j_390; omega) | (clear g14 z_20 p_40 j_320 j_324 z_357 p_376; omega) | omega)) (by (first | (clear g14 z_20 p_40 j_320 j_324 h328 z_357 p_376 j_390; omega) | (clear g14 z_20 p_40 j_320 j_324 z_357 p_376; omega) | omega)) (by (first | (clear g14 z_20 p_40 j_320 j_324 h328 z_357 p_376 j_390; omega) | (clear g14 z_20 p_40 j_320 j_324 z_357 p_376; omega) | omega)) j_456 j_457  (fun M464 hG459 F458 p_460 p_461 p_462 p_463 => ?_)
                    have F465 := FR.c F443 F458 tg_146
                    have b_466 := g_b hG459 (a := 77) (i := 7) (lo := 0) (hi := 500) rfl rfl
                    have c_467 : M464.2.1 77 6 = (N.2.1 77 6) := (F_n F458 (show ¬ (77 = 77 ∧ 7 ≤ 6 ∧ 6 ≤ 10) by decide) c_450)
                    have t_468 : (M464.2.1 77 6).toInt = (N.2.1 77 6).toInt := congrArg Int32.toInt c_467
                    have b_469 := g_b hG459 (a := 77) (i := 8) (lo := 0) (hi := 5) rfl rfl
                    have b_470 := g_b hG459 (a := 77) (i := 10) (lo := 0) (hi := 500) rfl rfl
                    have z_471 := RS_s p_463.2 (a := (x_ns t nn (x_ns t nn a))) (by (first | (clear g14 z_20 p_40 j_320 j_324 h328 z_357 p_376 j_390 p_462; omega) | (clear g14 z_20 p_40 j_320 j_324 z_357 p_376 p_462; omega) | omega))
                    refine to_c (pc := 251) rw_225_251 (x := (1 : Int32)) rfl rfl ?_
                    refine s_r1 (pc := 252) rw_225_252 (A := 1) rfl (by decide) ?_
                    have k_472 : (1 : Int32).toInt = 1 := rfl
                    have c_473 : M464.2.1 77 59 = (M442.2.1 77 59) := (F_n F458 (show ¬ (77 = 77 ∧ 7 ≤ 59 ∧ 59 ≤ 10) by decide) rfl)
                    have t_474 : (M464.2.1 77 59).toInt = (M442.2.1 77 59).toInt := congrArg Int32.toInt c_473
                    have c_475 : M464.2.1 77 65 = (N.2.1 77 65) := (F_n F458 (show ¬ (77 = 77 ∧ 7 ≤ 65 ∧ 65 ≤ 10) by decide) c_446)
                    have t_476 : (M464.2.1 77 65).toInt = (N.2.1 77 65).toInt := congrArg Int32.toInt c_475
                    have c_477 : M464.2.1 77 66 = (M442.2.1 77 66) := (F_n F458 (show ¬ (77 = 77 ∧ 7 ≤ 66 ∧ 66 ≤ 10) by decide) rfl)
                    have t_478 : (M464.2.1 77 66).toInt = (M442.2.1 77 66).toInt := congrArg Int32.toInt c_477
                    have c_479 : M464.2.1 77 67 = (N.2.1 77 67) := (F_n F458 (show ¬ (77 = 77 ∧ 7 ≤ 67 ∧ 67 ≤ 10) by decide) (F_n F435 (show ¬ (77 = 77 ∧ (67 = 59 ∨ 67 = 66) ∨ 112 ≤ 77 ∧ 77 ≤ 114 ∧ 40 ≤ 67 ∨ 77 = 116) by decide) (F_n F372 (show ¬ (77 = 77 ∧ 7 ≤ 67 ∧ 67 ≤ 10) by decide) (W_n W358 (by decide) (F_n F250 (show ¬ (77 < 0) by decide) (F_n F240 (show ¬ (77 < 0) by decide) (F_n F36 (show ¬ (77 = 77 ∧ 7 ≤ 67 ∧ 67 ≤ 10) by decide) rfl)))))))
                    have t_480 : (M464.2.1 77 67).toInt = (N.2.1 77 67).toInt := congrArg Int32.toInt c_479
                    have c_481 : M464.2.1 77 68 = (1 : Int32) := (F_n F458 (show ¬ (77 = 77 ∧ 7 ≤ 68 ∧ 68 ≤ 10) by decide) (F_n F435 (show ¬ (77 = 77 ∧ (68 = 59 ∨ 68 = 66) ∨ 112 ≤ 77 ∧ 77 ≤ 114 ∧ 40 ≤ 68 ∨ 77 = 116) by decide) (F_n F372 (show ¬ (77 = 77 ∧ 7 ≤ 68 ∧ 68 ≤ 10) by decide) (W_e W358))))
                    have t_482 : (M464.2.1 77 68).toInt = (1 : Int32).toInt := congrArg Int32.toInt c_481
                    have c_483 : M464.2.1 77 69 = (N.2.1 77 69) := (F_n F458 (show ¬ (77 = 77 ∧ 7 ≤ 69 ∧ 69 ≤ 10) by decide) (F_n F435 (show ¬ (77 = 77 ∧ (69 = 59 ∨ 69 = 66) ∨ 112 ≤ 77 ∧ 77 ≤ 114 ∧ 40 ≤ 69 ∨ 77 = 116) by decide) (F_n F372 (show ¬ (77 = 77 ∧ 7 ≤ 69 ∧ 69 ≤ 10) by decide) (W_n W358 (by decide) (F_n F250 (show ¬ (77 < 0) by decide) (F_n F240 (show ¬ (77 < 0) by decide) (F_n F36 (show ¬ (77 = 77 ∧ 7 ≤ 69 ∧ 69 ≤ 10) by decide) rfl)))))))
                    have t_484 : (M464.2.1 77 69).toInt = (N.2.1 77 69).toInt := congrArg Int32.toInt c_483
                    have s_486 := Wx_f (M := N) (M1 := M464) ((N.2.1 77 65).toInt).toNat (fun i z => (F_n F458 (show ¬ (115 = 77 ∧ 7 ≤ i ∧ i ≤ 10) by (first | (clear g14 z_20 p_40 j_320 j_324 h328 z_357 p_376 j_390 p_462; omega) | (clear g14 z_20 p_40 j_320 j_324 z_357 p_376 p_462; omega) | omega)) (F_n F435 (show ¬ (115 = 77 ∧ (i = 59 ∨ i = 66) ∨ 112 ≤ 115 ∧ 115 ≤ 114 ∧ 40 ≤ i ∨ 115 = 116) by (first | (clear g14 z_20 p_40 j_320 j_324 h328 z_357 p_376 j_390 p_462; omega) | (clear g14 z_20 p_40 j_320 j_324 z_357 p_376 p_462; omega) | omega)) (F_n F372 (show ¬ (115 = 77 ∧ 7 ≤ i ∧ i ≤ 10) by (first | (clear g14 z_20 p_40 j_320 j_324 h328 z_357 p_376 j_390 p_462; omega) | (clear g14 z_20 p_40 j_320 j_324 z_357 p_376 p_462; omega) | omega)) (W_n W358 (by (first | (clear g14 z_20 p_40 j_320 j_324 h328 z_357 p_376 j_390 p_462; omega) | (clear g14 z_20 p_40 j_320 j_324 z_357 p_376 p_462; omega) | omega)) (F_n F250 (show ¬ (115 < 0) by decide) (F_n F240 (show ¬ (115 < 0) by decide) (F_n F36 (show ¬ (115 = 77 ∧ 7 ≤ i ∧ i ≤ 10) by (first | (clear g14 z_20 p_40 j_320 j_324 h328 z_357 p_376 j_390 p_462; omega) | (clear g14 z_20 p_40 j_320 j_324 z_357 p_376 p_462; omega) | omega)) rfl))))))))
                    have j_485 : QK M464 := QK_i (by unfold QK_c; rw [show ((M464.2.1 77 65).toInt).toNat = ((N.2.1 77 65).toInt).toNat by (first | (clear g14 z_20 p_40 j_320 j_324 h328 z_357 p_376 j_390 p_462; omega) | (clear g14 z_20 p_40 j_320 j_324 z_357 p_376 p_462; omega) | omega)]; refine ⟨by (first | (clear g14 z_20 p_40 j_320 j_324 h328 z_357 p_376 j_390 p_462; omega) | (clear g14 z_20 p_40 j_320 j_324 z_357 p_376 p_462; omega) | omega), by (first | (clear g14 z_20 p_40 j_320 j_324 h328 z_357 p_376 j_390 p_462; omega) | (clear g14 z_20 p_40 j_320 j_324 z_357 p_376 p_462; omega) | omega), by (first | (clear g14 z_20 p_40 j_320 j_324 h328 z_357 p_376 j_390 p_462; omega) | (clear g14 z_20 p_40 j_320 j_324 z_357 p_376 p_462; omega) | omega), by (first | (clear g14 z_20 p_40 j_320 j_324 h328 z_357 p_376 j_390 p_462; omega) | (clear g14 z_20 p_40 j_320 j_324 z_357 p_376 p_462; omega) | omega)⟩) (fun i z => by rw [(F_n F458 (show ¬ (115 = 77 ∧ 7 ≤ i ∧ i ≤ 10) by (first | (clear g14 z_20 p_40 j_320 j_324 h328 z_357 p_376 j_390 p_462; omega) | (clear g14 z_20 p_40 j_320 j_324 z_357 p_376 p_462; omega) | omega)) (F_n F435 (show ¬ (115 = 77 ∧ (i = 59 ∨ i = 66) ∨ 112 ≤ 115 ∧ 115 ≤ 114 ∧ 40 ≤ i ∨ 115 = 116) by (first | (clear g14 z_20 p_40 j_320 j_324 h328 z_357 p_376 j_390 p_462; omega) | (clear g14 z_20 p_40 j_320 j_324 z_357 p_376 p_462; omega) | omega)) (F_n F372 (show ¬ (115 = 77 ∧ 7 ≤ i ∧ i ≤ 10) by (first | (clear g14 z_20 p_40 j_320 j_324 h328 z_357 p_376 j_390 p_462; omega) | (clear g14 z_20 p_40 j_320 j_324 z_357 p_376 p_462; omega) | omega)) (W_n W358 (by (first | (clear g14 z_20 p_40 j_320 j_324 h328 z_357 p_376 j_390 p_462; omega) | (clear g14 z_20 p_40 j_320 j_324 z_357 p_376 p_462; omega) | omega)) (F_n F250 (show ¬ (115 < 0) by decide) (F_n F240 (show ¬ (115 < 0) by decide) (F_n F36 (show ¬ (115 = 77 ∧ 7 ≤ i ∧ i ≤ 10) by (first | (clear g14 z_20 p_40 j_320 j_324 h328 z_357 p_376 j_390 p_462; omega) | (clear g14 z_20 p_40 j_320 j_324 z_357 p_376 p_462; omega) | omega)) rfl)))))))]; exact g2.2.1 i (by (first | (clear g14 z_20 p_40 j_320 j_324 h328 z_357 p_376 j_390 p_462; omega) | (clear g14 z_20 p_40 j_320 j_324 z_357 p_376 p_462; omega) | omega))) (by rw [(F_n F458 (show ¬ (77 = 77 ∧ 7 ≤ 59 ∧ 59 ≤ 10) by decide) rfl)]; exact KN_f (fun a i z => (F_n F458 (show ¬ (a = 77 ∧ 7 ≤ i ∧ i ≤ 10) by (first | (clear g14 z_20 p_40 j_320 j_324 h328 z_357 p_376 j_390 p_462; omega) | (clear g14 z_20 p_40 j_320 j_324 z_357 p_376 p_462; omega) | omega)) rfl)) p_439)
                    exact h (1 : Int32) M464 hG459 F465 (by decide) (by decide) (by (first | (clear g14 z_20 p_40 j_320 j_324 h328 z_357 p_376 j_390 p_462; omega) | (clear g14 z_20 p_40 j_320 j_324 z_357 p_376 p_462; omega) | omega)) (by (first | (clear g14 z_20 p_40 j_320 j_324 h328 z_357 p_376 j_390 p_462; omega) | (clear g14 z_20 p_40 j_320 j_324 z_357 p_376 p_462; omega) | omega)) (fun _ => Or.imp (fun z => by (first | (clear g14 z_20 p_40 j_320 j_324 h328 z_357 p_376 j_390 p_462; omega) | (clear g14 z_20 p_40 j_320 j_324 z_357 p_376 p_462; omega) | omega)) (fun z => by (first | (clear g14 z_20 p_40 j_320 j_324 h328 z_357 p_376 j_390 p_462; omega) | (clear g14 z_20 p_40 j_320 j_324 z_357 p_376 p_462; omega) | omega)) p_462) (by (first | (clear g14 z_20 p_40 j_320 j_324 h328 z_357 p_376 j_390 p_462; omega) | (clear g14 z_20 p_40 j_320 j_324 z_357 p_376 p_462; omega) | omega)) (fun _ => j_485) (fun _ => by rw [show ((M464.2.1 77 65).toInt).toNat = ((N.2.1 77 65).toInt).toNat by (first | (clear g14 z_20 p_40 j_320 j_324 h328 z_357 p_376 j_390 p_462; omega) | (clear g14 z_20 p_40 j_320 j_324 z_357 p_376 p_462; omega) | omega)]; (first | (clear g14 z_20 p_40 j_320 j_324 h328 z_357 p_376 j_390 p_462; omega) | (clear g14 z_20 p_40 j_320 j_324 z_357 p_376 p_462; omega) | omega)) (fun _ => p_463.1) (fun _ => ⟨Wl9, x_lvq t nn sg P9 a, (GST_f (fun a i z => (F_n F458 (show ¬ (a = 77 ∧ 7 ≤ i ∧ i ≤ 10) by (first | (clear g14 z_20 p_40 j_320 j_324 h328 z_357 p_376 j_390 p_462; omega) | (clear g14 z_20 p_40 j_320 j_324 z_357 p_376 p_462; omega) | omega)) rfl)) (GST_l (k2 := 0) (f2 := x_fn sg 1 (x_val t nn a)) (s2 := (x_val t nn (x_ns t nn (x_ns t nn a)))) g19 (by (first | (clear g14 z_20 p_40 j_320 j_324 h328 z_357 p_376 j_390 p_462; omega) | (clear g14 z_20 p_40 j_320 j_324 z_357 p_376 p_462; omega) | omega)) (WTR_f (M1 := M442) (fun i => (F_n F435 (show ¬ (115 = 77 ∧ (i = 59 ∨ i = 66) ∨ 112 ≤ 115 ∧ 115 ≤ 114 ∧ 40 ≤ i ∨ 115 = 116) by (first | (clear g14 z_20 p_40 j_320 j_324 h328 z_357 p_376 j_390 p_462; omega) | (clear g14 z_20 p_40 j_320 j_324 z_357 p_376 p_462; omega) | omega)) (F_n F372 (show ¬ (115 = 77 ∧ 7 ≤ i ∧ i ≤ 10) by (first | (clear g14 z_20 p_40 j_320 j_324 h328 z_357 p_376 j_390 p_462; omega) | (clear g14 z_20 p_40 j_320 j_324 z_357 p_376 p_462; omega) | omega)) (W_n W358 (by (first | (clear g14 z_20 p_40 j_320 j_324 h328 z_357 p_376 j_390 p_462; omega) | (clear g14 z_20 p_40 j_320 j_324 z_357 p_376 p_462; omega) | omega)) (F_n F250 (show ¬ (115 < 0) by decide) (F_n F240 (show ¬ (115 < 0) by decide) (F_n F36 (show ¬ (115 = 77 ∧ 7 ≤ i ∧ i ≤ 10) by (first | (clear g14 z_20 p_40 j_320 j_324 h328 z_357 p_376 j_390 p_462; omega) | (clear g14 z_20 p_40 j_320 j_324 z_357 p_376 p_462; omega) | omega)) rfl))))))) (by (first | (clear g14 z_20 p_40 j_320 j_324 h328 z_357 p_376 j_390 p_462; omega) | (clear g14 z_20 p_40 j_320 j_324 z_357 p_376 p_462; omega) | omega)) g19.1) p_440 p_441 (by (first | (clear g14 z_20 p_40 j_320 j_324 h328 z_357 p_376 j_390 p_462; omega) | (clear g14 z_20 p_40 j_320 j_324 z_357 p_376 p_462; omega) | omega)) (by (first | (clear g14 z_20 p_40 j_320 j_324 h328 z_357 p_376 j_390 p_462; omega) | (clear g14 z_20 p_40 j_320 j_324 z_357 p_376 p_462; omega) | omega)) (by (first | (clear g14 z_20 p_40 j_320 j_324 h328 z_357 p_376 j_390 p_462; omega) | (clear g14 z_20 p_40 j_320 j_324 z_357 p_376 p_462; omega) | omega)) (by (first | (clear g14 z_20 p_40 j_320 j_324 h328 z_357 p_376 j_390 p_462; omega) | (clear g14 z_20 p_40 j_320 j_324 z_357 p_376 p_462; omega) | omega)))), ((g_nm (by (first | (clear g14 z_20 p_40 j_320 j_324 h328 z_357 p_376 j_390 p_462; omega) | (clear g14 z_20 p_40 j_320 j_324 z_357 p_376 p_462; omega) | omega)) (by (first | (clear g14 z_20 p_40 j_320 j_324 h328 z_357 p_376 j_390 p_462; omega) | (clear g14 z_20 p_40 j_320 j_324 z_357 p_376 p_462; omega) | omega)) g17 g14).trans (hn_v z_237 z_357 (by (first | (clear g14 z_20 p_40 j_320 j_324 h328 z_357 p_376 j_390 p_462; omega) | (clear g14 z_20 p_40 j_320 j_324 z_357 p_376 p_462; omega) | omega)) (by (first | (clear g14 z_20 p_40 j_320 j_324 h328 z_357 p_376 j_390 p_462; omega) | (clear g14 z_20 p_40 j_320 j_324 z_357 p_376 p_462; omega) | omega)))).trans (g_v (by (first | (clear g14 z_20 p_40 j_320 j_324 h328 z_357 p_376 j_390 p_462; omega) | (clear g14 z_20 p_40 j_320 j_324 z_357 p_376 p_462; omega) | omega)) (by (first | (clear g14 z_20 p_40 j_320 j_324 h328 z_357 p_376 j_390 p_462; omega) | (clear g14 z_20 p_40 j_320 j_324 z_357 p_376 p_462; omega) | omega)) (by (first | (clear g14 z_20 p_40 j_320 j_324 h328 z_357 p_376 j_390 p_462; omega) | (clear g14 z_20 p_40 j_320 j_324 z_357 p_376 p_462; omega) | omega)) rfl (by (first | (clear g14 z_20 p_40 j_320 j_324 h328 z_357 p_376 j_390 p_462; omega) | (clear g14 z_20 p_40 j_320 j_324 z_357 p_376 p_462; omega) | omega)))⟩) (fun z => absurd z (by decide))
                  · refine to_an (pc := 30) rw_162_30 rfl ?_
                    refine to_c (pc := 31) rw_162_31 (x := (2 : Int32)) rfl rfl ?_
                    refine s_v (pc := 32) rw_162_32 (dp1 hd (by decide)) (ls0 := [.ref 77, .int (2 : Int32)]) rfl (Nat.le_of_ble_eq_true rfl) (Nat.le_of_ble_eq_true rfl) rfl (to_rc rfl rfl rfl (g_o hG373 rfl)) rfl ?_
                    refine to_an (pc := 0) rw_152_0 rfl ?_
                    refine to_in (pc := 1) rw_152_1 rfl ?_
                    refine s_pI (pc := 2) rw_152_2 hG373 rfl (fun M488 W487 => ?_)
                    have hG489 := g_wf hG373 W487 rfl rfl (by decide)
                    have F490 := FR.w F379 W487 (show 77 = 77 ∧ (4 = 4 ∨ 4 = 5 ∨ 7 ≤ 4 ∧ 4 ≤ 10) ∨ 77 = 77 ∧ (4 = 59 ∨ 65 ≤ 4 ∧ 4 ≤ 69) ∨ 112 ≤ 77 ∧ 77 ≤ 114 ∧ 40 ≤ 4 ∨ 77 = 115 ∨ 77 = 116 by decide)
                    refine to_an (pc := 5) rw_152_5 rfl ?_
                    refine to_an (pc := 6) rw_152_6 rfl ?_
                    have c_491 : M488.2.1 77 10 = (M378.2.1 77 10) := (W_n W487 (by decide) rfl)
                    refine tt_gI (pc := 7) rw_152_7 (g_o hG489 rfl) (v := (M378.2.1 77 10)) c_491 ?_
                    refine s_pI (pc := 10) rw_152_10 hG489 rfl (fun M493 W492 => ?_)
                    have hG494 := g_wf hG489 W492 rfl rfl (by decide)
                    have F495 := FR.w F490 W492 (show 77 = 77 ∧ (5 = 4 ∨ 5 = 5 ∨ 7 ≤ 5 ∧ 5 ≤ 10) ∨ 77 = 77 ∧ (5 = 59 ∨ 65 ≤ 5 ∧ 5 ≤ 69) ∨ 112 ≤ 77 ∧ 77 ≤ 114 ∧ 40 ≤ 5 ∨ 77 = 115 ∨ 77 = 116 by decide)
                    refine to_c (pc := 13) rw_152_13 (x := (0 : Int32)) rfl rfl ?_
                    refine s_r1 (pc := 14) rw_152_14 (A := 0) rfl (by decide) ?_
                    refine b_ieq_t (pc := 35) rw_162_35 (A := 0) rfl (by decide) ?_
                    refine to_c (pc := 42) rw_162_42 (x := (0 : Int32)) rfl rfl ?_
                    refine s_r1 (pc := 43) rw_162_43 (A := 0) rfl (by decide) ?_
                    refine b_ine_f (pc := 231) rw_225_231 (A := 0) rfl (by decide) ?_
                    have c_496 : M493.2.1 77 4 = (2 : Int32) := (W_n W492 (by decide) (W_e W487))
                    have z_497 := RS_3x p_377.1 (a := (x_ns t nn (x_ns t nn a))) (m := v387.toInt - 1) (by (first | (clear g14 z_20 p_40 j_320 j_324 h328 z_357 p_376 j_390; omega) | (clear g14 z_20 p_40 j_320 j_324 z_357 p_376; omega) | omega)) (by (first | (clear g14 z_20 p_40 j_320 j_324 h328 z_357 p_376 j_390; omega) | (clear g14 z_20 p_40 j_320 j_324 z_357 p_376; omega) | omega)) (by (first | (clear g14 z_20 p_40 j_320 j_324 h328 z_357 p_376 j_390; omega) | (clear g14 z_20 p_40 j_320 j_324 z_357 p_376; omega) | omega)) (by (first | (clear g14 z_20 p_40 j_320 j_324 h328 z_357 p_376 j_390; omega) | (clear g14 z_20 p_40 j_320 j_324 z_357 p_376; omega) | omega))
                    refine to_c (pc := 234) rw_225_234 (x := (0 : Int32)) rfl rfl ?_
                    refine s_r1 (pc := 235) rw_225_235 (A := 0) rfl (by decide) ?_
                    have k_498 : (0 : Int32).toInt = 0 := rfl
                    have c_499 : M493.2.1 77 7 = (M378.2.1 77 7) := (W_n W492 (by decide) (W_n W487 (by decide) rfl))
                    have t_500 : (M493.2.1 77 7).toInt = (M378.2.1 77 7).toInt := congrArg Int32.toInt c_499
                    have c_501 : M493.2.1 77 6 = (N.2.1 77 6) := (W_n W492 (by decide) (W_n W487 (by decide) c_381))
                    have t_502 : (M493.2.1 77 6).toInt = (N.2.1 77 6).toInt := congrArg Int32.toInt c_501
                    have k_503 : (2 : Int32).toInt = 2 := rfl
                    have t_504 : (M493.2.1 77 4).toInt = (2 : Int32).toInt := congrArg Int32.toInt c_496
                    have c_505 : M493.2.1 77 5 = (M378.2.1 77 10) := (W_e W492)
                    have t_506 : (M493.2.1 77 5).toInt = (M378.2.1 77 10).toInt := congrArg Int32.toInt c_505
                    have c_507 : M493.2.1 77 67 = (N.2.1 77 67) := (W_n W492 (by decide) (W_n W487 (by decide) (F_n F372 (show ¬ (77 = 77 ∧ 7 ≤ 67 ∧ 67 ≤ 10) by decide) (W_n W358 (by decide) (F_n F250 (show ¬ (77 < 0) by decide) (F_n F240 (show ¬ (77 < 0) by decide) (F_n F36 (show ¬ (77 = 77 ∧ 7 ≤ 67 ∧ 67 ≤ 10) by decide) rfl)))))))
                    have t_508 : (M493.2.1 77 67).toInt = (N.2.1 77 67).toInt := congrArg Int32.toInt c_507
                    have c_509 : M493.2.1 77 69 = (N.2.1 77 69) := (W_n W492 (by decide) (W_n W487 (by decide) (F_n F372 (show ¬ (77 = 77 ∧ 7 ≤ 69 ∧ 69 ≤ 10) by decide) (W_n W358 (by decide) (F_n F250 (show ¬ (77 < 0) by decide) (F_n F240 (show ¬ (77 < 0) by decide) (F_n F36 (show ¬ (77 = 77 ∧ 7 ≤ 69 ∧ 69 ≤ 10) by decide) rfl)))))))
                    have t_510 : (M493.2.1 77 69).toInt = (N.2.1 77 69).toInt := congrArg Int32.toInt c_509
                    exact h (0 : Int32) M493 hG494 F495 (by decide) (by decide) (by (first | (clear g14 z_20 p_40 j_320 j_324 h328 z_357 p_376 j_390 z_497; omega) | (clear g14 z_20 p_40 j_320 j_324 z_357 p_376 z_497; omega) | omega)) (by (first | (clear g14 z_20 p_40 j_320 j_324 h328 z_357 p_376 j_390 z_497; omega) | (clear g14 z_20 p_40 j_320 j_324 z_357 p_376 z_497; omega) | omega)) (fun z => absurd z (by decide)) (by (first | (clear g14 z_20 p_40 j_320 j_324 h328 z_357 p_376 j_390 z_497; omega) | (clear g14 z_20 p_40 j_320 j_324 z_357 p_376 z_497; omega) | omega)) (fun z => absurd z (by (first | (clear g14 z_20 p_40 j_320 j_324 h328 z_357 p_376 j_390 z_497; omega) | (clear g14 z_20 p_40 j_320 j_324 z_357 p_376 z_497; omega) | omega))) (fun z => absurd z (by decide)) (fun z => absurd z (by decide)) (fun z => absurd z (by decide)) (fun _ => ginl (by (first | (clear g14 z_20 p_40 j_320 j_324 h328 z_357 p_376 j_390 z_497; omega) | (clear g14 z_20 p_40 j_320 j_324 z_357 p_376 z_497; omega) | omega)) (by (first | (clear g14 z_20 p_40 j_320 j_324 h328 z_357 p_376 j_390 z_497; omega) | (clear g14 z_20 p_40 j_320 j_324 z_357 p_376 z_497; omega) | omega)) ((g_nm (by (first | (clear g14 z_20 p_40 j_320 j_324 h328 z_357 p_376 j_390 z_497; omega) | (clear g14 z_20 p_40 j_320 j_324 z_357 p_376 z_497; omega) | omega)) (by (first | (clear g14 z_20 p_40 j_320 j_324 h328 z_357 p_376 j_390 z_497; omega) | (clear g14 z_20 p_40 j_320 j_324 z_357 p_376 z_497; omega) | omega)) g17 g14).trans (hn_v2 z_237 z_357 (by (first | (clear g14 z_20 p_40 j_320 j_324 h328 z_357 p_376 j_390 z_497; omega) | (clear g14 z_20 p_40 j_320 j_324 z_357 p_376 z_497; omega) | omega)) (by (first | (clear g14 z_20 p_40 j_320 j_324 h328 z_357 p_376 j_390 z_497; omega) | (clear g14 z_20 p_40 j_320 j_324 z_357 p_376 z_497; omega) | omega)))))
              · refine to_an (pc := 8) rw_162_8 rfl ?_
                refine to_c (pc := 9) rw_162_9 (x := (1 : Int32)) rfl rfl ?_
                refine s_v (pc := 10) rw_162_10 (dp1 hd (by decide)) (ls0 := [.ref 77, .int (1 : Int32)]) rfl (Nat.le_of_ble_eq_true rfl) (Nat.le_of_ble_eq_true rfl) rfl (to_rc rfl rfl rfl (g_o hG373 rfl)) rfl ?_
                refine to_an (pc := 0) rw_152_0 rfl ?_
                refine to_in (pc := 1) rw_152_1 rfl ?_
                refine s_pI (pc := 2) rw_152_2 hG373 rfl (fun M512 W511 => ?_)
                have hG513 := g_wf hG373 W511 rfl rfl (by decide)
                have F514 := FR.w F379 W511 (show 77 = 77 ∧ (4 = 4 ∨ 4 = 5 ∨ 7 ≤ 4 ∧ 4 ≤ 10) ∨ 77 = 77 ∧ (4 = 59 ∨ 65 ≤ 4 ∧ 4 ≤ 69) ∨ 112 ≤ 77 ∧ 77 ≤ 114 ∧ 40 ≤ 4 ∨ 77 = 115 ∨ 77 = 116 by decide)
                refine to_an (pc := 5) rw_152_5 rfl ?_
                refine to_an (pc := 6) rw_152_6 rfl ?_
                have c_515 : M512.2.1 77 10 = (M378.2.1 77 10) := (W_n W511 (by decide) rfl)
                refine tt_gI (pc := 7) rw_152_7 (g_o hG513 rfl) (v := (M378.2.1 77 10)) c_515 ?_
                refine s_pI (pc := 10) rw_152_10 hG513 rfl (fun M517 W516 => ?_)
                have hG518 := g_wf hG513 W516 rfl rfl (by decide)
                have F519 := FR.w F514 W516 (show 77 = 77 ∧ (5 = 4 ∨ 5 = 5 ∨ 7 ≤ 5 ∧ 5 ≤ 10) ∨ 77 = 77 ∧ (5 = 59 ∨ 65 ≤ 5 ∧ 5 ≤ 69) ∨ 112 ≤ 77 ∧ 77 ≤ 114 ∧ 40 ≤ 5 ∨ 77 = 115 ∨ 77 = 116 by decide)
                refine to_c (pc := 13) rw_152_13 (x := (0 : Int32)) rfl rfl ?_
                refine s_r1 (pc := 14) rw_152_14 (A := 0) rfl (by decide) ?_
                refine s_r1 (pc := 13) rw_162_13 (A := 0) rfl (by decide) ?_
                refine b_ine_f (pc := 231) rw_225_231 (A := 0) rfl (by decide) ?_
                have c_520 : M517.2.1 77 4 = (1 : Int32) := (W_n W516 (by decide) (W_e W511))
                refine to_c (pc := 234) rw_225_234 (x := (0 : Int32)) rfl rfl ?_
                refine s_r1 (pc := 235) rw_225_235 (A := 0) rfl (by decide) ?_
                have k_521 : (0 : Int32).toInt = 0 := rfl
                have c_522 : M517.2.1 77 7 = (M378.2.1 77 7) := (W_n W516 (by decide) (W_n W511 (by decide) rfl))
                have t_523 : (M517.2.1 77 7).toInt = (M378.2.1 77 7).toInt := congrArg Int32.toInt c_522
                have c_524 : M517.2.1 77 6 = (N.2.1 77 6) := (W_n W516 (by decide) (W_n W511 (by decide) c_381))
                have t_525 : (M517.2.1 77 6).toInt = (N.2.1 77 6).toInt := congrArg Int32.toInt c_524
                have k_526 : (1 : Int32).toInt = 1 := rfl
                have t_527 : (M517.2.1 77 4).toInt = (1 : Int32).toInt := congrArg Int32.toInt c_520
                have c_528 : M517.2.1 77 5 = (M378.2.1 77 10) := (W_e W516)
                have t_529 : (M517.2.1 77 5).toInt = (M378.2.1 77 10).toInt := congrArg Int32.toInt c_528
                have c_530 : M517.2.1 77 67 = (N.2.1 77 67) := (W_n W516 (by decide) (W_n W511 (by decide) (F_n F372 (show ¬ (77 = 77 ∧ 7 ≤ 67 ∧ 67 ≤ 10) by decide) (W_n W358 (by decide) (F_n F250 (show ¬ (77 < 0) by decide) (F_n F240 (show ¬ (77 < 0) by decide) (F_n F36 (show ¬ (77 = 77 ∧ 7 ≤ 67 ∧ 67 ≤ 10) by decide) rfl)))))))
                have t_531 : (M517.2.1 77 67).toInt = (N.2.1 77 67).toInt := congrArg Int32.toInt c_530
                have c_532 : M517.2.1 77 69 = (N.2.1 77 69) := (W_n W516 (by decide) (W_n W511 (by decide) (F_n F372 (show ¬ (77 = 77 ∧ 7 ≤ 69 ∧ 69 ≤ 10) by decide) (W_n W358 (by decide) (F_n F250 (show ¬ (77 < 0) by decide) (F_n F240 (show ¬ (77 < 0) by decide) (F_n F36 (show ¬ (77 = 77 ∧ 7 ≤ 69 ∧ 69 ≤ 10) by decide) rfl)))))))
                have t_533 : (M517.2.1 77 69).toInt = (N.2.1 77 69).toInt := congrArg Int32.toInt c_532
                exact h (0 : Int32) M517 hG518 F519 (by decide) (by decide) (by (first | (clear g14 z_20 p_40 j_320 j_324 h328 z_357 p_376 j_390 h399; omega) | (clear g14 z_20 p_40 j_320 j_324 h328 z_357 p_376; omega) | omega)) (by (first | (clear g14 z_20 p_40 j_320 j_324 h328 z_357 p_376 j_390 h399; omega) | (clear g14 z_20 p_40 j_320 j_324 h328 z_357 p_376; omega) | omega)) (fun z => absurd z (by decide)) (by (first | (clear g14 z_20 p_40 j_320 j_324 h328 z_357 p_376 j_390 h399; omega) | (clear g14 z_20 p_40 j_320 j_324 h328 z_357 p_376; omega) | omega)) (fun z => absurd z (by (first | (clear g14 z_20 p_40 j_320 j_324 h328 z_357 p_376 j_390 h399; omega) | (clear g14 z_20 p_40 j_320 j_324 h328 z_357 p_376; omega) | omega))) (fun z => absurd z (by decide)) (fun z => absurd z (by decide)) (fun z => absurd z (by decide)) (fun _ => ginl (by (first | (clear g14 z_20 p_40 j_320 j_324 h328 z_357 p_376 j_390 h399; omega) | (clear g14 z_20 p_40 j_320 j_324 h328 z_357 p_376; omega) | omega)) (by (first | (clear g14 z_20 p_40 j_320 j_324 h328 z_357 p_376 j_390 h399; omega) | (clear g14 z_20 p_40 j_320 j_324 h328 z_357 p_376; omega) | omega)) ((g_nm (by (first | (clear g14 z_20 p_40 j_320 j_324 h328 z_357 p_376 j_390 h399; omega) | (clear g14 z_20 p_40 j_320 j_324 h328 z_357 p_376; omega) | omega)) (by (first | (clear g14 z_20 p_40 j_320 j_324 h328 z_357 p_376 j_390 h399; omega) | (clear g14 z_20 p_40 j_320 j_324 h328 z_357 p_376; omega) | omega)) g17 g14).trans (hn_v1 z_237 z_357 (by (first | (clear g14 z_20 p_40 j_320 j_324 h328 z_357 p_376 j_390 h399; omega) | (clear g14 z_20 p_40 j_320 j_324 h328 z_357 p_376; omega) | omega)))))
set_option maxRecDepth 4000 in
set_option maxHeartbeats 0 in
theorem E_225 {X : mm_X} {d : Nat} {M : mm_M} {Q : Option Value → mm_M → Prop} {t : Nat → Int} {nn : Int} {a : Int} {sg : x_S} {Wl9 : List Int} {P9 : x_GP} (hX : g_X X) (hd : 2 ≤ d) (hG : g_G M) (q1 : (M.2.1 77 7).toInt ≤ (M.2.1 77 6).toInt) (q2 : QK M) (q3 : FA M) (q4 : (M.2.1 77 68).toInt = 0) (q5 : RS M t nn) (q6 : (M.2.1 77 10).toInt = a) (q7 : 0 ≤ nn) (q8 : nn ≤ 500) (q9 : TR M t nn) (q10 : W9 M) (q11 : PLk M sg) (q12 : (M.2.1 77 59).toInt + Wo M ((M.2.1 77 65).toInt).toNat = (M.2.1 77 69).toInt) (q13 : GST M Wl9 P9) (h : ∀ (r : Int32) (M1 : mm_M), g_G M1 → FR md_qr M M1 → (0 ≤ r.toInt) → (r.toInt ≤ 1) → ((M1.2.1 77 7).toInt ≤ (M1.2.1 77 6).toInt) → ((M.2.1 77 7).toInt ≤ (M1.2.1 77 7).toInt) → ((r.toInt = 1 → (M1.2.1 77 8).toInt = 0 ∨ (M.2.1 77 7).toInt < (M1.2.1 77 7).toInt)) → (r.toInt = 1 → ¬ (M.2.1 77 8).toInt = 0) → ((r.toInt = 1 → QK M1)) → ((r.toInt = 1 → (M1.2.1 77 59).toInt + Wo M1 ((M1.2.1 77 65).toInt).toNat = (M1.2.1 77 69).toInt)) → ((r.toInt = 1 → RS M1 t nn)) → ((r.toInt = 1 → ∃ (W2 : List Int) (P2 : x_GP), GST M1 W2 P2 ∧ x_gg t nn sg 0 (M.2.1 77 67).toInt (M.2.1 77 69).toInt Wl9 P9 a = x_gg t nn sg (M1.2.1 77 68).toInt (M1.2.1 77 67).toInt (M1.2.1 77 69).toInt W2 P2 (M1.2.1 77 10).toInt)) → ((r.toInt = 0 → x_gg t nn sg 0 (M.2.1 77 67).toInt (M.2.1 77 69).toInt Wl9 P9 a = Sum.inl ((M1.2.1 77 4).toInt, (M1.2.1 77 5).toInt))) → Q (some (.int r)) M1) : mm_T X d 224 0 [.ref 77, .null, .null, .null, .null, .null] [] M Q := by
  have F0 : FR md_qr M M := FR.rf
  have b_534 := g_b hG (a := 77) (i := 7) (lo := 0) (hi := 500) rfl rfl
  have b_535 := g_b hG (a := 77) (i := 6) (lo := 0) (hi := 500) rfl rfl
  have b_536 := g_b hG (a := 77) (i := 68) (lo := 0) (hi := 1) rfl rfl
  have b_537 := g_b hG (a := 77) (i := 10) (lo := 0) (hi := 500) rfl rfl
  have b_538 := g_b hG (a := 77) (i := 59) (lo := 0) (hi := 40) rfl rfl
  have b_539 := g_b hG (a := 77) (i := 65) (lo := 0) (hi := 48) rfl rfl
  have b_540 := g_b hG (a := 77) (i := 66) (lo := 0) (hi := 40) rfl rfl
  have b_541 := g_b hG (a := 77) (i := 67) (lo := 0) (hi := 8) rfl rfl
  have b_542 := g_b hG (a := 77) (i := 69) (lo := 0) (hi := 40) rfl rfl
  have s_543 := QK_e q2
  have s_544 := Wx_b M ((M.2.1 77 65).toInt).toNat
  have b_545 := g_b hG (a := 77) (i := 8) (lo := 0) (hi := 5) rfl rfl
  have z_546 := RS_k q5 (a := a) (by omega)
  have z_547 := q11.2.1
  have z_548 := q11.2.2.1
  have z_549 := q11.2.2.2.1
  have z_550 := q11.1
  have z_551 := z_550.1
  have z_552 := z_550.2.1
  have z_553 := z_550.2.2.1
  have z_554 := z_550.2.2.2.1
  have z_555 := z_550.2.2.2.2.1
  have z_556 := z_550.2.2.2.2.2.1
  have b_557 := g_b hG (a := 77) (i := 11) (lo := 10) (hi := 60) rfl rfl
  have b_558 := g_b hG (a := 77) (i := 12) (lo := 0) (hi := 8) rfl rfl
  have b_559 := g_b hG (a := 77) (i := 13) (lo := 0) (hi := 12) rfl rfl
  have z_560 := RS_b q5 (a := a) (by omega)
  refine to_an (pc := 0) rw_225_0 rfl ?_
  refine to_c (pc := 1) rw_225_1 (x := (40 : Int32)) rfl rfl ?_
  refine s_v (pc := 3) rw_225_3 (dp0 hd (by decide)) (ls0 := [.ref 77, .int (40 : Int32)]) rfl (Nat.le_of_ble_eq_true rfl) (Nat.le_of_ble_eq_true rfl) rfl (to_rc rfl rfl rfl (g_o hG rfl)) rfl ?_
  refine to_an (pc := 0) rw_159_0 rfl ?_
  refine tt_gI (pc := 1) rw_159_1 (g_o hG rfl) (v := (M.2.1 77 8)) rfl ?_
  refine to_c (pc := 4) rw_159_4 (x := (4 : Int32)) rfl rfl ?_
  refine b_cne (pc := 5) rw_159_5 (A := (M.2.1 77 8).toInt) (B := 4) rfl rfl (fun h561 => ?_) (fun h561 => ?_)
  · refine to_c (pc := 20) rw_159_20 (x := (0 : Int32)) rfl rfl ?_
    refine s_r1 (pc := 21) rw_159_21 (A := 0) rfl (by decide) ?_
    refine b_ieq_t (pc := 6) rw_225_6 (A := 0) rfl (by decide) ?_
    refine to_an (pc := 60) rw_225_60 rfl ?_
    refine to_c (pc := 61) rw_225_61 (x := (14 : Int32)) rfl rfl ?_
    refine s_v (pc := 63) rw_225_63 (dp0 hd (by decide)) (ls0 := [.ref 77, .int (14 : Int32)]) rfl (Nat.le_of_ble_eq_true rfl) (Nat.le_of_ble_eq_true rfl) rfl (to_rc rfl rfl rfl (g_o hG rfl)) rfl ?_
    refine to_an (pc := 0) rw_158_0 rfl ?_
    refine tt_gI (pc := 1) rw_158_1 (g_o hG rfl) (v := (M.2.1 77 8)) rfl ?_
    refine to_c (pc := 4) rw_158_4 (x := (1 : Int32)) rfl rfl ?_
    refine b_cne (pc := 5) rw_158_5 (A := (M.2.1 77 8).toInt) (B := 1) rfl rfl (fun h562 => ?_) (fun h562 => ?_)
    · refine to_c (pc := 20) rw_158_20 (x := (0 : Int32)) rfl rfl ?_
      refine s_r1 (pc := 21) rw_158_21 (A := 0) rfl (by decide) ?_
      refine b_ieq_t (pc := 66) rw_225_66 (A := 0) rfl (by decide) ?_
      refine to_an (pc := 104) rw_225_104 rfl ?_
      refine tt_gI (pc := 105) rw_225_105 (g_o hG rfl) (v := (M.2.1 77 8)) rfl ?_
      refine to_c (pc := 108) rw_225_108 (x := (2 : Int32)) rfl rfl ?_
      refine b_ceq (pc := 109) rw_225_109 (A := (M.2.1 77 8).toInt) (B := 2) rfl rfl (fun h563 => ?_) (fun h563 => ?_)
      · have z_564 := RS_2 q5 (a := a) (by (first | (clear h561 h562; omega) | (clear h561; omega) | omega)) (by (first | (clear h561 h562; omega) | (clear h561; omega) | omega))
        refine to_an (pc := 118) rw_225_118 rfl ?_
        refine s_v (pc := 119) rw_225_119 (dp0 hd (by decide)) (ls0 := [.ref 77]) rfl (Nat.le_of_ble_eq_true rfl) (Nat.le_of_ble_eq_true rfl) rfl (to_rc rfl rfl rfl (g_o hG rfl)) rfl ?_
        refine to_an (pc := 0) rw_224_0 rfl ?_
        refine tt_gI (pc := 1) rw_224_1 (g_o hG rfl) (v := (M.2.1 77 69)) rfl ?_
        refine to_c (pc := 4) rw_224_4 (x := (40 : Int32)) rfl rfl ?_
        refine b_cne (pc := 6) rw_224_6 (A := (M.2.1 77 69).toInt) (B := 40) rfl rfl (fun h565 => ?_) (fun h565 => ?_)
        · refine to_an (pc := 15) rw_224_15 rfl ?_
          refine to_dupr (pc := 16) rw_224_16 ?_
          refine tt_gI (pc := 17) rw_224_17 (g_o hG rfl) (v := (M.2.1 77 69)) rfl ?_
          refine to_c (pc := 20) rw_224_20 (x := (1 : Int32)) rfl rfl ?_
          refine s_add (pc := 21) rw_224_21 (A := (M.2.1 77 69).toInt) (B := 1) rfl rfl (by (first | (clear h561 h562 h565; omega) | (clear h561 h562; omega) | omega)) (fun v566 e567 => ?_)
          refine s_pI (pc := 22) rw_224_22 hG rfl (fun M569 W568 => ?_)
          have hG570 := g_w hG W568 (A := v566.toInt) rfl (lo := 0) (hi := 40) rfl rfl (by (first | (clear h561 h562 h565; omega) | (clear h561 h562; omega) | omega)) (by decide)
          have F571 := FR.w F0 W568 (show 77 = 77 ∧ (69 = 4 ∨ 69 = 5 ∨ 7 ≤ 69 ∧ 69 ≤ 10) ∨ 77 = 77 ∧ (69 = 59 ∨ 65 ≤ 69 ∧ 69 ≤ 69) ∨ 112 ≤ 77 ∧ 77 ≤ 114 ∧ 40 ≤ 69 ∨ 77 = 115 ∨ 77 = 116 by decide)
          refine to_c (pc := 25) rw_224_25 (x := (1 : Int32)) rfl rfl ?_
          refine s_r1 (pc := 26) rw_224_26 (A := 1) rfl (by decide) ?_
          refine b_ine_t (pc := 122) rw_225_122 (A := 1) rfl (by decide) ?_
          have c_572 : M569.2.1 77 59 = (M.2.1 77 59) := (W_n W568 (by decide) rfl)
          have t_573 : (M569.2.1 77 59).toInt = (M.2.1 77 59).toInt := congrArg Int32.toInt c_572
          have c_574 : M569.2.1 77 65 = (M.2.1 77 65) := (W_n W568 (by decide) rfl)
          have t_575 : (M569.2.1 77 65).toInt = (M.2.1 77 65).toInt := congrArg Int32.toInt c_574
          have c_576 : M569.2.1 77 66 = (M.2.1 77 66) := (W_n W568 (by decide) rfl)
          have t_577 : (M569.2.1 77 66).toInt = (M.2.1 77 66).toInt := congrArg Int32.toInt c_576
          have c_578 : M569.2.1 77 67 = (M.2.1 77 67) := (W_n W568 (by decide) rfl)
          have t_579 : (M569.2.1 77 67).toInt = (M.2.1 77 67).toInt := congrArg Int32.toInt c_578
          have c_580 : M569.2.1 77 68 = (M.2.1 77 68) := (W_n W568 (by decide) rfl)
          have t_581 : (M569.2.1 77 68).toInt = (M.2.1 77 68).toInt := congrArg Int32.toInt c_580
          have c_582 : M569.2.1 77 69 = v566 := (W_e W568)
          have t_583 : (M569.2.1 77 69).toInt = v566.toInt := congrArg Int32.toInt c_582
          have s_585 := Wx_f (M := M) (M1 := M569) ((M.2.1 77 65).toInt).toNat (fun i z => (W_n W568 (by (first | (clear h561 h562 h565; omega) | (clear h561 h562; omega) | omega)) rfl))
          have j_584 : QK M569 := QK_i (by unfold QK_c; rw [show ((M569.2.1 77 65).toInt).toNat = ((M.2.1 77 65).toInt).toNat by (first | (clear h561 h562 h565; omega) | (clear h561 h562; omega) | omega)]; refine ⟨by (first | (clear h561 h562 h565; omega) | (clear h561 h562; omega) | omega), by (first | (clear h561 h562 h565; omega) | (clear h561 h562; omega) | omega), by (first | (clear h561 h562 h565; omega) | (clear h561 h562; omega) | omega), by (first | (clear h561 h562 h565; omega) | (clear h561 h562; omega) | omega)⟩) (fun i z => by rw [(W_n W568 (by (first | (clear h561 h562 h565; omega) | (clear h561 h562; omega) | omega)) rfl)]; exact q2.2.1 i (by (first | (clear h561 h562 h565; omega) | (clear h561 h562; omega) | omega))) (by rw [(W_n W568 (by (first | (clear h561 h562 h565; omega) | (clear h561 h562; omega) | omega)) rfl)]; exact KN_f (fun a i z => (W_n W568 (by (first | (clear h561 h562 h565; omega) | (clear h561 h562; omega) | omega)) rfl)) q2.2.2)
          have c_586 : M569.2.1 77 7 = (M.2.1 77 7) := (W_n W568 (by decide) rfl)
          have t_587 : (M569.2.1 77 7).toInt = (M.2.1 77 7).toInt := congrArg Int32.toInt c_586
          have c_588 : M569.2.1 77 6 = (M.2.1 77 6) := (W_n W568 (by decide) rfl)
          have t_589 : (M569.2.1 77 6).toInt = (M.2.1 77 6).toInt := congrArg Int32.toInt c_588
          have j_590 := (FA_f (fun a i z => W_n W568 (tg_172 a i z) rfl) q3)
          have j_591 := (RS_f (fun a i z => W_n W568 (tg_155 a i z) rfl) q5)
          have c_592 : M569.2.1 77 10 = (M.2.1 77 10) := (W_n W568 (by decide) rfl)
          have t_593 : (M569.2.1 77 10).toInt = (M.2.1 77 10).toInt := congrArg Int32.toInt c_592
          have j_594 := (TR_f (fun a i z => W_n W568 (tg_158 a i z) rfl) q9)
          have j_595 := (W9_f (fun a i z => W_n W568 (tg_161 a i z) rfl) q10)
          have j_596 := (PLk_f (fun a i z => W_n W568 (tg_173 a i z) rfl) q11)
          have c_597 : M569.2.1 77 8 = (M.2.1 77 8) := (W_n W568 (by decide) rfl)
          have t_598 : (M569.2.1 77 8).toInt = (M.2.1 77 8).toInt := congrArg Int32.toInt c_597
          have c_599 : M569.2.1 77 9 = (M.2.1 77 9) := (W_n W568 (by decide) rfl)
          have t_600 : (M569.2.1 77 9).toInt = (M.2.1 77 9).toInt := congrArg Int32.toInt c_599
          exact (U_225_0 (t := t) (nn := nn) (a := a) (sg := sg) (Wl9 := Wl9) (P9 := P9) hX hd q1 q2 q3 q4 q5 q6 q7 q8 q9 q10 q11 q12 q13 h (((0 : Int)).toNat + 1)) M569 (.null) (.null) (.null) (.null) (.null) hG570 F571 (by rw [show ((M569.2.1 77 65).toInt).toNat = ((M.2.1 77 65).toInt).toNat by (first | (clear h561 h562 h565; omega) | (clear h561 h562; omega) | omega)]; (first | (clear h561 h562 h565; omega) | (clear h561 h562; omega) | omega)) j_584 (by (first | (clear h561 h562 h565; omega) | (clear h561 h562; omega) | omega)) (by (first | (clear h561 h562 h565; omega) | (clear h561 h562; omega) | omega)) j_590 (by (first | (clear h561 h562 h565; omega) | (clear h561 h562; omega) | omega)) j_591 (by (first | (clear h561 h562 h565; omega) | (clear h561 h562; omega) | omega)) j_594 j_595 j_596 (by (first | (clear h561 h562 h565; omega) | (clear h561 h562; omega) | omega)) (by (first | (clear h561 h562 h565; omega) | (clear h561 h562; omega) | omega)) (by (first | (clear h561 h562 h565; omega) | (clear h561 h562; omega) | omega)) (by (first | (clear h561 h562 h565; omega) | (clear h561 h562; omega) | omega)) (by (first | (clear h561 h562 h565; omega) | (clear h561 h562; omega) | omega)) (by (first | (clear h561 h562 h565; omega) | (clear h561 h562; omega) | omega)) (by (first | (clear h561 h562 h565; omega) | (clear h561 h562; omega) | omega)) (GST_f (fun a i z => (W_n W568 (by (first | (clear h561 h562 h565; omega) | (clear h561 h562; omega) | omega)) rfl)) q13) (by (first | (clear h561 h562 h565; omega) | (clear h561 h562; omega) | omega))
        · refine to_an (pc := 9) rw_224_9 rfl ?_
          refine to_c (pc := 10) rw_224_10 (x := (2 : Int32)) rfl rfl ?_
          refine s_v (pc := 11) rw_224_11 (dp1 hd (by decide)) (ls0 := [.ref 77, .int (2 : Int32)]) rfl (Nat.le_of_ble_eq_true rfl) (Nat.le_of_ble_eq_true rfl) rfl (to_rc rfl rfl rfl (g_o hG rfl)) rfl ?_
          refine to_an (pc := 0) rw_152_0 rfl ?_
          refine to_in (pc := 1) rw_152_1 rfl ?_
          refine s_pI (pc := 2) rw_152_2 hG rfl (fun M602 W601 => ?_)
          have hG603 := g_wf hG W601 rfl rfl (by decide)
          have F604 := FR.w F0 W601 (show 77 = 77 ∧ (4 = 4 ∨ 4 = 5 ∨ 7 ≤ 4 ∧ 4 ≤ 10) ∨ 77 = 77 ∧ (4 = 59 ∨ 65 ≤ 4 ∧ 4 ≤ 69) ∨ 112 ≤ 77 ∧ 77 ≤ 114 ∧ 40 ≤ 4 ∨ 77 = 115 ∨ 77 = 116 by decide)
          refine to_an (pc := 5) rw_152_5 rfl ?_
          refine to_an (pc := 6) rw_152_6 rfl ?_
          have c_605 : M602.2.1 77 10 = (M.2.1 77 10) := (W_n W601 (by decide) rfl)
          refine tt_gI (pc := 7) rw_152_7 (g_o hG603 rfl) (v := (M.2.1 77 10)) c_605 ?_
          refine s_pI (pc := 10) rw_152_10 hG603 rfl (fun M607 W606 => ?_)
          have hG608 := g_wf hG603 W606 rfl rfl (by decide)
          have F609 := FR.w F604 W606 (show 77 = 77 ∧ (5 = 4 ∨ 5 = 5 ∨ 7 ≤ 5 ∧ 5 ≤ 10) ∨ 77 = 77 ∧ (5 = 59 ∨ 65 ≤ 5 ∧ 5 ≤ 69) ∨ 112 ≤ 77 ∧ 77 ≤ 114 ∧ 40 ≤ 5 ∨ 77 = 115 ∨ 77 = 116 by decide)
          refine to_c (pc := 13) rw_152_13 (x := (0 : Int32)) rfl rfl ?_
          refine s_r1 (pc := 14) rw_152_14 (A := 0) rfl (by decide) ?_
          refine s_r1 (pc := 14) rw_224_14 (A := 0) rfl (by decide) ?_
          refine b_ine_f (pc := 122) rw_225_122 (A := 0) rfl (by decide) ?_
          refine to_c (pc := 125) rw_225_125 (x := (0 : Int32)) rfl rfl ?_
          refine s_r1 (pc := 126) rw_225_126 (A := 0) rfl (by decide) ?_
          have k_610 : (0 : Int32).toInt = 0 := rfl
          have c_611 : M607.2.1 77 7 = (M.2.1 77 7) := (W_n W606 (by decide) (W_n W601 (by decide) rfl))
          have t_612 : (M607.2.1 77 7).toInt = (M.2.1 77 7).toInt := congrArg Int32.toInt c_611
          have c_613 : M607.2.1 77 6 = (M.2.1 77 6) := (W_n W606 (by decide) (W_n W601 (by decide) rfl))
          have t_614 : (M607.2.1 77 6).toInt = (M.2.1 77 6).toInt := congrArg Int32.toInt c_613
          have c_615 : M607.2.1 77 4 = (2 : Int32) := (W_n W606 (by decide) (W_e W601))
          have k_616 : (2 : Int32).toInt = 2 := rfl
          have t_617 : (M607.2.1 77 4).toInt = (2 : Int32).toInt := congrArg Int32.toInt c_615
          have c_618 : M607.2.1 77 5 = (M.2.1 77 10) := (W_e W606)
          have t_619 : (M607.2.1 77 5).toInt = (M.2.1 77 10).toInt := congrArg Int32.toInt c_618
          have c_620 : M607.2.1 77 67 = (M.2.1 77 67) := (W_n W606 (by decide) (W_n W601 (by decide) rfl))
          have t_621 : (M607.2.1 77 67).toInt = (M.2.1 77 67).toInt := congrArg Int32.toInt c_620
          have c_622 : M607.2.1 77 69 = (M.2.1 77 69) := (W_n W606 (by decide) (W_n W601 (by decide) rfl))
          have t_623 : (M607.2.1 77 69).toInt = (M.2.1 77 69).toInt := congrArg Int32.toInt c_622
          exact h (0 : Int32) M607 hG608 F609 (by decide) (by decide) (by (first | (clear h561 h562; omega) | (clear h561; omega) | omega)) (by (first | (clear h561 h562; omega) | (clear h561; omega) | omega)) (fun z => absurd z (by decide)) (by (first | (clear h561 h562; omega) | (clear h561; omega) | omega)) (fun z => absurd z (by (first | (clear h561 h562; omega) | (clear h561; omega) | omega))) (fun z => absurd z (by decide)) (fun z => absurd z (by decide)) (fun z => absurd z (by decide)) (fun _ => ginl (by (first | (clear h561 h562; omega) | (clear h561; omega) | omega)) (by (first | (clear h561 h562; omega) | (clear h561; omega) | omega)) (g_nmx (by (first | (clear h561 h562; omega) | (clear h561; omega) | omega)) (by (first | (clear h561 h562; omega) | (clear h561; omega) | omega)) (by (first | (clear h561 h562; omega) | (clear h561; omega) | omega)) (by (first | (clear h561 h562; omega) | (clear h561; omega) | omega))))
      · refine to_an (pc := 112) rw_225_112 rfl ?_
        refine to_c (pc := 113) rw_225_113 (x := (1 : Int32)) rfl rfl ?_
        refine s_v (pc := 114) rw_225_114 (dp0 hd (by decide)) (ls0 := [.ref 77, .int (1 : Int32)]) rfl (Nat.le_of_ble_eq_true rfl) (Nat.le_of_ble_eq_true rfl) rfl (to_rc rfl rfl rfl (g_o hG rfl)) rfl ?_
        refine to_an (pc := 0) rw_152_0 rfl ?_
        refine to_in (pc := 1) rw_152_1 rfl ?_
        refine s_pI (pc := 2) rw_152_2 hG rfl (fun M625 W624 => ?_)
        have hG626 := g_wf hG W624 rfl rfl (by decide)
        have F627 := FR.w F0 W624 (show 77 = 77 ∧ (4 = 4 ∨ 4 = 5 ∨ 7 ≤ 4 ∧ 4 ≤ 10) ∨ 77 = 77 ∧ (4 = 59 ∨ 65 ≤ 4 ∧ 4 ≤ 69) ∨ 112 ≤ 77 ∧ 77 ≤ 114 ∧ 40 ≤ 4 ∨ 77 = 115 ∨ 77 = 116 by decide)
        refine to_an (pc := 5) rw_152_5 rfl ?_
        refine to_an (pc := 6) rw_152_6 rfl ?_
        have c_628 : M625.2.1 77 10 = (M.2.1 77 10) := (W_n W624 (by decide) rfl)
        refine tt_gI (pc := 7) rw_152_7 (g_o hG626 rfl) (v := (M.2.1 77 10)) c_628 ?_
        refine s_pI (pc := 10) rw_152_10 hG626 rfl (fun M630 W629 => ?_)
        have hG631 := g_wf hG626 W629 rfl rfl (by decide)
        have F632 := FR.w F627 W629 (show 77 = 77 ∧ (5 = 4 ∨ 5 = 5 ∨ 7 ≤ 5 ∧ 5 ≤ 10) ∨ 77 = 77 ∧ (5 = 59 ∨ 65 ≤ 5 ∧ 5 ≤ 69) ∨ 112 ≤ 77 ∧ 77 ≤ 114 ∧ 40 ≤ 5 ∨ 77 = 115 ∨ 77 = 116 by decide)
        refine to_c (pc := 13) rw_152_13 (x := (0 : Int32)) rfl rfl ?_
        refine s_r1 (pc := 14) rw_152_14 (A := 0) rfl (by decide) ?_
        refine s_r1 (pc := 117) rw_225_117 (A := 0) rfl (by decide) ?_
        have k_633 : (0 : Int32).toInt = 0 := rfl
        have c_634 : M630.2.1 77 7 = (M.2.1 77 7) := (W_n W629 (by decide) (W_n W624 (by decide) rfl))
        have t_635 : (M630.2.1 77 7).toInt = (M.2.1 77 7).toInt := congrArg Int32.toInt c_634
        have c_636 : M630.2.1 77 6 = (M.2.1 77 6) := (W_n W629 (by decide) (W_n W624 (by decide) rfl))
        have t_637 : (M630.2.1 77 6).toInt = (M.2.1 77 6).toInt := congrArg Int32.toInt c_636
        have c_638 : M630.2.1 77 4 = (1 : Int32) := (W_n W629 (by decide) (W_e W624))
        have k_639 : (1 : Int32).toInt = 1 := rfl
        have t_640 : (M630.2.1 77 4).toInt = (1 : Int32).toInt := congrArg Int32.toInt c_638
        have c_641 : M630.2.1 77 5 = (M.2.1 77 10) := (W_e W629)
        have t_642 : (M630.2.1 77 5).toInt = (M.2.1 77 10).toInt := congrArg Int32.toInt c_641
        have c_643 : M630.2.1 77 67 = (M.2.1 77 67) := (W_n W629 (by decide) (W_n W624 (by decide) rfl))
        have t_644 : (M630.2.1 77 67).toInt = (M.2.1 77 67).toInt := congrArg Int32.toInt c_643
        have c_645 : M630.2.1 77 69 = (M.2.1 77 69) := (W_n W629 (by decide) (W_n W624 (by decide) rfl))
        have t_646 : (M630.2.1 77 69).toInt = (M.2.1 77 69).toInt := congrArg Int32.toInt c_645
        exact h (0 : Int32) M630 hG631 F632 (by decide) (by decide) (by (first | (clear h561 h562 h563; omega) | (clear h561 h562; omega) | omega)) (by (first | (clear h561 h562 h563; omega) | (clear h561 h562; omega) | omega)) (fun z => absurd z (by decide)) (by (first | (clear h561 h562 h563; omega) | (clear h561 h562; omega) | omega)) (fun z => absurd z (by (first | (clear h561 h562 h563; omega) | (clear h561 h562; omega) | omega))) (fun z => absurd z (by decide)) (fun z => absurd z (by decide)) (fun z => absurd z (by decide)) (fun _ => ginl (by (first | (clear h561 h562 h563; omega) | (clear h561 h562; omega) | omega)) (by (first | (clear h561 h562 h563; omega) | (clear h561 h562; omega) | omega)) (g_0x (by (first | (clear h561 h562 h563; omega) | (clear h561 h562; omega) | omega)) (by (first | (clear h561 h562 h563; omega) | (clear h561 h562; omega) | omega)) (by (first | (clear h561 h562 h563; omega) | (clear h561 h562; omega) | omega)) (by (first | (clear h561 h562 h563; omega) | (clear h561 h562; omega) | omega)) (by (first | (clear h561 h562 h563; omega) | (clear h561 h562; omega) | omega))))
    · refine to_an (pc := 8) rw_158_8 rfl ?_
      refine tt_gI (pc := 9) rw_158_9 (g_o hG rfl) (v := (M.2.1 77 9)) rfl ?_
      refine to_in (pc := 12) rw_158_12 rfl ?_
      refine b_cne (pc := 13) rw_158_13 (A := (M.2.1 77 9).toInt) (B := 14) rfl rfl (fun h647 => ?_) (fun h647 => ?_)
      · refine to_c (pc := 20) rw_158_20 (x := (0 : Int32)) rfl rfl ?_
        refine s_r1 (pc := 21) rw_158_21 (A := 0) rfl (by decide) ?_
        refine b_ieq_t (pc := 66) rw_225_66 (A := 0) rfl (by decide) ?_
        have z_648 := RS_1 q5 (a := a) (by (first | (clear h561 h647; omega) | (clear h561; omega) | omega)) (by (first | (clear h561 h647; omega) | (clear h561; omega) | omega))
        refine to_an (pc := 104) rw_225_104 rfl ?_
        refine tt_gI (pc := 105) rw_225_105 (g_o hG rfl) (v := (M.2.1 77 8)) rfl ?_
        refine to_c (pc := 108) rw_225_108 (x := (2 : Int32)) rfl rfl ?_
        refine b_ceq_f (pc := 109) rw_225_109 (A := (M.2.1 77 8).toInt) (B := 2) rfl rfl (by (first | (clear h561 h647; omega) | (clear h561; omega) | omega)) ?_
        refine to_an (pc := 112) rw_225_112 rfl ?_
        refine to_c (pc := 113) rw_225_113 (x := (1 : Int32)) rfl rfl ?_
        refine s_v (pc := 114) rw_225_114 (dp0 hd (by decide)) (ls0 := [.ref 77, .int (1 : Int32)]) rfl (Nat.le_of_ble_eq_true rfl) (Nat.le_of_ble_eq_true rfl) rfl (to_rc rfl rfl rfl (g_o hG rfl)) rfl ?_
        refine to_an (pc := 0) rw_152_0 rfl ?_
        refine to_in (pc := 1) rw_152_1 rfl ?_
        refine s_pI (pc := 2) rw_152_2 hG rfl (fun M650 W649 => ?_)
        have hG651 := g_wf hG W649 rfl rfl (by decide)
        have F652 := FR.w F0 W649 (show 77 = 77 ∧ (4 = 4 ∨ 4 = 5 ∨ 7 ≤ 4 ∧ 4 ≤ 10) ∨ 77 = 77 ∧ (4 = 59 ∨ 65 ≤ 4 ∧ 4 ≤ 69) ∨ 112 ≤ 77 ∧ 77 ≤ 114 ∧ 40 ≤ 4 ∨ 77 = 115 ∨ 77 = 116 by decide)
        refine to_an (pc := 5) rw_152_5 rfl ?_
        refine to_an (pc := 6) rw_152_6 rfl ?_
        have c_653 : M650.2.1 77 10 = (M.2.1 77 10) := (W_n W649 (by decide) rfl)
        refine tt_gI (pc := 7) rw_152_7 (g_o hG651 rfl) (v := (M.2.1 77 10)) c_653 ?_
        refine s_pI (pc := 10) rw_152_10 hG651 rfl (fun M655 W654 => ?_)
        have hG656 := g_wf hG651 W654 rfl rfl (by decide)
        have F657 := FR.w F652 W654 (show 77 = 77 ∧ (5 = 4 ∨ 5 = 5 ∨ 7 ≤ 5 ∧ 5 ≤ 10) ∨ 77 = 77 ∧ (5 = 59 ∨ 65 ≤ 5 ∧ 5 ≤ 69) ∨ 112 ≤ 77 ∧ 77 ≤ 114 ∧ 40 ≤ 5 ∨ 77 = 115 ∨ 77 = 116 by decide)
        refine to_c (pc := 13) rw_152_13 (x := (0 : Int32)) rfl rfl ?_
        refine s_r1 (pc := 14) rw_152_14 (A := 0) rfl (by decide) ?_
        refine s_r1 (pc := 117) rw_225_117 (A := 0) rfl (by decide) ?_
        have k_658 : (0 : Int32).toInt = 0 := rfl
        have c_659 : M655.2.1 77 7 = (M.2.1 77 7) := (W_n W654 (by decide) (W_n W649 (by decide) rfl))
        have t_660 : (M655.2.1 77 7).toInt = (M.2.1 77 7).toInt := congrArg Int32.toInt c_659
        have c_661 : M655.2.1 77 6 = (M.2.1 77 6) := (W_n W654 (by decide) (W_n W649 (by decide) rfl))
        have t_662 : (M655.2.1 77 6).toInt = (M.2.1 77 6).toInt := congrArg Int32.toInt c_661
        have c_663 : M655.2.1 77 4 = (1 : Int32) := (W_n W654 (by decide) (W_e W649))
        have k_664 : (1 : Int32).toInt = 1 := rfl
        have t_665 : (M655.2.1 77 4).toInt = (1 : Int32).toInt := congrArg Int32.toInt c_663
        have c_666 : M655.2.1 77 5 = (M.2.1 77 10) := (W_e W654)
        have t_667 : (M655.2.1 77 5).toInt = (M.2.1 77 10).toInt := congrArg Int32.toInt c_666
        have c_668 : M655.2.1 77 67 = (M.2.1 77 67) := (W_n W654 (by decide) (W_n W649 (by decide) rfl))
        have t_669 : (M655.2.1 77 67).toInt = (M.2.1 77 67).toInt := congrArg Int32.toInt c_668
        have c_670 : M655.2.1 77 69 = (M.2.1 77 69) := (W_n W654 (by decide) (W_n W649 (by decide) rfl))
        have t_671 : (M655.2.1 77 69).toInt = (M.2.1 77 69).toInt := congrArg Int32.toInt c_670
        exact h (0 : Int32) M655 hG656 F657 (by decide) (by decide) (by (first | (clear h561 h647; omega) | (clear h561; omega) | omega)) (by (first | (clear h561 h647; omega) | (clear h561; omega) | omega)) (fun z => absurd z (by decide)) (by (first | (clear h561 h647; omega) | (clear h561; omega) | omega)) (fun z => absurd z (by (first | (clear h561 h647; omega) | (clear h561; omega) | omega))) (fun z => absurd z (by decide)) (fun z => absurd z (by decide)) (fun z => absurd z (by decide)) (fun _ => ginl (by (first | (clear h561 h647; omega) | (clear h561; omega) | omega)) (by (first | (clear h561 h647; omega) | (clear h561; omega) | omega)) (g_0x (by (first | (clear h561 h647; omega) | (clear h561; omega) | omega)) (by (first | (clear h561 h647; omega) | (clear h561; omega) | omega)) (by (first | (clear h561 h647; omega) | (clear h561; omega) | omega)) (by (first | (clear h561 h647; omega) | (clear h561; omega) | omega)) (by (first | (clear h561 h647; omega) | (clear h561; omega) | omega))))
      · refine to_c (pc := 16) rw_158_16 (x := (1 : Int32)) rfl rfl ?_
        refine to_go (pc := 17) rw_158_17 ?_
        refine s_r1 (pc := 21) rw_158_21 (A := 1) rfl (by decide) ?_
        refine b_ieq_f (pc := 66) rw_225_66 (A := 1) rfl (by decide) ?_
        have z_672 := RS_1 q5 (a := a) (by (first | (clear h561; omega) | omega)) (by (first | (clear h561; omega) | omega))
        refine to_an (pc := 69) rw_225_69 rfl ?_
        refine s_v (pc := 70) rw_225_70 (dp0 hd (by decide)) (ls0 := [.ref 77]) rfl (Nat.le_of_ble_eq_true rfl) (Nat.le_of_ble_eq_true rfl) rfl (to_rc rfl rfl rfl (g_o hG rfl)) rfl ?_
        refine to_an (pc := 0) rw_224_0 rfl ?_
        refine tt_gI (pc := 1) rw_224_1 (g_o hG rfl) (v := (M.2.1 77 69)) rfl ?_
        refine to_c (pc := 4) rw_224_4 (x := (40 : Int32)) rfl rfl ?_
        refine b_cne (pc := 6) rw_224_6 (A := (M.2.1 77 69).toInt) (B := 40) rfl rfl (fun h673 => ?_) (fun h673 => ?_)
        · refine to_an (pc := 15) rw_224_15 rfl ?_
          refine to_dupr (pc := 16) rw_224_16 ?_
          refine tt_gI (pc := 17) rw_224_17 (g_o hG rfl) (v := (M.2.1 77 69)) rfl ?_
          refine to_c (pc := 20) rw_224_20 (x := (1 : Int32)) rfl rfl ?_
          refine s_add (pc := 21) rw_224_21 (A := (M.2.1 77 69).toInt) (B := 1) rfl rfl (by (first | (clear h561 h673; omega) | (clear h561; omega) | omega)) (fun v674 e675 => ?_)
          refine s_pI (pc := 22) rw_224_22 hG rfl (fun M677 W676 => ?_)
          have hG678 := g_w hG W676 (A := v674.toInt) rfl (lo := 0) (hi := 40) rfl rfl (by (first | (clear h561 h673; omega) | (clear h561; omega) | omega)) (by decide)
          have F679 := FR.w F0 W676 (show 77 = 77 ∧ (69 = 4 ∨ 69 = 5 ∨ 7 ≤ 69 ∧ 69 ≤ 10) ∨ 77 = 77 ∧ (69 = 59 ∨ 65 ≤ 69 ∧ 69 ≤ 69) ∨ 112 ≤ 77 ∧ 77 ≤ 114 ∧ 40 ≤ 69 ∨ 77 = 115 ∨ 77 = 116 by decide)
          refine to_c (pc := 25) rw_224_25 (x := (1 : Int32)) rfl rfl ?_
          refine s_r1 (pc := 26) rw_224_26 (A := 1) rfl (by decide) ?_
          refine b_ine_t (pc := 73) rw_225_73 (A := 1) rfl (by decide) ?_
          refine to_an (pc := 78) rw_225_78 rfl ?_
          refine s_gR (pc := 79) rw_225_79 hG678 rfl (v := 115) rfl ?_
          refine to_an (pc := 82) rw_225_82 rfl ?_
          have c_680 : M677.2.1 77 65 = (M.2.1 77 65) := (W_n W676 (by decide) rfl)
          refine tt_gI (pc := 83) rw_225_83 (g_o hG678 rfl) (v := (M.2.1 77 65)) c_680 ?_
          refine to_c (pc := 86) rw_225_86 (x := (2 : Int32)) rfl rfl ?_
          refine s_ias (pc := 87) rw_225_87 hG678 rfl (n := 64) rfl (A := (M.2.1 77 65).toInt) rfl (by (first | (clear h561 h673; omega) | (clear h561; omega) | omega)) (by (first | (clear h561 h673; omega) | (clear h561; omega) | omega)) (fun M682 W681 => ?_)
          have hG683 := g_w hG678 W681 (A := 2) rfl (lo := 0) (hi := 4) rfl rfl (by (first | (clear h561 h673; omega) | (clear h561; omega) | omega)) (by decide)
          have F684 := FR.w F679 W681 (show 115 = 77 ∧ (((M.2.1 77 65).toInt).toNat = 4 ∨ ((M.2.1 77 65).toInt).toNat = 5 ∨ 7 ≤ ((M.2.1 77 65).toInt).toNat ∧ ((M.2.1 77 65).toInt).toNat ≤ 10) ∨ 115 = 77 ∧ (((M.2.1 77 65).toInt).toNat = 59 ∨ 65 ≤ ((M.2.1 77 65).toInt).toNat ∧ ((M.2.1 77 65).toInt).toNat ≤ 69) ∨ 112 ≤ 115 ∧ 115 ≤ 114 ∧ 40 ≤ ((M.2.1 77 65).toInt).toNat ∨ 115 = 115 ∨ 115 = 116 by (first | (clear h561 h673; omega) | (clear h561; omega) | omega))
          refine to_an (pc := 88) rw_225_88 rfl ?_
          refine to_dupr (pc := 89) rw_225_89 ?_
          have c_685 : M682.2.1 77 65 = (M.2.1 77 65) := (W_n W681 (fun z => absurd z.1 (by decide)) c_680)
          refine tt_gI (pc := 90) rw_225_90 (g_o hG683 rfl) (v := (M.2.1 77 65)) c_685 ?_
          refine to_c (pc := 93) rw_225_93 (x := (1 : Int32)) rfl rfl ?_
          refine s_add (pc := 94) rw_225_94 (A := (M.2.1 77 65).toInt) (B := 1) rfl rfl (by (first | (clear h561 h673; omega) | (clear h561; omega) | omega)) (fun v686 e687 => ?_)
          refine s_pI (pc := 95) rw_225_95 hG683 rfl (fun M689 W688 => ?_)
          have hG690 := g_w hG683 W688 (A := v686.toInt) rfl (lo := 0) (hi := 48) rfl rfl (by (first | (clear h561 h673; omega) | (clear h561; omega) | omega)) (by decide)
          have F691 := FR.w F684 W688 (show 77 = 77 ∧ (65 = 4 ∨ 65 = 5 ∨ 7 ≤ 65 ∧ 65 ≤ 10) ∨ 77 = 77 ∧ (65 = 59 ∨ 65 ≤ 65 ∧ 65 ≤ 69) ∨ 112 ≤ 77 ∧ 77 ≤ 114 ∧ 40 ≤ 65 ∨ 77 = 115 ∨ 77 = 116 by decide)
          refine to_an (pc := 98) rw_225_98 rfl ?_
          refine s_v (pc := 99) rw_225_99 (dp0 hd (by decide)) (ls0 := [.ref 77]) rfl (Nat.le_of_ble_eq_true rfl) (Nat.le_of_ble_eq_true rfl) rfl (to_rc rfl rfl rfl (g_o hG690 rfl)) rfl ?_
          have c_692 : M689.2.1 77 7 = (M.2.1 77 7) := (W_n W688 (by decide) (W_n W681 (fun z => absurd z.1 (by decide)) (W_n W676 (by decide) rfl)))
          have t_693 : (M689.2.1 77 7).toInt = (M.2.1 77 7).toInt := congrArg Int32.toInt c_692
          have c_694 : M689.2.1 77 6 = (M.2.1 77 6) := (W_n W688 (by decide) (W_n W681 (fun z => absurd z.1 (by decide)) (W_n W676 (by decide) rfl)))
          have t_695 : (M689.2.1 77 6).toInt = (M.2.1 77 6).toInt := congrArg Int32.toInt c_694
          have c_696 : M689.2.1 77 10 = (M.2.1 77 10) := (W_n W688 (by decide) (W_n W681 (fun z => absurd z.1 (by decide)) (W_n W676 (by decide) rfl)))
          have t_697 : (M689.2.1 77 10).toInt = (M.2.1 77 10).toInt := congrArg Int32.toInt c_696
          have j_698 := (RS_f (fun a i z => W_n W688 (tg_148 a i z) rfl) (RS_f (fun a i z => W_n W681 (tg_154 a i _ z) rfl) (RS_f (fun a i z => W_n W676 (tg_155 a i z) rfl) q5)))
          have z_699 := RS_b j_698 (a := a) (by (first | (clear h561 h673; omega) | (clear h561; omega) | omega))
          have j_700 := (TR_f (fun a i z => W_n W688 (tg_150 a i z) rfl) (TR_f (fun a i z => W_n W681 (tg_157 a i _ z) rfl) (TR_f (fun a i z => W_n W676 (tg_158 a i z) rfl) q9)))
          have j_701 := (W9_f (fun a i z => W_n W688 (tg_152 a i z) rfl) (W9_f (fun a i z => W_n W681 (tg_160 a i _ z) rfl) (W9_f (fun a i z => W_n W676 (tg_161 a i z) rfl) q10)))
          refine E_156 hX (dp1 hd (by decide)) hG690 (by (first | (clear h561 h673; omega) | (clear h561; omega) | omega)) (by (first | (clear h561 h673; omega) | (clear h561; omega) | omega)) (by (first | (clear h561 h673; omega) | (clear h561; omega) | omega)) (by (first | (clear h561 h673; omega) | (clear h561; omega) | omega)) j_700 j_701  (fun M708 hG703 F702 p_704 p_705 p_706 p_707 => ?_)
          have F709 := FR.c F691 F702 tg_146
          have b_710 := g_b hG703 (a := 77) (i := 7) (lo := 0) (hi := 500) rfl rfl
          have c_711 : M708.2.1 77 6 = (M.2.1 77 6) := (F_n F702 (show ¬ (77 = 77 ∧ 7 ≤ 6 ∧ 6 ≤ 10) by decide) c_694)
          have t_712 : (M708.2.1 77 6).toInt = (M.2.1 77 6).toInt := congrArg Int32.toInt c_711
          have b_713 := g_b hG703 (a := 77) (i := 8) (lo := 0) (hi := 5) rfl rfl
          have b_714 := g_b hG703 (a := 77) (i := 10) (lo := 0) (hi := 500) rfl rfl
          have z_715 := RS_s p_707.2 (a := a) (by (first | (clear h561 h673 p_706; omega) | (clear h561 p_706; omega) | omega))
          refine to_c (pc := 102) rw_225_102 (x := (1 : Int32)) rfl rfl ?_
          refine s_r1 (pc := 103) rw_225_103 (A := 1) rfl (by decide) ?_
          have k_716 : (1 : Int32).toInt = 1 := rfl
          have c_717 : M708.2.1 77 59 = (M.2.1 77 59) := (F_n F702 (show ¬ (77 = 77 ∧ 7 ≤ 59 ∧ 59 ≤ 10) by decide) (W_n W688 (by decide) (W_n W681 (fun z => absurd z.1 (by decide)) (W_n W676 (by decide) rfl))))
          have t_718 : (M708.2.1 77 59).toInt = (M.2.1 77 59).toInt := congrArg Int32.toInt c_717
          have c_719 : M708.2.1 77 65 = v686 := (F_n F702 (show ¬ (77 = 77 ∧ 7 ≤ 65 ∧ 65 ≤ 10) by decide) (W_e W688))
          have t_720 : (M708.2.1 77 65).toInt = v686.toInt := congrArg Int32.toInt c_719
          have c_721 : M708.2.1 77 66 = (M.2.1 77 66) := (F_n F702 (show ¬ (77 = 77 ∧ 7 ≤ 66 ∧ 66 ≤ 10) by decide) (W_n W688 (by decide) (W_n W681 (fun z => absurd z.1 (by decide)) (W_n W676 (by decide) rfl))))
          have t_722 : (M708.2.1 77 66).toInt = (M.2.1 77 66).toInt := congrArg Int32.toInt c_721
          have c_723 : M708.2.1 77 67 = (M.2.1 77 67) := (F_n F702 (show ¬ (77 = 77 ∧ 7 ≤ 67 ∧ 67 ≤ 10) by decide) (W_n W688 (by decide) (W_n W681 (fun z => absurd z.1 (by decide)) (W_n W676 (by decide) rfl))))
          have t_724 : (M708.2.1 77 67).toInt = (M.2.1 77 67).toInt := congrArg Int32.toInt c_723
          have c_725 : M708.2.1 77 68 = (M.2.1 77 68) := (F_n F702 (show ¬ (77 = 77 ∧ 7 ≤ 68 ∧ 68 ≤ 10) by decide) (W_n W688 (by decide) (W_n W681 (fun z => absurd z.1 (by decide)) (W_n W676 (by decide) rfl))))
          have t_726 : (M708.2.1 77 68).toInt = (M.2.1 77 68).toInt := congrArg Int32.toInt c_725
          have c_727 : M708.2.1 77 69 = v674 := (F_n F702 (show ¬ (77 = 77 ∧ 7 ≤ 69 ∧ 69 ≤ 10) by decide) (W_n W688 (by decide) (W_n W681 (fun z => absurd z.1 (by decide)) (W_e W676))))
          have t_728 : (M708.2.1 77 69).toInt = v674.toInt := congrArg Int32.toInt c_727
          have k_730 : (2 : Int32).toInt = 2 := rfl
          have s_731 := Wx_f (M := M) (M1 := M708) ((M.2.1 77 65).toInt).toNat (fun i z => (F_n F702 (show ¬ (115 = 77 ∧ 7 ≤ i ∧ i ≤ 10) by (first | (clear h561 h673 p_706; omega) | (clear h561 p_706; omega) | omega)) (W_n W688 (by (first | (clear h561 h673 p_706; omega) | (clear h561 p_706; omega) | omega)) (W_n W681 (by (first | (clear h561 h673 p_706; omega) | (clear h561 p_706; omega) | omega)) (W_n W676 (by (first | (clear h561 h673 p_706; omega) | (clear h561 p_706; omega) | omega)) rfl)))))
          have s_732 : (M708.2.1 115 ((M.2.1 77 65).toInt).toNat).toInt = (2 : Int32).toInt := by rw [show ((M.2.1 77 65).toInt).toNat = ((M.2.1 77 65).toInt).toNat by (first | (clear h561 h673 p_706; omega) | (clear h561 p_706; omega) | omega)]; exact congrArg Int32.toInt (F_n F702 (show ¬ (115 = 77 ∧ 7 ≤ (((M.2.1 77 65).toInt).toNat) ∧ (((M.2.1 77 65).toInt).toNat) ≤ 10) by (first | (clear h561 h673 p_706; omega) | (clear h561 p_706; omega) | omega)) (W_n W688 (by (first | (clear h561 h673 p_706; omega) | (clear h561 p_706; omega) | omega)) (W_e W681)))
          have s_733 := Wx_s M708 ((M.2.1 77 65).toInt).toNat
          have j_729 : QK M708 := QK_i (by unfold QK_c; rw [show ((M708.2.1 77 65).toInt).toNat = ((M.2.1 77 65).toInt).toNat + 1 by (first | (clear h561 h673 p_706 s_733; omega) | (clear h561 p_706 s_733; omega) | omega)]; refine ⟨by (first | (clear h561 h673 p_706 s_733; omega) | (clear h561 p_706 s_733; omega) | omega), by (first | (clear h561 h673 p_706 s_733; omega) | (clear h561 p_706 s_733; omega) | omega), by (first | (clear h561 h673 p_706 s_733; omega) | (clear h561 p_706 s_733; omega) | omega), by (first | (clear h561 h673 p_706 s_733; omega) | (clear h561 p_706 s_733; omega) | omega)⟩) (fun i z => by
              by_cases ei : i = ((M.2.1 77 65).toInt).toNat
              · rw [ei]; omega
              · rw [(F_n F702 (show ¬ (115 = 77 ∧ 7 ≤ i ∧ i ≤ 10) by (first | (clear h561 h673 p_706 s_733; omega) | (clear h561 p_706 s_733; omega) | omega)) (W_n W688 (by (first | (clear h561 h673 p_706 s_733; omega) | (clear h561 p_706 s_733; omega) | omega)) (W_n W681 (by (first | (clear h561 h673 p_706 s_733; omega) | (clear h561 p_706 s_733; omega) | omega)) (W_n W676 (by (first | (clear h561 h673 p_706 s_733; omega) | (clear h561 p_706 s_733; omega) | omega)) rfl))))]; exact q2.2.1 i (by (first | (clear h561 h673 p_706 s_733; omega) | (clear h561 p_706 s_733; omega) | omega))) (by rw [(F_n F702 (show ¬ (77 = 77 ∧ 7 ≤ 59 ∧ 59 ≤ 10) by decide) (W_n W688 (by (first | (clear h561 h673 p_706 s_733; omega) | (clear h561 p_706 s_733; omega) | omega)) (W_n W681 (by (first | (clear h561 h673 p_706 s_733; omega) | (clear h561 p_706 s_733; omega) | omega)) (W_n W676 (by (first | (clear h561 h673 p_706 s_733; omega) | (clear h561 p_706 s_733; omega) | omega)) rfl))))]; exact KN_f (fun a i z => (F_n F702 (show ¬ (a = 77 ∧ 7 ≤ i ∧ i ≤ 10) by (first | (clear h561 h673 p_706 s_733; omega) | (clear h561 p_706 s_733; omega) | omega)) (W_n W688 (by (first | (clear h561 h673 p_706 s_733; omega) | (clear h561 p_706 s_733; omega) | omega)) (W_n W681 (by (first | (clear h561 h673 p_706 s_733; omega) | (clear h561 p_706 s_733; omega) | omega)) (W_n W676 (by (first | (clear h561 h673 p_706 s_733; omega) | (clear h561 p_706 s_733; omega) | omega)) rfl))))) q2.2.2)
          exact h (1 : Int32) M708 hG703 F709 (by decide) (by decide) (by (first | (clear h561 h673 p_706 s_733; omega) | (clear h561 p_706 s_733; omega) | omega)) (by (first | (clear h561 h673 p_706 s_733; omega) | (clear h561 p_706 s_733; omega) | omega)) (fun _ => Or.imp (fun z => by (first | (clear h561 h673 p_706 s_733; omega) | (clear h561 p_706 s_733; omega) | omega)) (fun z => by (first | (clear h561 h673 p_706 s_733; omega) | (clear h561 p_706 s_733; omega) | omega)) p_706) (by (first | (clear h561 h673 p_706 s_733; omega) | (clear h561 p_706 s_733; omega) | omega)) (fun _ => j_729) (fun _ => by rw [show ((M708.2.1 77 65).toInt).toNat = ((M.2.1 77 65).toInt).toNat + 1 by (first | (clear h561 h673 p_706 s_733; omega) | (clear h561 p_706 s_733; omega) | omega)]; (first | (clear h561 h673 p_706 s_733; omega) | (clear h561 p_706 s_733; omega) | omega)) (fun _ => p_707.1) (fun _ => ⟨2 :: Wl9, P9, (GST_p q13 (j := ((M.2.1 77 65).toInt).toNat) (by (first | (clear h561 h673 p_706 s_733; omega) | (clear h561 p_706 s_733; omega) | omega)) (fun i hi => (F_n F702 (show ¬ (115 = 77 ∧ 7 ≤ i ∧ i ≤ 10) by (first | (clear h561 h673 p_706 s_733; omega) | (clear h561 p_706 s_733; omega) | omega)) (W_n W688 (by (first | (clear h561 h673 p_706 s_733; omega) | (clear h561 p_706 s_733; omega) | omega)) (W_n W681 (by (first | (clear h561 h673 p_706 s_733; omega) | (clear h561 p_706 s_733; omega) | omega)) (W_n W676 (by (first | (clear h561 h673 p_706 s_733; omega) | (clear h561 p_706 s_733; omega) | omega)) rfl))))) ((F_n F702 (show ¬ (115 = 77 ∧ 7 ≤ (((M.2.1 77 65).toInt).toNat) ∧ (((M.2.1 77 65).toInt).toNat) ≤ 10) by (first | (clear h561 h673 p_706 s_733; omega) | (clear h561 p_706 s_733; omega) | omega)) (W_n W688 (by (first | (clear h561 h673 p_706 s_733; omega) | (clear h561 p_706 s_733; omega) | omega)) (W_e W681)))) (show (2 : Int32).toInt = 2 from rfl) (fun a i z => (F_n F702 (show ¬ (a = 77 ∧ 7 ≤ i ∧ i ≤ 10) by (first | (clear h561 h673 p_706 s_733; omega) | (clear h561 p_706 s_733; omega) | omega)) (W_n W688 (by (first | (clear h561 h673 p_706 s_733; omega) | (clear h561 p_706 s_733; omega) | omega)) (W_n W681 (by (first | (clear h561 h673 p_706 s_733; omega) | (clear h561 p_706 s_733; omega) | omega)) (W_n W676 (by (first | (clear h561 h673 p_706 s_733; omega) | (clear h561 p_706 s_733; omega) | omega)) rfl))))) (by (first | (clear h561 h673 p_706 s_733; omega) | (clear h561 p_706 s_733; omega) | omega))), (g_noq (by (first | (clear h561 h673 p_706 s_733; omega) | (clear h561 p_706 s_733; omega) | omega)) (by (first | (clear h561 h673 p_706 s_733; omega) | (clear h561 p_706 s_733; omega) | omega)) (by (first | (clear h561 h673 p_706 s_733; omega) | (clear h561 p_706 s_733; omega) | omega)) (by (first | (clear h561 h673 p_706 s_733; omega) | (clear h561 p_706 s_733; omega) | omega))).trans (g_v (by (first | (clear h561 h673 p_706 s_733; omega) | (clear h561 p_706 s_733; omega) | omega)) (by (first | (clear h561 h673 p_706 s_733; omega) | (clear h561 p_706 s_733; omega) | omega)) (by (first | (clear h561 h673 p_706 s_733; omega) | (clear h561 p_706 s_733; omega) | omega)) rfl (by (first | (clear h561 h673 p_706 s_733; omega) | (clear h561 p_706 s_733; omega) | omega)))⟩) (fun z => absurd z (by decide))
        · refine to_an (pc := 9) rw_224_9 rfl ?_
          refine to_c (pc := 10) rw_224_10 (x := (2 : Int32)) rfl rfl ?_
          refine s_v (pc := 11) rw_224_11 (dp1 hd (by decide)) (ls0 := [.ref 77, .int (2 : Int32)]) rfl (Nat.le_of_ble_eq_true rfl) (Nat.le_of_ble_eq_true rfl) rfl (to_rc rfl rfl rfl (g_o hG rfl)) rfl ?_
          refine to_an (pc := 0) rw_152_0 rfl ?_
          refine to_in (pc := 1) rw_152_1 rfl ?_
          refine s_pI (pc := 2) rw_152_2 hG rfl (fun M735 W734 => ?_)
          have hG736 := g_wf hG W734 rfl rfl (by decide)
          have F737 := FR.w F0 W734 (show 77 = 77 ∧ (4 = 4 ∨ 4 = 5 ∨ 7 ≤ 4 ∧ 4 ≤ 10) ∨ 77 = 77 ∧ (4 = 59 ∨ 65 ≤ 4 ∧ 4 ≤ 69) ∨ 112 ≤ 77 ∧ 77 ≤ 114 ∧ 40 ≤ 4 ∨ 77 = 115 ∨ 77 = 116 by decide)
          refine to_an (pc := 5) rw_152_5 rfl ?_
          refine to_an (pc := 6) rw_152_6 rfl ?_
          have c_738 : M735.2.1 77 10 = (M.2.1 77 10) := (W_n W734 (by decide) rfl)
          refine tt_gI (pc := 7) rw_152_7 (g_o hG736 rfl) (v := (M.2.1 77 10)) c_738 ?_
          refine s_pI (pc := 10) rw_152_10 hG736 rfl (fun M740 W739 => ?_)
          have hG741 := g_wf hG736 W739 rfl rfl (by decide)
          have F742 := FR.w F737 W739 (show 77 = 77 ∧ (5 = 4 ∨ 5 = 5 ∨ 7 ≤ 5 ∧ 5 ≤ 10) ∨ 77 = 77 ∧ (5 = 59 ∨ 65 ≤ 5 ∧ 5 ≤ 69) ∨ 112 ≤ 77 ∧ 77 ≤ 114 ∧ 40 ≤ 5 ∨ 77 = 115 ∨ 77 = 116 by decide)
          refine to_c (pc := 13) rw_152_13 (x := (0 : Int32)) rfl rfl ?_
          refine s_r1 (pc := 14) rw_152_14 (A := 0) rfl (by decide) ?_
          refine s_r1 (pc := 14) rw_224_14 (A := 0) rfl (by decide) ?_
          refine b_ine_f (pc := 73) rw_225_73 (A := 0) rfl (by decide) ?_
          refine to_c (pc := 76) rw_225_76 (x := (0 : Int32)) rfl rfl ?_
          refine s_r1 (pc := 77) rw_225_77 (A := 0) rfl (by decide) ?_
          have k_743 : (0 : Int32).toInt = 0 := rfl
          have c_744 : M740.2.1 77 7 = (M.2.1 77 7) := (W_n W739 (by decide) (W_n W734 (by decide) rfl))
          have t_745 : (M740.2.1 77 7).toInt = (M.2.1 77 7).toInt := congrArg Int32.toInt c_744
          have c_746 : M740.2.1 77 6 = (M.2.1 77 6) := (W_n W739 (by decide) (W_n W734 (by decide) rfl))
          have t_747 : (M740.2.1 77 6).toInt = (M.2.1 77 6).toInt := congrArg Int32.toInt c_746
          have c_748 : M740.2.1 77 4 = (2 : Int32) := (W_n W739 (by decide) (W_e W734))
          have k_749 : (2 : Int32).toInt = 2 := rfl
          have t_750 : (M740.2.1 77 4).toInt = (2 : Int32).toInt := congrArg Int32.toInt c_748
          have c_751 : M740.2.1 77 5 = (M.2.1 77 10) := (W_e W739)
          have t_752 : (M740.2.1 77 5).toInt = (M.2.1 77 10).toInt := congrArg Int32.toInt c_751
          have c_753 : M740.2.1 77 67 = (M.2.1 77 67) := (W_n W739 (by decide) (W_n W734 (by decide) rfl))
          have t_754 : (M740.2.1 77 67).toInt = (M.2.1 77 67).toInt := congrArg Int32.toInt c_753
          have c_755 : M740.2.1 77 69 = (M.2.1 77 69) := (W_n W739 (by decide) (W_n W734 (by decide) rfl))
          have t_756 : (M740.2.1 77 69).toInt = (M.2.1 77 69).toInt := congrArg Int32.toInt c_755
          exact h (0 : Int32) M740 hG741 F742 (by decide) (by decide) (by (first | (clear h561; omega) | omega)) (by (first | (clear h561; omega) | omega)) (fun z => absurd z (by decide)) (by (first | (clear h561; omega) | omega)) (fun z => absurd z (by (first | (clear h561; omega) | omega))) (fun z => absurd z (by decide)) (fun z => absurd z (by decide)) (fun z => absurd z (by decide)) (fun _ => ginl (by (first | (clear h561; omega) | omega)) (by (first | (clear h561; omega) | omega)) (g_nox (by (first | (clear h561; omega) | omega)) (by (first | (clear h561; omega) | omega)) (by (first | (clear h561; omega) | omega)) (by (first | (clear h561; omega) | omega))))
  · refine to_an (pc := 8) rw_159_8 rfl ?_
    refine tt_gI (pc := 9) rw_159_9 (g_o hG rfl) (v := (M.2.1 77 9)) rfl ?_
    refine to_in (pc := 12) rw_159_12 rfl ?_
    refine b_cne (pc := 13) rw_159_13 (A := (M.2.1 77 9).toInt) (B := 40) rfl rfl (fun h757 => ?_) (fun h757 => ?_)
    · refine to_c (pc := 20) rw_159_20 (x := (0 : Int32)) rfl rfl ?_
      refine s_r1 (pc := 21) rw_159_21 (A := 0) rfl (by decide) ?_
      refine b_ieq_t (pc := 6) rw_225_6 (A := 0) rfl (by decide) ?_
      have z_758 := RS_4 q5 (a := a) (by (first | (clear h757; omega) | omega)) (by (first | (clear h757; omega) | omega))
      refine to_an (pc := 60) rw_225_60 rfl ?_
      refine to_c (pc := 61) rw_225_61 (x := (14 : Int32)) rfl rfl ?_
      refine s_v (pc := 63) rw_225_63 (dp0 hd (by decide)) (ls0 := [.ref 77, .int (14 : Int32)]) rfl (Nat.le_of_ble_eq_true rfl) (Nat.le_of_ble_eq_true rfl) rfl (to_rc rfl rfl rfl (g_o hG rfl)) rfl ?_
      refine to_an (pc := 0) rw_158_0 rfl ?_
      refine tt_gI (pc := 1) rw_158_1 (g_o hG rfl) (v := (M.2.1 77 8)) rfl ?_
      refine to_c (pc := 4) rw_158_4 (x := (1 : Int32)) rfl rfl ?_
      refine b_cne_t (pc := 5) rw_158_5 (A := (M.2.1 77 8).toInt) (B := 1) rfl rfl (by (first | (clear h757; omega) | omega)) ?_
      refine to_c (pc := 20) rw_158_20 (x := (0 : Int32)) rfl rfl ?_
      refine s_r1 (pc := 21) rw_158_21 (A := 0) rfl (by decide) ?_
      refine b_ieq_t (pc := 66) rw_225_66 (A := 0) rfl (by decide) ?_
      refine to_an (pc := 104) rw_225_104 rfl ?_
      refine tt_gI (pc := 105) rw_225_105 (g_o hG rfl) (v := (M.2.1 77 8)) rfl ?_
      refine to_c (pc := 108) rw_225_108 (x := (2 : Int32)) rfl rfl ?_
      refine b_ceq_f (pc := 109) rw_225_109 (A := (M.2.1 77 8).toInt) (B := 2) rfl rfl (by (first | (clear h757; omega) | omega)) ?_
      refine to_an (pc := 112) rw_225_112 rfl ?_
      refine to_c (pc := 113) rw_225_113 (x := (1 : Int32)) rfl rfl ?_
      refine s_v (pc := 114) rw_225_114 (dp0 hd (by decide)) (ls0 := [.ref 77, .int (1 : Int32)]) rfl (Nat.le_of_ble_eq_true rfl) (Nat.le_of_ble_eq_true rfl) rfl (to_rc rfl rfl rfl (g_o hG rfl)) rfl ?_
      refine to_an (pc := 0) rw_152_0 rfl ?_
      refine to_in (pc := 1) rw_152_1 rfl ?_
      refine s_pI (pc := 2) rw_152_2 hG rfl (fun M760 W759 => ?_)
      have hG761 := g_wf hG W759 rfl rfl (by decide)
      have F762 := FR.w F0 W759 (show 77 = 77 ∧ (4 = 4 ∨ 4 = 5 ∨ 7 ≤ 4 ∧ 4 ≤ 10) ∨ 77 = 77 ∧ (4 = 59 ∨ 65 ≤ 4 ∧ 4 ≤ 69) ∨ 112 ≤ 77 ∧ 77 ≤ 114 ∧ 40 ≤ 4 ∨ 77 = 115 ∨ 77 = 116 by decide)
      refine to_an (pc := 5) rw_152_5 rfl ?_
      refine to_an (pc := 6) rw_152_6 rfl ?_
      have c_763 : M760.2.1 77 10 = (M.2.1 77 10) := (W_n W759 (by decide) rfl)
      refine tt_gI (pc := 7) rw_152_7 (g_o hG761 rfl) (v := (M.2.1 77 10)) c_763 ?_
      refine s_pI (pc := 10) rw_152_10 hG761 rfl (fun M765 W764 => ?_)
      have hG766 := g_wf hG761 W764 rfl rfl (by decide)
      have F767 := FR.w F762 W764 (show 77 = 77 ∧ (5 = 4 ∨ 5 = 5 ∨ 7 ≤ 5 ∧ 5 ≤ 10) ∨ 77 = 77 ∧ (5 = 59 ∨ 65 ≤ 5 ∧ 5 ≤ 69) ∨ 112 ≤ 77 ∧ 77 ≤ 114 ∧ 40 ≤ 5 ∨ 77 = 115 ∨ 77 = 116 by decide)
      refine to_c (pc := 13) rw_152_13 (x := (0 : Int32)) rfl rfl ?_
      refine s_r1 (pc := 14) rw_152_14 (A := 0) rfl (by decide) ?_
      refine s_r1 (pc := 117) rw_225_117 (A := 0) rfl (by decide) ?_
      have k_768 : (0 : Int32).toInt = 0 := rfl
      have c_769 : M765.2.1 77 7 = (M.2.1 77 7) := (W_n W764 (by decide) (W_n W759 (by decide) rfl))
      have t_770 : (M765.2.1 77 7).toInt = (M.2.1 77 7).toInt := congrArg Int32.toInt c_769
      have c_771 : M765.2.1 77 6 = (M.2.1 77 6) := (W_n W764 (by decide) (W_n W759 (by decide) rfl))
      have t_772 : (M765.2.1 77 6).toInt = (M.2.1 77 6).toInt := congrArg Int32.toInt c_771
      have c_773 : M765.2.1 77 4 = (1 : Int32) := (W_n W764 (by decide) (W_e W759))
      have k_774 : (1 : Int32).toInt = 1 := rfl
      have t_775 : (M765.2.1 77 4).toInt = (1 : Int32).toInt := congrArg Int32.toInt c_773
      have c_776 : M765.2.1 77 5 = (M.2.1 77 10) := (W_e W764)
      have t_777 : (M765.2.1 77 5).toInt = (M.2.1 77 10).toInt := congrArg Int32.toInt c_776
      have c_778 : M765.2.1 77 67 = (M.2.1 77 67) := (W_n W764 (by decide) (W_n W759 (by decide) rfl))
      have t_779 : (M765.2.1 77 67).toInt = (M.2.1 77 67).toInt := congrArg Int32.toInt c_778
      have c_780 : M765.2.1 77 69 = (M.2.1 77 69) := (W_n W764 (by decide) (W_n W759 (by decide) rfl))
      have t_781 : (M765.2.1 77 69).toInt = (M.2.1 77 69).toInt := congrArg Int32.toInt c_780
      exact h (0 : Int32) M765 hG766 F767 (by decide) (by decide) (by (first | (clear h757; omega) | omega)) (by (first | (clear h757; omega) | omega)) (fun z => absurd z (by decide)) (by (first | (clear h757; omega) | omega)) (fun z => absurd z (by (first | (clear h757; omega) | omega))) (fun z => absurd z (by decide)) (fun z => absurd z (by decide)) (fun z => absurd z (by decide)) (fun _ => ginl (by (first | (clear h757; omega) | omega)) (by (first | (clear h757; omega) | omega)) (g_0x (by (first | (clear h757; omega) | omega)) (by (first | (clear h757; omega) | omega)) (by (first | (clear h757; omega) | omega)) (by (first | (clear h757; omega) | omega)) (by (first | (clear h757; omega) | omega))))
    · refine to_c (pc := 16) rw_159_16 (x := (1 : Int32)) rfl rfl ?_
      refine to_go (pc := 17) rw_159_17 ?_
      refine s_r1 (pc := 21) rw_159_21 (A := 1) rfl (by decide) ?_
      refine b_ieq_f (pc := 6) rw_225_6 (A := 1) rfl (by decide) ?_
      have z_782 := RS_4 q5 (a := a) (by omega) (by omega)
      refine to_an (pc := 9) rw_225_9 rfl ?_
      refine tt_gI (pc := 10) rw_225_10 (g_o hG rfl) (v := (M.2.1 77 67)) rfl ?_
      refine to_c (pc := 13) rw_225_13 (x := (8 : Int32)) rfl rfl ?_
      refine b_cne (pc := 15) rw_225_15 (A := (M.2.1 77 67).toInt) (B := 8) rfl rfl (fun h783 => ?_) (fun h783 => ?_)
      · refine to_an (pc := 24) rw_225_24 rfl ?_
        refine to_dupr (pc := 25) rw_225_25 ?_
        refine tt_gI (pc := 26) rw_225_26 (g_o hG rfl) (v := (M.2.1 77 67)) rfl ?_
        refine to_c (pc := 29) rw_225_29 (x := (1 : Int32)) rfl rfl ?_
        refine s_add (pc := 30) rw_225_30 (A := (M.2.1 77 67).toInt) (B := 1) rfl rfl (by (first | (clear h783; omega) | omega)) (fun v784 e785 => ?_)
        refine s_pI (pc := 31) rw_225_31 hG rfl (fun M787 W786 => ?_)
        have hG788 := g_w hG W786 (A := v784.toInt) rfl (lo := 0) (hi := 8) rfl rfl (by (first | (clear h783; omega) | omega)) (by decide)
        have F789 := FR.w F0 W786 (show 77 = 77 ∧ (67 = 4 ∨ 67 = 5 ∨ 7 ≤ 67 ∧ 67 ≤ 10) ∨ 77 = 77 ∧ (67 = 59 ∨ 65 ≤ 67 ∧ 67 ≤ 69) ∨ 112 ≤ 77 ∧ 77 ≤ 114 ∧ 40 ≤ 67 ∨ 77 = 115 ∨ 77 = 116 by decide)
        refine to_an (pc := 34) rw_225_34 rfl ?_
        refine s_gR (pc := 35) rw_225_35 hG788 rfl (v := 115) rfl ?_
        refine to_an (pc := 38) rw_225_38 rfl ?_
        have c_790 : M787.2.1 77 65 = (M.2.1 77 65) := (W_n W786 (by decide) rfl)
        refine tt_gI (pc := 39) rw_225_39 (g_o hG788 rfl) (v := (M.2.1 77 65)) c_790 ?_
        refine to_c (pc := 42) rw_225_42 (x := (0 : Int32)) rfl rfl ?_
        refine s_ias (pc := 43) rw_225_43 hG788 rfl (n := 64) rfl (A := (M.2.1 77 65).toInt) rfl (by (first | (clear h783; omega) | omega)) (by (first | (clear h783; omega) | omega)) (fun M792 W791 => ?_)
        have hG793 := g_w hG788 W791 (A := 0) rfl (lo := 0) (hi := 4) rfl rfl (by (first | (clear h783; omega) | omega)) (by decide)
        have F794 := FR.w F789 W791 (show 115 = 77 ∧ (((M.2.1 77 65).toInt).toNat = 4 ∨ ((M.2.1 77 65).toInt).toNat = 5 ∨ 7 ≤ ((M.2.1 77 65).toInt).toNat ∧ ((M.2.1 77 65).toInt).toNat ≤ 10) ∨ 115 = 77 ∧ (((M.2.1 77 65).toInt).toNat = 59 ∨ 65 ≤ ((M.2.1 77 65).toInt).toNat ∧ ((M.2.1 77 65).toInt).toNat ≤ 69) ∨ 112 ≤ 115 ∧ 115 ≤ 114 ∧ 40 ≤ ((M.2.1 77 65).toInt).toNat ∨ 115 = 115 ∨ 115 = 116 by (first | (clear h783; omega) | omega))
        refine to_an (pc := 44) rw_225_44 rfl ?_
        refine to_dupr (pc := 45) rw_225_45 ?_
        have c_795 : M792.2.1 77 65 = (M.2.1 77 65) := (W_n W791 (fun z => absurd z.1 (by decide)) c_790)
        refine tt_gI (pc := 46) rw_225_46 (g_o hG793 rfl) (v := (M.2.1 77 65)) c_795 ?_
        refine to_c (pc := 49) rw_225_49 (x := (1 : Int32)) rfl rfl ?_
        refine s_add (pc := 50) rw_225_50 (A := (M.2.1 77 65).toInt) (B := 1) rfl rfl (by (first | (clear h783; omega) | omega)) (fun v796 e797 => ?_)
        refine s_pI (pc := 51) rw_225_51 hG793 rfl (fun M799 W798 => ?_)
        have hG800 := g_w hG793 W798 (A := v796.toInt) rfl (lo := 0) (hi := 48) rfl rfl (by (first | (clear h783; omega) | omega)) (by decide)
        have F801 := FR.w F794 W798 (show 77 = 77 ∧ (65 = 4 ∨ 65 = 5 ∨ 7 ≤ 65 ∧ 65 ≤ 10) ∨ 77 = 77 ∧ (65 = 59 ∨ 65 ≤ 65 ∧ 65 ≤ 69) ∨ 112 ≤ 77 ∧ 77 ≤ 114 ∧ 40 ≤ 65 ∨ 77 = 115 ∨ 77 = 116 by decide)
        refine to_an (pc := 54) rw_225_54 rfl ?_
        refine s_v (pc := 55) rw_225_55 (dp0 hd (by decide)) (ls0 := [.ref 77]) rfl (Nat.le_of_ble_eq_true rfl) (Nat.le_of_ble_eq_true rfl) rfl (to_rc rfl rfl rfl (g_o hG800 rfl)) rfl ?_
        have c_802 : M799.2.1 77 7 = (M.2.1 77 7) := (W_n W798 (by decide) (W_n W791 (fun z => absurd z.1 (by decide)) (W_n W786 (by decide) rfl)))
        have t_803 : (M799.2.1 77 7).toInt = (M.2.1 77 7).toInt := congrArg Int32.toInt c_802
        have c_804 : M799.2.1 77 6 = (M.2.1 77 6) := (W_n W798 (by decide) (W_n W791 (fun z => absurd z.1 (by decide)) (W_n W786 (by decide) rfl)))
        have t_805 : (M799.2.1 77 6).toInt = (M.2.1 77 6).toInt := congrArg Int32.toInt c_804
        have c_806 : M799.2.1 77 10 = (M.2.1 77 10) := (W_n W798 (by decide) (W_n W791 (fun z => absurd z.1 (by decide)) (W_n W786 (by decide) rfl)))
        have t_807 : (M799.2.1 77 10).toInt = (M.2.1 77 10).toInt := congrArg Int32.toInt c_806
        have j_808 := (RS_f (fun a i z => W_n W798 (tg_148 a i z) rfl) (RS_f (fun a i z => W_n W791 (tg_154 a i _ z) rfl) (RS_f (fun a i z => W_n W786 (tg_147 a i z) rfl) q5)))
        have z_809 := RS_b j_808 (a := a) (by (first | (clear h783; omega) | omega))
        have j_810 := (TR_f (fun a i z => W_n W798 (tg_150 a i z) rfl) (TR_f (fun a i z => W_n W791 (tg_157 a i _ z) rfl) (TR_f (fun a i z => W_n W786 (tg_149 a i z) rfl) q9)))
        have j_811 := (W9_f (fun a i z => W_n W798 (tg_152 a i z) rfl) (W9_f (fun a i z => W_n W791 (tg_160 a i _ z) rfl) (W9_f (fun a i z => W_n W786 (tg_151 a i z) rfl) q10)))
        refine E_156 hX (dp1 hd (by decide)) hG800 (by (first | (clear h783; omega) | omega)) (by (first | (clear h783; omega) | omega)) (by (first | (clear h783; omega) | omega)) (by (first | (clear h783; omega) | omega)) j_810 j_811  (fun M818 hG813 F812 p_814 p_815 p_816 p_817 => ?_)
        have F819 := FR.c F801 F812 tg_146
        have b_820 := g_b hG813 (a := 77) (i := 7) (lo := 0) (hi := 500) rfl rfl
        have c_821 : M818.2.1 77 6 = (M.2.1 77 6) := (F_n F812 (show ¬ (77 = 77 ∧ 7 ≤ 6 ∧ 6 ≤ 10) by decide) c_804)
        have t_822 : (M818.2.1 77 6).toInt = (M.2.1 77 6).toInt := congrArg Int32.toInt c_821
        have b_823 := g_b hG813 (a := 77) (i := 8) (lo := 0) (hi := 5) rfl rfl
        have b_824 := g_b hG813 (a := 77) (i := 10) (lo := 0) (hi := 500) rfl rfl
        have z_825 := RS_s p_817.2 (a := a) (by (first | (clear h783 p_816; omega) | (clear p_816; omega) | omega))
        refine to_c (pc := 58) rw_225_58 (x := (1 : Int32)) rfl rfl ?_
        refine s_r1 (pc := 59) rw_225_59 (A := 1) rfl (by decide) ?_
        have k_826 : (1 : Int32).toInt = 1 := rfl
        have c_827 : M818.2.1 77 59 = (M.2.1 77 59) := (F_n F812 (show ¬ (77 = 77 ∧ 7 ≤ 59 ∧ 59 ≤ 10) by decide) (W_n W798 (by decide) (W_n W791 (fun z => absurd z.1 (by decide)) (W_n W786 (by decide) rfl))))
        have t_828 : (M818.2.1 77 59).toInt = (M.2.1 77 59).toInt := congrArg Int32.toInt c_827
        have c_829 : M818.2.1 77 65 = v796 := (F_n F812 (show ¬ (77 = 77 ∧ 7 ≤ 65 ∧ 65 ≤ 10) by decide) (W_e W798))
        have t_830 : (M818.2.1 77 65).toInt = v796.toInt := congrArg Int32.toInt c_829
        have c_831 : M818.2.1 77 66 = (M.2.1 77 66) := (F_n F812 (show ¬ (77 = 77 ∧ 7 ≤ 66 ∧ 66 ≤ 10) by decide) (W_n W798 (by decide) (W_n W791 (fun z => absurd z.1 (by decide)) (W_n W786 (by decide) rfl))))
        have t_832 : (M818.2.1 77 66).toInt = (M.2.1 77 66).toInt := congrArg Int32.toInt c_831
        have c_833 : M818.2.1 77 67 = v784 := (F_n F812 (show ¬ (77 = 77 ∧ 7 ≤ 67 ∧ 67 ≤ 10) by decide) (W_n W798 (by decide) (W_n W791 (fun z => absurd z.1 (by decide)) (W_e W786))))
        have t_834 : (M818.2.1 77 67).toInt = v784.toInt := congrArg Int32.toInt c_833
        have c_835 : M818.2.1 77 68 = (M.2.1 77 68) := (F_n F812 (show ¬ (77 = 77 ∧ 7 ≤ 68 ∧ 68 ≤ 10) by decide) (W_n W798 (by decide) (W_n W791 (fun z => absurd z.1 (by decide)) (W_n W786 (by decide) rfl))))
        have t_836 : (M818.2.1 77 68).toInt = (M.2.1 77 68).toInt := congrArg Int32.toInt c_835
        have c_837 : M818.2.1 77 69 = (M.2.1 77 69) := (F_n F812 (show ¬ (77 = 77 ∧ 7 ≤ 69 ∧ 69 ≤ 10) by decide) (W_n W798 (by decide) (W_n W791 (fun z => absurd z.1 (by decide)) (W_n W786 (by decide) rfl))))
        have t_838 : (M818.2.1 77 69).toInt = (M.2.1 77 69).toInt := congrArg Int32.toInt c_837
        have k_840 : (0 : Int32).toInt = 0 := rfl
        have s_841 := Wx_f (M := M) (M1 := M818) ((M.2.1 77 65).toInt).toNat (fun i z => (F_n F812 (show ¬ (115 = 77 ∧ 7 ≤ i ∧ i ≤ 10) by (first | (clear h783 p_816; omega) | (clear p_816; omega) | omega)) (W_n W798 (by (first | (clear h783 p_816; omega) | (clear p_816; omega) | omega)) (W_n W791 (by (first | (clear h783 p_816; omega) | (clear p_816; omega) | omega)) (W_n W786 (by (first | (clear h783 p_816; omega) | (clear p_816; omega) | omega)) rfl)))))
        have s_842 : (M818.2.1 115 ((M.2.1 77 65).toInt).toNat).toInt = (0 : Int32).toInt := by rw [show ((M.2.1 77 65).toInt).toNat = ((M.2.1 77 65).toInt).toNat by (first | (clear h783 p_816; omega) | (clear p_816; omega) | omega)]; exact congrArg Int32.toInt (F_n F812 (show ¬ (115 = 77 ∧ 7 ≤ (((M.2.1 77 65).toInt).toNat) ∧ (((M.2.1 77 65).toInt).toNat) ≤ 10) by (first | (clear h783 p_816; omega) | (clear p_816; omega) | omega)) (W_n W798 (by (first | (clear h783 p_816; omega) | (clear p_816; omega) | omega)) (W_e W791)))
        have s_843 := Wx_s M818 ((M.2.1 77 65).toInt).toNat
        have j_839 : QK M818 := QK_i (by unfold QK_c; rw [show ((M818.2.1 77 65).toInt).toNat = ((M.2.1 77 65).toInt).toNat + 1 by (first | (clear h783 p_816 s_843; omega) | (clear p_816 s_843; omega) | omega)]; refine ⟨by (first | (clear h783 p_816 s_843; omega) | (clear p_816 s_843; omega) | omega), by (first | (clear h783 p_816 s_843; omega) | (clear p_816 s_843; omega) | omega), by (first | (clear h783 p_816 s_843; omega) | (clear p_816 s_843; omega) | omega), by (first | (clear h783 p_816 s_843; omega) | (clear p_816 s_843; omega) | omega)⟩) (fun i z => by
            by_cases ei : i = ((M.2.1 77 65).toInt).toNat
            · rw [ei]; omega
            · rw [(F_n F812 (show ¬ (115 = 77 ∧ 7 ≤ i ∧ i ≤ 10) by (first | (clear h783 p_816 s_843; omega) | (clear p_816 s_843; omega) | omega)) (W_n W798 (by (first | (clear h783 p_816 s_843; omega) | (clear p_816 s_843; omega) | omega)) (W_n W791 (by (first | (clear h783 p_816 s_843; omega) | (clear p_816 s_843; omega) | omega)) (W_n W786 (by (first | (clear h783 p_816 s_843; omega) | (clear p_816 s_843; omega) | omega)) rfl))))]; exact q2.2.1 i (by (first | (clear h783 p_816 s_843; omega) | (clear p_816 s_843; omega) | omega))) (by rw [(F_n F812 (show ¬ (77 = 77 ∧ 7 ≤ 59 ∧ 59 ≤ 10) by decide) (W_n W798 (by (first | (clear h783 p_816 s_843; omega) | (clear p_816 s_843; omega) | omega)) (W_n W791 (by (first | (clear h783 p_816 s_843; omega) | (clear p_816 s_843; omega) | omega)) (W_n W786 (by (first | (clear h783 p_816 s_843; omega) | (clear p_816 s_843; omega) | omega)) rfl))))]; exact KN_f (fun a i z => (F_n F812 (show ¬ (a = 77 ∧ 7 ≤ i ∧ i ≤ 10) by (first | (clear h783 p_816 s_843; omega) | (clear p_816 s_843; omega) | omega)) (W_n W798 (by (first | (clear h783 p_816 s_843; omega) | (clear p_816 s_843; omega) | omega)) (W_n W791 (by (first | (clear h783 p_816 s_843; omega) | (clear p_816 s_843; omega) | omega)) (W_n W786 (by (first | (clear h783 p_816 s_843; omega) | (clear p_816 s_843; omega) | omega)) rfl))))) q2.2.2)
        exact h (1 : Int32) M818 hG813 F819 (by decide) (by decide) (by (first | (clear h783 p_816 s_843; omega) | (clear p_816 s_843; omega) | omega)) (by (first | (clear h783 p_816 s_843; omega) | (clear p_816 s_843; omega) | omega)) (fun _ => Or.imp (fun z => by (first | (clear h783 p_816 s_843; omega) | (clear p_816 s_843; omega) | omega)) (fun z => by (first | (clear h783 p_816 s_843; omega) | (clear p_816 s_843; omega) | omega)) p_816) (by (first | (clear h783 p_816 s_843; omega) | (clear p_816 s_843; omega) | omega)) (fun _ => j_839) (fun _ => by rw [show ((M818.2.1 77 65).toInt).toNat = ((M.2.1 77 65).toInt).toNat + 1 by (first | (clear h783 p_816 s_843; omega) | (clear p_816 s_843; omega) | omega)]; (first | (clear h783 p_816 s_843; omega) | (clear p_816 s_843; omega) | omega)) (fun _ => p_817.1) (fun _ => ⟨0 :: Wl9, P9, (GST_p q13 (j := ((M.2.1 77 65).toInt).toNat) (by (first | (clear h783 p_816 s_843; omega) | (clear p_816 s_843; omega) | omega)) (fun i hi => (F_n F812 (show ¬ (115 = 77 ∧ 7 ≤ i ∧ i ≤ 10) by (first | (clear h783 p_816 s_843; omega) | (clear p_816 s_843; omega) | omega)) (W_n W798 (by (first | (clear h783 p_816 s_843; omega) | (clear p_816 s_843; omega) | omega)) (W_n W791 (by (first | (clear h783 p_816 s_843; omega) | (clear p_816 s_843; omega) | omega)) (W_n W786 (by (first | (clear h783 p_816 s_843; omega) | (clear p_816 s_843; omega) | omega)) rfl))))) ((F_n F812 (show ¬ (115 = 77 ∧ 7 ≤ (((M.2.1 77 65).toInt).toNat) ∧ (((M.2.1 77 65).toInt).toNat) ≤ 10) by (first | (clear h783 p_816 s_843; omega) | (clear p_816 s_843; omega) | omega)) (W_n W798 (by (first | (clear h783 p_816 s_843; omega) | (clear p_816 s_843; omega) | omega)) (W_e W791)))) (show (0 : Int32).toInt = 0 from rfl) (fun a i z => (F_n F812 (show ¬ (a = 77 ∧ 7 ≤ i ∧ i ≤ 10) by (first | (clear h783 p_816 s_843; omega) | (clear p_816 s_843; omega) | omega)) (W_n W798 (by (first | (clear h783 p_816 s_843; omega) | (clear p_816 s_843; omega) | omega)) (W_n W791 (by (first | (clear h783 p_816 s_843; omega) | (clear p_816 s_843; omega) | omega)) (W_n W786 (by (first | (clear h783 p_816 s_843; omega) | (clear p_816 s_843; omega) | omega)) rfl))))) (by (first | (clear h783 p_816 s_843; omega) | (clear p_816 s_843; omega) | omega))), (g_lp (by (first | (clear h783 p_816 s_843; omega) | (clear p_816 s_843; omega) | omega)) (by (first | (clear h783 p_816 s_843; omega) | (clear p_816 s_843; omega) | omega)) (by (first | (clear h783 p_816 s_843; omega) | (clear p_816 s_843; omega) | omega)) (by (first | (clear h783 p_816 s_843; omega) | (clear p_816 s_843; omega) | omega))).trans (g_v (by (first | (clear h783 p_816 s_843; omega) | (clear p_816 s_843; omega) | omega)) (by (first | (clear h783 p_816 s_843; omega) | (clear p_816 s_843; omega) | omega)) (by (first | (clear h783 p_816 s_843; omega) | (clear p_816 s_843; omega) | omega)) rfl (by (first | (clear h783 p_816 s_843; omega) | (clear p_816 s_843; omega) | omega)))⟩) (fun z => absurd z (by decide))
      · refine to_an (pc := 18) rw_225_18 rfl ?_
        refine to_c (pc := 19) rw_225_19 (x := (2 : Int32)) rfl rfl ?_
        refine s_v (pc := 20) rw_225_20 (dp0 hd (by decide)) (ls0 := [.ref 77, .int (2 : Int32)]) rfl (Nat.le_of_ble_eq_true rfl) (Nat.le_of_ble_eq_true rfl) rfl (to_rc rfl rfl rfl (g_o hG rfl)) rfl ?_
        refine to_an (pc := 0) rw_152_0 rfl ?_
        refine to_in (pc := 1) rw_152_1 rfl ?_
        refine s_pI (pc := 2) rw_152_2 hG rfl (fun M845 W844 => ?_)
        have hG846 := g_wf hG W844 rfl rfl (by decide)
        have F847 := FR.w F0 W844 (show 77 = 77 ∧ (4 = 4 ∨ 4 = 5 ∨ 7 ≤ 4 ∧ 4 ≤ 10) ∨ 77 = 77 ∧ (4 = 59 ∨ 65 ≤ 4 ∧ 4 ≤ 69) ∨ 112 ≤ 77 ∧ 77 ≤ 114 ∧ 40 ≤ 4 ∨ 77 = 115 ∨ 77 = 116 by decide)
        refine to_an (pc := 5) rw_152_5 rfl ?_
        refine to_an (pc := 6) rw_152_6 rfl ?_
        have c_848 : M845.2.1 77 10 = (M.2.1 77 10) := (W_n W844 (by decide) rfl)
        refine tt_gI (pc := 7) rw_152_7 (g_o hG846 rfl) (v := (M.2.1 77 10)) c_848 ?_
        refine s_pI (pc := 10) rw_152_10 hG846 rfl (fun M850 W849 => ?_)
        have hG851 := g_wf hG846 W849 rfl rfl (by decide)
        have F852 := FR.w F847 W849 (show 77 = 77 ∧ (5 = 4 ∨ 5 = 5 ∨ 7 ≤ 5 ∧ 5 ≤ 10) ∨ 77 = 77 ∧ (5 = 59 ∨ 65 ≤ 5 ∧ 5 ≤ 69) ∨ 112 ≤ 77 ∧ 77 ≤ 114 ∧ 40 ≤ 5 ∨ 77 = 115 ∨ 77 = 116 by decide)
        refine to_c (pc := 13) rw_152_13 (x := (0 : Int32)) rfl rfl ?_
        refine s_r1 (pc := 14) rw_152_14 (A := 0) rfl (by decide) ?_
        refine s_r1 (pc := 23) rw_225_23 (A := 0) rfl (by decide) ?_
        have k_853 : (0 : Int32).toInt = 0 := rfl
        have c_854 : M850.2.1 77 7 = (M.2.1 77 7) := (W_n W849 (by decide) (W_n W844 (by decide) rfl))
        have t_855 : (M850.2.1 77 7).toInt = (M.2.1 77 7).toInt := congrArg Int32.toInt c_854
        have c_856 : M850.2.1 77 6 = (M.2.1 77 6) := (W_n W849 (by decide) (W_n W844 (by decide) rfl))
        have t_857 : (M850.2.1 77 6).toInt = (M.2.1 77 6).toInt := congrArg Int32.toInt c_856
        have c_858 : M850.2.1 77 4 = (2 : Int32) := (W_n W849 (by decide) (W_e W844))
        have k_859 : (2 : Int32).toInt = 2 := rfl
        have t_860 : (M850.2.1 77 4).toInt = (2 : Int32).toInt := congrArg Int32.toInt c_858
        have c_861 : M850.2.1 77 5 = (M.2.1 77 10) := (W_e W849)
        have t_862 : (M850.2.1 77 5).toInt = (M.2.1 77 10).toInt := congrArg Int32.toInt c_861
        have c_863 : M850.2.1 77 67 = (M.2.1 77 67) := (W_n W849 (by decide) (W_n W844 (by decide) rfl))
        have t_864 : (M850.2.1 77 67).toInt = (M.2.1 77 67).toInt := congrArg Int32.toInt c_863
        have c_865 : M850.2.1 77 69 = (M.2.1 77 69) := (W_n W849 (by decide) (W_n W844 (by decide) rfl))
        have t_866 : (M850.2.1 77 69).toInt = (M.2.1 77 69).toInt := congrArg Int32.toInt c_865
        exact h (0 : Int32) M850 hG851 F852 (by decide) (by decide) (by omega) (by omega) (fun z => absurd z (by decide)) (by omega) (fun z => absurd z (by omega)) (fun z => absurd z (by decide)) (fun z => absurd z (by decide)) (fun z => absurd z (by decide)) (fun _ => ginl (by omega) (by omega) (g_lpx (by omega) (by omega) (by omega) (by omega)))
